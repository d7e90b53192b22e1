/-! ===== the model: copy ===== -/
def CpM (x i y j c : Int32) (μ : Mem) (r : Int32) (μ' : Mem) : Prop :=
  (¬ (isR x ∧ isR y) ∧ r = -1000001 ∧ μ' = th0 μ) ∨ (∃ n m, x = nI n ∧ n < 8 ∧ y = nI m ∧ m < 8 ∧
    (((μ 68 n = -1 ∨ μ 68 m = -1) ∧ r = -1000010 - 1 ∧ μ' = thS μ 1) ∨ (¬ (μ 68 n = -1 ∨ μ 68 m = -1) ∧ ¬ μ 68 n = μ 68 m ∧ r = -1000010 - 5 ∧ μ' = thS μ 5) ∨
     (¬ (μ 68 n = -1 ∨ μ 68 m = -1) ∧ μ 68 n = μ 68 m ∧ ¬ (lookS (μ 68) (μ 69) n i c = 0 ∧ lookS (μ 68) (μ 69) m j c = 0) ∧ r = -1000010 - 2 ∧ μ' = thS μ 2) ∨
     (¬ (μ 68 n = -1 ∨ μ 68 m = -1) ∧ μ 68 n = μ 68 m ∧ (lookS (μ 68) (μ 69) n i c = 0 ∧ lookS (μ 68) (μ 69) m j c = 0) ∧ r = c ∧ ∃ a b k, i = nI a ∧ j = nI b ∧ c = nI k ∧ a + k ≤ 40 ∧ b + k ≤ 40 ∧
       (∀ q, μ' 70 q = if 40 * m + b ≤ q ∧ q < 40 * m + b + k then μ 70 (40 * n + a + (q - (40 * m + b))) else μ 70 q) ∧ ∀ l, l ≠ 70 → μ' l = thS μ 0 l)))
set_option maxHeartbeats 2000000 in
theorem m_copy {μ : Mem} (hk : Rok (μ 68) (μ 69)) {x i y j c : Int32} : CtP yX10_copy cX10_copy 9 (some .int) 2 [vR 67, vI x, vI i, vI y, vI j, vI c] μ (Pi (CpM x i y j c μ)) := by
  refine CtP.go RX10 rfl pn_X10 (Nat.le_of_ble_eq_true rfl) (fun C hG hR => ?_)
  by_cases hr : isR x ∧ isR y
  · obtain ⟨n, hx, hn⟩ := hr.1.n
    obtain ⟨m, hy, hm⟩ := hr.2.n
    have rx : vp_in x 8 := in_nI hx hn (by decide)
    have ry : vp_in y 8 := in_nI hy hm (by decide)
    have cx : x.toNatClampNeg = n := nI_cl hx (by omega)
    have cy : y.toNatClampNeg = m := nI_cl hy (by omega)
    have s0 : setc (th0 μ) 67 (upd (th0 μ 67) 1 0) = thS μ 0 := thS_e μ 0
    have l68 : thS μ 0 68 = μ 68 := rfl
    have l69 : thS μ 0 69 = μ 69 := rfl
    have ltn := hk.lt hn
    have ltm := hk.lt hm
    obtain ⟨_, kn⟩ := hk n hn
    obtain ⟨_, km⟩ := hk m hm
    -- the loop, up or down
    have loop : ∀ a b k, ¬ (μ 68 n = -1 ∨ μ 68 m = -1) → μ 68 n = μ 68 m → (lookS (μ 68) (μ 69) n i c = 0 ∧ lookS (μ 68) (μ 69) m j c = 0) → i = nI a → j = nI b → c = nI k → a + k ≤ 40 → b + k ≤ 40 → ∀ u : Int32, ((u = 1 ∧ b ≤ a) ∨ (u = 0 ∧ a < b)) → ∀ d q M w, q + d = k → (∀ l, l ≠ 70 → M l = thS μ 0 l) →
        (∀ e, M 70 e = if (u = 1 ∧ 40 * m + b ≤ e ∧ e < 40 * m + b + q) ∨ (u = 0 ∧ 40 * m + b + (k - q) ≤ e ∧ e < 40 * m + b + k) then μ 70 (40 * n + a + (e - (40 * m + b))) else μ 70 e) → w = [(0, vR 67), (1, vI x), (2, vI i), (3, vI y), (4, vI j), (5, vI c), (6, vI u), (7, vI (nI q))] → V C 143 w [] M := by
      intro a b k g1 g2 g3 hi hj hc ha hb u hu d
      induction d with
      | zero =>
        intro q M w hq t1 t2 hw
        subst hw
        refine V_iload (pc := 143) hG (dk dd_X10_copy 84 rfl) rfl ?_
        refine V_iload (pc := 145) hG (dk dd_X10_copy 85 rfl) rfl ?_
        refine V_icmp_ge (pc := 147) hG (dk dd_X10_copy 86 rfl) (tgt := 204) (by decide) (fun h147 => ?_) (fun h147 => ?_)
        refine V_iload (pc := 204) hG (dk dd_X10_copy 119 rfl) rfl ?_
        refine V_iretP (pc := 206) hG (dk dd_X10_copy 120 rfl) hR (Pi.mk ?_)
        rotate_left
        rotate_left
        -- leaves: return@206; stop 150
        · refine Or.inr ⟨n, m, hx, hn, hy, hm, Or.inr (Or.inr (Or.inr ⟨g1, g2, g3, rfl, a, b, k, hi, hj, hc, ha, hb, fun e => ?_, t1⟩))⟩
          rw [t2 e]
          have eq : q = k := by omega
          by_cases z : 40 * m + b ≤ e ∧ e < 40 * m + b + k
          · rw [if_pos z, if_pos]
            rcases hu with ⟨h1, _⟩ | ⟨h1, _⟩
            · exact Or.inl ⟨h1, by omega, by omega⟩
            · exact Or.inr ⟨h1, by omega, by omega⟩
          · rw [if_neg z, if_neg (fun w => z (by rcases w with w | w <;> omega))]
        · exfalso; rw [hc] at h147; have := nle_i h147 (by omega) (by omega); omega
      | succ d ih =>
        intro q M w hq t1 t2 hw
        subst hw
        have step : ∀ p : Nat, ((u = 1 ∧ p = q) ∨ (u = 0 ∧ p + q + 1 = k)) → V C 167 [(0, vR 67), (1, vI x), (2, vI i), (3, vI y), (4, vI j), (5, vI c), (6, vI u), (7, vI (nI q))] [vI (nI p)] M := by
          intro p hp
          have pk : p < k := by rcases hp with h | h <;> omega
          have i1 : (40 : Int32) * y + j + nI p = nI (40 * m + b + p) := by rw [hy, hj, ix40, nI_add]
          have i2 : (40 : Int32) * x + i + nI p = nI (40 * n + a + p) := by rw [hx, hi, ix40, nI_add]
          have r1 : vp_in ((40 : Int32) * y + j + nI p) 320 := by rw [i1]; exact vp_in_nI (by omega) (by decide)
          have r2 : vp_in ((40 : Int32) * x + i + nI p) 320 := by rw [i2]; exact vp_in_nI (by omega) (by decide)
          -- what is read is still the old one
          have old : M 70 (40 * n + a + p) = μ 70 (40 * n + a + p) := by
            rw [t2, if_neg]
            intro w
            rcases hu with ⟨h1, h2⟩ | ⟨h1, h2⟩ <;> rcases w with ⟨w1, w2, w3⟩ | ⟨w1, w2, w3⟩
            · have : p = q := by rcases hp with h | h; exact h.2; exact absurd (h1.symm.trans h.1) (by decide)
              rcases Nat.lt_trichotomy n m with z | z | z <;> omega
            · exact absurd (h1.symm.trans w1) (by decide)
            · exact absurd (h1.symm.trans w1) (by decide)
            · have : p + q + 1 = k := by rcases hp with h | h; exact absurd (h1.symm.trans h.1) (by decide); exact h.2
              rcases Nat.lt_trichotomy n m with z | z | z <;> omega
          refine V_istore (pc := 167) hG (dk dd_X10_copy 96 rfl) (by decide) (lv' := [(0, _), (1, _), (2, _), (3, _), (4, _), (5, _), (6, _), (7, _), (8, _)]) rfl ?_
          refine V_aload_n (pc := 169) hG (dk dd_X10_copy 97 rfl) rfl ?_
          refine V_getR (pc := 170) hG (dk dd_X10_copy 98 rfl) fl_X10_16 sh_67 rfl ?_
          refine V_bipush (pc := 173) hG (dk dd_X10_copy 99 rfl) (v := 40) (by decide) ?_
          refine V_iload_n (pc := 175) hG (dk dd_X10_copy 100 rfl) rfl ?_
          refine V_imul (pc := 176) hG (dk dd_X10_copy 101 rfl) ?_
          refine V_iload (pc := 177) hG (dk dd_X10_copy 102 rfl) rfl ?_
          refine V_iadd (pc := 179) hG (dk dd_X10_copy 103 rfl) ?_
          refine V_iload (pc := 180) hG (dk dd_X10_copy 104 rfl) rfl ?_
          refine V_iadd (pc := 182) hG (dk dd_X10_copy 105 rfl) ?_
          refine V_aload_n (pc := 183) hG (dk dd_X10_copy 106 rfl) rfl ?_
          refine V_getR (pc := 184) hG (dk dd_X10_copy 107 rfl) fl_X10_16 sh_67 rfl ?_
          refine V_bipush (pc := 187) hG (dk dd_X10_copy 108 rfl) (v := 40) (by decide) ?_
          refine V_iload_n (pc := 189) hG (dk dd_X10_copy 109 rfl) rfl ?_
          refine V_imul (pc := 190) hG (dk dd_X10_copy 110 rfl) ?_
          refine V_iload_n (pc := 191) hG (dk dd_X10_copy 111 rfl) rfl ?_
          refine V_iadd (pc := 192) hG (dk dd_X10_copy 112 rfl) ?_
          refine V_iload (pc := 193) hG (dk dd_X10_copy 113 rfl) rfl ?_
          refine V_iadd (pc := 195) hG (dk dd_X10_copy 114 rfl) ?_
          refine V_iald (pc := 196) hG (dk dd_X10_copy 115 rfl) sh_70 r2 ?_
          refine V_iast (pc := 197) hG (dk dd_X10_copy 116 rfl) sh_70 r1 ?_
          refine V_iinc (pc := 198) hG (dk dd_X10_copy 117 rfl) rfl (v := _ + 1) rfl (by decide) (lv' := [(0, _), (1, _), (2, _), (3, _), (4, _), (5, _), (6, _), (7, _), (8, _)]) rfl ?_
          refine V_goto (pc := 201) hG (dk dd_X10_copy 118 rfl) (tgt := 143) (by decide) ?_
          refine V_keep [0, 1, 2, 3, 4, 5, 6, 7] (lv' := [(0, _), (1, _), (2, _), (3, _), (4, _), (5, _), (6, _), (7, _)]) rfl ?_
          rotate_left
          -- leaves: stop 143
          · rw [i1, i2, nI_clamp (by omega), nI_clamp (by omega), old]
            refine ih (q + 1) _ _ (by omega) (fun l hl => by rw [setc_n hl]; exact t1 l hl) (fun e => ?_) (by rw [nI_1])
            rw [setc_s]
            by_cases z : e = 40 * m + b + p
            · rw [z, upd_s, if_pos]
              · congr 1; omega
              · rcases hp with ⟨h1, h2⟩ | ⟨h1, h2⟩
                · exact Or.inl ⟨h1, by omega, by omega⟩
                · exact Or.inr ⟨h1, by omega, by omega⟩
            · rw [upd_n z, t2 e]
              congr 1
              refine propext ⟨fun w => ?_, fun w => ?_⟩
              · rcases w with ⟨w1, w2, w3⟩ | ⟨w1, w2, w3⟩
                · exact Or.inl ⟨w1, w2, by omega⟩
                · exact Or.inr ⟨w1, by omega, w3⟩
              · rcases w with ⟨w1, w2, w3⟩ | ⟨w1, w2, w3⟩
                · have : p = q := by rcases hp with h | h; exact h.2; exact absurd (w1.symm.trans h.1) (by decide)
                  exact Or.inl ⟨w1, w2, by omega⟩
                · have : p + q + 1 = k := by rcases hp with h | h; exact absurd (w1.symm.trans h.1) (by decide); exact h.2
                  exact Or.inr ⟨w1, by omega, w3⟩
        refine V_iload (pc := 143) hG (dk dd_X10_copy 84 rfl) rfl ?_
        refine V_iload (pc := 145) hG (dk dd_X10_copy 85 rfl) rfl ?_
        refine V_icmp_ge (pc := 147) hG (dk dd_X10_copy 86 rfl) (tgt := 204) (by decide) (fun h147 => ?_) (fun h147 => ?_)
        rotate_left
        refine V_iload (pc := 150) hG (dk dd_X10_copy 87 rfl) rfl ?_
        refine V_if_eq (pc := 152) hG (dk dd_X10_copy 88 rfl) (tgt := 160) (by decide) (fun h152 => ?_) (fun h152 => ?_)
        refine V_iload (pc := 160) hG (dk dd_X10_copy 91 rfl) rfl ?_
        refine V_iconst (pc := 162) hG (dk dd_X10_copy 92 rfl) (v := 1) (by decide) ?_
        refine V_isub (pc := 163) hG (dk dd_X10_copy 93 rfl) ?_
        refine V_iload (pc := 164) hG (dk dd_X10_copy 94 rfl) rfl ?_
        refine V_isub (pc := 166) hG (dk dd_X10_copy 95 rfl) ?_
        rotate_left
        refine V_iload (pc := 155) hG (dk dd_X10_copy 89 rfl) rfl ?_
        refine V_goto (pc := 157) hG (dk dd_X10_copy 90 rfl) (tgt := 167) (by decide) ?_
        rotate_left
        -- leaves: stop 204; stop 167; stop 167
        · exfalso; rw [hc] at h147; have := le_i h147 (by omega) (by omega); omega
        · have e : c - 1 - nI q = nI (k - 1 - q) := by rw [hc, nm1 (by omega), pk_sub (by omega)]
          rw [e]
          exact step (k - 1 - q) (Or.inr ⟨h152, by omega⟩)
        · exact step q (Or.inl ⟨by rcases hu with h | h; exact h.1; exact absurd h.1 h152, rfl⟩)
    have bad : ¬ (μ 68 n = -1 ∨ μ 68 m = -1) → μ 68 n = μ 68 m → ¬ (lookS (μ 68) (μ 69) n i c = 0 ∧ lookS (μ 68) (μ 69) m j c = 0) → V C 121 [(0, vR 67), (1, vI x), (2, vI i), (3, vI y), (4, vI j), (5, vI c)] [] (thS μ 0) := by
      intro g1 g2 g3
      refine V_aload_n (pc := 121) hG (dk dd_X10_copy 71 rfl) rfl ?_
      refine V_iconst (pc := 122) hG (dk dd_X10_copy 72 rfl) (v := 2) (by decide) ?_
      refine V_callVip (pc := 123) hG (dk dd_X10_copy 73 rfl) ml_X10_83 mo_X10_finding sh_67 rfl (m_finding) (by decide) (by decide) rfl rfl rfl (fun x123 m123 p123 => ?_)
      refine V_iretP (pc := 126) hG (dk dd_X10_copy 74 rfl) hR (Pi.mk ?_)
      rotate_left
      -- leaves: return@126
      · exact Or.inr ⟨n, m, hx, hn, hy, hm, Or.inr (Or.inr (Or.inl ⟨g1, g2, g3, p123.2, p123.1.trans (thS_f μ 0 2)⟩))⟩
    have lk : ∀ (l : Nat) (t : Int32), ¬ μ 68 l = -1 → (lookS (μ 68) (μ 69) l t c = 0 ↔ (0 ≤ t ∧ 0 ≤ c ∧ c ≤ μ 69 l ∧ t ≤ μ 69 l - c)) := fun l t h => by
      unfold lookS; rw [if_neg h]
      by_cases z : 0 ≤ t ∧ 0 ≤ c ∧ c ≤ μ 69 l ∧ t ≤ μ 69 l - c
      · rw [if_pos z]; exact ⟨fun _ => z, fun _ => rfl⟩
      · rw [if_neg z]; exact ⟨fun w => absurd w (by decide), fun w => absurd w z⟩
    have L72 : ¬ (μ 68 n = -1 ∨ μ 68 m = -1) → μ 68 n = μ 68 m → V C 72 [(0, vR 67), (1, vI x), (2, vI i), (3, vI y), (4, vI j), (5, vI c)] [] (thS μ 0) := by
      intro g1 g2
      have nn : ¬ μ 68 n = -1 := fun q => g1 (Or.inl q)
      have nm : ¬ μ 68 m = -1 := fun q => g1 (Or.inr q)
      refine V_iload_n (pc := 72) hG (dk dd_X10_copy 41 rfl) rfl ?_
      refine V_if_lt (pc := 73) hG (dk dd_X10_copy 42 rfl) (tgt := 121) (by decide) (fun h73 => ?_) (fun h73 => ?_)
      rotate_left
      refine V_iload (pc := 76) hG (dk dd_X10_copy 43 rfl) rfl ?_
      refine V_if_lt (pc := 78) hG (dk dd_X10_copy 44 rfl) (tgt := 121) (by decide) (fun h78 => ?_) (fun h78 => ?_)
      rotate_left
      refine V_iload (pc := 81) hG (dk dd_X10_copy 45 rfl) rfl ?_
      refine V_if_lt (pc := 83) hG (dk dd_X10_copy 46 rfl) (tgt := 121) (by decide) (fun h83 => ?_) (fun h83 => ?_)
      rotate_left
      refine V_iload_n (pc := 86) hG (dk dd_X10_copy 47 rfl) rfl ?_
      refine V_i2l (pc := 87) hG (dk dd_X10_copy 48 rfl) ?_
      refine V_iload (pc := 88) hG (dk dd_X10_copy 49 rfl) rfl ?_
      refine V_i2l (pc := 90) hG (dk dd_X10_copy 50 rfl) ?_
      refine V_ladd (pc := 91) hG (dk dd_X10_copy 51 rfl) ?_
      refine V_aload_n (pc := 92) hG (dk dd_X10_copy 52 rfl) rfl ?_
      refine V_getR (pc := 93) hG (dk dd_X10_copy 53 rfl) fl_X10_13 sh_67 rfl ?_
      refine V_iload_n (pc := 96) hG (dk dd_X10_copy 54 rfl) rfl ?_
      refine V_iald (pc := 97) hG (dk dd_X10_copy 55 rfl) sh_69 rx ?_
      refine V_i2l (pc := 98) hG (dk dd_X10_copy 56 rfl) ?_
      refine V_lcmp (pc := 99) hG (dk dd_X10_copy 57 rfl) ?_
      refine V_if_gt (pc := 100) hG (dk dd_X10_copy 58 rfl) (tgt := 121) (by decide) (fun h100 => ?_) (fun h100 => ?_)
      rotate_left
      refine V_iload (pc := 103) hG (dk dd_X10_copy 59 rfl) rfl ?_
      refine V_i2l (pc := 105) hG (dk dd_X10_copy 60 rfl) ?_
      refine V_iload (pc := 106) hG (dk dd_X10_copy 61 rfl) rfl ?_
      refine V_i2l (pc := 108) hG (dk dd_X10_copy 62 rfl) ?_
      refine V_ladd (pc := 109) hG (dk dd_X10_copy 63 rfl) ?_
      refine V_aload_n (pc := 110) hG (dk dd_X10_copy 64 rfl) rfl ?_
      refine V_getR (pc := 111) hG (dk dd_X10_copy 65 rfl) fl_X10_13 sh_67 rfl ?_
      refine V_iload_n (pc := 114) hG (dk dd_X10_copy 66 rfl) rfl ?_
      refine V_iald (pc := 115) hG (dk dd_X10_copy 67 rfl) sh_69 ry ?_
      refine V_i2l (pc := 116) hG (dk dd_X10_copy 68 rfl) ?_
      refine V_lcmp (pc := 117) hG (dk dd_X10_copy 69 rfl) ?_
      refine V_if_le (pc := 118) hG (dk dd_X10_copy 70 rfl) (tgt := 127) (by decide) (fun h118 => ?_) (fun h118 => ?_)
      rotate_left
      rotate_left
      -- leaves: stop 121; stop 121; stop 121; stop 121; stop 127; stop 121
      · exact bad g1 g2 (fun q => Int32.not_le.mpr h73 ((lk n i nn).mp q.1).1)
      · exact bad g1 g2 (fun q => Int32.not_le.mpr h78 ((lk m j nm).mp q.2).1)
      · exact bad g1 g2 (fun q => Int32.not_le.mpr h83 ((lk n i nn).mp q.1).2.1)
      · rw [cx, l69] at h100
        exact bad g1 g2 (fun q => (sum_gt (Int32.not_lt.mp h73) (Int32.not_lt.mp h83) kn).mp h100 ((lk n i nn).mp q.1).2.2)
      · rw [cx, l69] at h100
        rw [cy, l69] at h118
        have i0 := Int32.not_lt.mp h73
        have j0 := Int32.not_lt.mp h78
        have c0 := Int32.not_lt.mp h83
        have a1 := Classical.byContradiction (fun w => h100 ((sum_gt i0 c0 kn).mpr w))
        have a2 := Classical.byContradiction (fun w => Int32.not_lt.mpr h118 ((sum_gt j0 c0 km).mpr w))
        have g3 : lookS (μ 68) (μ 69) n i c = 0 ∧ lookS (μ 68) (μ 69) m j c = 0 := ⟨(lk n i nn).mpr ⟨i0, c0, a1⟩, (lk m j nm).mpr ⟨j0, c0, a2⟩⟩
        obtain ⟨k, hkl, hck⟩ := nI_of h83
        have k40 : k ≤ 40 := by
          have : nI k ≤ nI 40 := by rw [← hck]; exact Int32.le_trans a1.1 kn.2
          exact le_i this hkl (by decide)
        obtain ⟨a, hi, ha⟩ := lookS_0 kn hck k40 g3.1
        obtain ⟨b, hj, hb⟩ := lookS_0 km hck k40 g3.2
        refine V_iload_n (pc := 127) hG (dk dd_X10_copy 75 rfl) rfl ?_
        refine V_iload (pc := 128) hG (dk dd_X10_copy 76 rfl) rfl ?_
        refine V_icmp_lt (pc := 130) hG (dk dd_X10_copy 77 rfl) (tgt := 137) (by decide) (fun h130 => ?_) (fun h130 => ?_)
        refine V_iconst (pc := 137) hG (dk dd_X10_copy 80 rfl) (v := 0) (by decide) ?_
        refine V_istore (pc := 138) hG (dk dd_X10_copy 81 rfl) (by decide) (lv' := [(0, _), (1, _), (2, _), (3, _), (4, _), (5, _), (6, _)]) rfl ?_
        refine V_iconst (pc := 140) hG (dk dd_X10_copy 82 rfl) (v := 0) (by decide) ?_
        refine V_istore (pc := 141) hG (dk dd_X10_copy 83 rfl) (by decide) (lv' := [(0, _), (1, _), (2, _), (3, _), (4, _), (5, _), (6, _), (7, _)]) rfl ?_
        rotate_left
        refine V_iconst (pc := 133) hG (dk dd_X10_copy 78 rfl) (v := 1) (by decide) ?_
        refine V_goto (pc := 134) hG (dk dd_X10_copy 79 rfl) (tgt := 138) (by decide) ?_
        refine V_istore (pc := 138) hG (dk dd_X10_copy 81 rfl) (by decide) (lv' := [(0, _), (1, _), (2, _), (3, _), (4, _), (5, _), (6, _)]) rfl ?_
        refine V_iconst (pc := 140) hG (dk dd_X10_copy 82 rfl) (v := 0) (by decide) ?_
        refine V_istore (pc := 141) hG (dk dd_X10_copy 83 rfl) (by decide) (lv' := [(0, _), (1, _), (2, _), (3, _), (4, _), (5, _), (6, _), (7, _)]) rfl ?_
        rotate_left
        -- leaves: stop 143; stop 143
        · rw [hi, hj] at h130
          have z := (nI_ltI (by omega) (by omega)).mp h130
          exact loop a b k g1 g2 g3 hi hj hck ha hb 0 (Or.inr ⟨rfl, z⟩) k 0 _ _ (by omega) (fun l _ => rfl) (fun e => by rw [if_neg (by rintro (w | w) <;> omega)]; rfl) rfl
        · rw [hi, hj] at h130
          have z := le_i (Int32.not_lt.mp h130) (by omega) (by omega)
          exact loop a b k g1 g2 g3 hi hj hck ha hb 1 (Or.inl ⟨rfl, z⟩) k 0 _ _ (by omega) (fun l _ => rfl) (fun e => by rw [if_neg (by rintro (⟨_, w⟩ | ⟨w, _⟩); omega; exact absurd w (by decide))]; rfl) rfl
      · rw [cy, l69] at h118
        exact bad g1 g2 (fun q => (sum_gt (Int32.not_lt.mp h78) (Int32.not_lt.mp h83) km).mp (Int32.not_le.mp h118) ((lk m j nm).mp q.2).2.2)
    have L45 : (μ 68 n = -1 ∨ μ 68 m = -1) → V C 45 [(0, vR 67), (1, vI x), (2, vI i), (3, vI y), (4, vI j), (5, vI c)] [] (thS μ 0) := by
      intro g1
      refine V_aload_n (pc := 45) hG (dk dd_X10_copy 24 rfl) rfl ?_
      refine V_iconst (pc := 46) hG (dk dd_X10_copy 25 rfl) (v := 1) (by decide) ?_
      refine V_callVip (pc := 47) hG (dk dd_X10_copy 26 rfl) ml_X10_83 mo_X10_finding sh_67 rfl (m_finding) (by decide) (by decide) rfl rfl rfl (fun x47 m47 p47 => ?_)
      refine V_iretP (pc := 50) hG (dk dd_X10_copy 27 rfl) hR (Pi.mk ?_)
      rotate_left
      -- leaves: return@50
      · exact Or.inr ⟨n, m, hx, hn, hy, hm, Or.inl ⟨g1, p47.2, p47.1.trans (thS_f μ 0 1)⟩⟩
    refine V_aload_n (pc := 0) hG (dk dd_X10_copy 0 rfl) rfl ?_
    refine V_iconst (pc := 1) hG (dk dd_X10_copy 1 rfl) (v := 0) (by decide) ?_
    refine V_putI (pc := 2) hG (dk dd_X10_copy 2 rfl) fl_X10_62 sh_67 rfl rfl ?_
    refine V_iload_n (pc := 5) hG (dk dd_X10_copy 3 rfl) rfl ?_
    refine V_callSip (pc := 6) hG (dk dd_X10_copy 4 rfl) ml_X10_76 mo_X10_isRow (m_isRow) (by decide) (by decide) rfl rfl rfl (fun x6 m6 p6 => ?_)
    refine V_if_eq (pc := 9) hG (dk dd_X10_copy 5 rfl) (tgt := 19) (by decide) (fun h9 => ?_) (fun h9 => ?_)
    rotate_left
    refine V_iload_n (pc := 12) hG (dk dd_X10_copy 6 rfl) rfl ?_
    refine V_callSip (pc := 13) hG (dk dd_X10_copy 7 rfl) ml_X10_76 mo_X10_isRow (m_isRow) (by decide) (by decide) rfl rfl rfl (fun x13 m13 p13 => ?_)
    refine V_if_ne (pc := 16) hG (dk dd_X10_copy 8 rfl) (tgt := 22) (by decide) (fun h16 => ?_) (fun h16 => ?_)
    refine V_aload_n (pc := 22) hG (dk dd_X10_copy 11 rfl) rfl ?_
    refine V_iconst (pc := 23) hG (dk dd_X10_copy 12 rfl) (v := 0) (by decide) ?_
    refine V_putI (pc := 24) hG (dk dd_X10_copy 13 rfl) fl_X10_66 sh_67 rfl rfl ?_
    refine V_aload_n (pc := 27) hG (dk dd_X10_copy 14 rfl) rfl ?_
    refine V_getR (pc := 28) hG (dk dd_X10_copy 15 rfl) fl_X10_7 sh_67 rfl ?_
    refine V_iload_n (pc := 31) hG (dk dd_X10_copy 16 rfl) rfl ?_
    refine V_iald (pc := 32) hG (dk dd_X10_copy 17 rfl) sh_68 rx ?_
    refine V_if_lt (pc := 33) hG (dk dd_X10_copy 18 rfl) (tgt := 45) (by decide) (fun h33 => ?_) (fun h33 => ?_)
    rotate_left
    refine V_aload_n (pc := 36) hG (dk dd_X10_copy 19 rfl) rfl ?_
    refine V_getR (pc := 37) hG (dk dd_X10_copy 20 rfl) fl_X10_7 sh_67 rfl ?_
    refine V_iload_n (pc := 40) hG (dk dd_X10_copy 21 rfl) rfl ?_
    refine V_iald (pc := 41) hG (dk dd_X10_copy 22 rfl) sh_68 ry ?_
    refine V_if_ge (pc := 42) hG (dk dd_X10_copy 23 rfl) (tgt := 51) (by decide) (fun h42 => ?_) (fun h42 => ?_)
    refine V_aload_n (pc := 51) hG (dk dd_X10_copy 28 rfl) rfl ?_
    refine V_getR (pc := 52) hG (dk dd_X10_copy 29 rfl) fl_X10_7 sh_67 rfl ?_
    refine V_iload_n (pc := 55) hG (dk dd_X10_copy 30 rfl) rfl ?_
    refine V_iald (pc := 56) hG (dk dd_X10_copy 31 rfl) sh_68 rx ?_
    refine V_aload_n (pc := 57) hG (dk dd_X10_copy 32 rfl) rfl ?_
    refine V_getR (pc := 58) hG (dk dd_X10_copy 33 rfl) fl_X10_7 sh_67 rfl ?_
    refine V_iload_n (pc := 61) hG (dk dd_X10_copy 34 rfl) rfl ?_
    refine V_iald (pc := 62) hG (dk dd_X10_copy 35 rfl) sh_68 ry ?_
    refine V_icmp_eq (pc := 63) hG (dk dd_X10_copy 36 rfl) (tgt := 72) (by decide) (fun h63 => ?_) (fun h63 => ?_)
    rotate_left
    refine V_aload_n (pc := 66) hG (dk dd_X10_copy 37 rfl) rfl ?_
    refine V_iconst (pc := 67) hG (dk dd_X10_copy 38 rfl) (v := 5) (by decide) ?_
    refine V_callVip (pc := 68) hG (dk dd_X10_copy 39 rfl) ml_X10_83 mo_X10_finding sh_67 rfl (m_finding) (by decide) (by decide) rfl rfl rfl (fun x68 m68 p68 => ?_)
    refine V_iretP (pc := 71) hG (dk dd_X10_copy 40 rfl) hR (Pi.mk ?_)
    rotate_left
    rotate_left
    rotate_left
    -- leaves: stop 19; stop 45; stop 72; return@71; stop 45; stop 19
    all_goals (first | exact absurd hr.1 (p6.2.no h9) | exact absurd hr.2 (p13.2.no h16) | skip)
    all_goals (have em : m13 = th0 μ := p13.1.trans p6.1)
    · rw [em, s0, cx, l68] at h33
      rw [em, s0]
      exact L45 (Or.inl (ltn.mp h33))
    · rw [em, s0, cx, l68] at h33
      rw [em, s0, cy, l68] at h42
      rw [em, s0, cx, cy, l68] at h63
      rw [em, s0]
      exact L72 (fun q => q.elim (fun w => h33 (ltn.mpr w)) (fun w => Int32.not_lt.mpr h42 (ltm.mpr w))) h63
    · rw [em, s0, cx, l68] at h33
      rw [em, s0, cy, l68] at h42
      rw [em, s0, cx, cy, l68] at h63
      rw [em, s0] at p68
      exact Or.inr ⟨n, m, hx, hn, hy, hm, Or.inr (Or.inl ⟨fun q => q.elim (fun w => h33 (ltn.mpr w)) (fun w => Int32.not_lt.mpr h42 (ltm.mpr w)), h63, p68.2, p68.1.trans (thS_f μ 0 5)⟩)⟩
    · rw [em, s0, cy, l68] at h42
      rw [em, s0]
      exact L45 (Or.inr (ltm.mp (Int32.not_le.mp h42)))
  · skip
    refine V_aload_n (pc := 0) hG (dk dd_X10_copy 0 rfl) rfl ?_
    refine V_iconst (pc := 1) hG (dk dd_X10_copy 1 rfl) (v := 0) (by decide) ?_
    refine V_putI (pc := 2) hG (dk dd_X10_copy 2 rfl) fl_X10_62 sh_67 rfl rfl ?_
    refine V_iload_n (pc := 5) hG (dk dd_X10_copy 3 rfl) rfl ?_
    refine V_callSip (pc := 6) hG (dk dd_X10_copy 4 rfl) ml_X10_76 mo_X10_isRow (m_isRow) (by decide) (by decide) rfl rfl rfl (fun x6 m6 p6 => ?_)
    refine V_if_eq (pc := 9) hG (dk dd_X10_copy 5 rfl) (tgt := 19) (by decide) (fun h9 => ?_) (fun h9 => ?_)
    refine V_ldc (pc := 19) hG (dk dd_X10_copy 9 rfl) kk_X10_82 ?_
    refine V_iretP (pc := 21) hG (dk dd_X10_copy 10 rfl) hR (Pi.mk ?_)
    rotate_left
    refine V_iload_n (pc := 12) hG (dk dd_X10_copy 6 rfl) rfl ?_
    refine V_callSip (pc := 13) hG (dk dd_X10_copy 7 rfl) ml_X10_76 mo_X10_isRow (m_isRow) (by decide) (by decide) rfl rfl rfl (fun x13 m13 p13 => ?_)
    refine V_if_ne (pc := 16) hG (dk dd_X10_copy 8 rfl) (tgt := 22) (by decide) (fun h16 => ?_) (fun h16 => ?_)
    rotate_left
    refine V_ldc (pc := 19) hG (dk dd_X10_copy 9 rfl) kk_X10_82 ?_
    refine V_iretP (pc := 21) hG (dk dd_X10_copy 10 rfl) hR (Pi.mk ?_)
    rotate_left
    -- leaves: return@21; stop 22; return@21
    · exact Or.inl ⟨hr, rfl, p6.1⟩
    · exact absurd ⟨p6.2.yes h9, p13.2.yes h16⟩ hr
    · exact Or.inl ⟨hr, rfl, p13.1.trans p6.1⟩
