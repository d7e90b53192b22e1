/-! ===== the model: a case is read ===== -/
/-- behind the sign: the same thing twice is a fault -/
def eqS (τ : Nat → Nat) (n : Nat) (t b : Nat) (s : Pf) : Pf := if (numS τ n 0 (t - 1) s).2.2 = 0 ∧ (numS τ n 0 (t - 1) s).1 = b then (s.1, 2) else (numS τ n 0 (t - 1) s).2
theorem eq_key {τ : Nat → Nat} {n t b : Nat} {s : Pf} (h : s.2 = 0) (hb : b ≤ t - 1) : (tkN τ n s.1 = 3 ∧ valS τ n s.1 = b) ↔ ((numS τ n 0 (t - 1) s).2.2 = 0 ∧ (numS τ n 0 (t - 1) s).1 = b) := by
  unfold numS
  rw [if_pos h, tk3]
  by_cases g : fgN τ n s.1 = 0 ∨ fgN τ n s.1 = 3
  · rw [if_pos g]
    exact ⟨fun z => absurd z.1 (by omega), fun z => absurd z.1 (show (1 : Nat) ≠ 0 by decide)⟩
  · rw [if_neg g]
    by_cases w : 0 ≤ valS τ n s.1 ∧ valS τ n s.1 ≤ t - 1
    · rw [if_pos w]
      exact ⟨fun z => ⟨rfl, z.2⟩, fun z => ⟨by omega, z.2⟩⟩
    · rw [if_neg w]
      exact ⟨fun z => absurd ⟨Nat.zero_le _, by rw [z.2]; exact hb⟩ w, fun z => absurd z.1 (show (2 : Nat) ≠ 0 by decide)⟩
set_option maxHeartbeats 2000000 in
theorem m_readCase {μ : Mem} {τ : Nat → Nat} {n : Nat} {q : Rd} (hF : FrS μ τ n q) (hk : nexS τ n 118 q.1) (h0 : 1 ≤ q.2 0 0) (h8 : q.2 0 0 ≤ 8) (h1 : 1 ≤ q.2 0 6) (h6 : q.2 0 6 ≤ 6) (h5 : q.2 0 7 ≤ 5) (h7 : ∀ c, q.2 7 c = 0) :
    CtP yX10_readCase cX10_readCase 5 none 4 [vR 67] μ (Pv (fun μ' => FrS μ' τ n (if q.2 0 7 = 5 then (markS 3 q.1, q.2) else casS τ n q) ∧ OffF μ μ')) := by
  refine CtP.go RX10 rfl pn_X10 (Nat.le_of_ble_eq_true rfl) (fun C hG hR => ?_)
  have r0 : vp_in (0 : Int32) 46 := vp_in_nI (n := 0) (by decide) (by decide)
  have r3 : vp_in (3 : Int32) 46 := vp_in_nI (n := 3) (by decide) (by decide)
  have r4 : vp_in (4 : Int32) 46 := vp_in_nI (n := 4) (by decide) (by decide)
  have k1 := hk.1
  have hA := (hF.2 k1).1
  have e0 : μ 72 (Int32.toNatClampNeg 0) = nI (q.2 0 0) := by have := hA.1 0 (by decide); rw [kap_0] at this; exact this
  have e3 : μ 72 (Int32.toNatClampNeg 3) = nI (q.2 0 6) := by have := hA.1 6 (by decide); rw [kap_0] at this; exact this
  have e4 : μ 72 (Int32.toNatClampNeg 4) = nI (q.2 0 7) := by have := hA.1 7 (by decide); rw [kap_0] at this; exact this
  have y0 : μ 72 (Int32.toNatClampNeg 0) - 1 = nI (q.2 0 0 - 1) := by rw [e0, nm1 h0]
  have y3 : μ 72 (Int32.toNatClampNeg 3) - 1 = nI (q.2 0 6 - 1) := by rw [e3, nm1 h1]
  -- the last number, the sign, what is laid down
  have last : ∀ (m : Mem) (s s' : Pf) (u : Rd) (a b : Int32) (A B : Nat), u = (if q.2 0 7 = 5 then (markS 3 q.1, q.2) else casS τ n q) → PsS m τ n s → OffT μ m → (numS τ n 0 (q.2 0 0 - 1) s).2 = s' → u.1 = pasS τ n 59 s' → (s'.2 = 0 → q.2 0 7 < 5 ∧ a = nI A ∧ b = nI B ∧ u.2 = updA (updA (updA (updA q.2 4 (q.2 0 7) A) 5 (q.2 0 7) B) 6 (q.2 0 7) (numS τ n 0 (q.2 0 0 - 1) s).1) 0 7 (q.2 0 7 + 1)) → V C 93 [(0, vR 67), (1, vI a), (2, vI b)] [] m := by
    intro m s s' u a b A B hu g1 g2 g3 g4 g5
    have em : m 72 = μ 72 := g2.1 72 (by decide)
    refine V_aload_n (pc := 93) hG (dk dd_X10_readCase 54 rfl) rfl ?_
    refine V_iconst (pc := 94) hG (dk dd_X10_readCase 55 rfl) (v := 0) (by decide) ?_
    refine V_aload_n (pc := 95) hG (dk dd_X10_readCase 56 rfl) rfl ?_
    refine V_getR (pc := 96) hG (dk dd_X10_readCase 57 rfl) fl_X10_22 sh_67 rfl ?_
    refine V_iconst (pc := 99) hG (dk dd_X10_readCase 58 rfl) (v := 0) (by decide) ?_
    refine V_iald (pc := 100) hG (dk dd_X10_readCase 59 rfl) sh_72 r0 ?_
    refine V_iconst (pc := 101) hG (dk dd_X10_readCase 60 rfl) (v := 1) (by decide) ?_
    refine V_isub (pc := 102) hG (dk dd_X10_readCase 61 rfl) ?_
    refine V_callVip (pc := 103) hG (dk dd_X10_readCase 62 rfl) ml_X10_140 mo_X10_number sh_67 rfl (m_number g1 (lo := 0) (hi := q.2 0 0 - 1) rfl (by decide) (fun _ => by rw [em]; exact y0) (by omega)) (by decide) (by decide) rfl rfl rfl (fun x103 m103 p103 => ?_)
    refine V_istore_n (pc := 106) hG (dk dd_X10_readCase 63 rfl) (by decide) (lv' := [(0, _), (1, _), (2, _), (3, _)]) rfl ?_
    refine V_aload_n (pc := 107) hG (dk dd_X10_readCase 64 rfl) rfl ?_
    refine V_bipush (pc := 108) hG (dk dd_X10_readCase 65 rfl) (v := 59) (by decide) ?_
    refine V_callVvp (pc := 110) hG (dk dd_X10_readCase 66 rfl) ml_X10_147 mo_X10_mustSign sh_67 rfl (m_mustSign p103.2.1 (c := 59) rfl (by decide)) (by decide) (by decide) rfl rfl rfl (fun m110 p110 => ?_)
    refine V_aload_n (pc := 113) hG (dk dd_X10_readCase 67 rfl) rfl ?_
    refine V_getI (pc := 114) hG (dk dd_X10_readCase 68 rfl) fl_X10_93 sh_67 rfl ?_
    refine V_if_ne (pc := 117) hG (dk dd_X10_readCase 69 rfl) (tgt := 171) (by decide) (fun h117 => ?_) (fun h117 => ?_)
    refine V_vretP (pc := 171) hG (dk dd_X10_readCase 106 rfl) hR (Pv.mk ?_)
    rotate_left
    refine V_bipush (pc := 120) hG (dk dd_X10_readCase 70 rfl) (v := 26) (by decide) ?_
    refine V_iconst (pc := 122) hG (dk dd_X10_readCase 71 rfl) (v := 4) (by decide) ?_
    refine V_aload_n (pc := 123) hG (dk dd_X10_readCase 72 rfl) rfl ?_
    refine V_getR (pc := 124) hG (dk dd_X10_readCase 73 rfl) fl_X10_22 sh_67 rfl ?_
    refine V_iconst (pc := 127) hG (dk dd_X10_readCase 74 rfl) (v := 4) (by decide) ?_
    refine V_iald (pc := 128) hG (dk dd_X10_readCase 75 rfl) sh_72 r4 ?_
    refine V_imul (pc := 129) hG (dk dd_X10_readCase 76 rfl) ?_
    refine V_iadd (pc := 130) hG (dk dd_X10_readCase 77 rfl) ?_
    refine V_istore (pc := 131) hG (dk dd_X10_readCase 78 rfl) (by decide) (lv' := [(0, _), (1, _), (2, _), (3, _), (4, _)]) rfl ?_
    refine V_aload_n (pc := 133) hG (dk dd_X10_readCase 79 rfl) rfl ?_
    refine V_getR (pc := 134) hG (dk dd_X10_readCase 80 rfl) fl_X10_22 sh_67 rfl ?_
    refine V_iload (pc := 137) hG (dk dd_X10_readCase 81 rfl) rfl ?_
    refine V_iload_n (pc := 139) hG (dk dd_X10_readCase 82 rfl) rfl ?_
    refine V_iast (pc := 140) hG (dk dd_X10_readCase 83 rfl) sh_72 ?_ ?_
    rotate_left
    refine V_aload_n (pc := 141) hG (dk dd_X10_readCase 84 rfl) rfl ?_
    refine V_getR (pc := 142) hG (dk dd_X10_readCase 85 rfl) fl_X10_22 sh_67 rfl ?_
    refine V_iload (pc := 145) hG (dk dd_X10_readCase 86 rfl) rfl ?_
    refine V_iconst (pc := 147) hG (dk dd_X10_readCase 87 rfl) (v := 1) (by decide) ?_
    refine V_iadd (pc := 148) hG (dk dd_X10_readCase 88 rfl) ?_
    refine V_iload_n (pc := 149) hG (dk dd_X10_readCase 89 rfl) rfl ?_
    refine V_iast (pc := 150) hG (dk dd_X10_readCase 90 rfl) sh_72 ?_ ?_
    rotate_left
    refine V_aload_n (pc := 151) hG (dk dd_X10_readCase 91 rfl) rfl ?_
    refine V_getR (pc := 152) hG (dk dd_X10_readCase 92 rfl) fl_X10_22 sh_67 rfl ?_
    refine V_iload (pc := 155) hG (dk dd_X10_readCase 93 rfl) rfl ?_
    refine V_iconst (pc := 157) hG (dk dd_X10_readCase 94 rfl) (v := 2) (by decide) ?_
    refine V_iadd (pc := 158) hG (dk dd_X10_readCase 95 rfl) ?_
    refine V_iload_n (pc := 159) hG (dk dd_X10_readCase 96 rfl) rfl ?_
    refine V_iast (pc := 160) hG (dk dd_X10_readCase 97 rfl) sh_72 ?_ ?_
    rotate_left
    refine V_aload_n (pc := 161) hG (dk dd_X10_readCase 98 rfl) rfl ?_
    refine V_getR (pc := 162) hG (dk dd_X10_readCase 99 rfl) fl_X10_22 sh_67 rfl ?_
    refine V_iconst (pc := 165) hG (dk dd_X10_readCase 100 rfl) (v := 4) (by decide) ?_
    refine V_dup2 (pc := 166) hG (dk dd_X10_readCase 101 rfl) rfl rfl ?_
    refine V_iald (pc := 167) hG (dk dd_X10_readCase 102 rfl) sh_72 r4 ?_
    refine V_iconst (pc := 168) hG (dk dd_X10_readCase 103 rfl) (v := 1) (by decide) ?_
    refine V_iadd (pc := 169) hG (dk dd_X10_readCase 104 rfl) ?_
    refine V_iast (pc := 170) hG (dk dd_X10_readCase 105 rfl) sh_72 r4 ?_
    refine V_vretP (pc := 171) hG (dk dd_X10_readCase 106 rfl) hR (Pv.mk ?_)
    rotate_left
    -- leaves: return@171; iastore@140 in; iastore@150 in; iastore@160 in; return@171
    · obtain ⟨_, b2, b3⟩ := p103
      rw [g3, ← g4] at p110
      rw [← hu]
      exact ⟨⟨p110.1, fun w => absurd (p110.1.f0.mpr w) h117⟩, ((g2.tr b3).tr p110.2).f⟩
    all_goals (obtain ⟨b1, b2, b3⟩ := p103)
    all_goals (rw [g3, ← g4] at p110)
    all_goals (have zz := p110.1.f0.mp h117; rw [g4] at zz; have z3 := pasS_0 zz)
    all_goals (obtain ⟨w1, w2, w3, w4⟩ := g5 z3; have ho := (g2.tr b3).tr p110.2; have e72 : m110 72 = μ 72 := ho.1 72 (by decide))
    all_goals (have ix : (26 : Int32) + 4 * m110 72 (Int32.toNatClampNeg 4) = nI (26 + 4 * q.2 0 7) := by rw [e72, e4, show (4 : Int32) = nI 4 from rfl, show (26 : Int32) = nI 26 from rfl, pk_mul, nI_add])
    · rw [ix]; exact vp_in_nI (by omega) (by decide)
    · rw [ix, show (1 : Int32) = nI 1 from rfl, nI_add]; exact vp_in_nI (by omega) (by decide)
    · rw [ix, show (2 : Int32) = nI 2 from rfl, nI_add]; exact vp_in_nI (by omega) (by decide)
    · have i1 : nI (26 + 4 * q.2 0 7) + 1 = nI (26 + 4 * q.2 0 7 + 1) := nI_1 _
      have i2 : nI (26 + 4 * q.2 0 7) + 2 = nI (26 + 4 * q.2 0 7 + 2) := by rw [show (2 : Int32) = nI 2 from rfl, nI_add]
      simp only [setc_s, setc_c]
      rw [ix, i1, i2, nI_clamp (by omega), nI_clamp (by omega), nI_clamp (by omega), upd_n (by have : Int32.toNatClampNeg 4 = 4 := rfl; omega), upd_n (by have : Int32.toNatClampNeg 4 = 4 := rfl; omega), upd_n (by have : Int32.toNatClampNeg 4 = 4 := rfl; omega), e72, e4, b1 (by rw [g3]; exact z3), w2, w3, nI_1, ← hu]
      refine ⟨⟨p110.1.set (by decide) (by decide), fun _ => ?_⟩, ho.f.tr (OffF.set _ _)⟩
      rw [setc_s, w4]
      exact (hF.2 k1).case h6 w1 h7
  -- from the letter on
  have tail : ∀ (m : Mem) (s : Pf), PsS m τ n s → OffT μ m → (s.2 = 0 → q.2 0 7 < 5 ∧ s = pasS τ n 118 q.1) → (s.2 ≠ 0 → (if q.2 0 7 = 5 then (markS 3 q.1, q.2) else casS τ n q).1 = s) → V C 25 [(0, vR 67)] [] m := by
    intro m s g1 g2 g3 g4
    have em : m 72 = μ 72 := g2.1 72 (by decide)
    generalize hu : (if q.2 0 7 = 5 then (markS 3 q.1, q.2) else casS τ n q) = u at g4
    have u0 : s.2 = 0 → u = casS τ n q := fun z => by rw [← hu, if_neg (by have := (g3 z).1; omega)]
    refine V_aload_n (pc := 25) hG (dk dd_X10_readCase 14 rfl) rfl ?_
    refine V_iconst (pc := 26) hG (dk dd_X10_readCase 15 rfl) (v := 0) (by decide) ?_
    refine V_aload_n (pc := 27) hG (dk dd_X10_readCase 16 rfl) rfl ?_
    refine V_getR (pc := 28) hG (dk dd_X10_readCase 17 rfl) fl_X10_22 sh_67 rfl ?_
    refine V_iconst (pc := 31) hG (dk dd_X10_readCase 18 rfl) (v := 3) (by decide) ?_
    refine V_iald (pc := 32) hG (dk dd_X10_readCase 19 rfl) sh_72 r3 ?_
    refine V_iconst (pc := 33) hG (dk dd_X10_readCase 20 rfl) (v := 1) (by decide) ?_
    refine V_isub (pc := 34) hG (dk dd_X10_readCase 21 rfl) ?_
    refine V_callVip (pc := 35) hG (dk dd_X10_readCase 22 rfl) ml_X10_140 mo_X10_number sh_67 rfl (m_number g1 (lo := 0) (hi := q.2 0 6 - 1) rfl (by decide) (fun _ => by rw [em]; exact y3) (by omega)) (by decide) (by decide) rfl rfl rfl (fun x35 m35 p35 => ?_)
    refine V_istore_n (pc := 38) hG (dk dd_X10_readCase 23 rfl) (by decide) (lv' := [(0, _), (1, _)]) rfl ?_
    refine V_aload_n (pc := 39) hG (dk dd_X10_readCase 24 rfl) rfl ?_
    refine V_bipush (pc := 40) hG (dk dd_X10_readCase 25 rfl) (v := 44) (by decide) ?_
    refine V_callVvp (pc := 42) hG (dk dd_X10_readCase 26 rfl) ml_X10_147 mo_X10_mustSign sh_67 rfl (m_mustSign p35.2.1 (c := 44) rfl (by decide)) (by decide) (by decide) rfl rfl rfl (fun m42 p42 => ?_)
    refine V_aload_n (pc := 45) hG (dk dd_X10_readCase 27 rfl) rfl ?_
    refine V_iconst (pc := 46) hG (dk dd_X10_readCase 28 rfl) (v := 0) (by decide) ?_
    refine V_aload_n (pc := 47) hG (dk dd_X10_readCase 29 rfl) rfl ?_
    refine V_getR (pc := 48) hG (dk dd_X10_readCase 30 rfl) fl_X10_22 sh_67 rfl ?_
    refine V_iconst (pc := 51) hG (dk dd_X10_readCase 31 rfl) (v := 0) (by decide) ?_
    refine V_iald (pc := 52) hG (dk dd_X10_readCase 32 rfl) sh_72 r0 ?_
    refine V_iconst (pc := 53) hG (dk dd_X10_readCase 33 rfl) (v := 1) (by decide) ?_
    refine V_isub (pc := 54) hG (dk dd_X10_readCase 34 rfl) ?_
    refine V_callVip (pc := 55) hG (dk dd_X10_readCase 35 rfl) ml_X10_140 mo_X10_number sh_67 rfl (m_number p42.1 (lo := 0) (hi := q.2 0 0 - 1) rfl (by decide) (fun _ => by rw [p42.2.1 72 (by decide), p35.2.2.1 72 (by decide), em]; exact y0) (by omega)) (by decide) (by decide) rfl rfl rfl (fun x55 m55 p55 => ?_)
    refine V_istore_n (pc := 58) hG (dk dd_X10_readCase 36 rfl) (by decide) (lv' := [(0, _), (1, _), (2, _)]) rfl ?_
    refine V_aload_n (pc := 59) hG (dk dd_X10_readCase 37 rfl) rfl ?_
    refine V_bipush (pc := 60) hG (dk dd_X10_readCase 38 rfl) (v := 44) (by decide) ?_
    refine V_callVvp (pc := 62) hG (dk dd_X10_readCase 39 rfl) ml_X10_147 mo_X10_mustSign sh_67 rfl (m_mustSign p55.2.1 (c := 44) rfl (by decide)) (by decide) (by decide) rfl rfl rfl (fun m62 p62 => ?_)
    rotate_left
    -- leaves: stop 65
    · obtain ⟨a1, a2, a3⟩ := p35
      obtain ⟨b1, b2, b3⟩ := p55
      have ho := (((g2.tr a3).tr p42.2).tr b3).tr p62.2
      generalize hsa : numS τ n 0 (q.2 0 6 - 1) s = sa at *
      generalize hsb : numS τ n 0 (q.2 0 0 - 1) (pasS τ n 44 sa.2) = sb at *
      have p62 := p62.1
      have back : (pasS τ n 44 sb.2).2 = 0 → s.2 = 0 ∧ sa.2.2 = 0 ∧ sb.2.2 = 0 := fun z => by
        have z1 := pasS_0 z
        have z2 := pasS_0 (numS_ge (by rw [hsb]; exact z1)).2
        exact ⟨(numS_ge (by rw [hsa]; exact z2)).2, z2, z1⟩
      have fwd : s.2 ≠ 0 → pasS τ n 44 sb.2 = s := fun z => by
        rw [← hsb, ← hsa, numS_f z, pas_hf z, numS_f z, pas_hf z]
      have ec : s.2 = 0 → casS τ n q = (pasS τ n 59 (eqS τ n (q.2 0 0) sb.1 (pasS τ n 44 sb.2)), updA (updA (updA (updA q.2 4 (q.2 0 7) sa.1) 5 (q.2 0 7) sb.1) 6 (q.2 0 7) (numS τ n 0 (q.2 0 0 - 1) (pasS τ n 44 sb.2)).1) 0 7 (q.2 0 7 + 1)) := fun z => by
        rw [← hsb, ← hsa, (g3 z).2]; rfl
      have bl : sb.1 ≤ q.2 0 0 - 1 := by rw [← hsb]; exact numS_le _ _ _ _ _
      generalize hs5 : pasS τ n 44 sb.2 = s5 at *
      -- no fault is added
      have same : ∀ z5 : (s5.2 = 0 → ¬ (tkN τ n s5.1 = 3 ∧ valS τ n s5.1 = sb.1)), V C 93 [(0, vR 67), (1, vI x35), (2, vI x55)] [] m62 := by
        intro z5
        have ee : s5.2 = 0 → eqS τ n (q.2 0 0) sb.1 s5 = (numS τ n 0 (q.2 0 0 - 1) s5).2 := fun z => by unfold eqS; rw [if_neg (fun w => z5 z ((eq_key z bl).mpr w))]
        refine last m62 s5 (numS τ n 0 (q.2 0 0 - 1) s5).2 u x35 x55 sa.1 sb.1 hu.symm p62 ho rfl ?_ (fun w => ?_)
        · by_cases z : s5.2 = 0
          · have bk := back z
            rw [u0 bk.1, ec bk.1, ee z]
          · rw [numS_f z, pas_hf z]
            by_cases w : s.2 = 0
            · rw [u0 w, ec w]
              have : eqS τ n (q.2 0 0) sb.1 s5 = s5 := by unfold eqS; rw [numS_f z, if_neg (fun y => z y.1)]
              rw [this, pas_hf z]
            · rw [g4 w, fwd w]
        · have z := (numS_ge w).2
          have bk := back z
          exact ⟨(g3 bk.1).1, a1 bk.2.1, b1 bk.2.2, by rw [u0 bk.1, ec bk.1]⟩
      refine V_aload_n (pc := 65) hG (dk dd_X10_readCase 40 rfl) rfl ?_
      refine V_getI (pc := 66) hG (dk dd_X10_readCase 41 rfl) fl_X10_93 sh_67 rfl ?_
      refine V_if_ne (pc := 69) hG (dk dd_X10_readCase 42 rfl) (tgt := 93) (by decide) (fun h69 => ?_) (fun h69 => ?_)
      rotate_left
      refine V_aload_n (pc := 72) hG (dk dd_X10_readCase 43 rfl) rfl ?_
      refine V_getI (pc := 73) hG (dk dd_X10_readCase 44 rfl) fl_X10_117 sh_67 rfl ?_
      refine V_iconst (pc := 76) hG (dk dd_X10_readCase 45 rfl) (v := 3) (by decide) ?_
      refine V_icmp_ne (pc := 77) hG (dk dd_X10_readCase 46 rfl) (tgt := 93) (by decide) (fun h77 => ?_) (fun h77 => ?_)
      rotate_left
      refine V_aload_n (pc := 80) hG (dk dd_X10_readCase 47 rfl) rfl ?_
      refine V_getI (pc := 81) hG (dk dd_X10_readCase 48 rfl) fl_X10_106 sh_67 rfl ?_
      refine V_iload_n (pc := 84) hG (dk dd_X10_readCase 49 rfl) rfl ?_
      refine V_icmp_ne (pc := 85) hG (dk dd_X10_readCase 50 rfl) (tgt := 93) (by decide) (fun h85 => ?_) (fun h85 => ?_)
      rotate_left
      refine V_aload_n (pc := 88) hG (dk dd_X10_readCase 51 rfl) rfl ?_
      refine V_iconst (pc := 89) hG (dk dd_X10_readCase 52 rfl) (v := 2) (by decide) ?_
      refine V_callVvp (pc := 90) hG (dk dd_X10_readCase 53 rfl) ml_X10_120 mo_X10_bad sh_67 rfl (m_bad p62 (k := 2) rfl (by decide) (by decide)) (by decide) (by decide) rfl rfl rfl (fun m90 p90 => ?_)
      rotate_left
      -- leaves: stop 93; stop 93; stop 93; stop 93
      · exact same (fun z => absurd (p62.f0.mpr z) h69)
      · refine same (fun z w => h77 ?_)
        rw [(p62.2.2.2.1 z).2.2.2.1, w.1]; rfl
      · refine same (fun z w => h85 ?_)
        rw [((p62.2.2.2.1 z).2.2.2.2.2 w.1).1, w.2, b1 (back z).2.2]
      · have z := p62.f0.mp h69
        have bk := back z
        obtain ⟨_, _, t3, _, t5⟩ := (p62.2.2.2.1 z).2
        rw [t3] at h77
        have tk := (nI_eq (b := 3) (by have := tk_le τ n s5.1; omega) (by decide)).mp h77
        rw [(t5 tk).1, b1 bk.2.2] at h85
        have vlt : valS τ n s5.1 < 2 ^ 31 := by
          have hf := tk3.mp tk
          have hle : fgN τ n s5.1 ≤ 3 := by unfold fgN; repeat (first | split | omega)
          obtain ⟨_, c2, c3⟩ := fgN_le (τ := τ) (n := n) (p := s5.1) (by omega)
          unfold valS
          have := c2.2
          split
          · rename_i h; have := (c3 h).2; omega
          · omega
        have ve := (nI_eq vlt (by omega)).mp h85
        have e2 : markS 2 s5 = (s5.1, 2) := by unfold markS; rw [if_pos z]
        rw [e2] at p90
        refine last m90 (s5.1, 2) (s5.1, 2) u x35 x55 sa.1 sb.1 hu.symm p90.1 (ho.tr p90.2) (by rw [numS_f (show (2 : Nat) ≠ 0 by decide)]) ?_ (fun w => absurd w (show (2 : Nat) ≠ 0 by decide))
        rw [u0 bk.1, ec bk.1]
        unfold eqS; rw [if_pos ((eq_key z bl).mp ⟨tk, ve⟩)]
  have s3 : markS 3 q.1 = (q.1.1, 3) := by unfold markS; rw [if_pos k1]
  refine V_aload_n (pc := 0) hG (dk dd_X10_readCase 0 rfl) rfl ?_
  refine V_getR (pc := 1) hG (dk dd_X10_readCase 1 rfl) fl_X10_22 sh_67 rfl ?_
  refine V_iconst (pc := 4) hG (dk dd_X10_readCase 2 rfl) (v := 4) (by decide) ?_
  refine V_iald (pc := 5) hG (dk dd_X10_readCase 3 rfl) sh_72 r4 ?_
  refine V_iconst (pc := 6) hG (dk dd_X10_readCase 4 rfl) (v := 5) (by decide) ?_
  refine V_icmp_ne (pc := 7) hG (dk dd_X10_readCase 5 rfl) (tgt := 15) (by decide) (fun hq7 => ?_) (fun hq7 => ?_)
  rotate_left
  refine V_aload_n (pc := 10) hG (dk dd_X10_readCase 6 rfl) rfl ?_
  refine V_iconst (pc := 11) hG (dk dd_X10_readCase 7 rfl) (v := 3) (by decide) ?_
  refine V_callVvp (pc := 12) hG (dk dd_X10_readCase 8 rfl) ml_X10_120 mo_X10_bad sh_67 rfl (m_bad hF.1 (k := 3) rfl (by decide) (by decide)) (by decide) (by decide) rfl rfl rfl (fun m12 p12 => ?_)
  rotate_left
  -- leaves: stop 15; stop 15
  · have hn5 : q.2 0 7 < 5 := by
      have : q.2 0 7 ≠ 5 := fun z => hq7 (by rw [e4, z]; rfl)
      omega
    refine V_aload_n (pc := 15) hG (dk dd_X10_readCase 9 rfl) rfl ?_
    refine V_aload_n (pc := 16) hG (dk dd_X10_readCase 10 rfl) rfl ?_
    refine V_bipush (pc := 17) hG (dk dd_X10_readCase 11 rfl) (v := 118) (by decide) ?_
    refine V_callVip (pc := 19) hG (dk dd_X10_readCase 12 rfl) ml_X10_137 mo_X10_isLetter sh_67 rfl (m_isLetter hF.1 (c := 118) rfl (by decide)) (by decide) (by decide) rfl rfl rfl (fun x19 m19 p19 => ?_)
    refine V_callVvp (pc := 22) hG (dk dd_X10_readCase 13 rfl) ml_X10_127 mo_X10_must sh_67 rfl (m_mustL (p19.1 ▸ hF.1) (c := 118) (by decide) p19.2) (by decide) (by decide) rfl rfl rfl (fun m22 p22 => ?_)
    rotate_left
    -- leaves: stop 25
    · obtain ⟨rfl, w⟩ := p19
      have ps : pasS τ n 118 q.1 = (q.1.1 + 1, 0) := by unfold pasS; rw [if_pos hk]
      exact tail m22 _ p22.1 p22.2 (fun _ => ⟨hn5, rfl⟩) (fun w => absurd (by rw [ps]) w)
  · have hn5 : q.2 0 7 = 5 := by rw [e4] at hq7; exact (nI_eq (b := 5) (by omega) (by decide)).mp hq7
    rw [s3] at p12
    refine V_aload_n (pc := 15) hG (dk dd_X10_readCase 9 rfl) rfl ?_
    refine V_aload_n (pc := 16) hG (dk dd_X10_readCase 10 rfl) rfl ?_
    refine V_bipush (pc := 17) hG (dk dd_X10_readCase 11 rfl) (v := 118) (by decide) ?_
    refine V_callVip (pc := 19) hG (dk dd_X10_readCase 12 rfl) ml_X10_137 mo_X10_isLetter sh_67 rfl (m_isLetter p12.1 (c := 118) rfl (by decide)) (by decide) (by decide) rfl rfl rfl (fun x19 m19 p19 => ?_)
    refine V_callVvp (pc := 22) hG (dk dd_X10_readCase 13 rfl) ml_X10_127 mo_X10_must sh_67 rfl (m_must (p := 0) (u := (q.1.1, 3)) (p19.1 ▸ p12.1) p19.2 (fun w => absurd w (show (3 : Nat) ≠ 0 by decide)) (fun w => absurd w (show (3 : Nat) ≠ 0 by decide)) (fun _ => rfl)) (by decide) (by decide) rfl rfl rfl (fun m22 p22 => ?_)
    rotate_left
    -- leaves: stop 25
    · obtain ⟨rfl, w⟩ := p19
      exact tail m22 _ p22.1 (p12.2.tr p22.2) (fun w => absurd w (show (3 : Nat) ≠ 0 by decide)) (fun _ => by rw [if_pos hn5, s3])
