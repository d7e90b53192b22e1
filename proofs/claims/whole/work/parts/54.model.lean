def RwQ (x l c : Int32) (μ : Mem) (r : Int32) (μ' : Mem) : Prop :=
  (¬ (isR x ∧ (0 ≤ l ∧ l ≤ 2) ∧ c ≤ 40) ∧ r = -1000001 ∧ μ' = th0 μ) ∨ ((isR x ∧ (0 ≤ l ∧ l ≤ 2) ∧ c ≤ 40) ∧ c < 0 ∧ r = -1000010 - 4 ∧ μ' = thS μ 4) ∨
  (∃ n, x = nI n ∧ n < 8 ∧ (0 ≤ l ∧ l ≤ 2) ∧ (0 ≤ c ∧ c ≤ 40) ∧ r = c ∧ μ' 67 = thS μ 0 67 ∧ μ' 68 = upd (μ 68) n l ∧ μ' 69 = upd (μ 69) n c ∧ (∀ q, μ' 70 q = if 40 * n ≤ q ∧ q < 40 * n + 40 then 0 else μ 70 q) ∧ ∀ j, j < 67 ∨ 70 < j → μ' j = μ j)
theorem m_row {μ : Mem} {x l c : Int32} : CtP yX10_row cX10_row 5 (some .int) 2 [vR 67, vI x, vI l, vI c] μ (Pi (RwQ x l c μ)) := by
  refine CtP.go RX10 rfl pn_X10 (Nat.le_of_ble_eq_true rfl) (fun C hG hR => ?_)
  have loop : ∀ n, x = nI n → n < 8 → (0 ≤ l ∧ l ≤ 2) → (0 ≤ c ∧ c ≤ 40) → ∀ k i m, i + k = 40 → m 67 = thS μ 0 67 → m 68 = upd (μ 68) n l → m 69 = upd (μ 69) n c → (∀ q, m 70 q = if 40 * n ≤ q ∧ q < 40 * n + i then 0 else μ 70 q) → (∀ j, j < 67 ∨ 70 < j → m j = μ j) → V C 65 [(0, vR 67), (1, vI x), (2, vI l), (3, vI c), (4, vI (nI i))] [] m := by
    intro n hx hn hl hc k
    induction k with
    | zero =>
      intro i m hi h1 h2 h3 h4 h5
      refine V_iload (pc := 65) hG (dk dd_X10_row 38 rfl) rfl ?_
      refine V_bipush (pc := 67) hG (dk dd_X10_row 39 rfl) (v := 40) (by decide) ?_
      refine V_icmp_ge (pc := 69) hG (dk dd_X10_row 40 rfl) (tgt := 91) (by decide) (fun h69 => ?_) (fun h69 => ?_)
      refine V_iload_n (pc := 91) hG (dk dd_X10_row 52 rfl) rfl ?_
      refine V_iretP (pc := 92) hG (dk dd_X10_row 53 rfl) hR (Pi.mk ?_)
      rotate_left
      rotate_left
      -- leaves: return@92; stop 72
      · exact Or.inr (Or.inr ⟨n, hx, hn, hl, hc, rfl, h1, h2, h3, by rw [show i = 40 by omega] at h4; exact h4, h5⟩)
      · exfalso; have := nle_i (a := 40) h69 (by omega) (by omega); omega
    | succ k ih =>
      intro i m hi h1 h2 h3 h4 h5
      have ix : (40 : Int32) * x + nI i = nI (40 * n + i) := by rw [hx, show (40 : Int32) = nI 40 from rfl, pk_mul, nI_add]
      have r : vp_in ((40 : Int32) * x + nI i) 320 := by rw [ix]; exact vp_in_nI (by omega) (by decide)
      refine V_iload (pc := 65) hG (dk dd_X10_row 38 rfl) rfl ?_
      refine V_bipush (pc := 67) hG (dk dd_X10_row 39 rfl) (v := 40) (by decide) ?_
      refine V_icmp_ge (pc := 69) hG (dk dd_X10_row 40 rfl) (tgt := 91) (by decide) (fun h69 => ?_) (fun h69 => ?_)
      rotate_left
      refine V_aload_n (pc := 72) hG (dk dd_X10_row 41 rfl) rfl ?_
      refine V_getR (pc := 73) hG (dk dd_X10_row 42 rfl) fl_X10_16 sh_67 rfl ?_
      refine V_bipush (pc := 76) hG (dk dd_X10_row 43 rfl) (v := 40) (by decide) ?_
      refine V_iload_n (pc := 78) hG (dk dd_X10_row 44 rfl) rfl ?_
      refine V_imul (pc := 79) hG (dk dd_X10_row 45 rfl) ?_
      refine V_iload (pc := 80) hG (dk dd_X10_row 46 rfl) rfl ?_
      refine V_iadd (pc := 82) hG (dk dd_X10_row 47 rfl) ?_
      refine V_iconst (pc := 83) hG (dk dd_X10_row 48 rfl) (v := 0) (by decide) ?_
      refine V_iast (pc := 84) hG (dk dd_X10_row 49 rfl) sh_70 r ?_
      refine V_iinc (pc := 85) hG (dk dd_X10_row 50 rfl) rfl (v := _ + 1) rfl (by decide) (lv' := [(0, _), (1, _), (2, _), (3, _), (4, _)]) rfl ?_
      refine V_goto (pc := 88) hG (dk dd_X10_row 51 rfl) (tgt := 65) (by decide) ?_
      rotate_left
      -- leaves: stop 91; stop 65
      · exfalso; have := le_i (a := 40) h69 (by omega) (by omega); omega
      · rw [← nI_succ, ix, nI_clamp (by omega)]
        refine ih (i + 1) _ (by omega) ?_ ?_ ?_ (fun q => ?_) (fun j hj => ?_)
        · rw [setc_n (by decide)]; exact h1
        · rw [setc_n (by decide)]; exact h2
        · rw [setc_n (by decide)]; exact h3
        · rw [setc_s, upd_at]
          by_cases z : q = 40 * n + i
          · rw [if_pos z, if_pos (by omega)]
          · rw [if_neg z, h4 q]
            by_cases y : 40 * n ≤ q ∧ q < 40 * n + i
            · rw [if_pos y, if_pos (by omega)]
            · rw [if_neg y, if_neg (by omega)]
        · rw [setc_n (by omega)]; exact h5 j hj
  refine V_aload_n (pc := 0) hG (dk dd_X10_row 0 rfl) rfl ?_
  refine V_iconst (pc := 1) hG (dk dd_X10_row 1 rfl) (v := 0) (by decide) ?_
  refine V_putI (pc := 2) hG (dk dd_X10_row 2 rfl) fl_X10_62 sh_67 rfl rfl ?_
  refine V_iload_n (pc := 5) hG (dk dd_X10_row 3 rfl) rfl ?_
  refine V_callSip (pc := 6) hG (dk dd_X10_row 4 rfl) ml_X10_76 mo_X10_isRow (m_isRow) (by decide) (by decide) rfl rfl rfl (fun x6 m6 p6 => ?_)
  refine V_if_eq (pc := 9) hG (dk dd_X10_row 5 rfl) (tgt := 30) (by decide) (fun h9 => ?_) (fun h9 => ?_)
  refine V_ldc (pc := 30) hG (dk dd_X10_row 15 rfl) kk_X10_82 ?_
  refine V_iretP (pc := 32) hG (dk dd_X10_row 16 rfl) hR (Pi.mk ?_)
  rotate_left
  refine V_iload_n (pc := 12) hG (dk dd_X10_row 6 rfl) rfl ?_
  refine V_i2l (pc := 13) hG (dk dd_X10_row 7 rfl) ?_
  refine V_lconst (pc := 14) hG (dk dd_X10_row 8 rfl) (v := 0) (by decide) ?_
  refine V_ldc2_w (pc := 15) hG (dk dd_X10_row 9 rfl) kk_X10_80 ?_
  refine V_callSip (pc := 18) hG (dk dd_X10_row 10 rfl) ml_X10_72 mo_X10_in (m_inI (v := l) (lo := 0) (hi := 2) rfl rfl rfl) (by decide) (by decide) rfl rfl rfl (fun x18 m18 p18 => ?_)
  refine V_if_eq (pc := 21) hG (dk dd_X10_row 11 rfl) (tgt := 30) (by decide) (fun h21 => ?_) (fun h21 => ?_)
  refine V_ldc (pc := 30) hG (dk dd_X10_row 15 rfl) kk_X10_82 ?_
  refine V_iretP (pc := 32) hG (dk dd_X10_row 16 rfl) hR (Pi.mk ?_)
  rotate_left
  refine V_iload_n (pc := 24) hG (dk dd_X10_row 12 rfl) rfl ?_
  refine V_bipush (pc := 25) hG (dk dd_X10_row 13 rfl) (v := 40) (by decide) ?_
  refine V_icmp_le (pc := 27) hG (dk dd_X10_row 14 rfl) (tgt := 33) (by decide) (fun h27 => ?_) (fun h27 => ?_)
  refine V_aload_n (pc := 33) hG (dk dd_X10_row 17 rfl) rfl ?_
  refine V_iconst (pc := 34) hG (dk dd_X10_row 18 rfl) (v := 0) (by decide) ?_
  refine V_putI (pc := 35) hG (dk dd_X10_row 19 rfl) fl_X10_66 sh_67 rfl rfl ?_
  refine V_iload_n (pc := 38) hG (dk dd_X10_row 20 rfl) rfl ?_
  refine V_if_ge (pc := 39) hG (dk dd_X10_row 21 rfl) (tgt := 48) (by decide) (fun h39 => ?_) (fun h39 => ?_)
  refine V_aload_n (pc := 48) hG (dk dd_X10_row 26 rfl) rfl ?_
  refine V_getR (pc := 49) hG (dk dd_X10_row 27 rfl) fl_X10_7 sh_67 rfl ?_
  refine V_iload_n (pc := 52) hG (dk dd_X10_row 28 rfl) rfl ?_
  refine V_iload_n (pc := 53) hG (dk dd_X10_row 29 rfl) rfl ?_
  refine V_iast (pc := 54) hG (dk dd_X10_row 30 rfl) sh_68 ?_ ?_
  rotate_left
  refine V_aload_n (pc := 55) hG (dk dd_X10_row 31 rfl) rfl ?_
  refine V_getR (pc := 56) hG (dk dd_X10_row 32 rfl) fl_X10_13 sh_67 rfl ?_
  refine V_iload_n (pc := 59) hG (dk dd_X10_row 33 rfl) rfl ?_
  refine V_iload_n (pc := 60) hG (dk dd_X10_row 34 rfl) rfl ?_
  refine V_iast (pc := 61) hG (dk dd_X10_row 35 rfl) sh_69 ?_ ?_
  rotate_left
  refine V_iconst (pc := 62) hG (dk dd_X10_row 36 rfl) (v := 0) (by decide) ?_
  refine V_istore (pc := 63) hG (dk dd_X10_row 37 rfl) (by decide) (lv' := [(0, _), (1, _), (2, _), (3, _), (4, _)]) rfl ?_
  rotate_left
  refine V_aload_n (pc := 42) hG (dk dd_X10_row 22 rfl) rfl ?_
  refine V_iconst (pc := 43) hG (dk dd_X10_row 23 rfl) (v := 4) (by decide) ?_
  refine V_callVip (pc := 44) hG (dk dd_X10_row 24 rfl) ml_X10_83 mo_X10_finding sh_67 rfl (m_finding) (by decide) (by decide) rfl rfl rfl (fun x44 m44 p44 => ?_)
  refine V_iretP (pc := 47) hG (dk dd_X10_row 25 rfl) hR (Pi.mk ?_)
  rotate_left
  refine V_ldc (pc := 30) hG (dk dd_X10_row 15 rfl) kk_X10_82 ?_
  refine V_iretP (pc := 32) hG (dk dd_X10_row 16 rfl) hR (Pi.mk ?_)
  rotate_left
  -- leaves: return@32; return@32; iastore@54 in; iastore@61 in; stop 65; return@47; return@32
  · exact Or.inl ⟨fun q => p6.2.no h9 q.1, rfl, p6.1⟩
  · exact Or.inl ⟨fun q => p18.2.no h21 q.2.1, rfl, by rw [p18.1, p6.1]; rfl⟩
  · obtain ⟨n, hx, hn⟩ := isR.n (p6.2.yes h9)
    rw [hx]; exact vp_in_nI (by omega) (by decide)
  · obtain ⟨n, hx, hn⟩ := isR.n (p6.2.yes h9)
    rw [hx]; exact vp_in_nI (by omega) (by decide)
  · obtain ⟨n, hx, hn⟩ := isR.n (p6.2.yes h9)
    have me : setc m18 67 (upd (m18 67) 1 0) = thS μ 0 := by rw [p18.1, p6.1]; exact thS_e μ 0
    rw [me, nI_cl hx (by omega)]
    refine loop n hx hn (p18.2.yes h21) ⟨h39, h27⟩ 40 0 _ (by omega) ?_ ?_ ?_ (fun q => ?_) (fun j hj => ?_)
    · rw [setc_n (by decide), setc_n (by decide)]
    · rw [setc_n (by decide), setc_s]; rfl
    · rw [setc_s, setc_n (by decide)]; rfl
    · rw [setc_n (by decide), setc_n (by decide), if_neg (by omega)]; rfl
    · rw [setc_n (by omega), setc_n (by omega)]; exact setc_n (by omega)
  · have me : setc m18 67 (upd (m18 67) 1 0) = thS μ 0 := by rw [p18.1, p6.1]; exact thS_e μ 0
    rw [me] at p44
    exact Or.inr (Or.inl ⟨⟨p6.2.yes h9, p18.2.yes h21, h27⟩, Int32.not_le.mp h39, p44.2, p44.1.trans (thS_f μ 0 4)⟩)
  · exact Or.inl ⟨fun q => h27 q.2.2, rfl, by rw [p18.1, p6.1]; rfl⟩
