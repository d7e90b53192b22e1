/-! ===== the model: what is there ===== -/
theorem m_le1 {x : Int32} {n : Nat} (hn : n < 2 ^ 31) : (0 ≤ x ∧ x ≤ nI n - 1) ↔ (0 ≤ x ∧ x < nI n) := by
  have h : (nI n).toInt = n := nI_toInt hn
  have h0 : (0 : Int32) ≤ nI n := (nI_leI (a := 0) (by decide) hn).mpr (Nat.zero_le n)
  grind
theorem m_isHum {μ : Mem} {x : Int32} {n : Nat} (hn : n < 2 ^ 31) (e : μ 71 3 = nI n) : CtP yX10_isHum cX10_isHum 2 (some .boolean) 1 [vR 67, vI x] μ (Pi (fun r μ' => μ' = μ ∧ is1 r (0 ≤ x ∧ x < nI n))) := by
  refine CtP.go RX10 rfl pn_X10 (Nat.le_of_ble_eq_true rfl) (fun C hG hR => ?_)
  refine V_iload_n (pc := 0) hG (dk dd_X10_isHum 0 rfl) rfl ?_
  refine V_i2l (pc := 1) hG (dk dd_X10_isHum 1 rfl) ?_
  refine V_lconst (pc := 2) hG (dk dd_X10_isHum 2 rfl) (v := 0) (by decide) ?_
  refine V_aload_n (pc := 3) hG (dk dd_X10_isHum 3 rfl) rfl ?_
  refine V_getR (pc := 4) hG (dk dd_X10_isHum 4 rfl) fl_X10_19 sh_67 rfl ?_
  refine V_iconst (pc := 7) hG (dk dd_X10_isHum 5 rfl) (v := 3) (by decide) ?_
  refine V_iald (pc := 8) hG (dk dd_X10_isHum 6 rfl) sh_71 (vp_in_nI (n := 3) (by decide) (by decide)) ?_
  refine V_iconst (pc := 9) hG (dk dd_X10_isHum 7 rfl) (v := 1) (by decide) ?_
  refine V_isub (pc := 10) hG (dk dd_X10_isHum 8 rfl) ?_
  refine V_i2l (pc := 11) hG (dk dd_X10_isHum 9 rfl) ?_
  refine V_callSip (pc := 12) hG (dk dd_X10_isHum 10 rfl) ml_X10_72 mo_X10_in (m_inI (v := x) (lo := 0) (hi := nI n - 1) rfl rfl (by rw [← e]; rfl)) (by decide) (by decide) rfl rfl rfl (fun x12 m12 p12 => ?_)
  refine V_zretP (pc := 15) hG (dk dd_X10_isHum 11 rfl) p12.2.bool hR (Pi.mk ?_)
  rotate_left
  -- leaves: return@15
  · rw [← m_le1 hn]; exact p12
theorem m_isCase {μ : Mem} {x : Int32} {n : Nat} (hn : n < 2 ^ 31) (e : μ 71 4 = nI n) : CtP yX10_isCase cX10_isCase 2 (some .boolean) 1 [vR 67, vI x] μ (Pi (fun r μ' => μ' = μ ∧ is1 r (0 ≤ x ∧ x < nI n))) := by
  refine CtP.go RX10 rfl pn_X10 (Nat.le_of_ble_eq_true rfl) (fun C hG hR => ?_)
  refine V_iload_n (pc := 0) hG (dk dd_X10_isCase 0 rfl) rfl ?_
  refine V_i2l (pc := 1) hG (dk dd_X10_isCase 1 rfl) ?_
  refine V_lconst (pc := 2) hG (dk dd_X10_isCase 2 rfl) (v := 0) (by decide) ?_
  refine V_aload_n (pc := 3) hG (dk dd_X10_isCase 3 rfl) rfl ?_
  refine V_getR (pc := 4) hG (dk dd_X10_isCase 4 rfl) fl_X10_19 sh_67 rfl ?_
  refine V_iconst (pc := 7) hG (dk dd_X10_isCase 5 rfl) (v := 4) (by decide) ?_
  refine V_iald (pc := 8) hG (dk dd_X10_isCase 6 rfl) sh_71 (vp_in_nI (n := 4) (by decide) (by decide)) ?_
  refine V_iconst (pc := 9) hG (dk dd_X10_isCase 7 rfl) (v := 1) (by decide) ?_
  refine V_isub (pc := 10) hG (dk dd_X10_isCase 8 rfl) ?_
  refine V_i2l (pc := 11) hG (dk dd_X10_isCase 9 rfl) ?_
  refine V_callSip (pc := 12) hG (dk dd_X10_isCase 10 rfl) ml_X10_72 mo_X10_in (m_inI (v := x) (lo := 0) (hi := nI n - 1) rfl rfl (by rw [← e]; rfl)) (by decide) (by decide) rfl rfl rfl (fun x12 m12 p12 => ?_)
  refine V_zretP (pc := 15) hG (dk dd_X10_isCase 11 rfl) p12.2.bool hR (Pi.mk ?_)
  rotate_left
  -- leaves: return@15
  · rw [← m_le1 hn]; exact p12
theorem m_isThing {μ : Mem} {x : Int32} {n : Nat} (hn : n < 2 ^ 31) (e : μ 71 0 = nI n) : CtP yX10_isThing cX10_isThing 2 (some .boolean) 1 [vR 67, vI x] μ (Pi (fun r μ' => μ' = μ ∧ is1 r (0 ≤ x ∧ x < nI n))) := by
  refine CtP.go RX10 rfl pn_X10 (Nat.le_of_ble_eq_true rfl) (fun C hG hR => ?_)
  refine V_iload_n (pc := 0) hG (dk dd_X10_isThing 0 rfl) rfl ?_
  refine V_i2l (pc := 1) hG (dk dd_X10_isThing 1 rfl) ?_
  refine V_lconst (pc := 2) hG (dk dd_X10_isThing 2 rfl) (v := 0) (by decide) ?_
  refine V_aload_n (pc := 3) hG (dk dd_X10_isThing 3 rfl) rfl ?_
  refine V_getR (pc := 4) hG (dk dd_X10_isThing 4 rfl) fl_X10_19 sh_67 rfl ?_
  refine V_iconst (pc := 7) hG (dk dd_X10_isThing 5 rfl) (v := 0) (by decide) ?_
  refine V_iald (pc := 8) hG (dk dd_X10_isThing 6 rfl) sh_71 (vp_in_nI (n := 0) (by decide) (by decide)) ?_
  refine V_iconst (pc := 9) hG (dk dd_X10_isThing 7 rfl) (v := 1) (by decide) ?_
  refine V_isub (pc := 10) hG (dk dd_X10_isThing 8 rfl) ?_
  refine V_i2l (pc := 11) hG (dk dd_X10_isThing 9 rfl) ?_
  refine V_callSip (pc := 12) hG (dk dd_X10_isThing 10 rfl) ml_X10_72 mo_X10_in (m_inI (v := x) (lo := 0) (hi := nI n - 1) rfl rfl (by rw [← e]; rfl)) (by decide) (by decide) rfl rfl rfl (fun x12 m12 p12 => ?_)
  refine V_zretP (pc := 15) hG (dk dd_X10_isThing 11 rfl) p12.2.bool hR (Pi.mk ?_)
  rotate_left
  -- leaves: return@15
  · rw [← m_le1 hn]; exact p12
theorem m_isThere {μ : Mem} : CtP yX10_isThere cX10_isThere 1 (some .boolean) 0 [vR 67] μ (Pi (fun r μ' => μ' = μ ∧ is1 r (0 < μ 71 0))) := by
  refine CtP.go RX10 rfl pn_X10 (Nat.le_of_ble_eq_true rfl) (fun C hG hR => ?_)
  refine V_aload_n (pc := 0) hG (dk dd_X10_isThere 0 rfl) rfl ?_
  refine V_getR (pc := 1) hG (dk dd_X10_isThere 1 rfl) fl_X10_19 sh_67 rfl ?_
  refine V_iconst (pc := 4) hG (dk dd_X10_isThere 2 rfl) (v := 0) (by decide) ?_
  refine V_iald (pc := 5) hG (dk dd_X10_isThere 3 rfl) sh_71 (vp_in_nI (n := 0) (by decide) (by decide)) ?_
  refine V_if_le (pc := 6) hG (dk dd_X10_isThere 4 rfl) (tgt := 13) (by decide) (fun h6 => ?_) (fun h6 => ?_)
  refine V_iconst (pc := 13) hG (dk dd_X10_isThere 7 rfl) (v := 0) (by decide) ?_
  refine V_zretP (pc := 14) hG (dk dd_X10_isThere 8 rfl) (by decide) hR (Pi.mk ?_)
  rotate_left
  refine V_iconst (pc := 9) hG (dk dd_X10_isThere 5 rfl) (v := 1) (by decide) ?_
  refine V_goto (pc := 10) hG (dk dd_X10_isThere 6 rfl) (tgt := 14) (by decide) ?_
  refine V_zretP (pc := 14) hG (dk dd_X10_isThere 8 rfl) (by decide) hR (Pi.mk ?_)
  rotate_left
  -- leaves: return@14; return@14
  · first | exact ⟨rfl, is1.f (Int32.not_lt.mpr h6)⟩ | exact ⟨rfl, is1.t (Int32.not_le.mp h6)⟩
  · first | exact ⟨rfl, is1.f (Int32.not_lt.mpr h6)⟩ | exact ⟨rfl, is1.t (Int32.not_le.mp h6)⟩
theorem m_allDreams {μ : Mem} {t : Nat} (e : μ 71 0 = nI t) (ht : t < 31) : CtP yX10_allDreams cX10_allDreams 1 (some .int) 0 [vR 67] μ (Pi (fun r μ' => μ' = μ ∧ r = nI (2 ^ t))) := by
  refine CtP.go RX10 rfl pn_X10 (Nat.le_of_ble_eq_true rfl) (fun C hG hR => ?_)
  refine V_iconst (pc := 0) hG (dk dd_X10_allDreams 0 rfl) (v := 1) (by decide) ?_
  refine V_aload_n (pc := 1) hG (dk dd_X10_allDreams 1 rfl) rfl ?_
  refine V_getR (pc := 2) hG (dk dd_X10_allDreams 2 rfl) fl_X10_19 sh_67 rfl ?_
  refine V_iconst (pc := 5) hG (dk dd_X10_allDreams 3 rfl) (v := 0) (by decide) ?_
  refine V_iald (pc := 6) hG (dk dd_X10_allDreams 4 rfl) sh_71 (vp_in_nI (n := 0) (by decide) (by decide)) ?_
  refine V_ishl (pc := 7) hG (dk dd_X10_allDreams 5 rfl) ?_
  refine V_iretP (pc := 8) hG (dk dd_X10_allDreams 6 rfl) hR (Pi.mk ?_)
  rotate_left
  -- leaves: return@8
  · refine ⟨rfl, ?_⟩; rw [show Int32.toNatClampNeg 0 = 0 from rfl, e, ← q_pow t ht]; rfl
theorem m_areThings {μ : Mem} {x : Int32} {t : Nat} (e : μ 71 0 = nI t) (ht : t < 31) : CtP yX10_areThings cX10_areThings 2 (some .boolean) 1 [vR 67, vI x] μ (Pi (fun r μ' => μ' = μ ∧ is1 r (0 ≤ x ∧ x < nI (2 ^ t)))) := by
  refine CtP.go RX10 rfl pn_X10 (Nat.le_of_ble_eq_true rfl) (fun C hG hR => ?_)
  refine V_iload_n (pc := 0) hG (dk dd_X10_areThings 0 rfl) rfl ?_
  refine V_i2l (pc := 1) hG (dk dd_X10_areThings 1 rfl) ?_
  refine V_lconst (pc := 2) hG (dk dd_X10_areThings 2 rfl) (v := 0) (by decide) ?_
  refine V_aload_n (pc := 3) hG (dk dd_X10_areThings 3 rfl) rfl ?_
  refine V_callVip (pc := 4) hG (dk dd_X10_areThings 4 rfl) ml_X10_173 mo_X10_allDreams sh_67 rfl (m_allDreams e ht) (by decide) (by decide) rfl rfl rfl (fun x4 m4 p4 => ?_)
  refine V_iconst (pc := 7) hG (dk dd_X10_areThings 5 rfl) (v := 1) (by decide) ?_
  refine V_isub (pc := 8) hG (dk dd_X10_areThings 6 rfl) ?_
  refine V_i2l (pc := 9) hG (dk dd_X10_areThings 7 rfl) ?_
  refine V_callSip (pc := 10) hG (dk dd_X10_areThings 8 rfl) ml_X10_72 mo_X10_in (m_inI (v := x) (lo := 0) (hi := nI (2 ^ t) - 1) rfl rfl (by rw [← p4.2])) (by decide) (by decide) rfl rfl rfl (fun x10 m10 p10 => ?_)
  refine V_zretP (pc := 13) hG (dk dd_X10_areThings 9 rfl) p10.2.bool hR (Pi.mk ?_)
  rotate_left
  -- leaves: return@13
  · rw [p4.1, m_le1 (Nat.pow_lt_pow_right (by decide) ht)] at p10; exact p10
theorem m_layThen {μ : Mem} : CtP yX10_layThen cX10_layThen 2 none 0 [vR 67] μ (Pv (fun μ' => (∀ i, i < 46 → μ' 73 i = μ 71 i) ∧ ∀ j, j ≠ 73 → μ' j = μ j)) := by
  refine CtP.go RX10 rfl pn_X10 (Nat.le_of_ble_eq_true rfl) (fun C hG hR => ?_)
  have loop : ∀ k i m, i + k = 46 → (∀ q, q < i → m 73 q = μ 71 q) → (∀ j, j ≠ 73 → m j = μ j) → V C 2 [(0, vR 67), (1, vI (nI i))] [] m := by
    intro k
    induction k with
    | zero =>
      intro i m hi h1 h2
      refine V_iload_n (pc := 2) hG (dk dd_X10_layThen 2 rfl) rfl ?_
      refine V_bipush (pc := 3) hG (dk dd_X10_layThen 3 rfl) (v := 46) (by decide) ?_
      refine V_icmp_ge (pc := 5) hG (dk dd_X10_layThen 4 rfl) (tgt := 26) (by decide) (fun h5 => ?_) (fun h5 => ?_)
      refine V_vretP (pc := 26) hG (dk dd_X10_layThen 15 rfl) hR (Pv.mk ?_)
      rotate_left
      rotate_left
      -- leaves: return@26; stop 8
      · exact ⟨fun q hq => h1 q (by omega), h2⟩
      · exfalso; have := nle_i (a := 46) h5 (by omega) (by omega); omega
    | succ k ih =>
      intro i m hi h1 h2
      have r : vp_in (nI i) 46 := vp_in_nI (by omega) (by decide)
      refine V_iload_n (pc := 2) hG (dk dd_X10_layThen 2 rfl) rfl ?_
      refine V_bipush (pc := 3) hG (dk dd_X10_layThen 3 rfl) (v := 46) (by decide) ?_
      refine V_icmp_ge (pc := 5) hG (dk dd_X10_layThen 4 rfl) (tgt := 26) (by decide) (fun h5 => ?_) (fun h5 => ?_)
      rotate_left
      refine V_aload_n (pc := 8) hG (dk dd_X10_layThen 5 rfl) rfl ?_
      refine V_getR (pc := 9) hG (dk dd_X10_layThen 6 rfl) fl_X10_25 sh_67 rfl ?_
      refine V_iload_n (pc := 12) hG (dk dd_X10_layThen 7 rfl) rfl ?_
      refine V_aload_n (pc := 13) hG (dk dd_X10_layThen 8 rfl) rfl ?_
      refine V_getR (pc := 14) hG (dk dd_X10_layThen 9 rfl) fl_X10_19 sh_67 rfl ?_
      refine V_iload_n (pc := 17) hG (dk dd_X10_layThen 10 rfl) rfl ?_
      refine V_iald (pc := 18) hG (dk dd_X10_layThen 11 rfl) sh_71 r ?_
      refine V_iast (pc := 19) hG (dk dd_X10_layThen 12 rfl) sh_73 r ?_
      refine V_iinc (pc := 20) hG (dk dd_X10_layThen 13 rfl) rfl (v := _ + 1) rfl (by decide) (lv' := [(0, _), (1, _)]) rfl ?_
      refine V_goto (pc := 23) hG (dk dd_X10_layThen 14 rfl) (tgt := 2) (by decide) ?_
      rotate_left
      -- leaves: stop 26; stop 2
      · exfalso; have := le_i (a := 46) h5 (by omega) (by omega); omega
      · rw [← nI_succ]
        refine ih (i + 1) _ (by omega) (fun q hq => ?_) (fun j hj => ?_)
        · rw [setc_s, nI_clamp (by omega), upd_at]
          by_cases z : q = i
          · rw [if_pos z, z, h2 71 (by decide)]
          · rw [if_neg z]; exact h1 q (by omega)
        · rw [setc_n hj]; exact h2 j hj
  refine V_iconst (pc := 0) hG (dk dd_X10_layThen 0 rfl) (v := 0) (by decide) ?_
  refine V_istore_n (pc := 1) hG (dk dd_X10_layThen 1 rfl) (by decide) (lv' := [(0, _), (1, _)]) rfl ?_
  rotate_left
  -- leaves: stop 2
  · exact loop 46 0 μ (by omega) (fun q hq => by omega) (fun j hj => rfl)
