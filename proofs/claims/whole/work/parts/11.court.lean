/-! ===== SleepingJudge$Court: what is asked of it ===== -/
theorem c_isTold {b : Nat} {μ : Mem} (hb : IsCo b) : Ct yX2_isTold cX2_isTold 1 (some .boolean) 0 [vR b] μ (some (vI (if 0 < μ b 0 then 1 else 0))) μ := by
  refine Ct.go RX2 rfl pn_X2 (Nat.le_of_ble_eq_true rfl) (fun C hG hR => ?_)
  refine V_aload_n (pc := 0) hG (dk dd_X2_isTold 0 rfl) rfl ?_
  refine V_getI (pc := 1) hG (dk dd_X2_isTold 1 rfl) fl_X2_33 hb.s0 rfl ?_
  refine V_if_le (pc := 4) hG (dk dd_X2_isTold 2 rfl) (tgt := 11) (by decide) (fun h4 => ?_) (fun h4 => ?_)
  refine V_iconst (pc := 11) hG (dk dd_X2_isTold 5 rfl) (v := 0) (by decide) ?_
  refine V_zret (pc := 12) hG (dk dd_X2_isTold 6 rfl) (by decide) ?_
  rotate_left
  refine V_iconst (pc := 7) hG (dk dd_X2_isTold 3 rfl) (v := 1) (by decide) ?_
  refine V_goto (pc := 8) hG (dk dd_X2_isTold 4 rfl) (tgt := 12) (by decide) ?_
  refine V_zret (pc := 12) hG (dk dd_X2_isTold 6 rfl) (by decide) ?_
  rotate_left
  -- leaves: return@12; return@12
  · exact hR.i (if_neg (Int32.not_lt.mpr h4)).symm rfl
  · exact hR.i (if_pos (Int32.not_le.mp h4)).symm rfl
theorem c_isHum {b : Nat} {μ : Mem} (hb : IsCo b) {h : Int32} : Ct yX2_isHum cX2_isHum 2 (some .boolean) 0 [vR b, vI h] μ (some (vI (if 0 ≤ h ∧ h < μ b 6 then 1 else 0))) μ := by
  refine Ct.go RX2 rfl pn_X2 (Nat.le_of_ble_eq_true rfl) (fun C hG hR => ?_)
  refine V_iload_n (pc := 0) hG (dk dd_X2_isHum 0 rfl) rfl ?_
  refine V_if_lt (pc := 1) hG (dk dd_X2_isHum 1 rfl) (tgt := 16) (by decide) (fun h1 => ?_) (fun h1 => ?_)
  refine V_iconst (pc := 16) hG (dk dd_X2_isHum 8 rfl) (v := 0) (by decide) ?_
  refine V_zret (pc := 17) hG (dk dd_X2_isHum 9 rfl) (by decide) ?_
  rotate_left
  refine V_iload_n (pc := 4) hG (dk dd_X2_isHum 2 rfl) rfl ?_
  refine V_aload_n (pc := 5) hG (dk dd_X2_isHum 3 rfl) rfl ?_
  refine V_getI (pc := 6) hG (dk dd_X2_isHum 4 rfl) fl_X2_52 hb.s0 rfl ?_
  refine V_icmp_ge (pc := 9) hG (dk dd_X2_isHum 5 rfl) (tgt := 16) (by decide) (fun h9 => ?_) (fun h9 => ?_)
  refine V_iconst (pc := 16) hG (dk dd_X2_isHum 8 rfl) (v := 0) (by decide) ?_
  refine V_zret (pc := 17) hG (dk dd_X2_isHum 9 rfl) (by decide) ?_
  rotate_left
  refine V_iconst (pc := 12) hG (dk dd_X2_isHum 6 rfl) (v := 1) (by decide) ?_
  refine V_goto (pc := 13) hG (dk dd_X2_isHum 7 rfl) (tgt := 17) (by decide) ?_
  refine V_zret (pc := 17) hG (dk dd_X2_isHum 9 rfl) (by decide) ?_
  rotate_left
  -- leaves: return@17; return@17; return@17
  · exact hR.i (if_neg (fun q => Int32.not_lt.mpr q.1 h1)).symm rfl
  · exact hR.i (if_neg (fun q => Int32.not_lt.mpr h9 q.2)).symm rfl
  · exact hR.i (if_pos ⟨Int32.not_lt.mp h1, Int32.not_le.mp h9⟩).symm rfl
theorem c_isCase {b : Nat} {μ : Mem} (hb : IsCo b) {h : Int32} : Ct yX2_isCase cX2_isCase 2 (some .boolean) 0 [vR b, vI h] μ (some (vI (if 0 ≤ h ∧ h < μ b 7 then 1 else 0))) μ := by
  refine Ct.go RX2 rfl pn_X2 (Nat.le_of_ble_eq_true rfl) (fun C hG hR => ?_)
  refine V_iload_n (pc := 0) hG (dk dd_X2_isCase 0 rfl) rfl ?_
  refine V_if_lt (pc := 1) hG (dk dd_X2_isCase 1 rfl) (tgt := 16) (by decide) (fun h1 => ?_) (fun h1 => ?_)
  refine V_iconst (pc := 16) hG (dk dd_X2_isCase 8 rfl) (v := 0) (by decide) ?_
  refine V_zret (pc := 17) hG (dk dd_X2_isCase 9 rfl) (by decide) ?_
  rotate_left
  refine V_iload_n (pc := 4) hG (dk dd_X2_isCase 2 rfl) rfl ?_
  refine V_aload_n (pc := 5) hG (dk dd_X2_isCase 3 rfl) rfl ?_
  refine V_getI (pc := 6) hG (dk dd_X2_isCase 4 rfl) fl_X2_55 hb.s0 rfl ?_
  refine V_icmp_ge (pc := 9) hG (dk dd_X2_isCase 5 rfl) (tgt := 16) (by decide) (fun h9 => ?_) (fun h9 => ?_)
  refine V_iconst (pc := 16) hG (dk dd_X2_isCase 8 rfl) (v := 0) (by decide) ?_
  refine V_zret (pc := 17) hG (dk dd_X2_isCase 9 rfl) (by decide) ?_
  rotate_left
  refine V_iconst (pc := 12) hG (dk dd_X2_isCase 6 rfl) (v := 1) (by decide) ?_
  refine V_goto (pc := 13) hG (dk dd_X2_isCase 7 rfl) (tgt := 17) (by decide) ?_
  refine V_zret (pc := 17) hG (dk dd_X2_isCase 9 rfl) (by decide) ?_
  rotate_left
  -- leaves: return@17; return@17; return@17
  · exact hR.i (if_neg (fun q => Int32.not_lt.mpr q.1 h1)).symm rfl
  · exact hR.i (if_neg (fun q => Int32.not_lt.mpr h9 q.2)).symm rfl
  · exact hR.i (if_pos ⟨Int32.not_lt.mp h1, Int32.not_le.mp h9⟩).symm rfl
theorem c_isThing {b : Nat} {μ : Mem} (hb : IsCo b) {h : Int32} : Ct yX2_isThing cX2_isThing 2 (some .boolean) 0 [vR b, vI h] μ (some (vI (if 0 ≤ h ∧ h < μ b 0 then 1 else 0))) μ := by
  refine Ct.go RX2 rfl pn_X2 (Nat.le_of_ble_eq_true rfl) (fun C hG hR => ?_)
  refine V_iload_n (pc := 0) hG (dk dd_X2_isThing 0 rfl) rfl ?_
  refine V_if_lt (pc := 1) hG (dk dd_X2_isThing 1 rfl) (tgt := 16) (by decide) (fun h1 => ?_) (fun h1 => ?_)
  refine V_iconst (pc := 16) hG (dk dd_X2_isThing 8 rfl) (v := 0) (by decide) ?_
  refine V_zret (pc := 17) hG (dk dd_X2_isThing 9 rfl) (by decide) ?_
  rotate_left
  refine V_iload_n (pc := 4) hG (dk dd_X2_isThing 2 rfl) rfl ?_
  refine V_aload_n (pc := 5) hG (dk dd_X2_isThing 3 rfl) rfl ?_
  refine V_getI (pc := 6) hG (dk dd_X2_isThing 4 rfl) fl_X2_33 hb.s0 rfl ?_
  refine V_icmp_ge (pc := 9) hG (dk dd_X2_isThing 5 rfl) (tgt := 16) (by decide) (fun h9 => ?_) (fun h9 => ?_)
  refine V_iconst (pc := 16) hG (dk dd_X2_isThing 8 rfl) (v := 0) (by decide) ?_
  refine V_zret (pc := 17) hG (dk dd_X2_isThing 9 rfl) (by decide) ?_
  rotate_left
  refine V_iconst (pc := 12) hG (dk dd_X2_isThing 6 rfl) (v := 1) (by decide) ?_
  refine V_goto (pc := 13) hG (dk dd_X2_isThing 7 rfl) (tgt := 17) (by decide) ?_
  refine V_zret (pc := 17) hG (dk dd_X2_isThing 9 rfl) (by decide) ?_
  rotate_left
  -- leaves: return@17; return@17; return@17
  · exact hR.i (if_neg (fun q => Int32.not_lt.mpr q.1 h1)).symm rfl
  · exact hR.i (if_neg (fun q => Int32.not_lt.mpr h9 q.2)).symm rfl
  · exact hR.i (if_pos ⟨Int32.not_lt.mp h1, Int32.not_le.mp h9⟩).symm rfl
theorem c_dreamCount {b : Nat} {μ : Mem} (hb : IsCo b) : Ct yX2_dreamCount cX2_dreamCount 1 (some .int) 0 [vR b] μ (some (vI (bI (μ b 0)))) μ := by
  refine Ct.go RX2 rfl pn_X2 (Nat.le_of_ble_eq_true rfl) (fun C hG hR => ?_)
  refine V_iconst (pc := 0) hG (dk dd_X2_dreamCount 0 rfl) (v := 1) (by decide) ?_
  refine V_aload_n (pc := 1) hG (dk dd_X2_dreamCount 1 rfl) rfl ?_
  refine V_getI (pc := 2) hG (dk dd_X2_dreamCount 2 rfl) fl_X2_33 hb.s0 rfl ?_
  refine V_ishl (pc := 5) hG (dk dd_X2_dreamCount 3 rfl) ?_
  refine V_iret (pc := 6) hG (dk dd_X2_dreamCount 4 rfl) ?_
  rotate_left
  -- leaves: return@6
  · exact hR
theorem c_isDream {b : Nat} {μ : Mem} (hb : IsCo b) {h : Int32} : Ct yX2_isDream cX2_isDream 2 (some .boolean) 1 [vR b, vI h] μ (some (vI (if 0 ≤ h ∧ h < bI (μ b 0) then 1 else 0))) μ := by
  refine Ct.go RX2 rfl pn_X2 (Nat.le_of_ble_eq_true rfl) (fun C hG hR => ?_)
  refine V_iload_n (pc := 0) hG (dk dd_X2_isDream 0 rfl) rfl ?_
  refine V_if_lt (pc := 1) hG (dk dd_X2_isDream 1 rfl) (tgt := 16) (by decide) (fun h1 => ?_) (fun h1 => ?_)
  refine V_iconst (pc := 16) hG (dk dd_X2_isDream 8 rfl) (v := 0) (by decide) ?_
  refine V_zret (pc := 17) hG (dk dd_X2_isDream 9 rfl) (by decide) ?_
  rotate_left
  refine V_iload_n (pc := 4) hG (dk dd_X2_isDream 2 rfl) rfl ?_
  refine V_aload_n (pc := 5) hG (dk dd_X2_isDream 3 rfl) rfl ?_
  refine V_callVi (pc := 6) hG (dk dd_X2_isDream 4 rfl) ml_X2_70 mo_X2_dreamCount hb.s0 rfl (c_dreamCount hb) (by decide) (by decide) rfl rfl rfl ?_
  refine V_icmp_ge (pc := 9) hG (dk dd_X2_isDream 5 rfl) (tgt := 16) (by decide) (fun h9 => ?_) (fun h9 => ?_)
  refine V_iconst (pc := 16) hG (dk dd_X2_isDream 8 rfl) (v := 0) (by decide) ?_
  refine V_zret (pc := 17) hG (dk dd_X2_isDream 9 rfl) (by decide) ?_
  rotate_left
  refine V_iconst (pc := 12) hG (dk dd_X2_isDream 6 rfl) (v := 1) (by decide) ?_
  refine V_goto (pc := 13) hG (dk dd_X2_isDream 7 rfl) (tgt := 17) (by decide) ?_
  refine V_zret (pc := 17) hG (dk dd_X2_isDream 9 rfl) (by decide) ?_
  rotate_left
  -- leaves: return@17; return@17; return@17
  · exact hR.i (if_neg (fun q => Int32.not_lt.mpr q.1 h1)).symm rfl
  · exact hR.i (if_neg (fun q => Int32.not_lt.mpr h9 q.2)).symm rfl
  · exact hR.i (if_pos ⟨Int32.not_lt.mp h1, Int32.not_le.mp h9⟩).symm rfl
theorem c_thingBehind {b : Nat} {μ : Mem} (hb : IsCo b) {k : Int32} : Ct yX2_thingBehind cX2_thingBehind 2 (some .int) 0 [vR b, vI k] μ (some (vI (if μ b 0 ≤ k + 1 then 0 else k + 1))) μ := by
  refine Ct.go RX2 rfl pn_X2 (Nat.le_of_ble_eq_true rfl) (fun C hG hR => ?_)
  refine V_iload_n (pc := 0) hG (dk dd_X2_thingBehind 0 rfl) rfl ?_
  refine V_iconst (pc := 1) hG (dk dd_X2_thingBehind 1 rfl) (v := 1) (by decide) ?_
  refine V_iadd (pc := 2) hG (dk dd_X2_thingBehind 2 rfl) ?_
  refine V_aload_n (pc := 3) hG (dk dd_X2_thingBehind 3 rfl) rfl ?_
  refine V_getI (pc := 4) hG (dk dd_X2_thingBehind 4 rfl) fl_X2_33 hb.s0 rfl ?_
  refine V_icmp_ge (pc := 7) hG (dk dd_X2_thingBehind 5 rfl) (tgt := 16) (by decide) (fun h7 => ?_) (fun h7 => ?_)
  refine V_iconst (pc := 16) hG (dk dd_X2_thingBehind 10 rfl) (v := 0) (by decide) ?_
  refine V_iret (pc := 17) hG (dk dd_X2_thingBehind 11 rfl) ?_
  rotate_left
  refine V_iload_n (pc := 10) hG (dk dd_X2_thingBehind 6 rfl) rfl ?_
  refine V_iconst (pc := 11) hG (dk dd_X2_thingBehind 7 rfl) (v := 1) (by decide) ?_
  refine V_iadd (pc := 12) hG (dk dd_X2_thingBehind 8 rfl) ?_
  refine V_goto (pc := 13) hG (dk dd_X2_thingBehind 9 rfl) (tgt := 17) (by decide) ?_
  refine V_iret (pc := 17) hG (dk dd_X2_thingBehind 11 rfl) ?_
  rotate_left
  -- leaves: return@17; return@17
  · exact hR.i (if_pos h7).symm rfl
  · exact hR.i (if_neg h7).symm rfl
theorem c_byKind {b : Nat} {μ : Mem} (hb : IsCo b) {kd th ot d : Int32} {t k K O D : Nat} (hT : μ b 0 = nI t) (ht : t ≤ 8) (hk : kd = nI k) (hk1 : 1 ≤ k ∧ k ≤ 5) (hth : th = nI K) (hK : K < t) (hot : ot = nI O) (hO : O < t) (hd : d = nI D) (hD : D < 256) :
    Ct yX2_byKind cX2_byKind 8 (some .int) 1 [vR b, vI kd, vI th, vI ot, vI d] μ (some (vI (nI (humB t k K O D)))) μ := by
  refine Ct.go RX2 rfl pn_X2 (Nat.le_of_ble_eq_true rfl) (fun C hG hR => ?_)
  subst hk hth hot hd
  have hKK : K < 8 := by omega
  have hOO : O < 8 := by omega
  have hbb : bhN t K < 8 := by have := bhN_lt hK; omega
  have hor : D ||| 2 ^ K < 256 := or_lt (t := 8) hD hKK
  have hcl : clr D O < 256 := Nat.lt_of_le_of_lt (clr_le D O) hD
  have hbeh : (if μ b 0 ≤ nI K + 1 then 0 else nI K + 1) = nI (bhN t K) := by
    rw [hT, nI_1]; unfold bhN
    by_cases q : t ≤ K + 1
    · rw [if_pos q, if_pos ((nI_leI (by omega) (by omega)).mpr q)]; rfl
    · rw [if_neg q, if_neg (fun z => q ((nI_leI (by omega) (by omega)).mp z))]
  have ne : ∀ {j : Nat}, j < 6 → ∀ {z : Int32}, nI k = z → z = nI j → k = j := fun hj _ e1 e2 => (nI_eq (by omega) (by omega)).mp (e1.trans e2)
  have fin : ∀ z : Int32, (z = 1 ∧ D.testBit O = true) ∨ (z = 0 ∧ D.testBit O = false) → V C 25 [(0, vR b), (1, vI (nI k)), (2, vI (nI K)), (3, vI (nI O)), (4, vI (nI D)), (5, vI (bI (nI K))), (6, vI (bI (nI O))), (7, vI z)] [] μ := by
    intro z hz
    refine V_iload_n (pc := 25) hG (dk dd_X2_byKind 16 rfl) rfl ?_
    refine V_tsw (pc := 26) hG (dk dd_X2_byKind 17 rfl) (cs := [(1, 60), (2, 66), (3, 80), (4, 96), (5, 104)]) (td := 125) (by decide +kernel) ?_
    refine And.intro (fun h26_1 => ?_) (fun h26_1 => ?_)
    refine V_iload (pc := 60) hG (dk dd_X2_byKind 18 rfl) rfl ?_
    refine V_iload (pc := 62) hG (dk dd_X2_byKind 19 rfl) rfl ?_
    refine V_ior (pc := 64) hG (dk dd_X2_byKind 20 rfl) ?_
    refine V_iret (pc := 65) hG (dk dd_X2_byKind 21 rfl) ?_
    rotate_left
    refine And.intro (fun h26_2 => ?_) (fun h26_2 => ?_)
    refine V_iload (pc := 66) hG (dk dd_X2_byKind 22 rfl) rfl ?_
    refine V_iload (pc := 68) hG (dk dd_X2_byKind 23 rfl) rfl ?_
    refine V_ior (pc := 70) hG (dk dd_X2_byKind 24 rfl) ?_
    refine V_iconst (pc := 71) hG (dk dd_X2_byKind 25 rfl) (v := 1) (by decide) ?_
    refine V_aload_n (pc := 72) hG (dk dd_X2_byKind 26 rfl) rfl ?_
    refine V_iload_n (pc := 73) hG (dk dd_X2_byKind 27 rfl) rfl ?_
    refine V_callVi (pc := 74) hG (dk dd_X2_byKind 28 rfl) ml_X2_78 mo_X2_thingBehind hb.s0 rfl (c_thingBehind hb) (by decide) (by decide) rfl rfl rfl ?_
    refine V_ishl (pc := 77) hG (dk dd_X2_byKind 29 rfl) ?_
    refine V_ior (pc := 78) hG (dk dd_X2_byKind 30 rfl) ?_
    refine V_iret (pc := 79) hG (dk dd_X2_byKind 31 rfl) ?_
    rotate_left
    refine And.intro (fun h26_3 => ?_) (fun h26_3 => ?_)
    refine V_iload (pc := 80) hG (dk dd_X2_byKind 32 rfl) rfl ?_
    refine V_if_eq (pc := 82) hG (dk dd_X2_byKind 33 rfl) (tgt := 93) (by decide) (fun h82 => ?_) (fun h82 => ?_)
    refine V_iload (pc := 93) hG (dk dd_X2_byKind 38 rfl) rfl ?_
    refine V_iret (pc := 95) hG (dk dd_X2_byKind 39 rfl) ?_
    rotate_left
    refine V_iload (pc := 85) hG (dk dd_X2_byKind 34 rfl) rfl ?_
    refine V_iload (pc := 87) hG (dk dd_X2_byKind 35 rfl) rfl ?_
    refine V_ior (pc := 89) hG (dk dd_X2_byKind 36 rfl) ?_
    refine V_goto (pc := 90) hG (dk dd_X2_byKind 37 rfl) (tgt := 95) (by decide) ?_
    refine V_iret (pc := 95) hG (dk dd_X2_byKind 39 rfl) ?_
    rotate_left
    refine And.intro (fun h26_4 => ?_) (fun h26_4 => ?_)
    refine V_iload (pc := 96) hG (dk dd_X2_byKind 40 rfl) rfl ?_
    refine V_iload (pc := 98) hG (dk dd_X2_byKind 41 rfl) rfl ?_
    refine V_iconst (pc := 100) hG (dk dd_X2_byKind 42 rfl) (v := -1) (by decide) ?_
    refine V_ixor (pc := 101) hG (dk dd_X2_byKind 43 rfl) ?_
    refine V_iand (pc := 102) hG (dk dd_X2_byKind 44 rfl) ?_
    refine V_iret (pc := 103) hG (dk dd_X2_byKind 45 rfl) ?_
    rotate_left
    refine And.intro (fun h26_5 => ?_) (fun h26_5 => ?_)
    refine V_iload (pc := 104) hG (dk dd_X2_byKind 46 rfl) rfl ?_
    refine V_if_eq (pc := 106) hG (dk dd_X2_byKind 47 rfl) (tgt := 122) (by decide) (fun h106 => ?_) (fun h106 => ?_)
    refine V_iload (pc := 122) hG (dk dd_X2_byKind 56 rfl) rfl ?_
    refine V_iret (pc := 124) hG (dk dd_X2_byKind 57 rfl) ?_
    rotate_left
    refine V_iload (pc := 109) hG (dk dd_X2_byKind 48 rfl) rfl ?_
    refine V_iload (pc := 111) hG (dk dd_X2_byKind 49 rfl) rfl ?_
    refine V_iconst (pc := 113) hG (dk dd_X2_byKind 50 rfl) (v := -1) (by decide) ?_
    refine V_ixor (pc := 114) hG (dk dd_X2_byKind 51 rfl) ?_
    refine V_iand (pc := 115) hG (dk dd_X2_byKind 52 rfl) ?_
    refine V_iload (pc := 116) hG (dk dd_X2_byKind 53 rfl) rfl ?_
    refine V_ior (pc := 118) hG (dk dd_X2_byKind 54 rfl) ?_
    refine V_goto (pc := 119) hG (dk dd_X2_byKind 55 rfl) (tgt := 124) (by decide) ?_
    refine V_iret (pc := 124) hG (dk dd_X2_byKind 57 rfl) ?_
    rotate_left
    show V _ _ _ _ _
    refine V_iload (pc := 125) hG (dk dd_X2_byKind 58 rfl) rfl ?_
    refine V_iret (pc := 127) hG (dk dd_X2_byKind 59 rfl) ?_
    rotate_left
    -- leaves: return@65; return@79; return@95; return@95; return@103; return@124; return@124; return@127
    · have e := ne (by decide) h26_1 (j := 1) rfl; subst e
      exact hR.i (q_or D hD K hKK) rfl
    · have e := ne (by decide) h26_2 (j := 2) rfl; subst e
      refine hR.i ?_ rfl
      rw [hbeh, q_or D hD K hKK, bI_eq, q_or _ hor _ hbb]; rfl
    · have e := ne (by decide) h26_3 (j := 3) rfl; subst e
      refine hR.i ?_ rfl
      rcases hz with z1 | z1
      · exact absurd (h82.symm.trans z1.1) (by decide)
      · unfold humB; rw [if_neg (by decide), if_neg (by decide), if_pos rfl, z1.2]; rfl
    · have e := ne (by decide) h26_3 (j := 3) rfl; subst e
      refine hR.i ?_ rfl
      rcases hz with z1 | z1
      · unfold humB; rw [if_neg (by decide), if_neg (by decide), if_pos rfl, z1.2, q_or D hD K hKK]; rfl
      · exact absurd z1.1 h82
    · have e := ne (by decide) h26_4 (j := 4) rfl; subst e
      exact hR.i (q_clr D hD O hOO) rfl
    · have e := ne (by decide) h26_5 (j := 5) rfl; subst e
      refine hR.i ?_ rfl
      rcases hz with z1 | z1
      · exact absurd (h106.symm.trans z1.1) (by decide)
      · unfold humB; rw [if_neg (by decide), if_neg (by decide), if_neg (by decide), if_neg (by decide), z1.2]; rfl
    · have e := ne (by decide) h26_5 (j := 5) rfl; subst e
      refine hR.i ?_ rfl
      rcases hz with z1 | z1
      · unfold humB; rw [if_neg (by decide), if_neg (by decide), if_neg (by decide), if_neg (by decide), z1.2, q_clr D hD O hOO, q_or _ hcl K hKK]; rfl
      · exact absurd z1.1 h106
    · exfalso
      rcases (show k = 1 ∨ k = 2 ∨ k = 3 ∨ k = 4 ∨ k = 5 by omega) with q | q | q | q | q <;> subst q
      · exact h26_1 rfl
      · exact h26_2 rfl
      · exact h26_3 rfl
      · exact h26_4 rfl
      · exact h26_5 rfl
  refine V_iconst (pc := 0) hG (dk dd_X2_byKind 0 rfl) (v := 1) (by decide) ?_
  refine V_iload_n (pc := 1) hG (dk dd_X2_byKind 1 rfl) rfl ?_
  refine V_ishl (pc := 2) hG (dk dd_X2_byKind 2 rfl) ?_
  refine V_istore (pc := 3) hG (dk dd_X2_byKind 3 rfl) (by decide) (lv' := [(0, _), (1, _), (2, _), (3, _), (4, _), (5, _)]) rfl ?_
  refine V_iconst (pc := 5) hG (dk dd_X2_byKind 4 rfl) (v := 1) (by decide) ?_
  refine V_iload_n (pc := 6) hG (dk dd_X2_byKind 5 rfl) rfl ?_
  refine V_ishl (pc := 7) hG (dk dd_X2_byKind 6 rfl) ?_
  refine V_istore (pc := 8) hG (dk dd_X2_byKind 7 rfl) (by decide) (lv' := [(0, _), (1, _), (2, _), (3, _), (4, _), (5, _), (6, _)]) rfl ?_
  refine V_iload (pc := 10) hG (dk dd_X2_byKind 8 rfl) rfl ?_
  refine V_iload (pc := 12) hG (dk dd_X2_byKind 9 rfl) rfl ?_
  refine V_iand (pc := 14) hG (dk dd_X2_byKind 10 rfl) ?_
  refine V_if_eq (pc := 15) hG (dk dd_X2_byKind 11 rfl) (tgt := 22) (by decide) (fun h15 => ?_) (fun h15 => ?_)
  refine V_iconst (pc := 22) hG (dk dd_X2_byKind 14 rfl) (v := 0) (by decide) ?_
  refine V_istore (pc := 23) hG (dk dd_X2_byKind 15 rfl) (by decide) (lv' := [(0, _), (1, _), (2, _), (3, _), (4, _), (5, _), (6, _), (7, _)]) rfl ?_
  rotate_left
  refine V_iconst (pc := 18) hG (dk dd_X2_byKind 12 rfl) (v := 1) (by decide) ?_
  refine V_goto (pc := 19) hG (dk dd_X2_byKind 13 rfl) (tgt := 23) (by decide) ?_
  refine V_istore (pc := 23) hG (dk dd_X2_byKind 15 rfl) (by decide) (lv' := [(0, _), (1, _), (2, _), (3, _), (4, _), (5, _), (6, _), (7, _)]) rfl ?_
  rotate_left
  -- leaves: stop 25; stop 25
  · exact fin 0 (Or.inr ⟨rfl, (q_and D hD O hOO).mp h15⟩)
  · exact fin 1 (Or.inl ⟨rfl, by cases hq : D.testBit O with | true => rfl | false => exact absurd ((q_and D hD O hOO).mpr hq) h15⟩)
theorem c_by {b : Nat} {μ : Mem} {α : Al} (hb : IsCo b) (hA : Abs (kac μ b) α) (hv : Val α) {x d : Int32} {h D : Nat} (hx : x = nI h) (hh : h < α 0 6) (hd : d = nI D) (hD : D < 2 ^ α 0 0) :
    Ct yX2_by cX2_by 3 (some .int) 2 [vR b, vI x, vI d] μ (some (vI (nI (humN α h D)))) μ := by
  refine Ct.go RX2 rfl pn_X2 (Nat.le_of_ble_eq_true rfl) (fun C hG hR => ?_)
  have hH := hv.H
  have hk := hv.h hh
  have hr : vp_in x 6 := in_nI hx (by omega) (by decide)
  have hc : x.toNatClampNeg = h := nI_cl hx (by omega)
  have e1 : μ (b + 1) x.toNatClampNeg = nI (α 1 h) := by rw [hc]; exact hA.2.1 1 h (by decide) (by decide) hh
  have e2 : μ (b + 2) x.toNatClampNeg = nI (α 2 h) := by rw [hc]; exact hA.2.1 2 h (by decide) (by decide) hh
  have e3 : μ (b + 3) x.toNatClampNeg = nI (α 3 h) := by rw [hc]; exact hA.2.1 3 h (by decide) (by decide) hh
  refine V_aload_n (pc := 0) hG (dk dd_X2_by 0 rfl) rfl ?_
  refine V_aload_n (pc := 1) hG (dk dd_X2_by 1 rfl) rfl ?_
  refine V_getR (pc := 2) hG (dk dd_X2_by 2 rfl) fl_X2_9 hb.s0 rfl ?_
  refine V_iload_n (pc := 5) hG (dk dd_X2_by 3 rfl) rfl ?_
  refine V_iald (pc := 6) hG (dk dd_X2_by 4 rfl) hb.s1 hr ?_
  refine V_aload_n (pc := 7) hG (dk dd_X2_by 5 rfl) rfl ?_
  refine V_getR (pc := 8) hG (dk dd_X2_by 6 rfl) fl_X2_15 hb.s0 rfl ?_
  refine V_iload_n (pc := 11) hG (dk dd_X2_by 7 rfl) rfl ?_
  refine V_iald (pc := 12) hG (dk dd_X2_by 8 rfl) hb.s2 hr ?_
  refine V_aload_n (pc := 13) hG (dk dd_X2_by 9 rfl) rfl ?_
  refine V_getR (pc := 14) hG (dk dd_X2_by 10 rfl) fl_X2_18 hb.s0 rfl ?_
  refine V_iload_n (pc := 17) hG (dk dd_X2_by 11 rfl) rfl ?_
  refine V_iald (pc := 18) hG (dk dd_X2_by 12 rfl) hb.s3 hr ?_
  refine V_iload_n (pc := 19) hG (dk dd_X2_by 13 rfl) rfl ?_
  refine V_callVi (pc := 20) hG (dk dd_X2_by 14 rfl) ml_X2_74 mo_X2_byKind hb.s0 rfl (c_byKind hb (hA.1 0 (by decide)) hv.t e1 ⟨hk.1, hk.2.1⟩ e2 hk.2.2.1 e3 hk.2.2.2 hd (hv.lt hD)) (by decide) (by decide) rfl rfl rfl ?_
  refine V_iret (pc := 23) hG (dk dd_X2_by 15 rfl) ?_
  rotate_left
  -- leaves: return@23
  · exact hR
theorem c_judged {b : Nat} {μ : Mem} {α : Al} (hb : IsCo b) (hA : Abs (kac μ b) α) (hv : Val α) {x d : Int32} {c D : Nat} (hx : x = nI c) (hc : c < α 0 7) (hd : d = nI D) (hD : D < 2 ^ α 0 0) :
    Ct yX2_judged cX2_judged 3 (some .int) 0 [vR b, vI x, vI d] μ (some (vI (nI (judN α c D)))) μ := by
  refine Ct.go RX2 rfl pn_X2 (Nat.le_of_ble_eq_true rfl) (fun C hG hR => ?_)
  have hC := hv.C
  have hk := hv.c hc
  have ht := hv.t
  have hr : vp_in x 5 := in_nI hx (by omega) (by decide)
  have hcl : x.toNatClampNeg = c := nI_cl hx (by omega)
  have e1 : μ (b + 5) x.toNatClampNeg = nI (α 5 c) := by rw [hcl]; exact hA.2.2 5 c (by decide) (by decide) hc
  have e2 : μ (b + 6) x.toNatClampNeg = nI (α 6 c) := by rw [hcl]; exact hA.2.2 6 c (by decide) (by decide) hc
  have hD8 := hv.lt hD
  have l1 := hk.2.1
  have l2 := hk.2.2.1
  subst hd
  refine V_iload_n (pc := 0) hG (dk dd_X2_judged 0 rfl) rfl ?_
  refine V_aload_n (pc := 1) hG (dk dd_X2_judged 1 rfl) rfl ?_
  refine V_getR (pc := 2) hG (dk dd_X2_judged 2 rfl) fl_X2_24 hb.s0 rfl ?_
  refine V_iload_n (pc := 5) hG (dk dd_X2_judged 3 rfl) rfl ?_
  refine V_iald (pc := 6) hG (dk dd_X2_judged 4 rfl) hb.s5 hr ?_
  refine V_ishr (pc := 7) hG (dk dd_X2_judged 5 rfl) ?_
  refine V_iconst (pc := 8) hG (dk dd_X2_judged 6 rfl) (v := 1) (by decide) ?_
  refine V_iand (pc := 9) hG (dk dd_X2_judged 7 rfl) ?_
  refine V_if_eq (pc := 10) hG (dk dd_X2_judged 8 rfl) (tgt := 15) (by decide) (fun h10 => ?_) (fun h10 => ?_)
  refine V_iload_n (pc := 15) hG (dk dd_X2_judged 11 rfl) rfl ?_
  refine V_aload_n (pc := 16) hG (dk dd_X2_judged 12 rfl) rfl ?_
  refine V_getR (pc := 17) hG (dk dd_X2_judged 13 rfl) fl_X2_27 hb.s0 rfl ?_
  refine V_iload_n (pc := 20) hG (dk dd_X2_judged 14 rfl) rfl ?_
  refine V_iald (pc := 21) hG (dk dd_X2_judged 15 rfl) hb.s6 hr ?_
  refine V_ishr (pc := 22) hG (dk dd_X2_judged 16 rfl) ?_
  refine V_iconst (pc := 23) hG (dk dd_X2_judged 17 rfl) (v := 1) (by decide) ?_
  refine V_iand (pc := 24) hG (dk dd_X2_judged 18 rfl) ?_
  refine V_if_eq (pc := 25) hG (dk dd_X2_judged 19 rfl) (tgt := 32) (by decide) (fun h25 => ?_) (fun h25 => ?_)
  refine V_iconst (pc := 32) hG (dk dd_X2_judged 22 rfl) (v := 0) (by decide) ?_
  refine V_iret (pc := 33) hG (dk dd_X2_judged 23 rfl) ?_
  rotate_left
  refine V_iconst (pc := 28) hG (dk dd_X2_judged 20 rfl) (v := 1) (by decide) ?_
  refine V_goto (pc := 29) hG (dk dd_X2_judged 21 rfl) (tgt := 33) (by decide) ?_
  refine V_iret (pc := 33) hG (dk dd_X2_judged 23 rfl) ?_
  rotate_left
  refine V_iconst (pc := 13) hG (dk dd_X2_judged 9 rfl) (v := 2) (by decide) ?_
  refine V_iret (pc := 14) hG (dk dd_X2_judged 10 rfl) ?_
  rotate_left
  -- leaves: return@33; return@33; return@14
  · rw [e1] at h10; rw [e2] at h25
    refine hR.i ?_ rfl
    unfold judN
    rw [(q_t1 hD8 (by omega)).mp h10, (q_t1 hD8 (by omega)).mp h25]; rfl
  · rw [e1] at h10; rw [e2] at h25
    refine hR.i ?_ rfl
    unfold judN
    rw [(q_t1 hD8 (by omega)).mp h10, if_neg (by decide), if_pos (by cases hq : D.testBit (α 6 c) with | true => rfl | false => exact absurd ((q_t1 hD8 (by omega)).mpr hq) h25)]; rfl
  · rw [e1] at h10
    refine hR.i ?_ rfl
    unfold judN
    rw [if_pos (by cases hq : D.testBit (α 5 c) with | true => rfl | false => exact absurd ((q_t1 hD8 (by omega)).mpr hq) h10)]; rfl
theorem c_verdict {b : Nat} {μ : Mem} {α : Al} (hb : IsCo b) (hA : Abs (kac μ b) α) (hv : Val α) {x d : Int32} {c D : Nat} (hx : x = nI c) (hc : c < α 0 7) (hd : d = nI D) (hD : D < 2 ^ α 0 0) :
    Ct yX2_verdict cX2_verdict 3 (some .int) 3 [vR b, vI x, vI d] μ (some (vI (nI (verN α c D)))) μ := by
  refine Ct.go RX2 rfl pn_X2 (Nat.le_of_ble_eq_true rfl) (fun C hG hR => ?_)
  have hC := hv.C
  have hk := hv.c hc
  have hr : vp_in x 5 := in_nI hx (by omega) (by decide)
  have e1 : μ (b + 4) x.toNatClampNeg = nI (α 4 c) := by rw [nI_cl hx (by omega)]; exact hA.2.2 4 c (by decide) (by decide) hc
  refine V_aload_n (pc := 0) hG (dk dd_X2_verdict 0 rfl) rfl ?_
  refine V_iload_n (pc := 1) hG (dk dd_X2_verdict 1 rfl) rfl ?_
  refine V_aload_n (pc := 2) hG (dk dd_X2_verdict 2 rfl) rfl ?_
  refine V_aload_n (pc := 3) hG (dk dd_X2_verdict 3 rfl) rfl ?_
  refine V_getR (pc := 4) hG (dk dd_X2_verdict 4 rfl) fl_X2_21 hb.s0 rfl ?_
  refine V_iload_n (pc := 7) hG (dk dd_X2_verdict 5 rfl) rfl ?_
  refine V_iald (pc := 8) hG (dk dd_X2_verdict 6 rfl) hb.s4 hr ?_
  refine V_iload_n (pc := 9) hG (dk dd_X2_verdict 7 rfl) rfl ?_
  refine V_callVi (pc := 10) hG (dk dd_X2_verdict 8 rfl) ml_X2_82 mo_X2_by hb.s0 rfl (c_by hb hA hv e1 hk.1 hd hD) (by decide) (by decide) rfl rfl rfl ?_
  refine V_callVi (pc := 13) hG (dk dd_X2_verdict 9 rfl) ml_X2_86 mo_X2_judged hb.s0 rfl (c_judged hb hA hv hx hc rfl (humN_lt hv hk.1 hD)) (by decide) (by decide) rfl rfl rfl ?_
  refine V_iret (pc := 16) hG (dk dd_X2_verdict 10 rfl) ?_
  rotate_left
  -- leaves: return@16
  · exact hR
theorem c_worn {b : Nat} {μ : Mem} {α : Al} (hb : IsCo b) (hA : Abs (kac μ b) α) (hv : Val α) {d : Int32} {D : Nat} (hd : d = nI D) (hD : D < 2 ^ α 0 0) :
    Ct yX2_worn cX2_worn 5 (some .int) 0 [vR b, vI d] μ (some (vI (nI (wornN (α 0 1) D)))) μ := by
  refine Ct.go RX2 rfl pn_X2 (Nat.le_of_ble_eq_true rfl) (fun C hG hR => ?_)
  have e0 : μ b 0 = nI (α 0 0) := hA.1 0 (by decide)
  have e1 : μ b 1 = nI (α 0 1) := hA.1 1 (by decide)
  have ht := hv.t
  have hw := hv.w
  have hD8 := hv.lt hD
  have hcw : ∀ n, wcnt (α 0 1) D n ≤ n := by
    intro n; induction n with
    | zero => exact Nat.le_refl _
    | succ n ih => rw [wcnt_s]; split <;> omega
  subst hd
  have loop : ∀ k n, n + k = α 0 0 → V C 7 [(0, vR b), (1, vI (nI D)), (2, vI (nI (wset (α 0 1) D n))), (3, vI (nI (wcnt (α 0 1) D n))), (4, vI (nI n))] [] μ := by
    intro k
    induction k with
    | zero =>
      intro n hn
      refine V_iload (pc := 7) hG (dk dd_X2_worn 6 rfl) rfl ?_
      refine V_aload_n (pc := 9) hG (dk dd_X2_worn 7 rfl) rfl ?_
      refine V_getI (pc := 10) hG (dk dd_X2_worn 8 rfl) fl_X2_33 hb.s0 rfl ?_
      refine V_icmp_ge (pc := 13) hG (dk dd_X2_worn 9 rfl) (tgt := 49) (by decide) (fun h13 => ?_) (fun h13 => ?_)
      refine V_iload_n (pc := 49) hG (dk dd_X2_worn 29 rfl) rfl ?_
      refine V_iret (pc := 50) hG (dk dd_X2_worn 30 rfl) ?_
      rotate_left
      rotate_left
      -- leaves: return@50; stop 16
      · refine hR.i ?_ rfl
        have := wset_top (w := α 0 1) hD (8 - α 0 0)
        unfold wornN
        rw [show α 0 0 + (8 - α 0 0) = 8 by omega] at this
        rw [this, show n = α 0 0 by omega]
      · exfalso; rw [e0] at h13; exact h13 ((nI_leI (by omega) (by omega)).mpr (by omega))
    | succ k ih =>
      intro n hn
      have hcn := hcw n
      have hb2 : wset (α 0 1) D n < 256 := Nat.lt_of_lt_of_le (wset_lt (α 0 1) D n) (pow8 (by omega))
      refine V_iload (pc := 7) hG (dk dd_X2_worn 6 rfl) rfl ?_
      refine V_aload_n (pc := 9) hG (dk dd_X2_worn 7 rfl) rfl ?_
      refine V_getI (pc := 10) hG (dk dd_X2_worn 8 rfl) fl_X2_33 hb.s0 rfl ?_
      refine V_icmp_ge (pc := 13) hG (dk dd_X2_worn 9 rfl) (tgt := 49) (by decide) (fun h13 => ?_) (fun h13 => ?_)
      refine V_iload_n (pc := 49) hG (dk dd_X2_worn 29 rfl) rfl ?_
      refine V_iret (pc := 50) hG (dk dd_X2_worn 30 rfl) ?_
      rotate_left
      refine V_iload_n (pc := 16) hG (dk dd_X2_worn 10 rfl) rfl ?_
      refine V_aload_n (pc := 17) hG (dk dd_X2_worn 11 rfl) rfl ?_
      refine V_getI (pc := 18) hG (dk dd_X2_worn 12 rfl) fl_X2_37 hb.s0 rfl ?_
      refine V_icmp_ge (pc := 21) hG (dk dd_X2_worn 13 rfl) (tgt := 49) (by decide) (fun h21 => ?_) (fun h21 => ?_)
      refine V_iload_n (pc := 49) hG (dk dd_X2_worn 29 rfl) rfl ?_
      refine V_iret (pc := 50) hG (dk dd_X2_worn 30 rfl) ?_
      rotate_left
      refine V_iload_n (pc := 24) hG (dk dd_X2_worn 14 rfl) rfl ?_
      refine V_iload (pc := 25) hG (dk dd_X2_worn 15 rfl) rfl ?_
      refine V_ishr (pc := 27) hG (dk dd_X2_worn 16 rfl) ?_
      refine V_iconst (pc := 28) hG (dk dd_X2_worn 17 rfl) (v := 1) (by decide) ?_
      refine V_iand (pc := 29) hG (dk dd_X2_worn 18 rfl) ?_
      refine V_if_eq (pc := 30) hG (dk dd_X2_worn 19 rfl) (tgt := 43) (by decide) (fun h30 => ?_) (fun h30 => ?_)
      refine V_iinc (pc := 43) hG (dk dd_X2_worn 27 rfl) rfl (v := _ + 1) rfl (by decide) (lv' := [(0, _), (1, _), (2, _), (3, _), (4, _)]) rfl ?_
      refine V_goto (pc := 46) hG (dk dd_X2_worn 28 rfl) (tgt := 7) (by decide) ?_
      rotate_left
      refine V_iload_n (pc := 33) hG (dk dd_X2_worn 20 rfl) rfl ?_
      refine V_iconst (pc := 34) hG (dk dd_X2_worn 21 rfl) (v := 1) (by decide) ?_
      refine V_iload (pc := 35) hG (dk dd_X2_worn 22 rfl) rfl ?_
      refine V_ishl (pc := 37) hG (dk dd_X2_worn 23 rfl) ?_
      refine V_ior (pc := 38) hG (dk dd_X2_worn 24 rfl) ?_
      refine V_istore_n (pc := 39) hG (dk dd_X2_worn 25 rfl) (by decide) (lv' := [(0, _), (1, _), (2, _), (3, _), (4, _)]) rfl ?_
      refine V_iinc (pc := 40) hG (dk dd_X2_worn 26 rfl) rfl (v := _ + 1) rfl (by decide) (lv' := [(0, _), (1, _), (2, _), (3, _), (4, _)]) rfl ?_
      refine V_iinc (pc := 43) hG (dk dd_X2_worn 27 rfl) rfl (v := _ + 1) rfl (by decide) (lv' := [(0, _), (1, _), (2, _), (3, _), (4, _)]) rfl ?_
      refine V_goto (pc := 46) hG (dk dd_X2_worn 28 rfl) (tgt := 7) (by decide) ?_
      rotate_left
      -- leaves: return@50; return@50; stop 7; stop 7
      · exfalso; rw [e0] at h13; have := (nI_leI (by omega) (by omega)).mp h13; omega
      · refine hR.i ?_ rfl
        rw [e1] at h21
        have hh := (nI_leI (by omega) (by omega)).mp h21
        have := (wcnt_stop hh (8 - n)).1
        rw [show n + (8 - n) = 8 by omega] at this
        unfold wornN
        rw [this]
      · have hz := (q_t1 hD8 (by omega)).mp h30
        have := ih (n + 1) (by omega)
        rw [wset_s, wcnt_s] at this
        rw [if_neg (by rw [hz]; exact fun q => by cases q.1), if_neg (by rw [hz]; exact fun q => by cases q.1), nI_succ] at this
        exact this
      · have hz : D.testBit n = true := by
          cases hq : D.testBit n with
          | true => rfl
          | false => exact absurd ((q_t1 hD8 (by omega)).mpr hq) h30
        rw [e1] at h21
        have hh : wcnt (α 0 1) D n < α 0 1 := Nat.not_le.mp (fun q => h21 ((nI_leI (by omega) (by omega)).mpr q))
        have := ih (n + 1) (by omega)
        rw [wset_s, wcnt_s] at this
        rw [if_pos ⟨hz, hh⟩, if_pos ⟨hz, hh⟩, nI_succ, nI_succ, ← q_or _ hb2 _ (by omega)] at this
        exact this
  refine V_iconst (pc := 0) hG (dk dd_X2_worn 0 rfl) (v := 0) (by decide) ?_
  refine V_istore_n (pc := 1) hG (dk dd_X2_worn 1 rfl) (by decide) (lv' := [(0, _), (1, _), (2, _)]) rfl ?_
  refine V_iconst (pc := 2) hG (dk dd_X2_worn 2 rfl) (v := 0) (by decide) ?_
  refine V_istore_n (pc := 3) hG (dk dd_X2_worn 3 rfl) (by decide) (lv' := [(0, _), (1, _), (2, _), (3, _)]) rfl ?_
  refine V_iconst (pc := 4) hG (dk dd_X2_worn 4 rfl) (v := 0) (by decide) ?_
  refine V_istore (pc := 5) hG (dk dd_X2_worn 5 rfl) (by decide) (lv' := [(0, _), (1, _), (2, _), (3, _), (4, _)]) rfl ?_
  rotate_left
  -- leaves: stop 7
  · exact loop (α 0 0) 0 (by omega)
