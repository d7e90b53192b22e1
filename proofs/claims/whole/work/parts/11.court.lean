/-! ===== SleepingJudge$Court: what is asked of it ===== -/
theorem c_isTold {b : Nat} {μ : Mem} (hb : IsCo b) : Ct yX2_isTold cX2_isTold 1 (some .boolean) 0 [vR b] μ (some (vI (if 0 < μ b 0 then 1 else 0))) μ := by
  refine Ct.go RX2 rfl pn_X2 (Nat.le_of_ble_eq_true rfl) (fun C hG hR => ?_)
  refine V_aload_n (pc := 0) hG (dk dd_X2_isTold 0 rfl) rfl ?_
  refine V_getI (pc := 1) hG (dk dd_X2_isTold 1 rfl) fl_X2_33 hb.s0 rfl ?_
  refine V_if_le (pc := 4) hG (dk dd_X2_isTold 2 rfl) (tgt := 11) (by decide) (fun h4 => ?_) (fun h4 => ?_)
  refine V_iconst (pc := 11) hG (dk dd_X2_isTold 5 rfl) (v := 0) (by decide) ?_
  refine V_zret (pc := 12) hG (dk dd_X2_isTold 6 rfl) (by decide) ?_
  rotate_left
  refine V_iconst (pc := 7) hG (dk dd_X2_isTold 3 rfl) (v := 1) (by decide) ?_
  refine V_goto (pc := 8) hG (dk dd_X2_isTold 4 rfl) (tgt := 12) (by decide) ?_
  refine V_zret (pc := 12) hG (dk dd_X2_isTold 6 rfl) (by decide) ?_
  rotate_left
  -- leaves: return@12; return@12
  · exact hR.i (if_neg (Int32.not_lt.mpr h4)).symm rfl
  · exact hR.i (if_pos (Int32.not_le.mp h4)).symm rfl
theorem c_isHum {b : Nat} {μ : Mem} (hb : IsCo b) {h : Int32} : Ct yX2_isHum cX2_isHum 2 (some .boolean) 0 [vR b, vI h] μ (some (vI (if 0 ≤ h ∧ h < μ b 6 then 1 else 0))) μ := by
  refine Ct.go RX2 rfl pn_X2 (Nat.le_of_ble_eq_true rfl) (fun C hG hR => ?_)
  refine V_iload_n (pc := 0) hG (dk dd_X2_isHum 0 rfl) rfl ?_
  refine V_if_lt (pc := 1) hG (dk dd_X2_isHum 1 rfl) (tgt := 16) (by decide) (fun h1 => ?_) (fun h1 => ?_)
  refine V_iconst (pc := 16) hG (dk dd_X2_isHum 8 rfl) (v := 0) (by decide) ?_
  refine V_zret (pc := 17) hG (dk dd_X2_isHum 9 rfl) (by decide) ?_
  rotate_left
  refine V_iload_n (pc := 4) hG (dk dd_X2_isHum 2 rfl) rfl ?_
  refine V_aload_n (pc := 5) hG (dk dd_X2_isHum 3 rfl) rfl ?_
  refine V_getI (pc := 6) hG (dk dd_X2_isHum 4 rfl) fl_X2_52 hb.s0 rfl ?_
  refine V_icmp_ge (pc := 9) hG (dk dd_X2_isHum 5 rfl) (tgt := 16) (by decide) (fun h9 => ?_) (fun h9 => ?_)
  refine V_iconst (pc := 16) hG (dk dd_X2_isHum 8 rfl) (v := 0) (by decide) ?_
  refine V_zret (pc := 17) hG (dk dd_X2_isHum 9 rfl) (by decide) ?_
  rotate_left
  refine V_iconst (pc := 12) hG (dk dd_X2_isHum 6 rfl) (v := 1) (by decide) ?_
  refine V_goto (pc := 13) hG (dk dd_X2_isHum 7 rfl) (tgt := 17) (by decide) ?_
  refine V_zret (pc := 17) hG (dk dd_X2_isHum 9 rfl) (by decide) ?_
  rotate_left
  -- leaves: return@17; return@17; return@17
  · exact hR.i (if_neg (fun q => Int32.not_lt.mpr q.1 h1)).symm rfl
  · exact hR.i (if_neg (fun q => Int32.not_lt.mpr h9 q.2)).symm rfl
  · exact hR.i (if_pos ⟨Int32.not_lt.mp h1, Int32.not_le.mp h9⟩).symm rfl
theorem c_dreamCount {b : Nat} {μ : Mem} (hb : IsCo b) : Ct yX2_dreamCount cX2_dreamCount 1 (some .int) 0 [vR b] μ (some (vI (bI (μ b 0)))) μ := by
  refine Ct.go RX2 rfl pn_X2 (Nat.le_of_ble_eq_true rfl) (fun C hG hR => ?_)
  refine V_iconst (pc := 0) hG (dk dd_X2_dreamCount 0 rfl) (v := 1) (by decide) ?_
  refine V_aload_n (pc := 1) hG (dk dd_X2_dreamCount 1 rfl) rfl ?_
  refine V_getI (pc := 2) hG (dk dd_X2_dreamCount 2 rfl) fl_X2_33 hb.s0 rfl ?_
  refine V_ishl (pc := 5) hG (dk dd_X2_dreamCount 3 rfl) ?_
  refine V_iret (pc := 6) hG (dk dd_X2_dreamCount 4 rfl) ?_
  rotate_left
  -- leaves: return@6
  · exact hR
theorem c_thingBehind {b : Nat} {μ : Mem} (hb : IsCo b) {k : Int32} : Ct yX2_thingBehind cX2_thingBehind 2 (some .int) 0 [vR b, vI k] μ (some (vI (if μ b 0 ≤ k + 1 then 0 else k + 1))) μ := by
  refine Ct.go RX2 rfl pn_X2 (Nat.le_of_ble_eq_true rfl) (fun C hG hR => ?_)
  refine V_iload_n (pc := 0) hG (dk dd_X2_thingBehind 0 rfl) rfl ?_
  refine V_iconst (pc := 1) hG (dk dd_X2_thingBehind 1 rfl) (v := 1) (by decide) ?_
  refine V_iadd (pc := 2) hG (dk dd_X2_thingBehind 2 rfl) ?_
  refine V_aload_n (pc := 3) hG (dk dd_X2_thingBehind 3 rfl) rfl ?_
  refine V_getI (pc := 4) hG (dk dd_X2_thingBehind 4 rfl) fl_X2_33 hb.s0 rfl ?_
  refine V_icmp_ge (pc := 7) hG (dk dd_X2_thingBehind 5 rfl) (tgt := 16) (by decide) (fun h7 => ?_) (fun h7 => ?_)
  refine V_iconst (pc := 16) hG (dk dd_X2_thingBehind 10 rfl) (v := 0) (by decide) ?_
  refine V_iret (pc := 17) hG (dk dd_X2_thingBehind 11 rfl) ?_
  rotate_left
  refine V_iload_n (pc := 10) hG (dk dd_X2_thingBehind 6 rfl) rfl ?_
  refine V_iconst (pc := 11) hG (dk dd_X2_thingBehind 7 rfl) (v := 1) (by decide) ?_
  refine V_iadd (pc := 12) hG (dk dd_X2_thingBehind 8 rfl) ?_
  refine V_goto (pc := 13) hG (dk dd_X2_thingBehind 9 rfl) (tgt := 17) (by decide) ?_
  refine V_iret (pc := 17) hG (dk dd_X2_thingBehind 11 rfl) ?_
  rotate_left
  -- leaves: return@17; return@17
  · exact hR.i (if_pos h7).symm rfl
  · exact hR.i (if_neg h7).symm rfl
theorem c_byKind {b : Nat} {μ : Mem} (hb : IsCo b) {kd th ot d : Int32} {t K O D : Nat} (hT : μ b 0 = nI t) (ht : t < 9) (hth : th = nI K) (hK : K < t) (hot : ot = nI O) (hO : O < 8) (hd : d = nI D) (hD : D < 256) (hk : kd = 1 ∨ kd = 2 ∨ kd = 3 ∨ kd = 4 ∨ kd = 5) :
    Ct yX2_byKind cX2_byKind 8 (some .int) 1 [vR b, vI kd, vI th, vI ot, vI d] μ (some (vI (humF (μ b 0) kd th ot d))) μ := by
  refine Ct.go RX2 rfl pn_X2 (Nat.le_of_ble_eq_true rfl) (fun C hG hR => ?_)
  have hhas : (d &&& bI ot = 0) ↔ ¬ hasI d ot := by rw [hd, hot]; exact (bq_has D hD O hO).1
  have hbeh : (th + 1) - (th + 1) / μ b 0 * μ b 0 = if μ b 0 ≤ th + 1 then 0 else th + 1 := by rw [hT, hth]; exact bq_behind t ht K hK
  have fin : ∀ z : Int32, (z = 1 ∧ hasI d ot) ∨ (z = 0 ∧ ¬ hasI d ot) → V C 25 [(0, vR b), (1, vI kd), (2, vI th), (3, vI ot), (4, vI d), (5, vI (bI th)), (6, vI (bI ot)), (7, vI z)] [] μ := by
    intro z hz
    refine V_iload_n (pc := 25) hG (dk dd_X2_byKind 16 rfl) rfl ?_
    refine V_tsw (pc := 26) hG (dk dd_X2_byKind 17 rfl) (cs := [(1, 60), (2, 66), (3, 80), (4, 96), (5, 104)]) (td := 125) (by decide +kernel) ?_
    refine And.intro (fun h26_1 => ?_) (fun h26_1 => ?_)
    refine V_iload (pc := 60) hG (dk dd_X2_byKind 18 rfl) rfl ?_
    refine V_iload (pc := 62) hG (dk dd_X2_byKind 19 rfl) rfl ?_
    refine V_ior (pc := 64) hG (dk dd_X2_byKind 20 rfl) ?_
    refine V_iret (pc := 65) hG (dk dd_X2_byKind 21 rfl) ?_
    rotate_left
    refine And.intro (fun h26_2 => ?_) (fun h26_2 => ?_)
    refine V_iload (pc := 66) hG (dk dd_X2_byKind 22 rfl) rfl ?_
    refine V_iload (pc := 68) hG (dk dd_X2_byKind 23 rfl) rfl ?_
    refine V_ior (pc := 70) hG (dk dd_X2_byKind 24 rfl) ?_
    refine V_iconst (pc := 71) hG (dk dd_X2_byKind 25 rfl) (v := 1) (by decide) ?_
    refine V_aload_n (pc := 72) hG (dk dd_X2_byKind 26 rfl) rfl ?_
    refine V_iload_n (pc := 73) hG (dk dd_X2_byKind 27 rfl) rfl ?_
    refine V_callVi (pc := 74) hG (dk dd_X2_byKind 28 rfl) ml_X2_78 mo_X2_thingBehind hb.s0 rfl (c_thingBehind hb) (by decide) (by decide) rfl rfl rfl ?_
    refine V_ishl (pc := 77) hG (dk dd_X2_byKind 29 rfl) ?_
    refine V_ior (pc := 78) hG (dk dd_X2_byKind 30 rfl) ?_
    refine V_iret (pc := 79) hG (dk dd_X2_byKind 31 rfl) ?_
    rotate_left
    refine And.intro (fun h26_3 => ?_) (fun h26_3 => ?_)
    refine V_iload (pc := 80) hG (dk dd_X2_byKind 32 rfl) rfl ?_
    refine V_if_eq (pc := 82) hG (dk dd_X2_byKind 33 rfl) (tgt := 93) (by decide) (fun h82 => ?_) (fun h82 => ?_)
    refine V_iload (pc := 93) hG (dk dd_X2_byKind 38 rfl) rfl ?_
    refine V_iret (pc := 95) hG (dk dd_X2_byKind 39 rfl) ?_
    rotate_left
    refine V_iload (pc := 85) hG (dk dd_X2_byKind 34 rfl) rfl ?_
    refine V_iload (pc := 87) hG (dk dd_X2_byKind 35 rfl) rfl ?_
    refine V_ior (pc := 89) hG (dk dd_X2_byKind 36 rfl) ?_
    refine V_goto (pc := 90) hG (dk dd_X2_byKind 37 rfl) (tgt := 95) (by decide) ?_
    refine V_iret (pc := 95) hG (dk dd_X2_byKind 39 rfl) ?_
    rotate_left
    refine And.intro (fun h26_4 => ?_) (fun h26_4 => ?_)
    refine V_iload (pc := 96) hG (dk dd_X2_byKind 40 rfl) rfl ?_
    refine V_iload (pc := 98) hG (dk dd_X2_byKind 41 rfl) rfl ?_
    refine V_iconst (pc := 100) hG (dk dd_X2_byKind 42 rfl) (v := -1) (by decide) ?_
    refine V_ixor (pc := 101) hG (dk dd_X2_byKind 43 rfl) ?_
    refine V_iand (pc := 102) hG (dk dd_X2_byKind 44 rfl) ?_
    refine V_iret (pc := 103) hG (dk dd_X2_byKind 45 rfl) ?_
    rotate_left
    refine And.intro (fun h26_5 => ?_) (fun h26_5 => ?_)
    refine V_iload (pc := 104) hG (dk dd_X2_byKind 46 rfl) rfl ?_
    refine V_if_eq (pc := 106) hG (dk dd_X2_byKind 47 rfl) (tgt := 122) (by decide) (fun h106 => ?_) (fun h106 => ?_)
    refine V_iload (pc := 122) hG (dk dd_X2_byKind 56 rfl) rfl ?_
    refine V_iret (pc := 124) hG (dk dd_X2_byKind 57 rfl) ?_
    rotate_left
    refine V_iload (pc := 109) hG (dk dd_X2_byKind 48 rfl) rfl ?_
    refine V_iload (pc := 111) hG (dk dd_X2_byKind 49 rfl) rfl ?_
    refine V_iconst (pc := 113) hG (dk dd_X2_byKind 50 rfl) (v := -1) (by decide) ?_
    refine V_ixor (pc := 114) hG (dk dd_X2_byKind 51 rfl) ?_
    refine V_iand (pc := 115) hG (dk dd_X2_byKind 52 rfl) ?_
    refine V_iload (pc := 116) hG (dk dd_X2_byKind 53 rfl) rfl ?_
    refine V_ior (pc := 118) hG (dk dd_X2_byKind 54 rfl) ?_
    refine V_goto (pc := 119) hG (dk dd_X2_byKind 55 rfl) (tgt := 124) (by decide) ?_
    refine V_iret (pc := 124) hG (dk dd_X2_byKind 57 rfl) ?_
    rotate_left
    show V _ _ _ _ _
    refine V_iload (pc := 125) hG (dk dd_X2_byKind 58 rfl) rfl ?_
    refine V_iret (pc := 127) hG (dk dd_X2_byKind 59 rfl) ?_
    rotate_left
    -- leaves: return@65; return@79; return@95; return@95; return@103; return@124; return@124; return@127
    · exact hR.i (by subst h26_1; rfl) rfl
    · exact hR.i (by subst h26_2; unfold humF; rw [hbeh]; rfl) rfl
    · exact hR.i (by subst h26_3; unfold humF; rw [if_neg (by decide), if_neg (by decide), if_pos rfl, if_neg (fun q => by rcases hz with z | z; exact absurd (h82.symm.trans z.1) (by decide); exact z.2 q)]) rfl
    · exact hR.i (by subst h26_3; unfold humF; rw [if_neg (by decide), if_neg (by decide), if_pos rfl, if_pos (by rcases hz with z | z; exact z.2; exact absurd z.1 h82)]) rfl
    · exact hR.i (by subst h26_4; rfl) rfl
    · exact hR.i (by subst h26_5; unfold humF; rw [if_neg (by decide), if_neg (by decide), if_neg (by decide), if_neg (by decide), if_neg (fun q => by rcases hz with z | z; exact absurd (h106.symm.trans z.1) (by decide); exact z.2 q)]) rfl
    · exact hR.i (by subst h26_5; unfold humF; rw [if_neg (by decide), if_neg (by decide), if_neg (by decide), if_neg (by decide), if_pos (by rcases hz with z | z; exact z.2; exact absurd z.1 h106)]) rfl
    · rcases hk with q | q | q | q | q
      · exact absurd q h26_1
      · exact absurd q h26_2
      · exact absurd q h26_3
      · exact absurd q h26_4
      · exact absurd q h26_5
  refine V_iconst (pc := 0) hG (dk dd_X2_byKind 0 rfl) (v := 1) (by decide) ?_
  refine V_iload_n (pc := 1) hG (dk dd_X2_byKind 1 rfl) rfl ?_
  refine V_ishl (pc := 2) hG (dk dd_X2_byKind 2 rfl) ?_
  refine V_istore (pc := 3) hG (dk dd_X2_byKind 3 rfl) (by decide) (lv' := [(0, _), (1, _), (2, _), (3, _), (4, _), (5, _)]) rfl ?_
  refine V_iconst (pc := 5) hG (dk dd_X2_byKind 4 rfl) (v := 1) (by decide) ?_
  refine V_iload_n (pc := 6) hG (dk dd_X2_byKind 5 rfl) rfl ?_
  refine V_ishl (pc := 7) hG (dk dd_X2_byKind 6 rfl) ?_
  refine V_istore (pc := 8) hG (dk dd_X2_byKind 7 rfl) (by decide) (lv' := [(0, _), (1, _), (2, _), (3, _), (4, _), (5, _), (6, _)]) rfl ?_
  refine V_iload (pc := 10) hG (dk dd_X2_byKind 8 rfl) rfl ?_
  refine V_iload (pc := 12) hG (dk dd_X2_byKind 9 rfl) rfl ?_
  refine V_iand (pc := 14) hG (dk dd_X2_byKind 10 rfl) ?_
  refine V_if_eq (pc := 15) hG (dk dd_X2_byKind 11 rfl) (tgt := 22) (by decide) (fun h15 => ?_) (fun h15 => ?_)
  refine V_iconst (pc := 22) hG (dk dd_X2_byKind 14 rfl) (v := 0) (by decide) ?_
  refine V_istore (pc := 23) hG (dk dd_X2_byKind 15 rfl) (by decide) (lv' := [(0, _), (1, _), (2, _), (3, _), (4, _), (5, _), (6, _), (7, _)]) rfl ?_
  rotate_left
  refine V_iconst (pc := 18) hG (dk dd_X2_byKind 12 rfl) (v := 1) (by decide) ?_
  refine V_goto (pc := 19) hG (dk dd_X2_byKind 13 rfl) (tgt := 23) (by decide) ?_
  refine V_istore (pc := 23) hG (dk dd_X2_byKind 15 rfl) (by decide) (lv' := [(0, _), (1, _), (2, _), (3, _), (4, _), (5, _), (6, _), (7, _)]) rfl ?_
  rotate_left
  -- leaves: stop 25; stop 25
  · exact fin 0 (Or.inr ⟨rfl, hhas.mp h15⟩)
  · exact fin 1 (Or.inl ⟨rfl, Classical.not_not.mp (fun q => h15 (hhas.mpr q))⟩)
