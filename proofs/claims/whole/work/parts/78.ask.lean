/-! ===== the model: asks, counts, copy ===== -/
theorem m_markOf {μ : Mem} {α : Al} (hA : Abs (kap (μ 71)) α) (hv : Val α) {h : Nat} (hh : h < α 0 6) {x : Int32} (hx : x = nI h) {l : List Nat} (hT : TrM μ l) (hl : l.length < 10) : CtP yX10_markOf cX10_markOf 4 (some .int) 3 [vR 67, vI x] μ (Pi (fun r μ' => r = (if 4 ≤ α 1 h then nI h - szR α h else mkV α h) ∧ TrM μ' (l ++ (if 4 ≤ α 1 h then [23, 20] ++ szT α h else mkT α h)) ∧ OffA μ μ')) := by
  refine CtP.go RX10 rfl pn_X10 (Nat.le_of_ble_eq_true rfl) (fun C hG hR => ?_)
  have hH := hv.H
  have r6 : vp_in (6 : Int32) 46 := rr (n := 6) (by decide)
  obtain ⟨k1, k5, _, _⟩ := hv.h hh
  have ek := e_k hA hh
  have hD := hv.lt hv.D
  have q1 : nI (α 1 h) = 1 ↔ α 1 h = 1 := nI_eq (b := 1) (by omega) (by decide)
  have q3 : nI (α 1 h) = 3 ↔ α 1 h = 3 := nI_eq (b := 3) (by omega) (by decide)
  have q4 : nI (α 1 h) < 4 ↔ α 1 h < 4 := nI_ltI (b := 4) (by omega) (by decide)
  -- behind the first bodies
  have tail : ∀ m l2, α 1 h < 4 → TrM m l2 → OffA μ m → l2.length < 12 → l2 ++ [21, 20] = l ++ mkT α h → V C 56 [(0, vR 67), (1, vI x), (2, vI (nI (α 1 h)))] [] m := by
    intro m l2 z4 t1 t2 t3 t4
    refine V_aload_n (pc := 56) hG (dk dd_X10_markOf 32 rfl) rfl ?_
    refine V_bipush (pc := 57) hG (dk dd_X10_markOf 33 rfl) (v := 21) (by decide) ?_
    refine V_callVvp (pc := 59) hG (dk dd_X10_markOf 34 rfl) ml_X10_293 mo_X10_began0 sh_67 rfl (m_began0 t1 (by omega) (b := 21) rfl) (by decide) (by decide) rfl rfl rfl (fun m59 p59 => ?_)
    refine V_aload_n (pc := 62) hG (dk dd_X10_markOf 35 rfl) rfl ?_
    refine V_bipush (pc := 63) hG (dk dd_X10_markOf 36 rfl) (v := 20) (by decide) ?_
    refine V_callVvp (pc := 65) hG (dk dd_X10_markOf 37 rfl) ml_X10_293 mo_X10_began0 sh_67 rfl (m_began0 p59.1 (by simp only [List.length_append, List.length_singleton]; omega) (b := 20) rfl) (by decide) (by decide) rfl rfl rfl (fun m65 p65 => ?_)
    refine V_iload_n (pc := 68) hG (dk dd_X10_markOf 38 rfl) rfl ?_
    refine V_aload_n (pc := 69) hG (dk dd_X10_markOf 39 rfl) rfl ?_
    refine V_getR (pc := 70) hG (dk dd_X10_markOf 40 rfl) fl_X10_19 sh_67 rfl ?_
    refine V_bipush (pc := 73) hG (dk dd_X10_markOf 41 rfl) (v := 6) (by decide) ?_
    refine V_iald (pc := 75) hG (dk dd_X10_markOf 42 rfl) sh_71 r6 ?_
    refine V_callSip (pc := 76) hG (dk dd_X10_markOf 43 rfl) ml_X10_185 mo_X10_bits (m_bits (D := α 0 3) (by rw [p65.2.c, p59.2.c, t2.c]; exact e_sc hA (i := 3) (by decide)) hD) (by decide) (by decide) rfl rfl rfl (fun x76 m76 p76 => ?_)
    refine V_iadd (pc := 79) hG (dk dd_X10_markOf 44 rfl) ?_
    refine V_istore_n (pc := 80) hG (dk dd_X10_markOf 45 rfl) (by decide) (lv' := [(0, _), (1, _), (2, _), (3, _)]) rfl ?_
    refine V_iload_n (pc := 81) hG (dk dd_X10_markOf 46 rfl) rfl ?_
    refine V_iconst (pc := 82) hG (dk dd_X10_markOf 47 rfl) (v := 1) (by decide) ?_
    refine V_icmp_ne (pc := 83) hG (dk dd_X10_markOf 48 rfl) (tgt := 90) (by decide) (fun h83 => ?_) (fun h83 => ?_)
    refine V_iload_n (pc := 90) hG (dk dd_X10_markOf 51 rfl) rfl ?_
    refine V_iconst (pc := 91) hG (dk dd_X10_markOf 52 rfl) (v := 3) (by decide) ?_
    refine V_icmp_ne (pc := 92) hG (dk dd_X10_markOf 53 rfl) (tgt := 103) (by decide) (fun h92 => ?_) (fun h92 => ?_)
    refine V_iconst (pc := 103) hG (dk dd_X10_markOf 58 rfl) (v := 2) (by decide) ?_
    refine V_iload_n (pc := 104) hG (dk dd_X10_markOf 59 rfl) rfl ?_
    refine V_imul (pc := 105) hG (dk dd_X10_markOf 60 rfl) ?_
    refine V_iretP (pc := 106) hG (dk dd_X10_markOf 61 rfl) hR (Pi.mk ?_)
    rotate_left
    refine V_iload_n (pc := 95) hG (dk dd_X10_markOf 54 rfl) rfl ?_
    refine V_sipush (pc := 96) hG (dk dd_X10_markOf 55 rfl) (v := 1000) (by decide) ?_
    refine V_isub (pc := 99) hG (dk dd_X10_markOf 56 rfl) ?_
    refine V_goto (pc := 100) hG (dk dd_X10_markOf 57 rfl) (tgt := 106) (by decide) ?_
    refine V_iretP (pc := 106) hG (dk dd_X10_markOf 61 rfl) hR (Pi.mk ?_)
    rotate_left
    refine V_iload_n (pc := 86) hG (dk dd_X10_markOf 49 rfl) rfl ?_
    refine V_goto (pc := 87) hG (dk dd_X10_markOf 50 rfl) (tgt := 106) (by decide) ?_
    refine V_iretP (pc := 106) hG (dk dd_X10_markOf 61 rfl) hR (Pi.mk ?_)
    rotate_left
    -- leaves: return@106; return@106; return@106
    all_goals (have tr := p65.1; rw [List.append_assoc, show [21] ++ [20] = [21, 20] from rfl, t4] at tr; have of := (t2.tr p59.2).tr p65.2; rw [p76.1]; refine ⟨?_, by rw [if_neg (by omega)]; exact tr, of⟩; rw [if_neg (by omega), p76.2, hx]; unfold mkV v21)
    · rw [if_neg (fun q => h83 (q1.mpr q)), if_neg (fun q => h92 (q3.mpr q))]
    · rw [if_neg (fun q => h83 (q1.mpr q)), if_pos (q3.mp h92)]
    · rw [if_pos (q1.mp h83)]
  refine V_aload_n (pc := 0) hG (dk dd_X10_markOf 0 rfl) rfl ?_
  refine V_getR (pc := 1) hG (dk dd_X10_markOf 1 rfl) fl_X10_19 sh_67 rfl ?_
  refine V_iload_n (pc := 4) hG (dk dd_X10_markOf 2 rfl) rfl ?_
  refine V_iconst (pc := 5) hG (dk dd_X10_markOf 3 rfl) (v := 0) (by decide) ?_
  refine V_callSip (pc := 6) hG (dk dd_X10_markOf 4 rfl) ml_X10_177 mo_X10_of (m_of sh_71 hx (by omega) (v := 0) rfl (by decide)) (by decide) (by decide) rfl rfl rfl (fun x6 m6 p6 => ?_)
  refine V_istore_n (pc := 9) hG (dk dd_X10_markOf 5 rfl) (by decide) (lv' := [(0, _), (1, _), (2, _)]) rfl ?_
  refine V_iload_n (pc := 10) hG (dk dd_X10_markOf 6 rfl) rfl ?_
  refine V_iconst (pc := 11) hG (dk dd_X10_markOf 7 rfl) (v := 4) (by decide) ?_
  refine V_icmp_lt (pc := 12) hG (dk dd_X10_markOf 8 rfl) (tgt := 35) (by decide) (fun h12 => ?_) (fun h12 => ?_)
  rotate_left
  rotate_left
  -- leaves: stop 35; stop 15
  · rw [p6.2, ek, p6.1]
    rw [p6.2, ek] at h12
    have z4 := q4.mp h12
    refine V_iload_n (pc := 35) hG (dk dd_X10_markOf 21 rfl) rfl ?_
    refine V_iconst (pc := 36) hG (dk dd_X10_markOf 22 rfl) (v := 1) (by decide) ?_
    refine V_icmp_eq (pc := 37) hG (dk dd_X10_markOf 23 rfl) (tgt := 56) (by decide) (fun h37 => ?_) (fun h37 => ?_)
    rotate_left
    refine V_aload_n (pc := 40) hG (dk dd_X10_markOf 24 rfl) rfl ?_
    refine V_iload_n (pc := 41) hG (dk dd_X10_markOf 25 rfl) rfl ?_
    refine V_iconst (pc := 42) hG (dk dd_X10_markOf 26 rfl) (v := 3) (by decide) ?_
    refine V_icmp_ne (pc := 43) hG (dk dd_X10_markOf 27 rfl) (tgt := 51) (by decide) (fun h43 => ?_) (fun h43 => ?_)
    refine V_bipush (pc := 51) hG (dk dd_X10_markOf 30 rfl) (v := 24) (by decide) ?_
    rotate_left
    refine V_bipush (pc := 46) hG (dk dd_X10_markOf 28 rfl) (v := 22) (by decide) ?_
    refine V_goto (pc := 48) hG (dk dd_X10_markOf 29 rfl) (tgt := 53) (by decide) ?_
    rotate_left
    -- leaves: stop 56; stop 53; stop 53
    · have e1 := q1.mp h37
      exact tail μ l z4 hT ⟨fun _ _ _ => rfl, fun _ _ => rfl⟩ (by omega) (by unfold mkT; rw [if_pos e1])
    · have n1 : ¬ α 1 h = 1 := fun q => h37 (q1.mpr q)
      have n3 : ¬ α 1 h = 3 := fun q => h43 (q3.mpr q)
      refine V_callVvp (pc := 53) hG (dk dd_X10_markOf 31 rfl) ml_X10_293 mo_X10_began0 sh_67 rfl (m_began0 hT (by omega) (b := 24) rfl) (by decide) (by decide) rfl rfl rfl (fun m53 p53 => ?_)
      rotate_left
      -- leaves: stop 56
      · exact tail _ _ z4 p53.1 p53.2 (by simp only [List.length_append, List.length_singleton]; omega) (by unfold mkT; rw [if_neg n1, if_neg n3]; simp)
    · have n1 : ¬ α 1 h = 1 := fun q => h37 (q1.mpr q)
      have n3 : α 1 h = 3 := q3.mp h43
      refine V_callVvp (pc := 53) hG (dk dd_X10_markOf 31 rfl) ml_X10_293 mo_X10_began0 sh_67 rfl (m_began0 hT (by omega) (b := 22) rfl) (by decide) (by decide) rfl rfl rfl (fun m53 p53 => ?_)
      rotate_left
      -- leaves: stop 56
      · exact tail _ _ z4 p53.1 p53.2 (by simp only [List.length_append, List.length_singleton]; omega) (by unfold mkT; rw [if_neg n1, if_pos n3]; simp)
  · rw [p6.2, ek, p6.1]
    rw [p6.2, ek] at h12
    have z4 : ¬ α 1 h < 4 := fun q => h12 (q4.mpr q)
    refine V_aload_n (pc := 15) hG (dk dd_X10_markOf 9 rfl) rfl ?_
    refine V_bipush (pc := 16) hG (dk dd_X10_markOf 10 rfl) (v := 23) (by decide) ?_
    refine V_callVvp (pc := 18) hG (dk dd_X10_markOf 11 rfl) ml_X10_293 mo_X10_began0 sh_67 rfl (m_began0 hT (by omega) (b := 23) rfl) (by decide) (by decide) rfl rfl rfl (fun m18 p18 => ?_)
    refine V_aload_n (pc := 21) hG (dk dd_X10_markOf 12 rfl) rfl ?_
    refine V_bipush (pc := 22) hG (dk dd_X10_markOf 13 rfl) (v := 20) (by decide) ?_
    refine V_callVvp (pc := 24) hG (dk dd_X10_markOf 14 rfl) ml_X10_293 mo_X10_began0 sh_67 rfl (m_began0 p18.1 (by simp only [List.length_append, List.length_singleton]; omega) (b := 20) rfl) (by decide) (by decide) rfl rfl rfl (fun m24 p24 => ?_)
    refine V_iload_n (pc := 27) hG (dk dd_X10_markOf 15 rfl) rfl ?_
    refine V_aload_n (pc := 28) hG (dk dd_X10_markOf 16 rfl) rfl ?_
    refine V_iload_n (pc := 29) hG (dk dd_X10_markOf 17 rfl) rfl ?_
    refine V_callVip (pc := 30) hG (dk dd_X10_markOf 18 rfl) ml_X10_299 mo_X10_rainSize sh_67 rfl (m_rainSize (by rw [p24.2.c, p18.2.c]; exact hA) hv hh hx p24.1 (by simp only [List.length_append, List.length_singleton]; omega)) (by decide) (by decide) rfl rfl rfl (fun x30 m30 p30 => ?_)
    refine V_isub (pc := 33) hG (dk dd_X10_markOf 19 rfl) ?_
    refine V_iretP (pc := 34) hG (dk dd_X10_markOf 20 rfl) hR (Pi.mk ?_)
    rotate_left
    -- leaves: return@34
    · refine ⟨?_, ?_, (p18.2.tr p24.2).tr p30.2.2⟩
      · rw [if_pos (by omega), p30.1, hx]
      · rw [if_pos (by omega)]
        have := p30.2.1
        simpa using this
theorem m_sizeOf {μ : Mem} {α : Al} (hA : Abs (kap (μ 71)) α) (hv : Val α) {h : Nat} (hh : h < α 0 6) {x : Int32} (hx : x = nI h) (hT : TrM μ []) : CtP yX10_sizeOf cX10_sizeOf 4 (some .int) 4 [vR 67, vI x] μ (Pi (fun r μ' => r = askV α h 0 ∧ TrM μ' (askT α h 0) ∧ OffA μ μ')) := by
  refine CtP.go RX10 rfl pn_X10 (Nat.le_of_ble_eq_true rfl) (fun C hG hR => ?_)
  have hH := hv.H
  obtain ⟨k1, k5, _, _⟩ := hv.h hh
  have ek := e_k hA hh
  have q2 : nI (α 1 h) = 2 ↔ α 1 h = 2 := nI_eq (b := 2) (by omega) (by decide)
  have q4 : nI (α 1 h) < 4 ↔ α 1 h < 4 := nI_ltI (b := 4) (by omega) (by decide)
  have tail : ∀ m l2, α 1 h < 4 → TrM m l2 → OffA μ m → l2.length < 2 → l2 ++ ([11, 10] ++ mkT α h) = askT α h 0 → V C 32 [(0, vR 67), (1, vI x), (2, vI (nI (α 1 h)))] [] m := by
    intro m l2 z4 t1 t2 t3 t4
    refine V_aload_n (pc := 32) hG (dk dd_X10_sizeOf 19 rfl) rfl ?_
    refine V_bipush (pc := 33) hG (dk dd_X10_sizeOf 20 rfl) (v := 11) (by decide) ?_
    refine V_callVvp (pc := 35) hG (dk dd_X10_sizeOf 21 rfl) ml_X10_293 mo_X10_began0 sh_67 rfl (m_began0 t1 (by omega) (b := 11) rfl) (by decide) (by decide) rfl rfl rfl (fun m35 p35 => ?_)
    refine V_aload_n (pc := 38) hG (dk dd_X10_sizeOf 22 rfl) rfl ?_
    refine V_iload_n (pc := 39) hG (dk dd_X10_sizeOf 23 rfl) rfl ?_
    refine V_callVip (pc := 40) hG (dk dd_X10_sizeOf 24 rfl) ml_X10_296 mo_X10_plainSize sh_67 rfl (m_plainSize (by rw [p35.2.c, t2.c]; exact hA) hv hh hx p35.1 (by simp only [List.length_append, List.length_singleton]; omega)) (by decide) (by decide) rfl rfl rfl (fun x40 m40 p40 => ?_)
    refine V_istore_n (pc := 43) hG (dk dd_X10_sizeOf 25 rfl) (by decide) (lv' := [(0, _), (1, _), (2, _), (3, _)]) rfl ?_
    refine V_iload_n (pc := 44) hG (dk dd_X10_sizeOf 26 rfl) rfl ?_
    refine V_aload_n (pc := 45) hG (dk dd_X10_sizeOf 27 rfl) rfl ?_
    refine V_iload_n (pc := 46) hG (dk dd_X10_sizeOf 28 rfl) rfl ?_
    refine V_callVip (pc := 47) hG (dk dd_X10_sizeOf 29 rfl) ml_X10_302 mo_X10_markOf sh_67 rfl (m_markOf (by rw [p40.2.2.c, p35.2.c, t2.c]; exact hA) hv hh hx p40.2.1 (by simp only [List.length_append, List.length_singleton]; omega)) (by decide) (by decide) rfl rfl rfl (fun x47 m47 p47 => ?_)
    refine V_iadd (pc := 50) hG (dk dd_X10_sizeOf 30 rfl) ?_
    refine V_istore_n (pc := 51) hG (dk dd_X10_sizeOf 31 rfl) (by decide) (lv' := [(0, _), (1, _), (2, _), (3, _)]) rfl ?_
    refine V_iload_n (pc := 52) hG (dk dd_X10_sizeOf 32 rfl) rfl ?_
    refine V_iconst (pc := 53) hG (dk dd_X10_sizeOf 33 rfl) (v := 2) (by decide) ?_
    refine V_icmp_ne (pc := 54) hG (dk dd_X10_sizeOf 34 rfl) (tgt := 62) (by decide) (fun h54 => ?_) (fun h54 => ?_)
    refine V_iload_n (pc := 62) hG (dk dd_X10_sizeOf 38 rfl) rfl ?_
    refine V_iretP (pc := 63) hG (dk dd_X10_sizeOf 39 rfl) hR (Pi.mk ?_)
    rotate_left
    refine V_iload_n (pc := 57) hG (dk dd_X10_sizeOf 35 rfl) rfl ?_
    refine V_ineg (pc := 58) hG (dk dd_X10_sizeOf 36 rfl) ?_
    refine V_goto (pc := 59) hG (dk dd_X10_sizeOf 37 rfl) (tgt := 63) (by decide) ?_
    refine V_iretP (pc := 63) hG (dk dd_X10_sizeOf 39 rfl) hR (Pi.mk ?_)
    rotate_left
    -- leaves: return@63; return@63
    all_goals (have tr := p47.2.1; rw [if_neg (by omega)] at tr; have e : l2 ++ [11] ++ [10] ++ mkT α h = askT α h 0 := (by rw [← t4]; simp); rw [e] at tr; have of := ((t2.tr p35.2).tr p40.2.2).tr p47.2.2; refine ⟨?_, tr, of⟩; rw [p47.1, p40.1, if_neg (by omega)]; unfold askV; rw [if_pos rfl, if_neg (by omega)])
    · rw [if_neg (fun q => h54 (q2.mpr q))]
    · rw [if_pos (q2.mp h54)]
  refine V_aload_n (pc := 0) hG (dk dd_X10_sizeOf 0 rfl) rfl ?_
  refine V_getR (pc := 1) hG (dk dd_X10_sizeOf 1 rfl) fl_X10_19 sh_67 rfl ?_
  refine V_iload_n (pc := 4) hG (dk dd_X10_sizeOf 2 rfl) rfl ?_
  refine V_iconst (pc := 5) hG (dk dd_X10_sizeOf 3 rfl) (v := 0) (by decide) ?_
  refine V_callSip (pc := 6) hG (dk dd_X10_sizeOf 4 rfl) ml_X10_177 mo_X10_of (m_of sh_71 hx (by omega) (v := 0) rfl (by decide)) (by decide) (by decide) rfl rfl rfl (fun x6 m6 p6 => ?_)
  refine V_istore_n (pc := 9) hG (dk dd_X10_sizeOf 5 rfl) (by decide) (lv' := [(0, _), (1, _), (2, _)]) rfl ?_
  refine V_iload_n (pc := 10) hG (dk dd_X10_sizeOf 6 rfl) rfl ?_
  refine V_iconst (pc := 11) hG (dk dd_X10_sizeOf 7 rfl) (v := 4) (by decide) ?_
  refine V_icmp_lt (pc := 12) hG (dk dd_X10_sizeOf 8 rfl) (tgt := 21) (by decide) (fun h12 => ?_) (fun h12 => ?_)
  rotate_left
  rotate_left
  -- leaves: stop 21; stop 15
  · rw [p6.2, ek, p6.1]
    rw [p6.2, ek] at h12
    have z4 := q4.mp h12
    refine V_iload_n (pc := 21) hG (dk dd_X10_sizeOf 13 rfl) rfl ?_
    refine V_iconst (pc := 22) hG (dk dd_X10_sizeOf 14 rfl) (v := 2) (by decide) ?_
    refine V_icmp_ne (pc := 23) hG (dk dd_X10_sizeOf 15 rfl) (tgt := 32) (by decide) (fun h23 => ?_) (fun h23 => ?_)
    rotate_left
    refine V_aload_n (pc := 26) hG (dk dd_X10_sizeOf 16 rfl) rfl ?_
    refine V_bipush (pc := 27) hG (dk dd_X10_sizeOf 17 rfl) (v := 12) (by decide) ?_
    refine V_callVvp (pc := 29) hG (dk dd_X10_sizeOf 18 rfl) ml_X10_293 mo_X10_began0 sh_67 rfl (m_began0 hT (by decide) (b := 12) rfl) (by decide) (by decide) rfl rfl rfl (fun m29 p29 => ?_)
    rotate_left
    -- leaves: stop 32; stop 32
    · have n2 : ¬ α 1 h = 2 := fun q => h23 (q2.mpr q)
      exact tail μ [] z4 hT ⟨fun _ _ _ => rfl, fun _ _ => rfl⟩ (by decide) (by unfold askT; rw [if_pos rfl, if_neg (by omega), if_neg n2]; rfl)
    · have n2 := q2.mp h23
      exact tail _ _ z4 p29.1 p29.2 (by decide) (by unfold askT; rw [if_pos rfl, if_neg (by omega), if_pos n2]; rfl)
  · rw [p6.2, ek, p6.1]
    rw [p6.2, ek] at h12
    have z4 : ¬ α 1 h < 4 := fun q => h12 (q4.mpr q)
    refine V_aload_n (pc := 15) hG (dk dd_X10_sizeOf 9 rfl) rfl ?_
    refine V_iload_n (pc := 16) hG (dk dd_X10_sizeOf 10 rfl) rfl ?_
    refine V_callVip (pc := 17) hG (dk dd_X10_sizeOf 11 rfl) ml_X10_299 mo_X10_rainSize sh_67 rfl (m_rainSize hA hv hh hx hT (by decide)) (by decide) (by decide) rfl rfl rfl (fun x17 m17 p17 => ?_)
    refine V_iretP (pc := 20) hG (dk dd_X10_sizeOf 12 rfl) hR (Pi.mk ?_)
    rotate_left
    -- leaves: return@20
    · refine ⟨?_, ?_, p17.2.2⟩
      · rw [p17.1]; unfold askV; rw [if_pos rfl, if_pos (by omega)]
      · have := p17.2.1
        unfold askT; rw [if_pos rfl, if_pos (by omega)]; exact this
def AkM (α : Al) (x w : Int32) (μ : Mem) (r : Int32) (μ' : Mem) : Prop := (¬ (inN x (α 0 6) ∧ (w = 0 ∨ w = 1)) ∧ r = -1000001 ∧ μ' = th0 μ) ∨ ((inN x (α 0 6) ∧ (w = 0 ∨ w = 1)) ∧ r = askV α x.toNatClampNeg w ∧ TrM μ' (askT α x.toNatClampNeg w) ∧ (∀ j, j ≠ 67 → j ≠ 84 → μ' j = μ j) ∧ ∀ q, 1 ≤ q → q ≠ 30 → μ' 67 q = μ 67 q)
theorem m_ask {μ : Mem} {α : Al} (hA : Abs (kap (μ 71)) α) (hz : Vz α) {x w : Int32} : CtP yX10_ask cX10_ask 3 (some .int) 5 [vR 67, vI x, vI w] μ (Pi (AkM α x w μ)) := by
  refine CtP.go RX10 rfl pn_X10 (Nat.le_of_ble_eq_true rfl) (fun C hG hR => ?_)
  have hH := hz.H
  have e3 : th0 μ 71 3 = nI (α 0 6) := e_sc hA (i := 6) (by decide)
  by_cases hi : inN x (α 0 6) ∧ (w = 0 ∨ w = 1)
  · obtain ⟨hx, hh⟩ := hi.1.n (by omega)
    have hv := hz.vh hh
    have b0 : OffA (th0 μ) (setc (th0 μ) 67 (upd (th0 μ 67) 30 0)) := ⟨fun j a _ => setc_n a, fun q hq => by rw [setc_s, upd_n hq]⟩
    have t0 : TrM (setc (th0 μ) 67 (upd (th0 μ 67) 30 0)) [] := ⟨by rw [setc_s, upd_s]; rfl, fun k hk => absurd hk (Nat.not_lt_zero k)⟩
    have hA2 : Abs (kap (setc (th0 μ) 67 (upd (th0 μ 67) 30 0) 71)) α := hA
    have fr : ∀ m, OffA (setc (th0 μ) 67 (upd (th0 μ 67) 30 0)) m → (∀ j, j ≠ 67 → j ≠ 84 → m j = μ j) ∧ ∀ q, 1 ≤ q → q ≠ 30 → m 67 q = μ 67 q := fun m h => ⟨fun j a b => by rw [(b0.tr h).1 j a b]; exact th0_n a, fun q a b => by rw [(b0.tr h).2 q b]; exact th0_s a⟩
    refine V_aload_n (pc := 0) hG (dk dd_X10_ask 0 rfl) rfl ?_
    refine V_iconst (pc := 1) hG (dk dd_X10_ask 1 rfl) (v := 0) (by decide) ?_
    refine V_putI (pc := 2) hG (dk dd_X10_ask 2 rfl) fl_X10_62 sh_67 rfl rfl ?_
    refine V_aload_n (pc := 5) hG (dk dd_X10_ask 3 rfl) rfl ?_
    refine V_iload_n (pc := 6) hG (dk dd_X10_ask 4 rfl) rfl ?_
    refine V_callVip (pc := 7) hG (dk dd_X10_ask 5 rfl) ml_X10_201 mo_X10_isHum sh_67 rfl (m_isHum (n := α 0 6) (by omega) e3) (by decide) (by decide) rfl rfl rfl (fun x7 m7 p7 => ?_)
    refine V_if_eq (pc := 10) hG (dk dd_X10_ask 6 rfl) (tgt := 23) (by decide) (fun h10 => ?_) (fun h10 => ?_)
    rotate_left
    refine V_iload_n (pc := 13) hG (dk dd_X10_ask 7 rfl) rfl ?_
    refine V_i2l (pc := 14) hG (dk dd_X10_ask 8 rfl) ?_
    refine V_lconst (pc := 15) hG (dk dd_X10_ask 9 rfl) (v := 0) (by decide) ?_
    refine V_lconst (pc := 16) hG (dk dd_X10_ask 10 rfl) (v := 1) (by decide) ?_
    refine V_callSip (pc := 17) hG (dk dd_X10_ask 11 rfl) ml_X10_72 mo_X10_in (m_inI (v := w) (lo := 0) (hi := 1) rfl rfl (by decide)) (by decide) (by decide) rfl rfl rfl (fun x17 m17 p17 => ?_)
    refine V_if_ne (pc := 20) hG (dk dd_X10_ask 12 rfl) (tgt := 26) (by decide) (fun h20 => ?_) (fun h20 => ?_)
    rotate_left
    rotate_left
    -- leaves: stop 23; stop 26; stop 23
    · exact absurd hi.1 (p7.2.no h10)
    · have em : m17 = th0 μ := p17.1.trans p7.1
      rw [em]
      refine V_aload_n (pc := 26) hG (dk dd_X10_ask 15 rfl) rfl ?_
      refine V_iconst (pc := 27) hG (dk dd_X10_ask 16 rfl) (v := 0) (by decide) ?_
      refine V_putI (pc := 28) hG (dk dd_X10_ask 17 rfl) fl_X10_290 sh_67 rfl rfl ?_
      refine V_iload_n (pc := 31) hG (dk dd_X10_ask 18 rfl) rfl ?_
      refine V_if_ne (pc := 32) hG (dk dd_X10_ask 19 rfl) (tgt := 43) (by decide) (fun h32 => ?_) (fun h32 => ?_)
      refine V_aload_n (pc := 43) hG (dk dd_X10_ask 24 rfl) rfl ?_
      refine V_iload_n (pc := 44) hG (dk dd_X10_ask 25 rfl) rfl ?_
      refine V_callVip (pc := 45) hG (dk dd_X10_ask 26 rfl) ml_X10_302 mo_X10_markOf sh_67 rfl (m_markOf hA2 hv hh hx t0 (by decide)) (by decide) (by decide) rfl rfl rfl (fun x45 m45 p45 => ?_)
      refine V_iretP (pc := 48) hG (dk dd_X10_ask 27 rfl) hR (Pi.mk ?_)
      rotate_left
      refine V_aload_n (pc := 35) hG (dk dd_X10_ask 20 rfl) rfl ?_
      refine V_iload_n (pc := 36) hG (dk dd_X10_ask 21 rfl) rfl ?_
      refine V_callVip (pc := 37) hG (dk dd_X10_ask 22 rfl) ml_X10_305 mo_X10_sizeOf sh_67 rfl (m_sizeOf hA2 hv hh hx t0) (by decide) (by decide) rfl rfl rfl (fun x37 m37 p37 => ?_)
      refine V_goto (pc := 40) hG (dk dd_X10_ask 23 rfl) (tgt := 48) (by decide) ?_
      refine V_iretP (pc := 48) hG (dk dd_X10_ask 27 rfl) hR (Pi.mk ?_)
      rotate_left
      -- leaves: return@48; return@48
      · obtain ⟨c1, c2, c3⟩ := p45
        refine Or.inr ⟨hi, ?_, ?_, (fr _ c3).1, (fr _ c3).2⟩
        · rw [c1]; unfold askV; rw [if_neg h32]
        · unfold askT; rw [if_neg h32]; exact c2
      · obtain ⟨c1, c2, c3⟩ := p37
        rw [← h32] at c1 c2
        exact Or.inr ⟨hi, c1, c2, (fr _ c3).1, (fr _ c3).2⟩
    · exact absurd (i2c.mpr hi.2) (p17.2.no h20)
  · skip
    refine V_aload_n (pc := 0) hG (dk dd_X10_ask 0 rfl) rfl ?_
    refine V_iconst (pc := 1) hG (dk dd_X10_ask 1 rfl) (v := 0) (by decide) ?_
    refine V_putI (pc := 2) hG (dk dd_X10_ask 2 rfl) fl_X10_62 sh_67 rfl rfl ?_
    refine V_aload_n (pc := 5) hG (dk dd_X10_ask 3 rfl) rfl ?_
    refine V_iload_n (pc := 6) hG (dk dd_X10_ask 4 rfl) rfl ?_
    refine V_callVip (pc := 7) hG (dk dd_X10_ask 5 rfl) ml_X10_201 mo_X10_isHum sh_67 rfl (m_isHum (n := α 0 6) (by omega) e3) (by decide) (by decide) rfl rfl rfl (fun x7 m7 p7 => ?_)
    refine V_if_eq (pc := 10) hG (dk dd_X10_ask 6 rfl) (tgt := 23) (by decide) (fun h10 => ?_) (fun h10 => ?_)
    refine V_ldc (pc := 23) hG (dk dd_X10_ask 13 rfl) kk_X10_82 ?_
    refine V_iretP (pc := 25) hG (dk dd_X10_ask 14 rfl) hR (Pi.mk ?_)
    rotate_left
    refine V_iload_n (pc := 13) hG (dk dd_X10_ask 7 rfl) rfl ?_
    refine V_i2l (pc := 14) hG (dk dd_X10_ask 8 rfl) ?_
    refine V_lconst (pc := 15) hG (dk dd_X10_ask 9 rfl) (v := 0) (by decide) ?_
    refine V_lconst (pc := 16) hG (dk dd_X10_ask 10 rfl) (v := 1) (by decide) ?_
    refine V_callSip (pc := 17) hG (dk dd_X10_ask 11 rfl) ml_X10_72 mo_X10_in (m_inI (v := w) (lo := 0) (hi := 1) rfl rfl (by decide)) (by decide) (by decide) rfl rfl rfl (fun x17 m17 p17 => ?_)
    refine V_if_ne (pc := 20) hG (dk dd_X10_ask 12 rfl) (tgt := 26) (by decide) (fun h20 => ?_) (fun h20 => ?_)
    rotate_left
    refine V_ldc (pc := 23) hG (dk dd_X10_ask 13 rfl) kk_X10_82 ?_
    refine V_iretP (pc := 25) hG (dk dd_X10_ask 14 rfl) hR (Pi.mk ?_)
    rotate_left
    -- leaves: return@25; stop 26; return@25
    · exact Or.inl ⟨hi, rfl, p7.1⟩
    · exact absurd ⟨p7.2.yes h10, i2c.mp (p17.2.yes h20)⟩ hi
    · exact Or.inl ⟨hi, rfl, p17.1.trans p7.1⟩
def traF (l : List Nat) (x : Int32) : Int32 := if inN x l.length then nI (l.getD x.toNatClampNeg 0) else -1000000
theorem m_trace {μ : Mem} {l : List Nat} (hT : TrM μ l) (hl : l.length ≤ 16) {x : Int32} : CtP yX10_trace cX10_trace 2 (some .int) 1 [vR 67, vI x] μ (Pi (fun r μ' => r = traF l x ∧ μ' = th0 μ)) := by
  refine CtP.go RX10 rfl pn_X10 (Nat.le_of_ble_eq_true rfl) (fun C hG hR => ?_)
  have e30 : th0 μ 67 30 = nI l.length := (th0_s (by decide)).trans hT.1
  have key : (0 ≤ x ∧ x ≤ nI l.length - 1) ↔ inN x l.length := m_le1 (by omega)
  by_cases hi : inN x l.length
  · obtain ⟨hx, hh⟩ := hi.n (by omega)
    have rx : vp_in x 16 := by rw [hx]; exact vp_in_nI (by omega) (by decide)
    refine V_aload_n (pc := 0) hG (dk dd_X10_trace 0 rfl) rfl ?_
    refine V_iconst (pc := 1) hG (dk dd_X10_trace 1 rfl) (v := 0) (by decide) ?_
    refine V_putI (pc := 2) hG (dk dd_X10_trace 2 rfl) fl_X10_62 sh_67 rfl rfl ?_
    refine V_iload_n (pc := 5) hG (dk dd_X10_trace 3 rfl) rfl ?_
    refine V_i2l (pc := 6) hG (dk dd_X10_trace 4 rfl) ?_
    refine V_lconst (pc := 7) hG (dk dd_X10_trace 5 rfl) (v := 0) (by decide) ?_
    refine V_aload_n (pc := 8) hG (dk dd_X10_trace 6 rfl) rfl ?_
    refine V_getI (pc := 9) hG (dk dd_X10_trace 7 rfl) fl_X10_290 sh_67 rfl ?_
    refine V_iconst (pc := 12) hG (dk dd_X10_trace 8 rfl) (v := 1) (by decide) ?_
    refine V_isub (pc := 13) hG (dk dd_X10_trace 9 rfl) ?_
    refine V_i2l (pc := 14) hG (dk dd_X10_trace 10 rfl) ?_
    refine V_callSip (pc := 15) hG (dk dd_X10_trace 11 rfl) ml_X10_72 mo_X10_in (m_inI (v := x) (lo := 0) (hi := nI l.length - 1) rfl rfl (by rw [← e30]; rfl)) (by decide) (by decide) rfl rfl rfl (fun x15 m15 p15 => ?_)
    refine V_if_eq (pc := 18) hG (dk dd_X10_trace 12 rfl) (tgt := 30) (by decide) (fun h18 => ?_) (fun h18 => ?_)
    rotate_left
    refine V_aload_n (pc := 21) hG (dk dd_X10_trace 13 rfl) rfl ?_
    refine V_getR (pc := 22) hG (dk dd_X10_trace 14 rfl) fl_X10_59 sh_67 rfl ?_
    refine V_iload_n (pc := 25) hG (dk dd_X10_trace 15 rfl) rfl ?_
    refine V_iald (pc := 26) hG (dk dd_X10_trace 16 rfl) sh_84 rx ?_
    refine V_goto (pc := 27) hG (dk dd_X10_trace 17 rfl) (tgt := 32) (by decide) ?_
    refine V_iretP (pc := 32) hG (dk dd_X10_trace 19 rfl) hR (Pi.mk ?_)
    rotate_left
    -- leaves: stop 30; return@32
    · exact absurd (key.mpr hi) (p15.2.no h18)
    · refine ⟨?_, p15.1⟩
      rw [p15.1]; unfold traF; rw [if_pos hi]; exact hT.2 _ hh
  · skip
    refine V_aload_n (pc := 0) hG (dk dd_X10_trace 0 rfl) rfl ?_
    refine V_iconst (pc := 1) hG (dk dd_X10_trace 1 rfl) (v := 0) (by decide) ?_
    refine V_putI (pc := 2) hG (dk dd_X10_trace 2 rfl) fl_X10_62 sh_67 rfl rfl ?_
    refine V_iload_n (pc := 5) hG (dk dd_X10_trace 3 rfl) rfl ?_
    refine V_i2l (pc := 6) hG (dk dd_X10_trace 4 rfl) ?_
    refine V_lconst (pc := 7) hG (dk dd_X10_trace 5 rfl) (v := 0) (by decide) ?_
    refine V_aload_n (pc := 8) hG (dk dd_X10_trace 6 rfl) rfl ?_
    refine V_getI (pc := 9) hG (dk dd_X10_trace 7 rfl) fl_X10_290 sh_67 rfl ?_
    refine V_iconst (pc := 12) hG (dk dd_X10_trace 8 rfl) (v := 1) (by decide) ?_
    refine V_isub (pc := 13) hG (dk dd_X10_trace 9 rfl) ?_
    refine V_i2l (pc := 14) hG (dk dd_X10_trace 10 rfl) ?_
    refine V_callSip (pc := 15) hG (dk dd_X10_trace 11 rfl) ml_X10_72 mo_X10_in (m_inI (v := x) (lo := 0) (hi := nI l.length - 1) rfl rfl (by rw [← e30]; rfl)) (by decide) (by decide) rfl rfl rfl (fun x15 m15 p15 => ?_)
    refine V_if_eq (pc := 18) hG (dk dd_X10_trace 12 rfl) (tgt := 30) (by decide) (fun h18 => ?_) (fun h18 => ?_)
    refine V_ldc (pc := 30) hG (dk dd_X10_trace 18 rfl) kk_X10_105 ?_
    refine V_iretP (pc := 32) hG (dk dd_X10_trace 19 rfl) hR (Pi.mk ?_)
    rotate_left
    rotate_left
    -- leaves: return@32; stop 21
    · refine ⟨?_, p15.1⟩
      unfold traF; rw [if_neg hi]
    · exact absurd (key.mp (p15.2.yes h18)) hi
theorem m_status {μ : Mem} : CtP yX10_status cX10_status 1 (some .int) 0 [vR 67] μ (Pi (fun r μ' => r = μ 67 1 ∧ μ' = th0 μ)) := by
  refine CtP.go RX10 rfl pn_X10 (Nat.le_of_ble_eq_true rfl) (fun C hG hR => ?_)
  refine V_aload_n (pc := 0) hG (dk dd_X10_status 0 rfl) rfl ?_
  refine V_iconst (pc := 1) hG (dk dd_X10_status 1 rfl) (v := 0) (by decide) ?_
  refine V_putI (pc := 2) hG (dk dd_X10_status 2 rfl) fl_X10_62 sh_67 rfl rfl ?_
  refine V_aload_n (pc := 5) hG (dk dd_X10_status 3 rfl) rfl ?_
  refine V_getI (pc := 6) hG (dk dd_X10_status 4 rfl) fl_X10_66 sh_67 rfl ?_
  refine V_iretP (pc := 9) hG (dk dd_X10_status 5 rfl) hR (Pi.mk ?_)
  rotate_left
  -- leaves: return@9
  · exact ⟨th0_s (by decide), rfl⟩
theorem m_fault {μ : Mem} : CtP yX10_fault cX10_fault 1 (some .int) 0 [vR 67] μ (Pi (fun r μ' => r = μ 67 18 ∧ μ' = th0 μ)) := by
  refine CtP.go RX10 rfl pn_X10 (Nat.le_of_ble_eq_true rfl) (fun C hG hR => ?_)
  refine V_aload_n (pc := 0) hG (dk dd_X10_fault 0 rfl) rfl ?_
  refine V_iconst (pc := 1) hG (dk dd_X10_fault 1 rfl) (v := 0) (by decide) ?_
  refine V_putI (pc := 2) hG (dk dd_X10_fault 2 rfl) fl_X10_62 sh_67 rfl rfl ?_
  refine V_aload_n (pc := 5) hG (dk dd_X10_fault 3 rfl) rfl ?_
  refine V_getI (pc := 6) hG (dk dd_X10_fault 4 rfl) fl_X10_131 sh_67 rfl ?_
  refine V_iretP (pc := 9) hG (dk dd_X10_fault 5 rfl) hR (Pi.mk ?_)
  rotate_left
  -- leaves: return@9
  · exact ⟨th0_s (by decide), rfl⟩
def couF (h0 : Nat) (α : Al) (L n : Nat) (w : Int32) : Int32 := if w = 0 then nI h0 else if w = 1 then nI (α 0 0) else if w = 2 then nI (α 0 6) else if w = 3 then nI (α 0 7) else if w = 4 then nI (α 0 5) else if w = 5 then nI (α 0 3) else if w = 6 then nI L else if w = 7 then nI n else -1000001
theorem m_count {μ : Mem} {α : Al} (hA : Abs (kap (μ 71)) α) (hk : Rok (μ 68) (μ 69)) {L n : Nat} (hL : μ 67 9 = nI L) (hn : μ 67 11 = nI n) {w : Int32} : CtP yX10_count cX10_count 4 (some .int) 0 [vR 67, vI w] μ (Pi (fun r μ' => r = couF (hmN μ 68 8) α L n w ∧ μ' = th0 μ)) := by
  refine CtP.go RX10 rfl pn_X10 (Nat.le_of_ble_eq_true rfl) (fun C hG hR => ?_)
  have loop : w = 0 → ∀ d i, i + d = 8 → V C 58 [(0, vR 67), (1, vI w), (2, vI (nI (hmN μ 68 i))), (3, vI (nI i))] [] (th0 μ) := by
    intro hw d
    induction d with
    | zero =>
      intro i hi
      refine V_iload_n (pc := 58) hG (dk dd_X10_count 9 rfl) rfl ?_
      refine V_bipush (pc := 59) hG (dk dd_X10_count 10 rfl) (v := 8) (by decide) ?_
      refine V_icmp_ge (pc := 61) hG (dk dd_X10_count 11 rfl) (tgt := 87) (by decide) (fun h61 => ?_) (fun h61 => ?_)
      refine V_iload_n (pc := 87) hG (dk dd_X10_count 25 rfl) rfl ?_
      refine V_iretP (pc := 88) hG (dk dd_X10_count 26 rfl) hR (Pi.mk ?_)
      rotate_left
      rotate_left
      -- leaves: return@88; stop 64
      · refine ⟨?_, rfl⟩
        unfold couF; rw [if_pos hw, show i = 8 by omega]
      · exfalso; have := nle_i (a := 8) h61 (by omega) (by omega); omega
    | succ d ih =>
      intro i hi
      have hI := ih (i + 1) (by omega)
      have ri : vp_in (nI i) 8 := vp_in_nI (by omega) (by decide)
      have ci : (nI i).toNatClampNeg = i := nI_clamp (by omega)
      have lt := hk.lt (n := i) (by omega)
      have e : th0 μ 68 (nI i).toNatClampNeg = μ 68 i := by rw [ci]; rfl
      have hs : hmN μ 68 (i + 1) = hmN μ 68 i + (if μ 68 i = -1 then 0 else 1) := rfl
      rw [hs, nI_succ] at hI
      refine V_iload_n (pc := 58) hG (dk dd_X10_count 9 rfl) rfl ?_
      refine V_bipush (pc := 59) hG (dk dd_X10_count 10 rfl) (v := 8) (by decide) ?_
      refine V_icmp_ge (pc := 61) hG (dk dd_X10_count 11 rfl) (tgt := 87) (by decide) (fun h61 => ?_) (fun h61 => ?_)
      rotate_left
      refine V_iload_n (pc := 64) hG (dk dd_X10_count 12 rfl) rfl ?_
      refine V_aload_n (pc := 65) hG (dk dd_X10_count 13 rfl) rfl ?_
      refine V_getR (pc := 66) hG (dk dd_X10_count 14 rfl) fl_X10_7 sh_67 rfl ?_
      refine V_iload_n (pc := 69) hG (dk dd_X10_count 15 rfl) rfl ?_
      refine V_iald (pc := 70) hG (dk dd_X10_count 16 rfl) sh_68 ri ?_
      refine V_if_lt (pc := 71) hG (dk dd_X10_count 17 rfl) (tgt := 78) (by decide) (fun h71 => ?_) (fun h71 => ?_)
      refine V_iconst (pc := 78) hG (dk dd_X10_count 20 rfl) (v := 0) (by decide) ?_
      refine V_iadd (pc := 79) hG (dk dd_X10_count 21 rfl) ?_
      refine V_istore_n (pc := 80) hG (dk dd_X10_count 22 rfl) (by decide) (lv' := [(0, _), (1, _), (2, _), (3, _)]) rfl ?_
      refine V_iinc (pc := 81) hG (dk dd_X10_count 23 rfl) rfl (v := _ + 1) rfl (by decide) (lv' := [(0, _), (1, _), (2, _), (3, _)]) rfl ?_
      refine V_goto (pc := 84) hG (dk dd_X10_count 24 rfl) (tgt := 58) (by decide) ?_
      rotate_left
      refine V_iconst (pc := 74) hG (dk dd_X10_count 18 rfl) (v := 1) (by decide) ?_
      refine V_goto (pc := 75) hG (dk dd_X10_count 19 rfl) (tgt := 79) (by decide) ?_
      refine V_iadd (pc := 79) hG (dk dd_X10_count 21 rfl) ?_
      refine V_istore_n (pc := 80) hG (dk dd_X10_count 22 rfl) (by decide) (lv' := [(0, _), (1, _), (2, _), (3, _)]) rfl ?_
      refine V_iinc (pc := 81) hG (dk dd_X10_count 23 rfl) rfl (v := _ + 1) rfl (by decide) (lv' := [(0, _), (1, _), (2, _), (3, _)]) rfl ?_
      refine V_goto (pc := 84) hG (dk dd_X10_count 24 rfl) (tgt := 58) (by decide) ?_
      rotate_left
      -- leaves: stop 87; stop 58; stop 58
      · exfalso; have := le_i (a := 8) h61 (by omega) (by omega); omega
      · rw [e] at h71
        rw [if_pos (lt.mp h71), Nat.add_zero] at hI
        rw [Int32.add_zero]; exact hI
      · rw [e] at h71
        rw [if_neg (fun q => h71 (lt.mpr q)), nI_succ] at hI
        exact hI
  have r0 : vp_in (0 : Int32) 46 := rr (n := 0) (by decide)
  have r3 : vp_in (3 : Int32) 46 := rr (n := 3) (by decide)
  have r4 : vp_in (4 : Int32) 46 := rr (n := 4) (by decide)
  have r5 : vp_in (5 : Int32) 46 := rr (n := 5) (by decide)
  have r6 : vp_in (6 : Int32) 46 := rr (n := 6) (by decide)
  refine V_aload_n (pc := 0) hG (dk dd_X10_count 0 rfl) rfl ?_
  refine V_iconst (pc := 1) hG (dk dd_X10_count 1 rfl) (v := 0) (by decide) ?_
  refine V_putI (pc := 2) hG (dk dd_X10_count 2 rfl) fl_X10_62 sh_67 rfl rfl ?_
  refine V_iconst (pc := 5) hG (dk dd_X10_count 3 rfl) (v := 0) (by decide) ?_
  refine V_istore_n (pc := 6) hG (dk dd_X10_count 4 rfl) (by decide) (lv' := [(0, _), (1, _), (2, _)]) rfl ?_
  refine V_iload_n (pc := 7) hG (dk dd_X10_count 5 rfl) rfl ?_
  refine V_tsw (pc := 8) hG (dk dd_X10_count 6 rfl) (cs := [(0, 56), (1, 89), (2, 96), (3, 103), (4, 110), (5, 117), (6, 125), (7, 130)]) (td := 135) (by decide +kernel) ?_
  refine And.intro (fun h8_0 => ?_) (fun h8_0 => ?_)
  refine V_iconst (pc := 56) hG (dk dd_X10_count 7 rfl) (v := 0) (by decide) ?_
  refine V_istore_n (pc := 57) hG (dk dd_X10_count 8 rfl) (by decide) (lv' := [(0, _), (1, _), (2, _), (3, _)]) rfl ?_
  rotate_left
  refine And.intro (fun h8_1 => ?_) (fun h8_1 => ?_)
  refine V_aload_n (pc := 89) hG (dk dd_X10_count 27 rfl) rfl ?_
  refine V_getR (pc := 90) hG (dk dd_X10_count 28 rfl) fl_X10_19 sh_67 rfl ?_
  refine V_iconst (pc := 93) hG (dk dd_X10_count 29 rfl) (v := 0) (by decide) ?_
  refine V_iald (pc := 94) hG (dk dd_X10_count 30 rfl) sh_71 r0 ?_
  refine V_iretP (pc := 95) hG (dk dd_X10_count 31 rfl) hR (Pi.mk ?_)
  rotate_left
  refine And.intro (fun h8_2 => ?_) (fun h8_2 => ?_)
  refine V_aload_n (pc := 96) hG (dk dd_X10_count 32 rfl) rfl ?_
  refine V_getR (pc := 97) hG (dk dd_X10_count 33 rfl) fl_X10_19 sh_67 rfl ?_
  refine V_iconst (pc := 100) hG (dk dd_X10_count 34 rfl) (v := 3) (by decide) ?_
  refine V_iald (pc := 101) hG (dk dd_X10_count 35 rfl) sh_71 r3 ?_
  refine V_iretP (pc := 102) hG (dk dd_X10_count 36 rfl) hR (Pi.mk ?_)
  rotate_left
  refine And.intro (fun h8_3 => ?_) (fun h8_3 => ?_)
  refine V_aload_n (pc := 103) hG (dk dd_X10_count 37 rfl) rfl ?_
  refine V_getR (pc := 104) hG (dk dd_X10_count 38 rfl) fl_X10_19 sh_67 rfl ?_
  refine V_iconst (pc := 107) hG (dk dd_X10_count 39 rfl) (v := 4) (by decide) ?_
  refine V_iald (pc := 108) hG (dk dd_X10_count 40 rfl) sh_71 r4 ?_
  refine V_iretP (pc := 109) hG (dk dd_X10_count 41 rfl) hR (Pi.mk ?_)
  rotate_left
  refine And.intro (fun h8_4 => ?_) (fun h8_4 => ?_)
  refine V_aload_n (pc := 110) hG (dk dd_X10_count 42 rfl) rfl ?_
  refine V_getR (pc := 111) hG (dk dd_X10_count 43 rfl) fl_X10_19 sh_67 rfl ?_
  refine V_iconst (pc := 114) hG (dk dd_X10_count 44 rfl) (v := 5) (by decide) ?_
  refine V_iald (pc := 115) hG (dk dd_X10_count 45 rfl) sh_71 r5 ?_
  refine V_iretP (pc := 116) hG (dk dd_X10_count 46 rfl) hR (Pi.mk ?_)
  rotate_left
  refine And.intro (fun h8_5 => ?_) (fun h8_5 => ?_)
  refine V_aload_n (pc := 117) hG (dk dd_X10_count 47 rfl) rfl ?_
  refine V_getR (pc := 118) hG (dk dd_X10_count 48 rfl) fl_X10_19 sh_67 rfl ?_
  refine V_bipush (pc := 121) hG (dk dd_X10_count 49 rfl) (v := 6) (by decide) ?_
  refine V_iald (pc := 123) hG (dk dd_X10_count 50 rfl) sh_71 r6 ?_
  refine V_iretP (pc := 124) hG (dk dd_X10_count 51 rfl) hR (Pi.mk ?_)
  rotate_left
  refine And.intro (fun h8_6 => ?_) (fun h8_6 => ?_)
  refine V_aload_n (pc := 125) hG (dk dd_X10_count 52 rfl) rfl ?_
  refine V_getI (pc := 126) hG (dk dd_X10_count 53 rfl) fl_X10_170 sh_67 rfl ?_
  refine V_iretP (pc := 129) hG (dk dd_X10_count 54 rfl) hR (Pi.mk ?_)
  rotate_left
  refine And.intro (fun h8_7 => ?_) (fun h8_7 => ?_)
  refine V_aload_n (pc := 130) hG (dk dd_X10_count 55 rfl) rfl ?_
  refine V_getI (pc := 131) hG (dk dd_X10_count 56 rfl) fl_X10_89 sh_67 rfl ?_
  refine V_iretP (pc := 134) hG (dk dd_X10_count 57 rfl) hR (Pi.mk ?_)
  rotate_left
  show V _ _ _ _ _
  refine V_ldc (pc := 135) hG (dk dd_X10_count 58 rfl) kk_X10_82 ?_
  refine V_iretP (pc := 137) hG (dk dd_X10_count 59 rfl) hR (Pi.mk ?_)
  rotate_left
  -- leaves: stop 58; return@95; return@102; return@109; return@116; return@124; return@129; return@134; return@137
  · exact loop h8_0 8 0 (by omega)
  · exact ⟨by unfold couF; rw [if_neg h8_0, if_pos h8_1]; exact e_sc hA (i := 0) (by decide), rfl⟩
  · exact ⟨by unfold couF; rw [if_neg h8_0, if_neg h8_1, if_pos h8_2]; exact e_sc hA (i := 6) (by decide), rfl⟩
  · exact ⟨by unfold couF; rw [if_neg h8_0, if_neg h8_1, if_neg h8_2, if_pos h8_3]; exact e_sc hA (i := 7) (by decide), rfl⟩
  · exact ⟨by unfold couF; rw [if_neg h8_0, if_neg h8_1, if_neg h8_2, if_neg h8_3, if_pos h8_4]; exact e_sc hA (i := 5) (by decide), rfl⟩
  · exact ⟨by unfold couF; rw [if_neg h8_0, if_neg h8_1, if_neg h8_2, if_neg h8_3, if_neg h8_4, if_pos h8_5]; exact e_sc hA (i := 3) (by decide), rfl⟩
  · exact ⟨by unfold couF; rw [if_neg h8_0, if_neg h8_1, if_neg h8_2, if_neg h8_3, if_neg h8_4, if_neg h8_5, if_pos h8_6]; exact (th0_s (by decide)).trans hL, rfl⟩
  · exact ⟨by unfold couF; rw [if_neg h8_0, if_neg h8_1, if_neg h8_2, if_neg h8_3, if_neg h8_4, if_neg h8_5, if_neg h8_6, if_pos h8_7]; exact (th0_s (by decide)).trans hn, rfl⟩
  · exact ⟨by unfold couF; rw [if_neg h8_0, if_neg h8_1, if_neg h8_2, if_neg h8_3, if_neg h8_4, if_neg h8_5, if_neg h8_6, if_neg h8_7], rfl⟩
