theorem CtP.mo {y : MethodName} {b : ByteArray} {n : Nat} {ret : Option FieldType} {d : Nat} {as : List Vl} {μ : Mem} {f g : Int32 → Mem → Prop} (h : CtP y b n ret d as μ (Pi f)) (k : ∀ r m, f r m → g r m) : CtP y b n ret d as μ (Pi g) := by
  intro l E p e ha hc hk s m args below hf happ hP hkk
  obtain ⟨q, o, h1, h2, h3, ⟨⟨r, μ', ho, ⟨x, hx, hp⟩, hWo⟩, hF⟩, h5⟩ := h l E p e ha hc hk s m args below hf happ hP hkk
  exact ⟨q, o, h1, h2, h3, ⟨⟨r, μ', ho, ⟨x, hx, k x μ' hp⟩, hWo⟩, hF⟩, h5⟩
def StQ (x i v : Int32) (μ : Mem) (r : Int32) (μ' : Mem) : Prop :=
  (¬ isR x ∧ r = -1000001 ∧ μ' = th0 μ) ∨ (∃ n, x = nI n ∧ n < 8 ∧ ((μ 68 n < 0 ∧ r = -1000010 - 1 ∧ μ' = thS μ 1) ∨ (0 ≤ μ 68 n ∧ ¬ (0 ≤ i ∧ i ≤ μ 69 n - 1) ∧ r = -1000010 - 2 ∧ μ' = thS μ 2) ∨
    (0 ≤ μ 68 n ∧ (0 ≤ i ∧ i ≤ μ 69 n - 1) ∧ ∃ k, i = nI k ∧ k < 40 ∧ r = lanV (μ 68 n) v ∧ μ' = setc (thS μ 0) 70 (upd (μ 70) (40 * n + k) (lanV (μ 68 n) v)))))
theorem set_k {y i : Int32} (h : 0 ≤ i ∧ i ≤ y - 1) (hy : 0 ≤ y ∧ y ≤ 40) : ∃ k, i = nI k ∧ k < 40 := by
  obtain ⟨k, hk, rfl⟩ := nI_of (Int32.not_lt.mpr h.1)
  refine ⟨k, rfl, ?_⟩
  have : nI k < nI 40 := by rw [show nI 40 = 40 from rfl]; clear hk; grind
  exact (nI_ltI hk (by decide)).mp this
theorem ix40 {n k : Nat} : (40 : Int32) * nI n + nI k = nI (40 * n + k) := by rw [show (40 : Int32) = nI 40 from rfl, pk_mul, nI_add]
theorem m_set {μ : Mem} (hm : ∀ n, n < 8 → 0 ≤ μ 69 n ∧ μ 69 n ≤ 40) {x i v : Int32} : CtP yX10_set cX10_set 4 (some .int) 2 [vR 67, vI x, vI i, vI v] μ (Pi (StQ x i v μ)) := by
  refine CtP.go RX10 rfl pn_X10 (Nat.le_of_ble_eq_true rfl) (fun C hG hR => ?_)
  have s0 : setc (setc μ 67 (upd (μ 67) 0 0)) 67 (upd (setc μ 67 (upd (μ 67) 0 0) 67) 1 0) = thS μ 0 := thS_e μ 0
  refine V_aload_n (pc := 0) hG (dk dd_X10_set 0 rfl) rfl ?_
  refine V_iconst (pc := 1) hG (dk dd_X10_set 1 rfl) (v := 0) (by decide) ?_
  refine V_putI (pc := 2) hG (dk dd_X10_set 2 rfl) fl_X10_62 sh_67 rfl rfl ?_
  refine V_iload_n (pc := 5) hG (dk dd_X10_set 3 rfl) rfl ?_
  refine V_callSip (pc := 6) hG (dk dd_X10_set 4 rfl) ml_X10_76 mo_X10_isRow (m_isRow) (by decide) (by decide) rfl rfl rfl (fun x6 m6 p6 => ?_)
  refine V_if_ne (pc := 9) hG (dk dd_X10_set 5 rfl) (tgt := 15) (by decide) (fun h9 => ?_) (fun h9 => ?_)
  refine V_aload_n (pc := 15) hG (dk dd_X10_set 8 rfl) rfl ?_
  refine V_iconst (pc := 16) hG (dk dd_X10_set 9 rfl) (v := 0) (by decide) ?_
  refine V_putI (pc := 17) hG (dk dd_X10_set 10 rfl) fl_X10_66 sh_67 rfl rfl ?_
  refine V_aload_n (pc := 20) hG (dk dd_X10_set 11 rfl) rfl ?_
  refine V_getR (pc := 21) hG (dk dd_X10_set 12 rfl) fl_X10_7 sh_67 rfl ?_
  refine V_iload_n (pc := 24) hG (dk dd_X10_set 13 rfl) rfl ?_
  refine V_iald (pc := 25) hG (dk dd_X10_set 14 rfl) sh_68 ?_ ?_
  rotate_left
  refine V_if_ge (pc := 26) hG (dk dd_X10_set 15 rfl) (tgt := 35) (by decide) (fun h26 => ?_) (fun h26 => ?_)
  refine V_iload_n (pc := 35) hG (dk dd_X10_set 20 rfl) rfl ?_
  refine V_i2l (pc := 36) hG (dk dd_X10_set 21 rfl) ?_
  refine V_lconst (pc := 37) hG (dk dd_X10_set 22 rfl) (v := 0) (by decide) ?_
  refine V_aload_n (pc := 38) hG (dk dd_X10_set 23 rfl) rfl ?_
  refine V_getR (pc := 39) hG (dk dd_X10_set 24 rfl) fl_X10_13 sh_67 rfl ?_
  refine V_iload_n (pc := 42) hG (dk dd_X10_set 25 rfl) rfl ?_
  refine V_iald (pc := 43) hG (dk dd_X10_set 26 rfl) sh_69 ?_ ?_
  rotate_left
  refine V_iconst (pc := 44) hG (dk dd_X10_set 27 rfl) (v := 1) (by decide) ?_
  refine V_isub (pc := 45) hG (dk dd_X10_set 28 rfl) ?_
  refine V_i2l (pc := 46) hG (dk dd_X10_set 29 rfl) ?_
  refine V_callSip (pc := 47) hG (dk dd_X10_set 30 rfl) ml_X10_72 mo_X10_in (m_inI (v := i) (lo := 0) rfl rfl rfl) (by decide) (by decide) rfl rfl rfl (fun x47 m47 p47 => ?_)
  refine V_if_ne (pc := 50) hG (dk dd_X10_set 31 rfl) (tgt := 59) (by decide) (fun h50 => ?_) (fun h50 => ?_)
  refine V_aload_n (pc := 59) hG (dk dd_X10_set 36 rfl) rfl ?_
  refine V_getR (pc := 60) hG (dk dd_X10_set 37 rfl) fl_X10_16 sh_67 rfl ?_
  refine V_bipush (pc := 63) hG (dk dd_X10_set 38 rfl) (v := 40) (by decide) ?_
  refine V_iload_n (pc := 65) hG (dk dd_X10_set 39 rfl) rfl ?_
  refine V_imul (pc := 66) hG (dk dd_X10_set 40 rfl) ?_
  refine V_iload_n (pc := 67) hG (dk dd_X10_set 41 rfl) rfl ?_
  refine V_iadd (pc := 68) hG (dk dd_X10_set 42 rfl) ?_
  refine V_aload_n (pc := 69) hG (dk dd_X10_set 43 rfl) rfl ?_
  refine V_getR (pc := 70) hG (dk dd_X10_set 44 rfl) fl_X10_7 sh_67 rfl ?_
  refine V_iload_n (pc := 73) hG (dk dd_X10_set 45 rfl) rfl ?_
  refine V_iald (pc := 74) hG (dk dd_X10_set 46 rfl) sh_68 ?_ ?_
  rotate_left
  refine V_if_ne (pc := 75) hG (dk dd_X10_set 47 rfl) (tgt := 83) (by decide) (fun h75 => ?_) (fun h75 => ?_)
  refine V_aload_n (pc := 83) hG (dk dd_X10_set 51 rfl) rfl ?_
  refine V_getR (pc := 84) hG (dk dd_X10_set 52 rfl) fl_X10_7 sh_67 rfl ?_
  refine V_iload_n (pc := 87) hG (dk dd_X10_set 53 rfl) rfl ?_
  refine V_iald (pc := 88) hG (dk dd_X10_set 54 rfl) sh_68 ?_ ?_
  rotate_left
  refine V_iconst (pc := 89) hG (dk dd_X10_set 55 rfl) (v := 1) (by decide) ?_
  refine V_icmp_ne (pc := 90) hG (dk dd_X10_set 56 rfl) (tgt := 98) (by decide) (fun h90 => ?_) (fun h90 => ?_)
  refine V_iload_n (pc := 98) hG (dk dd_X10_set 60 rfl) rfl ?_
  refine V_iast (pc := 99) hG (dk dd_X10_set 61 rfl) sh_70 ?_ ?_
  rotate_left
  refine V_aload_n (pc := 100) hG (dk dd_X10_set 62 rfl) rfl ?_
  refine V_getR (pc := 101) hG (dk dd_X10_set 63 rfl) fl_X10_16 sh_67 rfl ?_
  refine V_bipush (pc := 104) hG (dk dd_X10_set 64 rfl) (v := 40) (by decide) ?_
  refine V_iload_n (pc := 106) hG (dk dd_X10_set 65 rfl) rfl ?_
  refine V_imul (pc := 107) hG (dk dd_X10_set 66 rfl) ?_
  refine V_iload_n (pc := 108) hG (dk dd_X10_set 67 rfl) rfl ?_
  refine V_iadd (pc := 109) hG (dk dd_X10_set 68 rfl) ?_
  refine V_iald (pc := 110) hG (dk dd_X10_set 69 rfl) sh_70 ?_ ?_
  rotate_left
  refine V_iretP (pc := 111) hG (dk dd_X10_set 70 rfl) hR (Pi.mk ?_)
  rotate_left
  refine V_iload_n (pc := 93) hG (dk dd_X10_set 57 rfl) rfl ?_
  refine V_i2s (pc := 94) hG (dk dd_X10_set 58 rfl) ?_
  refine V_goto (pc := 95) hG (dk dd_X10_set 59 rfl) (tgt := 99) (by decide) ?_
  refine V_iast (pc := 99) hG (dk dd_X10_set 61 rfl) sh_70 ?_ ?_
  rotate_left
  refine V_aload_n (pc := 100) hG (dk dd_X10_set 62 rfl) rfl ?_
  refine V_getR (pc := 101) hG (dk dd_X10_set 63 rfl) fl_X10_16 sh_67 rfl ?_
  refine V_bipush (pc := 104) hG (dk dd_X10_set 64 rfl) (v := 40) (by decide) ?_
  refine V_iload_n (pc := 106) hG (dk dd_X10_set 65 rfl) rfl ?_
  refine V_imul (pc := 107) hG (dk dd_X10_set 66 rfl) ?_
  refine V_iload_n (pc := 108) hG (dk dd_X10_set 67 rfl) rfl ?_
  refine V_iadd (pc := 109) hG (dk dd_X10_set 68 rfl) ?_
  refine V_iald (pc := 110) hG (dk dd_X10_set 69 rfl) sh_70 ?_ ?_
  rotate_left
  refine V_iretP (pc := 111) hG (dk dd_X10_set 70 rfl) hR (Pi.mk ?_)
  rotate_left
  refine V_iload_n (pc := 78) hG (dk dd_X10_set 48 rfl) rfl ?_
  refine V_i2b (pc := 79) hG (dk dd_X10_set 49 rfl) ?_
  refine V_goto (pc := 80) hG (dk dd_X10_set 50 rfl) (tgt := 99) (by decide) ?_
  refine V_iast (pc := 99) hG (dk dd_X10_set 61 rfl) sh_70 ?_ ?_
  rotate_left
  refine V_aload_n (pc := 100) hG (dk dd_X10_set 62 rfl) rfl ?_
  refine V_getR (pc := 101) hG (dk dd_X10_set 63 rfl) fl_X10_16 sh_67 rfl ?_
  refine V_bipush (pc := 104) hG (dk dd_X10_set 64 rfl) (v := 40) (by decide) ?_
  refine V_iload_n (pc := 106) hG (dk dd_X10_set 65 rfl) rfl ?_
  refine V_imul (pc := 107) hG (dk dd_X10_set 66 rfl) ?_
  refine V_iload_n (pc := 108) hG (dk dd_X10_set 67 rfl) rfl ?_
  refine V_iadd (pc := 109) hG (dk dd_X10_set 68 rfl) ?_
  refine V_iald (pc := 110) hG (dk dd_X10_set 69 rfl) sh_70 ?_ ?_
  rotate_left
  refine V_iretP (pc := 111) hG (dk dd_X10_set 70 rfl) hR (Pi.mk ?_)
  rotate_left
  refine V_aload_n (pc := 53) hG (dk dd_X10_set 32 rfl) rfl ?_
  refine V_iconst (pc := 54) hG (dk dd_X10_set 33 rfl) (v := 2) (by decide) ?_
  refine V_callVip (pc := 55) hG (dk dd_X10_set 34 rfl) ml_X10_83 mo_X10_finding sh_67 rfl (m_finding) (by decide) (by decide) rfl rfl rfl (fun x55 m55 p55 => ?_)
  refine V_iretP (pc := 58) hG (dk dd_X10_set 35 rfl) hR (Pi.mk ?_)
  rotate_left
  refine V_aload_n (pc := 29) hG (dk dd_X10_set 16 rfl) rfl ?_
  refine V_iconst (pc := 30) hG (dk dd_X10_set 17 rfl) (v := 1) (by decide) ?_
  refine V_callVip (pc := 31) hG (dk dd_X10_set 18 rfl) ml_X10_83 mo_X10_finding sh_67 rfl (m_finding) (by decide) (by decide) rfl rfl rfl (fun x31 m31 p31 => ?_)
  refine V_iretP (pc := 34) hG (dk dd_X10_set 19 rfl) hR (Pi.mk ?_)
  rotate_left
  refine V_ldc (pc := 12) hG (dk dd_X10_set 6 rfl) kk_X10_82 ?_
  refine V_iretP (pc := 14) hG (dk dd_X10_set 7 rfl) hR (Pi.mk ?_)
  rotate_left
  -- leaves: iaload@25 in; iaload@43 in; iaload@74 in; iaload@88 in; iastore@99 in; iaload@110 in; return@111; iastore@99 in; iaload@110 in; return@111; iastore@99 in; iaload@110 in; return@111; return@58; return@34; return@14
  all_goals (first | exact Or.inl ⟨p6.2.no h9, rfl, p6.1⟩ | skip)
  all_goals (obtain ⟨n, hx, hn⟩ := isR.n (p6.2.yes h9); obtain ⟨rfl, z6⟩ := p6)
  all_goals (rw [s0] at *)
  all_goals (first | (rw [hx]; exact vp_in_nI (by omega) (by decide)) | skip)
  all_goals (rw [nI_cl hx (by omega)] at *)
  all_goals (first | exact Or.inr ⟨n, hx, hn, Or.inl ⟨Int32.not_le.mp h26, p31.2, p31.1.trans (thS_f μ 0 1)⟩⟩ | skip)
  all_goals (obtain ⟨rfl, z47⟩ := p47)
  all_goals (first | (rw [hx]; exact vp_in_nI (by omega) (by decide)) | skip)
  rotate_left 9
  · exact Or.inr ⟨n, hx, hn, Or.inr (Or.inl ⟨h26, z47.no h50, p55.2, p55.1.trans (thS_f μ 0 2)⟩)⟩
  all_goals (obtain ⟨k, hi, hk⟩ := set_k (y := thS μ 0 69 n) (z47.yes h50) (hm n hn); have zy := z47.yes h50; rw [hx, hi, ix40])
  all_goals (first | exact vp_in_nI (by omega) (by decide) | skip)
  all_goals (rw [nI_clamp (by omega), setc_s, upd_s, ← hx, ← hi]; refine Or.inr ⟨n, hx, hn, Or.inr (Or.inr ⟨h26, zy, k, hi, hk, ?_, ?_⟩)⟩)
  · show v = lanV (thS μ 0 68 n) v
    unfold lanV; rw [if_neg h75, if_neg h90]
  · have : v = lanV (thS μ 0 68 n) v := by unfold lanV; rw [if_neg h75, if_neg h90]
    exact congrArg (fun w => setc (thS μ 0) 70 (upd (thS μ 0 70) (40 * n + k) w)) this
  · show _ = lanV (thS μ 0 68 n) v
    unfold lanV; rw [if_neg h75, if_pos h90]
  · have : v.toInt16.toInt32 = lanV (thS μ 0 68 n) v := by unfold lanV; rw [if_neg h75, if_pos h90]
    exact congrArg (fun w => setc (thS μ 0) 70 (upd (thS μ 0 70) (40 * n + k) w)) this
  · show _ = lanV (thS μ 0 68 n) v
    unfold lanV; rw [if_pos h75]
  · have : v.toInt8.toInt32 = lanV (thS μ 0 68 n) v := by unfold lanV; rw [if_pos h75]
    exact congrArg (fun w => setc (thS μ 0) 70 (upd (thS μ 0 70) (40 * n + k) w)) this
