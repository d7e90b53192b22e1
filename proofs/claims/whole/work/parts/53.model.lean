/-! ===== the model: rows and tape ===== -/
/-- the memory with the thrown mark laid down -/
def th0 (μ : Mem) : Mem := setc μ 67 (upd (μ 67) 0 0)
def FdQ (n : Nat) (x : Int32) (μ : Mem) (r : Int32) (μ' : Mem) : Prop :=
  (¬ (0 ≤ x ∧ x ≤ 255) ∧ r = -1000001 ∧ μ' = th0 μ) ∨ ((0 ≤ x ∧ x ≤ 255) ∧ n = 120 ∧ r = -1000003 ∧ μ' = th0 μ) ∨
  ((0 ≤ x ∧ x ≤ 255) ∧ n < 120 ∧ r = nI (n + 1) ∧ μ' 67 = upd (upd (μ 67) 0 0) 11 (nI (n + 1)) ∧ μ' 75 = upd (μ 75) n x ∧ ∀ j, j ≠ 67 → j ≠ 75 → μ' j = μ j)
theorem m_feed {μ : Mem} {n : Nat} (hn : n ≤ 120) (e : μ 67 11 = nI n) {x : Int32} : CtP yX10_feed cX10_feed 2 (some .int) 1 [vR 67, vI x] μ (Pi (FdQ n x μ)) := by
  refine CtP.go RX10 rfl pn_X10 (Nat.le_of_ble_eq_true rfl) (fun C hG hR => ?_)
  have e1 : th0 μ 67 11 = nI n := by unfold th0; rw [setc_s, upd_n (by decide)]; exact e
  refine V_aload_n (pc := 0) hG (dk dd_X10_feed 0 rfl) rfl ?_
  refine V_iconst (pc := 1) hG (dk dd_X10_feed 1 rfl) (v := 0) (by decide) ?_
  refine V_putI (pc := 2) hG (dk dd_X10_feed 2 rfl) fl_X10_62 sh_67 rfl rfl ?_
  refine V_iload_n (pc := 5) hG (dk dd_X10_feed 3 rfl) rfl ?_
  refine V_i2l (pc := 6) hG (dk dd_X10_feed 4 rfl) ?_
  refine V_lconst (pc := 7) hG (dk dd_X10_feed 5 rfl) (v := 0) (by decide) ?_
  refine V_ldc2_w (pc := 8) hG (dk dd_X10_feed 6 rfl) kk_X10_87 ?_
  refine V_callSip (pc := 11) hG (dk dd_X10_feed 7 rfl) ml_X10_72 mo_X10_in (m_inI (v := x) (lo := 0) (hi := 255) rfl rfl rfl) (by decide) (by decide) rfl rfl rfl (fun x11 m11 p11 => ?_)
  refine V_if_ne (pc := 14) hG (dk dd_X10_feed 8 rfl) (tgt := 20) (by decide) (fun h14 => ?_) (fun h14 => ?_)
  refine V_aload_n (pc := 20) hG (dk dd_X10_feed 11 rfl) rfl ?_
  refine V_getI (pc := 21) hG (dk dd_X10_feed 12 rfl) fl_X10_89 sh_67 rfl ?_
  refine V_bipush (pc := 24) hG (dk dd_X10_feed 13 rfl) (v := 120) (by decide) ?_
  refine V_icmp_ne (pc := 26) hG (dk dd_X10_feed 14 rfl) (tgt := 32) (by decide) (fun h26 => ?_) (fun h26 => ?_)
  refine V_aload_n (pc := 32) hG (dk dd_X10_feed 17 rfl) rfl ?_
  refine V_getR (pc := 33) hG (dk dd_X10_feed 18 rfl) fl_X10_31 sh_67 rfl ?_
  refine V_aload_n (pc := 36) hG (dk dd_X10_feed 19 rfl) rfl ?_
  refine V_getI (pc := 37) hG (dk dd_X10_feed 20 rfl) fl_X10_89 sh_67 rfl ?_
  refine V_iload_n (pc := 40) hG (dk dd_X10_feed 21 rfl) rfl ?_
  refine V_iast (pc := 41) hG (dk dd_X10_feed 22 rfl) sh_75 ?_ ?_
  rotate_left
  refine V_aload_n (pc := 42) hG (dk dd_X10_feed 23 rfl) rfl ?_
  refine V_dup (pc := 43) hG (dk dd_X10_feed 24 rfl) rfl ?_
  refine V_getI (pc := 44) hG (dk dd_X10_feed 25 rfl) fl_X10_89 sh_67 rfl ?_
  refine V_iconst (pc := 47) hG (dk dd_X10_feed 26 rfl) (v := 1) (by decide) ?_
  refine V_iadd (pc := 48) hG (dk dd_X10_feed 27 rfl) ?_
  refine V_putI (pc := 49) hG (dk dd_X10_feed 28 rfl) fl_X10_89 sh_67 rfl rfl ?_
  refine V_aload_n (pc := 52) hG (dk dd_X10_feed 29 rfl) rfl ?_
  refine V_getI (pc := 53) hG (dk dd_X10_feed 30 rfl) fl_X10_89 sh_67 rfl ?_
  refine V_iretP (pc := 56) hG (dk dd_X10_feed 31 rfl) hR (Pi.mk ?_)
  rotate_left
  refine V_ldc (pc := 29) hG (dk dd_X10_feed 15 rfl) kk_X10_92 ?_
  refine V_iretP (pc := 31) hG (dk dd_X10_feed 16 rfl) hR (Pi.mk ?_)
  rotate_left
  refine V_ldc (pc := 17) hG (dk dd_X10_feed 9 rfl) kk_X10_82 ?_
  refine V_iretP (pc := 19) hG (dk dd_X10_feed 10 rfl) hR (Pi.mk ?_)
  rotate_left
  -- leaves: iastore@41 in; return@56; return@31; return@19
  · have z : m11 67 11 = nI n := by rw [p11.1]; exact e1
    rw [z] at h26 ⊢
    have : n ≠ 120 := fun q => h26 (by rw [q]; rfl)
    exact vp_in_nI (by omega) (by decide)
  · have z : m11 67 11 = nI n := by rw [p11.1]; exact e1
    rw [z] at h26
    have hl : n ≠ 120 := fun q => h26 (by rw [q]; rfl)
    refine Or.inr (Or.inr ⟨p11.2.yes h14, by omega, ?_, ?_, ?_, ?_⟩)
    · rw [setc_s, upd_s, setc_n (by decide), z, nI_succ]
    · rw [setc_s, setc_n (by decide), z, nI_succ, p11.1, setc_s]
    · rw [setc_n (by decide), setc_s, z, nI_clamp (by omega), p11.1, setc_n (by decide)]
    · intro j a b
      rw [setc_n a, setc_n b, p11.1]; exact setc_n a
  · have z : m11 67 11 = nI n := by rw [p11.1]; exact e1
    exact Or.inr (Or.inl ⟨p11.2.yes h14, (nI_eq (b := 120) (by omega) (by decide)).mp (z.symm.trans h26), rfl, p11.1⟩)
  · exact Or.inl ⟨p11.2.no h14, rfl, p11.1⟩
/-- and the status laid down to s -/
def thS (μ : Mem) (s : Int32) : Mem := setc μ 67 (upd (upd (μ 67) 0 0) 1 s)
def isR (x : Int32) : Prop := 0 ≤ x ∧ x ≤ 7
theorem isR.n {x : Int32} (h : isR x) : ∃ n, x = nI n ∧ n < 8 := by
  obtain ⟨h0, h7⟩ := h
  obtain ⟨j, hj, rfl⟩ := nI_of (Int32.not_lt.mpr h0)
  exact ⟨j, rfl, by have := le_i (b := 7) h7 hj (by decide); omega⟩
theorem thS_e (μ : Mem) (s : Int32) : setc (th0 μ) 67 (upd (th0 μ 67) 1 s) = thS μ s := by unfold th0 thS; rw [setc_c, setc_s]
theorem thS_f (μ : Mem) (s t : Int32) : setc (thS μ s) 67 (upd (thS μ s 67) 1 t) = thS μ t := by unfold thS; rw [setc_c, setc_s, upd_upd]
def DpQ (x : Int32) (μ : Mem) (r : Int32) (μ' : Mem) : Prop :=
  (¬ isR x ∧ r = -1000001 ∧ μ' = th0 μ) ∨ (∃ n, x = nI n ∧ n < 8 ∧ ((μ 68 n < 0 ∧ r = -1000010 - 1 ∧ μ' = thS μ 1) ∨ (0 ≤ μ 68 n ∧ r = μ 69 n ∧ μ' = setc (thS μ 0) 68 (upd (μ 68) n (-1)))))
theorem m_drop {μ : Mem} {x : Int32} : CtP yX10_drop cX10_drop 2 (some .int) 2 [vR 67, vI x] μ (Pi (DpQ x μ)) := by
  refine CtP.go RX10 rfl pn_X10 (Nat.le_of_ble_eq_true rfl) (fun C hG hR => ?_)
  refine V_aload_n (pc := 0) hG (dk dd_X10_drop 0 rfl) rfl ?_
  refine V_iconst (pc := 1) hG (dk dd_X10_drop 1 rfl) (v := 0) (by decide) ?_
  refine V_putI (pc := 2) hG (dk dd_X10_drop 2 rfl) fl_X10_62 sh_67 rfl rfl ?_
  refine V_iload_n (pc := 5) hG (dk dd_X10_drop 3 rfl) rfl ?_
  refine V_callSip (pc := 6) hG (dk dd_X10_drop 4 rfl) ml_X10_76 mo_X10_isRow (m_isRow) (by decide) (by decide) rfl rfl rfl (fun x6 m6 p6 => ?_)
  refine V_if_ne (pc := 9) hG (dk dd_X10_drop 5 rfl) (tgt := 15) (by decide) (fun h9 => ?_) (fun h9 => ?_)
  refine V_aload_n (pc := 15) hG (dk dd_X10_drop 8 rfl) rfl ?_
  refine V_iconst (pc := 16) hG (dk dd_X10_drop 9 rfl) (v := 0) (by decide) ?_
  refine V_putI (pc := 17) hG (dk dd_X10_drop 10 rfl) fl_X10_66 sh_67 rfl rfl ?_
  refine V_aload_n (pc := 20) hG (dk dd_X10_drop 11 rfl) rfl ?_
  refine V_getR (pc := 21) hG (dk dd_X10_drop 12 rfl) fl_X10_7 sh_67 rfl ?_
  refine V_iload_n (pc := 24) hG (dk dd_X10_drop 13 rfl) rfl ?_
  refine V_iald (pc := 25) hG (dk dd_X10_drop 14 rfl) sh_68 ?_ ?_
  rotate_left
  refine V_if_ge (pc := 26) hG (dk dd_X10_drop 15 rfl) (tgt := 35) (by decide) (fun h26 => ?_) (fun h26 => ?_)
  refine V_aload_n (pc := 35) hG (dk dd_X10_drop 20 rfl) rfl ?_
  refine V_getR (pc := 36) hG (dk dd_X10_drop 21 rfl) fl_X10_7 sh_67 rfl ?_
  refine V_iload_n (pc := 39) hG (dk dd_X10_drop 22 rfl) rfl ?_
  refine V_iconst (pc := 40) hG (dk dd_X10_drop 23 rfl) (v := -1) (by decide) ?_
  refine V_iast (pc := 41) hG (dk dd_X10_drop 24 rfl) sh_68 ?_ ?_
  rotate_left
  refine V_aload_n (pc := 42) hG (dk dd_X10_drop 25 rfl) rfl ?_
  refine V_getR (pc := 43) hG (dk dd_X10_drop 26 rfl) fl_X10_13 sh_67 rfl ?_
  refine V_iload_n (pc := 46) hG (dk dd_X10_drop 27 rfl) rfl ?_
  refine V_iald (pc := 47) hG (dk dd_X10_drop 28 rfl) sh_69 ?_ ?_
  rotate_left
  refine V_iretP (pc := 48) hG (dk dd_X10_drop 29 rfl) hR (Pi.mk ?_)
  rotate_left
  refine V_aload_n (pc := 29) hG (dk dd_X10_drop 16 rfl) rfl ?_
  refine V_iconst (pc := 30) hG (dk dd_X10_drop 17 rfl) (v := 1) (by decide) ?_
  refine V_callVip (pc := 31) hG (dk dd_X10_drop 18 rfl) ml_X10_83 mo_X10_finding sh_67 rfl (m_finding) (by decide) (by decide) rfl rfl rfl (fun x31 m31 p31 => ?_)
  refine V_iretP (pc := 34) hG (dk dd_X10_drop 19 rfl) hR (Pi.mk ?_)
  rotate_left
  refine V_ldc (pc := 12) hG (dk dd_X10_drop 6 rfl) kk_X10_82 ?_
  refine V_iretP (pc := 14) hG (dk dd_X10_drop 7 rfl) hR (Pi.mk ?_)
  rotate_left
  -- leaves: iaload@25 in; iastore@41 in; iaload@47 in; return@48; return@34; return@14
  all_goals (first | exact Or.inl ⟨p6.2.no h9, rfl, p6.1⟩ | skip)
  all_goals (obtain ⟨n, hx, hn⟩ := isR.n (p6.2.yes h9))
  · rw [hx]; exact vp_in_nI (by omega) (by decide)
  · rw [hx]; exact vp_in_nI (by omega) (by decide)
  · rw [hx]; exact vp_in_nI (by omega) (by decide)
  · have m6e : setc m6 67 (upd (m6 67) 1 0) = thS μ 0 := by rw [p6.1]; exact thS_e μ 0
    rw [m6e] at h26 ⊢
    rw [nI_cl hx (by omega)] at h26 ⊢
    exact Or.inr ⟨n, hx, hn, Or.inr ⟨h26, rfl, rfl⟩⟩
  · have m6e : setc m6 67 (upd (m6 67) 1 0) = thS μ 0 := by rw [p6.1]; exact thS_e μ 0
    rw [m6e] at h26 p31
    rw [nI_cl hx (by omega)] at h26
    exact Or.inr ⟨n, hx, hn, Or.inl ⟨Int32.not_le.mp h26, p31.2, p31.1.trans (thS_f μ 0 1)⟩⟩
