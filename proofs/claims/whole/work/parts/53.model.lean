/-! ===== the model: rows and tape ===== -/
/-- the memory with the thrown mark laid down -/
def th0 (μ : Mem) : Mem := setc μ 67 (upd (μ 67) 0 0)
def FdQ (n : Nat) (x : Int32) (μ : Mem) (r : Int32) (μ' : Mem) : Prop :=
  (¬ (0 ≤ x ∧ x ≤ 255) ∧ r = -1000001 ∧ μ' = th0 μ) ∨ ((0 ≤ x ∧ x ≤ 255) ∧ n = 120 ∧ r = -1000003 ∧ μ' = th0 μ) ∨
  ((0 ≤ x ∧ x ≤ 255) ∧ n < 120 ∧ r = nI (n + 1) ∧ μ' 67 = upd (upd (μ 67) 0 0) 11 (nI (n + 1)) ∧ μ' 75 = upd (μ 75) n x ∧ ∀ j, j ≠ 67 → j ≠ 75 → μ' j = μ j)
theorem m_feed {μ : Mem} {n : Nat} (hn : n ≤ 120) (e : μ 67 11 = nI n) {x : Int32} : CtP yX10_feed cX10_feed 2 (some .int) 1 [vR 67, vI x] μ (Pi (FdQ n x μ)) := by
  refine CtP.go RX10 rfl pn_X10 (Nat.le_of_ble_eq_true rfl) (fun C hG hR => ?_)
  have e1 : th0 μ 67 11 = nI n := by unfold th0; rw [setc_s, upd_n (by decide)]; exact e
  refine V_aload_n (pc := 0) hG (dk dd_X10_feed 0 rfl) rfl ?_
  refine V_iconst (pc := 1) hG (dk dd_X10_feed 1 rfl) (v := 0) (by decide) ?_
  refine V_putI (pc := 2) hG (dk dd_X10_feed 2 rfl) fl_X10_62 sh_67 rfl rfl ?_
  refine V_iload_n (pc := 5) hG (dk dd_X10_feed 3 rfl) rfl ?_
  refine V_i2l (pc := 6) hG (dk dd_X10_feed 4 rfl) ?_
  refine V_lconst (pc := 7) hG (dk dd_X10_feed 5 rfl) (v := 0) (by decide) ?_
  refine V_ldc2_w (pc := 8) hG (dk dd_X10_feed 6 rfl) kk_X10_87 ?_
  refine V_callSip (pc := 11) hG (dk dd_X10_feed 7 rfl) ml_X10_72 mo_X10_in (m_inI (v := x) (lo := 0) (hi := 255) rfl rfl rfl) (by decide) (by decide) rfl rfl rfl (fun x11 m11 p11 => ?_)
  refine V_if_ne (pc := 14) hG (dk dd_X10_feed 8 rfl) (tgt := 20) (by decide) (fun h14 => ?_) (fun h14 => ?_)
  refine V_aload_n (pc := 20) hG (dk dd_X10_feed 11 rfl) rfl ?_
  refine V_getI (pc := 21) hG (dk dd_X10_feed 12 rfl) fl_X10_89 sh_67 rfl ?_
  refine V_bipush (pc := 24) hG (dk dd_X10_feed 13 rfl) (v := 120) (by decide) ?_
  refine V_icmp_ne (pc := 26) hG (dk dd_X10_feed 14 rfl) (tgt := 32) (by decide) (fun h26 => ?_) (fun h26 => ?_)
  refine V_aload_n (pc := 32) hG (dk dd_X10_feed 17 rfl) rfl ?_
  refine V_getR (pc := 33) hG (dk dd_X10_feed 18 rfl) fl_X10_31 sh_67 rfl ?_
  refine V_aload_n (pc := 36) hG (dk dd_X10_feed 19 rfl) rfl ?_
  refine V_getI (pc := 37) hG (dk dd_X10_feed 20 rfl) fl_X10_89 sh_67 rfl ?_
  refine V_iload_n (pc := 40) hG (dk dd_X10_feed 21 rfl) rfl ?_
  refine V_iast (pc := 41) hG (dk dd_X10_feed 22 rfl) sh_75 ?_ ?_
  rotate_left
  refine V_aload_n (pc := 42) hG (dk dd_X10_feed 23 rfl) rfl ?_
  refine V_dup (pc := 43) hG (dk dd_X10_feed 24 rfl) rfl ?_
  refine V_getI (pc := 44) hG (dk dd_X10_feed 25 rfl) fl_X10_89 sh_67 rfl ?_
  refine V_iconst (pc := 47) hG (dk dd_X10_feed 26 rfl) (v := 1) (by decide) ?_
  refine V_iadd (pc := 48) hG (dk dd_X10_feed 27 rfl) ?_
  refine V_putI (pc := 49) hG (dk dd_X10_feed 28 rfl) fl_X10_89 sh_67 rfl rfl ?_
  refine V_aload_n (pc := 52) hG (dk dd_X10_feed 29 rfl) rfl ?_
  refine V_getI (pc := 53) hG (dk dd_X10_feed 30 rfl) fl_X10_89 sh_67 rfl ?_
  refine V_iretP (pc := 56) hG (dk dd_X10_feed 31 rfl) hR (Pi.mk ?_)
  rotate_left
  refine V_ldc (pc := 29) hG (dk dd_X10_feed 15 rfl) kk_X10_92 ?_
  refine V_iretP (pc := 31) hG (dk dd_X10_feed 16 rfl) hR (Pi.mk ?_)
  rotate_left
  refine V_ldc (pc := 17) hG (dk dd_X10_feed 9 rfl) kk_X10_82 ?_
  refine V_iretP (pc := 19) hG (dk dd_X10_feed 10 rfl) hR (Pi.mk ?_)
  rotate_left
  -- leaves: iastore@41 in; return@56; return@31; return@19
  · have z : m11 67 11 = nI n := by rw [p11.1]; exact e1
    rw [z] at h26 ⊢
    have : n ≠ 120 := fun q => h26 (by rw [q]; rfl)
    exact vp_in_nI (by omega) (by decide)
  · have z : m11 67 11 = nI n := by rw [p11.1]; exact e1
    rw [z] at h26
    have hl : n ≠ 120 := fun q => h26 (by rw [q]; rfl)
    refine Or.inr (Or.inr ⟨p11.2.yes h14, by omega, ?_, ?_, ?_, ?_⟩)
    · rw [setc_s, upd_s, setc_n (by decide), z, nI_succ]
    · rw [setc_s, setc_n (by decide), z, nI_succ, p11.1, setc_s]
    · rw [setc_n (by decide), setc_s, z, nI_clamp (by omega), p11.1, setc_n (by decide)]
    · intro j a b
      rw [setc_n a, setc_n b, p11.1]; exact setc_n a
  · have z : m11 67 11 = nI n := by rw [p11.1]; exact e1
    exact Or.inr (Or.inl ⟨p11.2.yes h14, (nI_eq (b := 120) (by omega) (by decide)).mp (z.symm.trans h26), rfl, p11.1⟩)
  · exact Or.inl ⟨p11.2.no h14, rfl, p11.1⟩
