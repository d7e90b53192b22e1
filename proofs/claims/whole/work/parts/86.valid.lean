/-! ===== SleepingJudge: images; a text without a fault is a court ===== -/
def ImC (μ : Mem) (α : Al) (k r : Int32) (μ' : Mem) : Prop := (¬ (k = 0 ∨ k = 1) ∧ r = -1000001 ∧ μ' = μ) ∨ ((k = 0 ∨ k = 1) ∧ ¬ 0 < α 0 0 ∧ r = -1000002 ∧ μ' = μ) ∨ (0 < α 0 0 ∧ ∃ K, k = nI K ∧ K < 2 ∧ r = 1 ∧ Became (35 + 8 * K) 15 μ μ')
theorem im_2 {k : Int32} : (0 ≤ k ∧ k < 2) ↔ (k = 0 ∨ k = 1) := by
  rw [← i2c]; constructor <;> (intro h; exact ⟨h.1, by have := h.2; grind⟩)
theorem j_image {μ : Mem} {α : Al} (hA : Abs (kac μ 15) α) (hz : Vz α) {k : Int32} : CtP yX9_image cX9_image 2 (some .int) 1 [vR 0, vI k] μ (Pi (ImC μ α k)) := by
  refine CtP.go RX9 rfl pn_X9 (Nat.le_of_ble_eq_true rfl) (fun C hG hR => ?_)
  by_cases hk : k = 0 ∨ k = 1
  · by_cases hv : Val α
    · rcases hk with rfl | rfl
      · skip
        refine V_iload_n (pc := 0) hG (dk dd_X9_image 0 rfl) rfl ?_
        refine V_callSip (pc := 1) hG (dk dd_X9_image 1 rfl) ml_X9_345 mo_X9_isImage (c_isImage) (by decide) (by decide) rfl rfl rfl (fun x1 m1 p1 => ?_)
        refine V_if_ne (pc := 4) hG (dk dd_X9_image 2 rfl) (tgt := 10) (by decide) (fun h4 => ?_) (fun h4 => ?_)
        refine V_aload_n (pc := 10) hG (dk dd_X9_image 5 rfl) rfl ?_
        refine V_getR (pc := 11) hG (dk dd_X9_image 6 rfl) fl_X9_26 sh_0 rfl ?_
        refine V_callVip (pc := 14) hG (dk dd_X9_image 7 rfl) ml_X9_219 mo_X2_isTold sh_15 rfl (k_isTold (α := α) (by rw [p1.1]; exact hA) hz) (by decide) (by decide) rfl rfl rfl (fun x14 m14 p14 => ?_)
        refine V_if_ne (pc := 17) hG (dk dd_X9_image 8 rfl) (tgt := 23) (by decide) (fun h17 => ?_) (fun h17 => ?_)
        refine V_aload_n (pc := 23) hG (dk dd_X9_image 11 rfl) rfl ?_
        refine V_getR (pc := 24) hG (dk dd_X9_image 12 rfl) fl_X9_49 sh_0 rfl ?_
        refine V_iload_n (pc := 27) hG (dk dd_X9_image 13 rfl) rfl ?_
        refine V_ald2 (pc := 28) hG (dk dd_X9_image 14 rfl) sh_34 (vp_in_nI (n := 0) (by decide) (by decide)) (show [35, 43][Int32.toNatClampNeg 0]? = some 35 by decide) ?_
        refine V_aload_n (pc := 29) hG (dk dd_X9_image 15 rfl) rfl ?_
        refine V_getR (pc := 30) hG (dk dd_X9_image 16 rfl) fl_X9_26 sh_0 rfl ?_
        refine V_callVvp (pc := 33) hG (dk dd_X9_image 17 rfl) ml_X9_148 mo_X2_become sh_35 rfl (c_become co_im0 co_now (by decide)) (by decide) (by decide) rfl rfl rfl (fun m33 p33 => ?_)
        refine V_iconst (pc := 36) hG (dk dd_X9_image 18 rfl) (v := 1) (by decide) ?_
        refine V_iretP (pc := 37) hG (dk dd_X9_image 19 rfl) hR (Pi.mk ?_)
        rotate_left
        rotate_left
        rotate_left
        -- leaves: return@37; stop 20; stop 7
        · rw [p14.1, p1.1] at p33
          exact Or.inr (Or.inr ⟨hv.p0, 0, rfl, by decide, rfl, p33⟩)
        · exact absurd hv (p14.2.no h17)
        · exact absurd (im_2.mpr (Or.inl rfl)) (p1.2.no h4)
      · skip
        refine V_iload_n (pc := 0) hG (dk dd_X9_image 0 rfl) rfl ?_
        refine V_callSip (pc := 1) hG (dk dd_X9_image 1 rfl) ml_X9_345 mo_X9_isImage (c_isImage) (by decide) (by decide) rfl rfl rfl (fun x1 m1 p1 => ?_)
        refine V_if_ne (pc := 4) hG (dk dd_X9_image 2 rfl) (tgt := 10) (by decide) (fun h4 => ?_) (fun h4 => ?_)
        refine V_aload_n (pc := 10) hG (dk dd_X9_image 5 rfl) rfl ?_
        refine V_getR (pc := 11) hG (dk dd_X9_image 6 rfl) fl_X9_26 sh_0 rfl ?_
        refine V_callVip (pc := 14) hG (dk dd_X9_image 7 rfl) ml_X9_219 mo_X2_isTold sh_15 rfl (k_isTold (α := α) (by rw [p1.1]; exact hA) hz) (by decide) (by decide) rfl rfl rfl (fun x14 m14 p14 => ?_)
        refine V_if_ne (pc := 17) hG (dk dd_X9_image 8 rfl) (tgt := 23) (by decide) (fun h17 => ?_) (fun h17 => ?_)
        refine V_aload_n (pc := 23) hG (dk dd_X9_image 11 rfl) rfl ?_
        refine V_getR (pc := 24) hG (dk dd_X9_image 12 rfl) fl_X9_49 sh_0 rfl ?_
        refine V_iload_n (pc := 27) hG (dk dd_X9_image 13 rfl) rfl ?_
        refine V_ald2 (pc := 28) hG (dk dd_X9_image 14 rfl) sh_34 (vp_in_nI (n := 1) (by decide) (by decide)) (show [35, 43][Int32.toNatClampNeg 1]? = some 43 by decide) ?_
        refine V_aload_n (pc := 29) hG (dk dd_X9_image 15 rfl) rfl ?_
        refine V_getR (pc := 30) hG (dk dd_X9_image 16 rfl) fl_X9_26 sh_0 rfl ?_
        refine V_callVvp (pc := 33) hG (dk dd_X9_image 17 rfl) ml_X9_148 mo_X2_become sh_43 rfl (c_become co_im1 co_now (by decide)) (by decide) (by decide) rfl rfl rfl (fun m33 p33 => ?_)
        refine V_iconst (pc := 36) hG (dk dd_X9_image 18 rfl) (v := 1) (by decide) ?_
        refine V_iretP (pc := 37) hG (dk dd_X9_image 19 rfl) hR (Pi.mk ?_)
        rotate_left
        rotate_left
        rotate_left
        -- leaves: return@37; stop 20; stop 7
        · rw [p14.1, p1.1] at p33
          exact Or.inr (Or.inr ⟨hv.p0, 1, rfl, by decide, rfl, p33⟩)
        · exact absurd hv (p14.2.no h17)
        · exact absurd (im_2.mpr (Or.inr rfl)) (p1.2.no h4)
    · skip
      refine V_iload_n (pc := 0) hG (dk dd_X9_image 0 rfl) rfl ?_
      refine V_callSip (pc := 1) hG (dk dd_X9_image 1 rfl) ml_X9_345 mo_X9_isImage (c_isImage) (by decide) (by decide) rfl rfl rfl (fun x1 m1 p1 => ?_)
      refine V_if_ne (pc := 4) hG (dk dd_X9_image 2 rfl) (tgt := 10) (by decide) (fun h4 => ?_) (fun h4 => ?_)
      refine V_aload_n (pc := 10) hG (dk dd_X9_image 5 rfl) rfl ?_
      refine V_getR (pc := 11) hG (dk dd_X9_image 6 rfl) fl_X9_26 sh_0 rfl ?_
      refine V_callVip (pc := 14) hG (dk dd_X9_image 7 rfl) ml_X9_219 mo_X2_isTold sh_15 rfl (k_isTold (α := α) (by rw [p1.1]; exact hA) hz) (by decide) (by decide) rfl rfl rfl (fun x14 m14 p14 => ?_)
      refine V_if_ne (pc := 17) hG (dk dd_X9_image 8 rfl) (tgt := 23) (by decide) (fun h17 => ?_) (fun h17 => ?_)
      rotate_left
      refine V_ldc (pc := 20) hG (dk dd_X9_image 9 rfl) kk_X9_158 ?_
      refine V_iretP (pc := 22) hG (dk dd_X9_image 10 rfl) hR (Pi.mk ?_)
      rotate_left
      rotate_left
      -- leaves: stop 23; return@22; stop 7
      · exact absurd (p14.2.yes h17) hv
      · exact Or.inr (Or.inl ⟨hk, hz.n0 hv, rfl, p14.1.trans p1.1⟩)
      · exact absurd (im_2.mpr hk) (p1.2.no h4)
  · skip
    refine V_iload_n (pc := 0) hG (dk dd_X9_image 0 rfl) rfl ?_
    refine V_callSip (pc := 1) hG (dk dd_X9_image 1 rfl) ml_X9_345 mo_X9_isImage (c_isImage) (by decide) (by decide) rfl rfl rfl (fun x1 m1 p1 => ?_)
    refine V_if_ne (pc := 4) hG (dk dd_X9_image 2 rfl) (tgt := 10) (by decide) (fun h4 => ?_) (fun h4 => ?_)
    rotate_left
    refine V_ldc (pc := 7) hG (dk dd_X9_image 3 rfl) kk_X9_90 ?_
    refine V_iretP (pc := 9) hG (dk dd_X9_image 4 rfl) hR (Pi.mk ?_)
    rotate_left
    -- leaves: stop 10; return@9
    · exact absurd (im_2.mp (p1.2.yes h4)) hk
    · exact Or.inl ⟨hk, rfl, p1.1⟩
theorem k_isToldB {μ : Mem} {b : Nat} {α : Al} (hb : IsCo b) (hA : Abs (kac μ b) α) (hz : Vz α) : CtP yX2_isTold cX2_isTold 1 (some .boolean) 0 [vR b] μ (Pi (fun r μ' => μ' = μ ∧ is1 r (Val α))) := CtP.ct (c_isTold hb) (Pi.mk ⟨rfl, is1_ite (hz.there (hA.1 0 (by decide)))⟩)
def ReC (μ : Mem) (βs : Nat → Al) (k r : Int32) (μ' : Mem) : Prop := (¬ (k = 0 ∨ k = 1) ∧ r = -1000001 ∧ μ' = μ) ∨ (∃ K, k = nI K ∧ K < 2 ∧ ((¬ Val (βs K) ∧ r = -1000002 ∧ μ' = μ) ∨ (Val (βs K) ∧ r = 1 ∧ Abs (kac μ' 15) (βs K) ∧ μ' 32 1 = 0 ∧ μ' 32 2 = 0 ∧ ∀ a, (a < 15 ∨ 22 < a) → a ≠ 32 → μ' a = μ a)))
theorem j_restore {μ : Mem} {βs : Nat → Al} (h0 : Abs (kac μ 35) (βs 0)) (z0 : Vz (βs 0)) (h1 : Abs (kac μ 43) (βs 1)) (z1 : Vz (βs 1)) {k : Int32} : CtP yX9_restore cX9_restore 2 (some .int) 1 [vR 0, vI k] μ (Pi (ReC μ βs k)) := by
  refine CtP.go RX9 rfl pn_X9 (Nat.le_of_ble_eq_true rfl) (fun C hG hR => ?_)
  by_cases hk : k = 0 ∨ k = 1
  · rcases hk with rfl | rfl
    · skip
      refine V_iload_n (pc := 0) hG (dk dd_X9_restore 0 rfl) rfl ?_
      refine V_callSip (pc := 1) hG (dk dd_X9_restore 1 rfl) ml_X9_345 mo_X9_isImage (c_isImage) (by decide) (by decide) rfl rfl rfl (fun x1 m1 p1 => ?_)
      refine V_if_ne (pc := 4) hG (dk dd_X9_restore 2 rfl) (tgt := 10) (by decide) (fun h4 => ?_) (fun h4 => ?_)
      refine V_aload_n (pc := 10) hG (dk dd_X9_restore 5 rfl) rfl ?_
      refine V_getR (pc := 11) hG (dk dd_X9_restore 6 rfl) fl_X9_49 sh_0 rfl ?_
      refine V_iload_n (pc := 14) hG (dk dd_X9_restore 7 rfl) rfl ?_
      refine V_ald2 (pc := 15) hG (dk dd_X9_restore 8 rfl) sh_34 (vp_in_nI (n := 0) (by decide) (by decide)) (show [35, 43][Int32.toNatClampNeg 0]? = some 35 by decide) ?_
      refine V_callVip (pc := 16) hG (dk dd_X9_restore 9 rfl) ml_X9_219 mo_X2_isTold sh_35 rfl (k_isToldB co_im0 (α := βs 0) (by rw [p1.1]; exact h0) z0) (by decide) (by decide) rfl rfl rfl (fun x16 m16 p16 => ?_)
      refine V_if_ne (pc := 19) hG (dk dd_X9_restore 10 rfl) (tgt := 25) (by decide) (fun h19 => ?_) (fun h19 => ?_)
      refine V_aload_n (pc := 25) hG (dk dd_X9_restore 13 rfl) rfl ?_
      refine V_getR (pc := 26) hG (dk dd_X9_restore 14 rfl) fl_X9_26 sh_0 rfl ?_
      refine V_aload_n (pc := 29) hG (dk dd_X9_restore 15 rfl) rfl ?_
      refine V_getR (pc := 30) hG (dk dd_X9_restore 16 rfl) fl_X9_49 sh_0 rfl ?_
      refine V_iload_n (pc := 33) hG (dk dd_X9_restore 17 rfl) rfl ?_
      refine V_ald2 (pc := 34) hG (dk dd_X9_restore 18 rfl) sh_34 (vp_in_nI (n := 0) (by decide) (by decide)) (show [35, 43][Int32.toNatClampNeg 0]? = some 35 by decide) ?_
      refine V_callVvp (pc := 35) hG (dk dd_X9_restore 19 rfl) ml_X9_148 mo_X2_become sh_15 rfl (c_become co_now co_im0 (by decide)) (by decide) (by decide) rfl rfl rfl (fun m35 p35 => ?_)
      refine V_aload_n (pc := 38) hG (dk dd_X9_restore 20 rfl) rfl ?_
      refine V_getR (pc := 39) hG (dk dd_X9_restore 21 rfl) fl_X9_45 sh_0 rfl ?_
      refine V_callVvp (pc := 42) hG (dk dd_X9_restore 22 rfl) ml_X9_151 mo_X0_clear sh_32 rfl (c_aclear) (by decide) (by decide) rfl rfl rfl (fun m42 p42 => ?_)
      refine V_iconst (pc := 45) hG (dk dd_X9_restore 23 rfl) (v := 1) (by decide) ?_
      refine V_iretP (pc := 46) hG (dk dd_X9_restore 24 rfl) hR (Pi.mk ?_)
      rotate_left
      refine V_ldc (pc := 22) hG (dk dd_X9_restore 11 rfl) kk_X9_158 ?_
      refine V_iretP (pc := 24) hG (dk dd_X9_restore 12 rfl) hR (Pi.mk ?_)
      rotate_left
      rotate_left
      -- leaves: return@46; return@24; stop 7
      · rw [p16.1, p1.1] at p35
        have hv := p16.2.yes h19
        refine Or.inr ⟨0, rfl, by decide, Or.inr ⟨hv, rfl, ?_, ?_, ?_, fun a h1 h2 => ?_⟩⟩
        · rw [p42]; exact (p35.abs h0 hv.H hv.C).off (fun x hx => setc_n (by omega))
        · rw [p42, setc_s, upd_n (by decide), upd_s]
        · rw [p42, setc_s, upd_s]
        · rw [p42, setc_n h2]; exact p35.2 a (by omega)
      · exact Or.inr ⟨0, rfl, by decide, Or.inl ⟨p16.2.no h19, rfl, p16.1.trans p1.1⟩⟩
      · exact absurd (im_2.mpr (Or.inl rfl)) (p1.2.no h4)
    · skip
      refine V_iload_n (pc := 0) hG (dk dd_X9_restore 0 rfl) rfl ?_
      refine V_callSip (pc := 1) hG (dk dd_X9_restore 1 rfl) ml_X9_345 mo_X9_isImage (c_isImage) (by decide) (by decide) rfl rfl rfl (fun x1 m1 p1 => ?_)
      refine V_if_ne (pc := 4) hG (dk dd_X9_restore 2 rfl) (tgt := 10) (by decide) (fun h4 => ?_) (fun h4 => ?_)
      refine V_aload_n (pc := 10) hG (dk dd_X9_restore 5 rfl) rfl ?_
      refine V_getR (pc := 11) hG (dk dd_X9_restore 6 rfl) fl_X9_49 sh_0 rfl ?_
      refine V_iload_n (pc := 14) hG (dk dd_X9_restore 7 rfl) rfl ?_
      refine V_ald2 (pc := 15) hG (dk dd_X9_restore 8 rfl) sh_34 (vp_in_nI (n := 1) (by decide) (by decide)) (show [35, 43][Int32.toNatClampNeg 1]? = some 43 by decide) ?_
      refine V_callVip (pc := 16) hG (dk dd_X9_restore 9 rfl) ml_X9_219 mo_X2_isTold sh_43 rfl (k_isToldB co_im1 (α := βs 1) (by rw [p1.1]; exact h1) z1) (by decide) (by decide) rfl rfl rfl (fun x16 m16 p16 => ?_)
      refine V_if_ne (pc := 19) hG (dk dd_X9_restore 10 rfl) (tgt := 25) (by decide) (fun h19 => ?_) (fun h19 => ?_)
      refine V_aload_n (pc := 25) hG (dk dd_X9_restore 13 rfl) rfl ?_
      refine V_getR (pc := 26) hG (dk dd_X9_restore 14 rfl) fl_X9_26 sh_0 rfl ?_
      refine V_aload_n (pc := 29) hG (dk dd_X9_restore 15 rfl) rfl ?_
      refine V_getR (pc := 30) hG (dk dd_X9_restore 16 rfl) fl_X9_49 sh_0 rfl ?_
      refine V_iload_n (pc := 33) hG (dk dd_X9_restore 17 rfl) rfl ?_
      refine V_ald2 (pc := 34) hG (dk dd_X9_restore 18 rfl) sh_34 (vp_in_nI (n := 1) (by decide) (by decide)) (show [35, 43][Int32.toNatClampNeg 1]? = some 43 by decide) ?_
      refine V_callVvp (pc := 35) hG (dk dd_X9_restore 19 rfl) ml_X9_148 mo_X2_become sh_15 rfl (c_become co_now co_im1 (by decide)) (by decide) (by decide) rfl rfl rfl (fun m35 p35 => ?_)
      refine V_aload_n (pc := 38) hG (dk dd_X9_restore 20 rfl) rfl ?_
      refine V_getR (pc := 39) hG (dk dd_X9_restore 21 rfl) fl_X9_45 sh_0 rfl ?_
      refine V_callVvp (pc := 42) hG (dk dd_X9_restore 22 rfl) ml_X9_151 mo_X0_clear sh_32 rfl (c_aclear) (by decide) (by decide) rfl rfl rfl (fun m42 p42 => ?_)
      refine V_iconst (pc := 45) hG (dk dd_X9_restore 23 rfl) (v := 1) (by decide) ?_
      refine V_iretP (pc := 46) hG (dk dd_X9_restore 24 rfl) hR (Pi.mk ?_)
      rotate_left
      refine V_ldc (pc := 22) hG (dk dd_X9_restore 11 rfl) kk_X9_158 ?_
      refine V_iretP (pc := 24) hG (dk dd_X9_restore 12 rfl) hR (Pi.mk ?_)
      rotate_left
      rotate_left
      -- leaves: return@46; return@24; stop 7
      · rw [p16.1, p1.1] at p35
        have hv := p16.2.yes h19
        refine Or.inr ⟨1, rfl, by decide, Or.inr ⟨hv, rfl, ?_, ?_, ?_, fun a h1 h2 => ?_⟩⟩
        · rw [p42]; exact (p35.abs h1 hv.H hv.C).off (fun x hx => setc_n (by omega))
        · rw [p42, setc_s, upd_n (by decide), upd_s]
        · rw [p42, setc_s, upd_s]
        · rw [p42, setc_n h2]; exact p35.2 a (by omega)
      · exact Or.inr ⟨1, rfl, by decide, Or.inl ⟨p16.2.no h19, rfl, p16.1.trans p1.1⟩⟩
      · exact absurd (im_2.mpr (Or.inr rfl)) (p1.2.no h4)
  · skip
    refine V_iload_n (pc := 0) hG (dk dd_X9_restore 0 rfl) rfl ?_
    refine V_callSip (pc := 1) hG (dk dd_X9_restore 1 rfl) ml_X9_345 mo_X9_isImage (c_isImage) (by decide) (by decide) rfl rfl rfl (fun x1 m1 p1 => ?_)
    refine V_if_ne (pc := 4) hG (dk dd_X9_restore 2 rfl) (tgt := 10) (by decide) (fun h4 => ?_) (fun h4 => ?_)
    rotate_left
    refine V_ldc (pc := 7) hG (dk dd_X9_restore 3 rfl) kk_X9_90 ?_
    refine V_iretP (pc := 9) hG (dk dd_X9_restore 4 rfl) hR (Pi.mk ?_)
    rotate_left
    -- leaves: stop 10; return@9
    · exact absurd (im_2.mp (p1.2.yes h4)) hk
    · exact Or.inl ⟨hk, rfl, p1.1⟩
/-! a court that was read is valid -/
theorem thi_lt {τ : Nat → Nat} {n : Nat} {α : Al} {s : Pf} (h : 1 ≤ α 0 0) : (thiS τ n α s).1 < α 0 0 := by have := numS_le τ n 0 (α 0 0 - 1) s; unfold thiS; omega
theorem drl_D (τ : Nat → Nat) (n : Nat) : ∀ k (q : Rd), 1 ≤ q.2 0 0 → q.2 0 3 < 2 ^ q.2 0 0 → (drlS τ n k q).2 0 3 < 2 ^ q.2 0 0
  | 0, _, _, h => h
  | k + 1, q, h1, h => by
    rw [drlS_s]
    split
    · have e0 : updA q.2 0 3 (q.2 0 3 ||| 2 ^ (thiS τ n q.2 (pasS τ n 44 q.1)).1) 0 0 = q.2 0 0 := updA_n (by omega)
      have := drl_D τ n k ((thiS τ n q.2 (pasS τ n 44 q.1)).2, updA q.2 0 3 (q.2 0 3 ||| 2 ^ (thiS τ n q.2 (pasS τ n 44 q.1)).1)) (by dsimp only; rw [e0]; exact h1) (by dsimp only; rw [e0, updA_s]; exact or_lt h (thi_lt h1))
      dsimp only at this
      rw [e0] at this; exact this
    · exact h
theorem drm_D (τ : Nat → Nat) (n : Nat) (q : Rd) (h1 : 1 ≤ q.2 0 0) : (drmS τ n q).2 0 3 < 2 ^ (drmS τ n q).2 0 0 := by
  rw [drmS_n τ n q (x := 0) (i := 0) (by omega)]
  unfold drmS
  dsimp only
  have e0 : updA q.2 0 3 (2 ^ (thiS τ n q.2 (pasS τ n 100 q.1)).1) 0 0 = q.2 0 0 := updA_n (by omega)
  have := drl_D τ n 120 ((thiS τ n q.2 (pasS τ n 100 q.1)).2, updA q.2 0 3 (2 ^ (thiS τ n q.2 (pasS τ n 100 q.1)).1)) (by dsimp only; rw [e0]; exact h1) (by dsimp only; rw [e0, updA_s]; exact Nat.pow_lt_pow_right (by decide) (thi_lt h1))
  dsimp only at this
  rw [e0] at this; exact this
theorem hml_ok (τ : Nat → Nat) (n : Nat) : ∀ k (q : Rd), 1 ≤ q.2 0 0 → (∀ h, h < q.2 0 6 → HumOk q.2 h) → ∀ h, h < (hmlS τ n k q).2 0 6 → HumOk (hmlS τ n k q).2 h
  | 0, _, _, h => h
  | k + 1, q, h1, h => by
    rw [hmlS_s]
    by_cases a : kdS τ n q.1 = 0
    · rw [if_pos a]; exact h
    · rw [if_neg a]
      by_cases b : q.2 0 6 = 6
      · rw [if_pos b]; exact hml_ok τ n k (markS 3 q.1, q.2) h1 h
      · rw [if_neg b]
        refine hml_ok τ n k (humS τ n q) (by rw [humS_n τ n q (by decide)]; exact h1) (fun j hj => ?_)
        rw [humS_6] at hj
        unfold HumOk
        rw [humS_n τ n q (by decide)]
        have kl := kdS_le τ n q.1
        by_cases z : j = q.2 0 6
        · subst z
          unfold humS
          dsimp only
          rw [updA_n (by omega), updA_n (by omega), updA_n (by omega), updA_s, updA_n (by omega), updA_n (by omega), updA_s, updA_n (by omega), updA_s]
          exact ⟨by omega, kl, thi_lt h1, thi_lt h1⟩
        · have := h j (by omega)
          unfold HumOk at this
          unfold humS
          dsimp only
          rw [updA_n (by omega), updA_n (by omega), updA_n (by omega), updA_n (by omega), updA_n (by omega), updA_n (by omega), updA_n (by omega), updA_n (by omega), updA_n (by omega), updA_n (by omega), updA_n (by omega), updA_n (by omega)]
          exact this
theorem csl_ok (τ : Nat → Nat) (n : Nat) : ∀ k (q : Rd), 1 ≤ q.2 0 0 → 1 ≤ q.2 0 6 → (∀ c, q.2 7 c = 0) → (∀ c, c < q.2 0 7 → CaseOk q.2 c) → ∀ c, c < (cslS τ n k q).2 0 7 → CaseOk (cslS τ n k q).2 c
  | 0, _, _, _, _, h => h
  | k + 1, q, h1, h6, h7, h => by
    rw [cslS_s]
    split
    · split
      · exact csl_ok τ n k (markS 3 q.1, q.2) h1 h6 h7 h
      · refine csl_ok τ n k (casS τ n q) (by rw [casS_n τ n q (Or.inl ⟨rfl, by decide⟩)]; exact h1) (by rw [casS_n τ n q (Or.inl ⟨rfl, by decide⟩)]; exact h6) (fun c => by rw [casS_n τ n q (by omega)]; exact h7 c) (fun j hj => ?_)
        rw [casS_7] at hj
        unfold CaseOk
        rw [casS_n τ n q (Or.inl ⟨rfl, by decide⟩), casS_n τ n q (Or.inl ⟨rfl, by decide⟩), casS_n τ n q (x := 7) (by omega), h7]
        by_cases z : j = q.2 0 7
        · subst z
          unfold casS
          dsimp only
          rw [updA_n (by omega), updA_n (by omega), updA_n (by omega), updA_s, updA_n (by omega), updA_n (by omega), updA_s, updA_n (by omega), updA_s]
          exact ⟨by have := numS_le τ n 0 (q.2 0 6 - 1) (pasS τ n 118 q.1); omega, thi_lt h1, thi_lt h1, by decide⟩
        · have := h j (by omega)
          unfold CaseOk at this
          unfold casS
          dsimp only
          rw [updA_n (by omega), updA_n (by omega), updA_n (by omega), updA_n (by omega), updA_n (by omega), updA_n (by omega), updA_n (by omega), updA_n (by omega), updA_n (by omega), updA_n (by omega), updA_n (by omega), updA_n (by omega)]
          exact ⟨this.1, this.2.1, this.2.2.1, by decide⟩
    · exact h
theorem csl_n (τ : Nat → Nat) (n : Nat) : ∀ k (q : Rd) {x i : Nat}, ((x = 0 ∧ i ≠ 7) ∨ x = 1 ∨ x = 2 ∨ x = 3 ∨ x = 7) → (cslS τ n k q).2 x i = q.2 x i
  | 0, _, _, _, _ => rfl
  | k + 1, q, x, i, h => by
    rw [cslS_s]
    split
    · split
      · exact csl_n τ n k (markS 3 q.1, q.2) h
      · rw [csl_n τ n k (casS τ n q) h]; exact casS_n τ n q h
    · rfl
theorem csl_0 (τ : Nat → Nat) (n : Nat) : ∀ k (q : Rd), (cslS τ n k q).1.2 = 0 → q.1.2 = 0
  | 0, _, h => h
  | k + 1, q, h => by
    rw [cslS_s] at h
    split at h
    · split at h
      · exact absurd (csl_0 τ n k (markS 3 q.1, q.2) h) (fun w => (markS_0 (by decide) w).elim)
      · exact casS_0 (csl_0 τ n k (casS τ n q) h)
    · exact h
theorem all_val0 {τ : Nat → Nat} {n : Nat} {r1 r2 r3 r4 al : Rd} (q1 : r1 = lawS τ n ((0, 0), cz)) (q2 : r2 = drmS τ n r1) (q3 : r3 = hmsS τ n r2) (q4 : r4 = cslS τ n 120 r3) (ea : al = (endS n r4.1, r4.2))
    (f1 : r1.2 0 0 ≤ 8 ∧ (r1.1.2 = 0 → 3 ≤ r1.2 0 0) ∧ r1.2 0 6 = 0 ∧ r1.2 0 7 = 0 ∧ ∀ c, r1.2 7 c = 0) (fq : r3.2 0 0 ≤ 8 ∧ (r3.1.2 = 0 → 3 ≤ r3.2 0 0 ∧ 1 ≤ r3.2 0 6) ∧ r3.2 0 6 ≤ 6 ∧ r3.2 0 7 = 0 ∧ ∀ c, r3.2 7 c = 0) (h : al.1.2 = 0) : Val al.2 ∧ al.2 0 4 = 0 := by
  have z4 : r4.1.2 = 0 := by
    rw [ea] at h
    have h : (endS n r4.1).2 = 0 := h
    unfold endS at h
    split at h
    · exact absurd h (show (1 : Nat) ≠ 0 by decide)
    · exact h
  have z3 : r3.1.2 = 0 := csl_0 τ n 120 r3 (by rw [← q4]; exact z4)
  obtain ⟨t3, H1⟩ := fq.2.1 z3
  have hz2 : r2.1.2 = 0 := by
    rw [q3] at z3
    have := hmlS_0 τ n 120 _ z3
    dsimp only at this
    split at this
    · exact absurd this (fun w => (markS_0 (by decide) w).elim)
    · exact this
  have z1 : r1.1.2 = 0 := by rw [q2] at hz2; exact drmS_0 hz2
  have e3 : ∀ x i, ((x = 0 ∧ i ≠ 6) ∨ 4 ≤ x) → r3.2 x i = r2.2 x i := fun x i hx => by rw [q3]; unfold hmsS; rw [hmlS_n τ n 120 _ hx]
  have e2 : ∀ x i, ¬ (x = 0 ∧ i = 3) → r2.2 x i = r1.2 x i := fun x i hx => by rw [q2]; exact drmS_n τ n r1 hx
  have e4 : ∀ x i, ((x = 0 ∧ i ≠ 7) ∨ x = 1 ∨ x = 2 ∨ x = 3 ∨ x = 7) → r4.2 x i = r3.2 x i := fun x i hx => by rw [q4]; exact csl_n τ n 120 r3 hx
  have es : ∀ i, i ≠ 3 → i ≠ 6 → i ≠ 7 → r4.2 0 i = r1.2 0 i := fun i a b c => by rw [e4 0 i (Or.inl ⟨rfl, c⟩), e3 0 i (Or.inl ⟨rfl, b⟩), e2 0 i (by omega)]
  have le := q1.trans (lawS_e2 τ n (0, 0) cz)
  have w0 : r4.2 0 0 = r1.2 0 0 := es 0 (by decide) (by decide) (by decide)
  have t1 : 3 ≤ r1.2 0 0 := f1.2.1 z1
  have zz : (pasS τ n 59 (numS τ n 1 9 (pasS τ n 44 (numS τ n 0 8 (pasS τ n 44 (numS τ n 3 8 (pasS τ n 106 (0, 0))).2)).2)).2).2 = 0 := by rw [le] at z1; exact z1
  have b1 : r4.2 0 1 ≤ 8 := by
    rw [es 1 (by decide) (by decide) (by decide), le]; dsimp only; rw [updA_n (by omega), updA_s]; exact numS_le _ _ _ _ _
  have b2 : 1 ≤ r4.2 0 2 ∧ r4.2 0 2 ≤ 9 := by
    rw [es 2 (by decide) (by decide) (by decide), le]; dsimp only; rw [updA_s]
    exact ⟨(numS_ge (pasS_0 zz)).1, numS_le _ _ _ _ _⟩
  have b4 : r4.2 0 4 = 0 := by
    rw [es 4 (by decide) (by decide) (by decide), le]; dsimp only; rw [updA_n (by omega), updA_n (by omega), updA_n (by omega)]; rfl
  have b3 : r4.2 0 3 < 2 ^ r4.2 0 0 := by
    rw [e4 0 3 (by omega), e3 0 3 (by omega), w0, ← e2 0 0 (by omega), q2]
    exact drm_D τ n r1 (by omega)
  have b6 : r4.2 0 6 = r3.2 0 6 := e4 0 6 (by omega)
  have b7 : r4.2 0 7 ≤ 5 := by rw [q4]; exact (cslS_7 τ n 120 r3 (by omega)).1
  have r30 : r3.2 0 0 = r2.2 0 0 := e3 0 0 (by omega)
  have hums : ∀ h, h < r3.2 0 6 → HumOk r3.2 h := by
    rw [q3]; unfold hmsS
    refine hml_ok τ n 120 _ ?_ (fun h hh => ?_)
    · dsimp only; omega
    · dsimp only at hh; rw [e2 0 6 (by omega), f1.2.2.1] at hh; omega
  have cas : ∀ c, c < r4.2 0 7 → CaseOk r4.2 c := by
    rw [q4]
    exact csl_ok τ n 120 r3 (by omega) H1 fq.2.2.2.2 (fun c hc => by rw [fq.2.2.2.1] at hc; omega)
  rw [ea]
  refine ⟨⟨⟨?_, ?_⟩, b1, b2, b3, ?_, ⟨?_, ?_⟩, b7, fun h hh => ?_, cas⟩, b4⟩
  · show 3 ≤ r4.2 0 0; omega
  · show r4.2 0 0 ≤ 8; have := f1.1; omega
  · show r4.2 0 4 ≤ r4.2 0 2; omega
  · show 1 ≤ r4.2 0 6; omega
  · show r4.2 0 6 ≤ 6; have := fq.2.2.1; omega
  · have hh : h < r4.2 0 6 := hh
    rw [b6] at hh
    have := hums h hh
    unfold HumOk at this ⊢
    dsimp only
    rw [e4 1 h (by omega), e4 2 h (by omega), e4 3 h (by omega), e4 0 0 (by omega)]; exact this
theorem all_val {τ : Nat → Nat} {n : Nat} (h : (allS τ n).1.2 = 0) : Val (allS τ n).2 ∧ (allS τ n).2 0 4 = 0 := all_val0 (rd1_e τ n) (rd2_e τ n) (rd3_e τ n) (rd4_e τ n) (allS_e τ n) (rd1_f τ n) (rd3_f τ n) h
