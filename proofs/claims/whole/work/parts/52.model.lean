/-! ===== the model: an act is kept ===== -/
def KpM (n : Nat) (μ μ' : Mem) : Prop := ∃ n' s, n' < 24 ∧ ((n = 24 ∧ n' = 23 ∧ s = 46) ∨ (n < 24 ∧ n' = n ∧ s = 0)) ∧ (∀ q, q < 46 * n' → μ' 74 q = μ 74 (q + s)) ∧ (∀ q, q < 46 → μ' 74 (46 * n' + q) = μ 71 q) ∧ μ' 67 = upd (μ 67) 9 (nI (n' + 1)) ∧ ∀ j, j ≠ 67 → j ≠ 74 → μ' j = μ j
theorem upd_upd (f : Nat → Int32) (i : Nat) (v w : Int32) : upd (upd f i v) i w = upd f i w := by
  funext j; rw [upd_at, upd_at, upd_at]; by_cases h : j = i
  · rw [if_pos h, if_pos h]
  · rw [if_neg h, if_neg h, if_neg h]
theorem upd_s (f : Nat → Int32) (i : Nat) (v : Int32) : upd f i v i = v := by rw [upd_at, if_pos rfl]
theorem upd_n {f : Nat → Int32} {i : Nat} {v : Int32} {j : Nat} (h : j ≠ i) : upd f i v j = f j := by rw [upd_at, if_neg h]
set_option maxHeartbeats 1000000 in
theorem m_keep {μ : Mem} {n : Nat} (hn : n ≤ 24) (e : μ 67 9 = nI n) : CtP yX10_keep cX10_keep 2 none 0 [vR 67] μ (Pv (KpM n μ)) := by
  refine CtP.go RX10 rfl pn_X10 (Nat.le_of_ble_eq_true rfl) (fun C hG hR => ?_)
  have two : ∀ (n' s : Nat), n' < 24 → ((n = 24 ∧ n' = 23 ∧ s = 46) ∨ (n < 24 ∧ n' = n ∧ s = 0)) → ∀ k i m, i + k = 46 → (∀ q, q < 46 * n' → m 74 q = μ 74 (q + s)) → (∀ q, q < i → m 74 (46 * n' + q) = μ 71 q) → m 67 = upd (μ 67) 9 (nI n') → (∀ j, j ≠ 67 → j ≠ 74 → m j = μ j) → V C 51 [(0, vR 67), (1, vI (nI i))] [] m := by
    intro n' s hn' hs k
    induction k with
    | zero =>
      intro i m hi h1 h2 h3 h4
      have e9 : m 67 9 = nI n' := by rw [h3, upd_s]
      refine V_iload_n (pc := 51) hG (dk dd_X10_keep 29 rfl) rfl ?_
      refine V_bipush (pc := 52) hG (dk dd_X10_keep 30 rfl) (v := 46) (by decide) ?_
      refine V_icmp_ge (pc := 54) hG (dk dd_X10_keep 31 rfl) (tgt := 83) (by decide) (fun h54 => ?_) (fun h54 => ?_)
      refine V_aload_n (pc := 83) hG (dk dd_X10_keep 47 rfl) rfl ?_
      refine V_dup (pc := 84) hG (dk dd_X10_keep 48 rfl) rfl ?_
      refine V_getI (pc := 85) hG (dk dd_X10_keep 49 rfl) fl_X10_170 sh_67 rfl ?_
      refine V_iconst (pc := 88) hG (dk dd_X10_keep 50 rfl) (v := 1) (by decide) ?_
      refine V_iadd (pc := 89) hG (dk dd_X10_keep 51 rfl) ?_
      refine V_putI (pc := 90) hG (dk dd_X10_keep 52 rfl) fl_X10_170 sh_67 rfl rfl ?_
      refine V_vretP (pc := 93) hG (dk dd_X10_keep 53 rfl) hR (Pv.mk ?_)
      rotate_left
      rotate_left
      -- leaves: return@93; stop 57
      · refine ⟨n', s, hn', hs, ?_, ?_, ?_, ?_⟩
        · intro q hq; rw [setc_n (by decide)]; exact h1 q hq
        · intro q hq; rw [setc_n (by decide)]; exact h2 q (by omega)
        · rw [setc_s, h3, upd_upd, upd_s, nI_succ]
        · intro j a b; rw [setc_n a]; exact h4 j a b
      · exfalso; have := nle_i (a := 46) h54 (by omega) (by omega); omega
    | succ k ih =>
      intro i m hi h1 h2 h3 h4
      have e9 : m 67 9 = nI n' := by rw [h3, upd_s]
      have ix : (46 : Int32) * m 67 9 + nI i = nI (46 * n' + i) := by rw [e9, show (46 : Int32) = nI 46 from rfl, pk_mul, nI_add]
      have r : vp_in (nI i) 46 := vp_in_nI (by omega) (by decide)
      have rw1 : vp_in ((46 : Int32) * m 67 9 + nI i) 1104 := by rw [ix]; exact vp_in_nI (by omega) (by decide)
      refine V_iload_n (pc := 51) hG (dk dd_X10_keep 29 rfl) rfl ?_
      refine V_bipush (pc := 52) hG (dk dd_X10_keep 30 rfl) (v := 46) (by decide) ?_
      refine V_icmp_ge (pc := 54) hG (dk dd_X10_keep 31 rfl) (tgt := 83) (by decide) (fun h54 => ?_) (fun h54 => ?_)
      rotate_left
      refine V_aload_n (pc := 57) hG (dk dd_X10_keep 32 rfl) rfl ?_
      refine V_getR (pc := 58) hG (dk dd_X10_keep 33 rfl) fl_X10_28 sh_67 rfl ?_
      refine V_bipush (pc := 61) hG (dk dd_X10_keep 34 rfl) (v := 46) (by decide) ?_
      refine V_aload_n (pc := 63) hG (dk dd_X10_keep 35 rfl) rfl ?_
      refine V_getI (pc := 64) hG (dk dd_X10_keep 36 rfl) fl_X10_170 sh_67 rfl ?_
      refine V_imul (pc := 67) hG (dk dd_X10_keep 37 rfl) ?_
      refine V_iload_n (pc := 68) hG (dk dd_X10_keep 38 rfl) rfl ?_
      refine V_iadd (pc := 69) hG (dk dd_X10_keep 39 rfl) ?_
      refine V_aload_n (pc := 70) hG (dk dd_X10_keep 40 rfl) rfl ?_
      refine V_getR (pc := 71) hG (dk dd_X10_keep 41 rfl) fl_X10_19 sh_67 rfl ?_
      refine V_iload_n (pc := 74) hG (dk dd_X10_keep 42 rfl) rfl ?_
      refine V_iald (pc := 75) hG (dk dd_X10_keep 43 rfl) sh_71 r ?_
      refine V_iast (pc := 76) hG (dk dd_X10_keep 44 rfl) sh_74 rw1 ?_
      refine V_iinc (pc := 77) hG (dk dd_X10_keep 45 rfl) rfl (v := _ + 1) rfl (by decide) (lv' := [(0, _), (1, _)]) rfl ?_
      refine V_goto (pc := 80) hG (dk dd_X10_keep 46 rfl) (tgt := 51) (by decide) ?_
      rotate_left
      -- leaves: stop 83; stop 51
      · exfalso; have := le_i (a := 46) h54 (by omega) (by omega); omega
      · rw [← nI_succ, ix, nI_clamp (by omega), nI_clamp (by omega)]
        refine ih (i + 1) _ (by omega) (fun q hq => ?_) (fun q hq => ?_) ?_ (fun j a b => ?_)
        · rw [setc_s, upd_n (by omega)]; exact h1 q hq
        · rw [setc_s]
          by_cases z : q = i
          · rw [z, upd_s, h4 71 (by decide) (by decide)]
          · rw [upd_n (by omega)]; exact h2 q (by omega)
        · rw [setc_n (by decide)]; exact h3
        · rw [setc_n b]; exact h4 j a b
  have one : n = 24 → ∀ k i m, i + k = 1058 → (∀ q, q < i → m 74 q = μ 74 (q + 46)) → (∀ q, i ≤ q → m 74 q = μ 74 q) → (∀ j, j ≠ 74 → m j = μ j) → V C 11 [(0, vR 67), (1, vI (nI i))] [] m := by
    intro h24 k
    induction k with
    | zero =>
      intro i m hi h1 h2 h3
      refine V_iload_n (pc := 11) hG (dk dd_X10_keep 6 rfl) rfl ?_
      refine V_sipush (pc := 12) hG (dk dd_X10_keep 7 rfl) (v := 1058) (by decide) ?_
      refine V_icmp_ge (pc := 15) hG (dk dd_X10_keep 8 rfl) (tgt := 39) (by decide) (fun h15 => ?_) (fun h15 => ?_)
      refine V_aload_n (pc := 39) hG (dk dd_X10_keep 21 rfl) rfl ?_
      refine V_dup (pc := 40) hG (dk dd_X10_keep 22 rfl) rfl ?_
      refine V_getI (pc := 41) hG (dk dd_X10_keep 23 rfl) fl_X10_170 sh_67 rfl ?_
      refine V_iconst (pc := 44) hG (dk dd_X10_keep 24 rfl) (v := 1) (by decide) ?_
      refine V_isub (pc := 45) hG (dk dd_X10_keep 25 rfl) ?_
      refine V_putI (pc := 46) hG (dk dd_X10_keep 26 rfl) fl_X10_170 sh_67 rfl rfl ?_
      refine V_iconst (pc := 49) hG (dk dd_X10_keep 27 rfl) (v := 0) (by decide) ?_
      refine V_istore_n (pc := 50) hG (dk dd_X10_keep 28 rfl) (by decide) (lv' := [(0, _), (1, _)]) rfl ?_
      rotate_left
      rotate_left
      -- leaves: stop 51; stop 18
      · refine two 23 46 (by decide) (Or.inl ⟨h24, rfl, rfl⟩) 46 0 _ (by omega) (fun q hq => ?_) (fun q hq => by omega) ?_ (fun j a b => ?_)
        · rw [setc_n (by decide)]; exact h1 q (by omega)
        · rw [setc_s, h3 67 (by decide), e, h24]; rfl
        · rw [setc_n a]; exact h3 j b
      · exfalso; have := nle_i (a := 1058) h15 (by omega) (by omega); omega
    | succ k ih =>
      intro i m hi h1 h2 h3
      have ix : nI i + 46 = nI (i + 46) := by rw [show (46 : Int32) = nI 46 from rfl, nI_add]
      have r : vp_in (nI i) 1104 := vp_in_nI (by omega) (by decide)
      have r2 : vp_in (nI i + 46) 1104 := by rw [ix]; exact vp_in_nI (by omega) (by decide)
      refine V_iload_n (pc := 11) hG (dk dd_X10_keep 6 rfl) rfl ?_
      refine V_sipush (pc := 12) hG (dk dd_X10_keep 7 rfl) (v := 1058) (by decide) ?_
      refine V_icmp_ge (pc := 15) hG (dk dd_X10_keep 8 rfl) (tgt := 39) (by decide) (fun h15 => ?_) (fun h15 => ?_)
      rotate_left
      refine V_aload_n (pc := 18) hG (dk dd_X10_keep 9 rfl) rfl ?_
      refine V_getR (pc := 19) hG (dk dd_X10_keep 10 rfl) fl_X10_28 sh_67 rfl ?_
      refine V_iload_n (pc := 22) hG (dk dd_X10_keep 11 rfl) rfl ?_
      refine V_aload_n (pc := 23) hG (dk dd_X10_keep 12 rfl) rfl ?_
      refine V_getR (pc := 24) hG (dk dd_X10_keep 13 rfl) fl_X10_28 sh_67 rfl ?_
      refine V_iload_n (pc := 27) hG (dk dd_X10_keep 14 rfl) rfl ?_
      refine V_bipush (pc := 28) hG (dk dd_X10_keep 15 rfl) (v := 46) (by decide) ?_
      refine V_iadd (pc := 30) hG (dk dd_X10_keep 16 rfl) ?_
      refine V_iald (pc := 31) hG (dk dd_X10_keep 17 rfl) sh_74 r2 ?_
      refine V_iast (pc := 32) hG (dk dd_X10_keep 18 rfl) sh_74 r ?_
      refine V_iinc (pc := 33) hG (dk dd_X10_keep 19 rfl) rfl (v := _ + 1) rfl (by decide) (lv' := [(0, _), (1, _)]) rfl ?_
      refine V_goto (pc := 36) hG (dk dd_X10_keep 20 rfl) (tgt := 11) (by decide) ?_
      rotate_left
      -- leaves: stop 39; stop 11
      · exfalso; have := le_i (a := 1058) h15 (by omega) (by omega); omega
      · rw [← nI_succ, ix, nI_clamp (by omega), nI_clamp (by omega)]
        refine ih (i + 1) _ (by omega) (fun q hq => ?_) (fun q hq => ?_) (fun j a => ?_)
        · rw [setc_s]
          by_cases z : q = i
          · rw [z, upd_s]; exact h2 _ (by omega)
          · rw [upd_n z]; exact h1 q (by omega)
        · rw [setc_s, upd_n (by omega)]; exact h2 q (by omega)
        · rw [setc_n a]; exact h3 j a
  refine V_aload_n (pc := 0) hG (dk dd_X10_keep 0 rfl) rfl ?_
  refine V_getI (pc := 1) hG (dk dd_X10_keep 1 rfl) fl_X10_170 sh_67 rfl ?_
  refine V_bipush (pc := 4) hG (dk dd_X10_keep 2 rfl) (v := 24) (by decide) ?_
  refine V_icmp_ne (pc := 6) hG (dk dd_X10_keep 3 rfl) (tgt := 49) (by decide) (fun h6 => ?_) (fun h6 => ?_)
  refine V_iconst (pc := 49) hG (dk dd_X10_keep 27 rfl) (v := 0) (by decide) ?_
  refine V_istore_n (pc := 50) hG (dk dd_X10_keep 28 rfl) (by decide) (lv' := [(0, _), (1, _)]) rfl ?_
  rotate_left
  refine V_iconst (pc := 9) hG (dk dd_X10_keep 4 rfl) (v := 0) (by decide) ?_
  refine V_istore_n (pc := 10) hG (dk dd_X10_keep 5 rfl) (by decide) (lv' := [(0, _), (1, _)]) rfl ?_
  rotate_left
  -- leaves: stop 51; stop 11
  · have hl : n < 24 := by
      have : n ≠ 24 := fun z => h6 (by rw [e, z]; rfl)
      omega
    exact two n 0 hl (Or.inr ⟨hl, rfl, rfl⟩) 46 0 μ (by omega) (fun q hq => rfl) (fun q hq => by omega) (by rw [← e]; funext j; rw [upd_at]; split <;> simp_all) (fun j a b => rfl)
  · exact one ((nI_eq (b := 24) (by omega) (by decide)).mp (e.symm.trans h6)) 1058 0 μ (by omega) (fun q hq => by omega) (fun q hq => rfl) (fun j a => rfl)
