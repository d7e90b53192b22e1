/-! ===== rows: items; tape; acts ===== -/
theorem itS {n : Nat} (h : n < 8) : Sh[3 + n]? = some (.inr (0, 40, [])) := by
  rcases (show n = 0 ∨ n = 1 ∨ n = 2 ∨ n = 3 ∨ n = 4 ∨ n = 5 ∨ n = 6 ∨ n = 7 by omega) with rfl | rfl | rfl | rfl | rfl | rfl | rfl | rfl <;> rfl
theorem rs8 {x : Int32} {n : Nat} (hx : x.toNatClampNeg = n) (h : n < 8) : [3, 4, 5, 6, 7, 8, 9, 10][x.toNatClampNeg]? = some (3 + n) := by
  rw [hx]
  rcases (show n = 0 ∨ n = 1 ∨ n = 2 ∨ n = 3 ∨ n = 4 ∨ n = 5 ∨ n = 6 ∨ n = 7 by omega) with rfl | rfl | rfl | rfl | rfl | rfl | rfl | rfl <;> rfl
/-- a number as a lane keeps it -/
def lanV (l v : Int32) : Int32 := if l = 0 then v.toInt8.toInt32 else if l = 1 then v.toInt16.toInt32 else v
theorem c_make {μ : Mem} {x l k : Int32} {n : Nat} (hx : x = nI n) (hn : n < 8) : CtP yX5_make cX5_make 4 none 1 [vR 1, vI x, vI l, vI k] μ (Pv (fun μ' => ∃ f, μ' = setc (setc (setc μ (3 + n) f) 11 (upd (μ 11) n l)) 12 (upd (μ 12) n k) ∧ ∀ i, i < 40 → f i = 0)) := by
  refine CtP.go RX5 rfl pn_X5 (Nat.le_of_ble_eq_true rfl) (fun C hG hR => ?_)
  have hr : vp_in x 8 := in_nI hx hn (by decide)
  have hc : x.toNatClampNeg = n := nI_cl hx (by omega)
  refine V_aload_n (pc := 0) hG (dk dd_X5_make 0 rfl) rfl ?_
  refine V_getR (pc := 1) hG (dk dd_X5_make 1 rfl) fl_X5_13 sh_1 rfl ?_
  refine V_iload_n (pc := 4) hG (dk dd_X5_make 2 rfl) rfl ?_
  refine V_ald3 (pc := 5) hG (dk dd_X5_make 3 rfl) sh_2 hr (rs8 hc hn) ?_
  refine V_iconst (pc := 6) hG (dk dd_X5_make 4 rfl) (v := 0) (by decide) ?_
  refine V_callSvp (pc := 7) hG (dk dd_X5_make 5 rfl) ml_X5_27 mo_J7_fill_53178 (c_fill (itS hn) (by decide)) (by decide) (by decide) rfl rfl rfl (fun m7 p7 => ?_)
  refine V_aload_n (pc := 10) hG (dk dd_X5_make 6 rfl) rfl ?_
  refine V_getR (pc := 11) hG (dk dd_X5_make 7 rfl) fl_X5_16 sh_1 rfl ?_
  refine V_iload_n (pc := 14) hG (dk dd_X5_make 8 rfl) rfl ?_
  refine V_iload_n (pc := 15) hG (dk dd_X5_make 9 rfl) rfl ?_
  refine V_iast (pc := 16) hG (dk dd_X5_make 10 rfl) sh_11 hr ?_
  refine V_aload_n (pc := 17) hG (dk dd_X5_make 11 rfl) rfl ?_
  refine V_getR (pc := 18) hG (dk dd_X5_make 12 rfl) fl_X5_20 sh_1 rfl ?_
  refine V_iload_n (pc := 21) hG (dk dd_X5_make 13 rfl) rfl ?_
  refine V_iload_n (pc := 22) hG (dk dd_X5_make 14 rfl) rfl ?_
  refine V_iast (pc := 23) hG (dk dd_X5_make 15 rfl) sh_12 hr ?_
  refine V_vretP (pc := 24) hG (dk dd_X5_make 16 rfl) hR (Pv.mk ?_)
  rotate_left
  -- leaves: return@24
  · obtain ⟨f, rfl, hf⟩ := p7; refine ⟨f, ?_, hf⟩; simp (disch := omega) only [setc_n, hc]
theorem c_put {μ : Mem} {x i v : Int32} {n k : Nat} (hx : x = nI n) (hn : n < 8) (hi : i = nI k) (hk : k < 40) : CtP yX5_put cX5_put 4 (some .int) 1 [vR 1, vI x, vI i, vI v] μ (Pi (fun r μ' => μ' = setc μ (3 + n) (upd (μ (3 + n)) k (lanV (μ 11 n) v)) ∧ r = lanV (μ 11 n) v)) := by
  refine CtP.go RX5 rfl pn_X5 (Nat.le_of_ble_eq_true rfl) (fun C hG hR => ?_)
  have hr : vp_in x 8 := in_nI hx hn (by decide)
  have hc : x.toNatClampNeg = n := nI_cl hx (by omega)
  have hi2 : vp_in i 40 := in_nI hi hk (by decide)
  have hd : i.toNatClampNeg = k := nI_cl hi (by omega)
  refine V_aload_n (pc := 0) hG (dk dd_X5_put 0 rfl) rfl ?_
  refine V_getR (pc := 1) hG (dk dd_X5_put 1 rfl) fl_X5_13 sh_1 rfl ?_
  refine V_iload_n (pc := 4) hG (dk dd_X5_put 2 rfl) rfl ?_
  refine V_ald3 (pc := 5) hG (dk dd_X5_put 3 rfl) sh_2 hr (rs8 hc hn) ?_
  refine V_iload_n (pc := 6) hG (dk dd_X5_put 4 rfl) rfl ?_
  refine V_aload_n (pc := 7) hG (dk dd_X5_put 5 rfl) rfl ?_
  refine V_getR (pc := 8) hG (dk dd_X5_put 6 rfl) fl_X5_16 sh_1 rfl ?_
  refine V_iload_n (pc := 11) hG (dk dd_X5_put 7 rfl) rfl ?_
  refine V_iald (pc := 12) hG (dk dd_X5_put 8 rfl) sh_11 hr ?_
  refine V_if_ne (pc := 13) hG (dk dd_X5_put 9 rfl) (tgt := 21) (by decide) (fun h13 => ?_) (fun h13 => ?_)
  refine V_aload_n (pc := 21) hG (dk dd_X5_put 13 rfl) rfl ?_
  refine V_getR (pc := 22) hG (dk dd_X5_put 14 rfl) fl_X5_16 sh_1 rfl ?_
  refine V_iload_n (pc := 25) hG (dk dd_X5_put 15 rfl) rfl ?_
  refine V_iald (pc := 26) hG (dk dd_X5_put 16 rfl) sh_11 hr ?_
  refine V_iconst (pc := 27) hG (dk dd_X5_put 17 rfl) (v := 1) (by decide) ?_
  refine V_icmp_ne (pc := 28) hG (dk dd_X5_put 18 rfl) (tgt := 36) (by decide) (fun h28 => ?_) (fun h28 => ?_)
  refine V_iload_n (pc := 36) hG (dk dd_X5_put 22 rfl) rfl ?_
  refine V_iast (pc := 37) hG (dk dd_X5_put 23 rfl) (itS hn) hi2 ?_
  refine V_aload_n (pc := 38) hG (dk dd_X5_put 24 rfl) rfl ?_
  refine V_getR (pc := 39) hG (dk dd_X5_put 25 rfl) fl_X5_13 sh_1 rfl ?_
  refine V_iload_n (pc := 42) hG (dk dd_X5_put 26 rfl) rfl ?_
  refine V_ald3 (pc := 43) hG (dk dd_X5_put 27 rfl) sh_2 hr (rs8 hc hn) ?_
  refine V_iload_n (pc := 44) hG (dk dd_X5_put 28 rfl) rfl ?_
  refine V_iald (pc := 45) hG (dk dd_X5_put 29 rfl) (itS hn) hi2 ?_
  refine V_iretP (pc := 46) hG (dk dd_X5_put 30 rfl) hR (Pi.mk ?_)
  rotate_left
  refine V_iload_n (pc := 31) hG (dk dd_X5_put 19 rfl) rfl ?_
  refine V_i2s (pc := 32) hG (dk dd_X5_put 20 rfl) ?_
  refine V_goto (pc := 33) hG (dk dd_X5_put 21 rfl) (tgt := 37) (by decide) ?_
  refine V_iast (pc := 37) hG (dk dd_X5_put 23 rfl) (itS hn) hi2 ?_
  refine V_aload_n (pc := 38) hG (dk dd_X5_put 24 rfl) rfl ?_
  refine V_getR (pc := 39) hG (dk dd_X5_put 25 rfl) fl_X5_13 sh_1 rfl ?_
  refine V_iload_n (pc := 42) hG (dk dd_X5_put 26 rfl) rfl ?_
  refine V_ald3 (pc := 43) hG (dk dd_X5_put 27 rfl) sh_2 hr (rs8 hc hn) ?_
  refine V_iload_n (pc := 44) hG (dk dd_X5_put 28 rfl) rfl ?_
  refine V_iald (pc := 45) hG (dk dd_X5_put 29 rfl) (itS hn) hi2 ?_
  refine V_iretP (pc := 46) hG (dk dd_X5_put 30 rfl) hR (Pi.mk ?_)
  rotate_left
  refine V_iload_n (pc := 16) hG (dk dd_X5_put 10 rfl) rfl ?_
  refine V_i2b (pc := 17) hG (dk dd_X5_put 11 rfl) ?_
  refine V_goto (pc := 18) hG (dk dd_X5_put 12 rfl) (tgt := 37) (by decide) ?_
  refine V_iast (pc := 37) hG (dk dd_X5_put 23 rfl) (itS hn) hi2 ?_
  refine V_aload_n (pc := 38) hG (dk dd_X5_put 24 rfl) rfl ?_
  refine V_getR (pc := 39) hG (dk dd_X5_put 25 rfl) fl_X5_13 sh_1 rfl ?_
  refine V_iload_n (pc := 42) hG (dk dd_X5_put 26 rfl) rfl ?_
  refine V_ald3 (pc := 43) hG (dk dd_X5_put 27 rfl) sh_2 hr (rs8 hc hn) ?_
  refine V_iload_n (pc := 44) hG (dk dd_X5_put 28 rfl) rfl ?_
  refine V_iald (pc := 45) hG (dk dd_X5_put 29 rfl) (itS hn) hi2 ?_
  refine V_iretP (pc := 46) hG (dk dd_X5_put 30 rfl) hR (Pi.mk ?_)
  rotate_left
  -- leaves: return@46; return@46; return@46
  · rw [hc] at h13 h28; simp only [hd, setc_s, pk_us]; unfold lanV; rw [if_neg h13, if_neg h28]; exact ⟨rfl, rfl⟩
  · rw [hc] at h13 h28; simp only [hd, setc_s, pk_us]; unfold lanV; rw [if_neg h13, if_pos h28]; exact ⟨rfl, rfl⟩
  · rw [hc] at h13; simp only [hd, setc_s, pk_us]; unfold lanV; rw [if_pos h13]; exact ⟨rfl, rfl⟩
theorem c_remove {μ : Mem} {x : Int32} {n : Nat} (hx : x = nI n) (hn : n < 8) : CtP yX5_remove cX5_remove 2 (some .int) 0 [vR 1, vI x] μ (Pi (fun r μ' => μ' = setc μ 11 (upd (μ 11) n (-1)) ∧ r = μ 12 n)) := by
  refine CtP.go RX5 rfl pn_X5 (Nat.le_of_ble_eq_true rfl) (fun C hG hR => ?_)
  have hr : vp_in x 8 := in_nI hx hn (by decide)
  have hc : x.toNatClampNeg = n := nI_cl hx (by omega)
  refine V_aload_n (pc := 0) hG (dk dd_X5_remove 0 rfl) rfl ?_
  refine V_getR (pc := 1) hG (dk dd_X5_remove 1 rfl) fl_X5_16 sh_1 rfl ?_
  refine V_iload_n (pc := 4) hG (dk dd_X5_remove 2 rfl) rfl ?_
  refine V_iconst (pc := 5) hG (dk dd_X5_remove 3 rfl) (v := -1) (by decide) ?_
  refine V_iast (pc := 6) hG (dk dd_X5_remove 4 rfl) sh_11 hr ?_
  refine V_aload_n (pc := 7) hG (dk dd_X5_remove 5 rfl) rfl ?_
  refine V_getR (pc := 8) hG (dk dd_X5_remove 6 rfl) fl_X5_20 sh_1 rfl ?_
  refine V_iload_n (pc := 11) hG (dk dd_X5_remove 7 rfl) rfl ?_
  refine V_iald (pc := 12) hG (dk dd_X5_remove 8 rfl) sh_12 hr ?_
  refine V_iretP (pc := 13) hG (dk dd_X5_remove 9 rfl) hR (Pi.mk ?_)
  rotate_left
  -- leaves: return@13
  · rw [hc]; exact ⟨rfl, by rw [setc_n (by decide)]⟩
theorem c_move {μ : Mem} {x i y j k : Int32} {n m a b c : Nat} (hx : x = nI n) (hn : n < 8) (hy : y = nI m) (hm : m < 8) (hi : i = nI a) (hj : j = nI b) (hk : k = nI c) (ha : a + c ≤ 40) (hb : b + c ≤ 40) : CtP yX5_move cX5_move 6 none 0 [vR 1, vI x, vI i, vI y, vI j, vI k] μ (Pv (fun μ' => μ' = setc μ (3 + m) (va_cpy (μ (3 + n)) (μ (3 + m)) a b c))) := by
  refine CtP.go RX5 rfl pn_X5 (Nat.le_of_ble_eq_true rfl) (fun C hG hR => ?_)
  have hr : vp_in x 8 := in_nI hx hn (by decide)
  have hc : x.toNatClampNeg = n := nI_cl hx (by omega)
  have hq : vp_in y 8 := in_nI hy hm (by decide)
  have hd : y.toNatClampNeg = m := nI_cl hy (by omega)
  have h1 : i.toNatClampNeg = a := nI_cl hi (by omega)
  have h2 : j.toNatClampNeg = b := nI_cl hj (by omega)
  have h3 : k.toNatClampNeg = c := nI_cl hk (by omega)
  refine V_aload_n (pc := 0) hG (dk dd_X5_move 0 rfl) rfl ?_
  refine V_getR (pc := 1) hG (dk dd_X5_move 1 rfl) fl_X5_13 sh_1 rfl ?_
  refine V_iload_n (pc := 4) hG (dk dd_X5_move 2 rfl) rfl ?_
  refine V_ald3 (pc := 5) hG (dk dd_X5_move 3 rfl) sh_2 hr (rs8 hc hn) ?_
  refine V_iload_n (pc := 6) hG (dk dd_X5_move 4 rfl) rfl ?_
  refine V_aload_n (pc := 7) hG (dk dd_X5_move 5 rfl) rfl ?_
  refine V_getR (pc := 8) hG (dk dd_X5_move 6 rfl) fl_X5_13 sh_1 rfl ?_
  refine V_iload_n (pc := 11) hG (dk dd_X5_move 7 rfl) rfl ?_
  refine V_ald3 (pc := 12) hG (dk dd_X5_move 8 rfl) sh_2 hq (rs8 hd hm) ?_
  refine V_iload (pc := 13) hG (dk dd_X5_move 9 rfl) rfl ?_
  refine V_iload (pc := 15) hG (dk dd_X5_move 10 rfl) rfl ?_
  -- arraycopy
  refine V_acopy (pc := 17) hG (dk dd_X5_move 11 rfl) ml_X5_33 (itS hn) (itS hm) (by rw [hi]; exact nI_pos (by omega)) (by rw [hj]; exact nI_pos (by omega)) (by rw [hk]; exact nI_pos (by omega)) (by rw [h1, h3]; exact ha) (by rw [h2, h3]; exact hb) rfl ?_
  refine V_vretP (pc := 20) hG (dk dd_X5_move 12 rfl) hR (Pv.mk ?_)
  rotate_left
  -- leaves: return@20
  · rw [h1, h2, h3]
def hmN (μ : Mem) (a : Nat) : Nat → Nat
  | 0 => 0
  | n + 1 => hmN μ a n + (if μ a n = -1 then 0 else 1)
theorem hmN_le (μ : Mem) (a : Nat) : ∀ n, hmN μ a n ≤ n
  | 0 => Nat.le_refl _
  | n + 1 => by have := hmN_le μ a n; show hmN μ a n + _ ≤ _; split <;> omega
theorem c_howMany {μ : Mem} : CtP yX5_howMany cX5_howMany 3 (some .int) 1 [vR 1] μ (Pi (fun r μ' => μ' = μ ∧ r = nI (hmN μ 11 8))) := by
  refine CtP.go RX5 rfl pn_X5 (Nat.le_of_ble_eq_true rfl) (fun C hG hR => ?_)
  have loop : ∀ k n, n + k = 8 → V C 4 [(0, vR 1), (1, vI (nI (hmN μ 11 n))), (2, vI (nI n))] [] μ := by
    intro k
    induction k with
    | zero =>
      intro n hn
      refine V_iload_n (pc := 4) hG (dk dd_X5_howMany 4 rfl) rfl ?_
      refine V_bipush (pc := 5) hG (dk dd_X5_howMany 5 rfl) (v := 8) (by decide) ?_
      refine V_icmp_ge (pc := 7) hG (dk dd_X5_howMany 6 rfl) (tgt := 32) (by decide) (fun h7 => ?_) (fun h7 => ?_)
      refine V_iload_n (pc := 32) hG (dk dd_X5_howMany 19 rfl) rfl ?_
      refine V_iretP (pc := 33) hG (dk dd_X5_howMany 20 rfl) hR (Pi.mk ?_)
      rotate_left
      rotate_left
      -- leaves: return@33; stop 10
      · exact ⟨rfl, by rw [show n = 8 by omega]⟩
      · exfalso; have := nle_i (a := 8) h7 (by omega) (by omega); omega
    | succ k ih =>
      intro n hn
      have hI := ih (n + 1) (by omega)
      rw [nI_succ, show hmN μ 11 (n + 1) = hmN μ 11 n + (if μ 11 n = -1 then 0 else 1) from rfl] at hI
      refine V_iload_n (pc := 4) hG (dk dd_X5_howMany 4 rfl) rfl ?_
      refine V_bipush (pc := 5) hG (dk dd_X5_howMany 5 rfl) (v := 8) (by decide) ?_
      refine V_icmp_ge (pc := 7) hG (dk dd_X5_howMany 6 rfl) (tgt := 32) (by decide) (fun h7 => ?_) (fun h7 => ?_)
      rotate_left
      refine V_iload_n (pc := 10) hG (dk dd_X5_howMany 7 rfl) rfl ?_
      refine V_aload_n (pc := 11) hG (dk dd_X5_howMany 8 rfl) rfl ?_
      refine V_iload_n (pc := 12) hG (dk dd_X5_howMany 9 rfl) rfl ?_
      refine V_callVip (pc := 13) hG (dk dd_X5_howMany 10 rfl) ml_X5_23 mo_X5_isMissing sh_1 rfl (c_isMissing (n := n) rfl (by omega)) (by decide) (by decide) rfl rfl rfl (fun x13 m13 p13 => ?_)
      refine V_if_eq (pc := 16) hG (dk dd_X5_howMany 11 rfl) (tgt := 23) (by decide) (fun h16 => ?_) (fun h16 => ?_)
      refine V_iconst (pc := 23) hG (dk dd_X5_howMany 14 rfl) (v := 1) (by decide) ?_
      refine V_iadd (pc := 24) hG (dk dd_X5_howMany 15 rfl) ?_
      refine V_istore_n (pc := 25) hG (dk dd_X5_howMany 16 rfl) (by decide) (lv' := [(0, _), (1, _), (2, _)]) rfl ?_
      refine V_iinc (pc := 26) hG (dk dd_X5_howMany 17 rfl) rfl (v := _ + 1) rfl (by decide) (lv' := [(0, _), (1, _), (2, _)]) rfl ?_
      refine V_goto (pc := 29) hG (dk dd_X5_howMany 18 rfl) (tgt := 4) (by decide) ?_
      rotate_left
      refine V_iconst (pc := 19) hG (dk dd_X5_howMany 12 rfl) (v := 0) (by decide) ?_
      refine V_goto (pc := 20) hG (dk dd_X5_howMany 13 rfl) (tgt := 24) (by decide) ?_
      refine V_iadd (pc := 24) hG (dk dd_X5_howMany 15 rfl) ?_
      refine V_istore_n (pc := 25) hG (dk dd_X5_howMany 16 rfl) (by decide) (lv' := [(0, _), (1, _), (2, _)]) rfl ?_
      refine V_iinc (pc := 26) hG (dk dd_X5_howMany 17 rfl) rfl (v := _ + 1) rfl (by decide) (lv' := [(0, _), (1, _), (2, _)]) rfl ?_
      refine V_goto (pc := 29) hG (dk dd_X5_howMany 18 rfl) (tgt := 4) (by decide) ?_
      rotate_left
      -- leaves: stop 32; stop 4; stop 4
      · exfalso; have := le_i (a := 8) h7 (by omega) (by omega); omega
      · obtain ⟨rfl, p13⟩ := p13
        rw [if_neg (p13.no h16), nI_succ] at hI; exact hI
      · obtain ⟨rfl, p13⟩ := p13
        rw [if_pos (p13.yes h16), Nat.add_zero] at hI; rw [Int32.add_zero]; exact hI
  refine V_iconst (pc := 0) hG (dk dd_X5_howMany 0 rfl) (v := 0) (by decide) ?_
  refine V_istore_n (pc := 1) hG (dk dd_X5_howMany 1 rfl) (by decide) (lv' := [(0, _), (1, _)]) rfl ?_
  refine V_iconst (pc := 2) hG (dk dd_X5_howMany 2 rfl) (v := 0) (by decide) ?_
  refine V_istore_n (pc := 3) hG (dk dd_X5_howMany 3 rfl) (by decide) (lv' := [(0, _), (1, _), (2, _)]) rfl ?_
  rotate_left
  -- leaves: stop 4
  · exact loop 8 0 (by omega)
theorem c_tadd {μ : Mem} {x : Int32} {n : Nat} (hn : μ 13 1 = nI n) (h : n < 120) : CtP yX6_add cX6_add 2 (some .int) 0 [vR 13, vI x] μ (Pi (fun r μ' => μ' = setc (setc μ 14 (upd (μ 14) n x)) 13 (upd (μ 13) 1 (nI (n + 1))) ∧ r = nI (n + 1))) := by
  refine CtP.go RX6 rfl pn_X6 (Nat.le_of_ble_eq_true rfl) (fun C hG hR => ?_)
  refine V_aload_n (pc := 0) hG (dk dd_X6_add 0 rfl) rfl ?_
  refine V_getR (pc := 1) hG (dk dd_X6_add 1 rfl) fl_X6_9 sh_13 rfl ?_
  refine V_aload_n (pc := 4) hG (dk dd_X6_add 2 rfl) rfl ?_
  refine V_getI (pc := 5) hG (dk dd_X6_add 3 rfl) fl_X6_13 sh_13 rfl ?_
  refine V_iload_n (pc := 8) hG (dk dd_X6_add 4 rfl) rfl ?_
  refine V_iast (pc := 9) hG (dk dd_X6_add 5 rfl) sh_14 (by rw [hn]; exact vp_in_nI h (by decide)) ?_
  refine V_aload_n (pc := 10) hG (dk dd_X6_add 6 rfl) rfl ?_
  refine V_dup (pc := 11) hG (dk dd_X6_add 7 rfl) rfl ?_
  refine V_getI (pc := 12) hG (dk dd_X6_add 8 rfl) fl_X6_13 sh_13 rfl ?_
  refine V_iconst (pc := 15) hG (dk dd_X6_add 9 rfl) (v := 1) (by decide) ?_
  refine V_iadd (pc := 16) hG (dk dd_X6_add 10 rfl) ?_
  refine V_putI (pc := 17) hG (dk dd_X6_add 11 rfl) fl_X6_13 sh_13 rfl rfl ?_
  refine V_aload_n (pc := 20) hG (dk dd_X6_add 12 rfl) rfl ?_
  refine V_getI (pc := 21) hG (dk dd_X6_add 13 rfl) fl_X6_13 sh_13 rfl ?_
  refine V_iretP (pc := 24) hG (dk dd_X6_add 14 rfl) hR (Pi.mk ?_)
  rotate_left
  -- leaves: return@24
  · refine ⟨?_, ?_⟩ <;> simp (disch := omega) only [setc_s, setc_n, hn, nI_clamp (show n < 2 ^ 31 by omega), nI_1, pk_us]
theorem c_tat {μ : Mem} {x : Int32} {n p : Nat} (hn : μ 13 1 = nI n) (h : n ≤ 120) (hx : x = nI p) (hp : p < 1000) : CtP yX6_at cX6_at 2 (some .int) 0 [vR 13, vI x] μ (Pi (fun r μ' => μ' = μ ∧ r = (if p < n then μ 14 p else -1))) := by
  refine CtP.go RX6 rfl pn_X6 (Nat.le_of_ble_eq_true rfl) (fun C hG hR => ?_)
  refine V_iload_n (pc := 0) hG (dk dd_X6_at 0 rfl) rfl ?_
  refine V_if_lt (pc := 1) hG (dk dd_X6_at 1 rfl) (tgt := 21) (by decide) (fun h1 => ?_) (fun h1 => ?_)
  refine V_iconst (pc := 21) hG (dk dd_X6_at 11 rfl) (v := -1) (by decide) ?_
  refine V_iretP (pc := 22) hG (dk dd_X6_at 12 rfl) hR (Pi.mk ?_)
  rotate_left
  refine V_iload_n (pc := 4) hG (dk dd_X6_at 2 rfl) rfl ?_
  refine V_aload_n (pc := 5) hG (dk dd_X6_at 3 rfl) rfl ?_
  refine V_getI (pc := 6) hG (dk dd_X6_at 4 rfl) fl_X6_13 sh_13 rfl ?_
  refine V_icmp_ge (pc := 9) hG (dk dd_X6_at 5 rfl) (tgt := 21) (by decide) (fun h9 => ?_) (fun h9 => ?_)
  refine V_iconst (pc := 21) hG (dk dd_X6_at 11 rfl) (v := -1) (by decide) ?_
  refine V_iretP (pc := 22) hG (dk dd_X6_at 12 rfl) hR (Pi.mk ?_)
  rotate_left
  refine V_aload_n (pc := 12) hG (dk dd_X6_at 6 rfl) rfl ?_
  refine V_getR (pc := 13) hG (dk dd_X6_at 7 rfl) fl_X6_9 sh_13 rfl ?_
  refine V_iload_n (pc := 16) hG (dk dd_X6_at 8 rfl) rfl ?_
  refine V_iald (pc := 17) hG (dk dd_X6_at 9 rfl) sh_14 (by rw [hn, hx] at h9; rw [hx]; exact vp_in_nI (by have := nle_i h9 (by omega) (by omega); omega) (by decide)) ?_
  refine V_goto (pc := 18) hG (dk dd_X6_at 10 rfl) (tgt := 22) (by decide) ?_
  refine V_iretP (pc := 22) hG (dk dd_X6_at 12 rfl) hR (Pi.mk ?_)
  rotate_left
  -- leaves: return@22; return@22; return@22
  · exfalso; rw [hx] at h1; exact nI_pos (by omega) h1
  · rw [hn, hx] at h9; have := le_i h9 (by omega) (by omega); exact ⟨rfl, (if_neg (by omega)).symm⟩
  · rw [hn, hx] at h9; have := nle_i h9 (by omega) (by omega); exact ⟨rfl, by rw [if_pos (by omega), nI_cl hx (by omega)]⟩
def isFig (μ : Mem) (n p : Nat) : Prop := p < n ∧ 48 ≤ μ 14 p ∧ μ 14 p ≤ 57
theorem c_isFigure {μ : Mem} {x : Int32} {n p : Nat} (hn : μ 13 1 = nI n) (h : n ≤ 120) (hx : x = nI p) (hp : p < 1000) : CtP yX6_isFigure cX6_isFigure 2 (some .boolean) 0 [vR 13, vI x] μ (Pi (fun r μ' => μ' = μ ∧ is1 r (isFig μ n p))) := by
  refine CtP.go RX6 rfl pn_X6 (Nat.le_of_ble_eq_true rfl) (fun C hG hR => ?_)
  have hc : x.toNatClampNeg = p := nI_cl hx (by omega)
  refine V_iload_n (pc := 0) hG (dk dd_X6_isFigure 0 rfl) rfl ?_
  refine V_if_lt (pc := 1) hG (dk dd_X6_isFigure 1 rfl) (tgt := 38) (by decide) (fun h1 => ?_) (fun h1 => ?_)
  refine V_iconst (pc := 38) hG (dk dd_X6_isFigure 20 rfl) (v := 0) (by decide) ?_
  refine V_zretP (pc := 39) hG (dk dd_X6_isFigure 21 rfl) (by decide) hR (Pi.mk ?_)
  rotate_left
  refine V_iload_n (pc := 4) hG (dk dd_X6_isFigure 2 rfl) rfl ?_
  refine V_aload_n (pc := 5) hG (dk dd_X6_isFigure 3 rfl) rfl ?_
  refine V_getI (pc := 6) hG (dk dd_X6_isFigure 4 rfl) fl_X6_13 sh_13 rfl ?_
  refine V_icmp_ge (pc := 9) hG (dk dd_X6_isFigure 5 rfl) (tgt := 38) (by decide) (fun h9 => ?_) (fun h9 => ?_)
  refine V_iconst (pc := 38) hG (dk dd_X6_isFigure 20 rfl) (v := 0) (by decide) ?_
  refine V_zretP (pc := 39) hG (dk dd_X6_isFigure 21 rfl) (by decide) hR (Pi.mk ?_)
  rotate_left
  refine V_aload_n (pc := 12) hG (dk dd_X6_isFigure 6 rfl) rfl ?_
  refine V_getR (pc := 13) hG (dk dd_X6_isFigure 7 rfl) fl_X6_9 sh_13 rfl ?_
  refine V_iload_n (pc := 16) hG (dk dd_X6_isFigure 8 rfl) rfl ?_
  refine V_iald (pc := 17) hG (dk dd_X6_isFigure 9 rfl) sh_14 (by rw [hn, hx] at h9; rw [hx]; exact vp_in_nI (by have := nle_i h9 (by omega) (by omega); omega) (by decide)) ?_
  refine V_bipush (pc := 18) hG (dk dd_X6_isFigure 10 rfl) (v := 48) (by decide) ?_
  refine V_icmp_lt (pc := 20) hG (dk dd_X6_isFigure 11 rfl) (tgt := 38) (by decide) (fun h20 => ?_) (fun h20 => ?_)
  refine V_iconst (pc := 38) hG (dk dd_X6_isFigure 20 rfl) (v := 0) (by decide) ?_
  refine V_zretP (pc := 39) hG (dk dd_X6_isFigure 21 rfl) (by decide) hR (Pi.mk ?_)
  rotate_left
  refine V_aload_n (pc := 23) hG (dk dd_X6_isFigure 12 rfl) rfl ?_
  refine V_getR (pc := 24) hG (dk dd_X6_isFigure 13 rfl) fl_X6_9 sh_13 rfl ?_
  refine V_iload_n (pc := 27) hG (dk dd_X6_isFigure 14 rfl) rfl ?_
  refine V_iald (pc := 28) hG (dk dd_X6_isFigure 15 rfl) sh_14 (by rw [hn, hx] at h9; rw [hx]; exact vp_in_nI (by have := nle_i h9 (by omega) (by omega); omega) (by decide)) ?_
  refine V_bipush (pc := 29) hG (dk dd_X6_isFigure 16 rfl) (v := 57) (by decide) ?_
  refine V_icmp_gt (pc := 31) hG (dk dd_X6_isFigure 17 rfl) (tgt := 38) (by decide) (fun h31 => ?_) (fun h31 => ?_)
  refine V_iconst (pc := 38) hG (dk dd_X6_isFigure 20 rfl) (v := 0) (by decide) ?_
  refine V_zretP (pc := 39) hG (dk dd_X6_isFigure 21 rfl) (by decide) hR (Pi.mk ?_)
  rotate_left
  refine V_iconst (pc := 34) hG (dk dd_X6_isFigure 18 rfl) (v := 1) (by decide) ?_
  refine V_goto (pc := 35) hG (dk dd_X6_isFigure 19 rfl) (tgt := 39) (by decide) ?_
  refine V_zretP (pc := 39) hG (dk dd_X6_isFigure 21 rfl) (by decide) hR (Pi.mk ?_)
  rotate_left
  -- leaves: return@39; return@39; return@39; return@39; return@39
  · exfalso; rw [hx] at h1; exact nI_pos (by omega) h1
  · rw [hn, hx] at h9; have := le_i h9 (by omega) (by omega); exact ⟨rfl, is1.f (fun q => by have := q.1; omega)⟩
  · rw [hc] at h20; exact ⟨rfl, is1.f (fun q => by have := q.2.1; clear hG hR; grind)⟩
  · rw [hc] at h31; exact ⟨rfl, is1.f (fun q => by have := q.2.2; clear hG hR; grind)⟩
  · rw [hc] at h20 h31; rw [hn, hx] at h9; have h9' := nle_i h9 (by omega) (by omega); exact ⟨rfl, is1.t ⟨h9', by clear hG hR; grind, by clear hG hR; grind⟩⟩
theorem c_tclear {μ : Mem} : CtP yX6_clear cX6_clear 1 none 0 [vR 13] μ (Pv (fun μ' => μ' = setc μ 13 (upd (μ 13) 1 0))) := by
  refine CtP.go RX6 rfl pn_X6 (Nat.le_of_ble_eq_true rfl) (fun C hG hR => ?_)
  refine V_aload_n (pc := 0) hG (dk dd_X6_clear 0 rfl) rfl ?_
  refine V_iconst (pc := 1) hG (dk dd_X6_clear 1 rfl) (v := 0) (by decide) ?_
  refine V_putI (pc := 2) hG (dk dd_X6_clear 2 rfl) fl_X6_13 sh_13 rfl rfl ?_
  refine V_vretP (pc := 5) hG (dk dd_X6_clear 3 rfl) hR (Pv.mk ?_)
  rotate_left
  -- leaves: return@5
  · rfl
theorem c_aclear {μ : Mem} : CtP yX0_clear cX0_clear 1 none 0 [vR 32] μ (Pv (fun μ' => μ' = setc μ 32 (upd (upd (μ 32) 1 0) 2 0))) := by
  refine CtP.go RX0 rfl pn_X0 (Nat.le_of_ble_eq_true rfl) (fun C hG hR => ?_)
  refine V_aload_n (pc := 0) hG (dk dd_X0_clear 0 rfl) rfl ?_
  refine V_iconst (pc := 1) hG (dk dd_X0_clear 1 rfl) (v := 0) (by decide) ?_
  refine V_putI (pc := 2) hG (dk dd_X0_clear 2 rfl) fl_X0_15 sh_32 rfl rfl ?_
  refine V_aload_n (pc := 5) hG (dk dd_X0_clear 3 rfl) rfl ?_
  refine V_iconst (pc := 6) hG (dk dd_X0_clear 4 rfl) (v := 0) (by decide) ?_
  refine V_putI (pc := 7) hG (dk dd_X0_clear 5 rfl) fl_X0_23 sh_32 rfl rfl ?_
  refine V_vretP (pc := 10) hG (dk dd_X0_clear 6 rfl) hR (Pv.mk ?_)
  rotate_left
  -- leaves: return@10
  · simp only [setc_s, setc_c]
