/-! ===== acts: the ring of 24 blocks ===== -/
def Ring (μ : Mem) (As : Nat → Al) (L nx : Nat) : Prop := μ 32 1 = nI nx ∧ nx < 24 ∧ μ 32 2 = nI L ∧ L ≤ 24 ∧ ∀ i, i < L → Blk (μ 33) (14 * ((nx + 23 - i) % 24)) (As i)
theorem Blk.of {f g : Nat → Int32} {o : Nat} {α : Al} (h : Blk f o α) (hH : α 0 6 ≤ 6) (hC : α 0 7 ≤ 5) (hq : ∀ q, o ≤ q → q < o + 14 → g q = f q) : Blk g o α := by
  obtain ⟨h1, h2, h3, h4, h5⟩ := h
  exact ⟨by rw [hq o (by omega) (by omega)]; exact h1, by rw [hq _ (by omega) (by omega)]; exact h2, by rw [hq _ (by omega) (by omega)]; exact h3, fun c hc => by rw [hq _ (by omega) (by omega)]; exact h4 c hc, fun c hc => by rw [hq _ (by omega) (by omega)]; exact h5 c hc⟩
def pushA (α : Al) (As : Nat → Al) : Nat → Al := fun i => if i = 0 then α else As (i - 1)
theorem c_keep {μ : Mem} {α : Al} {As : Nat → Al} {L nx : Nat} (hA : Abs (kac μ 15) α) (hH : α 0 6 ≤ 6) (hC : α 0 7 ≤ 5) (hR0 : Ring μ As L nx) (hAs : ∀ i, i < L → As i 0 6 ≤ 6 ∧ As i 0 7 ≤ 5) :
    CtP yX0_keep cX0_keep 2 none 1 [vR 32, vR 15] μ (Pv (fun μ' => Ring μ' (pushA α As) (min (L + 1) 24) ((nx + 1) % 24) ∧ ∀ a, a ≠ 32 → a ≠ 33 → μ' a = μ a)) := by
  refine CtP.go RX0 rfl pn_X0 (Nat.le_of_ble_eq_true rfl) (fun C hG hR => ?_)
  obtain ⟨r1, r2, r3, r4, r5⟩ := hR0
  have ho : μ 32 1 * 14 = nI (14 * nx) := by rw [r1, show (14 : Int32) = nI 14 from rfl, pk_mul, Nat.mul_comm]
  have hmin : (if (24 : Int32) < nI (L + 1) then (24 : Int32) else nI (L + 1)) = nI (min (L + 1) 24) := by
    by_cases q : L + 1 ≤ 24
    · rw [Nat.min_eq_left q, if_neg (fun z => by have := (nI_ltI (a := 24) (by decide) (by omega)).mp z; omega)]
    · rw [Nat.min_eq_right (by omega), if_pos (show (24 : Int32) < nI (L + 1) from (nI_ltI (a := 24) (b := L + 1) (by decide) (by omega)).mpr (by omega))]; rfl
  have fin : ∀ f nx', nx' = (nx + 1) % 24 → Blk f (14 * nx) α → (∀ q, (q < 14 * nx ∨ 14 * nx + 14 ≤ q) → f q = μ 33 q) → ∀ μ', μ' = setc (setc μ 33 f) 32 (upd (upd (μ 32) 1 (nI nx')) 2 (nI (min (L + 1) 24))) → Ring μ' (pushA α As) (min (L + 1) 24) ((nx + 1) % 24) ∧ ∀ a, a ≠ 32 → a ≠ 33 → μ' a = μ a := by
    intro f nx' hnx hB hf μ' hμ
    subst hμ
    refine ⟨⟨?_, Nat.mod_lt _ (by decide), ?_, Nat.min_le_right _ _, fun i hi => ?_⟩, fun a h1 h2 => by rw [setc_n h1, setc_n h2]⟩
    · rw [setc_s, pk_un (by decide), pk_us, hnx]
    · rw [setc_s, pk_us]
    · rw [setc_n (by decide), setc_s]
      have hi' : i < 24 ∧ i < L + 1 := by omega
      by_cases e : i = 0
      · subst e
        rw [show ((nx + 1) % 24 + 23 - 0) % 24 = nx by omega]
        exact hB
      · have e2 : ((nx + 1) % 24 + 23 - i) % 24 = (nx + 23 - (i - 1)) % 24 := by omega
        rw [e2]
        show Blk f _ (if i = 0 then α else As (i - 1))
        rw [if_neg e]
        have hb := r5 (i - 1) (by omega)
        exact hb.of (hAs (i - 1) (by omega)).1 (hAs (i - 1) (by omega)).2 (fun q q1 q2 => hf q (by omega))
  refine V_aload_n (pc := 0) hG (dk dd_X0_keep 0 rfl) rfl ?_
  refine V_aload_n (pc := 1) hG (dk dd_X0_keep 1 rfl) rfl ?_
  refine V_getR (pc := 2) hG (dk dd_X0_keep 2 rfl) fl_X0_11 sh_32 rfl ?_
  refine V_aload_n (pc := 5) hG (dk dd_X0_keep 3 rfl) rfl ?_
  refine V_getI (pc := 6) hG (dk dd_X0_keep 4 rfl) fl_X0_15 sh_32 rfl ?_
  refine V_bipush (pc := 9) hG (dk dd_X0_keep 5 rfl) (v := 14) (by decide) ?_
  refine V_imul (pc := 11) hG (dk dd_X0_keep 6 rfl) ?_
  refine V_callVvp (pc := 12) hG (dk dd_X0_keep 7 rfl) ml_X0_19 mo_X2_writeChanging sh_15 rfl (c_writeChanging hA hH hC ho (by omega)) (by decide) (by decide) rfl rfl rfl (fun m12 p12 => ?_)
  refine V_aload_n (pc := 15) hG (dk dd_X0_keep 8 rfl) rfl ?_
  refine V_aload_n (pc := 16) hG (dk dd_X0_keep 9 rfl) rfl ?_
  refine V_getI (pc := 17) hG (dk dd_X0_keep 10 rfl) fl_X0_15 sh_32 rfl ?_
  refine V_iconst (pc := 20) hG (dk dd_X0_keep 11 rfl) (v := 1) (by decide) ?_
  refine V_iadd (pc := 21) hG (dk dd_X0_keep 12 rfl) ?_
  refine V_bipush (pc := 22) hG (dk dd_X0_keep 13 rfl) (v := 24) (by decide) ?_
  refine V_icmp_ge (pc := 24) hG (dk dd_X0_keep 14 rfl) (tgt := 36) (by decide) (fun h24 => ?_) (fun h24 => ?_)
  refine V_iconst (pc := 36) hG (dk dd_X0_keep 20 rfl) (v := 0) (by decide) ?_
  refine V_putI (pc := 37) hG (dk dd_X0_keep 21 rfl) fl_X0_15 sh_32 rfl rfl ?_
  refine V_aload_n (pc := 40) hG (dk dd_X0_keep 22 rfl) rfl ?_
  refine V_aload_n (pc := 41) hG (dk dd_X0_keep 23 rfl) rfl ?_
  refine V_getI (pc := 42) hG (dk dd_X0_keep 24 rfl) fl_X0_23 sh_32 rfl ?_
  refine V_iconst (pc := 45) hG (dk dd_X0_keep 25 rfl) (v := 1) (by decide) ?_
  refine V_iadd (pc := 46) hG (dk dd_X0_keep 26 rfl) ?_
  refine V_bipush (pc := 47) hG (dk dd_X0_keep 27 rfl) (v := 24) (by decide) ?_
  refine V_mmin (pc := 49) hG (dk dd_X0_keep 28 rfl) ml_X0_26 rfl ?_
  refine V_putI (pc := 52) hG (dk dd_X0_keep 29 rfl) fl_X0_23 sh_32 rfl rfl ?_
  refine V_vretP (pc := 55) hG (dk dd_X0_keep 30 rfl) hR (Pv.mk ?_)
  rotate_left
  refine V_aload_n (pc := 27) hG (dk dd_X0_keep 15 rfl) rfl ?_
  refine V_getI (pc := 28) hG (dk dd_X0_keep 16 rfl) fl_X0_15 sh_32 rfl ?_
  refine V_iconst (pc := 31) hG (dk dd_X0_keep 17 rfl) (v := 1) (by decide) ?_
  refine V_iadd (pc := 32) hG (dk dd_X0_keep 18 rfl) ?_
  refine V_goto (pc := 33) hG (dk dd_X0_keep 19 rfl) (tgt := 37) (by decide) ?_
  refine V_putI (pc := 37) hG (dk dd_X0_keep 21 rfl) fl_X0_15 sh_32 rfl rfl ?_
  refine V_aload_n (pc := 40) hG (dk dd_X0_keep 22 rfl) rfl ?_
  refine V_aload_n (pc := 41) hG (dk dd_X0_keep 23 rfl) rfl ?_
  refine V_getI (pc := 42) hG (dk dd_X0_keep 24 rfl) fl_X0_23 sh_32 rfl ?_
  refine V_iconst (pc := 45) hG (dk dd_X0_keep 25 rfl) (v := 1) (by decide) ?_
  refine V_iadd (pc := 46) hG (dk dd_X0_keep 26 rfl) ?_
  refine V_bipush (pc := 47) hG (dk dd_X0_keep 27 rfl) (v := 24) (by decide) ?_
  refine V_mmin (pc := 49) hG (dk dd_X0_keep 28 rfl) ml_X0_26 rfl ?_
  refine V_putI (pc := 52) hG (dk dd_X0_keep 29 rfl) fl_X0_23 sh_32 rfl rfl ?_
  refine V_vretP (pc := 55) hG (dk dd_X0_keep 30 rfl) hR (Pv.mk ?_)
  rotate_left
  -- leaves: return@55; return@55
  · obtain ⟨f, rfl, hB, hf⟩ := p12
    simp (disch := omega) only [setc_s, setc_n, setc_c, r1, nI_1] at h24 ⊢
    have := le_i (a := 24) h24 (by omega) (by omega)
    refine fin f 0 (by omega) hB hf _ ?_
    rw [pk_un (by decide), r3, nI_1, hmin]; rfl
  · obtain ⟨f, rfl, hB, hf⟩ := p12
    simp (disch := omega) only [setc_s, setc_n, setc_c, r1, nI_1] at h24 ⊢
    have := nle_i (a := 24) h24 (by omega) (by omega)
    refine fin f (nx + 1) (by omega) hB hf _ ?_
    rw [pk_un (by decide), r3, nI_1, hmin]
theorem c_takeBack {μ : Mem} {α : Al} {As : Nat → Al} {L nx : Nat} (hA : Abs (kac μ 15) α) (hH : α 0 6 ≤ 6) (hC : α 0 7 ≤ 5) (hR0 : Ring μ As L nx) (hL : 0 < L) (hs : Sta α (As 0)) :
    CtP yX0_takeBack cX0_takeBack 2 (some .int) 1 [vR 32, vR 15] μ (Pi (fun r μ' => r = nI (L - 1) ∧ Abs (kac μ' 15) (As 0) ∧ Ring μ' (fun i => As (i + 1)) (L - 1) ((nx + 23) % 24) ∧ ∀ a, a ≠ 32 → (a < 15 ∨ 22 < a) → μ' a = μ a)) := by
  refine CtP.go RX0 rfl pn_X0 (Nat.le_of_ble_eq_true rfl) (fun C hG hR => ?_)
  obtain ⟨r1, r2, r3, r4, r5⟩ := hR0
  have rest : ∀ nx', nx' = (nx + 23) % 24 → V C 22 [(0, vR 32), (1, vR 15)] [] (setc μ 32 (upd (μ 32) 1 (nI nx'))) := by
    intro nx' hnx
    have hA2 : Abs (kac (setc μ 32 (upd (μ 32) 1 (nI nx'))) 15) α := by
      have e : ∀ x, x ≤ 7 → setc μ 32 (upd (μ 32) 1 (nI nx')) (15 + x) = μ (15 + x) := fun x hx => setc_n (by omega)
      exact ⟨fun i hi => by unfold kac; rw [e 0 (by decide)]; exact hA.1 i hi, fun x h a b c => by unfold kac; rw [e x (by omega)]; exact hA.2.1 x h a b c, fun x h a b c => by unfold kac; rw [e x (by omega)]; exact hA.2.2 x h a b c⟩
    have ho : setc μ 32 (upd (μ 32) 1 (nI nx')) 32 1 * 14 = nI (14 * nx') := by rw [setc_s, pk_us, show (14 : Int32) = nI 14 from rfl, pk_mul, Nat.mul_comm]
    have hB : Blk (setc μ 32 (upd (μ 32) 1 (nI nx')) 33) (14 * nx') (As 0) := by
      rw [setc_n (by decide), hnx]; exact r5 0 hL
    refine V_aload_n (pc := 22) hG (dk dd_X0_takeBack 11 rfl) rfl ?_
    refine V_aload_n (pc := 23) hG (dk dd_X0_takeBack 12 rfl) rfl ?_
    refine V_getR (pc := 24) hG (dk dd_X0_takeBack 13 rfl) fl_X0_11 sh_32 rfl ?_
    refine V_aload_n (pc := 27) hG (dk dd_X0_takeBack 14 rfl) rfl ?_
    refine V_getI (pc := 28) hG (dk dd_X0_takeBack 15 rfl) fl_X0_15 sh_32 rfl ?_
    refine V_bipush (pc := 31) hG (dk dd_X0_takeBack 16 rfl) (v := 14) (by decide) ?_
    refine V_imul (pc := 33) hG (dk dd_X0_takeBack 17 rfl) ?_
    refine V_callVvp (pc := 34) hG (dk dd_X0_takeBack 18 rfl) ml_X0_32 mo_X2_readChanging sh_15 rfl (c_readChanging hA2 hs hH hC ho (by omega) hB) (by decide) (by decide) rfl rfl rfl (fun m34 p34 => ?_)
    refine V_aload_n (pc := 37) hG (dk dd_X0_takeBack 19 rfl) rfl ?_
    refine V_dup (pc := 38) hG (dk dd_X0_takeBack 20 rfl) rfl ?_
    refine V_getI (pc := 39) hG (dk dd_X0_takeBack 21 rfl) fl_X0_23 sh_32 rfl ?_
    refine V_iconst (pc := 42) hG (dk dd_X0_takeBack 22 rfl) (v := 1) (by decide) ?_
    refine V_isub (pc := 43) hG (dk dd_X0_takeBack 23 rfl) ?_
    refine V_putI (pc := 44) hG (dk dd_X0_takeBack 24 rfl) fl_X0_23 sh_32 rfl rfl ?_
    refine V_aload_n (pc := 47) hG (dk dd_X0_takeBack 25 rfl) rfl ?_
    refine V_getI (pc := 48) hG (dk dd_X0_takeBack 26 rfl) fl_X0_23 sh_32 rfl ?_
    refine V_iretP (pc := 51) hG (dk dd_X0_takeBack 27 rfl) hR (Pi.mk ?_)
    rotate_left
    -- leaves: return@51
    · obtain ⟨q1, q2⟩ := p34
      have e32 : m34 32 = upd (μ 32) 1 (nI nx') := by rw [q2 32 (by omega), setc_s]
      have e33 : m34 33 = μ 33 := by rw [q2 33 (by omega), setc_n (by decide)]
      have eL : m34 32 2 - 1 = nI (L - 1) := by rw [e32, pk_un (by decide), r3, show (1 : Int32) = nI 1 from rfl, pk_sub hL]
      rw [setc_s, pk_us, eL]
      refine ⟨rfl, ?_, ⟨?_, Nat.mod_lt _ (by decide), ?_, by omega, fun i hi => ?_⟩, fun a h1 h2 => by rw [setc_n h1, q2 a h2, setc_n h1]⟩
      · have e : ∀ x, x ≤ 7 → setc m34 32 (upd (m34 32) 2 (nI (L - 1))) (15 + x) = m34 (15 + x) := fun x hx => setc_n (by omega)
        exact ⟨fun i hi => by unfold kac; rw [e 0 (by decide)]; exact q1.1 i hi, fun x h a b c => by unfold kac; rw [e x (by omega)]; exact q1.2.1 x h a b c, fun x h a b c => by unfold kac; rw [e x (by omega)]; exact q1.2.2 x h a b c⟩
      · rw [setc_s, pk_un (by decide), e32, pk_us, hnx]
      · rw [setc_s, pk_us]
      · rw [setc_n (by decide), e33, show ((nx + 23) % 24 + 23 - i) % 24 = (nx + 23 - (i + 1)) % 24 by omega]
        exact r5 (i + 1) (by omega)
  refine V_aload_n (pc := 0) hG (dk dd_X0_takeBack 0 rfl) rfl ?_
  refine V_aload_n (pc := 1) hG (dk dd_X0_takeBack 1 rfl) rfl ?_
  refine V_getI (pc := 2) hG (dk dd_X0_takeBack 2 rfl) fl_X0_15 sh_32 rfl ?_
  refine V_if_le (pc := 5) hG (dk dd_X0_takeBack 3 rfl) (tgt := 17) (by decide) (fun h5 => ?_) (fun h5 => ?_)
  refine V_bipush (pc := 17) hG (dk dd_X0_takeBack 9 rfl) (v := 23) (by decide) ?_
  refine V_putI (pc := 19) hG (dk dd_X0_takeBack 10 rfl) fl_X0_15 sh_32 rfl rfl ?_
  rotate_left
  refine V_aload_n (pc := 8) hG (dk dd_X0_takeBack 4 rfl) rfl ?_
  refine V_getI (pc := 9) hG (dk dd_X0_takeBack 5 rfl) fl_X0_15 sh_32 rfl ?_
  refine V_iconst (pc := 12) hG (dk dd_X0_takeBack 6 rfl) (v := 1) (by decide) ?_
  refine V_isub (pc := 13) hG (dk dd_X0_takeBack 7 rfl) ?_
  refine V_goto (pc := 14) hG (dk dd_X0_takeBack 8 rfl) (tgt := 19) (by decide) ?_
  refine V_putI (pc := 19) hG (dk dd_X0_takeBack 10 rfl) fl_X0_15 sh_32 rfl rfl ?_
  rotate_left
  -- leaves: stop 22; stop 22
  · rw [r1] at h5
    have := le_i (b := 0) h5 (by omega) (by omega)
    exact rest 23 (by omega)
  · rw [r1] at h5
    have := nle_i (b := 0) h5 (by omega) (by omega)
    rw [r1, show (1 : Int32) = nI 1 from rfl, pk_sub (by omega)]
    exact rest (nx - 1) (by omega)
