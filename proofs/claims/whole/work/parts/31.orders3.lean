def opnN (α : Al) : Nat := thoN α 0 (α 0 7)
def ordA (α : Al) : List (List Nat) := ordM (α 0 7) (bitsN (opnN α)) (opnN α)
theorem opn_lt {α : Al} (hv : Val α) : opnN α < 32 := Nat.lt_of_lt_of_le (thoN_lt α 0 (α 0 7)) (Nat.pow_le_pow_right (n := 2) (by decide) (show α 0 7 ≤ 5 from hv.C))
theorem q_b5 : ∀ l, l < 32 → bitsN l ≤ 5 := by decide +kernel
theorem c_tryAll {μ : Mem} {α : Al} (hA : Abs (kac μ 15) α) (hv : Val α) :
    CtP yX3_tryAll cX3_tryAll 2 none 10 [vR 58] μ (Pv (fun μ' => OrdS μ' α (bitsN (opnN α)) (ordA α) ∧ ∀ q, (q < 58 ∨ 61 < q) → μ' q = μ q)) := by
  refine CtP.go RX3 rfl pn_X3 (Nat.le_of_ble_eq_true rfl) (fun C hG hR => ?_)
  have ho := opn_lt hv
  have hn := q_b5 _ ho
  have e3 : μ 15 3 = nI (α 0 3) := hA.1 3 (by decide)
  have hO0 : ∀ f : Nat → Int32, (∀ i, i < 5 → f i = -1) → OrdS (setc (setc (setc (setc μ 58 (upd (μ 58) 4 (nI (bitsN (opnN α))))) 58 (upd (setc μ 58 (upd (μ 58) 4 (nI (bitsN (opnN α)))) 58) 5 (-1))) 58 (upd (setc (setc μ 58 (upd (μ 58) 4 (nI (bitsN (opnN α))))) 58 (upd (setc μ 58 (upd (μ 58) 4 (nI (bitsN (opnN α)))) 58) 5 (-1)) 58) 6 0)) 61 f) α (bitsN (opnN α)) [] := by
    intro f hf
    refine ⟨?_, ?_, fun c hc => Or.inl ⟨by rw [setc_s]; exact hf c hc, fun x ⟨p, h, _⟩ => absurd h List.not_mem_nil⟩⟩
    · rw [setc_n (by decide), setc_s, pk_un (by decide), setc_s, pk_un (by decide), setc_s, pk_us]
    · show setc _ 61 f 58 5 = -1
      rw [setc_n (by decide), setc_s, pk_un (by decide), setc_s, pk_us]
  refine V_aload_n (pc := 0) hG (dk dd_X3_tryAll 0 rfl) rfl ?_
  refine V_getR (pc := 1) hG (dk dd_X3_tryAll 1 rfl) fl_X3_21 sh_58 rfl ?_
  refine V_iconst (pc := 4) hG (dk dd_X3_tryAll 2 rfl) (v := 0) (by decide) ?_
  refine V_callVi (pc := 5) hG (dk dd_X3_tryAll 3 rfl) ml_X3_25 mo_X2_casesThatAre sh_15 rfl (c_casesThatAre co_now hA hv.C (fun c hc => (hv.c hc).2.2.2) (w := 0) rfl (by decide)) (by decide) (by decide) rfl rfl rfl ?_
  refine V_istore_n (pc := 8) hG (dk dd_X3_tryAll 4 rfl) (by decide) (lv' := [(0, _), (1, _)]) rfl ?_
  refine V_aload_n (pc := 9) hG (dk dd_X3_tryAll 5 rfl) rfl ?_
  refine V_iload_n (pc := 10) hG (dk dd_X3_tryAll 6 rfl) rfl ?_
  refine V_callSi (pc := 11) hG (dk dd_X3_tryAll 7 rfl) ml_X3_31 mo_J6_bitCount_0f7a4 (c_bits (D := opnN α) rfl (by omega)) (by decide) (by decide) rfl rfl rfl ?_
  refine V_putI (pc := 14) hG (dk dd_X3_tryAll 8 rfl) fl_X3_36 sh_58 rfl rfl ?_
  refine V_aload_n (pc := 17) hG (dk dd_X3_tryAll 9 rfl) rfl ?_
  refine V_iconst (pc := 18) hG (dk dd_X3_tryAll 10 rfl) (v := -1) (by decide) ?_
  refine V_putI (pc := 19) hG (dk dd_X3_tryAll 11 rfl) fl_X3_40 sh_58 rfl rfl ?_
  refine V_aload_n (pc := 22) hG (dk dd_X3_tryAll 12 rfl) rfl ?_
  refine V_iconst (pc := 23) hG (dk dd_X3_tryAll 13 rfl) (v := 0) (by decide) ?_
  refine V_putI (pc := 24) hG (dk dd_X3_tryAll 14 rfl) fl_X3_43 sh_58 rfl rfl ?_
  refine V_aload_n (pc := 27) hG (dk dd_X3_tryAll 15 rfl) rfl ?_
  refine V_getR (pc := 28) hG (dk dd_X3_tryAll 16 rfl) fl_X3_18 sh_58 rfl ?_
  refine V_iconst (pc := 31) hG (dk dd_X3_tryAll 17 rfl) (v := -1) (by decide) ?_
  refine V_callSvp (pc := 32) hG (dk dd_X3_tryAll 18 rfl) ml_X3_46 mo_J7_fill_53178 (c_fill sh_61 (by decide)) (by decide) (by decide) rfl rfl rfl (fun m32 p32 => ?_)
  refine V_aload_n (pc := 35) hG (dk dd_X3_tryAll 19 rfl) rfl ?_
  refine V_iconst (pc := 36) hG (dk dd_X3_tryAll 20 rfl) (v := 0) (by decide) ?_
  refine V_iload_n (pc := 37) hG (dk dd_X3_tryAll 21 rfl) rfl ?_
  refine V_aload_n (pc := 38) hG (dk dd_X3_tryAll 22 rfl) rfl ?_
  refine V_getR (pc := 39) hG (dk dd_X3_tryAll 23 rfl) fl_X3_21 sh_58 rfl ?_
  refine V_getI (pc := 42) hG (dk dd_X3_tryAll 24 rfl) fl_X3_52 sh_15 rfl ?_
  refine V_iconst (pc := 45) hG (dk dd_X3_tryAll 25 rfl) (v := 0) (by decide) ?_
  refine V_iconst (pc := 46) hG (dk dd_X3_tryAll 26 rfl) (v := 0) (by decide) ?_
  refine V_callVvp (pc := 47) hG (dk dd_X3_tryAll 27 rfl) ml_X3_55 mo_X3_tryBehind sh_58 rfl ((c_tryBehind hv hn (bitsN (opnN α)) (pre := []) (L := []) (left := opnN α) ?_ ?_ (fun q hq => absurd hq List.not_mem_nil) (by simp) (fun c hc => absurd hc List.not_mem_nil) (fun j hj => absurd hj (Nat.not_lt_zero j)) ho rfl rfl rfl ?_ rfl rfl).deeper (show 4 + bitsN (opnN α) ≤ 9 by omega)) (by decide) (by decide) rfl rfl rfl (fun m47 p47 => ?_)
  rotate_left
  rotate_left
  rotate_left
  refine V_vretP (pc := 50) hG (dk dd_X3_tryAll 28 rfl) hR (Pv.mk ?_)
  rotate_left
  -- leaves: call tryBehind@47 0; call tryBehind@47 1; call tryBehind@47 2; return@50
  · obtain ⟨f, rfl, hf⟩ := p32
    exact hA.off (fun x hx => by simp (disch := omega) only [setc_n])
  · obtain ⟨f, rfl, hf⟩ := p32
    exact hO0 f hf
  · obtain ⟨f, rfl, hf⟩ := p32
    simp (disch := omega) only [setc_n]; exact e3
  · obtain ⟨f, rfl, hf⟩ := p32
    obtain ⟨q1, _, q3⟩ := p47
    refine ⟨?_, fun q hq => by rw [q3 q hq]; simp (disch := omega) only [setc_n]⟩
    rw [List.nil_append, show ((ordM (α 0 7) (bitsN (opnN α)) (opnN α)).map ([] ++ ·)) = ordA α by unfold ordA; simp] at q1
    exact q1
/-- the open case by which, heard first, most are free -/
def FirQ (α : Al) (L : List (List Nat)) (r : Int32) : Prop :=
  (∃ c x, c < α 0 7 ∧ ByF α (α 0 3) L c x ∧ r = nI c ∧ ∀ c' y, c' < α 0 7 → ByF α (α 0 3) L c' y → y ≤ x ∧ (c' < c → y < x)) ∨ ((∀ c x, c < α 0 7 → ¬ ByF α (α 0 3) L c x) ∧ r = -1000000)
theorem FirQ.uniq {α : Al} {L : List (List Nat)} {r r' : Int32} (h : FirQ α L r) (h' : FirQ α L r') : r = r' := by
  rcases h with ⟨c, x, h1, h2, h3, h4⟩ | ⟨h1, h2⟩ <;> rcases h' with ⟨d, y, g1, g2, g3, g4⟩ | ⟨g1, g2⟩
  · have a := h4 d y g1 g2
    have b := g4 c x h1 h2
    rw [h3, g3, show c = d by omega]
  · exact absurd h2 (g1 c x h1)
  · exact absurd g2 (h1 d y g1)
  · rw [h2, g2]
theorem c_bestToBegin {μ : Mem} {α : Al} (hA : Abs (kac μ 15) α) (hv : Val α) {n : Nat} {L : List (List Nat)} (hO : OrdS μ α n L) (hn : n ≤ 5) (hL : ∀ q, q ∈ L → q.length = n) :
    CtP yX3_bestToBegin cX3_bestToBegin 4 (some .int) 0 [vR 58] μ (Pi (fun r μ' => μ' = μ ∧ FirQ α L r)) := by
  refine CtP.go RX3 rfl pn_X3 (Nat.le_of_ble_eq_true rfl) (fun C hG hR => ?_)
  have e7 : μ 15 7 = nI (α 0 7) := hA.1 7 (by decide)
  have hC5 := hv.C
  have hM := hO.2.2
  have hb5 : ∀ c x, ByF α (α 0 3) L c x → x ≤ 5 := fun c x ⟨p, p1, _, p3⟩ => by have := frN_le α p (α 0 3); have := hL p p1; omega
  have loop : ∀ k i r m, i + k = α 0 7 → ((r = -1000000 ∧ m = -1 ∧ ∀ c x, c < i → ¬ ByF α (α 0 3) L c x) ∨ (∃ c x, c < i ∧ ByF α (α 0 3) L c x ∧ r = nI c ∧ m = nI x ∧ ∀ c' y, c' < i → ByF α (α 0 3) L c' y → y ≤ x ∧ (c' < c → y < x))) → V C 7 [(0, vR 58), (1, vI r), (2, vI m), (3, vI (nI i))] [] μ := by
    intro k
    induction k with
    | zero =>
      intro i r m hi hq
      refine V_iload_n (pc := 7) hG (dk dd_X3_bestToBegin 6 rfl) rfl ?_
      refine V_aload_n (pc := 8) hG (dk dd_X3_bestToBegin 7 rfl) rfl ?_
      refine V_getR (pc := 9) hG (dk dd_X3_bestToBegin 8 rfl) fl_X3_21 sh_58 rfl ?_
      refine V_getI (pc := 12) hG (dk dd_X3_bestToBegin 9 rfl) fl_X3_63 sh_15 rfl ?_
      refine V_icmp_ge (pc := 15) hG (dk dd_X3_bestToBegin 10 rfl) (tgt := 43) (by decide) (fun h15 => ?_) (fun h15 => ?_)
      refine V_iload_n (pc := 43) hG (dk dd_X3_bestToBegin 26 rfl) rfl ?_
      refine V_iretP (pc := 44) hG (dk dd_X3_bestToBegin 27 rfl) hR (Pi.mk ?_)
      rotate_left
      rotate_left
      -- leaves: return@44; stop 18
      · refine ⟨rfl, ?_⟩
        rw [show i = α 0 7 by omega] at hq
        rcases hq with ⟨q1, q2, q3⟩ | ⟨c, x, q1, q2, q3, q4, q5⟩
        · exact Or.inr ⟨fun c x hc => q3 c x hc, q1⟩
        · exact Or.inl ⟨c, x, q1, q2, q3, q5⟩
      · exfalso; rw [e7] at h15; have := nle_i h15 (by omega) (by omega); omega
    | succ k ih =>
      intro i r m hi hq
      have hr : vp_in (nI i) 5 := vp_in_nI (by omega) (by decide)
      have ci : (nI i).toNatClampNeg = i := nI_clamp (by omega)
      have hI := fun r m z => ih (i + 1) r m (by omega) z
      rw [nI_succ] at hI
      have hmi := hM i (by omega)
      have nle : m ≤ 5 ∧ -1 ≤ m := by
        rcases hq with ⟨_, q2, _⟩ | ⟨c, x, _, q2, _, q4, _⟩
        · rw [q2]; decide
        · have := hb5 c x q2
          rw [q4]; exact ⟨(nI_leI (b := 5) (by omega) (by decide)).mpr this, by have : (0 : Int32) ≤ nI x := nI_pos' (by omega); clear hG hR; grind⟩
      refine V_iload_n (pc := 7) hG (dk dd_X3_bestToBegin 6 rfl) rfl ?_
      refine V_aload_n (pc := 8) hG (dk dd_X3_bestToBegin 7 rfl) rfl ?_
      refine V_getR (pc := 9) hG (dk dd_X3_bestToBegin 8 rfl) fl_X3_21 sh_58 rfl ?_
      refine V_getI (pc := 12) hG (dk dd_X3_bestToBegin 9 rfl) fl_X3_63 sh_15 rfl ?_
      refine V_icmp_ge (pc := 15) hG (dk dd_X3_bestToBegin 10 rfl) (tgt := 43) (by decide) (fun h15 => ?_) (fun h15 => ?_)
      rotate_left
      refine V_aload_n (pc := 18) hG (dk dd_X3_bestToBegin 11 rfl) rfl ?_
      refine V_getR (pc := 19) hG (dk dd_X3_bestToBegin 12 rfl) fl_X3_18 sh_58 rfl ?_
      refine V_iload_n (pc := 22) hG (dk dd_X3_bestToBegin 13 rfl) rfl ?_
      refine V_iald (pc := 23) hG (dk dd_X3_bestToBegin 14 rfl) sh_61 hr ?_
      refine V_iload_n (pc := 24) hG (dk dd_X3_bestToBegin 15 rfl) rfl ?_
      refine V_icmp_le (pc := 25) hG (dk dd_X3_bestToBegin 16 rfl) (tgt := 37) (by decide) (fun h25 => ?_) (fun h25 => ?_)
      refine V_iinc (pc := 37) hG (dk dd_X3_bestToBegin 24 rfl) rfl (v := _ + 1) rfl (by decide) (lv' := [(0, _), (1, _), (2, _), (3, _)]) rfl ?_
      refine V_goto (pc := 40) hG (dk dd_X3_bestToBegin 25 rfl) (tgt := 7) (by decide) ?_
      rotate_left
      refine V_iload_n (pc := 28) hG (dk dd_X3_bestToBegin 17 rfl) rfl ?_
      refine V_istore_n (pc := 29) hG (dk dd_X3_bestToBegin 18 rfl) (by decide) (lv' := [(0, _), (1, _), (2, _), (3, _)]) rfl ?_
      refine V_aload_n (pc := 30) hG (dk dd_X3_bestToBegin 19 rfl) rfl ?_
      refine V_getR (pc := 31) hG (dk dd_X3_bestToBegin 20 rfl) fl_X3_18 sh_58 rfl ?_
      refine V_iload_n (pc := 34) hG (dk dd_X3_bestToBegin 21 rfl) rfl ?_
      refine V_iald (pc := 35) hG (dk dd_X3_bestToBegin 22 rfl) sh_61 hr ?_
      refine V_istore_n (pc := 36) hG (dk dd_X3_bestToBegin 23 rfl) (by decide) (lv' := [(0, _), (1, _), (2, _), (3, _)]) rfl ?_
      refine V_iinc (pc := 37) hG (dk dd_X3_bestToBegin 24 rfl) rfl (v := _ + 1) rfl (by decide) (lv' := [(0, _), (1, _), (2, _), (3, _)]) rfl ?_
      refine V_goto (pc := 40) hG (dk dd_X3_bestToBegin 25 rfl) (tgt := 7) (by decide) ?_
      rotate_left
      -- leaves: stop 43; stop 7; stop 7
      · exfalso; rw [e7] at h15; have := le_i h15 (by omega) (by omega); omega
      · rw [ci] at h25
        refine hI r m ?_
        rcases hmi with ⟨z1, z2⟩ | ⟨y, z1, z2, z3⟩
        · rcases hq with ⟨q1, q2, q3⟩ | ⟨c, x, q1, q2, q3, q4, q5⟩
          · exact Or.inl ⟨q1, q2, fun c x hc => by
              by_cases e : c = i
              · subst e; exact z2 x
              · exact q3 c x (by omega)⟩
          · exact Or.inr ⟨c, x, by omega, q2, q3, q4, fun c' y hc' hy => by
              by_cases e : c' = i
              · subst e; exact absurd hy (z2 y)
              · exact q5 c' y (by omega) hy⟩
        · have hy5 := hb5 i y z1
          rcases hq with ⟨q1, q2, q3⟩ | ⟨c, x, q1, q2, q3, q4, q5⟩
          · exfalso; rw [z2, q2] at h25; have : (0 : Int32) ≤ nI y := nI_pos' (by omega); clear hG hR; grind
          · have hx5 := hb5 c x q2
            rw [z2, q4] at h25
            have hyx := le_i h25 (by omega) (by omega)
            exact Or.inr ⟨c, x, by omega, q2, q3, q4, fun c' y' hc' hy' => by
              by_cases e : c' = i
              · subst e; have := z3 y' hy'; exact ⟨by omega, fun w => by omega⟩
              · exact q5 c' y' (by omega) hy'⟩
      · rw [ci] at h25 ⊢
        refine hI (nI i) _ ?_
        rcases hmi with ⟨z1, z2⟩ | ⟨y, z1, z2, z3⟩
        · rw [z1] at h25; exfalso; clear hG hR; grind
        · have hy5 := hb5 i y z1
          refine Or.inr ⟨i, y, by omega, z1, rfl, z2, fun c' y' hc' hy' => ?_⟩
          by_cases e : c' = i
          · subst e; exact ⟨z3 y' hy', fun w => by omega⟩
          · rcases hq with ⟨q1, q2, q3⟩ | ⟨c, x, q1, q2, q3, q4, q5⟩
            · exact absurd hy' (q3 c' y' (by omega))
            · have hx5 := hb5 c x q2
              rw [z2, q4] at h25
              have hyx := nle_i h25 (by omega) (by omega)
              have := (q5 c' y' (by omega) hy').1
              exact ⟨by omega, fun _ => by omega⟩
  refine V_ldc (pc := 0) hG (dk dd_X3_bestToBegin 0 rfl) kk_X3_84 ?_
  refine V_istore_n (pc := 2) hG (dk dd_X3_bestToBegin 1 rfl) (by decide) (lv' := [(0, _), (1, _)]) rfl ?_
  refine V_iconst (pc := 3) hG (dk dd_X3_bestToBegin 2 rfl) (v := -1) (by decide) ?_
  refine V_istore_n (pc := 4) hG (dk dd_X3_bestToBegin 3 rfl) (by decide) (lv' := [(0, _), (1, _), (2, _)]) rfl ?_
  refine V_iconst (pc := 5) hG (dk dd_X3_bestToBegin 4 rfl) (v := 0) (by decide) ?_
  refine V_istore_n (pc := 6) hG (dk dd_X3_bestToBegin 5 rfl) (by decide) (lv' := [(0, _), (1, _), (2, _), (3, _)]) rfl ?_
  rotate_left
  -- leaves: stop 7
  · exact loop (α 0 7) 0 (-1000000) (-1) (by omega) (Or.inl ⟨rfl, rfl, fun c x hc => absurd hc (Nat.not_lt_zero c)⟩)
