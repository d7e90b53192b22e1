def cslS (τ : Nat → Nat) (n : Nat) : Nat → Rd → Rd
  | 0, q => q
  | k + 1, q => if nexS τ n 118 q.1 then (if q.2 0 7 = 5 then cslS τ n k (markS 3 q.1, q.2) else cslS τ n k (casS τ n q)) else q
theorem cslS_s (τ : Nat → Nat) (n k : Nat) (q : Rd) : cslS τ n (k + 1) q = if nexS τ n 118 q.1 then (if q.2 0 7 = 5 then cslS τ n k (markS 3 q.1, q.2) else cslS τ n k (casS τ n q)) else q := rfl
theorem casS_7 (τ : Nat → Nat) (n : Nat) (q : Rd) : (casS τ n q).2 0 7 = q.2 0 7 + 1 := by unfold casS; dsimp only; rw [updA_s]
theorem casS_n (τ : Nat → Nat) (n : Nat) (q : Rd) {x i : Nat} (hx : (x = 0 ∧ i ≠ 7) ∨ x = 1 ∨ x = 2 ∨ x = 3 ∨ x = 7) : (casS τ n q).2 x i = q.2 x i := by unfold casS; dsimp only; rw [updA_n (by omega), updA_n (by omega), updA_n (by omega), updA_n (by omega)]
theorem casS_0 {τ : Nat → Nat} {n : Nat} {q : Rd} (h : (casS τ n q).1.2 = 0) : q.1.2 = 0 := by
  unfold casS at h; dsimp only at h
  have h1 := pasS_0 h
  split at h1
  · cases h1
  · exact pasS_0 (numS_ge (pasS_0 (numS_ge (pasS_0 (numS_ge h1).2)).2)).2
theorem c_readCases {μ : Mem} {τ : Nat → Nat} {n : Nat} {q : Rd} (hs : RdS μ τ n q.1) (hD : DrS μ q.2) (h0 : q.1.2 = 0 → 1 ≤ q.2 0 0) (h8 : q.2 0 0 ≤ 8) (h1 : q.1.2 = 0 → 1 ≤ q.2 0 6) (h6 : q.2 0 6 ≤ 6) (h5 : q.2 0 7 ≤ 5) (h7 : ∀ c, q.2 7 c = 0) :
    CtP yX4_readCases cX4_readCases 2 none 4 [vR 31] μ (Pv (fun μ' => RdS μ' τ n (cslS τ n 120 q).1 ∧ DrS μ' (cslS τ n 120 q).2 ∧ OffD μ μ')) := by
  refine CtP.go RX4 rfl pn_X4 (Nat.le_of_ble_eq_true rfl) (fun C hG hR => ?_)
  have loop : ∀ k i μ1 (u : Rd), i + k = 120 → RdS μ1 τ n u.1 → DrS μ1 u.2 → OffD μ μ1 → u.2 0 0 = q.2 0 0 → u.2 0 6 = q.2 0 6 → u.2 0 7 ≤ 5 → (∀ c, u.2 7 c = 0) → cslS τ n k u = cslS τ n 120 q → (u.1.2 = 0 → q.1.2 = 0) → V C 2 [(0, vR 31), (1, vI (nI i))] [] μ1 := by
    intro k
    induction k with
    | zero =>
      intro i μ1 u hi f1 f2 f3 f4 f5 f6 fz f7 f8
      refine V_iload_n (pc := 2) hG (dk dd_X4_readCases 2 rfl) rfl ?_
      refine V_bipush (pc := 3) hG (dk dd_X4_readCases 3 rfl) (v := 120) (by decide) ?_
      refine V_icmp_ge (pc := 5) hG (dk dd_X4_readCases 4 rfl) (tgt := 46) (by decide) (fun hz5 => ?_) (fun hz5 => ?_)
      refine V_vretP (pc := 46) hG (dk dd_X4_readCases 22 rfl) hR (Pv.mk ?_)
      rotate_left
      rotate_left
      -- leaves: return@46; stop 8
      · rw [← f7]; exact ⟨f1, f2, f3⟩
      · exfalso; have := nle_i (a := 120) hz5 (by omega) (by omega); omega
    | succ k ih =>
      intro i μ1 u hi f1 f2 f3 f4 f5 f6 fz f7 f8
      rw [cslS_s] at f7
      have e7 : μ1 23 7 = nI (u.2 0 7) := f2.1.1 7 (by decide)
      refine V_iload_n (pc := 2) hG (dk dd_X4_readCases 2 rfl) rfl ?_
      refine V_bipush (pc := 3) hG (dk dd_X4_readCases 3 rfl) (v := 120) (by decide) ?_
      refine V_icmp_ge (pc := 5) hG (dk dd_X4_readCases 4 rfl) (tgt := 46) (by decide) (fun hz5 => ?_) (fun hz5 => ?_)
      refine V_vretP (pc := 46) hG (dk dd_X4_readCases 22 rfl) hR (Pv.mk ?_)
      rotate_left
      refine V_aload_n (pc := 8) hG (dk dd_X4_readCases 5 rfl) rfl ?_
      refine V_bipush (pc := 9) hG (dk dd_X4_readCases 6 rfl) (v := 118) (by decide) ?_
      refine V_callVip (pc := 11) hG (dk dd_X4_readCases 7 rfl) ml_X4_72 mo_X4_isNext sh_31 rfl (c_isNext f1 (c := 118) rfl (by decide)) (by decide) (by decide) rfl rfl rfl (fun x11 m11 p11 => ?_)
      refine V_if_eq (pc := 14) hG (dk dd_X4_readCases 8 rfl) (tgt := 46) (by decide) (fun hz14 => ?_) (fun hz14 => ?_)
      refine V_vretP (pc := 46) hG (dk dd_X4_readCases 22 rfl) hR (Pv.mk ?_)
      rotate_left
      refine V_aload_n (pc := 17) hG (dk dd_X4_readCases 9 rfl) rfl ?_
      refine V_getR (pc := 18) hG (dk dd_X4_readCases 10 rfl) fl_X4_15 sh_31 rfl ?_
      refine V_getI (pc := 21) hG (dk dd_X4_readCases 11 rfl) fl_X4_98 sh_23 rfl ?_
      refine V_iconst (pc := 24) hG (dk dd_X4_readCases 12 rfl) (v := 5) (by decide) ?_
      refine V_icmp_ne (pc := 25) hG (dk dd_X4_readCases 13 rfl) (tgt := 36) (by decide) (fun hz25 => ?_) (fun hz25 => ?_)
      refine V_aload_n (pc := 36) hG (dk dd_X4_readCases 18 rfl) rfl ?_
      refine V_callVvp (pc := 37) hG (dk dd_X4_readCases 19 rfl) ml_X4_101 mo_X4_readCase sh_31 rfl (c_readCase (p11.1 ▸ f1) (p11.1 ▸ f2) ?_ (by rw [f4]; exact h8) ?_ (by rw [f5]; exact h6) ?_ fz) (by decide) (by decide) rfl rfl rfl (fun m37 p37 => ?_)
      rotate_left
      rotate_left
      rotate_left
      refine V_iinc (pc := 40) hG (dk dd_X4_readCases 20 rfl) rfl (v := _ + 1) rfl (by decide) (lv' := [(0, _), (1, _)]) rfl ?_
      refine V_goto (pc := 43) hG (dk dd_X4_readCases 21 rfl) (tgt := 2) (by decide) ?_
      rotate_left
      refine V_aload_n (pc := 28) hG (dk dd_X4_readCases 14 rfl) rfl ?_
      refine V_iconst (pc := 29) hG (dk dd_X4_readCases 15 rfl) (v := 3) (by decide) ?_
      refine V_callVvp (pc := 30) hG (dk dd_X4_readCases 16 rfl) ml_X4_79 mo_X4_mark sh_31 rfl (c_mark (p11.1 ▸ f1) (k := 3) rfl (by decide)) (by decide) (by decide) rfl rfl rfl (fun m30 p30 => ?_)
      refine V_goto (pc := 33) hG (dk dd_X4_readCases 17 rfl) (tgt := 40) (by decide) ?_
      refine V_iinc (pc := 40) hG (dk dd_X4_readCases 20 rfl) rfl (v := _ + 1) rfl (by decide) (lv' := [(0, _), (1, _)]) rfl ?_
      refine V_goto (pc := 43) hG (dk dd_X4_readCases 21 rfl) (tgt := 2) (by decide) ?_
      rotate_left
      -- leaves: return@46; return@46; call readCase@37 0; call readCase@37 1; call readCase@37 2; stop 2; stop 2
      · exfalso; have := le_i (a := 120) hz5 (by omega) (by omega); omega
      · obtain ⟨rfl, p11⟩ := p11
        rw [if_neg (p11.no hz14)] at f7
        rw [← f7]; exact ⟨f1, f2, f3⟩
      · rw [f4]; exact h0 (f8 (p11.2.yes hz14).1)
      · rw [f5]; exact h1 (f8 (p11.2.yes hz14).1)
      · obtain ⟨rfl, p11⟩ := p11
        rw [e7] at hz25
        exact Nat.lt_of_le_of_ne f6 (fun z => hz25 (by rw [z]; rfl))
      · obtain ⟨rfl, p11⟩ := p11
        rw [e7] at hz25
        have hne : ¬ u.2 0 7 = 5 := fun z => hz25 (by rw [z]; rfl)
        rw [if_pos (p11.yes hz14), if_neg hne] at f7
        have hI := ih (i + 1) m37 (casS τ n u) (by omega) p37.1 p37.2.1 (f3.tr p37.2.2) (by rw [casS_n τ n u (by omega)]; exact f4) (by rw [casS_n τ n u (by omega)]; exact f5) (by rw [casS_7]; omega) (fun c => by rw [casS_n τ n u (by omega)]; exact fz c) f7 (fun z => f8 (casS_0 z))
        rw [nI_succ] at hI
        exact hI
      · obtain ⟨rfl, p11⟩ := p11
        rw [e7] at hz25
        rw [if_pos (p11.yes hz14), if_pos ((nI_eq (b := 5) (by omega) (by decide)).mp hz25)] at f7
        have hI := ih (i + 1) m30 (markS 3 u.1, u.2) (by omega) p30.1 (f2.off p30.2) (f3.tr p30.2.d) f4 f5 f6 fz f7 (fun z => absurd z (fun w => markS_0 (by decide) w))
        rw [nI_succ] at hI
        exact hI
  refine V_iconst (pc := 0) hG (dk dd_X4_readCases 0 rfl) (v := 0) (by decide) ?_
  refine V_istore_n (pc := 1) hG (dk dd_X4_readCases 1 rfl) (by decide) (lv' := [(0, _), (1, _)]) rfl ?_
  rotate_left
  -- leaves: stop 2
  · exact loop 120 0 μ q (by omega) hs hD (fun _ _ => rfl) rfl rfl h5 h7 rfl id
set_option maxHeartbeats 1000000 in
theorem c_cclear {μ : Mem} : CtP yX2_clear cX2_clear 1 none 1 [vR 23] μ (Pv (fun μ' => DrS μ' (fun _ _ => 0) ∧ ∀ a, (a < 23 ∨ 30 < a) → μ' a = μ a)) := by
  refine CtP.go RX2 rfl pn_X2 (Nat.le_of_ble_eq_true rfl) (fun C hG hR => ?_)
  refine V_aload_n (pc := 0) hG (dk dd_X2_clear 0 rfl) rfl ?_
  refine V_iconst (pc := 1) hG (dk dd_X2_clear 1 rfl) (v := 0) (by decide) ?_
  refine V_putI (pc := 2) hG (dk dd_X2_clear 2 rfl) fl_X2_33 sh_23 rfl rfl ?_
  refine V_aload_n (pc := 5) hG (dk dd_X2_clear 3 rfl) rfl ?_
  refine V_iconst (pc := 6) hG (dk dd_X2_clear 4 rfl) (v := 0) (by decide) ?_
  refine V_putI (pc := 7) hG (dk dd_X2_clear 5 rfl) fl_X2_37 sh_23 rfl rfl ?_
  refine V_aload_n (pc := 10) hG (dk dd_X2_clear 6 rfl) rfl ?_
  refine V_iconst (pc := 11) hG (dk dd_X2_clear 7 rfl) (v := 0) (by decide) ?_
  refine V_putI (pc := 12) hG (dk dd_X2_clear 8 rfl) fl_X2_40 sh_23 rfl rfl ?_
  refine V_aload_n (pc := 15) hG (dk dd_X2_clear 9 rfl) rfl ?_
  refine V_iconst (pc := 16) hG (dk dd_X2_clear 10 rfl) (v := 0) (by decide) ?_
  refine V_putI (pc := 17) hG (dk dd_X2_clear 11 rfl) fl_X2_43 sh_23 rfl rfl ?_
  refine V_aload_n (pc := 20) hG (dk dd_X2_clear 12 rfl) rfl ?_
  refine V_iconst (pc := 21) hG (dk dd_X2_clear 13 rfl) (v := 0) (by decide) ?_
  refine V_putI (pc := 22) hG (dk dd_X2_clear 14 rfl) fl_X2_46 sh_23 rfl rfl ?_
  refine V_aload_n (pc := 25) hG (dk dd_X2_clear 15 rfl) rfl ?_
  refine V_iconst (pc := 26) hG (dk dd_X2_clear 16 rfl) (v := 0) (by decide) ?_
  refine V_putI (pc := 27) hG (dk dd_X2_clear 17 rfl) fl_X2_49 sh_23 rfl rfl ?_
  refine V_aload_n (pc := 30) hG (dk dd_X2_clear 18 rfl) rfl ?_
  refine V_iconst (pc := 31) hG (dk dd_X2_clear 19 rfl) (v := 0) (by decide) ?_
  refine V_putI (pc := 32) hG (dk dd_X2_clear 20 rfl) fl_X2_52 sh_23 rfl rfl ?_
  refine V_aload_n (pc := 35) hG (dk dd_X2_clear 21 rfl) rfl ?_
  refine V_iconst (pc := 36) hG (dk dd_X2_clear 22 rfl) (v := 0) (by decide) ?_
  refine V_putI (pc := 37) hG (dk dd_X2_clear 23 rfl) fl_X2_55 sh_23 rfl rfl ?_
  refine V_aload_n (pc := 40) hG (dk dd_X2_clear 24 rfl) rfl ?_
  refine V_getR (pc := 41) hG (dk dd_X2_clear 25 rfl) fl_X2_30 sh_23 rfl ?_
  refine V_iconst (pc := 44) hG (dk dd_X2_clear 26 rfl) (v := 0) (by decide) ?_
  refine V_callSvp (pc := 45) hG (dk dd_X2_clear 27 rfl) ml_X2_58 mo_J7_fill_53178 (c_fill sh_30 (by decide)) (by decide) (by decide) rfl rfl rfl (fun m45 p45 => ?_)
  refine V_vretP (pc := 48) hG (dk dd_X2_clear 28 rfl) hR (Pv.mk ?_)
  rotate_left
  -- leaves: return@48
  · obtain ⟨f, rfl, hf⟩ := p45
    refine ⟨⟨⟨fun i hi => ?_, fun x h _ _ h3 => absurd h3 (Nat.not_lt_zero h), fun x h _ _ h3 => absurd h3 (Nat.not_lt_zero h)⟩, fun c hc => by rw [setc_s]; exact hf c hc⟩, fun a ha => by simp (disch := omega) only [setc_n]⟩
    show setc _ 30 f 23 i = nI 0
    simp (disch := omega) only [setc_s, setc_n]
    rcases (show i = 0 ∨ i = 1 ∨ i = 2 ∨ i = 3 ∨ i = 4 ∨ i = 5 ∨ i = 6 ∨ i = 7 by omega) with rfl | rfl | rfl | rfl | rfl | rfl | rfl | rfl <;> rfl
/-! what reading keeps -/
theorem drlS_n (τ : Nat → Nat) (n : Nat) : ∀ k (q : Rd) {x i : Nat}, ¬ (x = 0 ∧ i = 3) → (drlS τ n k q).2 x i = q.2 x i
  | 0, _, _, _, _ => rfl
  | k + 1, q, x, i, h => by
    rw [drlS_s]
    split
    · rw [drlS_n τ n k _ h]; exact updA_n h
    · rfl
theorem drlS_0 (τ : Nat → Nat) (n : Nat) : ∀ k (q : Rd), (drlS τ n k q).1.2 = 0 → q.1.2 = 0
  | 0, _, h => h
  | k + 1, q, h => by
    rw [drlS_s] at h
    split at h
    · exact pasS_0 (numS_ge (drlS_0 τ n k _ h)).2
    · exact h
theorem drmS_n (τ : Nat → Nat) (n : Nat) (q : Rd) {x i : Nat} (h : ¬ (x = 0 ∧ i = 3)) : (drmS τ n q).2 x i = q.2 x i := by
  unfold drmS; dsimp only; rw [drlS_n τ n 120 _ h]; exact updA_n h
theorem drmS_0 {τ : Nat → Nat} {n : Nat} {q : Rd} (h : (drmS τ n q).1.2 = 0) : q.1.2 = 0 := by
  unfold drmS at h; dsimp only at h
  exact pasS_0 (numS_ge (drlS_0 τ n 120 _ (pasS_0 h))).2
theorem humS_0 {τ : Nat → Nat} {n : Nat} {q : Rd} (h : (humS τ n q).1.2 = 0) : q.1.2 = 0 := by
  unfold humS at h; dsimp only at h
  exact (numS_ge (pasS_0 (numS_ge (pasS_0 h)).2)).2
theorem hmlS_n (τ : Nat → Nat) (n : Nat) : ∀ k (q : Rd) {x i : Nat}, ((x = 0 ∧ i ≠ 6) ∨ 4 ≤ x) → (hmlS τ n k q).2 x i = q.2 x i
  | 0, _, _, _, _ => rfl
  | k + 1, q, x, i, h => by
    rw [hmlS_s]
    split
    · rfl
    · split
      · rw [hmlS_n τ n k _ h]
      · rw [hmlS_n τ n k _ h]; unfold humS; dsimp only; rw [updA_n (by omega), updA_n (by omega), updA_n (by omega), updA_n (by omega)]
theorem hmlS_0 (τ : Nat → Nat) (n : Nat) : ∀ k (q : Rd), (hmlS τ n k q).1.2 = 0 → q.1.2 = 0
  | 0, _, h => h
  | k + 1, q, h => by
    rw [hmlS_s] at h
    split at h
    · exact h
    · split at h
      · exact (markS_0 (by decide) (hmlS_0 τ n k _ h)).elim
      · exact humS_0 (hmlS_0 τ n k _ h)
theorem hmlS_6 (τ : Nat → Nat) (n : Nat) : ∀ k (q : Rd), q.2 0 6 ≤ 6 → q.2 0 6 ≤ (hmlS τ n k q).2 0 6 ∧ (hmlS τ n k q).2 0 6 ≤ 6
  | 0, _, h => ⟨Nat.le_refl _, h⟩
  | k + 1, q, h => by
    rw [hmlS_s]
    split
    · exact ⟨Nat.le_refl _, h⟩
    · split
      · exact hmlS_6 τ n k (markS 3 q.1, q.2) h
      · rename_i h2
        have := hmlS_6 τ n k (humS τ n q) (by rw [humS_6]; omega)
        rw [humS_6] at this
        omega
theorem hmsS_1 {τ : Nat → Nat} {n : Nat} {q : Rd} (h6 : q.2 0 6 = 0) (h : (hmsS τ n q).1.2 = 0) : 1 ≤ (hmsS τ n q).2 0 6 ∧ q.1.2 = 0 := by
  unfold hmsS at h ⊢
  by_cases e : kdS τ n q.1 = 0
  · rw [if_pos e] at h; exact (markS_0 (by decide) (hmlS_0 τ n 120 _ h)).elim
  · rw [if_neg e] at h ⊢
    refine ⟨?_, hmlS_0 τ n 120 _ h⟩
    rw [show (120 : Nat) = 119 + 1 from rfl, hmlS_s, if_neg e, if_neg (by dsimp only; omega)]
    have := hmlS_6 τ n 119 (humS τ n (q.1, q.2)) (by rw [humS_6]; dsimp only; omega)
    rw [humS_6] at this
    omega
