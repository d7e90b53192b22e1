def cz : Al := fun _ _ => 0
def rd1 (τ : Nat → Nat) (n : Nat) : Rd := lawS τ n ((0, 0), cz)
def rd2 (τ : Nat → Nat) (n : Nat) : Rd := drmS τ n (rd1 τ n)
def rd3 (τ : Nat → Nat) (n : Nat) : Rd := hmsS τ n (rd2 τ n)
def rd4 (τ : Nat → Nat) (n : Nat) : Rd := cslS τ n 120 (rd3 τ n)
/-- a text, read -/
def allS (τ : Nat → Nat) (n : Nat) : Rd := if (rd4 τ n).1.2 = 0 ∧ (rd4 τ n).1.1 < n then (((rd4 τ n).1.1, 1), (rd4 τ n).2) else rd4 τ n
theorem rd1_e (τ : Nat → Nat) (n : Nat) : rd1 τ n = lawS τ n ((0, 0), cz) := rfl
theorem rd2_e (τ : Nat → Nat) (n : Nat) : rd2 τ n = drmS τ n (rd1 τ n) := rfl
theorem rd3_e (τ : Nat → Nat) (n : Nat) : rd3 τ n = hmsS τ n (rd2 τ n) := rfl
theorem rd4_e (τ : Nat → Nat) (n : Nat) : rd4 τ n = cslS τ n 120 (rd3 τ n) := rfl
theorem rd1_f (τ : Nat → Nat) (n : Nat) : (rd1 τ n).2 0 0 ≤ 8 ∧ ((rd1 τ n).1.2 = 0 → 3 ≤ (rd1 τ n).2 0 0) ∧ (rd1 τ n).2 0 6 = 0 ∧ (rd1 τ n).2 0 7 = 0 ∧ ∀ c, (rd1 τ n).2 7 c = 0 := by
  unfold rd1 lawS
  dsimp only
  refine ⟨?_, fun h => ?_, ?_, ?_, fun c => ?_⟩
  · rw [updA_n (by omega), updA_n (by omega), updA_s]; exact numS_le _ _ _ _ _
  · rw [updA_n (by omega), updA_n (by omega), updA_s]; exact (numS_ge (pasS_0 (numS_ge (pasS_0 (numS_ge (pasS_0 h)).2)).2)).1
  · rw [updA_n (by omega), updA_n (by omega), updA_n (by omega)]; rfl
  · rw [updA_n (by omega), updA_n (by omega), updA_n (by omega)]; rfl
  · rw [updA_n (by omega), updA_n (by omega), updA_n (by omega)]; rfl
theorem rd2_f (τ : Nat → Nat) (n : Nat) : (rd2 τ n).2 0 0 ≤ 8 ∧ ((rd2 τ n).1.2 = 0 → 3 ≤ (rd2 τ n).2 0 0) ∧ (rd2 τ n).2 0 6 = 0 ∧ (rd2 τ n).2 0 7 = 0 ∧ ∀ c, (rd2 τ n).2 7 c = 0 := by
  obtain ⟨a, b, c, d, e⟩ := rd1_f τ n
  rw [rd2_e]
  exact ⟨by rw [drmS_n τ n _ (by omega)]; exact a, fun h => by rw [drmS_n τ n _ (by omega)]; exact b (drmS_0 h), by rw [drmS_n τ n _ (by omega)]; exact c, by rw [drmS_n τ n _ (by omega)]; exact d, fun k => by rw [drmS_n τ n _ (by omega)]; exact e k⟩
theorem rd3_f (τ : Nat → Nat) (n : Nat) : (rd3 τ n).2 0 0 ≤ 8 ∧ ((rd3 τ n).1.2 = 0 → 3 ≤ (rd3 τ n).2 0 0 ∧ 1 ≤ (rd3 τ n).2 0 6) ∧ (rd3 τ n).2 0 6 ≤ 6 ∧ (rd3 τ n).2 0 7 = 0 ∧ ∀ c, (rd3 τ n).2 7 c = 0 := by
  obtain ⟨a, b, c, d, e⟩ := rd2_f τ n
  have hn : ∀ {x i : Nat}, ((x = 0 ∧ i ≠ 6) ∨ 4 ≤ x) → (rd3 τ n).2 x i = (rd2 τ n).2 x i := fun h => by rw [rd3_e]; unfold hmsS; rw [hmlS_n τ n 120 _ h]
  refine ⟨by rw [hn (by omega)]; exact a, fun h => ?_, ?_, by rw [hn (by omega)]; exact d, fun k => by rw [hn (by omega)]; exact e k⟩
  · rw [rd3_e] at h
    obtain ⟨h1, h2⟩ := hmsS_1 (τ := τ) (n := n) (q := rd2 τ n) c h
    rw [← rd3_e] at h1
    exact ⟨by rw [hn (by omega)]; exact b h2, h1⟩
  · rw [rd3_e]; unfold hmsS; exact (hmlS_6 τ n 120 _ (by dsimp only; omega)).2
theorem cu_law {μ : Mem} {τ : Nat → Nat} {n : Nat} {q u : Rd} (hu : u = lawS τ n q) (hs : RdS μ τ n q.1) (hD : DrS μ q.2) : CtP yX4_readLaw cX4_readLaw 1 none 3 [vR 31] μ (Pv (fun μ' => RdS μ' τ n u.1 ∧ DrS μ' u.2 ∧ OffD μ μ')) := by
  rw [hu]; exact c_readLaw hs hD
theorem cu_dream {μ : Mem} {τ : Nat → Nat} {n : Nat} {q u : Rd} (hu : u = drmS τ n q) (hs : RdS μ τ n q.1) (hD : DrS μ q.2) (h0 : q.1.2 = 0 → 1 ≤ q.2 0 0) (h8 : q.2 0 0 ≤ 8) : CtP yX4_readDream cX4_readDream 2 none 3 [vR 31] μ (Pv (fun μ' => RdS μ' τ n u.1 ∧ DrS μ' u.2 ∧ OffD μ μ')) := by
  rw [hu]; exact c_readDream hs hD h0 h8
theorem cu_hums {μ : Mem} {τ : Nat → Nat} {n : Nat} {q u : Rd} (hu : u = hmsS τ n q) (hs : RdS μ τ n q.1) (hD : DrS μ q.2) (h0 : q.1.2 = 0 → 1 ≤ q.2 0 0) (h8 : q.2 0 0 ≤ 8) (h6 : q.2 0 6 = 0) (h5 : q.2 0 7 ≤ 5) : CtP yX4_readHums cX4_readHums 2 none 4 [vR 31] μ (Pv (fun μ' => RdS μ' τ n u.1 ∧ DrS μ' u.2 ∧ OffD μ μ')) := by
  rw [hu]; exact c_readHums hs hD h0 h8 h6 h5
theorem cu_cases {μ : Mem} {τ : Nat → Nat} {n : Nat} {q u : Rd} (hu : u = cslS τ n 120 q) (hs : RdS μ τ n q.1) (hD : DrS μ q.2) (h0 : q.1.2 = 0 → 1 ≤ q.2 0 0) (h8 : q.2 0 0 ≤ 8) (h1 : q.1.2 = 0 → 1 ≤ q.2 0 6) (h6 : q.2 0 6 ≤ 6) (h5 : q.2 0 7 ≤ 5) (h7 : ∀ c, q.2 7 c = 0) : CtP yX4_readCases cX4_readCases 2 none 4 [vR 31] μ (Pv (fun μ' => RdS μ' τ n u.1 ∧ DrS μ' u.2 ∧ OffD μ μ')) := by
  rw [hu]; exact c_readCases hs hD h0 h8 h1 h6 h5 h7
theorem c_readAll {μ : Mem} {τ : Nat → Nat} {n : Nat} (hT : Tp μ τ n) : CtP yX4_readAll cX4_readAll 1 none 5 [vR 31] μ (Pv (fun μ' => RdS μ' τ n (allS τ n).1 ∧ DrS μ' (allS τ n).2 ∧ OffD μ μ')) := by
  refine CtP.go RX4 rfl pn_X4 (Nat.le_of_ble_eq_true rfl) (fun C hG hR => ?_)
  obtain ⟨a1, a2, a3, a4, a5⟩ := rd1_f τ n
  obtain ⟨b1, b2, b3, b4, b5⟩ := rd2_f τ n
  obtain ⟨c1, c2, c3, c4, c5⟩ := rd3_f τ n
  have st : ∀ m14 : Mem, (∀ a, (a < 23 ∨ 30 < a) → m14 a = (setc (setc μ 31 (upd (μ 31) 2 0)) 31 (upd (setc μ 31 (upd (μ 31) 2 0) 31) 3 0)) a) → RdS m14 τ n (0, 0) := fun m14 h => ⟨hT.off (by rw [h 13 (by omega)]; simp (disch := omega) only [setc_n]) (by rw [h 14 (by omega)]; simp (disch := omega) only [setc_n]), by rw [h 31 (by omega), setc_s, pk_un (by decide), setc_s, pk_us]; rfl, by rw [h 31 (by omega), setc_s, pk_us]; rfl, Nat.zero_le n, Nat.zero_le 3⟩
  refine V_aload_n (pc := 0) hG (dk dd_X4_readAll 0 rfl) rfl ?_
  refine V_iconst (pc := 1) hG (dk dd_X4_readAll 1 rfl) (v := 0) (by decide) ?_
  refine V_putI (pc := 2) hG (dk dd_X4_readAll 2 rfl) fl_X4_19 sh_31 rfl rfl ?_
  refine V_aload_n (pc := 5) hG (dk dd_X4_readAll 3 rfl) rfl ?_
  refine V_iconst (pc := 6) hG (dk dd_X4_readAll 4 rfl) (v := 0) (by decide) ?_
  refine V_putI (pc := 7) hG (dk dd_X4_readAll 5 rfl) fl_X4_23 sh_31 rfl rfl ?_
  refine V_aload_n (pc := 10) hG (dk dd_X4_readAll 6 rfl) rfl ?_
  refine V_getR (pc := 11) hG (dk dd_X4_readAll 7 rfl) fl_X4_15 sh_31 rfl ?_
  refine V_callVvp (pc := 14) hG (dk dd_X4_readAll 8 rfl) ml_X4_26 mo_X2_clear sh_23 rfl c_cclear (by decide) (by decide) rfl rfl rfl (fun m14 p14 => ?_)
  refine V_aload_n (pc := 17) hG (dk dd_X4_readAll 9 rfl) rfl ?_
  refine V_callVvp (pc := 18) hG (dk dd_X4_readAll 10 rfl) ml_X4_31 mo_X4_readLaw sh_31 rfl (cu_law (rd1_e τ n) (st m14 p14.2) p14.1) (by decide) (by decide) rfl rfl rfl (fun m18 p18 => ?_)
  refine V_aload_n (pc := 21) hG (dk dd_X4_readAll 11 rfl) rfl ?_
  refine V_callVvp (pc := 22) hG (dk dd_X4_readAll 12 rfl) ml_X4_34 mo_X4_readDream sh_31 rfl (cu_dream (rd2_e τ n) p18.1 p18.2.1 (fun z => by have := a2 z; omega) a1) (by decide) (by decide) rfl rfl rfl (fun m22 p22 => ?_)
  refine V_aload_n (pc := 25) hG (dk dd_X4_readAll 13 rfl) rfl ?_
  refine V_callVvp (pc := 26) hG (dk dd_X4_readAll 14 rfl) ml_X4_37 mo_X4_readHums sh_31 rfl (cu_hums (rd3_e τ n) p22.1 p22.2.1 (fun z => by have := b2 z; omega) b1 b3 (by omega)) (by decide) (by decide) rfl rfl rfl (fun m26 p26 => ?_)
  refine V_aload_n (pc := 29) hG (dk dd_X4_readAll 15 rfl) rfl ?_
  refine V_callVvp (pc := 30) hG (dk dd_X4_readAll 16 rfl) ml_X4_40 mo_X4_readCases sh_31 rfl (cu_cases (rd4_e τ n) p26.1 p26.2.1 (fun z => by have := (c2 z).1; omega) c1 (fun z => (c2 z).2) c3 (by omega) c5) (by decide) (by decide) rfl rfl rfl (fun m30 p30 => ?_)
  refine V_aload_n (pc := 33) hG (dk dd_X4_readAll 17 rfl) rfl ?_
  refine V_getI (pc := 34) hG (dk dd_X4_readAll 18 rfl) fl_X4_23 sh_31 rfl ?_
  refine V_if_ne (pc := 37) hG (dk dd_X4_readAll 19 rfl) (tgt := 59) (by decide) (fun h37 => ?_) (fun h37 => ?_)
  refine V_vretP (pc := 59) hG (dk dd_X4_readAll 29 rfl) hR (Pv.mk ?_)
  rotate_left
  refine V_aload_n (pc := 40) hG (dk dd_X4_readAll 20 rfl) rfl ?_
  refine V_getI (pc := 41) hG (dk dd_X4_readAll 21 rfl) fl_X4_19 sh_31 rfl ?_
  refine V_aload_n (pc := 44) hG (dk dd_X4_readAll 22 rfl) rfl ?_
  refine V_getR (pc := 45) hG (dk dd_X4_readAll 23 rfl) fl_X4_9 sh_31 rfl ?_
  refine V_getI (pc := 48) hG (dk dd_X4_readAll 24 rfl) fl_X4_43 sh_13 rfl ?_
  refine V_icmp_ge (pc := 51) hG (dk dd_X4_readAll 25 rfl) (tgt := 59) (by decide) (fun h51 => ?_) (fun h51 => ?_)
  refine V_vretP (pc := 59) hG (dk dd_X4_readAll 29 rfl) hR (Pv.mk ?_)
  rotate_left
  refine V_aload_n (pc := 54) hG (dk dd_X4_readAll 26 rfl) rfl ?_
  refine V_iconst (pc := 55) hG (dk dd_X4_readAll 27 rfl) (v := 1) (by decide) ?_
  refine V_putI (pc := 56) hG (dk dd_X4_readAll 28 rfl) fl_X4_23 sh_31 rfl rfl ?_
  refine V_vretP (pc := 59) hG (dk dd_X4_readAll 29 rfl) hR (Pv.mk ?_)
  rotate_left
  -- leaves: return@59; return@59; return@59
  all_goals (have off : OffD μ m30 := (fun a ha => by rw [p30.2.2 a ha, p26.2.2 a ha, p22.2.2 a ha, p18.2.2 a ha, p14.2 a (by omega)]; simp (disch := omega) only [setc_n]))
  all_goals (have hs : RdS m30 τ n (rd4 τ n).1 := p30.1; have hd : DrS m30 (rd4 τ n).2 := p30.2.1)
  · unfold allS; rw [if_neg (fun z => h37 (hs.f0.mpr z.1))]; exact ⟨hs, hd, off⟩
  · rw [hs.1.1, hs.2.1] at h51
    have hn := hs.1.2.1
    have hp := hs.2.2.2.1
    have := le_i h51 (by omega) (by omega)
    unfold allS; rw [if_neg (fun z => by omega)]; exact ⟨hs, hd, off⟩
  · rw [hs.1.1, hs.2.1] at h51
    have hn := hs.1.2.1
    have hp := hs.2.2.2.1
    have := nle_i h51 (by omega) (by omega)
    unfold allS; rw [if_pos ⟨hs.f0.mp h37, this⟩]
    clear p30 p26 p22 p18 c2 b2 a2 c1 b1 a1
    generalize rd4 τ n = r4 at hs hd hp this ⊢
    have h1 : setc m30 31 (upd (m30 31) 3 1) 31 2 = nI r4.1.1 := by rw [setc_s, pk_un (by decide)]; exact hs.2.1
    have h2 : setc m30 31 (upd (m30 31) 3 1) 31 3 = nI 1 := by rw [setc_s, pk_us]; rfl
    exact ⟨⟨hs.1.off (setc_n (by decide)) (setc_n (by decide)), h1, h2, hp, (by decide : 1 ≤ 3)⟩, hd.off (fun a ha => setc_n ha), fun a ha => by rw [setc_n (by omega)]; exact off a ha⟩
