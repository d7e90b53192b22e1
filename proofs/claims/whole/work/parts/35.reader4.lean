/-! ===== reading: hums, cases, all ===== -/
def humS (τ : Nat → Nat) (n : Nat) (q : Rd) : Rd :=
  let a := thiS τ n q.2 (q.1.1 + 1, q.1.2)
  let b := thiS τ n q.2 (pasS τ n 44 a.2)
  (pasS τ n 59 b.2, updA (updA (updA (updA q.2 1 (q.2 0 6) (kdS τ n q.1)) 2 (q.2 0 6) a.1) 3 (q.2 0 6) b.1) 0 6 (q.2 0 6 + 1))
theorem kdS_le (τ : Nat → Nat) (n : Nat) (s : Pf) : kdS τ n s ≤ 5 := by
  unfold kdS kdC
  split
  · split; decide; split; decide; split; decide; split; decide; split <;> decide
  · decide
theorem kdS_0 {τ : Nat → Nat} {n : Nat} {s : Pf} (h : kdS τ n s ≠ 0) : s.2 = 0 ∧ s.1 < n := by
  unfold kdS at h
  by_cases q : s.2 = 0 ∧ s.1 < n
  · exact q
  · rw [if_neg q] at h; exact absurd rfl h
set_option maxHeartbeats 1000000 in
theorem c_readHum {μ : Mem} {τ : Nat → Nat} {n : Nat} {q : Rd} (hs : RdS μ τ n q.1) (hD : DrS μ q.2) (h0 : q.1.2 = 0 → 1 ≤ q.2 0 0) (h8 : q.2 0 0 ≤ 8) (hk : kdS τ n q.1 ≠ 0) (h6 : q.2 0 6 < 6) (h5 : q.2 0 7 ≤ 5) :
    CtP yX4_readHum cX4_readHum 2 none 3 [vR 31] μ (Pv (fun μ' => RdS μ' τ n (humS τ n q).1 ∧ DrS μ' (humS τ n q).2 ∧ OffD μ μ')) := by
  refine CtP.go RX4 rfl pn_X4 (Nat.le_of_ble_eq_true rfl) (fun C hG hR => ?_)
  obtain ⟨hf, hpn⟩ := kdS_0 hk
  have e6 : μ 23 6 = nI (q.2 0 6) := hD.1.1 6 (by decide)
  have hr : vp_in (μ 23 6) 6 := in_nI e6 h6 (by decide)
  have cr : (μ 23 6).toNatClampNeg = q.2 0 6 := nI_cl e6 (by omega)
  have e0 : μ 23 0 = nI (q.2 0 0) := hD.1.1 0 (by decide)
  have hn := hs.1.2.1
  -- the draft's scalars alone matter for what is read
  have drs : ∀ μ1 : Mem, μ1 23 = μ 23 → ∀ s, RdS μ1 τ n s → (s.2 = 0 → q.1.2 = 0) → CtP yX4_thing cX4_thing 1 (some .int) 2 [vR 31] μ1 (Pi (fun r μ' => r = nI (thiS τ n q.2 s).1 ∧ RdS μ' τ n (thiS τ n q.2 s).2 ∧ Off31 μ1 μ')) := by
    intro μ1 hm s hs1 _
    refine CtP.go RX4 rfl pn_X4 (Nat.le_of_ble_eq_true rfl) (fun C hG hR => ?_)
    refine V_aload_n (pc := 0) hG (dk dd_X4_thing 0 rfl) rfl ?_
    refine V_iconst (pc := 1) hG (dk dd_X4_thing 1 rfl) (v := 0) (by decide) ?_
    refine V_aload_n (pc := 2) hG (dk dd_X4_thing 2 rfl) rfl ?_
    refine V_getR (pc := 3) hG (dk dd_X4_thing 3 rfl) fl_X4_15 sh_31 rfl ?_
    refine V_getI (pc := 6) hG (dk dd_X4_thing 4 rfl) fl_X4_56 sh_23 rfl ?_
    refine V_iconst (pc := 9) hG (dk dd_X4_thing 5 rfl) (v := 1) (by decide) ?_
    refine V_isub (pc := 10) hG (dk dd_X4_thing 6 rfl) ?_
    refine V_callVip (pc := 11) hG (dk dd_X4_thing 7 rfl) ml_X4_52 mo_X4_number sh_31 rfl (c_number hs1 (lo := 0) (hi := q.2 0 0 - 1) rfl (by decide) (fun _ => by rw [hm, e0, show (1 : Int32) = nI 1 from rfl, pk_sub (h0 hf)]) (by omega)) (by decide) (by decide) rfl rfl rfl (fun x11 m11 p11 => ?_)
    refine V_iretP (pc := 14) hG (dk dd_X4_thing 8 rfl) hR (Pi.mk ?_)
    rotate_left
    -- leaves: return@14
    · exact p11
  have s1 : ∀ μ1 : Mem, RdS μ1 τ n q.1 → RdS (setc μ1 31 (upd (μ1 31) 2 (μ1 31 2 + 1))) τ n (q.1.1 + 1, q.1.2) := fun μ1 h => ⟨h.1.off (setc_n (by decide)) (setc_n (by decide)), by rw [setc_s, pk_us, h.2.1, nI_1], by rw [setc_s, pk_un (by decide)]; exact h.2.2.1, hpn, h.2.2.2.2⟩
  refine V_aload_n (pc := 0) hG (dk dd_X4_readHum 0 rfl) rfl ?_
  refine V_getR (pc := 1) hG (dk dd_X4_readHum 1 rfl) fl_X4_15 sh_31 rfl ?_
  refine V_getI (pc := 4) hG (dk dd_X4_readHum 2 rfl) fl_X4_82 sh_23 rfl ?_
  refine V_istore_n (pc := 7) hG (dk dd_X4_readHum 3 rfl) (by decide) (lv' := [(0, _), (1, _)]) rfl ?_
  refine V_aload_n (pc := 8) hG (dk dd_X4_readHum 4 rfl) rfl ?_
  refine V_getR (pc := 9) hG (dk dd_X4_readHum 5 rfl) fl_X4_15 sh_31 rfl ?_
  refine V_getR (pc := 12) hG (dk dd_X4_readHum 6 rfl) fl_X4_88 sh_23 rfl ?_
  refine V_iload_n (pc := 15) hG (dk dd_X4_readHum 7 rfl) rfl ?_
  refine V_aload_n (pc := 16) hG (dk dd_X4_readHum 8 rfl) rfl ?_
  refine V_callVip (pc := 17) hG (dk dd_X4_readHum 9 rfl) ml_X4_76 mo_X4_kindNext sh_31 rfl (c_kindNext hs) (by decide) (by decide) rfl rfl rfl (fun x17 m17 p17 => ?_)
  refine V_iast (pc := 20) hG (dk dd_X4_readHum 10 rfl) sh_24 hr ?_
  refine V_aload_n (pc := 21) hG (dk dd_X4_readHum 11 rfl) rfl ?_
  refine V_dup (pc := 22) hG (dk dd_X4_readHum 12 rfl) rfl ?_
  refine V_getI (pc := 23) hG (dk dd_X4_readHum 13 rfl) fl_X4_19 sh_31 rfl ?_
  refine V_iconst (pc := 26) hG (dk dd_X4_readHum 14 rfl) (v := 1) (by decide) ?_
  refine V_iadd (pc := 27) hG (dk dd_X4_readHum 15 rfl) ?_
  refine V_putI (pc := 28) hG (dk dd_X4_readHum 16 rfl) fl_X4_19 sh_31 rfl rfl ?_
  refine V_aload_n (pc := 31) hG (dk dd_X4_readHum 17 rfl) rfl ?_
  refine V_getR (pc := 32) hG (dk dd_X4_readHum 18 rfl) fl_X4_15 sh_31 rfl ?_
  refine V_getR (pc := 35) hG (dk dd_X4_readHum 19 rfl) fl_X4_92 sh_23 rfl ?_
  refine V_iload_n (pc := 38) hG (dk dd_X4_readHum 20 rfl) rfl ?_
  refine V_aload_n (pc := 39) hG (dk dd_X4_readHum 21 rfl) rfl ?_
  refine V_callVip (pc := 40) hG (dk dd_X4_readHum 22 rfl) ml_X4_65 mo_X4_thing sh_31 rfl (drs _ (by rw [setc_n (by decide), setc_n (by decide), p17.1]) _ (s1 _ ((p17.1 ▸ hs : RdS m17 τ n q.1).set (by decide))) (fun z => z)) (by decide) (by decide) rfl rfl rfl (fun x40 m40 p40 => ?_)
  refine V_iast (pc := 43) hG (dk dd_X4_readHum 23 rfl) sh_25 hr ?_
  refine V_aload_n (pc := 44) hG (dk dd_X4_readHum 24 rfl) rfl ?_
  refine V_bipush (pc := 45) hG (dk dd_X4_readHum 25 rfl) (v := 44) (by decide) ?_
  refine V_callVvp (pc := 47) hG (dk dd_X4_readHum 26 rfl) ml_X4_48 mo_X4_pass sh_31 rfl (c_pass (p40.2.1.set (by decide)) (c := 44) rfl (by decide)) (by decide) (by decide) rfl rfl rfl (fun m47 p47 => ?_)
  refine V_aload_n (pc := 50) hG (dk dd_X4_readHum 27 rfl) rfl ?_
  refine V_getR (pc := 51) hG (dk dd_X4_readHum 28 rfl) fl_X4_15 sh_31 rfl ?_
  refine V_getR (pc := 54) hG (dk dd_X4_readHum 29 rfl) fl_X4_95 sh_23 rfl ?_
  refine V_iload_n (pc := 57) hG (dk dd_X4_readHum 30 rfl) rfl ?_
  refine V_aload_n (pc := 58) hG (dk dd_X4_readHum 31 rfl) rfl ?_
  refine V_callVip (pc := 59) hG (dk dd_X4_readHum 32 rfl) ml_X4_65 mo_X4_thing sh_31 rfl (drs _ (by rw [p47.2 23 (by decide), setc_n (by decide), p40.2.2 23 (by decide), setc_n (by decide), setc_n (by decide), p17.1]) _ p47.1 (fun z => (numS_ge (pasS_0 z)).2)) (by decide) (by decide) rfl rfl rfl (fun x59 m59 p59 => ?_)
  refine V_iast (pc := 62) hG (dk dd_X4_readHum 33 rfl) sh_26 hr ?_
  refine V_aload_n (pc := 63) hG (dk dd_X4_readHum 34 rfl) rfl ?_
  refine V_bipush (pc := 64) hG (dk dd_X4_readHum 35 rfl) (v := 59) (by decide) ?_
  refine V_callVvp (pc := 66) hG (dk dd_X4_readHum 36 rfl) ml_X4_48 mo_X4_pass sh_31 rfl (c_pass (p59.2.1.set (by decide)) (c := 59) rfl (by decide)) (by decide) (by decide) rfl rfl rfl (fun m66 p66 => ?_)
  refine V_aload_n (pc := 69) hG (dk dd_X4_readHum 37 rfl) rfl ?_
  refine V_getR (pc := 70) hG (dk dd_X4_readHum 38 rfl) fl_X4_15 sh_31 rfl ?_
  refine V_dup (pc := 73) hG (dk dd_X4_readHum 39 rfl) rfl ?_
  refine V_getI (pc := 74) hG (dk dd_X4_readHum 40 rfl) fl_X4_82 sh_23 rfl ?_
  refine V_iconst (pc := 77) hG (dk dd_X4_readHum 41 rfl) (v := 1) (by decide) ?_
  refine V_iadd (pc := 78) hG (dk dd_X4_readHum 42 rfl) ?_
  refine V_putI (pc := 79) hG (dk dd_X4_readHum 43 rfl) fl_X4_82 sh_23 rfl rfl ?_
  refine V_vretP (pc := 82) hG (dk dd_X4_readHum 44 rfl) hR (Pv.mk ?_)
  rotate_left
  -- leaves: return@82
  · obtain ⟨rfl, rfl⟩ := p17
    obtain ⟨rfl, a1, a2⟩ := p40
    obtain ⟨b1, b2⟩ := p47
    obtain ⟨rfl, c1, c2⟩ := p59
    obtain ⟨d1, d2⟩ := p66
    have ch : ∀ a, a ≠ 31 → a ≠ 24 → a ≠ 25 → a ≠ 26 → m66 a = m17 a := fun a n1 n2 n3 n4 => by rw [d2 a n1, setc_n n4, c2 a n1, b2 a n1, setc_n n3, a2 a n1, setc_n n1, setc_n n2]
    have e24 : m66 24 = upd (m17 24) (q.2 0 6) (nI (kdS τ n q.1)) := by rw [d2 24 (by decide), setc_n (by decide), c2 24 (by decide), b2 24 (by decide), setc_n (by decide), a2 24 (by decide), setc_n (by decide), setc_s, cr]
    have e25 : m66 25 = upd (m17 25) (q.2 0 6) (nI (thiS τ n q.2 (q.1.1 + 1, q.1.2)).1) := by rw [d2 25 (by decide), setc_n (by decide), c2 25 (by decide), b2 25 (by decide), setc_s, a2 25 (by decide), setc_n (by decide), setc_n (by decide), cr]
    have e26 : m66 26 = upd (m17 26) (q.2 0 6) (nI (thiS τ n q.2 (pasS τ n 44 (thiS τ n q.2 (q.1.1 + 1, q.1.2)).2)).1) := by rw [d2 26 (by decide), setc_s, c2 26 (by decide), b2 26 (by decide), setc_n (by decide), a2 26 (by decide), setc_n (by decide), setc_n (by decide), cr]
    have e23 : m66 23 = m17 23 := ch 23 (by decide) (by decide) (by decide) (by decide)
    rw [e23, e6, nI_1]
    refine ⟨d1.set (by decide), ⟨⟨fun i hi => ?_, fun y h h1 h2 h3 => ?_, fun y c h1 h2 h3 => ?_⟩, fun c hc => by rw [setc_n (by decide), ch 30 (by decide) (by decide) (by decide) (by decide)]; exact hD.2 c hc⟩, fun a ha => by rw [setc_n (by omega)]; exact ch a (by omega) (by omega) (by omega) (by omega)⟩
    · show setc m66 23 (upd (m17 23) 6 _) 23 i = nI ((humS τ n q).2 0 i)
      unfold humS; dsimp only
      rw [setc_s]
      by_cases e : i = 6
      · subst e; rw [pk_us, updA_s]
      · rw [pk_un e, updA_n (by omega), updA_n (by omega), updA_n (by omega), updA_n (by omega)]; exact hD.1.1 i hi
    · have h3 : h < q.2 0 6 + 1 := by unfold humS at h3; dsimp only at h3; rw [updA_s] at h3; exact h3
      show setc m66 23 (upd (m17 23) 6 _) (23 + y) h = nI ((humS τ n q).2 y h)
      unfold humS; dsimp only
      rw [setc_n (by omega)]
      rcases (show y = 1 ∨ y = 2 ∨ y = 3 by omega) with rfl | rfl | rfl
      · rw [show 23 + 1 = 24 from rfl, e24, updA_n (by omega), updA_n (by omega), updA_n (by omega)]
        by_cases e : h = q.2 0 6
        · subst e; rw [pk_us, updA_s]
        · rw [pk_un e, updA_n (by omega)]; exact hD.1.2.1 1 h (by decide) (by decide) (by omega)
      · rw [show 23 + 2 = 25 from rfl, e25, updA_n (by omega), updA_n (by omega)]
        by_cases e : h = q.2 0 6
        · subst e; rw [pk_us, updA_s]
        · rw [pk_un e, updA_n (by omega), updA_n (by omega)]; exact hD.1.2.1 2 h (by decide) (by decide) (by omega)
      · rw [show 23 + 3 = 26 from rfl, e26, updA_n (by omega)]
        by_cases e : h = q.2 0 6
        · subst e; rw [pk_us, updA_s]
        · rw [pk_un e, updA_n (by omega), updA_n (by omega), updA_n (by omega)]; exact hD.1.2.1 3 h (by decide) (by decide) (by omega)
    · have h3 : c < q.2 0 7 := by unfold humS at h3; dsimp only at h3; rw [updA_n (by omega), updA_n (by omega), updA_n (by omega), updA_n (by omega)] at h3; exact h3
      show setc m66 23 (upd (m17 23) 6 _) (23 + y) c = nI ((humS τ n q).2 y c)
      unfold humS; dsimp only
      rw [setc_n (by omega), ch _ (by omega) (by omega) (by omega) (by omega), updA_n (by omega), updA_n (by omega), updA_n (by omega), updA_n (by omega)]
      exact hD.1.2.2 y c h1 h2 h3
