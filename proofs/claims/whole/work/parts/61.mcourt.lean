/-! ===== the model: a text is read ===== -/
theorem pasS_1 {τ : Nat → Nat} {n c : Nat} {s : Pf} (h : (pasS τ n c s).2 = 0) : (pasS τ n c s).1 = s.1 + 1 := by
  unfold pasS markS at h ⊢
  split at h
  · rename_i q; rw [if_pos q]
  · split at h
    · cases h
    · rename_i q; exact absurd h q
theorem humS_mono {τ : Nat → Nat} {n : Nat} {q : Rd} (h : (humS τ n q).1.2 = 0) : q.1.1 + 1 ≤ (humS τ n q).1.1 := by
  unfold humS at h ⊢
  dsimp only at h ⊢
  have z3 := pasS_0 h
  have z2 := (numS_ge z3).2
  have z1 := pasS_0 z2
  have a1 := pasS_1 h
  have a2 := numS_mono z3
  have a3 := pasS_1 z2
  have a4 := numS_mono z1
  have b2 : (pasS τ n 44 (thiS τ n q.2 (q.1.1 + 1, q.1.2)).2).1 + 1 ≤ (thiS τ n q.2 (pasS τ n 44 (thiS τ n q.2 (q.1.1 + 1, q.1.2)).2)).2.1 := a2
  have b4 : q.1.1 + 1 + 1 ≤ (thiS τ n q.2 (q.1.1 + 1, q.1.2)).2.1 := a4
  omega
theorem casS_mono {τ : Nat → Nat} {n : Nat} {q : Rd} (h : (casS τ n q).1.2 = 0) : q.1.1 + 1 ≤ (casS τ n q).1.1 := by
  unfold casS at h ⊢
  dsimp only at h ⊢
  have z4 := pasS_0 h
  have a1 := pasS_1 h
  rw [a1]
  by_cases g : (thiS τ n q.2 (pasS τ n 44 (thiS τ n q.2 (pasS τ n 44 (numS τ n 0 (q.2 0 6 - 1) (pasS τ n 118 q.1)).2)).2)).2.2 = 0 ∧ (thiS τ n q.2 (pasS τ n 44 (thiS τ n q.2 (pasS τ n 44 (numS τ n 0 (q.2 0 6 - 1) (pasS τ n 118 q.1)).2)).2)).1 = (thiS τ n q.2 (pasS τ n 44 (numS τ n 0 (q.2 0 6 - 1) (pasS τ n 118 q.1)).2)).1
  · rw [if_pos g] at z4; exact absurd z4 (show (2 : Nat) ≠ 0 by decide)
  · rw [if_neg g] at z4 ⊢
    have y1 := numS_mono z4
    have y2 := (numS_ge z4).2
    have y3 := pasS_1 y2
    have y4 := pasS_0 y2
    have y5 := numS_mono y4
    have y6 := (numS_ge y4).2
    have y7 := pasS_1 y6
    have y8 := pasS_0 y6
    have y9 := numS_mono y8
    have x1 := (numS_ge y8).2
    have x2 := pasS_1 x1
    have c1 : (pasS τ n 44 (thiS τ n q.2 (pasS τ n 44 (numS τ n 0 (q.2 0 6 - 1) (pasS τ n 118 q.1)).2)).2).1 + 1 ≤ (thiS τ n q.2 (pasS τ n 44 (thiS τ n q.2 (pasS τ n 44 (numS τ n 0 (q.2 0 6 - 1) (pasS τ n 118 q.1)).2)).2)).2.1 := y1
    have c2 : (pasS τ n 44 (numS τ n 0 (q.2 0 6 - 1) (pasS τ n 118 q.1)).2).1 + 1 ≤ (thiS τ n q.2 (pasS τ n 44 (numS τ n 0 (q.2 0 6 - 1) (pasS τ n 118 q.1)).2)).2.1 := y5
    omega
def endS (n : Nat) (s : Pf) : Pf := if s.2 = 0 ∧ s.1 < n then (s.1, 1) else s
theorem m_failed {μ : Mem} {τ : Nat → Nat} {n : Nat} {s : Pf} (hs : PsS μ τ n s) :
    CtP yX10_failed cX10_failed 1 (some .boolean) 1 [vR 67] μ (Pi (fun r μ' => is1 r ((endS n s).2 ≠ 0) ∧ (∀ j, j ≠ 67 → μ' j = μ j) ∧ (∀ q, (q < 11 ∨ 18 < q) → μ' 67 q = μ 67 q) ∧ μ' 67 11 = 0 ∧ (((endS n s).2 = 0 ∧ μ' 67 18 = μ 67 18) ∨ ((endS n s).2 ≠ 0 ∧ μ' 67 17 = nI (endS n s).1 ∧ μ' 67 18 = nI (endS n s).2)))) := by
  refine CtP.go RX10 rfl pn_X10 (Nat.le_of_ble_eq_true rfl) (fun C hG hR => ?_)
  have fin : ∀ (m : Mem) (u : Pf), u = endS n s → PsS m τ n u → OffT μ m → V C 20 [(0, vR 67)] [] m := by
    intro m u hu g1 g2
    have e16 : ∀ v, setc m 67 (upd (m 67) 11 v) 67 16 = m 67 16 := fun v => by rw [setc_s, upd_n (by decide)]
    have f16 : ∀ v w, setc (setc m 67 (upd (m 67) 11 v)) 67 (upd (setc m 67 (upd (m 67) 11 v) 67) 18 w) 67 16 = m 67 16 := fun v w => by rw [setc_s, upd_n (by decide), setc_s, upd_n (by decide)]
    have pos : u.2 = 0 ↔ m 67 16 ≤ 0 := by
      by_cases z : u.2 = 0
      · rw [(g1.2.2.2.1 z).1]; exact ⟨fun _ => Int32.le_refl 0, fun _ => z⟩
      · rw [(g1.2.2.2.2 z).1]
        have := g1.2.2.1
        exact ⟨fun w => absurd w z, fun w => absurd (le_i (b := 0) w (by omega) (by decide)) (by omega)⟩
    have fr : ∀ w, (∀ j, j ≠ 67 → setc (setc m 67 (upd (m 67) 11 0)) 67 (upd (setc m 67 (upd (m 67) 11 0) 67) 18 w) j = μ j) ∧ (∀ q, (q < 11 ∨ 18 < q) → setc (setc m 67 (upd (m 67) 11 0)) 67 (upd (setc m 67 (upd (m 67) 11 0) 67) 18 w) 67 q = μ 67 q) ∧ setc (setc m 67 (upd (m 67) 11 0)) 67 (upd (setc m 67 (upd (m 67) 11 0) 67) 18 w) 67 11 = 0 := fun w =>
      ⟨fun j hj => by rw [setc_n hj, setc_n hj]; exact g2.1 j hj, fun q hq => by rw [setc_s, upd_n (by omega), setc_s, upd_n (by omega)]; exact g2.2 q (by omega), by rw [setc_s, upd_n (by decide), setc_s, upd_s]⟩
    refine V_aload_n (pc := 20) hG (dk dd_X10_failed 10 rfl) rfl ?_
    refine V_iconst (pc := 21) hG (dk dd_X10_failed 11 rfl) (v := 0) (by decide) ?_
    refine V_putI (pc := 22) hG (dk dd_X10_failed 12 rfl) fl_X10_89 sh_67 rfl rfl ?_
    refine V_aload_n (pc := 25) hG (dk dd_X10_failed 13 rfl) rfl ?_
    refine V_aload_n (pc := 26) hG (dk dd_X10_failed 14 rfl) rfl ?_
    refine V_getI (pc := 27) hG (dk dd_X10_failed 15 rfl) fl_X10_93 sh_67 rfl ?_
    refine V_if_le (pc := 30) hG (dk dd_X10_failed 16 rfl) (tgt := 40) (by decide) (fun h30 => ?_) (fun h30 => ?_)
    refine V_aload_n (pc := 40) hG (dk dd_X10_failed 20 rfl) rfl ?_
    refine V_getI (pc := 41) hG (dk dd_X10_failed 21 rfl) fl_X10_131 sh_67 rfl ?_
    refine V_putI (pc := 44) hG (dk dd_X10_failed 22 rfl) fl_X10_131 sh_67 rfl rfl ?_
    refine V_aload_n (pc := 47) hG (dk dd_X10_failed 23 rfl) rfl ?_
    refine V_getI (pc := 48) hG (dk dd_X10_failed 24 rfl) fl_X10_93 sh_67 rfl ?_
    refine V_if_le (pc := 51) hG (dk dd_X10_failed 25 rfl) (tgt := 58) (by decide) (fun h51 => ?_) (fun h51 => ?_)
    refine V_iconst (pc := 58) hG (dk dd_X10_failed 28 rfl) (v := 0) (by decide) ?_
    refine V_zretP (pc := 59) hG (dk dd_X10_failed 29 rfl) (by decide) hR (Pi.mk ?_)
    rotate_left
    refine V_iconst (pc := 54) hG (dk dd_X10_failed 26 rfl) (v := 1) (by decide) ?_
    refine V_goto (pc := 55) hG (dk dd_X10_failed 27 rfl) (tgt := 59) (by decide) ?_
    refine V_zretP (pc := 59) hG (dk dd_X10_failed 29 rfl) (by decide) hR (Pi.mk ?_)
    rotate_left
    refine V_aload_n (pc := 33) hG (dk dd_X10_failed 17 rfl) rfl ?_
    refine V_getI (pc := 34) hG (dk dd_X10_failed 18 rfl) fl_X10_93 sh_67 rfl ?_
    refine V_goto (pc := 37) hG (dk dd_X10_failed 19 rfl) (tgt := 44) (by decide) ?_
    refine V_putI (pc := 44) hG (dk dd_X10_failed 22 rfl) fl_X10_131 sh_67 rfl rfl ?_
    refine V_aload_n (pc := 47) hG (dk dd_X10_failed 23 rfl) rfl ?_
    refine V_getI (pc := 48) hG (dk dd_X10_failed 24 rfl) fl_X10_93 sh_67 rfl ?_
    refine V_if_le (pc := 51) hG (dk dd_X10_failed 25 rfl) (tgt := 58) (by decide) (fun h51 => ?_) (fun h51 => ?_)
    refine V_iconst (pc := 58) hG (dk dd_X10_failed 28 rfl) (v := 0) (by decide) ?_
    refine V_zretP (pc := 59) hG (dk dd_X10_failed 29 rfl) (by decide) hR (Pi.mk ?_)
    rotate_left
    refine V_iconst (pc := 54) hG (dk dd_X10_failed 26 rfl) (v := 1) (by decide) ?_
    refine V_goto (pc := 55) hG (dk dd_X10_failed 27 rfl) (tgt := 59) (by decide) ?_
    refine V_zretP (pc := 59) hG (dk dd_X10_failed 29 rfl) (by decide) hR (Pi.mk ?_)
    rotate_left
    -- leaves: return@59; return@59; return@59; return@59
    all_goals (rw [e16] at h30; rw [f16] at h51)
    · have z := pos.mpr h30
      refine ⟨is1.f (fun w => w (by rw [← hu]; exact z)), (fr _).1, (fr _).2.1, (fr _).2.2, Or.inl ⟨by rw [← hu]; exact z, ?_⟩⟩
      rw [setc_s, upd_s, setc_s, upd_n (by decide)]; exact g2.2 18 (by decide)
    · exact absurd h30 h51
    · exact absurd h51 h30
    · have z : u.2 ≠ 0 := fun w => h30 (pos.mp w)
      refine ⟨is1.t (by rw [← hu]; exact z), (fr _).1, (fr _).2.1, (fr _).2.2, Or.inr ⟨by rw [← hu]; exact z, ?_, ?_⟩⟩
      · rw [setc_s, upd_n (by decide), setc_s, upd_n (by decide), ← hu]; exact (g1.2.2.2.2 z).2
      · rw [setc_s, upd_s, setc_s, upd_n (by decide), ← hu]; exact (g1.2.2.2.2 z).1
  refine V_aload_n (pc := 0) hG (dk dd_X10_failed 0 rfl) rfl ?_
  refine V_getI (pc := 1) hG (dk dd_X10_failed 1 rfl) fl_X10_93 sh_67 rfl ?_
  refine V_if_ne (pc := 4) hG (dk dd_X10_failed 2 rfl) (tgt := 20) (by decide) (fun h4 => ?_) (fun h4 => ?_)
  rotate_left
  refine V_aload_n (pc := 7) hG (dk dd_X10_failed 3 rfl) rfl ?_
  refine V_getI (pc := 8) hG (dk dd_X10_failed 4 rfl) fl_X10_117 sh_67 rfl ?_
  refine V_iconst (pc := 11) hG (dk dd_X10_failed 5 rfl) (v := 1) (by decide) ?_
  refine V_icmp_eq (pc := 12) hG (dk dd_X10_failed 6 rfl) (tgt := 20) (by decide) (fun h12 => ?_) (fun h12 => ?_)
  rotate_left
  refine V_aload_n (pc := 15) hG (dk dd_X10_failed 7 rfl) rfl ?_
  refine V_iconst (pc := 16) hG (dk dd_X10_failed 8 rfl) (v := 1) (by decide) ?_
  refine V_callVvp (pc := 17) hG (dk dd_X10_failed 9 rfl) ml_X10_120 mo_X10_bad sh_67 rfl (m_bad hs (k := 1) rfl (by decide) (by decide)) (by decide) (by decide) rfl rfl rfl (fun m17 p17 => ?_)
  rotate_left
  -- leaves: stop 20; stop 20; stop 20
  · refine fin μ s ?_ hs (OffT.rf μ)
    unfold endS; rw [if_neg (fun z => h4 (hs.f0.mpr z.1))]
  · have z := hs.f0.mp h4
    rw [(hs.2.2.2.1 z).2.2.2.1] at h12
    have := tk0.mp ((nI_eq (b := 1) (by have := tk_le τ n s.1; omega) (by decide)).mp h12)
    refine fin μ s ?_ hs (OffT.rf μ)
    unfold endS; rw [if_neg (by omega)]
  · have z := hs.f0.mp h4
    rw [(hs.2.2.2.1 z).2.2.2.1] at h12
    have : ¬ n ≤ s.1 := fun w => h12 (by rw [tk0.mpr w]; rfl)
    refine fin m17 _ ?_ p17.1 p17.2
    unfold endS markS; rw [if_pos z, if_pos ⟨z, by omega⟩]
theorem allS_e (τ : Nat → Nat) (n : Nat) : allS τ n = (endS n (rd4 τ n).1, (rd4 τ n).2) := by
  unfold allS
  generalize rd4 τ n = q
  unfold endS
  by_cases h : q.1.2 = 0 ∧ q.1.1 < n
  · rw [if_pos h, if_pos h]
  · rw [if_neg h, if_neg h]
theorem lawS_e2 (τ : Nat → Nat) (n : Nat) (s : Pf) (α : Al) : lawS τ n (s, α) = (pasS τ n 59 (numS τ n 1 9 (pasS τ n 44 (numS τ n 0 8 (pasS τ n 44 (numS τ n 3 8 (pasS τ n 106 s)).2)).2)).2,
  updA (updA (updA α 0 0 (numS τ n 3 8 (pasS τ n 106 s)).1) 0 1 (numS τ n 0 8 (pasS τ n 44 (numS τ n 3 8 (pasS τ n 106 s)).2)).1) 0 2 (numS τ n 1 9 (pasS τ n 44 (numS τ n 0 8 (pasS τ n 44 (numS τ n 3 8 (pasS τ n 106 s)).2)).2)).1) := rfl
theorem rd1_3 (τ : Nat → Nat) (n : Nat) : (rd1 τ n).2 0 3 = 0 := by
  rw [rd1_e, lawS_e2]; dsimp only
  rw [updA_n (by omega), updA_n (by omega), updA_n (by omega)]; rfl
def CrQ (al : Rd) (μ : Mem) (r : Int32) (μ' : Mem) : Prop := (∀ j, j ≠ 67 → j ≠ 71 → j ≠ 72 → μ' j = μ j) ∧ (∀ q, ((1 ≤ q ∧ q < 9) ∨ q = 10 ∨ 18 < q) → μ' 67 q = μ 67 q) ∧ μ' 67 11 = 0 ∧
  ((al.1.2 = 0 ∧ r = nI (al.2 0 6) ∧ AbF (μ' 71) al.2 ∧ μ' 67 9 = 0 ∧ μ' 67 18 = μ 67 18) ∨ (al.1.2 ≠ 0 ∧ r = -1000100 - nI al.1.1 ∧ μ' 67 18 = nI al.1.2 ∧ μ' 71 = μ 71 ∧ μ' 67 9 = μ 67 9))
theorem AbF.cg {f g : Nat → Int32} {α : Al} (h : AbF f α) (hH : α 0 6 ≤ 6) (hC : α 0 7 ≤ 5) (hg : ∀ i, i < 46 → g i = f i) : AbF g α := by
  refine ⟨⟨fun i hi => ?_, fun x k q1 q2 q3 => ?_, fun x k q1 q2 q3 => ?_⟩, fun c hc => ?_⟩
  · have := h.1.1 i hi; rw [kap_0] at this ⊢; rw [hg _ (by have := q_pm i hi; omega)]; exact this
  · have := h.1.2.1 x k q1 q2 q3; rw [kap_h q1 q2] at this ⊢; rw [hg _ (by omega)]; exact this
  · have := h.1.2.2 x k q1 q2 q3; rw [kap_c q1] at this ⊢; rw [hg _ (by omega)]; exact this
  · rw [hg _ (by omega)]; exact h.2 c hc
theorem cslS_7 (τ : Nat → Nat) (n : Nat) : ∀ k (q : Rd), q.2 0 7 ≤ 5 → (cslS τ n k q).2 0 7 ≤ 5 ∧ (cslS τ n k q).2 0 6 = q.2 0 6
  | 0, q, h => ⟨h, rfl⟩
  | k + 1, q, h => by
    rw [cslS_s]
    split
    · split
      · exact cslS_7 τ n k (markS 3 q.1, q.2) h
      · have := cslS_7 τ n k (casS τ n q) (by rw [casS_7]; omega)
        rw [casS_n τ n q (Or.inl ⟨rfl, by decide⟩)] at this; exact this
    · exact ⟨h, rfl⟩
set_option maxHeartbeats 2000000 in
theorem m_court0 {μ : Mem} {τ : Nat → Nat} {n : Nat} (hT : TpM μ τ n) {r1 r2 r3 r4 al : Rd} (q1 : r1 = lawS τ n ((0, 0), cz)) (q2 : r2 = drmS τ n r1) (q3 : r3 = hmsS τ n r2) (q4 : r4 = cslS τ n 120 r3) (ea : al = (endS n r4.1, r4.2)) (z13 : r1.2 0 3 = 0)
    (f1 : r1.2 0 0 ≤ 8 ∧ (r1.1.2 = 0 → 3 ≤ r1.2 0 0) ∧ r1.2 0 6 = 0 ∧ r1.2 0 7 = 0 ∧ ∀ c, r1.2 7 c = 0) (f2 : r2.2 0 0 ≤ 8 ∧ (r2.1.2 = 0 → 3 ≤ r2.2 0 0) ∧ r2.2 0 6 = 0 ∧ r2.2 0 7 = 0 ∧ ∀ c, r2.2 7 c = 0) (fq : r3.2 0 0 ≤ 8 ∧ (r3.1.2 = 0 → 3 ≤ r3.2 0 0 ∧ 1 ≤ r3.2 0 6) ∧ r3.2 0 6 ≤ 6 ∧ r3.2 0 7 = 0 ∧ ∀ c, r3.2 7 c = 0) :
    CtP yX10_court cX10_court 2 (some .int) 5 [vR 67] μ (Pi (CrQ al μ)) := by
  refine CtP.go RX10 rfl pn_X10 (Nat.le_of_ble_eq_true rfl) (fun C hG hR => ?_)
  have n120 := hT.2.1
  have rr0 : vp_in (0 : Int32) 46 := vp_in_nI (n := 0) (by decide) (by decide)
  have rr1 : vp_in (1 : Int32) 46 := vp_in_nI (n := 1) (by decide) (by decide)
  have rr2 : vp_in (2 : Int32) 46 := vp_in_nI (n := 2) (by decide) (by decide)
  have rr3 : vp_in (3 : Int32) 46 := vp_in_nI (n := 3) (by decide) (by decide)
  have th : ∀ q, 1 ≤ q → th0 μ 67 q = μ 67 q := fun q hq => by unfold th0; rw [setc_s, upd_n (by omega)]
  have th' : ∀ j, j ≠ 67 → th0 μ j = μ j := fun j hj => by unfold th0; rw [setc_n hj]
  -- the fresh court becomes the court
  have copy : ∀ k i m, i + k = 46 → (∀ j, j ≠ 67 → j ≠ 71 → j ≠ 72 → m j = μ j) → (∀ q, ((1 ≤ q ∧ q < 9) ∨ q = 10 ∨ 18 < q) → m 67 q = μ 67 q) → m 67 11 = 0 → m 67 9 = 0 → m 67 18 = μ 67 18 → al.1.2 = 0 → AbF (m 72) al.2 → (∀ q, q < i → m 71 q = m 72 q) → V C 165 [(0, vR 67), (1, vI (nI i))] [] m := by
    intro k
    have c7 := cslS_7 τ n 120 r3 (by omega)
    have e2 : al.2 = (cslS τ n 120 r3).2 := by rw [← q4, ea]
    rw [← e2] at c7
    induction k with
    | zero =>
      intro i m hi g1 g2 g3 g4 g5 g6 g7 g8
      have ab := g7.cg (g := m 71) (by omega) c7.1 (fun q hq => g8 q (by omega))
      have e3 : m 71 (Int32.toNatClampNeg 3) = nI (al.2 0 6) := by have := ab.1.1 6 (by decide); rw [kap_0] at this; exact this
      refine V_iload_n (pc := 165) hG (dk dd_X10_court 89 rfl) rfl ?_
      refine V_bipush (pc := 166) hG (dk dd_X10_court 90 rfl) (v := 46) (by decide) ?_
      refine V_icmp_ge (pc := 168) hG (dk dd_X10_court 91 rfl) (tgt := 189) (by decide) (fun h168 => ?_) (fun h168 => ?_)
      refine V_aload_n (pc := 189) hG (dk dd_X10_court 102 rfl) rfl ?_
      refine V_getR (pc := 190) hG (dk dd_X10_court 103 rfl) fl_X10_19 sh_67 rfl ?_
      refine V_iconst (pc := 193) hG (dk dd_X10_court 104 rfl) (v := 3) (by decide) ?_
      refine V_iald (pc := 194) hG (dk dd_X10_court 105 rfl) sh_71 rr3 ?_
      refine V_iretP (pc := 195) hG (dk dd_X10_court 106 rfl) hR (Pi.mk ?_)
      rotate_left
      rotate_left
      -- leaves: return@195; stop 171
      · exact ⟨g1, g2, g3, Or.inl ⟨g6, e3, ab, g4, g5⟩⟩
      · exfalso; have := nle_i (a := 46) h168 (by omega) (by omega); omega
    | succ k ih =>
      intro i m hi g1 g2 g3 g4 g5 g6 g7 g8
      have r : vp_in (nI i) 46 := vp_in_nI (by omega) (by decide)
      refine V_iload_n (pc := 165) hG (dk dd_X10_court 89 rfl) rfl ?_
      refine V_bipush (pc := 166) hG (dk dd_X10_court 90 rfl) (v := 46) (by decide) ?_
      refine V_icmp_ge (pc := 168) hG (dk dd_X10_court 91 rfl) (tgt := 189) (by decide) (fun h168 => ?_) (fun h168 => ?_)
      rotate_left
      refine V_aload_n (pc := 171) hG (dk dd_X10_court 92 rfl) rfl ?_
      refine V_getR (pc := 172) hG (dk dd_X10_court 93 rfl) fl_X10_19 sh_67 rfl ?_
      refine V_iload_n (pc := 175) hG (dk dd_X10_court 94 rfl) rfl ?_
      refine V_aload_n (pc := 176) hG (dk dd_X10_court 95 rfl) rfl ?_
      refine V_getR (pc := 177) hG (dk dd_X10_court 96 rfl) fl_X10_22 sh_67 rfl ?_
      refine V_iload_n (pc := 180) hG (dk dd_X10_court 97 rfl) rfl ?_
      refine V_iald (pc := 181) hG (dk dd_X10_court 98 rfl) sh_72 r ?_
      refine V_iast (pc := 182) hG (dk dd_X10_court 99 rfl) sh_71 r ?_
      refine V_iinc (pc := 183) hG (dk dd_X10_court 100 rfl) rfl (v := _ + 1) rfl (by decide) (lv' := [(0, _), (1, _)]) rfl ?_
      refine V_goto (pc := 186) hG (dk dd_X10_court 101 rfl) (tgt := 165) (by decide) ?_
      rotate_left
      -- leaves: stop 189; stop 165
      · exfalso; have := le_i (a := 46) h168 (by omega) (by omega); omega
      · rw [← nI_succ, nI_clamp (by omega)]
        refine ih (i + 1) _ (by omega) (fun j a b c => by rw [setc_n b]; exact g1 j a b c) (fun q hq => by rw [setc_n (by decide)]; exact g2 q hq) (by rw [setc_n (by decide)]; exact g3) (by rw [setc_n (by decide)]; exact g4) (by rw [setc_n (by decide)]; exact g5) g6 (by rw [setc_n (by decide)]; exact g7) (fun q hq => ?_)
        rw [setc_s, setc_n (by decide)]
        by_cases z : q = i
        · rw [z, upd_s]
        · rw [upd_n z]; exact g8 q (by omega)
  -- the end
  have last : ∀ m, FrS m τ n r4 → OffF (th0 μ) m → V C 143 [(0, vR 67)] [] m := by
    intro m g1 g2
    refine V_aload_n (pc := 143) hG (dk dd_X10_court 76 rfl) rfl ?_
    refine V_callVip (pc := 144) hG (dk dd_X10_court 77 rfl) ml_X10_166 mo_X10_failed sh_67 rfl (m_failed g1.1) (by decide) (by decide) rfl rfl rfl (fun x144 m144 p144 => ?_)
    refine V_if_eq (pc := 147) hG (dk dd_X10_court 78 rfl) (tgt := 158) (by decide) (fun h147 => ?_) (fun h147 => ?_)
    refine V_aload_n (pc := 158) hG (dk dd_X10_court 84 rfl) rfl ?_
    refine V_iconst (pc := 159) hG (dk dd_X10_court 85 rfl) (v := 0) (by decide) ?_
    refine V_putI (pc := 160) hG (dk dd_X10_court 86 rfl) fl_X10_170 sh_67 rfl rfl ?_
    refine V_iconst (pc := 163) hG (dk dd_X10_court 87 rfl) (v := 0) (by decide) ?_
    refine V_istore_n (pc := 164) hG (dk dd_X10_court 88 rfl) (by decide) (lv' := [(0, _), (1, _)]) rfl ?_
    rotate_left
    refine V_ldc (pc := 150) hG (dk dd_X10_court 79 rfl) kk_X10_169 ?_
    refine V_aload_n (pc := 152) hG (dk dd_X10_court 80 rfl) rfl ?_
    refine V_getI (pc := 153) hG (dk dd_X10_court 81 rfl) fl_X10_99 sh_67 rfl ?_
    refine V_isub (pc := 156) hG (dk dd_X10_court 82 rfl) ?_
    refine V_iretP (pc := 157) hG (dk dd_X10_court 83 rfl) hR (Pi.mk ?_)
    rotate_left
    -- leaves: stop 165; return@157
    · obtain ⟨b1, b2, b3, b4, b5⟩ := p144
      have z : (endS n r4.1).2 = 0 := Classical.byContradiction (fun w => b1.no h147 w)
      have z0 : r4.1.2 = 0 := by
        unfold endS at z; split at z
        · exact absurd z (show (1 : Nat) ≠ 0 by decide)
        · exact z
      have e18 : m144 67 18 = m 67 18 := b5.elim (fun w => w.2) (fun w => absurd z w.1)
      refine copy 46 0 _ (by omega) (fun j a b c => ?_) (fun q hq => ?_) ?_ ?_ ?_ (by rw [ea]; exact z) ?_ (fun q hq => by omega)
      · rw [setc_n a, b2 j a, g2.1 j a c]; exact th' j a
      · rw [setc_s, upd_n (by omega), b3 q (by omega), g2.2 q (by omega)]; exact th q (by omega)
      · rw [setc_s, upd_n (by decide)]; exact b4
      · rw [setc_s, upd_s]
      · rw [setc_s, upd_n (by decide), e18, g2.2 18 (by decide)]; exact th 18 (by decide)
      · rw [setc_n (by decide), b2 72 (by decide), ea]; exact g1.2 z0
    · obtain ⟨b1, b2, b3, b4, b5⟩ := p144
      have z := b1.yes h147
      obtain ⟨_, c1, c2⟩ := b5.resolve_left (fun w => z w.1)
      refine ⟨fun j a b c => ?_, fun q hq => ?_, b4, Or.inr ⟨by rw [ea]; exact z, by rw [c1, ea], by rw [c2, ea], ?_, ?_⟩⟩
      · rw [b2 j a, g2.1 j a c]; exact th' j a
      · rw [b3 q (by omega), g2.2 q (by omega)]; exact th q (by omega)
      · rw [b2 71 (by decide), g2.1 71 (by decide) (by decide)]; exact th' 71 (by decide)
      · rw [b3 9 (by decide), g2.2 9 (by decide)]; exact th 9 (by decide)
  have cases : ∀ k (q : Rd) m, (q.1.2 = 0 → n ≤ q.1.1 + k) → FrS m τ n q → OffF (th0 μ) m → (q.1.2 = 0 → 3 ≤ q.2 0 0 ∧ 1 ≤ q.2 0 6) → q.2 0 0 ≤ 8 → q.2 0 6 ≤ 6 → q.2 0 7 ≤ 5 → (∀ c, q.2 7 c = 0) → cslS τ n k q = r4 → V C 127 [(0, vR 67)] [] m := by
    intro k
    induction k with
    | zero =>
      intro q m g1 g2 g3 g4 g5 g6 g7 g8 g9
      refine V_aload_n (pc := 127) hG (dk dd_X10_court 69 rfl) rfl ?_
      refine V_bipush (pc := 128) hG (dk dd_X10_court 70 rfl) (v := 118) (by decide) ?_
      refine V_callVip (pc := 130) hG (dk dd_X10_court 71 rfl) ml_X10_137 mo_X10_isLetter sh_67 rfl (m_isLetter g2.1 (c := 118) rfl (by decide)) (by decide) (by decide) rfl rfl rfl (fun x130 m130 p130 => ?_)
      refine V_if_eq (pc := 133) hG (dk dd_X10_court 72 rfl) (tgt := 143) (by decide) (fun h133 => ?_) (fun h133 => ?_)
      rotate_left
      rotate_left
      -- leaves: stop 143; stop 136
      · obtain ⟨rfl, z⟩ := p130
        rw [show q = r4 from g9] at g2
        exact last m130 g2 g3
      · exfalso
        have z := p130.2.yes h133
        have w1 := g1 z.1
        have w2 := z.2.1
        omega
    | succ k ih =>
      intro q m g1 g2 g3 g4 g5 g6 g7 g8 g9
      rw [cslS_s] at g9
      refine V_aload_n (pc := 127) hG (dk dd_X10_court 69 rfl) rfl ?_
      refine V_bipush (pc := 128) hG (dk dd_X10_court 70 rfl) (v := 118) (by decide) ?_
      refine V_callVip (pc := 130) hG (dk dd_X10_court 71 rfl) ml_X10_137 mo_X10_isLetter sh_67 rfl (m_isLetter g2.1 (c := 118) rfl (by decide)) (by decide) (by decide) rfl rfl rfl (fun x130 m130 p130 => ?_)
      refine V_if_eq (pc := 133) hG (dk dd_X10_court 72 rfl) (tgt := 143) (by decide) (fun h133 => ?_) (fun h133 => ?_)
      rotate_left
      rotate_left
      -- leaves: stop 143; stop 136
      · obtain ⟨rfl, z⟩ := p130
        rw [if_neg (z.no h133)] at g9
        rw [g9] at g2
        exact last m130 g2 g3
      · obtain ⟨rfl, z⟩ := p130
        have z := z.yes h133
        rw [if_pos z] at g9
        have w := g4 z.1
        refine V_aload_n (pc := 136) hG (dk dd_X10_court 73 rfl) rfl ?_
        refine V_callVvp (pc := 137) hG (dk dd_X10_court 74 rfl) ml_X10_163 mo_X10_readCase sh_67 rfl (m_readCase g2 z (by omega) g5 w.2 g6 g7 g8) (by decide) (by decide) rfl rfl rfl (fun m137 p137 => ?_)
        refine V_goto (pc := 140) hG (dk dd_X10_court 75 rfl) (tgt := 127) (by decide) ?_
        rotate_left
        -- leaves: stop 127
        · by_cases h5 : q.2 0 7 = 5
          · rw [if_pos h5] at g9 p137
            have nz : (markS 3 q.1).2 ≠ 0 := fun y => markS_0 (by decide) y
            exact ih (markS 3 q.1, q.2) m137 (fun y => absurd y nz) p137.1 (g3.tr p137.2) (fun y => absurd y nz) g5 g6 g7 g8 g9
          · rw [if_neg h5] at g9 p137
            refine ih (casS τ n q) m137 (fun y => ?_) p137.1 (g3.tr p137.2) (fun y => ?_) ?_ ?_ ?_ (fun c => ?_) g9
            · have := casS_mono y; have := g1 z.1; omega
            · rw [casS_n τ n q (Or.inl ⟨rfl, by decide⟩), casS_n τ n q (Or.inl ⟨rfl, by decide⟩)]; exact w
            · rw [casS_n τ n q (Or.inl ⟨rfl, by decide⟩)]; exact g5
            · rw [casS_n τ n q (Or.inl ⟨rfl, by decide⟩)]; exact g6
            · rw [casS_7]; omega
            · rw [casS_n τ n q (by omega)]; exact g8 c
  have hums : ∀ k (q : Rd) m, (q.1.2 = 0 → n ≤ q.1.1 + k) → FrS m τ n q → OffF (th0 μ) m → (q.1.2 = 0 → 3 ≤ q.2 0 0) → q.2 0 0 ≤ 8 → q.2 0 6 ≤ 6 → hmlS τ n k q = r3 → V C 113 [(0, vR 67)] [] m := by
    have go : ∀ m, FrS m τ n r3 → OffF (th0 μ) m → V C 127 [(0, vR 67)] [] m := fun m a b =>
      cases 120 r3 m (fun _ => by omega) a b fq.2.1 fq.1 fq.2.2.1 (by omega) fq.2.2.2.2 q4.symm
    intro k
    induction k with
    | zero =>
      intro q m g1 g2 g3 g4 g5 g6 g9
      refine V_aload_n (pc := 113) hG (dk dd_X10_court 63 rfl) rfl ?_
      refine V_callVip (pc := 114) hG (dk dd_X10_court 64 rfl) ml_X10_156 mo_X10_isSort sh_67 rfl (m_isSort g2.1) (by decide) (by decide) rfl rfl rfl (fun x114 m114 p114 => ?_)
      refine V_if_eq (pc := 117) hG (dk dd_X10_court 65 rfl) (tgt := 127) (by decide) (fun h117 => ?_) (fun h117 => ?_)
      rotate_left
      rotate_left
      -- leaves: stop 127; stop 120
      · obtain ⟨rfl, z⟩ := p114
        rw [show q = r3 from g9] at g2
        exact go m114 g2 g3
      · exfalso
        have z := kdS_0 (p114.2.yes h117)
        have w1 := g1 z.1
        have w2 := z.2
        omega
    | succ k ih =>
      intro q m g1 g2 g3 g4 g5 g6 g9
      rw [hmlS_s] at g9
      refine V_aload_n (pc := 113) hG (dk dd_X10_court 63 rfl) rfl ?_
      refine V_callVip (pc := 114) hG (dk dd_X10_court 64 rfl) ml_X10_156 mo_X10_isSort sh_67 rfl (m_isSort g2.1) (by decide) (by decide) rfl rfl rfl (fun x114 m114 p114 => ?_)
      refine V_if_eq (pc := 117) hG (dk dd_X10_court 65 rfl) (tgt := 127) (by decide) (fun h117 => ?_) (fun h117 => ?_)
      rotate_left
      rotate_left
      -- leaves: stop 127; stop 120
      · obtain ⟨rfl, z⟩ := p114
        rw [if_pos (Classical.byContradiction (fun w => z.no h117 w))] at g9
        rw [g9] at g2
        exact go m114 g2 g3
      · obtain ⟨rfl, z⟩ := p114
        have z := z.yes h117
        rw [if_neg z] at g9
        have k0 := kdS_0 z
        have w := g4 k0.1
        refine V_aload_n (pc := 120) hG (dk dd_X10_court 66 rfl) rfl ?_
        refine V_callVvp (pc := 121) hG (dk dd_X10_court 67 rfl) ml_X10_160 mo_X10_readHum sh_67 rfl (m_readHum g2 z (by omega) g5 g6) (by decide) (by decide) rfl rfl rfl (fun m121 p121 => ?_)
        refine V_goto (pc := 124) hG (dk dd_X10_court 68 rfl) (tgt := 113) (by decide) ?_
        rotate_left
        -- leaves: stop 113
        · by_cases h5 : q.2 0 6 = 6
          · rw [if_pos h5] at g9 p121
            have nz : (markS 3 q.1).2 ≠ 0 := fun y => markS_0 (by decide) y
            exact ih (markS 3 q.1, q.2) m121 (fun y => absurd y nz) p121.1 (g3.tr p121.2) (fun y => absurd y nz) g5 g6 g9
          · rw [if_neg h5] at g9 p121
            refine ih (humS τ n q) m121 (fun y => ?_) p121.1 (g3.tr p121.2) (fun y => ?_) ?_ ?_ g9
            · have := humS_mono y; have := g1 k0.1; omega
            · rw [humS_n τ n q (by decide)]; exact w
            · rw [humS_n τ n q (by decide)]; exact g5
            · rw [humS_6]; omega
  have L101 : ∀ m, FrS m τ n r2 → OffF (th0 μ) m → V C 101 [(0, vR 67)] [] m := by
    intro m g1 g2
    refine V_aload_n (pc := 101) hG (dk dd_X10_court 57 rfl) rfl ?_
    refine V_callVip (pc := 102) hG (dk dd_X10_court 58 rfl) ml_X10_156 mo_X10_isSort sh_67 rfl (m_isSort g1.1) (by decide) (by decide) rfl rfl rfl (fun x102 m102 p102 => ?_)
    refine V_if_ne (pc := 105) hG (dk dd_X10_court 59 rfl) (tgt := 113) (by decide) (fun h105 => ?_) (fun h105 => ?_)
    rotate_left
    refine V_aload_n (pc := 108) hG (dk dd_X10_court 60 rfl) rfl ?_
    refine V_iconst (pc := 109) hG (dk dd_X10_court 61 rfl) (v := 1) (by decide) ?_
    refine V_callVvp (pc := 110) hG (dk dd_X10_court 62 rfl) ml_X10_120 mo_X10_bad sh_67 rfl (m_bad (p102.1 ▸ g1.1) (k := 1) rfl (by decide) (by decide)) (by decide) (by decide) rfl rfl rfl (fun m110 p110 => ?_)
    rotate_left
    -- leaves: stop 113; stop 113
    · obtain ⟨rfl, z⟩ := p102
      have z := z.yes h105
      refine hums 120 r2 m102 (fun _ => by omega) g1 g2 f2.2.1 f2.1 (by omega) ?_
      rw [q3]; unfold hmsS; rw [if_neg z]
    · obtain ⟨rfl, z⟩ := p102
      have z : kdS τ n r2.1 = 0 := Classical.byContradiction (fun w => z.no h105 w)
      have nz : (markS 1 r2.1).2 ≠ 0 := fun y => markS_0 (by decide) y
      refine hums 120 (markS 1 r2.1, r2.2) m110 (fun _ => by omega) ⟨p110.1, fun y => absurd y nz⟩ (g2.tr p110.2.f) (fun y => absurd y nz) f2.1 (by show r2.2 0 6 ≤ 6; omega) ?_
      rw [q3]; unfold hmsS; rw [if_pos z]
  have L97 : ∀ m, FrS m τ n r1 → OffF (th0 μ) m → V C 97 [(0, vR 67)] [] m := by
    intro m g1 g2
    refine V_aload_n (pc := 97) hG (dk dd_X10_court 55 rfl) rfl ?_
    refine V_callVvp (pc := 98) hG (dk dd_X10_court 56 rfl) ml_X10_153 mo_X10_readDream sh_67 rfl (m_readDream g1 (fun z => by have := f1.2.1 z; omega) f1.1 z13) (by decide) (by decide) rfl rfl rfl (fun m98 p98 => ?_)
    rotate_left
    -- leaves: stop 101
    · exact L101 m98 (by rw [q2]; exact p98.1) (g2.tr p98.2)
  have L30 : ∀ m, PsS m τ n (0, 0) → OffF (th0 μ) m → AbF (m 72) cz → V C 30 [(0, vR 67)] [] m := by
    intro m g1 g2 g3
    refine V_aload_n (pc := 30) hG (dk dd_X10_court 17 rfl) rfl ?_
    refine V_aload_n (pc := 31) hG (dk dd_X10_court 18 rfl) rfl ?_
    refine V_bipush (pc := 32) hG (dk dd_X10_court 19 rfl) (v := 106) (by decide) ?_
    refine V_callVip (pc := 34) hG (dk dd_X10_court 20 rfl) ml_X10_137 mo_X10_isLetter sh_67 rfl (m_isLetter g1 (c := 106) rfl (by decide)) (by decide) (by decide) rfl rfl rfl (fun x34 m34 p34 => ?_)
    refine V_callVvp (pc := 37) hG (dk dd_X10_court 21 rfl) ml_X10_127 mo_X10_must sh_67 rfl (m_mustL (p34.1 ▸ g1) (c := 106) (by decide) p34.2) (by decide) (by decide) rfl rfl rfl (fun m37 p37 => ?_)
    refine V_aload_n (pc := 40) hG (dk dd_X10_court 22 rfl) rfl ?_
    refine V_getR (pc := 41) hG (dk dd_X10_court 23 rfl) fl_X10_22 sh_67 rfl ?_
    refine V_iconst (pc := 44) hG (dk dd_X10_court 24 rfl) (v := 0) (by decide) ?_
    refine V_aload_n (pc := 45) hG (dk dd_X10_court 25 rfl) rfl ?_
    refine V_iconst (pc := 46) hG (dk dd_X10_court 26 rfl) (v := 3) (by decide) ?_
    refine V_bipush (pc := 47) hG (dk dd_X10_court 27 rfl) (v := 8) (by decide) ?_
    refine V_callVip (pc := 49) hG (dk dd_X10_court 28 rfl) ml_X10_140 mo_X10_number sh_67 rfl (m_number p37.1 (lo := 3) (hi := 8) rfl (by decide) (fun _ => rfl) (by decide)) (by decide) (by decide) rfl rfl rfl (fun x49 m49 p49 => ?_)
    refine V_iast (pc := 52) hG (dk dd_X10_court 29 rfl) sh_72 rr0 ?_
    refine V_aload_n (pc := 53) hG (dk dd_X10_court 30 rfl) rfl ?_
    refine V_bipush (pc := 54) hG (dk dd_X10_court 31 rfl) (v := 44) (by decide) ?_
    refine V_callVvp (pc := 56) hG (dk dd_X10_court 32 rfl) ml_X10_147 mo_X10_mustSign sh_67 rfl (m_mustSign (p49.2.1.set (by decide) (by decide)) (c := 44) rfl (by decide)) (by decide) (by decide) rfl rfl rfl (fun m56 p56 => ?_)
    refine V_aload_n (pc := 59) hG (dk dd_X10_court 33 rfl) rfl ?_
    refine V_getR (pc := 60) hG (dk dd_X10_court 34 rfl) fl_X10_22 sh_67 rfl ?_
    refine V_iconst (pc := 63) hG (dk dd_X10_court 35 rfl) (v := 1) (by decide) ?_
    refine V_aload_n (pc := 64) hG (dk dd_X10_court 36 rfl) rfl ?_
    refine V_iconst (pc := 65) hG (dk dd_X10_court 37 rfl) (v := 0) (by decide) ?_
    refine V_bipush (pc := 66) hG (dk dd_X10_court 38 rfl) (v := 8) (by decide) ?_
    refine V_callVip (pc := 68) hG (dk dd_X10_court 39 rfl) ml_X10_140 mo_X10_number sh_67 rfl (m_number p56.1 (lo := 0) (hi := 8) rfl (by decide) (fun _ => rfl) (by decide)) (by decide) (by decide) rfl rfl rfl (fun x68 m68 p68 => ?_)
    refine V_iast (pc := 71) hG (dk dd_X10_court 40 rfl) sh_72 rr1 ?_
    refine V_aload_n (pc := 72) hG (dk dd_X10_court 41 rfl) rfl ?_
    refine V_bipush (pc := 73) hG (dk dd_X10_court 42 rfl) (v := 44) (by decide) ?_
    refine V_callVvp (pc := 75) hG (dk dd_X10_court 43 rfl) ml_X10_147 mo_X10_mustSign sh_67 rfl (m_mustSign (p68.2.1.set (by decide) (by decide)) (c := 44) rfl (by decide)) (by decide) (by decide) rfl rfl rfl (fun m75 p75 => ?_)
    refine V_aload_n (pc := 78) hG (dk dd_X10_court 44 rfl) rfl ?_
    refine V_getR (pc := 79) hG (dk dd_X10_court 45 rfl) fl_X10_22 sh_67 rfl ?_
    refine V_iconst (pc := 82) hG (dk dd_X10_court 46 rfl) (v := 2) (by decide) ?_
    refine V_aload_n (pc := 83) hG (dk dd_X10_court 47 rfl) rfl ?_
    refine V_iconst (pc := 84) hG (dk dd_X10_court 48 rfl) (v := 1) (by decide) ?_
    refine V_bipush (pc := 85) hG (dk dd_X10_court 49 rfl) (v := 9) (by decide) ?_
    refine V_callVip (pc := 87) hG (dk dd_X10_court 50 rfl) ml_X10_140 mo_X10_number sh_67 rfl (m_number p75.1 (lo := 1) (hi := 9) rfl (by decide) (fun _ => rfl) (by decide)) (by decide) (by decide) rfl rfl rfl (fun x87 m87 p87 => ?_)
    refine V_iast (pc := 90) hG (dk dd_X10_court 51 rfl) sh_72 rr2 ?_
    refine V_aload_n (pc := 91) hG (dk dd_X10_court 52 rfl) rfl ?_
    refine V_bipush (pc := 92) hG (dk dd_X10_court 53 rfl) (v := 59) (by decide) ?_
    refine V_callVvp (pc := 94) hG (dk dd_X10_court 54 rfl) ml_X10_147 mo_X10_mustSign sh_67 rfl (m_mustSign (p87.2.1.set (by decide) (by decide)) (c := 59) rfl (by decide)) (by decide) (by decide) rfl rfl rfl (fun m94 p94 => ?_)
    rotate_left
    -- leaves: stop 97
    · obtain ⟨rfl, _⟩ := p34
      have e1 := q1.trans (lawS_e2 τ n (0, 0) cz)
      refine L97 m94 ?_ ((((((((g2.tr p37.2.f).tr p49.2.2.f).tr (OffF.set _ _)).tr p56.2.f).tr p68.2.2.f).tr (OffF.set _ _)).tr p75.2.f).tr ((p87.2.2.f.tr (OffF.set _ _)).tr p94.2.f))
      rw [e1]
      refine ⟨p94.1, fun z => ?_⟩
      have z1 := pasS_0 z
      have z2 := pasS_0 (numS_ge z1).2
      have z3 := pasS_0 (numS_ge z2).2
      rw [p94.2.1 72 (by decide), setc_s, p87.2.2.1 72 (by decide), p75.2.1 72 (by decide), setc_s, p68.2.2.1 72 (by decide), p56.2.1 72 (by decide), setc_s, p49.2.2.1 72 (by decide), p37.2.1 72 (by decide), p87.1 z1, p68.1 z2, p49.1 z3]
      exact ((g3.put (i := 0) (by decide)).put (i := 1) (by decide)).put (i := 2) (by decide)
  have zero : ∀ k i m, i + k = 46 → PsS m τ n (0, 0) → OffF (th0 μ) m → (∀ q, q < i → m 72 q = 0) → V C 11 [(0, vR 67), (1, vI (nI i))] [] m := by
    intro k
    induction k with
    | zero =>
      intro i m hi g1 g2 g3
      refine V_iload_n (pc := 11) hG (dk dd_X10_court 7 rfl) rfl ?_
      refine V_bipush (pc := 12) hG (dk dd_X10_court 8 rfl) (v := 46) (by decide) ?_
      refine V_icmp_ge (pc := 14) hG (dk dd_X10_court 9 rfl) (tgt := 30) (by decide) (fun h14 => ?_) (fun h14 => ?_)
      refine V_keep [0] (lv' := [(0, _)]) rfl ?_
      rotate_left
      rotate_left
      -- leaves: stop 30; stop 17
      · refine L30 m g1 g2 ⟨⟨fun j hj => ?_, fun x h _ _ q => absurd q (Nat.not_lt_zero h), fun x h _ _ q => absurd q (Nat.not_lt_zero h)⟩, fun c hc => g3 _ (by omega)⟩
        rw [kap_0]; have := q_pm j hj; exact g3 _ (by omega)
      · exfalso; have := nle_i (a := 46) h14 (by omega) (by omega); omega
    | succ k ih =>
      intro i m hi g1 g2 g3
      have r : vp_in (nI i) 46 := vp_in_nI (by omega) (by decide)
      refine V_iload_n (pc := 11) hG (dk dd_X10_court 7 rfl) rfl ?_
      refine V_bipush (pc := 12) hG (dk dd_X10_court 8 rfl) (v := 46) (by decide) ?_
      refine V_icmp_ge (pc := 14) hG (dk dd_X10_court 9 rfl) (tgt := 30) (by decide) (fun h14 => ?_) (fun h14 => ?_)
      rotate_left
      refine V_aload_n (pc := 17) hG (dk dd_X10_court 10 rfl) rfl ?_
      refine V_getR (pc := 18) hG (dk dd_X10_court 11 rfl) fl_X10_22 sh_67 rfl ?_
      refine V_iload_n (pc := 21) hG (dk dd_X10_court 12 rfl) rfl ?_
      refine V_iconst (pc := 22) hG (dk dd_X10_court 13 rfl) (v := 0) (by decide) ?_
      refine V_iast (pc := 23) hG (dk dd_X10_court 14 rfl) sh_72 r ?_
      refine V_iinc (pc := 24) hG (dk dd_X10_court 15 rfl) rfl (v := _ + 1) rfl (by decide) (lv' := [(0, _), (1, _)]) rfl ?_
      refine V_goto (pc := 27) hG (dk dd_X10_court 16 rfl) (tgt := 11) (by decide) ?_
      rotate_left
      -- leaves: stop 30; stop 11
      · exfalso; have := le_i (a := 46) h14 (by omega) (by omega); omega
      · rw [← nI_succ, nI_clamp (by omega)]
        refine ih (i + 1) _ (by omega) (g1.set (by decide) (by decide)) (g2.tr (OffF.set _ _)) (fun q hq => ?_)
        rw [setc_s]
        by_cases z : q = i
        · rw [z, upd_s]
        · rw [upd_n z]; exact g3 q (by omega)
  have hT0 : TpM (th0 μ) τ n := ⟨by rw [th 11 (by decide)]; exact hT.1, hT.2.1, fun k hk => by rw [th' 75 (by decide)]; exact hT.2.2 k hk⟩
  refine V_aload_n (pc := 0) hG (dk dd_X10_court 0 rfl) rfl ?_
  refine V_iconst (pc := 1) hG (dk dd_X10_court 1 rfl) (v := 0) (by decide) ?_
  refine V_putI (pc := 2) hG (dk dd_X10_court 2 rfl) fl_X10_62 sh_67 rfl rfl ?_
  refine V_aload_n (pc := 5) hG (dk dd_X10_court 3 rfl) rfl ?_
  refine V_callVvp (pc := 6) hG (dk dd_X10_court 4 rfl) ml_X10_150 mo_X10_begin sh_67 rfl (m_begin (μ := th0 μ) hT0) (by decide) (by decide) rfl rfl rfl (fun m6 p6 => ?_)
  refine V_iconst (pc := 9) hG (dk dd_X10_court 5 rfl) (v := 0) (by decide) ?_
  refine V_istore_n (pc := 10) hG (dk dd_X10_court 6 rfl) (by decide) (lv' := [(0, _), (1, _)]) rfl ?_
  rotate_left
  -- leaves: stop 11
  · exact zero 46 0 m6 (by omega) p6.1 p6.2.f (fun q hq => by omega)
theorem m_court {μ : Mem} {τ : Nat → Nat} {n : Nat} (hT : TpM μ τ n) : CtP yX10_court cX10_court 2 (some .int) 5 [vR 67] μ (Pi (CrQ (allS τ n) μ)) :=
  m_court0 hT (rd1_e τ n) (rd2_e τ n) (rd3_e τ n) (rd4_e τ n) (allS_e τ n) (rd1_3 τ n) (rd1_f τ n) (rd2_f τ n) (rd3_f τ n)
