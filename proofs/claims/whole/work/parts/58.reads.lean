/-! ===== the model: reading ===== -/
def OffF (μ μ' : Mem) : Prop := (∀ j, j ≠ 67 → j ≠ 72 → μ' j = μ j) ∧ ∀ q, (q < 12 ∨ 17 < q) → μ' 67 q = μ 67 q
theorem OffF.tr {μ1 μ2 μ3 : Mem} (h : OffF μ1 μ2) (k : OffF μ2 μ3) : OffF μ1 μ3 := ⟨fun j a b => (k.1 j a b).trans (h.1 j a b), fun q hq => (k.2 q hq).trans (h.2 q hq)⟩
theorem OffT.f {μ μ' : Mem} (h : OffT μ μ') : OffF μ μ' := ⟨fun j a _ => h.1 j a, h.2⟩
theorem OffF.set (μ : Mem) (f : Nat → Int32) : OffF μ (setc μ 72 f) := ⟨fun j _ b => setc_n b, fun q _ => by rw [setc_n (by decide)]⟩
def AbF (f : Nat → Int32) (α : Al) : Prop := Abs (kap f) α ∧ ∀ c, c < 5 → f (29 + 4 * c) = 0
def FrS (μ : Mem) (τ : Nat → Nat) (n : Nat) (q : Rd) : Prop := PsS μ τ n q.1 ∧ (q.1.2 = 0 → AbF (μ 72) q.2)
theorem q_pmi : ∀ i, i < 8 → ∀ j, j < 8 → pmN i = pmN j → i = j := by decide
theorem kap_put {f : Nat → Int32} {α : Al} {i v : Nat} (h : Abs (kap f) α) (hi : i < 6) : Abs (kap (upd f (pmN i) (nI v))) (updA α 0 i v) := by
  have hp := q_pm i (by omega)
  have e6 : updA α 0 i v 0 6 = α 0 6 := updA_n (by omega)
  have e7 : updA α 0 i v 0 7 = α 0 7 := updA_n (by omega)
  refine ⟨fun j hj => ?_, fun x k q1 q2 q3 => ?_, fun x k q1 q2 q3 => ?_⟩
  · rw [kap_0]
    by_cases z : j = i
    · rw [z, upd_s, updA_s]
    · rw [upd_n (fun w => z (q_pmi j hj i (by omega) w)), updA_n (by omega)]
      have := h.1 j hj; rw [kap_0] at this; exact this
  · rw [e6] at q3
    rw [kap_h q1 q2, upd_n (by omega), updA_n (by omega)]
    have := h.2.1 x k q1 q2 q3; rw [kap_h q1 q2] at this; exact this
  · rw [e7] at q3
    rw [kap_c q1, upd_n (by omega), updA_n (by omega)]
    have := h.2.2 x k q1 q2 q3; rw [kap_c q1] at this; exact this
theorem AbF.put {f : Nat → Int32} {α : Al} {i v : Nat} (h : AbF f α) (hi : i < 6) : AbF (upd f (pmN i) (nI v)) (updA α 0 i v) :=
  ⟨kap_put h.1 hi, fun c hc => by have := q_pm i (by omega); rw [upd_n (by omega)]; exact h.2 c hc⟩
theorem AbF.hum {f : Nat → Int32} {α : Al} {k a b : Nat} (h : AbF f α) (hH : α 0 6 < 6) :
    AbF (upd (upd (upd (upd f (8 + 3 * α 0 6) (nI k)) (8 + 3 * α 0 6 + 1) (nI a)) (8 + 3 * α 0 6 + 2) (nI b)) 3 (nI (α 0 6 + 1))) (updA (updA (updA (updA α 1 (α 0 6) k) 2 (α 0 6) a) 3 (α 0 6) b) 0 6 (α 0 6 + 1)) := by
  refine ⟨⟨fun j hj => ?_, fun x q q1 q2 q3 => ?_, fun x q q1 q2 q3 => ?_⟩, fun c hc => ?_⟩
  · rw [kap_0]
    have hp := q_pm j hj
    by_cases z : j = 6
    · rw [z, updA_s]; rfl
    · rw [upd_n (show pmN j ≠ 3 from fun w => z (q_pmi j hj 6 (by decide) w)), upd_n (by omega), upd_n (by omega), upd_n (by omega), updA_n (by omega), updA_n (by omega), updA_n (by omega), updA_n (by omega)]
      have := h.1.1 j hj; rw [kap_0] at this; exact this
  · rw [updA_s] at q3
    rw [kap_h q1 q2]
    by_cases z : q = α 0 6
    · subst z
      rw [upd_n (by omega)]
      rcases (show x = 1 ∨ x = 2 ∨ x = 3 by omega) with rfl | rfl | rfl
      · rw [upd_n (by omega), upd_n (by omega), show 7 + 3 * α 0 6 + 1 = 8 + 3 * α 0 6 by omega, upd_s, updA_n (by omega), updA_n (by omega), updA_n (by omega), updA_s]
      · rw [upd_n (by omega), show 7 + 3 * α 0 6 + 2 = 8 + 3 * α 0 6 + 1 by omega, upd_s, updA_n (by omega), updA_n (by omega), updA_s]
      · rw [show 7 + 3 * α 0 6 + 3 = 8 + 3 * α 0 6 + 2 by omega, upd_s, updA_n (by omega), updA_s]
    · rw [upd_n (by omega), upd_n (by omega), upd_n (by omega), upd_n (by omega), updA_n (by omega), updA_n (by omega), updA_n (by omega), updA_n (by omega)]
      have := h.1.2.1 x q q1 q2 (by omega); rw [kap_h q1 q2] at this; exact this
  · rw [updA_n (by omega), updA_n (by omega), updA_n (by omega), updA_n (by omega)] at q3
    rw [kap_c q1, upd_n (by omega), upd_n (by omega), upd_n (by omega), upd_n (by omega), updA_n (by omega), updA_n (by omega), updA_n (by omega), updA_n (by omega)]
    have := h.1.2.2 x q q1 q2 q3; rw [kap_c q1] at this; exact this
  · rw [upd_n (by omega), upd_n (by omega), upd_n (by omega), upd_n (by omega)]; exact h.2 c hc
theorem AbF.case {f : Nat → Int32} {α : Al} {k a b : Nat} (h : AbF f α) (hH : α 0 6 ≤ 6) (hC : α 0 7 < 5) (h7 : ∀ c, α 7 c = 0) :
    AbF (upd (upd (upd (upd f (26 + 4 * α 0 7) (nI k)) (26 + 4 * α 0 7 + 1) (nI a)) (26 + 4 * α 0 7 + 2) (nI b)) 4 (nI (α 0 7 + 1))) (updA (updA (updA (updA α 4 (α 0 7) k) 5 (α 0 7) a) 6 (α 0 7) b) 0 7 (α 0 7 + 1)) := by
  refine ⟨⟨fun j hj => ?_, fun x q q1 q2 q3 => ?_, fun x q q1 q2 q3 => ?_⟩, fun c hc => ?_⟩
  · rw [kap_0]
    have hp := q_pm j hj
    by_cases z : j = 7
    · rw [z, updA_s]; rfl
    · rw [upd_n (show pmN j ≠ 4 from fun w => z (q_pmi j hj 7 (by decide) w)), upd_n (by omega), upd_n (by omega), upd_n (by omega), updA_n (by omega), updA_n (by omega), updA_n (by omega), updA_n (by omega)]
      have := h.1.1 j hj; rw [kap_0] at this; exact this
  · rw [updA_n (by omega), updA_n (by omega), updA_n (by omega), updA_n (by omega)] at q3
    rw [kap_h q1 q2, upd_n (by omega), upd_n (by omega), upd_n (by omega), upd_n (by omega), updA_n (by omega), updA_n (by omega), updA_n (by omega), updA_n (by omega)]
    have := h.1.2.1 x q q1 q2 q3; rw [kap_h q1 q2] at this; exact this
  · rw [updA_s] at q3
    rw [kap_c q1]
    by_cases z : q = α 0 7
    · subst z
      rw [upd_n (by omega)]
      rcases (show x = 4 ∨ x = 5 ∨ x = 6 ∨ x = 7 by omega) with rfl | rfl | rfl | rfl
      · rw [upd_n (by omega), upd_n (by omega), show 22 + 4 * α 0 7 + 4 = 26 + 4 * α 0 7 by omega, upd_s, updA_n (by omega), updA_n (by omega), updA_n (by omega), updA_s]
      · rw [upd_n (by omega), show 22 + 4 * α 0 7 + 5 = 26 + 4 * α 0 7 + 1 by omega, upd_s, updA_n (by omega), updA_n (by omega), updA_s]
      · rw [show 22 + 4 * α 0 7 + 6 = 26 + 4 * α 0 7 + 2 by omega, upd_s, updA_n (by omega), updA_s]
      · rw [upd_n (by omega), upd_n (by omega), upd_n (by omega), updA_n (by omega), updA_n (by omega), updA_n (by omega), updA_n (by omega), h7, show 22 + 4 * α 0 7 + 7 = 29 + 4 * α 0 7 by omega]
        exact h.2 _ hC
    · rw [upd_n (by omega), upd_n (by omega), upd_n (by omega), upd_n (by omega), updA_n (by omega), updA_n (by omega), updA_n (by omega), updA_n (by omega)]
      have := h.1.2.2 x q q1 q2 (by omega); rw [kap_c q1] at this; exact this
  · rw [upd_n (by omega), upd_n (by omega), upd_n (by omega), upd_n (by omega)]; exact h.2 c hc
theorem nm1 {t : Nat} (h : 1 ≤ t) : nI t - 1 = nI (t - 1) := by rw [show (1 : Int32) = nI 1 from rfl, pk_sub h]
theorem numS_mono {τ : Nat → Nat} {n lo hi : Nat} {s : Pf} (h : (numS τ n lo hi s).2.2 = 0) : s.1 + 1 ≤ (numS τ n lo hi s).2.1 := by
  unfold numS at h ⊢
  split at h
  · rename_i h0
    rw [if_pos h0]
    split at h
    · cases h
    · rename_i h1
      rw [if_neg h1]
      split at h
      · rename_i h2; rw [if_pos h2]; show s.1 + 1 ≤ s.1 + fgN τ n s.1; omega
      · cases h
  · rename_i h0; exact absurd h h0
set_option maxHeartbeats 1000000 in
theorem m_readDream {μ : Mem} {τ : Nat → Nat} {n : Nat} {q : Rd} (hF : FrS μ τ n q) (h0 : q.1.2 = 0 → 1 ≤ q.2 0 0) (h8 : q.2 0 0 ≤ 8) (h3 : q.2 0 3 = 0) :
    CtP yX10_readDream cX10_readDream 3 none 4 [vR 67] μ (Pv (fun μ' => FrS μ' τ n (drmS τ n q) ∧ OffF μ μ')) := by
  refine CtP.go RX10 rfl pn_X10 (Nat.le_of_ble_eq_true rfl) (fun C hG hR => ?_)
  have r0 : vp_in (0 : Int32) 46 := vp_in_nI (n := 0) (by decide) (by decide)
  have r6 : vp_in (6 : Int32) 46 := vp_in_nI (n := 6) (by decide) (by decide)
  -- from a number to the next sign
  have step : ∀ (k : Nat), (∀ (s : Pf) (α : Al) (m : Mem) (a b : Int32), (s.2 = 0 → n ≤ s.1 + k) → FrS m τ n (s, α) → OffF μ m → (s.2 = 0 → q.1.2 = 0) → α 0 0 = q.2 0 0 → α 0 3 < 256 → (pasS τ n 59 (drlS τ n k (s, α)).1, (drlS τ n k (s, α)).2) = drmS τ n q → V C 50 [(0, vR 67), (1, vI a), (2, vI b)] [] m) →
      ∀ (s : Pf) (α : Al) (m : Mem), (s.2 = 0 → n ≤ s.1 + (k + 1)) → FrS m τ n (s, α) → OffF μ m → (s.2 = 0 → q.1.2 = 0) → α 0 0 = q.2 0 0 → α 0 3 < 256 → (pasS τ n 59 (drlS τ n k ((thiS τ n α s).2, updA α 0 3 (α 0 3 ||| 2 ^ (thiS τ n α s).1))).1, (drlS τ n k ((thiS τ n α s).2, updA α 0 3 (α 0 3 ||| 2 ^ (thiS τ n α s).1))).2) = drmS τ n q → V C 16 [(0, vR 67), (1, vI 1)] [] m := by
    intro k ih s α m g1 g2 g3 g4 g5 g6 g7
    have hy : s.2 = 0 → m 72 (Int32.toNatClampNeg 0) - 1 = nI (α 0 0 - 1) := fun z => by
      have := (g2.2 z).1.1 0 (by decide); rw [kap_0] at this
      rw [show m 72 (Int32.toNatClampNeg 0) = nI (α 0 0) from this, nm1 (by rw [g5]; exact h0 (g4 z))]
    have ht := thiS_lt (τ := τ) (n := n) (α := α) (s := s) (by rw [g5]; exact h8)
    have go := ih (thiS τ n α s).2 (updA α 0 3 (α 0 3 ||| 2 ^ (thiS τ n α s).1))
    refine V_aload_n (pc := 16) hG (dk dd_X10_readDream 9 rfl) rfl ?_
    refine V_iconst (pc := 17) hG (dk dd_X10_readDream 10 rfl) (v := 0) (by decide) ?_
    refine V_aload_n (pc := 18) hG (dk dd_X10_readDream 11 rfl) rfl ?_
    refine V_getR (pc := 19) hG (dk dd_X10_readDream 12 rfl) fl_X10_22 sh_67 rfl ?_
    refine V_iconst (pc := 22) hG (dk dd_X10_readDream 13 rfl) (v := 0) (by decide) ?_
    refine V_iald (pc := 23) hG (dk dd_X10_readDream 14 rfl) sh_72 r0 ?_
    refine V_iconst (pc := 24) hG (dk dd_X10_readDream 15 rfl) (v := 1) (by decide) ?_
    refine V_isub (pc := 25) hG (dk dd_X10_readDream 16 rfl) ?_
    refine V_callVip (pc := 26) hG (dk dd_X10_readDream 17 rfl) ml_X10_140 mo_X10_number sh_67 rfl (m_number g2.1 (lo := 0) (hi := α 0 0 - 1) rfl (by decide) hy (by omega)) (by decide) (by decide) rfl rfl rfl (fun x26 m26 p26 => ?_)
    refine V_istore_n (pc := 29) hG (dk dd_X10_readDream 18 rfl) (by decide) (lv' := [(0, _), (1, _), (2, _)]) rfl ?_
    refine V_aload_n (pc := 30) hG (dk dd_X10_readDream 19 rfl) rfl ?_
    refine V_getI (pc := 31) hG (dk dd_X10_readDream 20 rfl) fl_X10_93 sh_67 rfl ?_
    refine V_if_ne (pc := 34) hG (dk dd_X10_readDream 21 rfl) (tgt := 50) (by decide) (fun h34 => ?_) (fun h34 => ?_)
    rotate_left
    refine V_aload_n (pc := 37) hG (dk dd_X10_readDream 22 rfl) rfl ?_
    refine V_getR (pc := 38) hG (dk dd_X10_readDream 23 rfl) fl_X10_22 sh_67 rfl ?_
    refine V_bipush (pc := 41) hG (dk dd_X10_readDream 24 rfl) (v := 6) (by decide) ?_
    refine V_dup2 (pc := 43) hG (dk dd_X10_readDream 25 rfl) rfl rfl ?_
    refine V_iald (pc := 44) hG (dk dd_X10_readDream 26 rfl) sh_72 r6 ?_
    refine V_iconst (pc := 45) hG (dk dd_X10_readDream 27 rfl) (v := 1) (by decide) ?_
    refine V_iload_n (pc := 46) hG (dk dd_X10_readDream 28 rfl) rfl ?_
    refine V_ishl (pc := 47) hG (dk dd_X10_readDream 29 rfl) ?_
    refine V_ior (pc := 48) hG (dk dd_X10_readDream 30 rfl) ?_
    refine V_iast (pc := 49) hG (dk dd_X10_readDream 31 rfl) sh_72 r6 ?_
    rotate_left
    -- leaves: stop 50; stop 50
    · obtain ⟨_, b2, b3⟩ := p26
      have nz : ¬ (thiS τ n α s).2.2 = 0 := fun z => h34 (b2.f0.mpr z)
      exact go _ _ _ (fun z => absurd z nz) ⟨b2, fun z => absurd z nz⟩ (g3.tr b3.f) (fun z => absurd z nz) (by rw [updA_n (by omega)]; exact g5) (by rw [updA_s]; exact or_lt (t := 8) g6 ht) g7
    · obtain ⟨b1, b2, b3⟩ := p26
      have zz : (thiS τ n α s).2.2 = 0 := b2.f0.mp h34
      have z0 := (numS_ge zz).2
      have e6 : m26 72 (Int32.toNatClampNeg 6) = nI (α 0 3) := by
        have := (g2.2 z0).1.1 3 (by decide); rw [kap_0] at this
        rw [b3.1 72 (by decide)]; exact this
      have b1 : x26 = nI (thiS τ n α s).1 := b1 zz
      rw [b1, e6, bI_eq, q_or _ g6 _ ht]
      refine go _ _ _ (fun _ => ?_) ⟨b2.set (by decide) (by decide), fun _ => ?_⟩ ((g3.tr b3.f).tr (OffF.set _ _)) (fun _ => g4 z0) (by rw [updA_n (by omega)]; exact g5) (by rw [updA_s]; exact or_lt (t := 8) g6 ht) g7
      · have := numS_mono zz
        have := g1 z0
        show n ≤ (numS τ n 0 (α 0 0 - 1) s).2.1 + k
        omega
      · rw [setc_s, b3.1 72 (by decide)]
        exact (g2.2 z0).put (i := 3) (by decide)
  have fin : ∀ (s : Pf) (α : Al) (m : Mem) (a b : Int32), FrS m τ n (s, α) → OffF μ m → (pasS τ n 59 s, α) = drmS τ n q → V C 70 [(0, vR 67), (1, vI a), (2, vI b)] [] m := by
    intro s α m a b g1 g2 g3
    refine V_aload_n (pc := 70) hG (dk dd_X10_readDream 42 rfl) rfl ?_
    refine V_bipush (pc := 71) hG (dk dd_X10_readDream 43 rfl) (v := 59) (by decide) ?_
    refine V_callVvp (pc := 73) hG (dk dd_X10_readDream 44 rfl) ml_X10_147 mo_X10_mustSign sh_67 rfl (m_mustSign g1.1 (c := 59) rfl (by decide)) (by decide) (by decide) rfl rfl rfl (fun m73 p73 => ?_)
    refine V_vretP (pc := 76) hG (dk dd_X10_readDream 45 rfl) hR (Pv.mk ?_)
    rotate_left
    -- leaves: return@76
    · rw [← g3]
      exact ⟨⟨p73.1, fun z => by rw [p73.2.1 72 (by decide)]; exact g1.2 (pasS_0 z)⟩, g2.tr p73.2.f⟩
  have loop : ∀ (k : Nat) (s : Pf) (α : Al) (m : Mem) (a b : Int32), (s.2 = 0 → n ≤ s.1 + k) → FrS m τ n (s, α) → OffF μ m → (s.2 = 0 → q.1.2 = 0) → α 0 0 = q.2 0 0 → α 0 3 < 256 → (pasS τ n 59 (drlS τ n k (s, α)).1, (drlS τ n k (s, α)).2) = drmS τ n q → V C 50 [(0, vR 67), (1, vI a), (2, vI b)] [] m := by
    intro k
    induction k with
    | zero =>
      intro s α m a b g1 g2 g3 g4 g5 g6 g7
      refine V_aload_n (pc := 50) hG (dk dd_X10_readDream 32 rfl) rfl ?_
      refine V_bipush (pc := 51) hG (dk dd_X10_readDream 33 rfl) (v := 44) (by decide) ?_
      refine V_callVip (pc := 53) hG (dk dd_X10_readDream 34 rfl) ml_X10_144 mo_X10_isSign sh_67 rfl (m_isSign g2.1 (c := 44) rfl (by decide)) (by decide) (by decide) rfl rfl rfl (fun x53 m53 p53 => ?_)
      refine V_istore_n (pc := 56) hG (dk dd_X10_readDream 35 rfl) (by decide) (lv' := [(0, _), (1, _), (2, _)]) rfl ?_
      refine V_iload_n (pc := 57) hG (dk dd_X10_readDream 36 rfl) rfl ?_
      refine V_if_eq (pc := 58) hG (dk dd_X10_readDream 37 rfl) (tgt := 67) (by decide) (fun h58 => ?_) (fun h58 => ?_)
      refine V_goto (pc := 67) hG (dk dd_X10_readDream 41 rfl) (tgt := 12) (by decide) ?_
      refine V_iload_n (pc := 12) hG (dk dd_X10_readDream 7 rfl) rfl ?_
      refine V_if_eq (pc := 13) hG (dk dd_X10_readDream 8 rfl) (tgt := 70) (by decide) (fun h13 => ?_) (fun h13 => ?_)
      rotate_left
      rotate_left
      rotate_left
      -- leaves: stop 70; stop 16; stop 61
      · obtain ⟨rfl, z⟩ := p53
        exact fin s α m53 _ _ g2 g3 g7
      · exact absurd h58 h13
      · exfalso
        have z := p53.2.yes h58
        have w1 : n ≤ s.1 + 0 := g1 z.1
        have w2 : s.1 < n := z.2.1
        omega
    | succ k ih =>
      intro s α m a b g1 g2 g3 g4 g5 g6 g7
      rw [drlS_s] at g7
      refine V_aload_n (pc := 50) hG (dk dd_X10_readDream 32 rfl) rfl ?_
      refine V_bipush (pc := 51) hG (dk dd_X10_readDream 33 rfl) (v := 44) (by decide) ?_
      refine V_callVip (pc := 53) hG (dk dd_X10_readDream 34 rfl) ml_X10_144 mo_X10_isSign sh_67 rfl (m_isSign g2.1 (c := 44) rfl (by decide)) (by decide) (by decide) rfl rfl rfl (fun x53 m53 p53 => ?_)
      refine V_istore_n (pc := 56) hG (dk dd_X10_readDream 35 rfl) (by decide) (lv' := [(0, _), (1, _), (2, _)]) rfl ?_
      refine V_iload_n (pc := 57) hG (dk dd_X10_readDream 36 rfl) rfl ?_
      refine V_if_eq (pc := 58) hG (dk dd_X10_readDream 37 rfl) (tgt := 67) (by decide) (fun h58 => ?_) (fun h58 => ?_)
      refine V_goto (pc := 67) hG (dk dd_X10_readDream 41 rfl) (tgt := 12) (by decide) ?_
      refine V_iload_n (pc := 12) hG (dk dd_X10_readDream 7 rfl) rfl ?_
      refine V_if_eq (pc := 13) hG (dk dd_X10_readDream 8 rfl) (tgt := 70) (by decide) (fun h13 => ?_) (fun h13 => ?_)
      rotate_left
      refine V_keep [0, 1] (lv' := [(0, _), (1, _)]) rfl ?_
      rotate_left
      refine V_aload_n (pc := 61) hG (dk dd_X10_readDream 38 rfl) rfl ?_
      refine V_bipush (pc := 62) hG (dk dd_X10_readDream 39 rfl) (v := 44) (by decide) ?_
      refine V_callVvp (pc := 64) hG (dk dd_X10_readDream 40 rfl) ml_X10_147 mo_X10_mustSign sh_67 rfl (m_mustSign (p53.1 ▸ g2.1) (c := 44) rfl (by decide)) (by decide) (by decide) rfl rfl rfl (fun m64 p64 => ?_)
      refine V_goto (pc := 67) hG (dk dd_X10_readDream 41 rfl) (tgt := 12) (by decide) ?_
      refine V_iload_n (pc := 12) hG (dk dd_X10_readDream 7 rfl) rfl ?_
      refine V_if_eq (pc := 13) hG (dk dd_X10_readDream 8 rfl) (tgt := 70) (by decide) (fun h13 => ?_) (fun h13 => ?_)
      rotate_left
      refine V_keep [0, 1] (lv' := [(0, _), (1, _)]) rfl ?_
      rotate_left
      -- leaves: stop 70; stop 16; stop 70; stop 16
      · obtain ⟨rfl, z⟩ := p53
        rw [if_neg (z.no h58)] at g7
        exact fin s α m53 _ _ g2 g3 g7
      · exact absurd h58 h13
      · exact absurd h13 h58
      · obtain ⟨rfl, z⟩ := p53
        have e1 : x53 = 1 := z.bool.resolve_left h58
        have z := z.yes h58
        rw [if_pos z] at g7
        rw [e1]
        have ps : pasS τ n 44 s = (s.1 + 1, 0) := by unfold pasS; rw [if_pos z]
        refine step k ih (pasS τ n 44 s) α m64 (fun _ => ?_) ⟨p64.1, fun _ => by rw [p64.2.1 72 (by decide)]; exact g2.2 z.1⟩ (g3.tr p64.2.f) (fun _ => g4 z.1) g5 g6 g7
        rw [ps]; have w1 : n ≤ s.1 + (k + 1) := g1 z.1
        show n ≤ s.1 + 1 + (k + 1); omega
  have n120 : n ≤ 120 := hF.1.1.2.1
  refine V_aload_n (pc := 0) hG (dk dd_X10_readDream 0 rfl) rfl ?_
  refine V_aload_n (pc := 1) hG (dk dd_X10_readDream 1 rfl) rfl ?_
  refine V_bipush (pc := 2) hG (dk dd_X10_readDream 2 rfl) (v := 100) (by decide) ?_
  refine V_callVip (pc := 4) hG (dk dd_X10_readDream 3 rfl) ml_X10_137 mo_X10_isLetter sh_67 rfl (m_isLetter hF.1 (c := 100) rfl (by decide)) (by decide) (by decide) rfl rfl rfl (fun x4 m4 p4 => ?_)
  refine V_callVvp (pc := 7) hG (dk dd_X10_readDream 4 rfl) ml_X10_127 mo_X10_must sh_67 rfl (m_mustL (p4.1 ▸ hF.1) (c := 100) (by decide) p4.2) (by decide) (by decide) rfl rfl rfl (fun m7 p7 => ?_)
  refine V_iconst (pc := 10) hG (dk dd_X10_readDream 5 rfl) (v := 1) (by decide) ?_
  refine V_istore_n (pc := 11) hG (dk dd_X10_readDream 6 rfl) (by decide) (lv' := [(0, _), (1, _)]) rfl ?_
  refine V_iload_n (pc := 12) hG (dk dd_X10_readDream 7 rfl) rfl ?_
  refine V_if_eq (pc := 13) hG (dk dd_X10_readDream 8 rfl) (tgt := 70) (by decide) (fun h13 => ?_) (fun h13 => ?_)
  rotate_left
  rotate_left
  -- leaves: stop 70; stop 16
  · exact absurd h13 (by decide)
  · obtain ⟨rfl, z⟩ := p4
    refine step 120 (loop 120) (pasS τ n 100 q.1) q.2 m7 (fun _ => by omega) ⟨p7.1, fun w => by rw [p7.2.1 72 (by decide)]; exact hF.2 (pasS_0 w)⟩ p7.2.f (fun w => pasS_0 w) rfl (by omega) ?_
    rw [h3, Nat.zero_or]; rfl
