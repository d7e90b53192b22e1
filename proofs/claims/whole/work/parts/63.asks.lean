theorem jud1 {α : Al} {c D : Nat} : judN α c D = 1 ↔ (D.testBit (α 6 c) = true ∧ ¬ D.testBit (α 5 c) = true) := by
  unfold judN
  by_cases a : D.testBit (α 5 c) = true
  · rw [if_pos a]; exact ⟨fun q => absurd q (by decide), fun q => absurd a q.2⟩
  · rw [if_neg a]
    by_cases b : D.testBit (α 6 c) = true
    · rw [if_pos b]; exact ⟨fun _ => ⟨b, a⟩, fun _ => rfl⟩
    · rw [if_neg b]; exact ⟨fun q => absurd q (by decide), fun q => absurd q.1 b⟩
theorem m_appeal {μ : Mem} {α : Al} {As : Nat → Al} {L : Nat} (hA : Abs (kap (μ 71)) α) (hz : Vz α) (hG0 : RgM μ As L) (hO : AsO As L) {x : Int32} : CtP yX10_appeal cX10_appeal 3 (some .int) 2 [vR 67, vI x] μ (Pi (fun r μ' => r = (appF α x).1 ∧ OutM μ As L α (appF α x).2 μ')) := by
  refine CtP.go RX10 rfl pn_X10 (Nat.le_of_ble_eq_true rfl) (fun C hG hR => ?_)
  have hC := hz.C
  have r6 : vp_in (6 : Int32) 46 := rr (n := 6) (by decide)
  have hA' : Abs (kap (th0 μ 71)) α := hA
  by_cases hi : inN x (α 0 7)
  · obtain ⟨hx, hh⟩ := hi.n (by omega)
    have hv := hz.vc hh
    have hD := hv.lt hv.D
    have ht := hv.t
    obtain ⟨k4, k5, k6, k7⟩ := hv.c hh
    have e5 : μ 71 (26 + 4 * x.toNatClampNeg + 1) = nI (α 5 x.toNatClampNeg) := m_e4 hA hh (by decide)
    have e6 : μ 71 (26 + 4 * x.toNatClampNeg + 2) = nI (α 6 x.toNatClampNeg) := m_e4 hA hh (by decide)
    have e7 : μ 71 (26 + 4 * x.toNatClampNeg + 3) = nI (α 7 x.toNatClampNeg) := m_e4 hA hh (by decide)
    have i3 : (26 : Int32) + 4 * x + 3 = nI (26 + 4 * x.toNatClampNeg + 3) := by
      have := ix4 (h := x.toNatClampNeg) (v := 3)
      rw [← hx] at this; exact this
    have rx : vp_in ((26 : Int32) + 4 * x + 3) 46 := by rw [i3]; exact rr (by omega)
    have fin : ∀ (m : Mem) (y : Int32), KpM L (th0 μ) m → α 7 x.toNatClampNeg = 2 → is1 y (judN α x.toNatClampNeg (α 0 3) = 1) → V C 85 [(0, vR 67), (1, vI x)] [vI y] m := by
      intro m y g1 g2 g3
      have c71 := g1.c71
      refine V_istore_n (pc := 85) hG (dk dd_X10_appeal 45 rfl) (by decide) (lv' := [(0, _), (1, _), (2, _)]) rfl ?_
      refine V_aload_n (pc := 86) hG (dk dd_X10_appeal 46 rfl) rfl ?_
      refine V_getR (pc := 87) hG (dk dd_X10_appeal 47 rfl) fl_X10_19 sh_67 rfl ?_
      refine V_bipush (pc := 90) hG (dk dd_X10_appeal 48 rfl) (v := 26) (by decide) ?_
      refine V_iconst (pc := 92) hG (dk dd_X10_appeal 49 rfl) (v := 4) (by decide) ?_
      refine V_iload_n (pc := 93) hG (dk dd_X10_appeal 50 rfl) rfl ?_
      refine V_imul (pc := 94) hG (dk dd_X10_appeal 51 rfl) ?_
      refine V_iadd (pc := 95) hG (dk dd_X10_appeal 52 rfl) ?_
      refine V_iconst (pc := 96) hG (dk dd_X10_appeal 53 rfl) (v := 3) (by decide) ?_
      refine V_iadd (pc := 97) hG (dk dd_X10_appeal 54 rfl) ?_
      refine V_iload_n (pc := 98) hG (dk dd_X10_appeal 55 rfl) rfl ?_
      refine V_if_eq (pc := 99) hG (dk dd_X10_appeal 56 rfl) (tgt := 106) (by decide) (fun h99 => ?_) (fun h99 => ?_)
      refine V_iconst (pc := 106) hG (dk dd_X10_appeal 59 rfl) (v := 3) (by decide) ?_
      refine V_iast (pc := 107) hG (dk dd_X10_appeal 60 rfl) sh_71 rx ?_
      refine V_iload_n (pc := 108) hG (dk dd_X10_appeal 61 rfl) rfl ?_
      refine V_if_eq (pc := 109) hG (dk dd_X10_appeal 62 rfl) (tgt := 116) (by decide) (fun h109 => ?_) (fun h109 => ?_)
      refine V_iconst (pc := 116) hG (dk dd_X10_appeal 65 rfl) (v := 0) (by decide) ?_
      refine V_iretP (pc := 117) hG (dk dd_X10_appeal 66 rfl) hR (Pi.mk ?_)
      rotate_left
      refine V_iconst (pc := 112) hG (dk dd_X10_appeal 63 rfl) (v := 1) (by decide) ?_
      refine V_goto (pc := 113) hG (dk dd_X10_appeal 64 rfl) (tgt := 117) (by decide) ?_
      refine V_iretP (pc := 117) hG (dk dd_X10_appeal 66 rfl) hR (Pi.mk ?_)
      rotate_left
      refine V_iconst (pc := 102) hG (dk dd_X10_appeal 57 rfl) (v := 0) (by decide) ?_
      refine V_goto (pc := 103) hG (dk dd_X10_appeal 58 rfl) (tgt := 107) (by decide) ?_
      refine V_iast (pc := 107) hG (dk dd_X10_appeal 60 rfl) sh_71 rx ?_
      refine V_iload_n (pc := 108) hG (dk dd_X10_appeal 61 rfl) rfl ?_
      refine V_if_eq (pc := 109) hG (dk dd_X10_appeal 62 rfl) (tgt := 116) (by decide) (fun h109 => ?_) (fun h109 => ?_)
      refine V_iconst (pc := 116) hG (dk dd_X10_appeal 65 rfl) (v := 0) (by decide) ?_
      refine V_iretP (pc := 117) hG (dk dd_X10_appeal 66 rfl) hR (Pi.mk ?_)
      rotate_left
      refine V_iconst (pc := 112) hG (dk dd_X10_appeal 63 rfl) (v := 1) (by decide) ?_
      refine V_goto (pc := 113) hG (dk dd_X10_appeal 64 rfl) (tgt := 117) (by decide) ?_
      refine V_iretP (pc := 117) hG (dk dd_X10_appeal 66 rfl) hR (Pi.mk ?_)
      rotate_left
      -- leaves: return@117; return@117; return@117; return@117
      · have ef : appF α x = (0, some (updA α 7 x.toNatClampNeg 3)) := by unfold appF; rw [if_pos hi, if_pos g2, if_neg (g3.no h99)]
        rw [ef]
        refine ⟨rfl, Or.inr ⟨_, rfl, ActM.of hG0 hO hA hz.H hz.C g1 (fun j hj => setc_n hj) ?_⟩⟩
        rw [setc_s, i3, nI_clamp (by omega), c71]
        exact kap_way hA hh hC hz.H
      · exact absurd h99 h109
      · exact absurd h109 h99
      · have ef : appF α x = (1, some (updA α 7 x.toNatClampNeg 0)) := by unfold appF; rw [if_pos hi, if_pos g2, if_pos (g3.yes h99)]
        rw [ef]
        refine ⟨rfl, Or.inr ⟨_, rfl, ActM.of hG0 hO hA hz.H hz.C g1 (fun j hj => setc_n hj) ?_⟩⟩
        rw [setc_s, i3, nI_clamp (by omega), c71]
        exact kap_way hA hh hC hz.H
    refine V_aload_n (pc := 0) hG (dk dd_X10_appeal 0 rfl) rfl ?_
    refine V_iconst (pc := 1) hG (dk dd_X10_appeal 1 rfl) (v := 0) (by decide) ?_
    refine V_putI (pc := 2) hG (dk dd_X10_appeal 2 rfl) fl_X10_62 sh_67 rfl rfl ?_
    refine V_aload_n (pc := 5) hG (dk dd_X10_appeal 3 rfl) rfl ?_
    refine V_iload_n (pc := 6) hG (dk dd_X10_appeal 4 rfl) rfl ?_
    refine V_callVip (pc := 7) hG (dk dd_X10_appeal 5 rfl) ml_X10_207 mo_X10_isCase sh_67 rfl (m_isCase (n := α 0 7) (by omega) (e_sc hA' (i := 7) (by decide))) (by decide) (by decide) rfl rfl rfl (fun x7 m7 p7 => ?_)
    refine V_if_ne (pc := 10) hG (dk dd_X10_appeal 6 rfl) (tgt := 16) (by decide) (fun h10 => ?_) (fun h10 => ?_)
    refine V_aload_n (pc := 16) hG (dk dd_X10_appeal 9 rfl) rfl ?_
    refine V_getR (pc := 17) hG (dk dd_X10_appeal 10 rfl) fl_X10_19 sh_67 rfl ?_
    refine V_iload_n (pc := 20) hG (dk dd_X10_appeal 11 rfl) rfl ?_
    refine V_iconst (pc := 21) hG (dk dd_X10_appeal 12 rfl) (v := 3) (by decide) ?_
    refine V_callSip (pc := 22) hG (dk dd_X10_appeal 13 rfl) ml_X10_188 mo_X10_its (m_its sh_71 hx (by omega) (v := 3) rfl (by decide)) (by decide) (by decide) rfl rfl rfl (fun x22 m22 p22 => ?_)
    refine V_iconst (pc := 25) hG (dk dd_X10_appeal 14 rfl) (v := 2) (by decide) ?_
    refine V_icmp_eq (pc := 26) hG (dk dd_X10_appeal 15 rfl) (tgt := 32) (by decide) (fun h26 => ?_) (fun h26 => ?_)
    refine V_aload_n (pc := 32) hG (dk dd_X10_appeal 18 rfl) rfl ?_
    refine V_callVvp (pc := 33) hG (dk dd_X10_appeal 19 rfl) ml_X10_204 mo_X10_keep sh_67 rfl (m_keep (n := L) hG0.2.1 (by rw [p22.1, p7.1]; exact (th0_s (by decide)).trans hG0.1)) (by decide) (by decide) rfl rfl rfl (fun m33 p33 => ?_)
    refine V_aload_n (pc := 36) hG (dk dd_X10_appeal 20 rfl) rfl ?_
    refine V_getR (pc := 37) hG (dk dd_X10_appeal 21 rfl) fl_X10_19 sh_67 rfl ?_
    refine V_bipush (pc := 40) hG (dk dd_X10_appeal 22 rfl) (v := 6) (by decide) ?_
    refine V_iald (pc := 42) hG (dk dd_X10_appeal 23 rfl) sh_71 r6 ?_
    refine V_aload_n (pc := 43) hG (dk dd_X10_appeal 24 rfl) rfl ?_
    refine V_getR (pc := 44) hG (dk dd_X10_appeal 25 rfl) fl_X10_19 sh_67 rfl ?_
    refine V_iload_n (pc := 47) hG (dk dd_X10_appeal 26 rfl) rfl ?_
    refine V_iconst (pc := 48) hG (dk dd_X10_appeal 27 rfl) (v := 2) (by decide) ?_
    refine V_callSip (pc := 49) hG (dk dd_X10_appeal 28 rfl) ml_X10_188 mo_X10_its (m_its sh_71 hx (by omega) (v := 2) rfl (by decide)) (by decide) (by decide) rfl rfl rfl (fun x49 m49 p49 => ?_)
    refine V_callSip (pc := 52) hG (dk dd_X10_appeal 29 rfl) ml_X10_181 mo_X10_has (m_has (D := α 0 3) (by rw [p33.c71, p22.1, p7.1]; exact e_sc hA (i := 3) (by decide)) hD (K := α 6 x.toNatClampNeg) (by rw [p49.2, p33.c71, p22.1, p7.1]; exact e6) (by omega)) (by decide) (by decide) rfl rfl rfl (fun x52 m52 p52 => ?_)
    refine V_if_eq (pc := 55) hG (dk dd_X10_appeal 30 rfl) (tgt := 84) (by decide) (fun h55 => ?_) (fun h55 => ?_)
    refine V_iconst (pc := 84) hG (dk dd_X10_appeal 44 rfl) (v := 0) (by decide) ?_
    rotate_left
    refine V_aload_n (pc := 58) hG (dk dd_X10_appeal 31 rfl) rfl ?_
    refine V_getR (pc := 59) hG (dk dd_X10_appeal 32 rfl) fl_X10_19 sh_67 rfl ?_
    refine V_bipush (pc := 62) hG (dk dd_X10_appeal 33 rfl) (v := 6) (by decide) ?_
    refine V_iald (pc := 64) hG (dk dd_X10_appeal 34 rfl) sh_71 r6 ?_
    refine V_aload_n (pc := 65) hG (dk dd_X10_appeal 35 rfl) rfl ?_
    refine V_getR (pc := 66) hG (dk dd_X10_appeal 36 rfl) fl_X10_19 sh_67 rfl ?_
    refine V_iload_n (pc := 69) hG (dk dd_X10_appeal 37 rfl) rfl ?_
    refine V_iconst (pc := 70) hG (dk dd_X10_appeal 38 rfl) (v := 1) (by decide) ?_
    refine V_callSip (pc := 71) hG (dk dd_X10_appeal 39 rfl) ml_X10_188 mo_X10_its (m_its sh_71 hx (by omega) (v := 1) rfl (by decide)) (by decide) (by decide) rfl rfl rfl (fun x71 m71 p71 => ?_)
    refine V_callSip (pc := 74) hG (dk dd_X10_appeal 40 rfl) ml_X10_181 mo_X10_has (m_has (D := α 0 3) (by rw [p52.1, p49.1, p33.c71, p22.1, p7.1]; exact e_sc hA (i := 3) (by decide)) hD (K := α 5 x.toNatClampNeg) (by rw [p71.2, p52.1, p49.1, p33.c71, p22.1, p7.1]; exact e5) (by omega)) (by decide) (by decide) rfl rfl rfl (fun x74 m74 p74 => ?_)
    refine V_if_ne (pc := 77) hG (dk dd_X10_appeal 41 rfl) (tgt := 84) (by decide) (fun h77 => ?_) (fun h77 => ?_)
    refine V_iconst (pc := 84) hG (dk dd_X10_appeal 44 rfl) (v := 0) (by decide) ?_
    rotate_left
    refine V_iconst (pc := 80) hG (dk dd_X10_appeal 42 rfl) (v := 1) (by decide) ?_
    refine V_goto (pc := 81) hG (dk dd_X10_appeal 43 rfl) (tgt := 85) (by decide) ?_
    rotate_left
    refine V_ldc (pc := 29) hG (dk dd_X10_appeal 16 rfl) kk_X10_210 ?_
    refine V_iretP (pc := 31) hG (dk dd_X10_appeal 17 rfl) hR (Pi.mk ?_)
    rotate_left
    refine V_ldc (pc := 13) hG (dk dd_X10_appeal 7 rfl) kk_X10_82 ?_
    refine V_iretP (pc := 15) hG (dk dd_X10_appeal 8 rfl) hR (Pi.mk ?_)
    rotate_left
    -- leaves: stop 85; stop 85; stop 85; return@31; return@15
    all_goals (first | exact absurd hi (p7.2.no h10) | skip)
    all_goals (obtain ⟨rfl, z⟩ := p7; obtain ⟨rfl, q⟩ := p22)
    · have g2 : α 7 x.toNatClampNeg = 2 := by
        rw [q] at h26
        have h26 : μ 71 (26 + 4 * x.toNatClampNeg + 3) = 2 := h26
        rw [e7] at h26
        exact (nI_eq (b := 2) (by omega) (by decide)).mp h26
      have em : m52 = m33 := p52.1.trans p49.1
      rw [em]
      exact fin _ 0 p33 g2 (is1.f (fun w => p52.2.no h55 (jud1.mp w).1))
    · have g2 : α 7 x.toNatClampNeg = 2 := by
        rw [q] at h26
        have h26 : μ 71 (26 + 4 * x.toNatClampNeg + 3) = 2 := h26
        rw [e7] at h26
        exact (nI_eq (b := 2) (by omega) (by decide)).mp h26
      have em : m74 = m33 := p74.1.trans (p71.1.trans (p52.1.trans p49.1))
      rw [em]
      exact fin _ 0 p33 g2 (is1.f (fun w => (jud1.mp w).2 (p74.2.yes h77)))
    · have g2 : α 7 x.toNatClampNeg = 2 := by
        rw [q] at h26
        have h26 : μ 71 (26 + 4 * x.toNatClampNeg + 3) = 2 := h26
        rw [e7] at h26
        exact (nI_eq (b := 2) (by omega) (by decide)).mp h26
      have em : m74 = m33 := p74.1.trans (p71.1.trans (p52.1.trans p49.1))
      rw [em]
      exact fin _ 1 p33 g2 (is1.t (jud1.mpr ⟨p52.2.yes h55, p74.2.no h77⟩))
    · have h0 : α 7 x.toNatClampNeg ≠ 2 := fun w => h26 (by
        rw [q]
        show μ 71 (26 + 4 * x.toNatClampNeg + 3) = 2
        rw [e7, w]; rfl)
      have ef : appF α x = (-1000002, none) := by unfold appF; rw [if_pos hi, if_neg h0]
      rw [ef]; exact ⟨rfl, Or.inl ⟨rfl, rfl⟩⟩
  · have ef : appF α x = (-1000001, none) := by unfold appF; rw [if_neg hi]
    refine V_aload_n (pc := 0) hG (dk dd_X10_appeal 0 rfl) rfl ?_
    refine V_iconst (pc := 1) hG (dk dd_X10_appeal 1 rfl) (v := 0) (by decide) ?_
    refine V_putI (pc := 2) hG (dk dd_X10_appeal 2 rfl) fl_X10_62 sh_67 rfl rfl ?_
    refine V_aload_n (pc := 5) hG (dk dd_X10_appeal 3 rfl) rfl ?_
    refine V_iload_n (pc := 6) hG (dk dd_X10_appeal 4 rfl) rfl ?_
    refine V_callVip (pc := 7) hG (dk dd_X10_appeal 5 rfl) ml_X10_207 mo_X10_isCase sh_67 rfl (m_isCase (n := α 0 7) (by omega) (e_sc hA' (i := 7) (by decide))) (by decide) (by decide) rfl rfl rfl (fun x7 m7 p7 => ?_)
    refine V_if_ne (pc := 10) hG (dk dd_X10_appeal 6 rfl) (tgt := 16) (by decide) (fun h10 => ?_) (fun h10 => ?_)
    rotate_left
    refine V_ldc (pc := 13) hG (dk dd_X10_appeal 7 rfl) kk_X10_82 ?_
    refine V_iretP (pc := 15) hG (dk dd_X10_appeal 8 rfl) hR (Pi.mk ?_)
    rotate_left
    -- leaves: stop 16; return@15
    · exact absurd (p7.2.yes h10) hi
    · rw [ef]; exact ⟨rfl, Or.inl ⟨rfl, p7.1⟩⟩
def UnM (As : Nat → Al) (L : Nat) (μ : Mem) (r : Int32) (μ' : Mem) : Prop := (L = 0 ∧ r = -1000002 ∧ μ' = th0 μ) ∨ (0 < L ∧ r = nI (L - 1) ∧ (∀ j, j ≠ 67 → j ≠ 71 → μ' j = μ j) ∧ (∀ q, 1 ≤ q → q ≠ 9 → μ' 67 q = μ 67 q) ∧ Abs (kap (μ' 71)) (As 0) ∧ RgM μ' (fun i => As (i + 1)) (L - 1))
theorem m_undo {μ : Mem} {As : Nat → Al} {L : Nat} (hG0 : RgM μ As L) (hO : AsO As L) : CtP yX10_undo cX10_undo 2 (some .int) 0 [vR 67] μ (Pi (UnM As L μ)) := by
  refine CtP.go RX10 rfl pn_X10 (Nat.le_of_ble_eq_true rfl) (fun C hG hR => ?_)
  obtain ⟨g1, g2, g3⟩ := hG0
  have e9 : th0 μ 67 9 = nI L := (th0_s (by decide)).trans g1
  have loop : 0 < L → ∀ k i m, i + k = 46 → (∀ j, j ≠ 67 → j ≠ 71 → m j = μ j) → (∀ q, 1 ≤ q → q ≠ 9 → m 67 q = μ 67 q) → m 67 9 = nI (L - 1) → (∀ q, q < i → m 71 q = μ 74 (46 * (L - 1) + q)) → V C 27 [(0, vR 67), (1, vI (nI i))] [] m := by
    intro hL k
    induction k with
    | zero =>
      intro i m hi a1 a2 a3 a4
      refine V_iload_n (pc := 27) hG (dk dd_X10_undo 16 rfl) rfl ?_
      refine V_bipush (pc := 28) hG (dk dd_X10_undo 17 rfl) (v := 46) (by decide) ?_
      refine V_icmp_ge (pc := 30) hG (dk dd_X10_undo 18 rfl) (tgt := 59) (by decide) (fun h30 => ?_) (fun h30 => ?_)
      refine V_aload_n (pc := 59) hG (dk dd_X10_undo 34 rfl) rfl ?_
      refine V_getI (pc := 60) hG (dk dd_X10_undo 35 rfl) fl_X10_170 sh_67 rfl ?_
      refine V_iretP (pc := 63) hG (dk dd_X10_undo 36 rfl) hR (Pi.mk ?_)
      rotate_left
      rotate_left
      -- leaves: return@63; stop 33
      · refine Or.inr ⟨hL, a3, a1, a2, ?_, a3, by omega, fun q hq => ?_⟩
        · exact kap_cg (g3 0 hL) (hO 0 hL).1 (hO 0 hL).2 (fun q hq => by rw [a4 q (by omega)]; rfl)
        · have := g3 (q + 1) (by omega)
          rw [a1 74 (by decide) (by decide), show L - 1 - 1 - q = L - 1 - (q + 1) by omega]; exact this
      · exfalso; have := nle_i (a := 46) h30 (by omega) (by omega); omega
    | succ k ih =>
      intro i m hi a1 a2 a3 a4
      have r : vp_in (nI i) 46 := rr (by omega)
      have ix : (46 : Int32) * m 67 9 + nI i = nI (46 * (L - 1) + i) := by rw [a3, show (46 : Int32) = nI 46 from rfl, pk_mul, nI_add]
      have r2 : vp_in ((46 : Int32) * m 67 9 + nI i) 1104 := by rw [ix]; exact vp_in_nI (by omega) (by decide)
      refine V_iload_n (pc := 27) hG (dk dd_X10_undo 16 rfl) rfl ?_
      refine V_bipush (pc := 28) hG (dk dd_X10_undo 17 rfl) (v := 46) (by decide) ?_
      refine V_icmp_ge (pc := 30) hG (dk dd_X10_undo 18 rfl) (tgt := 59) (by decide) (fun h30 => ?_) (fun h30 => ?_)
      rotate_left
      refine V_aload_n (pc := 33) hG (dk dd_X10_undo 19 rfl) rfl ?_
      refine V_getR (pc := 34) hG (dk dd_X10_undo 20 rfl) fl_X10_19 sh_67 rfl ?_
      refine V_iload_n (pc := 37) hG (dk dd_X10_undo 21 rfl) rfl ?_
      refine V_aload_n (pc := 38) hG (dk dd_X10_undo 22 rfl) rfl ?_
      refine V_getR (pc := 39) hG (dk dd_X10_undo 23 rfl) fl_X10_28 sh_67 rfl ?_
      refine V_bipush (pc := 42) hG (dk dd_X10_undo 24 rfl) (v := 46) (by decide) ?_
      refine V_aload_n (pc := 44) hG (dk dd_X10_undo 25 rfl) rfl ?_
      refine V_getI (pc := 45) hG (dk dd_X10_undo 26 rfl) fl_X10_170 sh_67 rfl ?_
      refine V_imul (pc := 48) hG (dk dd_X10_undo 27 rfl) ?_
      refine V_iload_n (pc := 49) hG (dk dd_X10_undo 28 rfl) rfl ?_
      refine V_iadd (pc := 50) hG (dk dd_X10_undo 29 rfl) ?_
      refine V_iald (pc := 51) hG (dk dd_X10_undo 30 rfl) sh_74 r2 ?_
      refine V_iast (pc := 52) hG (dk dd_X10_undo 31 rfl) sh_71 r ?_
      refine V_iinc (pc := 53) hG (dk dd_X10_undo 32 rfl) rfl (v := _ + 1) rfl (by decide) (lv' := [(0, _), (1, _)]) rfl ?_
      refine V_goto (pc := 56) hG (dk dd_X10_undo 33 rfl) (tgt := 27) (by decide) ?_
      rotate_left
      -- leaves: stop 59; stop 27
      · exfalso; have := le_i (a := 46) h30 (by omega) (by omega); omega
      · rw [← nI_succ, ix, nI_clamp (by omega), nI_clamp (by omega)]
        refine ih (i + 1) _ (by omega) (fun j a b => by rw [setc_n b]; exact a1 j a b) (fun q a b => by rw [setc_n (by decide)]; exact a2 q a b) (by rw [setc_n (by decide)]; exact a3) (fun q hq => ?_)
        rw [setc_s]
        by_cases z : q = i
        · rw [z, upd_s, a1 74 (by decide) (by decide)]
        · rw [upd_n z]; exact a4 q (by omega)
  refine V_aload_n (pc := 0) hG (dk dd_X10_undo 0 rfl) rfl ?_
  refine V_iconst (pc := 1) hG (dk dd_X10_undo 1 rfl) (v := 0) (by decide) ?_
  refine V_putI (pc := 2) hG (dk dd_X10_undo 2 rfl) fl_X10_62 sh_67 rfl rfl ?_
  refine V_aload_n (pc := 5) hG (dk dd_X10_undo 3 rfl) rfl ?_
  refine V_getI (pc := 6) hG (dk dd_X10_undo 4 rfl) fl_X10_170 sh_67 rfl ?_
  refine V_if_ne (pc := 9) hG (dk dd_X10_undo 5 rfl) (tgt := 15) (by decide) (fun h9 => ?_) (fun h9 => ?_)
  refine V_aload_n (pc := 15) hG (dk dd_X10_undo 8 rfl) rfl ?_
  refine V_dup (pc := 16) hG (dk dd_X10_undo 9 rfl) rfl ?_
  refine V_getI (pc := 17) hG (dk dd_X10_undo 10 rfl) fl_X10_170 sh_67 rfl ?_
  refine V_iconst (pc := 20) hG (dk dd_X10_undo 11 rfl) (v := 1) (by decide) ?_
  refine V_isub (pc := 21) hG (dk dd_X10_undo 12 rfl) ?_
  refine V_putI (pc := 22) hG (dk dd_X10_undo 13 rfl) fl_X10_170 sh_67 rfl rfl ?_
  refine V_iconst (pc := 25) hG (dk dd_X10_undo 14 rfl) (v := 0) (by decide) ?_
  refine V_istore_n (pc := 26) hG (dk dd_X10_undo 15 rfl) (by decide) (lv' := [(0, _), (1, _)]) rfl ?_
  rotate_left
  refine V_ldc (pc := 12) hG (dk dd_X10_undo 6 rfl) kk_X10_210 ?_
  refine V_iretP (pc := 14) hG (dk dd_X10_undo 7 rfl) hR (Pi.mk ?_)
  rotate_left
  -- leaves: stop 27; return@14
  · have hL : 0 < L := by
      have : L ≠ 0 := fun z => h9 (by
        show th0 μ 67 9 = 0
        rw [e9, z]; rfl)
      omega
    refine loop hL 46 0 _ (by omega) (fun j a b => ?_) (fun q a b => ?_) ?_ (fun q hq => by omega)
    · rw [setc_n a]; exact th0_n a
    · rw [setc_s, upd_n b]; exact th0_s a
    · rw [setc_s, upd_s]
      show th0 μ 67 9 - 1 = _
      rw [e9, nm1 (by omega)]
  · have h9 : th0 μ 67 9 = 0 := h9
    rw [e9] at h9
    exact Or.inl ⟨(nI_eq (b := 0) (by omega) (by decide)).mp h9, rfl, rfl⟩
def ofhF (α : Al) (x w : Int32) : Int32 := if inN x (α 0 6) then (if w = 0 then nI (α 2 x.toNatClampNeg) else if w = 1 then nI (α 3 x.toNatClampNeg) else if w = 2 then nI (humN α x.toNatClampNeg (α 0 3)) else -1000001) else -1000001
theorem i3c {w : Int32} (h : 0 ≤ w ∧ w ≤ 2) : w = 0 ∨ w = 1 ∨ w = 2 := by
  obtain ⟨k, hk, rfl⟩ := nI_of (Int32.not_lt.mpr h.1)
  have := le_i (b := 2) h.2 hk (by decide)
  rcases (show k = 0 ∨ k = 1 ∨ k = 2 by omega) with rfl | rfl | rfl
  · exact Or.inl rfl
  · exact Or.inr (Or.inl rfl)
  · exact Or.inr (Or.inr rfl)
theorem i5c {w : Int32} (h : 0 ≤ w ∧ w ≤ 4) : w = 0 ∨ w = 1 ∨ w = 2 ∨ w = 3 ∨ w = 4 := by
  obtain ⟨k, hk, rfl⟩ := nI_of (Int32.not_lt.mpr h.1)
  have := le_i (b := 4) h.2 hk (by decide)
  rcases (show k = 0 ∨ k = 1 ∨ k = 2 ∨ k = 3 ∨ k = 4 by omega) with rfl | rfl | rfl | rfl | rfl
  · exact Or.inl rfl
  · exact Or.inr (Or.inl rfl)
  · exact Or.inr (Or.inr (Or.inl rfl))
  · exact Or.inr (Or.inr (Or.inr (Or.inl rfl)))
  · exact Or.inr (Or.inr (Or.inr (Or.inr rfl)))
theorem m_ofHum {μ : Mem} {α : Al} (hA : Abs (kap (μ 71)) α) (hz : Vz α) {x w : Int32} : CtP yX10_ofHum cX10_ofHum 3 (some .int) 2 [vR 67, vI x, vI w] μ (Pi (fun r μ' => r = ofhF α x w ∧ μ' = th0 μ)) := by
  refine CtP.go RX10 rfl pn_X10 (Nat.le_of_ble_eq_true rfl) (fun C hG hR => ?_)
  have hH := hz.H
  have r6 : vp_in (6 : Int32) 46 := rr (n := 6) (by decide)
  have hA' : Abs (kap (th0 μ 71)) α := hA
  by_cases hi : inN x (α 0 6)
  · obtain ⟨hx, hh⟩ := hi.n (by omega)
    have hv := hz.vh hh
    have e2 : μ 71 (8 + 3 * x.toNatClampNeg + 1) = nI (α 2 x.toNatClampNeg) := by have := hA.2.1 2 _ (by decide) (by decide) hh; rw [kap_h (by decide) (by decide)] at this; rw [show 8 + 3 * x.toNatClampNeg + 1 = 7 + 3 * x.toNatClampNeg + 2 by omega]; exact this
    have e3 : μ 71 (8 + 3 * x.toNatClampNeg + 2) = nI (α 3 x.toNatClampNeg) := by have := hA.2.1 3 _ (by decide) (by decide) hh; rw [kap_h (by decide) (by decide)] at this; rw [show 8 + 3 * x.toNatClampNeg + 2 = 7 + 3 * x.toNatClampNeg + 3 by omega]; exact this
    by_cases hw : 0 ≤ w ∧ w ≤ 2
    · rcases i3c hw with rfl | rfl | rfl
      · skip
        refine V_aload_n (pc := 0) hG (dk dd_X10_ofHum 0 rfl) rfl ?_
        refine V_iconst (pc := 1) hG (dk dd_X10_ofHum 1 rfl) (v := 0) (by decide) ?_
        refine V_putI (pc := 2) hG (dk dd_X10_ofHum 2 rfl) fl_X10_62 sh_67 rfl rfl ?_
        refine V_aload_n (pc := 5) hG (dk dd_X10_ofHum 3 rfl) rfl ?_
        refine V_iload_n (pc := 6) hG (dk dd_X10_ofHum 4 rfl) rfl ?_
        refine V_callVip (pc := 7) hG (dk dd_X10_ofHum 5 rfl) ml_X10_201 mo_X10_isHum sh_67 rfl (m_isHum (n := α 0 6) (by omega) (e_sc hA' (i := 6) (by decide))) (by decide) (by decide) rfl rfl rfl (fun x7 m7 p7 => ?_)
        refine V_if_eq (pc := 10) hG (dk dd_X10_ofHum 6 rfl) (tgt := 25) (by decide) (fun h10 => ?_) (fun h10 => ?_)
        rotate_left
        refine V_iload_n (pc := 13) hG (dk dd_X10_ofHum 7 rfl) rfl ?_
        refine V_i2l (pc := 14) hG (dk dd_X10_ofHum 8 rfl) ?_
        refine V_lconst (pc := 15) hG (dk dd_X10_ofHum 9 rfl) (v := 0) (by decide) ?_
        refine V_ldc2_w (pc := 16) hG (dk dd_X10_ofHum 10 rfl) kk_X10_80 ?_
        refine V_callSip (pc := 19) hG (dk dd_X10_ofHum 11 rfl) ml_X10_72 mo_X10_in (m_inI (v := 0) (lo := 0) (hi := 2) rfl rfl (by decide)) (by decide) (by decide) rfl rfl rfl (fun x19 m19 p19 => ?_)
        refine V_if_ne (pc := 22) hG (dk dd_X10_ofHum 12 rfl) (tgt := 28) (by decide) (fun h22 => ?_) (fun h22 => ?_)
        refine V_iload_n (pc := 28) hG (dk dd_X10_ofHum 15 rfl) rfl ?_
        refine V_iconst (pc := 29) hG (dk dd_X10_ofHum 16 rfl) (v := 2) (by decide) ?_
        refine V_icmp_ge (pc := 30) hG (dk dd_X10_ofHum 17 rfl) (tgt := 47) (by decide) (fun h30 => ?_) (fun h30 => ?_)
        rotate_left
        refine V_aload_n (pc := 33) hG (dk dd_X10_ofHum 18 rfl) rfl ?_
        refine V_getR (pc := 34) hG (dk dd_X10_ofHum 19 rfl) fl_X10_19 sh_67 rfl ?_
        refine V_iload_n (pc := 37) hG (dk dd_X10_ofHum 20 rfl) rfl ?_
        refine V_iconst (pc := 38) hG (dk dd_X10_ofHum 21 rfl) (v := 1) (by decide) ?_
        refine V_iload_n (pc := 39) hG (dk dd_X10_ofHum 22 rfl) rfl ?_
        refine V_iadd (pc := 40) hG (dk dd_X10_ofHum 23 rfl) ?_
        refine V_callSip (pc := 41) hG (dk dd_X10_ofHum 24 rfl) ml_X10_177 mo_X10_of (m_of sh_71 hx (by omega) (v := 1) rfl (by decide)) (by decide) (by decide) rfl rfl rfl (fun x41 m41 p41 => ?_)
        refine V_goto (pc := 44) hG (dk dd_X10_ofHum 25 rfl) (tgt := 62) (by decide) ?_
        refine V_iretP (pc := 62) hG (dk dd_X10_ofHum 34 rfl) hR (Pi.mk ?_)
        rotate_left
        rotate_left
        -- leaves: stop 25; stop 47; return@62; stop 25
        · exact absurd hi (p7.2.no h10)
        · exact absurd h30 (by decide)
        · refine ⟨?_, by rw [p41.1, p19.1, p7.1]; rfl⟩
          rw [p41.2, p19.1, p7.1]; unfold ofhF; rw [if_pos hi, if_pos rfl]; exact e2
        · exact absurd hw (p19.2.no h22)
      · skip
        refine V_aload_n (pc := 0) hG (dk dd_X10_ofHum 0 rfl) rfl ?_
        refine V_iconst (pc := 1) hG (dk dd_X10_ofHum 1 rfl) (v := 0) (by decide) ?_
        refine V_putI (pc := 2) hG (dk dd_X10_ofHum 2 rfl) fl_X10_62 sh_67 rfl rfl ?_
        refine V_aload_n (pc := 5) hG (dk dd_X10_ofHum 3 rfl) rfl ?_
        refine V_iload_n (pc := 6) hG (dk dd_X10_ofHum 4 rfl) rfl ?_
        refine V_callVip (pc := 7) hG (dk dd_X10_ofHum 5 rfl) ml_X10_201 mo_X10_isHum sh_67 rfl (m_isHum (n := α 0 6) (by omega) (e_sc hA' (i := 6) (by decide))) (by decide) (by decide) rfl rfl rfl (fun x7 m7 p7 => ?_)
        refine V_if_eq (pc := 10) hG (dk dd_X10_ofHum 6 rfl) (tgt := 25) (by decide) (fun h10 => ?_) (fun h10 => ?_)
        rotate_left
        refine V_iload_n (pc := 13) hG (dk dd_X10_ofHum 7 rfl) rfl ?_
        refine V_i2l (pc := 14) hG (dk dd_X10_ofHum 8 rfl) ?_
        refine V_lconst (pc := 15) hG (dk dd_X10_ofHum 9 rfl) (v := 0) (by decide) ?_
        refine V_ldc2_w (pc := 16) hG (dk dd_X10_ofHum 10 rfl) kk_X10_80 ?_
        refine V_callSip (pc := 19) hG (dk dd_X10_ofHum 11 rfl) ml_X10_72 mo_X10_in (m_inI (v := 1) (lo := 0) (hi := 2) rfl rfl (by decide)) (by decide) (by decide) rfl rfl rfl (fun x19 m19 p19 => ?_)
        refine V_if_ne (pc := 22) hG (dk dd_X10_ofHum 12 rfl) (tgt := 28) (by decide) (fun h22 => ?_) (fun h22 => ?_)
        refine V_iload_n (pc := 28) hG (dk dd_X10_ofHum 15 rfl) rfl ?_
        refine V_iconst (pc := 29) hG (dk dd_X10_ofHum 16 rfl) (v := 2) (by decide) ?_
        refine V_icmp_ge (pc := 30) hG (dk dd_X10_ofHum 17 rfl) (tgt := 47) (by decide) (fun h30 => ?_) (fun h30 => ?_)
        rotate_left
        refine V_aload_n (pc := 33) hG (dk dd_X10_ofHum 18 rfl) rfl ?_
        refine V_getR (pc := 34) hG (dk dd_X10_ofHum 19 rfl) fl_X10_19 sh_67 rfl ?_
        refine V_iload_n (pc := 37) hG (dk dd_X10_ofHum 20 rfl) rfl ?_
        refine V_iconst (pc := 38) hG (dk dd_X10_ofHum 21 rfl) (v := 1) (by decide) ?_
        refine V_iload_n (pc := 39) hG (dk dd_X10_ofHum 22 rfl) rfl ?_
        refine V_iadd (pc := 40) hG (dk dd_X10_ofHum 23 rfl) ?_
        refine V_callSip (pc := 41) hG (dk dd_X10_ofHum 24 rfl) ml_X10_177 mo_X10_of (m_of sh_71 hx (by omega) (v := 2) (by decide) (by decide)) (by decide) (by decide) rfl rfl rfl (fun x41 m41 p41 => ?_)
        refine V_goto (pc := 44) hG (dk dd_X10_ofHum 25 rfl) (tgt := 62) (by decide) ?_
        refine V_iretP (pc := 62) hG (dk dd_X10_ofHum 34 rfl) hR (Pi.mk ?_)
        rotate_left
        rotate_left
        -- leaves: stop 25; stop 47; return@62; stop 25
        · exact absurd hi (p7.2.no h10)
        · exact absurd h30 (by decide)
        · refine ⟨?_, by rw [p41.1, p19.1, p7.1]; rfl⟩
          rw [p41.2, p19.1, p7.1]; unfold ofhF; rw [if_pos hi, if_neg (by decide), if_pos rfl]; exact e3
        · exact absurd hw (p19.2.no h22)
      · skip
        refine V_aload_n (pc := 0) hG (dk dd_X10_ofHum 0 rfl) rfl ?_
        refine V_iconst (pc := 1) hG (dk dd_X10_ofHum 1 rfl) (v := 0) (by decide) ?_
        refine V_putI (pc := 2) hG (dk dd_X10_ofHum 2 rfl) fl_X10_62 sh_67 rfl rfl ?_
        refine V_aload_n (pc := 5) hG (dk dd_X10_ofHum 3 rfl) rfl ?_
        refine V_iload_n (pc := 6) hG (dk dd_X10_ofHum 4 rfl) rfl ?_
        refine V_callVip (pc := 7) hG (dk dd_X10_ofHum 5 rfl) ml_X10_201 mo_X10_isHum sh_67 rfl (m_isHum (n := α 0 6) (by omega) (e_sc hA' (i := 6) (by decide))) (by decide) (by decide) rfl rfl rfl (fun x7 m7 p7 => ?_)
        refine V_if_eq (pc := 10) hG (dk dd_X10_ofHum 6 rfl) (tgt := 25) (by decide) (fun h10 => ?_) (fun h10 => ?_)
        rotate_left
        refine V_iload_n (pc := 13) hG (dk dd_X10_ofHum 7 rfl) rfl ?_
        refine V_i2l (pc := 14) hG (dk dd_X10_ofHum 8 rfl) ?_
        refine V_lconst (pc := 15) hG (dk dd_X10_ofHum 9 rfl) (v := 0) (by decide) ?_
        refine V_ldc2_w (pc := 16) hG (dk dd_X10_ofHum 10 rfl) kk_X10_80 ?_
        refine V_callSip (pc := 19) hG (dk dd_X10_ofHum 11 rfl) ml_X10_72 mo_X10_in (m_inI (v := 2) (lo := 0) (hi := 2) rfl rfl (by decide)) (by decide) (by decide) rfl rfl rfl (fun x19 m19 p19 => ?_)
        refine V_if_ne (pc := 22) hG (dk dd_X10_ofHum 12 rfl) (tgt := 28) (by decide) (fun h22 => ?_) (fun h22 => ?_)
        refine V_iload_n (pc := 28) hG (dk dd_X10_ofHum 15 rfl) rfl ?_
        refine V_iconst (pc := 29) hG (dk dd_X10_ofHum 16 rfl) (v := 2) (by decide) ?_
        refine V_icmp_ge (pc := 30) hG (dk dd_X10_ofHum 17 rfl) (tgt := 47) (by decide) (fun h30 => ?_) (fun h30 => ?_)
        refine V_aload_n (pc := 47) hG (dk dd_X10_ofHum 26 rfl) rfl ?_
        refine V_getR (pc := 48) hG (dk dd_X10_ofHum 27 rfl) fl_X10_19 sh_67 rfl ?_
        refine V_iload_n (pc := 51) hG (dk dd_X10_ofHum 28 rfl) rfl ?_
        refine V_aload_n (pc := 52) hG (dk dd_X10_ofHum 29 rfl) rfl ?_
        refine V_getR (pc := 53) hG (dk dd_X10_ofHum 30 rfl) fl_X10_19 sh_67 rfl ?_
        refine V_bipush (pc := 56) hG (dk dd_X10_ofHum 31 rfl) (v := 6) (by decide) ?_
        refine V_iald (pc := 58) hG (dk dd_X10_ofHum 32 rfl) sh_71 r6 ?_
        refine V_callSip (pc := 59) hG (dk dd_X10_ofHum 33 rfl) ml_X10_191 mo_X10_hummed (m_hummed sh_71 (α := α) (by rw [p19.1, p7.1]; exact hA) hv hx hh (D := α 0 3) (by rw [p19.1, p7.1]; exact e_sc hA (i := 3) (by decide)) hv.D) (by decide) (by decide) rfl rfl rfl (fun x59 m59 p59 => ?_)
        refine V_iretP (pc := 62) hG (dk dd_X10_ofHum 34 rfl) hR (Pi.mk ?_)
        rotate_left
        rotate_left
        rotate_left
        -- leaves: stop 25; return@62; stop 33; stop 25
        · exact absurd hi (p7.2.no h10)
        · refine ⟨?_, by rw [p59.1, p19.1, p7.1]; rfl⟩
          rw [p59.2]; unfold ofhF; rw [if_pos hi, if_neg (by decide), if_neg (by decide), if_pos rfl]
        · exact absurd (by decide) h30
        · exact absurd hw (p19.2.no h22)
    · have ef : ofhF α x w = -1000001 := by
        unfold ofhF
        rw [if_pos hi, if_neg (fun z => hw (by rw [z]; decide)), if_neg (fun z => hw (by rw [z]; decide)), if_neg (fun z => hw (by rw [z]; decide))]
      refine V_aload_n (pc := 0) hG (dk dd_X10_ofHum 0 rfl) rfl ?_
      refine V_iconst (pc := 1) hG (dk dd_X10_ofHum 1 rfl) (v := 0) (by decide) ?_
      refine V_putI (pc := 2) hG (dk dd_X10_ofHum 2 rfl) fl_X10_62 sh_67 rfl rfl ?_
      refine V_aload_n (pc := 5) hG (dk dd_X10_ofHum 3 rfl) rfl ?_
      refine V_iload_n (pc := 6) hG (dk dd_X10_ofHum 4 rfl) rfl ?_
      refine V_callVip (pc := 7) hG (dk dd_X10_ofHum 5 rfl) ml_X10_201 mo_X10_isHum sh_67 rfl (m_isHum (n := α 0 6) (by omega) (e_sc hA' (i := 6) (by decide))) (by decide) (by decide) rfl rfl rfl (fun x7 m7 p7 => ?_)
      refine V_if_eq (pc := 10) hG (dk dd_X10_ofHum 6 rfl) (tgt := 25) (by decide) (fun h10 => ?_) (fun h10 => ?_)
      refine V_ldc (pc := 25) hG (dk dd_X10_ofHum 13 rfl) kk_X10_82 ?_
      refine V_iretP (pc := 27) hG (dk dd_X10_ofHum 14 rfl) hR (Pi.mk ?_)
      rotate_left
      refine V_iload_n (pc := 13) hG (dk dd_X10_ofHum 7 rfl) rfl ?_
      refine V_i2l (pc := 14) hG (dk dd_X10_ofHum 8 rfl) ?_
      refine V_lconst (pc := 15) hG (dk dd_X10_ofHum 9 rfl) (v := 0) (by decide) ?_
      refine V_ldc2_w (pc := 16) hG (dk dd_X10_ofHum 10 rfl) kk_X10_80 ?_
      refine V_callSip (pc := 19) hG (dk dd_X10_ofHum 11 rfl) ml_X10_72 mo_X10_in (m_inI (v := w) (lo := 0) (hi := 2) rfl rfl (by decide)) (by decide) (by decide) rfl rfl rfl (fun x19 m19 p19 => ?_)
      refine V_if_ne (pc := 22) hG (dk dd_X10_ofHum 12 rfl) (tgt := 28) (by decide) (fun h22 => ?_) (fun h22 => ?_)
      rotate_left
      refine V_ldc (pc := 25) hG (dk dd_X10_ofHum 13 rfl) kk_X10_82 ?_
      refine V_iretP (pc := 27) hG (dk dd_X10_ofHum 14 rfl) hR (Pi.mk ?_)
      rotate_left
      -- leaves: return@27; stop 28; return@27
      · exact absurd hi (p7.2.no h10)
      · exact absurd (p19.2.yes h22) hw
      · exact ⟨ef.symm, by rw [p19.1, p7.1]; rfl⟩
  · have ef : ofhF α x w = -1000001 := by unfold ofhF; rw [if_neg hi]
    refine V_aload_n (pc := 0) hG (dk dd_X10_ofHum 0 rfl) rfl ?_
    refine V_iconst (pc := 1) hG (dk dd_X10_ofHum 1 rfl) (v := 0) (by decide) ?_
    refine V_putI (pc := 2) hG (dk dd_X10_ofHum 2 rfl) fl_X10_62 sh_67 rfl rfl ?_
    refine V_aload_n (pc := 5) hG (dk dd_X10_ofHum 3 rfl) rfl ?_
    refine V_iload_n (pc := 6) hG (dk dd_X10_ofHum 4 rfl) rfl ?_
    refine V_callVip (pc := 7) hG (dk dd_X10_ofHum 5 rfl) ml_X10_201 mo_X10_isHum sh_67 rfl (m_isHum (n := α 0 6) (by omega) (e_sc hA' (i := 6) (by decide))) (by decide) (by decide) rfl rfl rfl (fun x7 m7 p7 => ?_)
    refine V_if_eq (pc := 10) hG (dk dd_X10_ofHum 6 rfl) (tgt := 25) (by decide) (fun h10 => ?_) (fun h10 => ?_)
    refine V_ldc (pc := 25) hG (dk dd_X10_ofHum 13 rfl) kk_X10_82 ?_
    refine V_iretP (pc := 27) hG (dk dd_X10_ofHum 14 rfl) hR (Pi.mk ?_)
    rotate_left
    rotate_left
    -- leaves: return@27; stop 13
    · exact ⟨ef.symm, p7.1⟩
    · exact absurd (p7.2.yes h10) hi
def ofcF (α : Al) (x w : Int32) : Int32 := if inN x (α 0 7) then (if 0 ≤ w ∧ w ≤ 3 then nI (α (4 + w.toNatClampNeg) x.toNatClampNeg) else if w = 4 then nI (verN α x.toNatClampNeg (α 0 3)) else -1000001) else -1000001
theorem m_ofCase {μ : Mem} {α : Al} (hA : Abs (kap (μ 71)) α) (hz : Vz α) {x w : Int32} : CtP yX10_ofCase cX10_ofCase 3 (some .int) 3 [vR 67, vI x, vI w] μ (Pi (fun r μ' => r = ofcF α x w ∧ μ' = th0 μ)) := by
  refine CtP.go RX10 rfl pn_X10 (Nat.le_of_ble_eq_true rfl) (fun C hG hR => ?_)
  have hC := hz.C
  have r6 : vp_in (6 : Int32) 46 := rr (n := 6) (by decide)
  have hA' : Abs (kap (th0 μ 71)) α := hA
  by_cases hi : inN x (α 0 7)
  · obtain ⟨hx, hh⟩ := hi.n (by omega)
    have hv := hz.vc hh
    by_cases hw : 0 ≤ w ∧ w ≤ 4
    · by_cases h4 : w = 4
      · skip
        refine V_aload_n (pc := 0) hG (dk dd_X10_ofCase 0 rfl) rfl ?_
        refine V_iconst (pc := 1) hG (dk dd_X10_ofCase 1 rfl) (v := 0) (by decide) ?_
        refine V_putI (pc := 2) hG (dk dd_X10_ofCase 2 rfl) fl_X10_62 sh_67 rfl rfl ?_
        refine V_aload_n (pc := 5) hG (dk dd_X10_ofCase 3 rfl) rfl ?_
        refine V_iload_n (pc := 6) hG (dk dd_X10_ofCase 4 rfl) rfl ?_
        refine V_callVip (pc := 7) hG (dk dd_X10_ofCase 5 rfl) ml_X10_207 mo_X10_isCase sh_67 rfl (m_isCase (n := α 0 7) (by omega) (e_sc hA' (i := 7) (by decide))) (by decide) (by decide) rfl rfl rfl (fun x7 m7 p7 => ?_)
        refine V_if_eq (pc := 10) hG (dk dd_X10_ofCase 6 rfl) (tgt := 25) (by decide) (fun h10 => ?_) (fun h10 => ?_)
        rotate_left
        refine V_iload_n (pc := 13) hG (dk dd_X10_ofCase 7 rfl) rfl ?_
        refine V_i2l (pc := 14) hG (dk dd_X10_ofCase 8 rfl) ?_
        refine V_lconst (pc := 15) hG (dk dd_X10_ofCase 9 rfl) (v := 0) (by decide) ?_
        refine V_ldc2_w (pc := 16) hG (dk dd_X10_ofCase 10 rfl) kk_X10_217 ?_
        refine V_callSip (pc := 19) hG (dk dd_X10_ofCase 11 rfl) ml_X10_72 mo_X10_in (m_inI (v := w) (lo := 0) (hi := 4) rfl rfl (by decide)) (by decide) (by decide) rfl rfl rfl (fun x19 m19 p19 => ?_)
        refine V_if_ne (pc := 22) hG (dk dd_X10_ofCase 12 rfl) (tgt := 28) (by decide) (fun h22 => ?_) (fun h22 => ?_)
        refine V_iload_n (pc := 28) hG (dk dd_X10_ofCase 15 rfl) rfl ?_
        refine V_iconst (pc := 29) hG (dk dd_X10_ofCase 16 rfl) (v := 4) (by decide) ?_
        refine V_icmp_ge (pc := 30) hG (dk dd_X10_ofCase 17 rfl) (tgt := 45) (by decide) (fun h30 => ?_) (fun h30 => ?_)
        refine V_aload_n (pc := 45) hG (dk dd_X10_ofCase 24 rfl) rfl ?_
        refine V_getR (pc := 46) hG (dk dd_X10_ofCase 25 rfl) fl_X10_19 sh_67 rfl ?_
        refine V_iload_n (pc := 49) hG (dk dd_X10_ofCase 26 rfl) rfl ?_
        refine V_aload_n (pc := 50) hG (dk dd_X10_ofCase 27 rfl) rfl ?_
        refine V_getR (pc := 51) hG (dk dd_X10_ofCase 28 rfl) fl_X10_19 sh_67 rfl ?_
        refine V_bipush (pc := 54) hG (dk dd_X10_ofCase 29 rfl) (v := 6) (by decide) ?_
        refine V_iald (pc := 56) hG (dk dd_X10_ofCase 30 rfl) sh_71 r6 ?_
        refine V_callSip (pc := 57) hG (dk dd_X10_ofCase 31 rfl) ml_X10_194 mo_X10_verdict (m_verdict sh_71 (α := α) (by rw [p19.1, p7.1]; exact hA) hv hx hh (D := α 0 3) (by rw [p19.1, p7.1]; exact e_sc hA (i := 3) (by decide)) hv.D) (by decide) (by decide) rfl rfl rfl (fun x57 m57 p57 => ?_)
        refine V_iretP (pc := 60) hG (dk dd_X10_ofCase 32 rfl) hR (Pi.mk ?_)
        rotate_left
        rotate_left
        rotate_left
        -- leaves: stop 25; return@60; stop 33; stop 25
        · exact absurd hi (p7.2.no h10)
        · refine ⟨?_, by rw [p57.1, p19.1, p7.1]; rfl⟩
          rw [p57.2]; unfold ofcF; rw [if_pos hi, if_neg (by rw [h4]; decide), if_pos h4]
        · exact absurd (by rw [h4]; decide) h30
        · exact absurd hw (p19.2.no h22)
      · have h3 : 0 ≤ w ∧ w ≤ 3 := ⟨hw.1, by rcases i5c hw with z | z | z | z | z <;> first | (rw [z]; decide) | exact absurd z h4⟩
        obtain ⟨k, hk, hwk⟩ := nI_of (Int32.not_lt.mpr h3.1)
        have hk4 := le_i (b := 3) (hwk ▸ h3.2) hk (by decide)
        refine V_aload_n (pc := 0) hG (dk dd_X10_ofCase 0 rfl) rfl ?_
        refine V_iconst (pc := 1) hG (dk dd_X10_ofCase 1 rfl) (v := 0) (by decide) ?_
        refine V_putI (pc := 2) hG (dk dd_X10_ofCase 2 rfl) fl_X10_62 sh_67 rfl rfl ?_
        refine V_aload_n (pc := 5) hG (dk dd_X10_ofCase 3 rfl) rfl ?_
        refine V_iload_n (pc := 6) hG (dk dd_X10_ofCase 4 rfl) rfl ?_
        refine V_callVip (pc := 7) hG (dk dd_X10_ofCase 5 rfl) ml_X10_207 mo_X10_isCase sh_67 rfl (m_isCase (n := α 0 7) (by omega) (e_sc hA' (i := 7) (by decide))) (by decide) (by decide) rfl rfl rfl (fun x7 m7 p7 => ?_)
        refine V_if_eq (pc := 10) hG (dk dd_X10_ofCase 6 rfl) (tgt := 25) (by decide) (fun h10 => ?_) (fun h10 => ?_)
        rotate_left
        refine V_iload_n (pc := 13) hG (dk dd_X10_ofCase 7 rfl) rfl ?_
        refine V_i2l (pc := 14) hG (dk dd_X10_ofCase 8 rfl) ?_
        refine V_lconst (pc := 15) hG (dk dd_X10_ofCase 9 rfl) (v := 0) (by decide) ?_
        refine V_ldc2_w (pc := 16) hG (dk dd_X10_ofCase 10 rfl) kk_X10_217 ?_
        refine V_callSip (pc := 19) hG (dk dd_X10_ofCase 11 rfl) ml_X10_72 mo_X10_in (m_inI (v := w) (lo := 0) (hi := 4) rfl rfl (by decide)) (by decide) (by decide) rfl rfl rfl (fun x19 m19 p19 => ?_)
        refine V_if_ne (pc := 22) hG (dk dd_X10_ofCase 12 rfl) (tgt := 28) (by decide) (fun h22 => ?_) (fun h22 => ?_)
        refine V_iload_n (pc := 28) hG (dk dd_X10_ofCase 15 rfl) rfl ?_
        refine V_iconst (pc := 29) hG (dk dd_X10_ofCase 16 rfl) (v := 4) (by decide) ?_
        refine V_icmp_ge (pc := 30) hG (dk dd_X10_ofCase 17 rfl) (tgt := 45) (by decide) (fun h30 => ?_) (fun h30 => ?_)
        rotate_left
        refine V_aload_n (pc := 33) hG (dk dd_X10_ofCase 18 rfl) rfl ?_
        refine V_getR (pc := 34) hG (dk dd_X10_ofCase 19 rfl) fl_X10_19 sh_67 rfl ?_
        refine V_iload_n (pc := 37) hG (dk dd_X10_ofCase 20 rfl) rfl ?_
        refine V_iload_n (pc := 38) hG (dk dd_X10_ofCase 21 rfl) rfl ?_
        refine V_callSip (pc := 39) hG (dk dd_X10_ofCase 22 rfl) ml_X10_188 mo_X10_its (m_its sh_71 hx (by omega) (v := k) hwk (by omega)) (by decide) (by decide) rfl rfl rfl (fun x39 m39 p39 => ?_)
        refine V_goto (pc := 42) hG (dk dd_X10_ofCase 23 rfl) (tgt := 60) (by decide) ?_
        refine V_iretP (pc := 60) hG (dk dd_X10_ofCase 32 rfl) hR (Pi.mk ?_)
        rotate_left
        rotate_left
        -- leaves: stop 25; stop 45; return@60; stop 25
        · exact absurd hi (p7.2.no h10)
        · exfalso; rw [hwk] at h30; have := le_i (a := 4) h30 (by decide) hk; omega
        · refine ⟨?_, by rw [p39.1, p19.1, p7.1]; rfl⟩
          rw [p39.2, p19.1, p7.1]; unfold ofcF; rw [if_pos hi, if_pos h3, nI_cl hwk hk]; exact m_e4 hA hh (by omega)
        · exact absurd hw (p19.2.no h22)
    · have ef : ofcF α x w = -1000001 := by
        unfold ofcF
        rw [if_pos hi, if_neg (fun z => hw ⟨z.1, by have := z.2; clear hG hR; grind⟩), if_neg (fun z => hw (by rw [z]; decide))]
      refine V_aload_n (pc := 0) hG (dk dd_X10_ofCase 0 rfl) rfl ?_
      refine V_iconst (pc := 1) hG (dk dd_X10_ofCase 1 rfl) (v := 0) (by decide) ?_
      refine V_putI (pc := 2) hG (dk dd_X10_ofCase 2 rfl) fl_X10_62 sh_67 rfl rfl ?_
      refine V_aload_n (pc := 5) hG (dk dd_X10_ofCase 3 rfl) rfl ?_
      refine V_iload_n (pc := 6) hG (dk dd_X10_ofCase 4 rfl) rfl ?_
      refine V_callVip (pc := 7) hG (dk dd_X10_ofCase 5 rfl) ml_X10_207 mo_X10_isCase sh_67 rfl (m_isCase (n := α 0 7) (by omega) (e_sc hA' (i := 7) (by decide))) (by decide) (by decide) rfl rfl rfl (fun x7 m7 p7 => ?_)
      refine V_if_eq (pc := 10) hG (dk dd_X10_ofCase 6 rfl) (tgt := 25) (by decide) (fun h10 => ?_) (fun h10 => ?_)
      refine V_ldc (pc := 25) hG (dk dd_X10_ofCase 13 rfl) kk_X10_82 ?_
      refine V_iretP (pc := 27) hG (dk dd_X10_ofCase 14 rfl) hR (Pi.mk ?_)
      rotate_left
      refine V_iload_n (pc := 13) hG (dk dd_X10_ofCase 7 rfl) rfl ?_
      refine V_i2l (pc := 14) hG (dk dd_X10_ofCase 8 rfl) ?_
      refine V_lconst (pc := 15) hG (dk dd_X10_ofCase 9 rfl) (v := 0) (by decide) ?_
      refine V_ldc2_w (pc := 16) hG (dk dd_X10_ofCase 10 rfl) kk_X10_217 ?_
      refine V_callSip (pc := 19) hG (dk dd_X10_ofCase 11 rfl) ml_X10_72 mo_X10_in (m_inI (v := w) (lo := 0) (hi := 4) rfl rfl (by decide)) (by decide) (by decide) rfl rfl rfl (fun x19 m19 p19 => ?_)
      refine V_if_ne (pc := 22) hG (dk dd_X10_ofCase 12 rfl) (tgt := 28) (by decide) (fun h22 => ?_) (fun h22 => ?_)
      rotate_left
      refine V_ldc (pc := 25) hG (dk dd_X10_ofCase 13 rfl) kk_X10_82 ?_
      refine V_iretP (pc := 27) hG (dk dd_X10_ofCase 14 rfl) hR (Pi.mk ?_)
      rotate_left
      -- leaves: return@27; stop 28; return@27
      · exact absurd hi (p7.2.no h10)
      · exact absurd (p19.2.yes h22) hw
      · exact ⟨ef.symm, by rw [p19.1, p7.1]; rfl⟩
  · have ef : ofcF α x w = -1000001 := by unfold ofcF; rw [if_neg hi]
    refine V_aload_n (pc := 0) hG (dk dd_X10_ofCase 0 rfl) rfl ?_
    refine V_iconst (pc := 1) hG (dk dd_X10_ofCase 1 rfl) (v := 0) (by decide) ?_
    refine V_putI (pc := 2) hG (dk dd_X10_ofCase 2 rfl) fl_X10_62 sh_67 rfl rfl ?_
    refine V_aload_n (pc := 5) hG (dk dd_X10_ofCase 3 rfl) rfl ?_
    refine V_iload_n (pc := 6) hG (dk dd_X10_ofCase 4 rfl) rfl ?_
    refine V_callVip (pc := 7) hG (dk dd_X10_ofCase 5 rfl) ml_X10_207 mo_X10_isCase sh_67 rfl (m_isCase (n := α 0 7) (by omega) (e_sc hA' (i := 7) (by decide))) (by decide) (by decide) rfl rfl rfl (fun x7 m7 p7 => ?_)
    refine V_if_eq (pc := 10) hG (dk dd_X10_ofCase 6 rfl) (tgt := 25) (by decide) (fun h10 => ?_) (fun h10 => ?_)
    refine V_ldc (pc := 25) hG (dk dd_X10_ofCase 13 rfl) kk_X10_82 ?_
    refine V_iretP (pc := 27) hG (dk dd_X10_ofCase 14 rfl) hR (Pi.mk ?_)
    rotate_left
    rotate_left
    -- leaves: return@27; stop 13
    · exact ⟨ef.symm, p7.1⟩
    · exact absurd (p7.2.yes h10) hi
theorem Vz.there {α : Al} {y : Int32} (hz : Vz α) (e : y = nI (α 0 0)) : 0 < y ↔ Val α := by
  have ht := hz.t
  rw [e, show (0 : Int32) = nI 0 from rfl, nI_ltI (by decide) (by omega)]
  exact ⟨fun h => hz.vt h, fun h => by have := h.t3; omega⟩
def staF (α : Al) (w : Int32) : Int32 := if 0 < α 0 0 then (if w = 0 then nI (α 0 3) else if w = 1 then nI (α 0 4) else if w = 2 then nI (thoN α 0 (α 0 7)) else if w = 3 then nI (thoN α 1 (α 0 7)) else if w = 4 then nI (thoN α 2 (α 0 7)) ||| nI (thoN α 3 (α 0 7)) else -1000001) else -1000002
theorem Val.w4 {α : Al} (h : Val α) : ∀ c, c < α 0 7 → α 7 c < 4 := fun c hc => (h.c hc).2.2.2
theorem m_stand {μ : Mem} {α : Al} (hA : Abs (kap (μ 71)) α) (hz : Vz α) {w : Int32} : CtP yX10_stand cX10_stand 2 (some .int) 2 [vR 67, vI w] μ (Pi (fun r μ' => r = staF α w ∧ μ' = th0 μ)) := by
  refine CtP.go RX10 rfl pn_X10 (Nat.le_of_ble_eq_true rfl) (fun C hG hR => ?_)
  have hC := hz.C
  have r6 : vp_in (6 : Int32) 46 := rr (n := 6) (by decide)
  have r7 : vp_in (7 : Int32) 46 := rr (n := 7) (by decide)
  have e0 : μ 71 0 = nI (α 0 0) := e_sc hA (i := 0) (by decide)
  by_cases hv : Val α
  · have h0 : 0 < α 0 0 := by have := hv.t3; omega
    have w4 := hv.w4
    refine V_aload_n (pc := 0) hG (dk dd_X10_stand 0 rfl) rfl ?_
    refine V_iconst (pc := 1) hG (dk dd_X10_stand 1 rfl) (v := 0) (by decide) ?_
    refine V_putI (pc := 2) hG (dk dd_X10_stand 2 rfl) fl_X10_62 sh_67 rfl rfl ?_
    refine V_aload_n (pc := 5) hG (dk dd_X10_stand 3 rfl) rfl ?_
    refine V_callVip (pc := 6) hG (dk dd_X10_stand 4 rfl) ml_X10_219 mo_X10_isThere sh_67 rfl (m_isThere) (by decide) (by decide) rfl rfl rfl (fun x6 m6 p6 => ?_)
    refine V_if_ne (pc := 9) hG (dk dd_X10_stand 5 rfl) (tgt := 15) (by decide) (fun h9 => ?_) (fun h9 => ?_)
    refine V_iload_n (pc := 15) hG (dk dd_X10_stand 8 rfl) rfl ?_
    refine V_tsw (pc := 16) hG (dk dd_X10_stand 9 rfl) (cs := [(0, 52), (1, 60), (2, 68), (3, 77), (4, 86)]) (td := 104) (by decide +kernel) ?_
    refine And.intro (fun h16_0 => ?_) (fun h16_0 => ?_)
    refine V_aload_n (pc := 52) hG (dk dd_X10_stand 10 rfl) rfl ?_
    refine V_getR (pc := 53) hG (dk dd_X10_stand 11 rfl) fl_X10_19 sh_67 rfl ?_
    refine V_bipush (pc := 56) hG (dk dd_X10_stand 12 rfl) (v := 6) (by decide) ?_
    refine V_iald (pc := 58) hG (dk dd_X10_stand 13 rfl) sh_71 r6 ?_
    refine V_iretP (pc := 59) hG (dk dd_X10_stand 14 rfl) hR (Pi.mk ?_)
    rotate_left
    refine And.intro (fun h16_1 => ?_) (fun h16_1 => ?_)
    refine V_aload_n (pc := 60) hG (dk dd_X10_stand 15 rfl) rfl ?_
    refine V_getR (pc := 61) hG (dk dd_X10_stand 16 rfl) fl_X10_19 sh_67 rfl ?_
    refine V_bipush (pc := 64) hG (dk dd_X10_stand 17 rfl) (v := 7) (by decide) ?_
    refine V_iald (pc := 66) hG (dk dd_X10_stand 18 rfl) sh_71 r7 ?_
    refine V_iretP (pc := 67) hG (dk dd_X10_stand 19 rfl) hR (Pi.mk ?_)
    rotate_left
    refine And.intro (fun h16_2 => ?_) (fun h16_2 => ?_)
    refine V_aload_n (pc := 68) hG (dk dd_X10_stand 20 rfl) rfl ?_
    refine V_getR (pc := 69) hG (dk dd_X10_stand 21 rfl) fl_X10_19 sh_67 rfl ?_
    refine V_iconst (pc := 72) hG (dk dd_X10_stand 22 rfl) (v := 0) (by decide) ?_
    refine V_callSip (pc := 73) hG (dk dd_X10_stand 23 rfl) ml_X10_222 mo_X10_those (m_those sh_71 (α := α) (by rw [p6.1]; exact hA) hC w4 (w := 0) rfl (by decide)) (by decide) (by decide) rfl rfl rfl (fun x73 m73 p73 => ?_)
    refine V_iretP (pc := 76) hG (dk dd_X10_stand 24 rfl) hR (Pi.mk ?_)
    rotate_left
    refine And.intro (fun h16_3 => ?_) (fun h16_3 => ?_)
    refine V_aload_n (pc := 77) hG (dk dd_X10_stand 25 rfl) rfl ?_
    refine V_getR (pc := 78) hG (dk dd_X10_stand 26 rfl) fl_X10_19 sh_67 rfl ?_
    refine V_iconst (pc := 81) hG (dk dd_X10_stand 27 rfl) (v := 1) (by decide) ?_
    refine V_callSip (pc := 82) hG (dk dd_X10_stand 28 rfl) ml_X10_222 mo_X10_those (m_those sh_71 (α := α) (by rw [p6.1]; exact hA) hC w4 (w := 1) rfl (by decide)) (by decide) (by decide) rfl rfl rfl (fun x82 m82 p82 => ?_)
    refine V_iretP (pc := 85) hG (dk dd_X10_stand 29 rfl) hR (Pi.mk ?_)
    rotate_left
    refine And.intro (fun h16_4 => ?_) (fun h16_4 => ?_)
    refine V_aload_n (pc := 86) hG (dk dd_X10_stand 30 rfl) rfl ?_
    refine V_getR (pc := 87) hG (dk dd_X10_stand 31 rfl) fl_X10_19 sh_67 rfl ?_
    refine V_iconst (pc := 90) hG (dk dd_X10_stand 32 rfl) (v := 2) (by decide) ?_
    refine V_callSip (pc := 91) hG (dk dd_X10_stand 33 rfl) ml_X10_222 mo_X10_those (m_those sh_71 (α := α) (by rw [p6.1]; exact hA) hC w4 (w := 2) rfl (by decide)) (by decide) (by decide) rfl rfl rfl (fun x91 m91 p91 => ?_)
    refine V_aload_n (pc := 94) hG (dk dd_X10_stand 34 rfl) rfl ?_
    refine V_getR (pc := 95) hG (dk dd_X10_stand 35 rfl) fl_X10_19 sh_67 rfl ?_
    refine V_iconst (pc := 98) hG (dk dd_X10_stand 36 rfl) (v := 3) (by decide) ?_
    refine V_callSip (pc := 99) hG (dk dd_X10_stand 37 rfl) ml_X10_222 mo_X10_those (m_those sh_71 (α := α) (by rw [p91.1, p6.1]; exact hA) hC w4 (w := 3) rfl (by decide)) (by decide) (by decide) rfl rfl rfl (fun x99 m99 p99 => ?_)
    refine V_ior (pc := 102) hG (dk dd_X10_stand 38 rfl) ?_
    refine V_iretP (pc := 103) hG (dk dd_X10_stand 39 rfl) hR (Pi.mk ?_)
    rotate_left
    show V _ _ _ _ _
    refine V_ldc (pc := 104) hG (dk dd_X10_stand 40 rfl) kk_X10_82 ?_
    refine V_iretP (pc := 106) hG (dk dd_X10_stand 41 rfl) hR (Pi.mk ?_)
    rotate_left
    rotate_left
    -- leaves: return@59; return@67; return@76; return@85; return@103; return@106; stop 12
    all_goals (first | exact absurd ((hz.there e0).mpr hv) (p6.2.no h9) | skip)
    · refine ⟨?_, p6.1⟩
      rw [p6.1]; unfold staF; rw [if_pos h0, if_pos h16_0]; exact e_sc hA (i := 3) (by decide)
    · refine ⟨?_, p6.1⟩
      rw [p6.1]; unfold staF; rw [if_pos h0, if_neg h16_0, if_pos h16_1]; exact e_sc hA (i := 4) (by decide)
    · refine ⟨?_, p73.1.trans p6.1⟩
      rw [p73.2]; unfold staF; rw [if_pos h0, if_neg h16_0, if_neg h16_1, if_pos h16_2]
    · refine ⟨?_, p82.1.trans p6.1⟩
      rw [p82.2]; unfold staF; rw [if_pos h0, if_neg h16_0, if_neg h16_1, if_neg h16_2, if_pos h16_3]
    · refine ⟨?_, p99.1.trans (p91.1.trans p6.1)⟩
      rw [p91.2, p99.2]; unfold staF; rw [if_pos h0, if_neg h16_0, if_neg h16_1, if_neg h16_2, if_neg h16_3, if_pos h16_4]
    · refine ⟨?_, p6.1⟩
      unfold staF; rw [if_pos h0, if_neg h16_0, if_neg h16_1, if_neg h16_2, if_neg h16_3, if_neg h16_4]
  · have h0 : ¬ 0 < α 0 0 := fun q => hv (hz.vt q)
    refine V_aload_n (pc := 0) hG (dk dd_X10_stand 0 rfl) rfl ?_
    refine V_iconst (pc := 1) hG (dk dd_X10_stand 1 rfl) (v := 0) (by decide) ?_
    refine V_putI (pc := 2) hG (dk dd_X10_stand 2 rfl) fl_X10_62 sh_67 rfl rfl ?_
    refine V_aload_n (pc := 5) hG (dk dd_X10_stand 3 rfl) rfl ?_
    refine V_callVip (pc := 6) hG (dk dd_X10_stand 4 rfl) ml_X10_219 mo_X10_isThere sh_67 rfl (m_isThere) (by decide) (by decide) rfl rfl rfl (fun x6 m6 p6 => ?_)
    refine V_if_ne (pc := 9) hG (dk dd_X10_stand 5 rfl) (tgt := 15) (by decide) (fun h9 => ?_) (fun h9 => ?_)
    rotate_left
    refine V_ldc (pc := 12) hG (dk dd_X10_stand 6 rfl) kk_X10_210 ?_
    refine V_iretP (pc := 14) hG (dk dd_X10_stand 7 rfl) hR (Pi.mk ?_)
    rotate_left
    -- leaves: stop 15; return@14
    · exact absurd ((hz.there e0).mp (p6.2.yes h9)) hv
    · refine ⟨?_, p6.1⟩
      unfold staF; rw [if_neg h0]
