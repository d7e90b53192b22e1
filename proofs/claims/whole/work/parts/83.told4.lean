/-! ===== SleepingJudge: court, what rows tell ===== -/
theorem allS_b (τ : Nat → Nat) (n : Nat) : (allS τ n).2 0 6 ≤ 6 ∧ (allS τ n).2 0 7 ≤ 5 ∧ (allS τ n).1.1 ≤ (allS τ n).1.1 := by
  have f := rd3_f τ n
  have c7 := cslS_7 τ n 120 (rd3 τ n) (by omega)
  rw [← rd4_e] at c7
  have e2 : (allS τ n).2 = (rd4 τ n).2 := by rw [allS_e]
  rw [e2]
  exact ⟨by rw [c7.2]; exact f.2.2.1, c7.1, Nat.le_refl _⟩
def CrC (al : Rd) (μ : Mem) (r : Int32) (μ' : Mem) : Prop := (∀ a, a ≠ 0 → a ≠ 13 → (a < 15 ∨ 31 < a) → a ≠ 32 → μ' a = μ a) ∧ μ' 13 = upd (μ 13) 1 0 ∧
  ((al.1.2 = 0 ∧ r = nI (al.2 0 6) ∧ Abs (kac μ' 15) al.2 ∧ μ' 32 1 = 0 ∧ μ' 32 2 = 0 ∧ μ' 0 = μ 0) ∨ (al.1.2 ≠ 0 ∧ r = -1000100 - nI al.1.1 ∧ μ' 0 = upd (μ 0) 11 (nI al.1.2) ∧ μ' 32 = μ 32 ∧ ∀ a, 15 ≤ a → a ≤ 22 → μ' a = μ a))
theorem j_court0 {μ : Mem} {τ : Nat → Nat} {n : Nat} {al : Rd} (ha : CtP yX4_readAll cX4_readAll 1 none 5 [vR 31] μ (Pv (fun μ' => RdS μ' τ n al.1 ∧ DrS μ' al.2 ∧ OffD μ μ'))) (hb : al.2 0 6 ≤ 6 ∧ al.2 0 7 ≤ 5) : CtP yX9_court cX9_court 1 (some .int) 6 [vR 0] μ (Pi (CrC al μ)) := by
  refine CtP.go RX9 rfl pn_X9 (Nat.le_of_ble_eq_true rfl) (fun C hG hR => ?_)
  refine V_aload_n (pc := 0) hG (dk dd_X9_court 0 rfl) rfl ?_
  refine V_getR (pc := 1) hG (dk dd_X9_court 1 rfl) fl_X9_38 sh_0 rfl ?_
  refine V_callVvp (pc := 4) hG (dk dd_X9_court 2 rfl) ml_X9_131 mo_X4_readAll sh_31 rfl (ha) (by decide) (by decide) rfl rfl rfl (fun m4 p4 => ?_)
  refine V_aload_n (pc := 7) hG (dk dd_X9_court 3 rfl) rfl ?_
  refine V_getR (pc := 8) hG (dk dd_X9_court 4 rfl) fl_X9_19 sh_0 rfl ?_
  refine V_callVvp (pc := 11) hG (dk dd_X9_court 5 rfl) ml_X9_134 mo_X6_clear sh_13 rfl (c_tclear) (by decide) (by decide) rfl rfl rfl (fun m11 p11 => ?_)
  refine V_aload_n (pc := 14) hG (dk dd_X9_court 6 rfl) rfl ?_
  refine V_getR (pc := 15) hG (dk dd_X9_court 7 rfl) fl_X9_38 sh_0 rfl ?_
  refine V_getI (pc := 18) hG (dk dd_X9_court 8 rfl) fl_X9_137 sh_31 rfl ?_
  refine V_if_eq (pc := 21) hG (dk dd_X9_court 9 rfl) (tgt := 46) (by decide) (fun h21 => ?_) (fun h21 => ?_)
  refine V_aload_n (pc := 46) hG (dk dd_X9_court 21 rfl) rfl ?_
  refine V_getR (pc := 47) hG (dk dd_X9_court 22 rfl) fl_X9_26 sh_0 rfl ?_
  refine V_aload_n (pc := 50) hG (dk dd_X9_court 23 rfl) rfl ?_
  refine V_getR (pc := 51) hG (dk dd_X9_court 24 rfl) fl_X9_30 sh_0 rfl ?_
  refine V_callVvp (pc := 54) hG (dk dd_X9_court 25 rfl) ml_X9_148 mo_X2_become sh_15 rfl (c_become co_now co_dra (by decide)) (by decide) (by decide) rfl rfl rfl (fun m54 p54 => ?_)
  refine V_aload_n (pc := 57) hG (dk dd_X9_court 26 rfl) rfl ?_
  refine V_getR (pc := 58) hG (dk dd_X9_court 27 rfl) fl_X9_45 sh_0 rfl ?_
  refine V_callVvp (pc := 61) hG (dk dd_X9_court 28 rfl) ml_X9_151 mo_X0_clear sh_32 rfl (c_aclear) (by decide) (by decide) rfl rfl rfl (fun m61 p61 => ?_)
  refine V_aload_n (pc := 64) hG (dk dd_X9_court 29 rfl) rfl ?_
  refine V_getR (pc := 65) hG (dk dd_X9_court 30 rfl) fl_X9_26 sh_0 rfl ?_
  refine V_getI (pc := 68) hG (dk dd_X9_court 31 rfl) fl_X9_152 sh_15 rfl ?_
  refine V_iretP (pc := 71) hG (dk dd_X9_court 32 rfl) hR (Pi.mk ?_)
  rotate_left
  refine V_aload_n (pc := 24) hG (dk dd_X9_court 10 rfl) rfl ?_
  refine V_aload_n (pc := 25) hG (dk dd_X9_court 11 rfl) rfl ?_
  refine V_getR (pc := 26) hG (dk dd_X9_court 12 rfl) fl_X9_38 sh_0 rfl ?_
  refine V_getI (pc := 29) hG (dk dd_X9_court 13 rfl) fl_X9_137 sh_31 rfl ?_
  refine V_putI (pc := 32) hG (dk dd_X9_court 14 rfl) fl_X9_141 sh_0 rfl rfl ?_
  refine V_ldc (pc := 35) hG (dk dd_X9_court 15 rfl) kk_X9_144 ?_
  refine V_aload_n (pc := 37) hG (dk dd_X9_court 16 rfl) rfl ?_
  refine V_getR (pc := 38) hG (dk dd_X9_court 17 rfl) fl_X9_38 sh_0 rfl ?_
  refine V_getI (pc := 41) hG (dk dd_X9_court 18 rfl) fl_X9_145 sh_31 rfl ?_
  refine V_isub (pc := 44) hG (dk dd_X9_court 19 rfl) ?_
  refine V_iretP (pc := 45) hG (dk dd_X9_court 20 rfl) hR (Pi.mk ?_)
  rotate_left
  -- leaves: return@71; return@45
  · obtain ⟨a1, a2, a3⟩ := p4
    have z : al.1.2 = 0 := by
      rw [p11, setc_n (by decide)] at h21
      exact a1.f0.mp h21
    have dr : Abs (kac m11 23) al.2 := by rw [p11]; exact a2.1.off (fun x hx => setc_n (by omega))
    have be := p54
    have ab := be.abs dr hb.1 hb.2
    have f54 : ∀ a, (a < 15 ∨ 22 < a) → m54 a = m11 a := fun a h => be.2 a (by omega)
    have f11 : ∀ a, a ≠ 13 → m11 a = m4 a := fun a h => by rw [p11]; exact setc_n h
    refine ⟨fun a h1 h2 h3 h4 => ?_, ?_, Or.inl ⟨z, ?_, ?_, ?_, ?_, ?_⟩⟩
    · rw [p61, setc_n h4, f54 a (by omega), f11 a h2]; exact a3 a (by omega)
    · rw [p61, setc_n (by decide), f54 13 (by decide), p11, setc_s, a3 13 (by decide)]
    · rw [p61, setc_n (by decide)]; exact ab.1 6 (by decide)
    · rw [p61]; exact ab.off (fun x hx => setc_n (by omega))
    · rw [p61, setc_s, upd_n (by decide), upd_s]
    · rw [p61, setc_s, upd_s]
    · rw [p61, setc_n (by decide), f54 0 (by decide), f11 0 (by decide)]; exact a3 0 (by decide)
  · obtain ⟨a1, a2, a3⟩ := p4
    have z : al.1.2 ≠ 0 := fun q => by
      rw [p11, setc_n (by decide)] at h21
      exact h21 (a1.f0.mpr q)
    have f11 : ∀ a, a ≠ 13 → m11 a = m4 a := fun a h => by rw [p11]; exact setc_n h
    have e31 : m11 31 = m4 31 := f11 31 (by decide)
    refine ⟨fun a h1 h2 h3 h4 => ?_, ?_, Or.inr ⟨z, ?_, ?_, ?_, fun a h1 h2 => ?_⟩⟩
    · rw [setc_n h1, f11 a h2]; exact a3 a (by omega)
    · rw [setc_n (by decide), p11, setc_s, a3 13 (by decide)]
    · rw [setc_n (by decide), e31, a1.2.1]
    · rw [setc_s, f11 0 (by decide), a3 0 (by decide), e31, a1.2.2.1]
    · rw [setc_n (by decide), f11 32 (by decide)]; exact a3 32 (by decide)
    · rw [setc_n (by omega), f11 a (by omega)]; exact a3 a (by omega)
theorem j_court {μ : Mem} {τ : Nat → Nat} {n : Nat} (hT : Tp μ τ n) : CtP yX9_court cX9_court 1 (some .int) 6 [vR 0] μ (Pi (CrC (allS τ n) μ)) := j_court0 (c_readAll hT) ⟨(allS_b τ n).1, (allS_b τ n).2.1⟩
abbrev itC (μ : Mem) : Nat → Nat → Int32 := fun n k => μ (3 + n) k
theorem inN_ex {y : Int32} {H : Nat} (hH : H ≤ 6) : inN y H ↔ ∃ h, h < H ∧ y = nI h := by
  constructor
  · intro h; exact ⟨_, (h.n (by omega)).2, (h.n (by omega)).1⟩
  · rintro ⟨h, h1, rfl⟩
    exact ⟨nI_pos' (by omega), (nI_ltI (by omega) (by omega)).mpr h1⟩
theorem TkH.hf {μ μ' : Mem} {n H m : Nat} {i k r : Int32} (hH : H ≤ 6) (h : TkH μ n H m i k r μ') : HfS (μ 11) (μ 12) (itC μ) H n m i k r := by
  have e : lookN μ n i k = lookS (μ 11) (μ 12) n i k := rfl
  rcases h with ⟨h1, h2⟩ | ⟨h1, a, h2, h3, ⟨h4, h5⟩ | ⟨h4, h5, _⟩⟩
  · rw [e] at h1; exact Or.inl ⟨by rw [← h1]; exact h2, h1⟩
  · rw [e] at h1; exact Or.inr ⟨h1, a, h2, h3, Or.inl ⟨h4, fun q => h5 (fun j hj => (inN_ex hH).mp (q j hj))⟩⟩
  · rw [e] at h1; exact Or.inr ⟨h1, a, h2, h3, Or.inr ⟨h4, fun j hj => (inN_ex hH).mpr (h5 j hj)⟩⟩
theorem TkH.told {μ μ' : Mem} {n H m : Nat} {i k : Int32} (hH : H ≤ 6) (h : TkH μ n H m i k 0 μ') : ∃ a, i = nI a ∧ a + m ≤ 40 ∧ Told μ' (hsI (itC μ) n a) m ∧ ∀ q, q < m → hsI (itC μ) n a q < H := by
  rcases h with ⟨h1, h2⟩ | ⟨h1, a, h2, h3, ⟨h4, h5⟩ | ⟨h4, h5, h6, h7⟩⟩
  · exact absurd rfl h2
  · exact absurd h4 (by decide)
  · refine ⟨a, h2, h3, ⟨h6, fun q hq => ?_⟩, fun q hq => ?_⟩
    · rw [h7 q hq]; exact (((inN_ex hH).mpr (h5 q hq)).n (by omega)).1
    · exact (((inN_ex hH).mpr (h5 q hq)).n (by omega)).2
theorem runS_N {α : Al} {hs : Nat → Nat} {n D : Nat} : ∀ k, k ≤ n → runS α hs n D k = runN α hs D k
  | 0, _ => rfl
  | k + 1, h => by rw [runS_s, runN_s, if_neg (by omega), runS_N k (by omega)]
theorem rok_l {ln mn : Nat → Int32} (h : Rok ln mn) {n : Nat} (hn : n < 8) : ∃ l, mn n = nI l ∧ l ≤ 40 := by
  obtain ⟨_, a, b⟩ := h n hn
  obtain ⟨l, hl, e⟩ := nI_of (Int32.not_lt.mpr a)
  exact ⟨l, e, le_i (b := 40) (e ▸ b) hl (by decide)⟩
theorem told_12 {k : Int32} : (1 ≤ k ∧ k ≤ 12) ↔ (1 ≤ k ∧ k ≤ 12) := Iff.rfl
theorem j_sleep {μ : Mem} {α : Al} (hA : Abs (kac μ 15) α) (hz : Vz α) (hk : Rok (μ 11) (μ 12)) {x i k : Int32} : CtP yX9_sleep cX9_sleep 5 (some .int) 5 [vR 0, vI x, vI i, vI k] μ (Pi (fun r μ' => ∃ o, SlpR α (μ 11) (μ 12) (itC μ) x i k r o ∧ FrC μ o μ')) := by
  refine CtP.go RX9 rfl pn_X9 (Nat.le_of_ble_eq_true rfl) (fun C hG hR => ?_)
  have hH := hz.H
  by_cases hv : Val α
  · have h0 := hv.p0
    by_cases hr : isR x ∧ 1 ≤ k ∧ k ≤ 12
    · obtain ⟨n, hx, hn⟩ := hr.1.n
      obtain ⟨m, hkm, m1, m2⟩ := k12 hr.2
      obtain ⟨l, hl, l40⟩ := rok_l hk hn
      refine V_aload_n (pc := 0) hG (dk dd_X9_sleep 0 rfl) rfl ?_
      refine V_getR (pc := 1) hG (dk dd_X9_sleep 1 rfl) fl_X9_26 sh_0 rfl ?_
      refine V_callVip (pc := 4) hG (dk dd_X9_sleep 2 rfl) ml_X9_219 mo_X2_isTold sh_15 rfl (k_isTold hA hz) (by decide) (by decide) rfl rfl rfl (fun x4 m4 p4 => ?_)
      refine V_if_ne (pc := 7) hG (dk dd_X9_sleep 3 rfl) (tgt := 13) (by decide) (fun h7 => ?_) (fun h7 => ?_)
      refine V_aload_n (pc := 13) hG (dk dd_X9_sleep 6 rfl) rfl ?_
      refine V_getR (pc := 14) hG (dk dd_X9_sleep 7 rfl) fl_X9_10 sh_0 rfl ?_
      refine V_iload_n (pc := 17) hG (dk dd_X9_sleep 8 rfl) rfl ?_
      refine V_callVip (pc := 18) hG (dk dd_X9_sleep 9 rfl) ml_X9_83 mo_X5_isRow sh_1 rfl (c_isRow) (by decide) (by decide) rfl rfl rfl (fun x18 m18 p18 => ?_)
      refine V_if_eq (pc := 21) hG (dk dd_X9_sleep 10 rfl) (tgt := 31) (by decide) (fun h21 => ?_) (fun h21 => ?_)
      rotate_left
      refine V_iload_n (pc := 24) hG (dk dd_X9_sleep 11 rfl) rfl ?_
      refine V_callSip (pc := 25) hG (dk dd_X9_sleep 12 rfl) ml_X9_225 mo_X9_isToldLength (c_isToldLength) (by decide) (by decide) rfl rfl rfl (fun x25 m25 p25 => ?_)
      refine V_if_ne (pc := 28) hG (dk dd_X9_sleep 13 rfl) (tgt := 34) (by decide) (fun h28 => ?_) (fun h28 => ?_)
      rotate_left
      rotate_left
      rotate_left
      -- leaves: stop 31; stop 34; stop 31; stop 10
      · exact absurd (isR_8.mpr hr.1) (p18.2.no h21)
      · have em : m25 = μ := p25.1.trans (p18.1.trans p4.1)
        rw [em]
        refine V_aload_n (pc := 34) hG (dk dd_X9_sleep 16 rfl) rfl ?_
        refine V_getR (pc := 35) hG (dk dd_X9_sleep 17 rfl) fl_X9_72 sh_0 rfl ?_
        refine V_aload_n (pc := 38) hG (dk dd_X9_sleep 18 rfl) rfl ?_
        refine V_getR (pc := 39) hG (dk dd_X9_sleep 19 rfl) fl_X9_10 sh_0 rfl ?_
        refine V_iload_n (pc := 42) hG (dk dd_X9_sleep 20 rfl) rfl ?_
        refine V_iload_n (pc := 43) hG (dk dd_X9_sleep 21 rfl) rfl ?_
        refine V_iload_n (pc := 44) hG (dk dd_X9_sleep 22 rfl) rfl ?_
        refine V_callVip (pc := 45) hG (dk dd_X9_sleep 23 rfl) ml_X9_228 mo_X7_takeHums sh_62 rfl (c_takeHums (μ := μ) hx hn hl l40 hkm m2 (H := α 0 6) (e_c hA (by decide)) hH) (by decide) (by decide) rfl rfl rfl (fun x45 m45 p45 => ?_)
        refine V_istore (pc := 48) hG (dk dd_X9_sleep 24 rfl) (by decide) (lv' := [(0, _), (1, _), (2, _), (3, _), (4, _)]) rfl ?_
        refine V_iload (pc := 50) hG (dk dd_X9_sleep 25 rfl) rfl ?_
        refine V_if_eq (pc := 52) hG (dk dd_X9_sleep 26 rfl) (tgt := 64) (by decide) (fun h52 => ?_) (fun h52 => ?_)
        rotate_left
        refine V_aload_n (pc := 55) hG (dk dd_X9_sleep 27 rfl) rfl ?_
        refine V_iload (pc := 56) hG (dk dd_X9_sleep 28 rfl) rfl ?_
        refine V_callVip (pc := 58) hG (dk dd_X9_sleep 29 rfl) ml_X9_91 mo_X9_found sh_0 rfl (c_found) (by decide) (by decide) rfl rfl rfl (fun x58 m58 p58 => ?_)
        refine V_goto (pc := 61) hG (dk dd_X9_sleep 30 rfl) (tgt := 76) (by decide) ?_
        refine V_iretP (pc := 76) hG (dk dd_X9_sleep 37 rfl) hR (Pi.mk ?_)
        rotate_left
        -- leaves: stop 64; return@76
        · obtain ⟨t2, t1⟩ := p45
          rw [h52] at t1
          obtain ⟨a, ia, ha, ht, hh⟩ := t1.told hH
          have hA2 : Abs (kac m45 15) α := hA.off (fun x hx => t2 _ (by omega) (by omega))
          refine V_aload_n (pc := 64) hG (dk dd_X9_sleep 31 rfl) rfl ?_
          refine V_aload_n (pc := 65) hG (dk dd_X9_sleep 32 rfl) rfl ?_
          refine V_getR (pc := 66) hG (dk dd_X9_sleep 33 rfl) fl_X9_72 sh_0 rfl ?_
          refine V_iconst (pc := 69) hG (dk dd_X9_sleep 34 rfl) (v := -1) (by decide) ?_
          refine V_callVip (pc := 70) hG (dk dd_X9_sleep 35 rfl) ml_X9_232 mo_X7_lastDream sh_62 rfl (c_lastDream hA2 hv ht m2 hh (Or.inr ⟨rfl, rfl⟩)) (by decide) (by decide) rfl rfl rfl (fun x70 m70 p70 => ?_)
          refine V_callVip (pc := 73) hG (dk dd_X9_sleep 36 rfl) ml_X9_99 mo_X9_fine sh_0 rfl (c_fine) (by decide) (by decide) rfl rfl rfl (fun x73 m73 p73 => ?_)
          refine V_iretP (pc := 76) hG (dk dd_X9_sleep 37 rfl) hR (Pi.mk ?_)
          rotate_left
          -- leaves: return@76
          · obtain ⟨g1, g2⟩ := p70
            obtain ⟨u1, u2⟩ := p73
            refine ⟨some 0, Or.inr (Or.inr ⟨h0, n, m, 0, hx, hn, hkm, m1, m2, t1.hf hH, rfl, Or.inr ⟨rfl, a, ia, ha, ?_⟩⟩), ?_⟩
            · rw [u2, g2, runS_N m (Nat.le_refl m)]
            · rw [u1, g1]
              exact FrC.st ((FrC.rf μ).tr (fun a b c => t2 a (by omega) (by omega))) 0
        · obtain ⟨t2, t1⟩ := p45
          obtain ⟨u1, u2⟩ := p58
          refine ⟨some x45, Or.inr (Or.inr ⟨h0, n, m, x45, hx, hn, hkm, m1, m2, t1.hf hH, rfl, Or.inl ⟨h52, ?_⟩⟩), ?_⟩
          · rw [u2]; unfold fnd; rw [if_neg h52]
          · rw [u1]
            exact FrC.st ((FrC.rf μ).tr (fun a b c => t2 a (by omega) (by omega))) _
      · exact absurd hr.2 (p25.2.no h28)
      · exact absurd hv (p4.2.no h7)
    · skip
      refine V_aload_n (pc := 0) hG (dk dd_X9_sleep 0 rfl) rfl ?_
      refine V_getR (pc := 1) hG (dk dd_X9_sleep 1 rfl) fl_X9_26 sh_0 rfl ?_
      refine V_callVip (pc := 4) hG (dk dd_X9_sleep 2 rfl) ml_X9_219 mo_X2_isTold sh_15 rfl (k_isTold hA hz) (by decide) (by decide) rfl rfl rfl (fun x4 m4 p4 => ?_)
      refine V_if_ne (pc := 7) hG (dk dd_X9_sleep 3 rfl) (tgt := 13) (by decide) (fun h7 => ?_) (fun h7 => ?_)
      refine V_aload_n (pc := 13) hG (dk dd_X9_sleep 6 rfl) rfl ?_
      refine V_getR (pc := 14) hG (dk dd_X9_sleep 7 rfl) fl_X9_10 sh_0 rfl ?_
      refine V_iload_n (pc := 17) hG (dk dd_X9_sleep 8 rfl) rfl ?_
      refine V_callVip (pc := 18) hG (dk dd_X9_sleep 9 rfl) ml_X9_83 mo_X5_isRow sh_1 rfl (c_isRow) (by decide) (by decide) rfl rfl rfl (fun x18 m18 p18 => ?_)
      refine V_if_eq (pc := 21) hG (dk dd_X9_sleep 10 rfl) (tgt := 31) (by decide) (fun h21 => ?_) (fun h21 => ?_)
      refine V_ldc (pc := 31) hG (dk dd_X9_sleep 14 rfl) kk_X9_90 ?_
      refine V_iretP (pc := 33) hG (dk dd_X9_sleep 15 rfl) hR (Pi.mk ?_)
      rotate_left
      refine V_iload_n (pc := 24) hG (dk dd_X9_sleep 11 rfl) rfl ?_
      refine V_callSip (pc := 25) hG (dk dd_X9_sleep 12 rfl) ml_X9_225 mo_X9_isToldLength (c_isToldLength) (by decide) (by decide) rfl rfl rfl (fun x25 m25 p25 => ?_)
      refine V_if_ne (pc := 28) hG (dk dd_X9_sleep 13 rfl) (tgt := 34) (by decide) (fun h28 => ?_) (fun h28 => ?_)
      rotate_left
      refine V_ldc (pc := 31) hG (dk dd_X9_sleep 14 rfl) kk_X9_90 ?_
      refine V_iretP (pc := 33) hG (dk dd_X9_sleep 15 rfl) hR (Pi.mk ?_)
      rotate_left
      rotate_left
      -- leaves: return@33; stop 34; return@33; stop 10
      · exact ⟨none, Or.inr (Or.inl ⟨h0, hr, rfl, rfl⟩), by rw [p18.1, p4.1]; exact FrC.rf μ⟩
      · exact absurd ⟨isR_8.mp (p18.2.yes h21), p25.2.yes h28⟩ hr
      · exact ⟨none, Or.inr (Or.inl ⟨h0, hr, rfl, rfl⟩), by rw [p25.1, p18.1, p4.1]; exact FrC.rf μ⟩
      · exact absurd hv (p4.2.no h7)
  · skip
    refine V_aload_n (pc := 0) hG (dk dd_X9_sleep 0 rfl) rfl ?_
    refine V_getR (pc := 1) hG (dk dd_X9_sleep 1 rfl) fl_X9_26 sh_0 rfl ?_
    refine V_callVip (pc := 4) hG (dk dd_X9_sleep 2 rfl) ml_X9_219 mo_X2_isTold sh_15 rfl (k_isTold hA hz) (by decide) (by decide) rfl rfl rfl (fun x4 m4 p4 => ?_)
    refine V_if_ne (pc := 7) hG (dk dd_X9_sleep 3 rfl) (tgt := 13) (by decide) (fun h7 => ?_) (fun h7 => ?_)
    rotate_left
    refine V_ldc (pc := 10) hG (dk dd_X9_sleep 4 rfl) kk_X9_158 ?_
    refine V_iretP (pc := 12) hG (dk dd_X9_sleep 5 rfl) hR (Pi.mk ?_)
    rotate_left
    -- leaves: stop 13; return@12
    · exact absurd (p4.2.yes h7) hv
    · exact ⟨none, Or.inl ⟨hz.n0 hv, rfl, rfl⟩, by rw [p4.1]; exact FrC.rf μ⟩
theorem j_snored {μ : Mem} {α : Al} (hA : Abs (kac μ 15) α) (hz : Vz α) (hk : Rok (μ 11) (μ 12)) {x y i k : Int32} : CtP yX9_snored cX9_snored 6 (some .int) 5 [vR 0, vI x, vI y, vI i, vI k] μ (Pi (fun r μ' => ∃ o, SnoR α (μ 11) (μ 12) (itC μ) x y i k r o ∧ FrC μ o μ')) := by
  refine CtP.go RX9 rfl pn_X9 (Nat.le_of_ble_eq_true rfl) (fun C hG hR => ?_)
  have hH := hz.H
  by_cases hv : Val α
  · have h0 := hv.p0
    have hp := pow8 hv.t
    by_cases hr : inN x (2 ^ α 0 0) ∧ isR y ∧ 1 ≤ k ∧ k ≤ 12
    · obtain ⟨hx, hxl⟩ := hr.1.n (by omega)
      obtain ⟨n, hy, hn⟩ := hr.2.1.n
      obtain ⟨m, hkm, m1, m2⟩ := k12 hr.2.2
      obtain ⟨l, hl, l40⟩ := rok_l hk hn
      refine V_aload_n (pc := 0) hG (dk dd_X9_snored 0 rfl) rfl ?_
      refine V_getR (pc := 1) hG (dk dd_X9_snored 1 rfl) fl_X9_26 sh_0 rfl ?_
      refine V_callVip (pc := 4) hG (dk dd_X9_snored 2 rfl) ml_X9_219 mo_X2_isTold sh_15 rfl (k_isTold hA hz) (by decide) (by decide) rfl rfl rfl (fun x4 m4 p4 => ?_)
      refine V_if_ne (pc := 7) hG (dk dd_X9_snored 3 rfl) (tgt := 13) (by decide) (fun h7 => ?_) (fun h7 => ?_)
      refine V_aload_n (pc := 13) hG (dk dd_X9_snored 6 rfl) rfl ?_
      refine V_getR (pc := 14) hG (dk dd_X9_snored 7 rfl) fl_X9_26 sh_0 rfl ?_
      refine V_iload_n (pc := 17) hG (dk dd_X9_snored 8 rfl) rfl ?_
      refine V_callVip (pc := 18) hG (dk dd_X9_snored 9 rfl) ml_X9_253 mo_X2_isDream sh_15 rfl (k_isDream (α := α) (by rw [p4.1]; exact hA) hv.t) (by decide) (by decide) rfl rfl rfl (fun x18 m18 p18 => ?_)
      refine V_if_eq (pc := 21) hG (dk dd_X9_snored 10 rfl) (tgt := 43) (by decide) (fun h21 => ?_) (fun h21 => ?_)
      rotate_left
      refine V_aload_n (pc := 24) hG (dk dd_X9_snored 11 rfl) rfl ?_
      refine V_getR (pc := 25) hG (dk dd_X9_snored 12 rfl) fl_X9_10 sh_0 rfl ?_
      refine V_iload_n (pc := 28) hG (dk dd_X9_snored 13 rfl) rfl ?_
      refine V_callVip (pc := 29) hG (dk dd_X9_snored 14 rfl) ml_X9_83 mo_X5_isRow sh_1 rfl (c_isRow) (by decide) (by decide) rfl rfl rfl (fun x29 m29 p29 => ?_)
      refine V_if_eq (pc := 32) hG (dk dd_X9_snored 15 rfl) (tgt := 43) (by decide) (fun h32 => ?_) (fun h32 => ?_)
      rotate_left
      refine V_iload (pc := 35) hG (dk dd_X9_snored 16 rfl) rfl ?_
      refine V_callSip (pc := 37) hG (dk dd_X9_snored 17 rfl) ml_X9_225 mo_X9_isToldLength (c_isToldLength) (by decide) (by decide) rfl rfl rfl (fun x37 m37 p37 => ?_)
      refine V_if_ne (pc := 40) hG (dk dd_X9_snored 18 rfl) (tgt := 46) (by decide) (fun h40 => ?_) (fun h40 => ?_)
      rotate_left
      rotate_left
      rotate_left
      -- leaves: stop 43; stop 43; stop 46; stop 43; stop 10
      · exact absurd hr.1 (p18.2.no h21)
      · exact absurd (isR_8.mpr hr.2.1) (p29.2.no h32)
      · have em : m37 = μ := p37.1.trans (p29.1.trans (p18.1.trans p4.1))
        rw [em]
        refine V_aload_n (pc := 46) hG (dk dd_X9_snored 21 rfl) rfl ?_
        refine V_getR (pc := 47) hG (dk dd_X9_snored 22 rfl) fl_X9_72 sh_0 rfl ?_
        refine V_aload_n (pc := 50) hG (dk dd_X9_snored 23 rfl) rfl ?_
        refine V_getR (pc := 51) hG (dk dd_X9_snored 24 rfl) fl_X9_10 sh_0 rfl ?_
        refine V_iload_n (pc := 54) hG (dk dd_X9_snored 25 rfl) rfl ?_
        refine V_iload_n (pc := 55) hG (dk dd_X9_snored 26 rfl) rfl ?_
        refine V_iload (pc := 56) hG (dk dd_X9_snored 27 rfl) rfl ?_
        refine V_callVip (pc := 58) hG (dk dd_X9_snored 28 rfl) ml_X9_228 mo_X7_takeHums sh_62 rfl (c_takeHums (μ := μ) hy hn hl l40 hkm m2 (H := α 0 6) (e_c hA (by decide)) hH) (by decide) (by decide) rfl rfl rfl (fun x58 m58 p58 => ?_)
        refine V_istore (pc := 61) hG (dk dd_X9_snored 29 rfl) (by decide) (lv' := [(0, _), (1, _), (2, _), (3, _), (4, _), (5, _)]) rfl ?_
        refine V_iload (pc := 63) hG (dk dd_X9_snored 30 rfl) rfl ?_
        refine V_if_eq (pc := 65) hG (dk dd_X9_snored 31 rfl) (tgt := 77) (by decide) (fun h65 => ?_) (fun h65 => ?_)
        rotate_left
        refine V_aload_n (pc := 68) hG (dk dd_X9_snored 32 rfl) rfl ?_
        refine V_iload (pc := 69) hG (dk dd_X9_snored 33 rfl) rfl ?_
        refine V_callVip (pc := 71) hG (dk dd_X9_snored 34 rfl) ml_X9_91 mo_X9_found sh_0 rfl (c_found) (by decide) (by decide) rfl rfl rfl (fun x71 m71 p71 => ?_)
        refine V_goto (pc := 74) hG (dk dd_X9_snored 35 rfl) (tgt := 89) (by decide) ?_
        refine V_iretP (pc := 89) hG (dk dd_X9_snored 42 rfl) hR (Pi.mk ?_)
        rotate_left
        -- leaves: stop 77; return@89
        · obtain ⟨t2, t1⟩ := p58
          rw [h65] at t1
          obtain ⟨a, ia, ha, ht, hh⟩ := t1.told hH
          have hA2 : Abs (kac m58 15) α := hA.off (fun x hx => t2 _ (by omega) (by omega))
          refine V_aload_n (pc := 77) hG (dk dd_X9_snored 36 rfl) rfl ?_
          refine V_aload_n (pc := 78) hG (dk dd_X9_snored 37 rfl) rfl ?_
          refine V_getR (pc := 79) hG (dk dd_X9_snored 38 rfl) fl_X9_72 sh_0 rfl ?_
          refine V_iload_n (pc := 82) hG (dk dd_X9_snored 39 rfl) rfl ?_
          refine V_callVip (pc := 83) hG (dk dd_X9_snored 40 rfl) ml_X9_319 mo_X7_placesNotHummed sh_62 rfl (c_placesNotHummed hA2 hv ht m2 hh hx hxl) (by decide) (by decide) rfl rfl rfl (fun x83 m83 p83 => ?_)
          refine V_callVip (pc := 86) hG (dk dd_X9_snored 41 rfl) ml_X9_99 mo_X9_fine sh_0 rfl (c_fine) (by decide) (by decide) rfl rfl rfl (fun x86 m86 p86 => ?_)
          refine V_iretP (pc := 89) hG (dk dd_X9_snored 42 rfl) hR (Pi.mk ?_)
          rotate_left
          -- leaves: return@89
          · obtain ⟨g1, g2⟩ := p83
            obtain ⟨u1, u2⟩ := p86
            refine ⟨some 0, Or.inr (Or.inr ⟨h0, hr, n, m, 0, hy, hn, hkm, m1, m2, t1.hf hH, rfl, Or.inr ⟨rfl, a, ia, ha, ?_⟩⟩), ?_⟩
            · rw [u2, g2]
            · rw [u1, g1]
              exact FrC.st ((FrC.rf μ).tr (fun a b c => t2 a (by omega) (by omega))) 0
        · obtain ⟨t2, t1⟩ := p58
          obtain ⟨u1, u2⟩ := p71
          refine ⟨some x58, Or.inr (Or.inr ⟨h0, hr, n, m, x58, hy, hn, hkm, m1, m2, t1.hf hH, rfl, Or.inl ⟨h65, ?_⟩⟩), ?_⟩
          · rw [u2]; unfold fnd; rw [if_neg h65]
          · rw [u1]
            exact FrC.st ((FrC.rf μ).tr (fun a b c => t2 a (by omega) (by omega))) _
      · exact absurd hr.2.2 (p37.2.no h40)
      · exact absurd hv (p4.2.no h7)
    · have bad : ∀ M, M = μ → ∃ o, SnoR α (μ 11) (μ 12) (itC μ) x y i k (-1000001) o ∧ FrC μ o M := fun M e => ⟨none, Or.inr (Or.inl ⟨h0, hr, rfl, rfl⟩), by rw [e]; exact FrC.rf μ⟩
      refine V_aload_n (pc := 0) hG (dk dd_X9_snored 0 rfl) rfl ?_
      refine V_getR (pc := 1) hG (dk dd_X9_snored 1 rfl) fl_X9_26 sh_0 rfl ?_
      refine V_callVip (pc := 4) hG (dk dd_X9_snored 2 rfl) ml_X9_219 mo_X2_isTold sh_15 rfl (k_isTold hA hz) (by decide) (by decide) rfl rfl rfl (fun x4 m4 p4 => ?_)
      refine V_if_ne (pc := 7) hG (dk dd_X9_snored 3 rfl) (tgt := 13) (by decide) (fun h7 => ?_) (fun h7 => ?_)
      refine V_aload_n (pc := 13) hG (dk dd_X9_snored 6 rfl) rfl ?_
      refine V_getR (pc := 14) hG (dk dd_X9_snored 7 rfl) fl_X9_26 sh_0 rfl ?_
      refine V_iload_n (pc := 17) hG (dk dd_X9_snored 8 rfl) rfl ?_
      refine V_callVip (pc := 18) hG (dk dd_X9_snored 9 rfl) ml_X9_253 mo_X2_isDream sh_15 rfl (k_isDream (α := α) (by rw [p4.1]; exact hA) hv.t) (by decide) (by decide) rfl rfl rfl (fun x18 m18 p18 => ?_)
      refine V_if_eq (pc := 21) hG (dk dd_X9_snored 10 rfl) (tgt := 43) (by decide) (fun h21 => ?_) (fun h21 => ?_)
      refine V_ldc (pc := 43) hG (dk dd_X9_snored 19 rfl) kk_X9_90 ?_
      refine V_iretP (pc := 45) hG (dk dd_X9_snored 20 rfl) hR (Pi.mk ?_)
      rotate_left
      refine V_aload_n (pc := 24) hG (dk dd_X9_snored 11 rfl) rfl ?_
      refine V_getR (pc := 25) hG (dk dd_X9_snored 12 rfl) fl_X9_10 sh_0 rfl ?_
      refine V_iload_n (pc := 28) hG (dk dd_X9_snored 13 rfl) rfl ?_
      refine V_callVip (pc := 29) hG (dk dd_X9_snored 14 rfl) ml_X9_83 mo_X5_isRow sh_1 rfl (c_isRow) (by decide) (by decide) rfl rfl rfl (fun x29 m29 p29 => ?_)
      refine V_if_eq (pc := 32) hG (dk dd_X9_snored 15 rfl) (tgt := 43) (by decide) (fun h32 => ?_) (fun h32 => ?_)
      refine V_ldc (pc := 43) hG (dk dd_X9_snored 19 rfl) kk_X9_90 ?_
      refine V_iretP (pc := 45) hG (dk dd_X9_snored 20 rfl) hR (Pi.mk ?_)
      rotate_left
      refine V_iload (pc := 35) hG (dk dd_X9_snored 16 rfl) rfl ?_
      refine V_callSip (pc := 37) hG (dk dd_X9_snored 17 rfl) ml_X9_225 mo_X9_isToldLength (c_isToldLength) (by decide) (by decide) rfl rfl rfl (fun x37 m37 p37 => ?_)
      refine V_if_ne (pc := 40) hG (dk dd_X9_snored 18 rfl) (tgt := 46) (by decide) (fun h40 => ?_) (fun h40 => ?_)
      rotate_left
      refine V_ldc (pc := 43) hG (dk dd_X9_snored 19 rfl) kk_X9_90 ?_
      refine V_iretP (pc := 45) hG (dk dd_X9_snored 20 rfl) hR (Pi.mk ?_)
      rotate_left
      rotate_left
      -- leaves: return@45; return@45; stop 46; return@45; stop 10
      · exact bad _ (p18.1.trans p4.1)
      · exact bad _ (p29.1.trans (p18.1.trans p4.1))
      · exact absurd ⟨p18.2.yes h21, isR_8.mp (p29.2.yes h32), p37.2.yes h40⟩ hr
      · exact bad _ (p37.1.trans (p29.1.trans (p18.1.trans p4.1)))
      · exact absurd hv (p4.2.no h7)
  · skip
    refine V_aload_n (pc := 0) hG (dk dd_X9_snored 0 rfl) rfl ?_
    refine V_getR (pc := 1) hG (dk dd_X9_snored 1 rfl) fl_X9_26 sh_0 rfl ?_
    refine V_callVip (pc := 4) hG (dk dd_X9_snored 2 rfl) ml_X9_219 mo_X2_isTold sh_15 rfl (k_isTold hA hz) (by decide) (by decide) rfl rfl rfl (fun x4 m4 p4 => ?_)
    refine V_if_ne (pc := 7) hG (dk dd_X9_snored 3 rfl) (tgt := 13) (by decide) (fun h7 => ?_) (fun h7 => ?_)
    rotate_left
    refine V_ldc (pc := 10) hG (dk dd_X9_snored 4 rfl) kk_X9_158 ?_
    refine V_iretP (pc := 12) hG (dk dd_X9_snored 5 rfl) hR (Pi.mk ?_)
    rotate_left
    -- leaves: stop 13; return@12
    · exact absurd (p4.2.yes h7) hv
    · exact ⟨none, Or.inl ⟨hz.n0 hv, rfl, rfl⟩, by rw [p4.1]; exact FrC.rf μ⟩
/-- both rows are taken: what is found, or what lies there -/
def TbC (μ : Mem) (H n n2 m : Nat) (i j k r : Int32) (μ' : Mem) : Prop := (∀ a, a ≠ 62 → a ≠ 63 → a ≠ 64 → μ' a = μ a) ∧ TbS (μ 11) (μ 12) (itC μ) H n n2 m i j k r ∧ (r = 0 → ∃ a b, i = nI a ∧ a + m ≤ 40 ∧ j = nI b ∧ b + m ≤ 40 ∧ Told μ' (hsI (itC μ) n a) m ∧ (∀ q, q < m → hsI (itC μ) n a q < H) ∧ ∀ q, q < m → μ' 64 q = itC μ n2 (b + q))
theorem j_takeBoth {μ : Mem} {H n n2 m : Nat} (hk : Rok (μ 11) (μ 12)) (hH : μ 15 6 = nI H) (hH6 : H ≤ 6) {x i y j k : Int32} (hx : x = nI n) (hn : n < 8) (hy : y = nI n2) (hn2 : n2 < 8) (hkm : k = nI m) (m2 : m ≤ 12) : CtP yX9_takeBoth cX9_takeBoth 7 (some .int) 3 [vR 0, vI x, vI i, vI y, vI j, vI k] μ (Pi (TbC μ H n n2 m i j k)) := by
  refine CtP.go RX9 rfl pn_X9 (Nat.le_of_ble_eq_true rfl) (fun C hG hR => ?_)
  obtain ⟨l, hl, l40⟩ := rok_l hk hn
  obtain ⟨l2, hl2, l240⟩ := rok_l hk hn2
  refine V_aload_n (pc := 0) hG (dk dd_X9_takeBoth 0 rfl) rfl ?_
  refine V_getR (pc := 1) hG (dk dd_X9_takeBoth 1 rfl) fl_X9_72 sh_0 rfl ?_
  refine V_aload_n (pc := 4) hG (dk dd_X9_takeBoth 2 rfl) rfl ?_
  refine V_getR (pc := 5) hG (dk dd_X9_takeBoth 3 rfl) fl_X9_10 sh_0 rfl ?_
  refine V_iload_n (pc := 8) hG (dk dd_X9_takeBoth 4 rfl) rfl ?_
  refine V_iload_n (pc := 9) hG (dk dd_X9_takeBoth 5 rfl) rfl ?_
  refine V_iload (pc := 10) hG (dk dd_X9_takeBoth 6 rfl) rfl ?_
  refine V_callVip (pc := 12) hG (dk dd_X9_takeBoth 7 rfl) ml_X9_228 mo_X7_takeHums sh_62 rfl (c_takeHums (μ := μ) hx hn hl l40 hkm m2 (H := H) hH hH6) (by decide) (by decide) rfl rfl rfl (fun x12 m12 p12 => ?_)
  refine V_istore (pc := 15) hG (dk dd_X9_takeBoth 8 rfl) (by decide) (lv' := [(0, _), (1, _), (2, _), (3, _), (4, _), (5, _), (6, _)]) rfl ?_
  refine V_iload (pc := 17) hG (dk dd_X9_takeBoth 9 rfl) rfl ?_
  refine V_if_eq (pc := 19) hG (dk dd_X9_takeBoth 10 rfl) (tgt := 27) (by decide) (fun h19 => ?_) (fun h19 => ?_)
  rotate_left
  refine V_iload (pc := 22) hG (dk dd_X9_takeBoth 11 rfl) rfl ?_
  refine V_goto (pc := 24) hG (dk dd_X9_takeBoth 12 rfl) (tgt := 43) (by decide) ?_
  refine V_iretP (pc := 43) hG (dk dd_X9_takeBoth 21 rfl) hR (Pi.mk ?_)
  rotate_left
  -- leaves: stop 27; return@43
  · obtain ⟨t2, t1⟩ := p12
    rw [h19] at t1
    obtain ⟨a, ia, ha, ht, hh⟩ := t1.told hH6
    have e11 : m12 11 = μ 11 := t2 11 (by decide) (by decide)
    have e12 : m12 12 = μ 12 := t2 12 (by decide) (by decide)
    refine V_aload_n (pc := 27) hG (dk dd_X9_takeBoth 13 rfl) rfl ?_
    refine V_getR (pc := 28) hG (dk dd_X9_takeBoth 14 rfl) fl_X9_72 sh_0 rfl ?_
    refine V_aload_n (pc := 31) hG (dk dd_X9_takeBoth 15 rfl) rfl ?_
    refine V_getR (pc := 32) hG (dk dd_X9_takeBoth 16 rfl) fl_X9_10 sh_0 rfl ?_
    refine V_iload_n (pc := 35) hG (dk dd_X9_takeBoth 17 rfl) rfl ?_
    refine V_iload (pc := 36) hG (dk dd_X9_takeBoth 18 rfl) rfl ?_
    refine V_iload (pc := 38) hG (dk dd_X9_takeBoth 19 rfl) rfl ?_
    refine V_callVip (pc := 40) hG (dk dd_X9_takeBoth 20 rfl) ml_X9_375 mo_X7_takeDreams sh_62 rfl (c_takeDreams (μ := m12) (l := l2) (m := m) hy hn2 (by rw [e12]; exact hl2) l240 hkm m2 ht.1) (by decide) (by decide) rfl rfl rfl (fun x40 m40 p40 => ?_)
    refine V_iretP (pc := 43) hG (dk dd_X9_takeBoth 21 rfl) hR (Pi.mk ?_)
    rotate_left
    -- leaves: return@43
    · obtain ⟨b1, b2, b3⟩ := p40
      have e : lookN m12 n2 j k = lookS (μ 11) (μ 12) n2 j k := by show lookS (m12 11) (m12 12) n2 j k = _; rw [e11, e12]
      rw [e] at b1
      refine ⟨fun a h1 h2 h3 => by rw [b2 a h3]; exact t2 a h1 h2, ⟨0, t1.hf hH6, Or.inr ⟨rfl, b1⟩⟩, fun z => ?_⟩
      obtain ⟨b, jb, hb, hq⟩ := b3 z
      refine ⟨a, b, ia, ha, jb, hb, ⟨by rw [b2 62 (by decide)]; exact ht.1, fun q hq2 => by rw [b2 63 (by decide)]; exact ht.2 q hq2⟩, hh, fun q hq2 => ?_⟩
      rw [hq q hq2, t2 _ (by omega) (by omega)]
  · obtain ⟨t2, t1⟩ := p12
    exact ⟨fun a h1 h2 _ => t2 a h1 h2, ⟨x12, t1.hf hH6, Or.inl ⟨h19, rfl⟩⟩, fun z => absurd z h19⟩
