/-! ===== SleepingJudge: who, began, as, ask ===== -/
theorem runN_cg {β : Al} {hs hs' : Nat → Nat} {D : Nat} : ∀ {k : Nat}, (∀ q, q < k → hs q = hs' q) → runN β hs D k = runN β hs' D k
  | 0, _ => rfl
  | k + 1, h => by rw [runN_s, runN_s, runN_cg (fun q hq => h q (by omega)), h k (by omega)]
theorem Fit.cg {β : Al} {hs : Nat → Nat} {ds ds' : Nat → Int32} {n D : Nat} (h : ∀ q, q < n → ds q = ds' q) : Fit β hs ds n D ↔ Fit β hs ds' n D := ⟨fun z k hk => by rw [← h k hk]; exact z k hk, fun z k hk => by rw [h k hk]; exact z k hk⟩
theorem Fit.cgf {β : Al} {hs : Nat → Nat} {ds ds' : Nat → Int32} {n : Nat} (h : ∀ q, q < n → ds q = ds' q) : Fit β hs ds n = Fit β hs ds' n := by funext D; exact propext (Fit.cg h)
theorem who_cg {α : Al} {hs : Nat → Nat} {ds ds' : Nat → Int32} {n D h w m : Nat} (e : ∀ q, q < n → ds q = ds' q) : whoN α hs ds n D h w m = whoN α hs ds' n D h w m := by
  unfold whoN
  congr 1
  funext v
  rw [Fit.cgf e]
theorem j_who {μ : Mem} {α : Al} (hA : Abs (kac μ 15) α) (hz : Vz α) (hk : Rok (μ 11) (μ 12)) {x w y i u j k : Int32} : CtP yX9_who cX9_who 9 (some .int) 5 [vR 0, vI x, vI w, vI y, vI i, vI u, vI j, vI k] μ (Pi (fun r μ' => ∃ o, WhoR α (μ 11) (μ 12) (itC μ) x w y i u j k r o ∧ FrC μ o μ')) := by
  refine CtP.go RX9 rfl pn_X9 (Nat.le_of_ble_eq_true rfl) (fun C hG hR => ?_)
  have hH := hz.H
  by_cases hi : inN x (α 0 6) ∧ (0 ≤ w ∧ w ≤ 2) ∧ isR y ∧ isR u ∧ 1 ≤ k ∧ k ≤ 12
  · obtain ⟨i1, i2, i3, i4, i5⟩ := id hi
    obtain ⟨hx, hh⟩ := i1.n (by omega)
    obtain ⟨n, hy, hn⟩ := i3.n
    obtain ⟨n2, hu, hn2⟩ := i4.n
    obtain ⟨m, hkm, m1, m2⟩ := k12 i5
    have hv := hz.vh hh
    refine V_aload_n (pc := 0) hG (dk dd_X9_who 0 rfl) rfl ?_
    refine V_getR (pc := 1) hG (dk dd_X9_who 1 rfl) fl_X9_26 sh_0 rfl ?_
    refine V_iload_n (pc := 4) hG (dk dd_X9_who 2 rfl) rfl ?_
    refine V_callVip (pc := 5) hG (dk dd_X9_who 3 rfl) ml_X9_163 mo_X2_isHum sh_15 rfl (k_isHum hA) (by decide) (by decide) rfl rfl rfl (fun x5 m5 p5 => ?_)
    refine V_if_eq (pc := 8) hG (dk dd_X9_who 4 rfl) (tgt := 20) (by decide) (fun h8 => ?_) (fun h8 => ?_)
    rotate_left
    refine V_iload_n (pc := 11) hG (dk dd_X9_who 5 rfl) rfl ?_
    refine V_if_lt (pc := 12) hG (dk dd_X9_who 6 rfl) (tgt := 20) (by decide) (fun h12 => ?_) (fun h12 => ?_)
    rotate_left
    refine V_iload_n (pc := 15) hG (dk dd_X9_who 7 rfl) rfl ?_
    refine V_iconst (pc := 16) hG (dk dd_X9_who 8 rfl) (v := 2) (by decide) ?_
    refine V_icmp_le (pc := 17) hG (dk dd_X9_who 9 rfl) (tgt := 23) (by decide) (fun h17 => ?_) (fun h17 => ?_)
    refine V_aload_n (pc := 23) hG (dk dd_X9_who 12 rfl) rfl ?_
    refine V_getR (pc := 24) hG (dk dd_X9_who 13 rfl) fl_X9_10 sh_0 rfl ?_
    refine V_iload_n (pc := 27) hG (dk dd_X9_who 14 rfl) rfl ?_
    refine V_callVip (pc := 28) hG (dk dd_X9_who 15 rfl) ml_X9_83 mo_X5_isRow sh_1 rfl (c_isRow) (by decide) (by decide) rfl rfl rfl (fun x28 m28 p28 => ?_)
    refine V_if_eq (pc := 31) hG (dk dd_X9_who 16 rfl) (tgt := 54) (by decide) (fun h31 => ?_) (fun h31 => ?_)
    rotate_left
    refine V_aload_n (pc := 34) hG (dk dd_X9_who 17 rfl) rfl ?_
    refine V_getR (pc := 35) hG (dk dd_X9_who 18 rfl) fl_X9_10 sh_0 rfl ?_
    refine V_iload (pc := 38) hG (dk dd_X9_who 19 rfl) rfl ?_
    refine V_callVip (pc := 40) hG (dk dd_X9_who 20 rfl) ml_X9_83 mo_X5_isRow sh_1 rfl (c_isRow) (by decide) (by decide) rfl rfl rfl (fun x40 m40 p40 => ?_)
    refine V_if_eq (pc := 43) hG (dk dd_X9_who 21 rfl) (tgt := 54) (by decide) (fun h43 => ?_) (fun h43 => ?_)
    rotate_left
    refine V_iload (pc := 46) hG (dk dd_X9_who 22 rfl) rfl ?_
    refine V_callSip (pc := 48) hG (dk dd_X9_who 23 rfl) ml_X9_225 mo_X9_isToldLength (c_isToldLength) (by decide) (by decide) rfl rfl rfl (fun x48 m48 p48 => ?_)
    refine V_if_ne (pc := 51) hG (dk dd_X9_who 24 rfl) (tgt := 57) (by decide) (fun h51 => ?_) (fun h51 => ?_)
    rotate_left
    rotate_left
    rotate_left
    -- leaves: stop 20; stop 20; stop 54; stop 54; stop 57; stop 54; stop 20
    all_goals (first | exact absurd i1 (p5.2.no h8) | exact absurd h12 (Int32.not_lt.mpr i2.1) | exact absurd i2.2 h17 | exact absurd (isR_8.mpr i3) (p28.2.no h31) | exact absurd (isR_8.mpr i4) (p40.2.no h43) | exact absurd i5 (p48.2.no h51) | skip)
    · have em : m48 = μ := p48.1.trans (p40.1.trans (p28.1.trans p5.1))
      rw [em]
      refine V_aload_n (pc := 57) hG (dk dd_X9_who 27 rfl) rfl ?_
      refine V_iload_n (pc := 58) hG (dk dd_X9_who 28 rfl) rfl ?_
      refine V_iload (pc := 59) hG (dk dd_X9_who 29 rfl) rfl ?_
      refine V_iload (pc := 61) hG (dk dd_X9_who 30 rfl) rfl ?_
      refine V_iload (pc := 63) hG (dk dd_X9_who 31 rfl) rfl ?_
      refine V_iload (pc := 65) hG (dk dd_X9_who 32 rfl) rfl ?_
      refine V_callVip (pc := 67) hG (dk dd_X9_who 33 rfl) ml_X9_300 mo_X9_takeBoth sh_0 rfl (j_takeBoth hk (H := α 0 6) (e_c hA (by decide)) hH hy hn hu hn2 hkm m2) (by decide) (by decide) rfl rfl rfl (fun x67 m67 p67 => ?_)
      refine V_istore (pc := 70) hG (dk dd_X9_who 34 rfl) (by decide) (lv' := [(0, _), (1, _), (2, _), (3, _), (4, _), (5, _), (6, _), (7, _), (8, _)]) rfl ?_
      refine V_iload (pc := 72) hG (dk dd_X9_who 35 rfl) rfl ?_
      refine V_if_eq (pc := 74) hG (dk dd_X9_who 36 rfl) (tgt := 84) (by decide) (fun h74 => ?_) (fun h74 => ?_)
      rotate_left
      refine V_aload_n (pc := 77) hG (dk dd_X9_who 37 rfl) rfl ?_
      refine V_iload (pc := 78) hG (dk dd_X9_who 38 rfl) rfl ?_
      refine V_callVip (pc := 80) hG (dk dd_X9_who 39 rfl) ml_X9_91 mo_X9_found sh_0 rfl (c_found) (by decide) (by decide) rfl rfl rfl (fun x80 m80 p80 => ?_)
      refine V_iretP (pc := 83) hG (dk dd_X9_who 40 rfl) hR (Pi.mk ?_)
      rotate_left
      -- leaves: stop 84; return@83
      · obtain ⟨t1, t2, t3⟩ := p67
        rw [h74] at t2
        obtain ⟨a, b, ia, ha, jb, hb, ht, hhs, hd⟩ := t3 h74
        have hA2 : Abs (kac m67 15) α := hA.off (fun x hx => t1 _ (by omega) (by omega) (by omega))
        have fr : FrC μ (some 0) (setc m67 0 (upd (m67 0) 12 0)) := FrC.st ((FrC.rf μ).tr (fun a b c => t1 a (by omega) (by omega) (by omega))) 0
        have mk : ∀ v M B, v = nI (whoN α (hsI (itC μ) n a) (m67 64) m (α 0 3) x.toNatClampNeg (w.toNatClampNeg + 1) B) → B = (if w = 0 then 6 else α 0 0) → M = setc m67 0 (upd (m67 0) 12 0) → ∃ o, WhoR α (μ 11) (μ 12) (itC μ) x w y i u j k v o ∧ FrC μ o M := fun v M B e1 e2 e3 =>
          ⟨some 0, Or.inr ⟨hi, n, n2, m, 0, hy, hn, hu, hn2, hkm, m1, m2, t2, rfl, Or.inr ⟨rfl, a, b, ia, ha, jb, hb, by rw [e1, ← e2, who_cg hd]⟩⟩, by rw [e3]; exact fr⟩
        refine V_iload_n (pc := 84) hG (dk dd_X9_who 41 rfl) rfl ?_
        refine V_lsw (pc := 85) hG (dk dd_X9_who 42 rfl) (cs := [(0, 112), (1, 125)]) (td := 138) (by decide +kernel) ?_
        refine And.intro (fun h85_0 => ?_) (fun h85_0 => ?_)
        refine V_aload_n (pc := 112) hG (dk dd_X9_who 43 rfl) rfl ?_
        refine V_aload_n (pc := 113) hG (dk dd_X9_who 44 rfl) rfl ?_
        refine V_getR (pc := 114) hG (dk dd_X9_who 45 rfl) fl_X9_72 sh_0 rfl ?_
        refine V_iload_n (pc := 117) hG (dk dd_X9_who 46 rfl) rfl ?_
        refine V_callVip (pc := 118) hG (dk dd_X9_who 47 rfl) ml_X9_304 mo_X7_kindsThatFit sh_62 rfl (c_kindsThatFit hA2 hv ht m2 hhs hx hh) (by decide) (by decide) rfl rfl rfl (fun x118 m118 p118 => ?_)
        refine V_callVip (pc := 121) hG (dk dd_X9_who 48 rfl) ml_X9_99 mo_X9_fine sh_0 rfl (c_fine) (by decide) (by decide) rfl rfl rfl (fun x121 m121 p121 => ?_)
        refine V_iretP (pc := 124) hG (dk dd_X9_who 49 rfl) hR (Pi.mk ?_)
        rotate_left
        refine And.intro (fun h85_1 => ?_) (fun h85_1 => ?_)
        refine V_aload_n (pc := 125) hG (dk dd_X9_who 50 rfl) rfl ?_
        refine V_aload_n (pc := 126) hG (dk dd_X9_who 51 rfl) rfl ?_
        refine V_getR (pc := 127) hG (dk dd_X9_who 52 rfl) fl_X9_72 sh_0 rfl ?_
        refine V_iload_n (pc := 130) hG (dk dd_X9_who 53 rfl) rfl ?_
        refine V_callVip (pc := 131) hG (dk dd_X9_who 54 rfl) ml_X9_307 mo_X7_thingsThatFit sh_62 rfl (c_thingsThatFit hA2 hv ht m2 hhs hx hh) (by decide) (by decide) rfl rfl rfl (fun x131 m131 p131 => ?_)
        refine V_callVip (pc := 134) hG (dk dd_X9_who 55 rfl) ml_X9_99 mo_X9_fine sh_0 rfl (c_fine) (by decide) (by decide) rfl rfl rfl (fun x134 m134 p134 => ?_)
        refine V_iretP (pc := 137) hG (dk dd_X9_who 56 rfl) hR (Pi.mk ?_)
        rotate_left
        show V _ _ _ _ _
        refine V_aload_n (pc := 138) hG (dk dd_X9_who 57 rfl) rfl ?_
        refine V_aload_n (pc := 139) hG (dk dd_X9_who 58 rfl) rfl ?_
        refine V_getR (pc := 140) hG (dk dd_X9_who 59 rfl) fl_X9_72 sh_0 rfl ?_
        refine V_iload_n (pc := 143) hG (dk dd_X9_who 60 rfl) rfl ?_
        refine V_callVip (pc := 144) hG (dk dd_X9_who 61 rfl) ml_X9_310 mo_X7_othersThatFit sh_62 rfl (c_othersThatFit hA2 hv ht m2 hhs hx hh) (by decide) (by decide) rfl rfl rfl (fun x144 m144 p144 => ?_)
        refine V_callVip (pc := 147) hG (dk dd_X9_who 62 rfl) ml_X9_99 mo_X9_fine sh_0 rfl (c_fine) (by decide) (by decide) rfl rfl rfl (fun x147 m147 p147 => ?_)
        refine V_iretP (pc := 150) hG (dk dd_X9_who 63 rfl) hR (Pi.mk ?_)
        rotate_left
        -- leaves: return@124; return@137; return@150
        · obtain ⟨g1, g2⟩ := p118
          obtain ⟨q1, q2⟩ := p121
          exact mk _ _ 6 (by rw [q2, g2, h85_0]; rfl) (by rw [if_pos h85_0]) (by rw [q1, g1])
        · obtain ⟨g1, g2⟩ := p131
          obtain ⟨q1, q2⟩ := p134
          exact mk _ _ (α 0 0) (by rw [q2, g2, h85_1]; rfl) (by rw [if_neg h85_0]) (by rw [q1, g1])
        · obtain ⟨g1, g2⟩ := p144
          obtain ⟨q1, q2⟩ := p147
          have w2 : w = 2 := (i3c i2).resolve_left h85_0 |>.resolve_left h85_1
          exact mk _ _ (α 0 0) (by rw [q2, g2, w2]; rfl) (by rw [if_neg h85_0]) (by rw [q1, g1])
      · obtain ⟨t1, t2, t3⟩ := p67
        obtain ⟨q1, q2⟩ := p80
        refine ⟨some x67, Or.inr ⟨hi, n, n2, m, x67, hy, hn, hu, hn2, hkm, m1, m2, t2, rfl, Or.inl ⟨h74, ?_⟩⟩, ?_⟩
        · rw [q2]; unfold fnd; rw [if_neg h74]
        · rw [q1]; exact FrC.st ((FrC.rf μ).tr (fun a b c => t1 a (by omega) (by omega) (by omega))) _
  · have bad : ∀ M, M = μ → ∃ o, WhoR α (μ 11) (μ 12) (itC μ) x w y i u j k (-1000001) o ∧ FrC μ o M := fun M e => ⟨none, Or.inl ⟨hi, rfl, rfl⟩, by rw [e]; exact FrC.rf μ⟩
    refine V_aload_n (pc := 0) hG (dk dd_X9_who 0 rfl) rfl ?_
    refine V_getR (pc := 1) hG (dk dd_X9_who 1 rfl) fl_X9_26 sh_0 rfl ?_
    refine V_iload_n (pc := 4) hG (dk dd_X9_who 2 rfl) rfl ?_
    refine V_callVip (pc := 5) hG (dk dd_X9_who 3 rfl) ml_X9_163 mo_X2_isHum sh_15 rfl (k_isHum hA) (by decide) (by decide) rfl rfl rfl (fun x5 m5 p5 => ?_)
    refine V_if_eq (pc := 8) hG (dk dd_X9_who 4 rfl) (tgt := 20) (by decide) (fun h8 => ?_) (fun h8 => ?_)
    refine V_ldc (pc := 20) hG (dk dd_X9_who 10 rfl) kk_X9_90 ?_
    refine V_iretP (pc := 22) hG (dk dd_X9_who 11 rfl) hR (Pi.mk ?_)
    rotate_left
    refine V_iload_n (pc := 11) hG (dk dd_X9_who 5 rfl) rfl ?_
    refine V_if_lt (pc := 12) hG (dk dd_X9_who 6 rfl) (tgt := 20) (by decide) (fun h12 => ?_) (fun h12 => ?_)
    refine V_ldc (pc := 20) hG (dk dd_X9_who 10 rfl) kk_X9_90 ?_
    refine V_iretP (pc := 22) hG (dk dd_X9_who 11 rfl) hR (Pi.mk ?_)
    rotate_left
    refine V_iload_n (pc := 15) hG (dk dd_X9_who 7 rfl) rfl ?_
    refine V_iconst (pc := 16) hG (dk dd_X9_who 8 rfl) (v := 2) (by decide) ?_
    refine V_icmp_le (pc := 17) hG (dk dd_X9_who 9 rfl) (tgt := 23) (by decide) (fun h17 => ?_) (fun h17 => ?_)
    refine V_aload_n (pc := 23) hG (dk dd_X9_who 12 rfl) rfl ?_
    refine V_getR (pc := 24) hG (dk dd_X9_who 13 rfl) fl_X9_10 sh_0 rfl ?_
    refine V_iload_n (pc := 27) hG (dk dd_X9_who 14 rfl) rfl ?_
    refine V_callVip (pc := 28) hG (dk dd_X9_who 15 rfl) ml_X9_83 mo_X5_isRow sh_1 rfl (c_isRow) (by decide) (by decide) rfl rfl rfl (fun x28 m28 p28 => ?_)
    refine V_if_eq (pc := 31) hG (dk dd_X9_who 16 rfl) (tgt := 54) (by decide) (fun h31 => ?_) (fun h31 => ?_)
    refine V_ldc (pc := 54) hG (dk dd_X9_who 25 rfl) kk_X9_90 ?_
    refine V_iretP (pc := 56) hG (dk dd_X9_who 26 rfl) hR (Pi.mk ?_)
    rotate_left
    refine V_aload_n (pc := 34) hG (dk dd_X9_who 17 rfl) rfl ?_
    refine V_getR (pc := 35) hG (dk dd_X9_who 18 rfl) fl_X9_10 sh_0 rfl ?_
    refine V_iload (pc := 38) hG (dk dd_X9_who 19 rfl) rfl ?_
    refine V_callVip (pc := 40) hG (dk dd_X9_who 20 rfl) ml_X9_83 mo_X5_isRow sh_1 rfl (c_isRow) (by decide) (by decide) rfl rfl rfl (fun x40 m40 p40 => ?_)
    refine V_if_eq (pc := 43) hG (dk dd_X9_who 21 rfl) (tgt := 54) (by decide) (fun h43 => ?_) (fun h43 => ?_)
    refine V_ldc (pc := 54) hG (dk dd_X9_who 25 rfl) kk_X9_90 ?_
    refine V_iretP (pc := 56) hG (dk dd_X9_who 26 rfl) hR (Pi.mk ?_)
    rotate_left
    refine V_iload (pc := 46) hG (dk dd_X9_who 22 rfl) rfl ?_
    refine V_callSip (pc := 48) hG (dk dd_X9_who 23 rfl) ml_X9_225 mo_X9_isToldLength (c_isToldLength) (by decide) (by decide) rfl rfl rfl (fun x48 m48 p48 => ?_)
    refine V_if_ne (pc := 51) hG (dk dd_X9_who 24 rfl) (tgt := 57) (by decide) (fun h51 => ?_) (fun h51 => ?_)
    rotate_left
    refine V_ldc (pc := 54) hG (dk dd_X9_who 25 rfl) kk_X9_90 ?_
    refine V_iretP (pc := 56) hG (dk dd_X9_who 26 rfl) hR (Pi.mk ?_)
    rotate_left
    refine V_ldc (pc := 20) hG (dk dd_X9_who 10 rfl) kk_X9_90 ?_
    refine V_iretP (pc := 22) hG (dk dd_X9_who 11 rfl) hR (Pi.mk ?_)
    rotate_left
    -- leaves: return@22; return@22; return@56; return@56; stop 57; return@56; return@22
    · exact bad _ p5.1
    · exact bad _ p5.1
    · exact bad _ (p28.1.trans p5.1)
    · exact bad _ (p40.1.trans (p28.1.trans p5.1))
    · exact absurd ⟨p5.2.yes h8, ⟨Int32.not_lt.mp h12, h17⟩, isR_8.mp (p28.2.yes h31), isR_8.mp (p40.2.yes h43), p48.2.yes h51⟩ hi
    · exact bad _ (p48.1.trans (p40.1.trans (p28.1.trans p5.1)))
    · exact bad _ p5.1
theorem j_began {μ : Mem} {α : Al} (hA : Abs (kac μ 15) α) (hz : Vz α) (hk : Rok (μ 11) (μ 12)) {w y i u j k : Int32} : CtP yX9_began cX9_began 8 (some .int) 6 [vR 0, vI w, vI y, vI i, vI u, vI j, vI k] μ (Pi (fun r μ' => ∃ o, BegR α (μ 11) (μ 12) (itC μ) w y i u j k r o ∧ FrC μ o μ')) := by
  refine CtP.go RX9 rfl pn_X9 (Nat.le_of_ble_eq_true rfl) (fun C hG hR => ?_)
  have hH := hz.H
  by_cases hv : Val α
  · have h0 := hv.p0
    by_cases hi : (w = 0 ∨ w = 1) ∧ isR y ∧ isR u ∧ 1 ≤ k ∧ k ≤ 12
    · obtain ⟨i2, i3, i4, i5⟩ := id hi
      obtain ⟨n, hy, hn⟩ := i3.n
      obtain ⟨n2, hu, hn2⟩ := i4.n
      obtain ⟨m, hkm, m1, m2⟩ := k12 i5
      refine V_aload_n (pc := 0) hG (dk dd_X9_began 0 rfl) rfl ?_
      refine V_getR (pc := 1) hG (dk dd_X9_began 1 rfl) fl_X9_26 sh_0 rfl ?_
      refine V_callVip (pc := 4) hG (dk dd_X9_began 2 rfl) ml_X9_219 mo_X2_isTold sh_15 rfl (k_isTold hA hz) (by decide) (by decide) rfl rfl rfl (fun x4 m4 p4 => ?_)
      refine V_if_ne (pc := 7) hG (dk dd_X9_began 3 rfl) (tgt := 13) (by decide) (fun h7 => ?_) (fun h7 => ?_)
      refine V_iload_n (pc := 13) hG (dk dd_X9_began 6 rfl) rfl ?_
      refine V_callSip (pc := 14) hG (dk dd_X9_began 7 rfl) ml_X9_290 mo_X9_isOneOfTwo (c_isOneOfTwo) (by decide) (by decide) rfl rfl rfl (fun x14 m14 p14 => ?_)
      refine V_if_eq (pc := 17) hG (dk dd_X9_began 8 rfl) (tgt := 51) (by decide) (fun h17 => ?_) (fun h17 => ?_)
      rotate_left
      refine V_aload_n (pc := 20) hG (dk dd_X9_began 9 rfl) rfl ?_
      refine V_getR (pc := 21) hG (dk dd_X9_began 10 rfl) fl_X9_10 sh_0 rfl ?_
      refine V_iload_n (pc := 24) hG (dk dd_X9_began 11 rfl) rfl ?_
      refine V_callVip (pc := 25) hG (dk dd_X9_began 12 rfl) ml_X9_83 mo_X5_isRow sh_1 rfl (c_isRow) (by decide) (by decide) rfl rfl rfl (fun x25 m25 p25 => ?_)
      refine V_if_eq (pc := 28) hG (dk dd_X9_began 13 rfl) (tgt := 51) (by decide) (fun h28 => ?_) (fun h28 => ?_)
      rotate_left
      refine V_aload_n (pc := 31) hG (dk dd_X9_began 14 rfl) rfl ?_
      refine V_getR (pc := 32) hG (dk dd_X9_began 15 rfl) fl_X9_10 sh_0 rfl ?_
      refine V_iload (pc := 35) hG (dk dd_X9_began 16 rfl) rfl ?_
      refine V_callVip (pc := 37) hG (dk dd_X9_began 17 rfl) ml_X9_83 mo_X5_isRow sh_1 rfl (c_isRow) (by decide) (by decide) rfl rfl rfl (fun x37 m37 p37 => ?_)
      refine V_if_eq (pc := 40) hG (dk dd_X9_began 18 rfl) (tgt := 51) (by decide) (fun h40 => ?_) (fun h40 => ?_)
      rotate_left
      refine V_iload (pc := 43) hG (dk dd_X9_began 19 rfl) rfl ?_
      refine V_callSip (pc := 45) hG (dk dd_X9_began 20 rfl) ml_X9_225 mo_X9_isToldLength (c_isToldLength) (by decide) (by decide) rfl rfl rfl (fun x45 m45 p45 => ?_)
      refine V_if_ne (pc := 48) hG (dk dd_X9_began 21 rfl) (tgt := 54) (by decide) (fun h48 => ?_) (fun h48 => ?_)
      rotate_left
      rotate_left
      rotate_left
      -- leaves: stop 51; stop 51; stop 51; stop 54; stop 51; stop 10
      all_goals (first | exact absurd hv (p4.2.no h7) | exact absurd i2 (p14.2.no h17) | exact absurd (isR_8.mpr i3) (p25.2.no h28) | exact absurd (isR_8.mpr i4) (p37.2.no h40) | exact absurd i5 (p45.2.no h48) | skip)
      · have em : m45 = μ := p45.1.trans (p37.1.trans (p25.1.trans (p14.1.trans p4.1)))
        rw [em]
        refine V_aload_n (pc := 54) hG (dk dd_X9_began 24 rfl) rfl ?_
        refine V_iload_n (pc := 55) hG (dk dd_X9_began 25 rfl) rfl ?_
        refine V_iload_n (pc := 56) hG (dk dd_X9_began 26 rfl) rfl ?_
        refine V_iload (pc := 57) hG (dk dd_X9_began 27 rfl) rfl ?_
        refine V_iload (pc := 59) hG (dk dd_X9_began 28 rfl) rfl ?_
        refine V_iload (pc := 61) hG (dk dd_X9_began 29 rfl) rfl ?_
        refine V_callVip (pc := 63) hG (dk dd_X9_began 30 rfl) ml_X9_300 mo_X9_takeBoth sh_0 rfl (j_takeBoth hk (H := α 0 6) (e_c hA (by decide)) hH hy hn hu hn2 hkm m2) (by decide) (by decide) rfl rfl rfl (fun x63 m63 p63 => ?_)
        refine V_istore (pc := 66) hG (dk dd_X9_began 31 rfl) (by decide) (lv' := [(0, _), (1, _), (2, _), (3, _), (4, _), (5, _), (6, _), (7, _)]) rfl ?_
        refine V_iload (pc := 68) hG (dk dd_X9_began 32 rfl) rfl ?_
        refine V_if_eq (pc := 70) hG (dk dd_X9_began 33 rfl) (tgt := 80) (by decide) (fun h70 => ?_) (fun h70 => ?_)
        rotate_left
        refine V_aload_n (pc := 73) hG (dk dd_X9_began 34 rfl) rfl ?_
        refine V_iload (pc := 74) hG (dk dd_X9_began 35 rfl) rfl ?_
        refine V_callVip (pc := 76) hG (dk dd_X9_began 36 rfl) ml_X9_91 mo_X9_found sh_0 rfl (c_found) (by decide) (by decide) rfl rfl rfl (fun x76 m76 p76 => ?_)
        refine V_iretP (pc := 79) hG (dk dd_X9_began 37 rfl) hR (Pi.mk ?_)
        rotate_left
        -- leaves: stop 80; return@79
        · obtain ⟨t1, t2, t3⟩ := p63
          rw [h70] at t2
          obtain ⟨a, b, ia, ha, jb, hb, ht, hhs, hd⟩ := t3 h70
          have hA2 : Abs (kac m63 15) α := hA.off (fun x hx => t1 _ (by omega) (by omega) (by omega))
          have fr : FrC μ (some 0) (setc m63 0 (upd (m63 0) 12 0)) := FrC.st ((FrC.rf μ).tr (fun a b c => t1 a (by omega) (by omega) (by omega))) 0
          have ef := Fit.cgf (β := α) (hs := hsI (itC μ) n a) hd
          refine V_aload_n (pc := 80) hG (dk dd_X9_began 38 rfl) rfl ?_
          refine V_iload_n (pc := 81) hG (dk dd_X9_began 39 rfl) rfl ?_
          refine V_if_ne (pc := 82) hG (dk dd_X9_began 40 rfl) (tgt := 95) (by decide) (fun h82 => ?_) (fun h82 => ?_)
          refine V_aload_n (pc := 95) hG (dk dd_X9_began 45 rfl) rfl ?_
          refine V_getR (pc := 96) hG (dk dd_X9_began 46 rfl) fl_X9_72 sh_0 rfl ?_
          refine V_callVip (pc := 99) hG (dk dd_X9_began 47 rfl) ml_X9_316 mo_X7_leastBegan sh_62 rfl (c_leastBegan hA2 hv ht m2 hhs) (by decide) (by decide) rfl rfl rfl (fun x99 m99 p99 => ?_)
          refine V_callVip (pc := 102) hG (dk dd_X9_began 48 rfl) ml_X9_99 mo_X9_fine sh_0 rfl (c_fine) (by decide) (by decide) rfl rfl rfl (fun x102 m102 p102 => ?_)
          refine V_iretP (pc := 105) hG (dk dd_X9_began 49 rfl) hR (Pi.mk ?_)
          rotate_left
          refine V_aload_n (pc := 85) hG (dk dd_X9_began 41 rfl) rfl ?_
          refine V_getR (pc := 86) hG (dk dd_X9_began 42 rfl) fl_X9_72 sh_0 rfl ?_
          refine V_callVip (pc := 89) hG (dk dd_X9_began 43 rfl) ml_X9_313 mo_X7_howManyBegan sh_62 rfl (c_howManyBegan hA2 hv ht m2 hhs) (by decide) (by decide) rfl rfl rfl (fun x89 m89 p89 => ?_)
          refine V_goto (pc := 92) hG (dk dd_X9_began 44 rfl) (tgt := 102) (by decide) ?_
          refine V_callVip (pc := 102) hG (dk dd_X9_began 48 rfl) ml_X9_99 mo_X9_fine sh_0 rfl (c_fine) (by decide) (by decide) rfl rfl rfl (fun x102 m102 p102 => ?_)
          refine V_iretP (pc := 105) hG (dk dd_X9_began 49 rfl) hR (Pi.mk ?_)
          rotate_left
          -- leaves: return@105; return@105
          · obtain ⟨g1, g2⟩ := p99
            obtain ⟨q1, q2⟩ := p102
            rw [ef] at g2
            exact ⟨some 0, Or.inr (Or.inr ⟨h0, hi, n, n2, m, 0, hy, hn, hu, hn2, hkm, m1, m2, t2, rfl, Or.inr ⟨rfl, a, b, ia, ha, jb, hb, Or.inr ⟨i2.resolve_left h82, by rw [q2]; exact g2⟩⟩⟩), by rw [q1, g1]; exact fr⟩
          · obtain ⟨g1, g2⟩ := p89
            obtain ⟨q1, q2⟩ := p102
            rw [ef] at g2
            exact ⟨some 0, Or.inr (Or.inr ⟨h0, hi, n, n2, m, 0, hy, hn, hu, hn2, hkm, m1, m2, t2, rfl, Or.inr ⟨rfl, a, b, ia, ha, jb, hb, Or.inl ⟨h82, by rw [q2]; exact g2⟩⟩⟩), by rw [q1, g1]; exact fr⟩
        · obtain ⟨t1, t2, t3⟩ := p63
          obtain ⟨q1, q2⟩ := p76
          refine ⟨some x63, Or.inr (Or.inr ⟨h0, hi, n, n2, m, x63, hy, hn, hu, hn2, hkm, m1, m2, t2, rfl, Or.inl ⟨h70, ?_⟩⟩), ?_⟩
          · rw [q2]; unfold fnd; rw [if_neg h70]
          · rw [q1]; exact FrC.st ((FrC.rf μ).tr (fun a b c => t1 a (by omega) (by omega) (by omega))) _
    · have bad : ∀ M, M = μ → ∃ o, BegR α (μ 11) (μ 12) (itC μ) w y i u j k (-1000001) o ∧ FrC μ o M := fun M e => ⟨none, Or.inr (Or.inl ⟨h0, hi, rfl, rfl⟩), by rw [e]; exact FrC.rf μ⟩
      refine V_aload_n (pc := 0) hG (dk dd_X9_began 0 rfl) rfl ?_
      refine V_getR (pc := 1) hG (dk dd_X9_began 1 rfl) fl_X9_26 sh_0 rfl ?_
      refine V_callVip (pc := 4) hG (dk dd_X9_began 2 rfl) ml_X9_219 mo_X2_isTold sh_15 rfl (k_isTold hA hz) (by decide) (by decide) rfl rfl rfl (fun x4 m4 p4 => ?_)
      refine V_if_ne (pc := 7) hG (dk dd_X9_began 3 rfl) (tgt := 13) (by decide) (fun h7 => ?_) (fun h7 => ?_)
      refine V_iload_n (pc := 13) hG (dk dd_X9_began 6 rfl) rfl ?_
      refine V_callSip (pc := 14) hG (dk dd_X9_began 7 rfl) ml_X9_290 mo_X9_isOneOfTwo (c_isOneOfTwo) (by decide) (by decide) rfl rfl rfl (fun x14 m14 p14 => ?_)
      refine V_if_eq (pc := 17) hG (dk dd_X9_began 8 rfl) (tgt := 51) (by decide) (fun h17 => ?_) (fun h17 => ?_)
      refine V_ldc (pc := 51) hG (dk dd_X9_began 22 rfl) kk_X9_90 ?_
      refine V_iretP (pc := 53) hG (dk dd_X9_began 23 rfl) hR (Pi.mk ?_)
      rotate_left
      refine V_aload_n (pc := 20) hG (dk dd_X9_began 9 rfl) rfl ?_
      refine V_getR (pc := 21) hG (dk dd_X9_began 10 rfl) fl_X9_10 sh_0 rfl ?_
      refine V_iload_n (pc := 24) hG (dk dd_X9_began 11 rfl) rfl ?_
      refine V_callVip (pc := 25) hG (dk dd_X9_began 12 rfl) ml_X9_83 mo_X5_isRow sh_1 rfl (c_isRow) (by decide) (by decide) rfl rfl rfl (fun x25 m25 p25 => ?_)
      refine V_if_eq (pc := 28) hG (dk dd_X9_began 13 rfl) (tgt := 51) (by decide) (fun h28 => ?_) (fun h28 => ?_)
      refine V_ldc (pc := 51) hG (dk dd_X9_began 22 rfl) kk_X9_90 ?_
      refine V_iretP (pc := 53) hG (dk dd_X9_began 23 rfl) hR (Pi.mk ?_)
      rotate_left
      refine V_aload_n (pc := 31) hG (dk dd_X9_began 14 rfl) rfl ?_
      refine V_getR (pc := 32) hG (dk dd_X9_began 15 rfl) fl_X9_10 sh_0 rfl ?_
      refine V_iload (pc := 35) hG (dk dd_X9_began 16 rfl) rfl ?_
      refine V_callVip (pc := 37) hG (dk dd_X9_began 17 rfl) ml_X9_83 mo_X5_isRow sh_1 rfl (c_isRow) (by decide) (by decide) rfl rfl rfl (fun x37 m37 p37 => ?_)
      refine V_if_eq (pc := 40) hG (dk dd_X9_began 18 rfl) (tgt := 51) (by decide) (fun h40 => ?_) (fun h40 => ?_)
      refine V_ldc (pc := 51) hG (dk dd_X9_began 22 rfl) kk_X9_90 ?_
      refine V_iretP (pc := 53) hG (dk dd_X9_began 23 rfl) hR (Pi.mk ?_)
      rotate_left
      refine V_iload (pc := 43) hG (dk dd_X9_began 19 rfl) rfl ?_
      refine V_callSip (pc := 45) hG (dk dd_X9_began 20 rfl) ml_X9_225 mo_X9_isToldLength (c_isToldLength) (by decide) (by decide) rfl rfl rfl (fun x45 m45 p45 => ?_)
      refine V_if_ne (pc := 48) hG (dk dd_X9_began 21 rfl) (tgt := 54) (by decide) (fun h48 => ?_) (fun h48 => ?_)
      rotate_left
      refine V_ldc (pc := 51) hG (dk dd_X9_began 22 rfl) kk_X9_90 ?_
      refine V_iretP (pc := 53) hG (dk dd_X9_began 23 rfl) hR (Pi.mk ?_)
      rotate_left
      rotate_left
      -- leaves: return@53; return@53; return@53; stop 54; return@53; stop 10
      · exact bad _ (p14.1.trans p4.1)
      · exact bad _ (p25.1.trans (p14.1.trans p4.1))
      · exact bad _ (p37.1.trans (p25.1.trans (p14.1.trans p4.1)))
      · exact absurd ⟨p14.2.yes h17, isR_8.mp (p25.2.yes h28), isR_8.mp (p37.2.yes h40), p45.2.yes h48⟩ hi
      · exact bad _ (p45.1.trans (p37.1.trans (p25.1.trans (p14.1.trans p4.1))))
      · exact absurd hv (p4.2.no h7)
  · skip
    refine V_aload_n (pc := 0) hG (dk dd_X9_began 0 rfl) rfl ?_
    refine V_getR (pc := 1) hG (dk dd_X9_began 1 rfl) fl_X9_26 sh_0 rfl ?_
    refine V_callVip (pc := 4) hG (dk dd_X9_began 2 rfl) ml_X9_219 mo_X2_isTold sh_15 rfl (k_isTold hA hz) (by decide) (by decide) rfl rfl rfl (fun x4 m4 p4 => ?_)
    refine V_if_ne (pc := 7) hG (dk dd_X9_began 3 rfl) (tgt := 13) (by decide) (fun h7 => ?_) (fun h7 => ?_)
    rotate_left
    refine V_ldc (pc := 10) hG (dk dd_X9_began 4 rfl) kk_X9_158 ?_
    refine V_iretP (pc := 12) hG (dk dd_X9_began 5 rfl) hR (Pi.mk ?_)
    rotate_left
    -- leaves: stop 13; return@12
    · exact absurd (p4.2.yes h7) hv
    · exact ⟨none, Or.inl ⟨hz.n0 hv, rfl, rfl⟩, by rw [p4.1]; exact FrC.rf μ⟩
theorem isA_eq {κ : Nat} (h1 : 1 ≤ κ) (h5 : κ ≤ 5) {w : Int32} : (w = 0 ∨ w = nI κ ∨ w = (if nI κ = 2 ∨ nI κ = 3 then 1 else if nI κ = 5 then 4 else 0)) ↔ IsA κ w := by
  unfold IsA
  rcases (show κ = 1 ∨ κ = 2 ∨ κ = 3 ∨ κ = 4 ∨ κ = 5 by omega) with rfl | rfl | rfl | rfl | rfl
  · rw [if_neg (by decide), if_neg (by decide)]; constructor
    · rintro (q | q | q); exact Or.inl q; exact Or.inr (Or.inl q); exact Or.inl q
    · rintro (q | q | q | q); exact Or.inl q; exact Or.inr (Or.inl q); exact Or.inr (Or.inl q.1); exact absurd q.2 (by decide)
  · rw [if_pos (by decide)]; constructor
    · rintro (q | q | q); exact Or.inl q; exact Or.inr (Or.inl q); exact Or.inr (Or.inr (Or.inl ⟨q, by decide⟩))
    · rintro (q | q | q | q); exact Or.inl q; exact Or.inr (Or.inl q); exact Or.inr (Or.inr q.1); exact absurd q.2 (by decide)
  · rw [if_pos (by decide)]; constructor
    · rintro (q | q | q); exact Or.inl q; exact Or.inr (Or.inl q); exact Or.inr (Or.inr (Or.inl ⟨q, by decide⟩))
    · rintro (q | q | q | q); exact Or.inl q; exact Or.inr (Or.inl q); exact Or.inr (Or.inr q.1); exact absurd q.2 (by decide)
  · rw [if_neg (by decide), if_neg (by decide)]; constructor
    · rintro (q | q | q); exact Or.inl q; exact Or.inr (Or.inl q); exact Or.inl q
    · rintro (q | q | q | q); exact Or.inl q; exact Or.inr (Or.inl q); exact absurd q.2 (by decide); exact absurd q.2 (by decide)
  · rw [if_neg (by decide), if_pos (by decide)]; constructor
    · rintro (q | q | q); exact Or.inl q; exact Or.inr (Or.inl q); exact Or.inr (Or.inr (Or.inr ⟨q, rfl⟩))
    · rintro (q | q | q | q); exact Or.inl q; exact Or.inr (Or.inl q); exact absurd q.2 (by decide); exact Or.inr (Or.inr q.1)
theorem j_as {μ : Mem} {α : Al} (hA : Abs (kac μ 15) α) (hz : Vz α) {x w : Int32} : CtP yX9_as cX9_as 3 (some .int) 2 [vR 0, vI x, vI w] μ (Pi (fun r μ' => ∃ o, AsR α x w r o ∧ FrC μ o μ')) := by
  refine CtP.go RX9 rfl pn_X9 (Nat.le_of_ble_eq_true rfl) (fun C hG hR => ?_)
  have hH := hz.H
  by_cases hi : inN x (α 0 6) ∧ (0 ≤ w ∧ w ≤ 5)
  · obtain ⟨hx, hh⟩ := hi.1.n (by omega)
    have hv := hz.vh hh
    obtain ⟨k1, k5, _, _⟩ := hv.h hh
    have rx : vp_in x 6 := in_nI hx (by omega) (by decide)
    have ek : μ 16 x.toNatClampNeg = nI (α 1 x.toNatClampNeg) := e_h (y := 1) hA (by decide) (by decide) hh
    refine V_aload_n (pc := 0) hG (dk dd_X9_as 0 rfl) rfl ?_
    refine V_getR (pc := 1) hG (dk dd_X9_as 1 rfl) fl_X9_26 sh_0 rfl ?_
    refine V_iload_n (pc := 4) hG (dk dd_X9_as 2 rfl) rfl ?_
    refine V_callVip (pc := 5) hG (dk dd_X9_as 3 rfl) ml_X9_163 mo_X2_isHum sh_15 rfl (k_isHum hA) (by decide) (by decide) rfl rfl rfl (fun x5 m5 p5 => ?_)
    refine V_if_eq (pc := 8) hG (dk dd_X9_as 4 rfl) (tgt := 20) (by decide) (fun h8 => ?_) (fun h8 => ?_)
    rotate_left
    refine V_iload_n (pc := 11) hG (dk dd_X9_as 5 rfl) rfl ?_
    refine V_if_lt (pc := 12) hG (dk dd_X9_as 6 rfl) (tgt := 20) (by decide) (fun h12 => ?_) (fun h12 => ?_)
    rotate_left
    refine V_iload_n (pc := 15) hG (dk dd_X9_as 7 rfl) rfl ?_
    refine V_iconst (pc := 16) hG (dk dd_X9_as 8 rfl) (v := 5) (by decide) ?_
    refine V_icmp_le (pc := 17) hG (dk dd_X9_as 9 rfl) (tgt := 23) (by decide) (fun h17 => ?_) (fun h17 => ?_)
    refine V_aload_n (pc := 23) hG (dk dd_X9_as 12 rfl) rfl ?_
    refine V_getR (pc := 24) hG (dk dd_X9_as 13 rfl) fl_X9_26 sh_0 rfl ?_
    refine V_getR (pc := 27) hG (dk dd_X9_as 14 rfl) fl_X9_348 sh_15 rfl ?_
    refine V_iload_n (pc := 30) hG (dk dd_X9_as 15 rfl) rfl ?_
    refine V_iald (pc := 31) hG (dk dd_X9_as 16 rfl) sh_16 rx ?_
    refine V_iload_n (pc := 32) hG (dk dd_X9_as 17 rfl) rfl ?_
    refine V_callSip (pc := 33) hG (dk dd_X9_as 18 rfl) ml_X9_351 mo_X9_isAlso (c_isAlso) (by decide) (by decide) rfl rfl rfl (fun x33 m33 p33 => ?_)
    refine V_if_eq (pc := 36) hG (dk dd_X9_as 19 rfl) (tgt := 47) (by decide) (fun h36 => ?_) (fun h36 => ?_)
    refine V_aload_n (pc := 47) hG (dk dd_X9_as 24 rfl) rfl ?_
    refine V_iconst (pc := 48) hG (dk dd_X9_as 25 rfl) (v := 3) (by decide) ?_
    refine V_callVip (pc := 49) hG (dk dd_X9_as 26 rfl) ml_X9_91 mo_X9_found sh_0 rfl (c_found) (by decide) (by decide) rfl rfl rfl (fun x49 m49 p49 => ?_)
    refine V_iretP (pc := 52) hG (dk dd_X9_as 27 rfl) hR (Pi.mk ?_)
    rotate_left
    refine V_aload_n (pc := 39) hG (dk dd_X9_as 20 rfl) rfl ?_
    refine V_iload_n (pc := 40) hG (dk dd_X9_as 21 rfl) rfl ?_
    refine V_callVip (pc := 41) hG (dk dd_X9_as 22 rfl) ml_X9_99 mo_X9_fine sh_0 rfl (c_fine) (by decide) (by decide) rfl rfl rfl (fun x41 m41 p41 => ?_)
    refine V_goto (pc := 44) hG (dk dd_X9_as 23 rfl) (tgt := 52) (by decide) ?_
    refine V_iretP (pc := 52) hG (dk dd_X9_as 27 rfl) hR (Pi.mk ?_)
    rotate_left
    rotate_left
    -- leaves: stop 20; stop 20; return@52; return@52; stop 20
    all_goals (first | exact absurd hi.1 (p5.2.no h8) | exact absurd h12 (Int32.not_lt.mpr hi.2.1) | exact absurd hi.2.2 h17 | skip)
    · obtain ⟨a1, a2⟩ := p33
      rw [p5.1, ek, isA_eq k1 k5] at a2
      obtain ⟨b1, b2⟩ := p49
      exact ⟨some 3, Or.inr ⟨hi, Or.inr ⟨a2.no h36, b2, rfl⟩⟩, by rw [b1, a1, p5.1]; exact FrC.st (FrC.rf μ) 3⟩
    · obtain ⟨a1, a2⟩ := p33
      rw [p5.1, ek, isA_eq k1 k5] at a2
      obtain ⟨b1, b2⟩ := p41
      exact ⟨some 0, Or.inr ⟨hi, Or.inl ⟨a2.yes h36, b2, rfl⟩⟩, by rw [b1, a1, p5.1]; exact FrC.st (FrC.rf μ) 0⟩
  · skip
    refine V_aload_n (pc := 0) hG (dk dd_X9_as 0 rfl) rfl ?_
    refine V_getR (pc := 1) hG (dk dd_X9_as 1 rfl) fl_X9_26 sh_0 rfl ?_
    refine V_iload_n (pc := 4) hG (dk dd_X9_as 2 rfl) rfl ?_
    refine V_callVip (pc := 5) hG (dk dd_X9_as 3 rfl) ml_X9_163 mo_X2_isHum sh_15 rfl (k_isHum hA) (by decide) (by decide) rfl rfl rfl (fun x5 m5 p5 => ?_)
    refine V_if_eq (pc := 8) hG (dk dd_X9_as 4 rfl) (tgt := 20) (by decide) (fun h8 => ?_) (fun h8 => ?_)
    refine V_ldc (pc := 20) hG (dk dd_X9_as 10 rfl) kk_X9_90 ?_
    refine V_iretP (pc := 22) hG (dk dd_X9_as 11 rfl) hR (Pi.mk ?_)
    rotate_left
    refine V_iload_n (pc := 11) hG (dk dd_X9_as 5 rfl) rfl ?_
    refine V_if_lt (pc := 12) hG (dk dd_X9_as 6 rfl) (tgt := 20) (by decide) (fun h12 => ?_) (fun h12 => ?_)
    refine V_ldc (pc := 20) hG (dk dd_X9_as 10 rfl) kk_X9_90 ?_
    refine V_iretP (pc := 22) hG (dk dd_X9_as 11 rfl) hR (Pi.mk ?_)
    rotate_left
    refine V_iload_n (pc := 15) hG (dk dd_X9_as 7 rfl) rfl ?_
    refine V_iconst (pc := 16) hG (dk dd_X9_as 8 rfl) (v := 5) (by decide) ?_
    refine V_icmp_le (pc := 17) hG (dk dd_X9_as 9 rfl) (tgt := 23) (by decide) (fun h17 => ?_) (fun h17 => ?_)
    rotate_left
    refine V_ldc (pc := 20) hG (dk dd_X9_as 10 rfl) kk_X9_90 ?_
    refine V_iretP (pc := 22) hG (dk dd_X9_as 11 rfl) hR (Pi.mk ?_)
    rotate_left
    -- leaves: return@22; return@22; stop 23; return@22
    · exact ⟨none, Or.inl ⟨hi, rfl, rfl⟩, by rw [p5.1]; exact FrC.rf μ⟩
    · exact ⟨none, Or.inl ⟨hi, rfl, rfl⟩, by rw [p5.1]; exact FrC.rf μ⟩
    · exact absurd ⟨p5.2.yes h8, Int32.not_lt.mp h12, h17⟩ hi
    · exact ⟨none, Or.inl ⟨hi, rfl, rfl⟩, by rw [p5.1]; exact FrC.rf μ⟩
def AkC (α : Al) (x w : Int32) (μ : Mem) (r : Int32) (μ' : Mem) : Prop := (¬ (inN x (α 0 6) ∧ (w = 0 ∨ w = 1)) ∧ r = -1000001 ∧ μ' = μ) ∨ ((inN x (α 0 6) ∧ (w = 0 ∨ w = 1)) ∧ r = askV α x.toNatClampNeg w ∧ Tr μ' (askT α x.toNatClampNeg w) ∧ ∀ a, a ≠ 65 → a ≠ 66 → μ' a = μ a)
theorem j_ask {μ : Mem} {α : Al} (hA : Abs (kac μ 15) α) (hz : Vz α) {x w : Int32} : CtP yX9_ask cX9_ask 3 (some .int) 7 [vR 0, vI x, vI w] μ (Pi (AkC α x w μ)) := by
  refine CtP.go RX9 rfl pn_X9 (Nat.le_of_ble_eq_true rfl) (fun C hG hR => ?_)
  have hH := hz.H
  by_cases hi : inN x (α 0 6) ∧ (w = 0 ∨ w = 1)
  · obtain ⟨hx, hh⟩ := hi.1.n (by omega)
    have hv := hz.vh hh
    refine V_aload_n (pc := 0) hG (dk dd_X9_ask 0 rfl) rfl ?_
    refine V_getR (pc := 1) hG (dk dd_X9_ask 1 rfl) fl_X9_26 sh_0 rfl ?_
    refine V_iload_n (pc := 4) hG (dk dd_X9_ask 2 rfl) rfl ?_
    refine V_callVip (pc := 5) hG (dk dd_X9_ask 3 rfl) ml_X9_163 mo_X2_isHum sh_15 rfl (k_isHum hA) (by decide) (by decide) rfl rfl rfl (fun x5 m5 p5 => ?_)
    refine V_if_eq (pc := 8) hG (dk dd_X9_ask 4 rfl) (tgt := 18) (by decide) (fun h8 => ?_) (fun h8 => ?_)
    rotate_left
    refine V_iload_n (pc := 11) hG (dk dd_X9_ask 5 rfl) rfl ?_
    refine V_callSip (pc := 12) hG (dk dd_X9_ask 6 rfl) ml_X9_290 mo_X9_isOneOfTwo (c_isOneOfTwo) (by decide) (by decide) rfl rfl rfl (fun x12 m12 p12 => ?_)
    refine V_if_ne (pc := 15) hG (dk dd_X9_ask 7 rfl) (tgt := 21) (by decide) (fun h15 => ?_) (fun h15 => ?_)
    refine V_aload_n (pc := 21) hG (dk dd_X9_ask 10 rfl) rfl ?_
    refine V_getR (pc := 22) hG (dk dd_X9_ask 11 rfl) fl_X9_79 sh_0 rfl ?_
    refine V_iload_n (pc := 25) hG (dk dd_X9_ask 12 rfl) rfl ?_
    refine V_iload_n (pc := 26) hG (dk dd_X9_ask 13 rfl) rfl ?_
    refine V_callVip (pc := 27) hG (dk dd_X9_ask 14 rfl) ml_X9_354 mo_X1_answer sh_65 rfl (c_answer (α := α) (h := x.toNatClampNeg) (by rw [p12.1, p5.1]; exact hA) hv hh hx) (by decide) (by decide) rfl rfl rfl (fun x27 m27 p27 => ?_)
    refine V_iretP (pc := 30) hG (dk dd_X9_ask 15 rfl) hR (Pi.mk ?_)
    rotate_left
    rotate_left
    -- leaves: stop 18; return@30; stop 18
    · exact absurd hi.1 (p5.2.no h8)
    · obtain ⟨a1, a2, a3⟩ := p27
      exact Or.inr ⟨hi, a1, a2, fun a b c => by rw [a3 a b c, p12.1, p5.1]⟩
    · exact absurd hi.2 (p12.2.no h15)
  · skip
    refine V_aload_n (pc := 0) hG (dk dd_X9_ask 0 rfl) rfl ?_
    refine V_getR (pc := 1) hG (dk dd_X9_ask 1 rfl) fl_X9_26 sh_0 rfl ?_
    refine V_iload_n (pc := 4) hG (dk dd_X9_ask 2 rfl) rfl ?_
    refine V_callVip (pc := 5) hG (dk dd_X9_ask 3 rfl) ml_X9_163 mo_X2_isHum sh_15 rfl (k_isHum hA) (by decide) (by decide) rfl rfl rfl (fun x5 m5 p5 => ?_)
    refine V_if_eq (pc := 8) hG (dk dd_X9_ask 4 rfl) (tgt := 18) (by decide) (fun h8 => ?_) (fun h8 => ?_)
    refine V_ldc (pc := 18) hG (dk dd_X9_ask 8 rfl) kk_X9_90 ?_
    refine V_iretP (pc := 20) hG (dk dd_X9_ask 9 rfl) hR (Pi.mk ?_)
    rotate_left
    refine V_iload_n (pc := 11) hG (dk dd_X9_ask 5 rfl) rfl ?_
    refine V_callSip (pc := 12) hG (dk dd_X9_ask 6 rfl) ml_X9_290 mo_X9_isOneOfTwo (c_isOneOfTwo) (by decide) (by decide) rfl rfl rfl (fun x12 m12 p12 => ?_)
    refine V_if_ne (pc := 15) hG (dk dd_X9_ask 7 rfl) (tgt := 21) (by decide) (fun h15 => ?_) (fun h15 => ?_)
    rotate_left
    refine V_ldc (pc := 18) hG (dk dd_X9_ask 8 rfl) kk_X9_90 ?_
    refine V_iretP (pc := 20) hG (dk dd_X9_ask 9 rfl) hR (Pi.mk ?_)
    rotate_left
    -- leaves: return@20; stop 21; return@20
    · exact Or.inl ⟨hi, rfl, p5.1⟩
    · exact absurd ⟨p5.2.yes h8, p12.2.yes h15⟩ hi
    · exact Or.inl ⟨hi, rfl, p12.1.trans p5.1⟩
