/-! ===== SleepingJudge: what is foretold; images ===== -/
theorem j_dreams {μ : Mem} {α : Al} (hA : Abs (kac μ 15) α) (hz : Vz α) {x w : Int32} : CtP yX9_dreams cX9_dreams 3 (some .int) 6 [vR 0, vI x, vI w] μ (Pi (fun r μ' => DrmR α x w r ∧ FrC μ none μ')) := by
  refine CtP.go RX9 rfl pn_X9 (Nat.le_of_ble_eq_true rfl) (fun C hG hR => ?_)
  by_cases hv : Val α
  · have h0 := hv.p0
    by_cases hx8 : 0 ≤ x ∧ x ≤ 8
    · obtain ⟨n, hn, hx⟩ := nI_of (Int32.not_lt.mpr hx8.1)
      have n8 : n ≤ 8 := le_i (b := 8) (hx ▸ hx8.2) hn (by decide)
      have fr : ∀ m, (∀ a, a ≠ 52 → a ≠ 53 → m a = μ a) → FrC μ none m := fun m h => (FrC.rf μ).tr (fun a b c => h a (by omega) (by omega))
      have mk : ∀ W r m, W < 5 → w = nI W → DrQ (Rch α (α 0 3) n) (α 0 0) W r → (∀ a, a ≠ 52 → a ≠ 53 → m a = μ a) → DrmR α x w r ∧ FrC μ none m := fun W r m a b c d => ⟨Or.inr (Or.inr ⟨h0, n, W, hx, n8, b, a, c⟩), fr m d⟩
      refine V_aload_n (pc := 0) hG (dk dd_X9_dreams 0 rfl) rfl ?_
      refine V_getR (pc := 1) hG (dk dd_X9_dreams 1 rfl) fl_X9_26 sh_0 rfl ?_
      refine V_callVip (pc := 4) hG (dk dd_X9_dreams 2 rfl) ml_X9_219 mo_X2_isTold sh_15 rfl (k_isTold hA hz) (by decide) (by decide) rfl rfl rfl (fun x4 m4 p4 => ?_)
      refine V_if_ne (pc := 7) hG (dk dd_X9_dreams 3 rfl) (tgt := 13) (by decide) (fun h7 => ?_) (fun h7 => ?_)
      refine V_iload_n (pc := 13) hG (dk dd_X9_dreams 6 rfl) rfl ?_
      refine V_callSip (pc := 14) hG (dk dd_X9_dreams 7 rfl) ml_X9_235 mo_X9_isBehind (c_isBehind) (by decide) (by decide) rfl rfl rfl (fun x14 m14 p14 => ?_)
      refine V_if_ne (pc := 17) hG (dk dd_X9_dreams 8 rfl) (tgt := 23) (by decide) (fun h17 => ?_) (fun h17 => ?_)
      rotate_left
      rotate_left
      rotate_left
      -- leaves: stop 23; stop 20; stop 10
      · have em : m14 = μ := p14.1.trans p4.1
        rw [em]
        refine V_iload_n (pc := 23) hG (dk dd_X9_dreams 11 rfl) rfl ?_
        refine V_tsw (pc := 24) hG (dk dd_X9_dreams 12 rfl) (cs := [(0, 60), (1, 69), (2, 78), (3, 87), (4, 96)]) (td := 105) (by decide +kernel) ?_
        refine And.intro (fun h24_0 => ?_) (fun h24_0 => ?_)
        refine V_aload_n (pc := 60) hG (dk dd_X9_dreams 13 rfl) rfl ?_
        refine V_getR (pc := 61) hG (dk dd_X9_dreams 14 rfl) fl_X9_58 sh_0 rfl ?_
        refine V_iload_n (pc := 64) hG (dk dd_X9_dreams 15 rfl) rfl ?_
        refine V_callVip (pc := 65) hG (dk dd_X9_dreams 16 rfl) ml_X9_238 mo_X8_howManyBehind sh_51 rfl (c_howManyBehind hA hv hx (by omega)) (by decide) (by decide) rfl rfl rfl (fun x65 m65 p65 => ?_)
        refine V_iretP (pc := 68) hG (dk dd_X9_dreams 17 rfl) hR (Pi.mk ?_)
        rotate_left
        refine And.intro (fun h24_1 => ?_) (fun h24_1 => ?_)
        refine V_aload_n (pc := 69) hG (dk dd_X9_dreams 18 rfl) rfl ?_
        refine V_getR (pc := 70) hG (dk dd_X9_dreams 19 rfl) fl_X9_58 sh_0 rfl ?_
        refine V_iload_n (pc := 73) hG (dk dd_X9_dreams 20 rfl) rfl ?_
        refine V_callVip (pc := 74) hG (dk dd_X9_dreams 21 rfl) ml_X9_241 mo_X8_inAllBehind sh_51 rfl (c_inAllBehind hA hv hx (by omega)) (by decide) (by decide) rfl rfl rfl (fun x74 m74 p74 => ?_)
        refine V_iretP (pc := 77) hG (dk dd_X9_dreams 22 rfl) hR (Pi.mk ?_)
        rotate_left
        refine And.intro (fun h24_2 => ?_) (fun h24_2 => ?_)
        refine V_aload_n (pc := 78) hG (dk dd_X9_dreams 23 rfl) rfl ?_
        refine V_getR (pc := 79) hG (dk dd_X9_dreams 24 rfl) fl_X9_58 sh_0 rfl ?_
        refine V_iload_n (pc := 82) hG (dk dd_X9_dreams 25 rfl) rfl ?_
        refine V_callVip (pc := 83) hG (dk dd_X9_dreams 26 rfl) ml_X9_244 mo_X8_inAnyBehind sh_51 rfl (c_inAnyBehind hA hv hx (by omega)) (by decide) (by decide) rfl rfl rfl (fun x83 m83 p83 => ?_)
        refine V_iretP (pc := 86) hG (dk dd_X9_dreams 27 rfl) hR (Pi.mk ?_)
        rotate_left
        refine And.intro (fun h24_3 => ?_) (fun h24_3 => ?_)
        refine V_aload_n (pc := 87) hG (dk dd_X9_dreams 28 rfl) rfl ?_
        refine V_getR (pc := 88) hG (dk dd_X9_dreams 29 rfl) fl_X9_58 sh_0 rfl ?_
        refine V_iload_n (pc := 91) hG (dk dd_X9_dreams 30 rfl) rfl ?_
        refine V_callVip (pc := 92) hG (dk dd_X9_dreams 31 rfl) ml_X9_247 mo_X8_leastBehind sh_51 rfl (c_leastBehind hA hv hx (by omega)) (by decide) (by decide) rfl rfl rfl (fun x92 m92 p92 => ?_)
        refine V_iretP (pc := 95) hG (dk dd_X9_dreams 32 rfl) hR (Pi.mk ?_)
        rotate_left
        refine And.intro (fun h24_4 => ?_) (fun h24_4 => ?_)
        refine V_aload_n (pc := 96) hG (dk dd_X9_dreams 33 rfl) rfl ?_
        refine V_getR (pc := 97) hG (dk dd_X9_dreams 34 rfl) fl_X9_58 sh_0 rfl ?_
        refine V_iload_n (pc := 100) hG (dk dd_X9_dreams 35 rfl) rfl ?_
        refine V_callVip (pc := 101) hG (dk dd_X9_dreams 36 rfl) ml_X9_250 mo_X8_greatestBehind sh_51 rfl (c_greatestBehind hA hv hx (by omega)) (by decide) (by decide) rfl rfl rfl (fun x101 m101 p101 => ?_)
        refine V_iretP (pc := 104) hG (dk dd_X9_dreams 37 rfl) hR (Pi.mk ?_)
        rotate_left
        show V _ _ _ _ _
        refine V_ldc (pc := 105) hG (dk dd_X9_dreams 38 rfl) kk_X9_90 ?_
        refine V_iretP (pc := 107) hG (dk dd_X9_dreams 39 rfl) hR (Pi.mk ?_)
        rotate_left
        -- leaves: return@68; return@77; return@86; return@95; return@104; return@107
        · exact mk 0 _ _ (by decide) h24_0 ⟨fun _ => p65.2, fun q => absurd q (by decide), fun q => absurd q (by decide), fun q => absurd q (by decide), fun q => absurd q (by decide)⟩ p65.1
        · exact mk 1 _ _ (by decide) h24_1 ⟨fun q => absurd q (by decide), fun _ => p74.2, fun q => absurd q (by decide), fun q => absurd q (by decide), fun q => absurd q (by decide)⟩ p74.1
        · exact mk 2 _ _ (by decide) h24_2 ⟨fun q => absurd q (by decide), fun q => absurd q (by decide), fun _ => p83.2, fun q => absurd q (by decide), fun q => absurd q (by decide)⟩ p83.1
        · exact mk 3 _ _ (by decide) h24_3 ⟨fun q => absurd q (by decide), fun q => absurd q (by decide), fun q => absurd q (by decide), fun _ => p92.2, fun q => absurd q (by decide)⟩ p92.1
        · exact mk 4 _ _ (by decide) h24_4 ⟨fun q => absurd q (by decide), fun q => absurd q (by decide), fun q => absurd q (by decide), fun q => absurd q (by decide), fun _ => p101.2⟩ p101.1
        · refine ⟨Or.inr (Or.inl ⟨h0, fun q => ?_, rfl⟩), FrC.rf μ⟩
          rcases i5c q.2 with z | z | z | z | z
          · exact h24_0 z
          · exact h24_1 z
          · exact h24_2 z
          · exact h24_3 z
          · exact h24_4 z
      · exact absurd hx8 (p14.2.no h17)
      · exact absurd hv (p4.2.no h7)
    · skip
      refine V_aload_n (pc := 0) hG (dk dd_X9_dreams 0 rfl) rfl ?_
      refine V_getR (pc := 1) hG (dk dd_X9_dreams 1 rfl) fl_X9_26 sh_0 rfl ?_
      refine V_callVip (pc := 4) hG (dk dd_X9_dreams 2 rfl) ml_X9_219 mo_X2_isTold sh_15 rfl (k_isTold hA hz) (by decide) (by decide) rfl rfl rfl (fun x4 m4 p4 => ?_)
      refine V_if_ne (pc := 7) hG (dk dd_X9_dreams 3 rfl) (tgt := 13) (by decide) (fun h7 => ?_) (fun h7 => ?_)
      refine V_iload_n (pc := 13) hG (dk dd_X9_dreams 6 rfl) rfl ?_
      refine V_callSip (pc := 14) hG (dk dd_X9_dreams 7 rfl) ml_X9_235 mo_X9_isBehind (c_isBehind) (by decide) (by decide) rfl rfl rfl (fun x14 m14 p14 => ?_)
      refine V_if_ne (pc := 17) hG (dk dd_X9_dreams 8 rfl) (tgt := 23) (by decide) (fun h17 => ?_) (fun h17 => ?_)
      rotate_left
      refine V_ldc (pc := 20) hG (dk dd_X9_dreams 9 rfl) kk_X9_90 ?_
      refine V_iretP (pc := 22) hG (dk dd_X9_dreams 10 rfl) hR (Pi.mk ?_)
      rotate_left
      rotate_left
      -- leaves: stop 23; return@22; stop 10
      · exact absurd (p14.2.yes h17) hx8
      · exact ⟨Or.inr (Or.inl ⟨h0, fun q => hx8 q.1, rfl⟩), by rw [p14.1, p4.1]; exact FrC.rf μ⟩
      · exact absurd hv (p4.2.no h7)
  · skip
    refine V_aload_n (pc := 0) hG (dk dd_X9_dreams 0 rfl) rfl ?_
    refine V_getR (pc := 1) hG (dk dd_X9_dreams 1 rfl) fl_X9_26 sh_0 rfl ?_
    refine V_callVip (pc := 4) hG (dk dd_X9_dreams 2 rfl) ml_X9_219 mo_X2_isTold sh_15 rfl (k_isTold hA hz) (by decide) (by decide) rfl rfl rfl (fun x4 m4 p4 => ?_)
    refine V_if_ne (pc := 7) hG (dk dd_X9_dreams 3 rfl) (tgt := 13) (by decide) (fun h7 => ?_) (fun h7 => ?_)
    rotate_left
    refine V_ldc (pc := 10) hG (dk dd_X9_dreams 4 rfl) kk_X9_158 ?_
    refine V_iretP (pc := 12) hG (dk dd_X9_dreams 5 rfl) hR (Pi.mk ?_)
    rotate_left
    -- leaves: stop 13; return@12
    · exact absurd (p4.2.yes h7) hv
    · exact ⟨Or.inl ⟨hz.n0 hv, rfl⟩, by rw [p4.1]; exact FrC.rf μ⟩
theorem fr_w {μ m : Mem} (h : ∀ c, (c < 51 ∨ 57 < c) → m c = μ c) : FrC μ none m := (FrC.rf μ).tr (fun a b c => h a (by omega))
theorem j_least {μ : Mem} {α : Al} (hA : Abs (kac μ 15) α) (hz : Vz α) {x y k : Int32} : CtP yX9_least cX9_least 4 (some .int) 5 [vR 0, vI x, vI y, vI k] μ (Pi (fun r μ' => LstR α x y k r ∧ FrC μ none μ')) := by
  refine CtP.go RX9 rfl pn_X9 (Nat.le_of_ble_eq_true rfl) (fun C hG hR => ?_)
  by_cases hv : Val α
  · have h0 := hv.p0
    have hp := pow8 hv.t
    by_cases hi : inN x (2 ^ α 0 0) ∧ inN y (2 ^ α 0 0) ∧ -1 ≤ k
    · obtain ⟨hx, hxl⟩ := hi.1.n (by omega)
      obtain ⟨hy, hyl⟩ := hi.2.1.n (by omega)
      refine V_aload_n (pc := 0) hG (dk dd_X9_least 0 rfl) rfl ?_
      refine V_getR (pc := 1) hG (dk dd_X9_least 1 rfl) fl_X9_26 sh_0 rfl ?_
      refine V_callVip (pc := 4) hG (dk dd_X9_least 2 rfl) ml_X9_219 mo_X2_isTold sh_15 rfl (k_isTold hA hz) (by decide) (by decide) rfl rfl rfl (fun x4 m4 p4 => ?_)
      refine V_if_ne (pc := 7) hG (dk dd_X9_least 3 rfl) (tgt := 13) (by decide) (fun h7 => ?_) (fun h7 => ?_)
      refine V_aload_n (pc := 13) hG (dk dd_X9_least 6 rfl) rfl ?_
      refine V_getR (pc := 14) hG (dk dd_X9_least 7 rfl) fl_X9_26 sh_0 rfl ?_
      refine V_iload_n (pc := 17) hG (dk dd_X9_least 8 rfl) rfl ?_
      refine V_callVip (pc := 18) hG (dk dd_X9_least 9 rfl) ml_X9_253 mo_X2_isDream sh_15 rfl (k_isDream (α := α) (by rw [p4.1]; exact hA) hv.t) (by decide) (by decide) rfl rfl rfl (fun x18 m18 p18 => ?_)
      refine V_if_eq (pc := 21) hG (dk dd_X9_least 10 rfl) (tgt := 40) (by decide) (fun h21 => ?_) (fun h21 => ?_)
      rotate_left
      refine V_aload_n (pc := 24) hG (dk dd_X9_least 11 rfl) rfl ?_
      refine V_getR (pc := 25) hG (dk dd_X9_least 12 rfl) fl_X9_26 sh_0 rfl ?_
      refine V_iload_n (pc := 28) hG (dk dd_X9_least 13 rfl) rfl ?_
      refine V_callVip (pc := 29) hG (dk dd_X9_least 14 rfl) ml_X9_253 mo_X2_isDream sh_15 rfl (k_isDream (α := α) (by rw [p18.1, p4.1]; exact hA) hv.t) (by decide) (by decide) rfl rfl rfl (fun x29 m29 p29 => ?_)
      refine V_if_eq (pc := 32) hG (dk dd_X9_least 15 rfl) (tgt := 40) (by decide) (fun h32 => ?_) (fun h32 => ?_)
      rotate_left
      refine V_iload_n (pc := 35) hG (dk dd_X9_least 16 rfl) rfl ?_
      refine V_iconst (pc := 36) hG (dk dd_X9_least 17 rfl) (v := -1) (by decide) ?_
      refine V_icmp_ge (pc := 37) hG (dk dd_X9_least 18 rfl) (tgt := 43) (by decide) (fun h37 => ?_) (fun h37 => ?_)
      rotate_left
      rotate_left
      rotate_left
      -- leaves: stop 40; stop 40; stop 43; stop 40; stop 10
      · exact absurd hi.1 (p18.2.no h21)
      · exact absurd hi.2.1 (p29.2.no h32)
      · have em : m29 = μ := p29.1.trans (p18.1.trans p4.1)
        rw [em]
        refine V_aload_n (pc := 43) hG (dk dd_X9_least 21 rfl) rfl ?_
        refine V_getR (pc := 44) hG (dk dd_X9_least 22 rfl) fl_X9_58 sh_0 rfl ?_
        refine V_bipush (pc := 47) hG (dk dd_X9_least 23 rfl) (v := 12) (by decide) ?_
        refine V_callVvp (pc := 49) hG (dk dd_X9_least 24 rfl) ml_X9_256 mo_X8_goWithin sh_51 rfl (c_goWithin hA hv (n := 12) rfl (by decide)) (by decide) (by decide) rfl rfl rfl (fun m49 p49 => ?_)
        rotate_left
        -- leaves: stop 52
        · obtain ⟨f1, N, ρ, fr, hB, hF⟩ := p49
          refine V_aload_n (pc := 52) hG (dk dd_X9_least 25 rfl) rfl ?_
          refine V_getR (pc := 53) hG (dk dd_X9_least 26 rfl) fl_X9_58 sh_0 rfl ?_
          refine V_aload_n (pc := 56) hG (dk dd_X9_least 27 rfl) rfl ?_
          refine V_getR (pc := 57) hG (dk dd_X9_least 28 rfl) fl_X9_58 sh_0 rfl ?_
          refine V_iload_n (pc := 60) hG (dk dd_X9_least 29 rfl) rfl ?_
          refine V_iload_n (pc := 61) hG (dk dd_X9_least 30 rfl) rfl ?_
          refine V_callVip (pc := 62) hG (dk dd_X9_least 31 rfl) ml_X9_260 mo_X8_firstWith sh_51 rfl (c_firstWith hv hB hx (by omega) hy (by omega)) (by decide) (by decide) rfl rfl rfl (fun x62 m62 p62 => ?_)
          refine V_iload_n (pc := 65) hG (dk dd_X9_least 32 rfl) rfl ?_
          refine V_callVip (pc := 66) hG (dk dd_X9_least 33 rfl) ml_X9_263 mo_X8_humOfRowTo sh_51 rfl (c_humOfRowTo (by rw [p62.1]; exact hB) hF (by decide) p62.2 hi.2.2) (by decide) (by decide) rfl rfl rfl (fun x66 m66 p66 => ?_)
          refine V_iretP (pc := 69) hG (dk dd_X9_least 34 rfl) hR (Pi.mk ?_)
          rotate_left
          -- leaves: return@69
          · exact ⟨Or.inr (Or.inr ⟨h0, hi, p66.2⟩), by rw [p66.1, p62.1]; exact fr_w f1⟩
      · exact absurd hi.2.2 h37
      · exact absurd hv (p4.2.no h7)
    · skip
      refine V_aload_n (pc := 0) hG (dk dd_X9_least 0 rfl) rfl ?_
      refine V_getR (pc := 1) hG (dk dd_X9_least 1 rfl) fl_X9_26 sh_0 rfl ?_
      refine V_callVip (pc := 4) hG (dk dd_X9_least 2 rfl) ml_X9_219 mo_X2_isTold sh_15 rfl (k_isTold hA hz) (by decide) (by decide) rfl rfl rfl (fun x4 m4 p4 => ?_)
      refine V_if_ne (pc := 7) hG (dk dd_X9_least 3 rfl) (tgt := 13) (by decide) (fun h7 => ?_) (fun h7 => ?_)
      refine V_aload_n (pc := 13) hG (dk dd_X9_least 6 rfl) rfl ?_
      refine V_getR (pc := 14) hG (dk dd_X9_least 7 rfl) fl_X9_26 sh_0 rfl ?_
      refine V_iload_n (pc := 17) hG (dk dd_X9_least 8 rfl) rfl ?_
      refine V_callVip (pc := 18) hG (dk dd_X9_least 9 rfl) ml_X9_253 mo_X2_isDream sh_15 rfl (k_isDream (α := α) (by rw [p4.1]; exact hA) hv.t) (by decide) (by decide) rfl rfl rfl (fun x18 m18 p18 => ?_)
      refine V_if_eq (pc := 21) hG (dk dd_X9_least 10 rfl) (tgt := 40) (by decide) (fun h21 => ?_) (fun h21 => ?_)
      refine V_ldc (pc := 40) hG (dk dd_X9_least 19 rfl) kk_X9_90 ?_
      refine V_iretP (pc := 42) hG (dk dd_X9_least 20 rfl) hR (Pi.mk ?_)
      rotate_left
      refine V_aload_n (pc := 24) hG (dk dd_X9_least 11 rfl) rfl ?_
      refine V_getR (pc := 25) hG (dk dd_X9_least 12 rfl) fl_X9_26 sh_0 rfl ?_
      refine V_iload_n (pc := 28) hG (dk dd_X9_least 13 rfl) rfl ?_
      refine V_callVip (pc := 29) hG (dk dd_X9_least 14 rfl) ml_X9_253 mo_X2_isDream sh_15 rfl (k_isDream (α := α) (by rw [p18.1, p4.1]; exact hA) hv.t) (by decide) (by decide) rfl rfl rfl (fun x29 m29 p29 => ?_)
      refine V_if_eq (pc := 32) hG (dk dd_X9_least 15 rfl) (tgt := 40) (by decide) (fun h32 => ?_) (fun h32 => ?_)
      refine V_ldc (pc := 40) hG (dk dd_X9_least 19 rfl) kk_X9_90 ?_
      refine V_iretP (pc := 42) hG (dk dd_X9_least 20 rfl) hR (Pi.mk ?_)
      rotate_left
      refine V_iload_n (pc := 35) hG (dk dd_X9_least 16 rfl) rfl ?_
      refine V_iconst (pc := 36) hG (dk dd_X9_least 17 rfl) (v := -1) (by decide) ?_
      refine V_icmp_ge (pc := 37) hG (dk dd_X9_least 18 rfl) (tgt := 43) (by decide) (fun h37 => ?_) (fun h37 => ?_)
      rotate_left
      refine V_ldc (pc := 40) hG (dk dd_X9_least 19 rfl) kk_X9_90 ?_
      refine V_iretP (pc := 42) hG (dk dd_X9_least 20 rfl) hR (Pi.mk ?_)
      rotate_left
      rotate_left
      -- leaves: return@42; return@42; stop 43; return@42; stop 10
      · exact ⟨Or.inr (Or.inl ⟨h0, hi, rfl⟩), by rw [p18.1, p4.1]; exact FrC.rf μ⟩
      · exact ⟨Or.inr (Or.inl ⟨h0, hi, rfl⟩), by rw [p29.1, p18.1, p4.1]; exact FrC.rf μ⟩
      · exact absurd ⟨p18.2.yes h21, p29.2.yes h32, h37⟩ hi
      · exact ⟨Or.inr (Or.inl ⟨h0, hi, rfl⟩), by rw [p29.1, p18.1, p4.1]; exact FrC.rf μ⟩
      · exact absurd hv (p4.2.no h7)
  · skip
    refine V_aload_n (pc := 0) hG (dk dd_X9_least 0 rfl) rfl ?_
    refine V_getR (pc := 1) hG (dk dd_X9_least 1 rfl) fl_X9_26 sh_0 rfl ?_
    refine V_callVip (pc := 4) hG (dk dd_X9_least 2 rfl) ml_X9_219 mo_X2_isTold sh_15 rfl (k_isTold hA hz) (by decide) (by decide) rfl rfl rfl (fun x4 m4 p4 => ?_)
    refine V_if_ne (pc := 7) hG (dk dd_X9_least 3 rfl) (tgt := 13) (by decide) (fun h7 => ?_) (fun h7 => ?_)
    rotate_left
    refine V_ldc (pc := 10) hG (dk dd_X9_least 4 rfl) kk_X9_158 ?_
    refine V_iretP (pc := 12) hG (dk dd_X9_least 5 rfl) hR (Pi.mk ?_)
    rotate_left
    -- leaves: stop 13; return@12
    · exact absurd (p4.2.yes h7) hv
    · exact ⟨Or.inl ⟨hz.n0 hv, rfl⟩, by rw [p4.1]; exact FrC.rf μ⟩
theorem j_save {μ : Mem} {α : Al} (hA : Abs (kac μ 15) α) (hz : Vz α) {x k : Int32} : CtP yX9_save cX9_save 3 (some .int) 5 [vR 0, vI x, vI k] μ (Pi (fun r μ' => SavR α x k r ∧ FrC μ none μ')) := by
  refine CtP.go RX9 rfl pn_X9 (Nat.le_of_ble_eq_true rfl) (fun C hG hR => ?_)
  have hC := hz.C
  by_cases hi : inN x (α 0 7) ∧ -1 ≤ k
  · obtain ⟨hx, hh⟩ := hi.1.n (by omega)
    have hv := hz.vc hh
    refine V_aload_n (pc := 0) hG (dk dd_X9_save 0 rfl) rfl ?_
    refine V_getR (pc := 1) hG (dk dd_X9_save 1 rfl) fl_X9_26 sh_0 rfl ?_
    refine V_iload_n (pc := 4) hG (dk dd_X9_save 2 rfl) rfl ?_
    refine V_callVip (pc := 5) hG (dk dd_X9_save 3 rfl) ml_X9_182 mo_X2_isCase sh_15 rfl (k_isCase hA) (by decide) (by decide) rfl rfl rfl (fun x5 m5 p5 => ?_)
    refine V_if_eq (pc := 8) hG (dk dd_X9_save 4 rfl) (tgt := 16) (by decide) (fun h8 => ?_) (fun h8 => ?_)
    rotate_left
    refine V_iload_n (pc := 11) hG (dk dd_X9_save 5 rfl) rfl ?_
    refine V_iconst (pc := 12) hG (dk dd_X9_save 6 rfl) (v := -1) (by decide) ?_
    refine V_icmp_ge (pc := 13) hG (dk dd_X9_save 7 rfl) (tgt := 19) (by decide) (fun h13 => ?_) (fun h13 => ?_)
    refine V_aload_n (pc := 19) hG (dk dd_X9_save 10 rfl) rfl ?_
    refine V_getR (pc := 20) hG (dk dd_X9_save 11 rfl) fl_X9_58 sh_0 rfl ?_
    refine V_bipush (pc := 23) hG (dk dd_X9_save 12 rfl) (v := 12) (by decide) ?_
    refine V_callVvp (pc := 25) hG (dk dd_X9_save 13 rfl) ml_X9_256 mo_X8_goWithin sh_51 rfl (c_goWithin (α := α) (by rw [p5.1]; exact hA) hv (n := 12) rfl (by decide)) (by decide) (by decide) rfl rfl rfl (fun m25 p25 => ?_)
    rotate_left
    rotate_left
    -- leaves: stop 16; stop 28; stop 16
    · exact absurd hi.1 (p5.2.no h8)
    · obtain ⟨f1, N, ρ, fr, hB, hF⟩ := p25
      rw [p5.1] at f1
      have hA2 : Abs (kac m25 15) α := hA.off (fun x hx => f1 _ (by omega))
      refine V_aload_n (pc := 28) hG (dk dd_X9_save 14 rfl) rfl ?_
      refine V_getR (pc := 29) hG (dk dd_X9_save 15 rfl) fl_X9_58 sh_0 rfl ?_
      refine V_aload_n (pc := 32) hG (dk dd_X9_save 16 rfl) rfl ?_
      refine V_getR (pc := 33) hG (dk dd_X9_save 17 rfl) fl_X9_58 sh_0 rfl ?_
      refine V_iload_n (pc := 36) hG (dk dd_X9_save 18 rfl) rfl ?_
      refine V_callVip (pc := 37) hG (dk dd_X9_save 19 rfl) ml_X9_266 mo_X8_firstFree sh_51 rfl (c_firstFree hA2 hv hB hx hh) (by decide) (by decide) rfl rfl rfl (fun x37 m37 p37 => ?_)
      refine V_iload_n (pc := 40) hG (dk dd_X9_save 20 rfl) rfl ?_
      refine V_callVip (pc := 41) hG (dk dd_X9_save 21 rfl) ml_X9_263 mo_X8_humOfRowTo sh_51 rfl (c_humOfRowTo (by rw [p37.1]; exact hB) hF (by decide) p37.2 hi.2) (by decide) (by decide) rfl rfl rfl (fun x41 m41 p41 => ?_)
      refine V_iretP (pc := 44) hG (dk dd_X9_save 22 rfl) hR (Pi.mk ?_)
      rotate_left
      -- leaves: return@44
      · exact ⟨Or.inr ⟨hi, p41.2⟩, by rw [p41.1, p37.1]; exact fr_w f1⟩
    · exact absurd hi.2 h13
  · skip
    refine V_aload_n (pc := 0) hG (dk dd_X9_save 0 rfl) rfl ?_
    refine V_getR (pc := 1) hG (dk dd_X9_save 1 rfl) fl_X9_26 sh_0 rfl ?_
    refine V_iload_n (pc := 4) hG (dk dd_X9_save 2 rfl) rfl ?_
    refine V_callVip (pc := 5) hG (dk dd_X9_save 3 rfl) ml_X9_182 mo_X2_isCase sh_15 rfl (k_isCase hA) (by decide) (by decide) rfl rfl rfl (fun x5 m5 p5 => ?_)
    refine V_if_eq (pc := 8) hG (dk dd_X9_save 4 rfl) (tgt := 16) (by decide) (fun h8 => ?_) (fun h8 => ?_)
    refine V_ldc (pc := 16) hG (dk dd_X9_save 8 rfl) kk_X9_90 ?_
    refine V_iretP (pc := 18) hG (dk dd_X9_save 9 rfl) hR (Pi.mk ?_)
    rotate_left
    refine V_iload_n (pc := 11) hG (dk dd_X9_save 5 rfl) rfl ?_
    refine V_iconst (pc := 12) hG (dk dd_X9_save 6 rfl) (v := -1) (by decide) ?_
    refine V_icmp_ge (pc := 13) hG (dk dd_X9_save 7 rfl) (tgt := 19) (by decide) (fun h13 => ?_) (fun h13 => ?_)
    rotate_left
    refine V_ldc (pc := 16) hG (dk dd_X9_save 8 rfl) kk_X9_90 ?_
    refine V_iretP (pc := 18) hG (dk dd_X9_save 9 rfl) hR (Pi.mk ?_)
    rotate_left
    -- leaves: return@18; stop 19; return@18
    · exact ⟨Or.inl ⟨hi, rfl⟩, by rw [p5.1]; exact FrC.rf μ⟩
    · exact absurd ⟨p5.2.yes h8, h13⟩ hi
    · exact ⟨Or.inl ⟨hi, rfl⟩, by rw [p5.1]; exact FrC.rf μ⟩
theorem j_can {μ : Mem} {α : Al} (hA : Abs (kac μ 15) α) (hz : Vz α) {x y : Int32} : CtP yX9_can cX9_can 3 (some .int) 5 [vR 0, vI x, vI y] μ (Pi (fun r μ' => CanR α x y r ∧ FrC μ none μ')) := by
  refine CtP.go RX9 rfl pn_X9 (Nat.le_of_ble_eq_true rfl) (fun C hG hR => ?_)
  have hC := hz.C
  by_cases hi : inN x (α 0 7) ∧ (0 ≤ y ∧ y ≤ 8)
  · obtain ⟨hx, hh⟩ := hi.1.n (by omega)
    have hv := hz.vc hh
    obtain ⟨n, hn, hy⟩ := nI_of (Int32.not_lt.mpr hi.2.1)
    have n8 : n ≤ 8 := le_i (b := 8) (hy ▸ hi.2.2) hn (by decide)
    refine V_aload_n (pc := 0) hG (dk dd_X9_can 0 rfl) rfl ?_
    refine V_getR (pc := 1) hG (dk dd_X9_can 1 rfl) fl_X9_26 sh_0 rfl ?_
    refine V_iload_n (pc := 4) hG (dk dd_X9_can 2 rfl) rfl ?_
    refine V_callVip (pc := 5) hG (dk dd_X9_can 3 rfl) ml_X9_182 mo_X2_isCase sh_15 rfl (k_isCase hA) (by decide) (by decide) rfl rfl rfl (fun x5 m5 p5 => ?_)
    refine V_if_eq (pc := 8) hG (dk dd_X9_can 4 rfl) (tgt := 18) (by decide) (fun h8 => ?_) (fun h8 => ?_)
    rotate_left
    refine V_iload_n (pc := 11) hG (dk dd_X9_can 5 rfl) rfl ?_
    refine V_callSip (pc := 12) hG (dk dd_X9_can 6 rfl) ml_X9_235 mo_X9_isBehind (c_isBehind) (by decide) (by decide) rfl rfl rfl (fun x12 m12 p12 => ?_)
    refine V_if_ne (pc := 15) hG (dk dd_X9_can 7 rfl) (tgt := 21) (by decide) (fun h15 => ?_) (fun h15 => ?_)
    refine V_aload_n (pc := 21) hG (dk dd_X9_can 10 rfl) rfl ?_
    refine V_getR (pc := 22) hG (dk dd_X9_can 11 rfl) fl_X9_58 sh_0 rfl ?_
    refine V_iload_n (pc := 25) hG (dk dd_X9_can 12 rfl) rfl ?_
    refine V_callVvp (pc := 26) hG (dk dd_X9_can 13 rfl) ml_X9_256 mo_X8_goWithin sh_51 rfl (c_goWithin (α := α) (by rw [p12.1, p5.1]; exact hA) hv hy (by omega)) (by decide) (by decide) rfl rfl rfl (fun m26 p26 => ?_)
    rotate_left
    rotate_left
    -- leaves: stop 18; stop 29; stop 18
    · exact absurd hi.1 (p5.2.no h8)
    · obtain ⟨f1, N, ρ, fr, hB, hF⟩ := p26
      rw [p12.1, p5.1] at f1
      have hA2 : Abs (kac m26 15) α := hA.off (fun x hx => f1 _ (by omega))
      refine V_aload_n (pc := 29) hG (dk dd_X9_can 14 rfl) rfl ?_
      refine V_getR (pc := 30) hG (dk dd_X9_can 15 rfl) fl_X9_58 sh_0 rfl ?_
      refine V_iload_n (pc := 33) hG (dk dd_X9_can 16 rfl) rfl ?_
      refine V_callVip (pc := 34) hG (dk dd_X9_can 17 rfl) ml_X9_269 mo_X8_verdictsMet sh_51 rfl (c_verdictsMet hA2 hv hB hF hx hh) (by decide) (by decide) rfl rfl rfl (fun x34 m34 p34 => ?_)
      refine V_iretP (pc := 37) hG (dk dd_X9_can 18 rfl) hR (Pi.mk ?_)
      rotate_left
      -- leaves: return@37
      · exact ⟨Or.inr ⟨hi.1, n, hy, n8, p34.2⟩, by rw [p34.1]; exact fr_w f1⟩
    · exact absurd hi.2 (p12.2.no h15)
  · skip
    refine V_aload_n (pc := 0) hG (dk dd_X9_can 0 rfl) rfl ?_
    refine V_getR (pc := 1) hG (dk dd_X9_can 1 rfl) fl_X9_26 sh_0 rfl ?_
    refine V_iload_n (pc := 4) hG (dk dd_X9_can 2 rfl) rfl ?_
    refine V_callVip (pc := 5) hG (dk dd_X9_can 3 rfl) ml_X9_182 mo_X2_isCase sh_15 rfl (k_isCase hA) (by decide) (by decide) rfl rfl rfl (fun x5 m5 p5 => ?_)
    refine V_if_eq (pc := 8) hG (dk dd_X9_can 4 rfl) (tgt := 18) (by decide) (fun h8 => ?_) (fun h8 => ?_)
    refine V_ldc (pc := 18) hG (dk dd_X9_can 8 rfl) kk_X9_90 ?_
    refine V_iretP (pc := 20) hG (dk dd_X9_can 9 rfl) hR (Pi.mk ?_)
    rotate_left
    refine V_iload_n (pc := 11) hG (dk dd_X9_can 5 rfl) rfl ?_
    refine V_callSip (pc := 12) hG (dk dd_X9_can 6 rfl) ml_X9_235 mo_X9_isBehind (c_isBehind) (by decide) (by decide) rfl rfl rfl (fun x12 m12 p12 => ?_)
    refine V_if_ne (pc := 15) hG (dk dd_X9_can 7 rfl) (tgt := 21) (by decide) (fun h15 => ?_) (fun h15 => ?_)
    rotate_left
    refine V_ldc (pc := 18) hG (dk dd_X9_can 8 rfl) kk_X9_90 ?_
    refine V_iretP (pc := 20) hG (dk dd_X9_can 9 rfl) hR (Pi.mk ?_)
    rotate_left
    -- leaves: return@20; stop 21; return@20
    · exact ⟨Or.inl ⟨hi, rfl⟩, by rw [p5.1]; exact FrC.rf μ⟩
    · exact absurd ⟨p5.2.yes h8, p12.2.yes h15⟩ hi
    · exact ⟨Or.inl ⟨hi, rfl⟩, by rw [p12.1, p5.1]; exact FrC.rf μ⟩
theorem fr_o {μ m : Mem} (h : ∀ c, (c < 58 ∨ 61 < c) → m c = μ c) : FrC μ none m := (FrC.rf μ).tr (fun a b c => h a (by omega))
theorem j_order {μ : Mem} {α : Al} (hA : Abs (kac μ 15) α) (hz : Vz α) {k : Int32} : CtP yX9_order cX9_order 2 (some .int) 11 [vR 0, vI k] μ (Pi (fun r μ' => OrdR α k r ∧ FrC μ none μ')) := by
  refine CtP.go RX9 rfl pn_X9 (Nat.le_of_ble_eq_true rfl) (fun C hG hR => ?_)
  by_cases hv : Val α
  · have h0 := hv.p0
    have hb5 := q_b5 (opnN α) (opn_lt hv)
    by_cases hk : -2 ≤ k
    · obtain ⟨q, hq⟩ := best_ex hv
      have kin : ¬ k = -1 → ¬ k = -2 → ¬ nI (bitsN (opnN α)) ≤ k → vp_in k 5 ∧ k.toNatClampNeg < bitsN (opnN α) := fun a b c => by
        have k0 : ¬ k < 0 := fun w => by clear hG hR c; grind
        obtain ⟨j, hj, rfl⟩ := nI_of k0
        have := nle_i c (by omega) hj
        rw [nI_clamp hj]
        exact ⟨vp_in_nI (by omega) (by decide), this⟩
      refine V_aload_n (pc := 0) hG (dk dd_X9_order 0 rfl) rfl ?_
      refine V_getR (pc := 1) hG (dk dd_X9_order 1 rfl) fl_X9_26 sh_0 rfl ?_
      refine V_callVip (pc := 4) hG (dk dd_X9_order 2 rfl) ml_X9_219 mo_X2_isTold sh_15 rfl (k_isTold hA hz) (by decide) (by decide) rfl rfl rfl (fun x4 m4 p4 => ?_)
      refine V_if_ne (pc := 7) hG (dk dd_X9_order 3 rfl) (tgt := 13) (by decide) (fun h7 => ?_) (fun h7 => ?_)
      refine V_iload_n (pc := 13) hG (dk dd_X9_order 6 rfl) rfl ?_
      refine V_bipush (pc := 14) hG (dk dd_X9_order 7 rfl) (v := -2) (by decide) ?_
      refine V_icmp_ge (pc := 16) hG (dk dd_X9_order 8 rfl) (tgt := 22) (by decide) (fun h16 => ?_) (fun h16 => ?_)
      refine V_aload_n (pc := 22) hG (dk dd_X9_order 11 rfl) rfl ?_
      refine V_getR (pc := 23) hG (dk dd_X9_order 12 rfl) fl_X9_65 sh_0 rfl ?_
      refine V_callVvp (pc := 26) hG (dk dd_X9_order 13 rfl) ml_X9_272 mo_X3_tryAll sh_58 rfl (c_tryAll (α := α) (by rw [p4.1]; exact hA) hv) (by decide) (by decide) rfl rfl rfl (fun m26 p26 => ?_)
      rotate_left
      rotate_left
      rotate_left
      -- leaves: stop 29; stop 19; stop 10
      · obtain ⟨⟨o1, o2, o3⟩, f1⟩ := p26
        rw [p4.1] at f1
        rw [hq] at o2
        obtain ⟨b1, b2, b3, b4⟩ := o2
        refine V_iload_n (pc := 29) hG (dk dd_X9_order 14 rfl) rfl ?_
        refine V_bipush (pc := 30) hG (dk dd_X9_order 15 rfl) (v := -2) (by decide) ?_
        refine V_icmp_ne (pc := 32) hG (dk dd_X9_order 16 rfl) (tgt := 43) (by decide) (fun h32 => ?_) (fun h32 => ?_)
        refine V_iload_n (pc := 43) hG (dk dd_X9_order 21 rfl) rfl ?_
        refine V_iconst (pc := 44) hG (dk dd_X9_order 22 rfl) (v := -1) (by decide) ?_
        refine V_icmp_ne (pc := 45) hG (dk dd_X9_order 23 rfl) (tgt := 56) (by decide) (fun h45 => ?_) (fun h45 => ?_)
        refine V_iload_n (pc := 56) hG (dk dd_X9_order 28 rfl) rfl ?_
        refine V_aload_n (pc := 57) hG (dk dd_X9_order 29 rfl) rfl ?_
        refine V_getR (pc := 58) hG (dk dd_X9_order 30 rfl) fl_X9_65 sh_0 rfl ?_
        refine V_getI (pc := 61) hG (dk dd_X9_order 31 rfl) fl_X9_281 sh_58 rfl ?_
        refine V_icmp_ge (pc := 64) hG (dk dd_X9_order 32 rfl) (tgt := 79) (by decide) (fun h64 => ?_) (fun h64 => ?_)
        refine V_ldc_w (pc := 79) hG (dk dd_X9_order 39 rfl) kk_X9_285 ?_
        refine V_iretP (pc := 82) hG (dk dd_X9_order 40 rfl) hR (Pi.mk ?_)
        rotate_left
        refine V_aload_n (pc := 67) hG (dk dd_X9_order 33 rfl) rfl ?_
        refine V_getR (pc := 68) hG (dk dd_X9_order 34 rfl) fl_X9_65 sh_0 rfl ?_
        refine V_getR (pc := 71) hG (dk dd_X9_order 35 rfl) fl_X9_282 sh_58 rfl ?_
        refine V_iload_n (pc := 74) hG (dk dd_X9_order 36 rfl) rfl ?_
        refine V_iald (pc := 75) hG (dk dd_X9_order 37 rfl) sh_60 (kin h45 h32 (by rw [← o1]; exact h64)).1 ?_
        refine V_goto (pc := 76) hG (dk dd_X9_order 38 rfl) (tgt := 82) (by decide) ?_
        refine V_iretP (pc := 82) hG (dk dd_X9_order 40 rfl) hR (Pi.mk ?_)
        rotate_left
        refine V_aload_n (pc := 48) hG (dk dd_X9_order 24 rfl) rfl ?_
        refine V_getR (pc := 49) hG (dk dd_X9_order 25 rfl) fl_X9_65 sh_0 rfl ?_
        refine V_getI (pc := 52) hG (dk dd_X9_order 26 rfl) fl_X9_278 sh_58 rfl ?_
        refine V_iretP (pc := 55) hG (dk dd_X9_order 27 rfl) hR (Pi.mk ?_)
        rotate_left
        refine V_aload_n (pc := 35) hG (dk dd_X9_order 17 rfl) rfl ?_
        refine V_getR (pc := 36) hG (dk dd_X9_order 18 rfl) fl_X9_65 sh_0 rfl ?_
        refine V_getI (pc := 39) hG (dk dd_X9_order 19 rfl) fl_X9_275 sh_58 rfl ?_
        refine V_iretP (pc := 42) hG (dk dd_X9_order 20 rfl) hR (Pi.mk ?_)
        rotate_left
        -- leaves: return@82; return@82; return@55; return@42
        · rw [o1] at h64
          exact ⟨Or.inr (Or.inr ⟨h0, hk, q, hq, b1, by rw [if_neg h45, if_neg h32, if_neg (Int32.not_lt.mpr h64)]⟩), fr_o f1⟩
        · rw [o1] at h64
          exact ⟨Or.inr (Or.inr ⟨h0, hk, q, hq, b1, by rw [if_neg h45, if_neg h32, if_pos (Int32.not_le.mp h64)]; exact b4 _ (kin h45 h32 h64).2⟩), fr_o f1⟩
        · exact ⟨Or.inr (Or.inr ⟨h0, hk, q, hq, b1, by rw [if_pos h45]; exact b2⟩), fr_o f1⟩
        · exact ⟨Or.inr (Or.inr ⟨h0, hk, q, hq, b1, by rw [if_neg (by rw [h32]; decide), if_pos h32]; exact b3⟩), fr_o f1⟩
      · exact absurd hk h16
      · exact absurd hv (p4.2.no h7)
    · skip
      refine V_aload_n (pc := 0) hG (dk dd_X9_order 0 rfl) rfl ?_
      refine V_getR (pc := 1) hG (dk dd_X9_order 1 rfl) fl_X9_26 sh_0 rfl ?_
      refine V_callVip (pc := 4) hG (dk dd_X9_order 2 rfl) ml_X9_219 mo_X2_isTold sh_15 rfl (k_isTold hA hz) (by decide) (by decide) rfl rfl rfl (fun x4 m4 p4 => ?_)
      refine V_if_ne (pc := 7) hG (dk dd_X9_order 3 rfl) (tgt := 13) (by decide) (fun h7 => ?_) (fun h7 => ?_)
      refine V_iload_n (pc := 13) hG (dk dd_X9_order 6 rfl) rfl ?_
      refine V_bipush (pc := 14) hG (dk dd_X9_order 7 rfl) (v := -2) (by decide) ?_
      refine V_icmp_ge (pc := 16) hG (dk dd_X9_order 8 rfl) (tgt := 22) (by decide) (fun h16 => ?_) (fun h16 => ?_)
      rotate_left
      refine V_ldc (pc := 19) hG (dk dd_X9_order 9 rfl) kk_X9_90 ?_
      refine V_iretP (pc := 21) hG (dk dd_X9_order 10 rfl) hR (Pi.mk ?_)
      rotate_left
      rotate_left
      -- leaves: stop 22; return@21; stop 10
      · exact absurd h16 hk
      · exact ⟨Or.inr (Or.inl ⟨h0, hk, rfl⟩), by rw [p4.1]; exact FrC.rf μ⟩
      · exact absurd hv (p4.2.no h7)
  · skip
    refine V_aload_n (pc := 0) hG (dk dd_X9_order 0 rfl) rfl ?_
    refine V_getR (pc := 1) hG (dk dd_X9_order 1 rfl) fl_X9_26 sh_0 rfl ?_
    refine V_callVip (pc := 4) hG (dk dd_X9_order 2 rfl) ml_X9_219 mo_X2_isTold sh_15 rfl (k_isTold hA hz) (by decide) (by decide) rfl rfl rfl (fun x4 m4 p4 => ?_)
    refine V_if_ne (pc := 7) hG (dk dd_X9_order 3 rfl) (tgt := 13) (by decide) (fun h7 => ?_) (fun h7 => ?_)
    rotate_left
    refine V_ldc (pc := 10) hG (dk dd_X9_order 4 rfl) kk_X9_158 ?_
    refine V_iretP (pc := 12) hG (dk dd_X9_order 5 rfl) hR (Pi.mk ?_)
    rotate_left
    -- leaves: stop 13; return@12
    · exact absurd (p4.2.yes h7) hv
    · exact ⟨Or.inl ⟨hz.n0 hv, rfl⟩, by rw [p4.1]; exact FrC.rf μ⟩
theorem j_first {μ : Mem} {α : Al} (hA : Abs (kac μ 15) α) (hz : Vz α) : CtP yX9_first cX9_first 1 (some .int) 11 [vR 0] μ (Pi (fun r μ' => FstR α r ∧ FrC μ none μ')) := by
  refine CtP.go RX9 rfl pn_X9 (Nat.le_of_ble_eq_true rfl) (fun C hG hR => ?_)
  by_cases hv : Val α
  · have h0 := hv.p0
    have hb5 := q_b5 (opnN α) (opn_lt hv)
    have lens : ∀ p, p ∈ ordA α → p.length = bitsN (opnN α) := fun p hp => (ordM_len (α 0 7) (bitsN (opnN α)) (opnN α) p hp).1
    refine V_aload_n (pc := 0) hG (dk dd_X9_first 0 rfl) rfl ?_
    refine V_getR (pc := 1) hG (dk dd_X9_first 1 rfl) fl_X9_26 sh_0 rfl ?_
    refine V_callVip (pc := 4) hG (dk dd_X9_first 2 rfl) ml_X9_219 mo_X2_isTold sh_15 rfl (k_isTold hA hz) (by decide) (by decide) rfl rfl rfl (fun x4 m4 p4 => ?_)
    refine V_if_ne (pc := 7) hG (dk dd_X9_first 3 rfl) (tgt := 13) (by decide) (fun h7 => ?_) (fun h7 => ?_)
    refine V_aload_n (pc := 13) hG (dk dd_X9_first 6 rfl) rfl ?_
    refine V_getR (pc := 14) hG (dk dd_X9_first 7 rfl) fl_X9_65 sh_0 rfl ?_
    refine V_callVvp (pc := 17) hG (dk dd_X9_first 8 rfl) ml_X9_272 mo_X3_tryAll sh_58 rfl (c_tryAll (α := α) (by rw [p4.1]; exact hA) hv) (by decide) (by decide) rfl rfl rfl (fun m17 p17 => ?_)
    rotate_left
    rotate_left
    -- leaves: stop 20; stop 10
    · obtain ⟨o, f1⟩ := p17
      rw [p4.1] at f1
      have hA2 : Abs (kac m17 15) α := hA.off (fun x hx => f1 _ (by omega))
      refine V_aload_n (pc := 20) hG (dk dd_X9_first 9 rfl) rfl ?_
      refine V_getR (pc := 21) hG (dk dd_X9_first 10 rfl) fl_X9_65 sh_0 rfl ?_
      refine V_callVip (pc := 24) hG (dk dd_X9_first 11 rfl) ml_X9_286 mo_X3_bestToBegin sh_58 rfl (c_bestToBegin hA2 hv o hb5 lens) (by decide) (by decide) rfl rfl rfl (fun x24 m24 p24 => ?_)
      refine V_iretP (pc := 27) hG (dk dd_X9_first 12 rfl) hR (Pi.mk ?_)
      rotate_left
      -- leaves: return@27
      · exact ⟨Or.inr ⟨h0, p24.2⟩, by rw [p24.1]; exact fr_o f1⟩
    · exact absurd hv (p4.2.no h7)
  · skip
    refine V_aload_n (pc := 0) hG (dk dd_X9_first 0 rfl) rfl ?_
    refine V_getR (pc := 1) hG (dk dd_X9_first 1 rfl) fl_X9_26 sh_0 rfl ?_
    refine V_callVip (pc := 4) hG (dk dd_X9_first 2 rfl) ml_X9_219 mo_X2_isTold sh_15 rfl (k_isTold hA hz) (by decide) (by decide) rfl rfl rfl (fun x4 m4 p4 => ?_)
    refine V_if_ne (pc := 7) hG (dk dd_X9_first 3 rfl) (tgt := 13) (by decide) (fun h7 => ?_) (fun h7 => ?_)
    rotate_left
    refine V_ldc (pc := 10) hG (dk dd_X9_first 4 rfl) kk_X9_158 ?_
    refine V_iretP (pc := 12) hG (dk dd_X9_first 5 rfl) hR (Pi.mk ?_)
    rotate_left
    -- leaves: stop 13; return@12
    · exact absurd (p4.2.yes h7) hv
    · exact ⟨Or.inl ⟨hz.n0 hv, rfl⟩, by rw [p4.1]; exact FrC.rf μ⟩
theorem j_gone {μ : Mem} {α : Al} (hA : Abs (kac μ 15) α) (hz : Vz α) {x y w : Int32} : CtP yX9_gone cX9_gone 10 (some .long) 5 [vR 0, vI x, vI y, vI w] μ (Pl (fun r μ' => GonR α x y w r ∧ μ' = μ)) := by
  refine CtP.go RX9 rfl pn_X9 (Nat.le_of_ble_eq_true rfl) (fun C hG hR => ?_)
  have hC := hz.C
  by_cases hi : inN x (α 0 7) ∧ (0 ≤ y ∧ y ≤ 10) ∧ (w = 0 ∨ w = 1)
  · obtain ⟨hx, hh⟩ := hi.1.n (by omega)
    have hv := hz.vc hh
    have hD8 := hv.lt hv.D
    have hp := pow8 hv.t
    obtain ⟨p, hpl, hy⟩ := nI_of (Int32.not_lt.mpr hi.2.1.1)
    have p10 : p ≤ 10 := le_i (b := 10) (hy ▸ hi.2.1.2) hpl (by decide)
    have yp : y.toNatClampNeg = p := nI_cl hy hpl
    have b8 := bitsN_le (α 0 3)
    refine V_aload_n (pc := 0) hG (dk dd_X9_gone 0 rfl) rfl ?_
    refine V_getR (pc := 1) hG (dk dd_X9_gone 1 rfl) fl_X9_26 sh_0 rfl ?_
    refine V_iload_n (pc := 4) hG (dk dd_X9_gone 2 rfl) rfl ?_
    refine V_callVip (pc := 5) hG (dk dd_X9_gone 3 rfl) ml_X9_182 mo_X2_isCase sh_15 rfl (k_isCase hA) (by decide) (by decide) rfl rfl rfl (fun x5 m5 p5 => ?_)
    refine V_if_eq (pc := 8) hG (dk dd_X9_gone 4 rfl) (tgt := 28) (by decide) (fun h8 => ?_) (fun h8 => ?_)
    rotate_left
    refine V_iload_n (pc := 11) hG (dk dd_X9_gone 5 rfl) rfl ?_
    refine V_if_lt (pc := 12) hG (dk dd_X9_gone 6 rfl) (tgt := 28) (by decide) (fun h12 => ?_) (fun h12 => ?_)
    rotate_left
    refine V_iload_n (pc := 15) hG (dk dd_X9_gone 7 rfl) rfl ?_
    refine V_bipush (pc := 16) hG (dk dd_X9_gone 8 rfl) (v := 10) (by decide) ?_
    refine V_icmp_gt (pc := 18) hG (dk dd_X9_gone 9 rfl) (tgt := 28) (by decide) (fun h18 => ?_) (fun h18 => ?_)
    rotate_left
    refine V_iload_n (pc := 21) hG (dk dd_X9_gone 10 rfl) rfl ?_
    refine V_callSip (pc := 22) hG (dk dd_X9_gone 11 rfl) ml_X9_290 mo_X9_isOneOfTwo (c_isOneOfTwo) (by decide) (by decide) rfl rfl rfl (fun x22 m22 p22 => ?_)
    refine V_if_ne (pc := 25) hG (dk dd_X9_gone 12 rfl) (tgt := 32) (by decide) (fun h25 => ?_) (fun h25 => ?_)
    rotate_left
    rotate_left
    -- leaves: stop 28; stop 28; stop 28; stop 32; stop 28
    · exact absurd hi.1 (p5.2.no h8)
    · exact absurd h12 (Int32.not_lt.mpr hi.2.1.1)
    · exact absurd h18 (Int32.not_lt.mpr hi.2.1.2)
    · have em : m22 = μ := p22.1.trans p5.1
      rw [em]
      refine V_bipush (pc := 32) hG (dk dd_X9_gone 15 rfl) (v := 10) (by decide) ?_
      refine V_aload_n (pc := 34) hG (dk dd_X9_gone 16 rfl) rfl ?_
      refine V_getR (pc := 35) hG (dk dd_X9_gone 17 rfl) fl_X9_26 sh_0 rfl ?_
      refine V_getI (pc := 38) hG (dk dd_X9_gone 18 rfl) fl_X9_175 sh_15 rfl ?_
      refine V_callSi (pc := 41) hG (dk dd_X9_gone 19 rfl) ml_X9_324 mo_J6_bitCount_0f7a4 (c_bits (μ := μ) (D := α 0 3) (e_c hA (by decide)) hD8) (by decide) (by decide) rfl rfl rfl ?_
      refine V_callSlp (pc := 44) hG (dk dd_X9_gone 20 rfl) ml_X9_329 mo_X9_power (c_power (b := 10) rfl (by decide) rfl b8) (by decide) (by decide) rfl rfl rfl (fun x44 m44 p44 => ?_)
      refine V_lstore (pc := 47) hG (dk dd_X9_gone 21 rfl) (by decide) (lv' := [(0, _), (1, _), (2, _), (3, _), (4, _)]) rfl ?_
      rotate_left
      -- leaves: stop 49
      · obtain ⟨a1, a2⟩ := p44
        rw [a1, a2]
        generalize hAA : sumT (prtN α (α 0 3) x.toNatClampNeg p) (2 ^ α 0 0) = A
        generalize hBB : 10 ^ bitsN (α 0 3) = B
        have lA : A < 2 ^ 62 := by
          rw [← hAA]
          have := sumT_le (f := prtN α (α 0 3) x.toNatClampNeg p) (fun i => prtN_le p10) (2 ^ α 0 0)
          have h2 : 2 ^ α 0 0 * 10000000000000000 ≤ 256 * 10000000000000000 := Nat.mul_le_mul_right _ hp
          omega
        have lB : B < 2 ^ 62 ∧ 0 < B := by
          rw [← hBB]
          have : 10 ^ bitsN (α 0 3) ≤ 10 ^ 8 := Nat.pow_le_pow_right (by decide) b8
          exact ⟨by omega, Nat.pow_pos (by decide)⟩
        have gp : 0 < Nat.gcd A B := Nat.gcd_pos_of_pos_right A lB.2
        have gl : Nat.gcd A B ≤ B := Nat.gcd_le_right A lB.2
        have gn : ¬ lN (Nat.gcd A B) = 0 := fun z => by have := (pk_lEQ (b := 0) (by omega) (by decide)).mp z; omega
        refine V_aload_n (pc := 49) hG (dk dd_X9_gone 22 rfl) rfl ?_
        refine V_getR (pc := 50) hG (dk dd_X9_gone 23 rfl) fl_X9_26 sh_0 rfl ?_
        refine V_iload_n (pc := 53) hG (dk dd_X9_gone 24 rfl) rfl ?_
        refine V_iload_n (pc := 54) hG (dk dd_X9_gone 25 rfl) rfl ?_
        refine V_callVlp (pc := 55) hG (dk dd_X9_gone 26 rfl) ml_X9_333 mo_X2_freeParts sh_15 rfl (c_freeParts hA hv hx hh hy p10) (by decide) (by decide) rfl rfl rfl (fun x55 m55 p55 => ?_)
        refine V_lstore (pc := 58) hG (dk dd_X9_gone 27 rfl) (by decide) (lv' := [(0, _), (1, _), (2, _), (3, _), (4, _), (6, _)]) rfl ?_
        rotate_left
        -- leaves: stop 60
        · obtain ⟨c1, c2⟩ := p55
          rw [hAA] at c2
          rw [c1, c2]
          refine V_lload (pc := 60) hG (dk dd_X9_gone 28 rfl) rfl ?_
          refine V_lload (pc := 62) hG (dk dd_X9_gone 29 rfl) rfl ?_
          refine V_callSlp (pc := 64) hG (dk dd_X9_gone 30 rfl) ml_X9_336 mo_X9_commonDivisor (c_commonDivisor rfl lA rfl lB.1) (by decide) (by decide) rfl rfl rfl (fun x64 m64 p64 => ?_)
          refine V_lstore (pc := 67) hG (dk dd_X9_gone 31 rfl) (by decide) (lv' := [(0, _), (1, _), (2, _), (3, _), (4, _), (6, _), (8, _)]) rfl ?_
          rotate_left
          -- leaves: stop 69
          · obtain ⟨d1, d2⟩ := p64
            rw [d1, d2]
            refine V_lload (pc := 69) hG (dk dd_X9_gone 32 rfl) rfl ?_
            refine V_lconst (pc := 71) hG (dk dd_X9_gone 33 rfl) (v := 0) (by decide) ?_
            refine V_lcmp (pc := 72) hG (dk dd_X9_gone 34 rfl) ?_
            refine V_if_gt (pc := 73) hG (dk dd_X9_gone 35 rfl) (tgt := 80) (by decide) (fun h73 => ?_) (fun h73 => ?_)
            refine V_iload_n (pc := 80) hG (dk dd_X9_gone 38 rfl) rfl ?_
            refine V_if_ne (pc := 81) hG (dk dd_X9_gone 39 rfl) (tgt := 92) (by decide) (fun h81 => ?_) (fun h81 => ?_)
            refine V_lload (pc := 92) hG (dk dd_X9_gone 44 rfl) rfl ?_
            refine V_lload (pc := 94) hG (dk dd_X9_gone 45 rfl) rfl ?_
            refine V_ldiv (pc := 96) hG (dk dd_X9_gone 46 rfl) gn ?_
            refine V_lretP (pc := 97) hG (dk dd_X9_gone 47 rfl) hR (Pl.mk ?_)
            rotate_left
            refine V_lload (pc := 84) hG (dk dd_X9_gone 40 rfl) rfl ?_
            refine V_lload (pc := 86) hG (dk dd_X9_gone 41 rfl) rfl ?_
            refine V_ldiv (pc := 88) hG (dk dd_X9_gone 42 rfl) gn ?_
            refine V_goto (pc := 89) hG (dk dd_X9_gone 43 rfl) (tgt := 97) (by decide) ?_
            refine V_lretP (pc := 97) hG (dk dd_X9_gone 47 rfl) hR (Pl.mk ?_)
            rotate_left
            rotate_left
            -- leaves: return@97; return@97; stop 76
            · refine ⟨Or.inr ⟨hi, ?_⟩, rfl⟩
              rw [yp, hAA, hBB, if_neg h81, pk_lDiv (by omega) gp (by omega)]
            · refine ⟨Or.inr ⟨hi, ?_⟩, rfl⟩
              rw [yp, hAA, hBB, if_pos h81, pk_lDiv (by omega) gp (by omega)]
            · exfalso
              refine h73 ((lg_gt0 _ _).mpr ?_)
              rw [show (0 : Int64) = lN 0 from rfl, pk_lLT (by decide) (by omega)]; exact gp
    · exact absurd hi.2.2 (p22.2.no h25)
  · skip
    refine V_aload_n (pc := 0) hG (dk dd_X9_gone 0 rfl) rfl ?_
    refine V_getR (pc := 1) hG (dk dd_X9_gone 1 rfl) fl_X9_26 sh_0 rfl ?_
    refine V_iload_n (pc := 4) hG (dk dd_X9_gone 2 rfl) rfl ?_
    refine V_callVip (pc := 5) hG (dk dd_X9_gone 3 rfl) ml_X9_182 mo_X2_isCase sh_15 rfl (k_isCase hA) (by decide) (by decide) rfl rfl rfl (fun x5 m5 p5 => ?_)
    refine V_if_eq (pc := 8) hG (dk dd_X9_gone 4 rfl) (tgt := 28) (by decide) (fun h8 => ?_) (fun h8 => ?_)
    refine V_ldc2_w (pc := 28) hG (dk dd_X9_gone 13 rfl) kk_X9_322 ?_
    refine V_lretP (pc := 31) hG (dk dd_X9_gone 14 rfl) hR (Pl.mk ?_)
    rotate_left
    refine V_iload_n (pc := 11) hG (dk dd_X9_gone 5 rfl) rfl ?_
    refine V_if_lt (pc := 12) hG (dk dd_X9_gone 6 rfl) (tgt := 28) (by decide) (fun h12 => ?_) (fun h12 => ?_)
    refine V_ldc2_w (pc := 28) hG (dk dd_X9_gone 13 rfl) kk_X9_322 ?_
    refine V_lretP (pc := 31) hG (dk dd_X9_gone 14 rfl) hR (Pl.mk ?_)
    rotate_left
    refine V_iload_n (pc := 15) hG (dk dd_X9_gone 7 rfl) rfl ?_
    refine V_bipush (pc := 16) hG (dk dd_X9_gone 8 rfl) (v := 10) (by decide) ?_
    refine V_icmp_gt (pc := 18) hG (dk dd_X9_gone 9 rfl) (tgt := 28) (by decide) (fun h18 => ?_) (fun h18 => ?_)
    refine V_ldc2_w (pc := 28) hG (dk dd_X9_gone 13 rfl) kk_X9_322 ?_
    refine V_lretP (pc := 31) hG (dk dd_X9_gone 14 rfl) hR (Pl.mk ?_)
    rotate_left
    refine V_iload_n (pc := 21) hG (dk dd_X9_gone 10 rfl) rfl ?_
    refine V_callSip (pc := 22) hG (dk dd_X9_gone 11 rfl) ml_X9_290 mo_X9_isOneOfTwo (c_isOneOfTwo) (by decide) (by decide) rfl rfl rfl (fun x22 m22 p22 => ?_)
    refine V_if_ne (pc := 25) hG (dk dd_X9_gone 12 rfl) (tgt := 32) (by decide) (fun h25 => ?_) (fun h25 => ?_)
    rotate_left
    refine V_ldc2_w (pc := 28) hG (dk dd_X9_gone 13 rfl) kk_X9_322 ?_
    refine V_lretP (pc := 31) hG (dk dd_X9_gone 14 rfl) hR (Pl.mk ?_)
    rotate_left
    -- leaves: return@31; return@31; return@31; stop 32; return@31
    · exact ⟨Or.inl ⟨hi, rfl⟩, p5.1⟩
    · exact ⟨Or.inl ⟨hi, rfl⟩, p5.1⟩
    · exact ⟨Or.inl ⟨hi, rfl⟩, p5.1⟩
    · exact absurd ⟨p5.2.yes h8, ⟨Int32.not_lt.mp h12, Int32.not_lt.mp h18⟩, p22.2.yes h25⟩ hi
    · exact ⟨Or.inl ⟨hi, rfl⟩, p22.1.trans p5.1⟩
theorem drw_ok {α : Al} (hv : Val α) : ∀ k (q : DW × Nat), DwOk α q.1 → DwOk α (drwS α k q).1
  | 0, _, h => h
  | k + 1, q, h => by rw [drwS_s]; exact drw_ok hv k _ (stpS_ok hv h _)
theorem pd_self (α : Al) : putDW α (α 0 3) (α 7) = α := by
  funext x i
  unfold putDW
  split
  · rename_i h; rw [h.1, h.2]
  · split
    · rename_i h; rw [h]
    · rfl
theorem j_drawn {μ : Mem} {α : Al} (hA : Abs (kac μ 15) α) (hz : Vz α) {x y w : Int32} : CtP yX9_drawn cX9_drawn 4 (some .int) 6 [vR 0, vI x, vI y, vI w] μ (Pi (fun r μ' => DraR α x y w r ∧ FrC μ none μ')) := by
  refine CtP.go RX9 rfl pn_X9 (Nat.le_of_ble_eq_true rfl) (fun C hG hR => ?_)
  by_cases hv : Val α
  · have h0 := hv.p0
    by_cases hi : (0 ≤ x ∧ x ≤ 60) ∧ (1 ≤ y ∧ y ≤ 999999) ∧ (w = 0 ∨ w = 1)
    · obtain ⟨N, hN, hx⟩ := nI_of (Int32.not_lt.mpr hi.1.1)
      have N60 : N ≤ 60 := le_i (b := 60) (hx ▸ hi.1.2) hN (by decide)
      obtain ⟨S, hS, hy⟩ := nI_of (x := y) (fun z => by have := hi.2.1.1; clear hG hR; grind)
      have S1 : S ≤ 999999 := le_i (b := 999999) (hy ▸ hi.2.1.2) hS (by decide)
      have ok0 : DwOk α (α 0 3, α 7) := ⟨hv.D, hv.w4⟩
      refine V_aload_n (pc := 0) hG (dk dd_X9_drawn 0 rfl) rfl ?_
      refine V_getR (pc := 1) hG (dk dd_X9_drawn 1 rfl) fl_X9_26 sh_0 rfl ?_
      refine V_callVip (pc := 4) hG (dk dd_X9_drawn 2 rfl) ml_X9_219 mo_X2_isTold sh_15 rfl (k_isTold hA hz) (by decide) (by decide) rfl rfl rfl (fun x4 m4 p4 => ?_)
      refine V_if_ne (pc := 7) hG (dk dd_X9_drawn 3 rfl) (tgt := 13) (by decide) (fun h7 => ?_) (fun h7 => ?_)
      refine V_iload_n (pc := 13) hG (dk dd_X9_drawn 6 rfl) rfl ?_
      refine V_if_lt (pc := 14) hG (dk dd_X9_drawn 7 rfl) (tgt := 42) (by decide) (fun h14 => ?_) (fun h14 => ?_)
      rotate_left
      refine V_iload_n (pc := 17) hG (dk dd_X9_drawn 8 rfl) rfl ?_
      refine V_bipush (pc := 18) hG (dk dd_X9_drawn 9 rfl) (v := 60) (by decide) ?_
      refine V_icmp_gt (pc := 20) hG (dk dd_X9_drawn 10 rfl) (tgt := 42) (by decide) (fun h20 => ?_) (fun h20 => ?_)
      rotate_left
      refine V_iload_n (pc := 23) hG (dk dd_X9_drawn 11 rfl) rfl ?_
      refine V_iconst (pc := 24) hG (dk dd_X9_drawn 12 rfl) (v := 1) (by decide) ?_
      refine V_icmp_lt (pc := 25) hG (dk dd_X9_drawn 13 rfl) (tgt := 42) (by decide) (fun h25 => ?_) (fun h25 => ?_)
      rotate_left
      refine V_iload_n (pc := 28) hG (dk dd_X9_drawn 14 rfl) rfl ?_
      refine V_ldc_w (pc := 29) hG (dk dd_X9_drawn 15 rfl) kk_X9_340 ?_
      refine V_icmp_gt (pc := 32) hG (dk dd_X9_drawn 16 rfl) (tgt := 42) (by decide) (fun h32 => ?_) (fun h32 => ?_)
      rotate_left
      refine V_iload_n (pc := 35) hG (dk dd_X9_drawn 17 rfl) rfl ?_
      refine V_callSip (pc := 36) hG (dk dd_X9_drawn 18 rfl) ml_X9_290 mo_X9_isOneOfTwo (c_isOneOfTwo) (by decide) (by decide) rfl rfl rfl (fun x36 m36 p36 => ?_)
      refine V_if_ne (pc := 39) hG (dk dd_X9_drawn 19 rfl) (tgt := 45) (by decide) (fun h39 => ?_) (fun h39 => ?_)
      rotate_left
      rotate_left
      rotate_left
      -- leaves: stop 42; stop 42; stop 42; stop 42; stop 45; stop 42; stop 10
      all_goals (first | exact absurd hv (p4.2.no h7) | exact absurd h14 (Int32.not_lt.mpr hi.1.1) | exact absurd h20 (Int32.not_lt.mpr hi.1.2) | exact absurd h25 (Int32.not_lt.mpr hi.2.1.1) | exact absurd h32 (Int32.not_lt.mpr hi.2.1.2) | exact absurd hi.2.2 (p36.2.no h39) | skip)
      · have em : m36 = μ := p36.1.trans p4.1
        rw [em]
        refine V_aload_n (pc := 45) hG (dk dd_X9_drawn 22 rfl) rfl ?_
        refine V_getR (pc := 46) hG (dk dd_X9_drawn 23 rfl) fl_X9_30 sh_0 rfl ?_
        refine V_aload_n (pc := 49) hG (dk dd_X9_drawn 24 rfl) rfl ?_
        refine V_getR (pc := 50) hG (dk dd_X9_drawn 25 rfl) fl_X9_26 sh_0 rfl ?_
        refine V_callVvp (pc := 53) hG (dk dd_X9_drawn 26 rfl) ml_X9_148 mo_X2_become sh_23 rfl (c_become (μ := μ) co_dra co_now (by decide)) (by decide) (by decide) rfl rfl rfl (fun m53 p53 => ?_)
        rotate_left
        -- leaves: stop 56
        · have ab : Abs (kac m53 23) (putDW α (α 0 3) (α 7)) := by rw [pd_self]; exact p53.abs hA hv.H hv.C
          refine V_aload_n (pc := 56) hG (dk dd_X9_drawn 27 rfl) rfl ?_
          refine V_getR (pc := 57) hG (dk dd_X9_drawn 28 rfl) fl_X9_30 sh_0 rfl ?_
          refine V_iload_n (pc := 60) hG (dk dd_X9_drawn 29 rfl) rfl ?_
          refine V_iload_n (pc := 61) hG (dk dd_X9_drawn 30 rfl) rfl ?_
          refine V_callVvp (pc := 62) hG (dk dd_X9_drawn 31 rfl) ml_X9_341 mo_X2_drawTerms sh_23 rfl (c_drawTerms (μ := m53) (α := α) (s0 := (α 0 3, α 7)) (N := N) (seed := S) hv ok0 ab hx (by omega) hy (by omega)) (by decide) (by decide) rfl rfl rfl (fun m62 p62 => ?_)
          rotate_left
          -- leaves: stop 65
          · obtain ⟨g1, g2⟩ := p62
            have g1 : Abs (kac m62 23) (putDW α (drwE α N S).1 (drwE α N S).2) := g1
            have ok := drw_ok hv N ((α 0 3, α 7), S) ok0
            have ok : DwOk α (drwE α N S) := ok
            have fr : FrC μ none m62 := (FrC.rf μ).tr (fun a b c => by rw [g2 a (by omega)]; exact p53.2 a (by omega))
            have vb : Val (putDW α (drwE α N S).1 (drwE α N S).2) := pd_val hv ok.1 ok.2
            have c7 : putDW α (drwE α N S).1 (drwE α N S).2 0 7 = α 0 7 := pd_n (by omega) (by decide)
            have tl : thoN (putDW α (drwE α N S).1 (drwE α N S).2) 1 (α 0 7) < 256 := Nat.lt_of_lt_of_le (thoN_lt _ 1 _) (pow8 (by have := hv.C; omega))
            refine V_iload_n (pc := 65) hG (dk dd_X9_drawn 32 rfl) rfl ?_
            refine V_if_ne (pc := 66) hG (dk dd_X9_drawn 33 rfl) (tgt := 83) (by decide) (fun h66 => ?_) (fun h66 => ?_)
            refine V_aload_n (pc := 83) hG (dk dd_X9_drawn 40 rfl) rfl ?_
            refine V_getR (pc := 84) hG (dk dd_X9_drawn 41 rfl) fl_X9_30 sh_0 rfl ?_
            refine V_getI (pc := 87) hG (dk dd_X9_drawn 42 rfl) fl_X9_175 sh_23 rfl ?_
            refine V_iretP (pc := 90) hG (dk dd_X9_drawn 43 rfl) hR (Pi.mk ?_)
            rotate_left
            refine V_aload_n (pc := 69) hG (dk dd_X9_drawn 34 rfl) rfl ?_
            refine V_getR (pc := 70) hG (dk dd_X9_drawn 35 rfl) fl_X9_30 sh_0 rfl ?_
            refine V_iconst (pc := 73) hG (dk dd_X9_drawn 36 rfl) (v := 1) (by decide) ?_
            refine V_callVi (pc := 74) hG (dk dd_X9_drawn 37 rfl) ml_X9_222 mo_X2_casesThatAre sh_23 rfl (c_casesThatAre co_dra g1 vb.C vb.w4 (w := 1) rfl (by decide)) (by decide) (by decide) rfl rfl rfl ?_
            refine V_callSi (pc := 77) hG (dk dd_X9_drawn 38 rfl) ml_X9_324 mo_J6_bitCount_0f7a4 (c_bits (D := thoN (putDW α (drwE α N S).1 (drwE α N S).2) 1 (α 0 7)) (by rw [c7]) tl) (by decide) (by decide) rfl rfl rfl ?_
            refine V_goto (pc := 80) hG (dk dd_X9_drawn 39 rfl) (tgt := 90) (by decide) ?_
            refine V_iretP (pc := 90) hG (dk dd_X9_drawn 43 rfl) hR (Pi.mk ?_)
            rotate_left
            -- leaves: return@90; return@90
            · refine ⟨Or.inr (Or.inr ⟨h0, hi, ?_⟩), fr⟩
              rw [if_neg h66, hx, hy, nI_clamp hN, nI_clamp hS]
              have := g1.1 3 (by decide)
              rw [pd_3] at this; exact this
            · refine ⟨Or.inr (Or.inr ⟨h0, hi, ?_⟩), fr⟩
              rw [if_pos h66, hx, hy, nI_clamp hN, nI_clamp hS]
    · have bad : ∀ M, M = μ → DraR α x y w (-1000001) ∧ FrC μ none M := fun M e => ⟨Or.inr (Or.inl ⟨h0, hi, rfl⟩), by rw [e]; exact FrC.rf μ⟩
      refine V_aload_n (pc := 0) hG (dk dd_X9_drawn 0 rfl) rfl ?_
      refine V_getR (pc := 1) hG (dk dd_X9_drawn 1 rfl) fl_X9_26 sh_0 rfl ?_
      refine V_callVip (pc := 4) hG (dk dd_X9_drawn 2 rfl) ml_X9_219 mo_X2_isTold sh_15 rfl (k_isTold hA hz) (by decide) (by decide) rfl rfl rfl (fun x4 m4 p4 => ?_)
      refine V_if_ne (pc := 7) hG (dk dd_X9_drawn 3 rfl) (tgt := 13) (by decide) (fun h7 => ?_) (fun h7 => ?_)
      refine V_iload_n (pc := 13) hG (dk dd_X9_drawn 6 rfl) rfl ?_
      refine V_if_lt (pc := 14) hG (dk dd_X9_drawn 7 rfl) (tgt := 42) (by decide) (fun h14 => ?_) (fun h14 => ?_)
      refine V_ldc (pc := 42) hG (dk dd_X9_drawn 20 rfl) kk_X9_90 ?_
      refine V_iretP (pc := 44) hG (dk dd_X9_drawn 21 rfl) hR (Pi.mk ?_)
      rotate_left
      refine V_iload_n (pc := 17) hG (dk dd_X9_drawn 8 rfl) rfl ?_
      refine V_bipush (pc := 18) hG (dk dd_X9_drawn 9 rfl) (v := 60) (by decide) ?_
      refine V_icmp_gt (pc := 20) hG (dk dd_X9_drawn 10 rfl) (tgt := 42) (by decide) (fun h20 => ?_) (fun h20 => ?_)
      refine V_ldc (pc := 42) hG (dk dd_X9_drawn 20 rfl) kk_X9_90 ?_
      refine V_iretP (pc := 44) hG (dk dd_X9_drawn 21 rfl) hR (Pi.mk ?_)
      rotate_left
      refine V_iload_n (pc := 23) hG (dk dd_X9_drawn 11 rfl) rfl ?_
      refine V_iconst (pc := 24) hG (dk dd_X9_drawn 12 rfl) (v := 1) (by decide) ?_
      refine V_icmp_lt (pc := 25) hG (dk dd_X9_drawn 13 rfl) (tgt := 42) (by decide) (fun h25 => ?_) (fun h25 => ?_)
      refine V_ldc (pc := 42) hG (dk dd_X9_drawn 20 rfl) kk_X9_90 ?_
      refine V_iretP (pc := 44) hG (dk dd_X9_drawn 21 rfl) hR (Pi.mk ?_)
      rotate_left
      refine V_iload_n (pc := 28) hG (dk dd_X9_drawn 14 rfl) rfl ?_
      refine V_ldc_w (pc := 29) hG (dk dd_X9_drawn 15 rfl) kk_X9_340 ?_
      refine V_icmp_gt (pc := 32) hG (dk dd_X9_drawn 16 rfl) (tgt := 42) (by decide) (fun h32 => ?_) (fun h32 => ?_)
      refine V_ldc (pc := 42) hG (dk dd_X9_drawn 20 rfl) kk_X9_90 ?_
      refine V_iretP (pc := 44) hG (dk dd_X9_drawn 21 rfl) hR (Pi.mk ?_)
      rotate_left
      refine V_iload_n (pc := 35) hG (dk dd_X9_drawn 17 rfl) rfl ?_
      refine V_callSip (pc := 36) hG (dk dd_X9_drawn 18 rfl) ml_X9_290 mo_X9_isOneOfTwo (c_isOneOfTwo) (by decide) (by decide) rfl rfl rfl (fun x36 m36 p36 => ?_)
      refine V_if_ne (pc := 39) hG (dk dd_X9_drawn 19 rfl) (tgt := 45) (by decide) (fun h39 => ?_) (fun h39 => ?_)
      rotate_left
      refine V_ldc (pc := 42) hG (dk dd_X9_drawn 20 rfl) kk_X9_90 ?_
      refine V_iretP (pc := 44) hG (dk dd_X9_drawn 21 rfl) hR (Pi.mk ?_)
      rotate_left
      rotate_left
      -- leaves: return@44; return@44; return@44; return@44; stop 45; return@44; stop 10
      · exact bad _ p4.1
      · exact bad _ p4.1
      · exact bad _ p4.1
      · exact bad _ p4.1
      · exact absurd ⟨⟨Int32.not_lt.mp h14, Int32.not_lt.mp h20⟩, ⟨Int32.not_lt.mp h25, Int32.not_lt.mp h32⟩, p36.2.yes h39⟩ hi
      · exact bad _ (p36.1.trans p4.1)
      · exact absurd hv (p4.2.no h7)
  · skip
    refine V_aload_n (pc := 0) hG (dk dd_X9_drawn 0 rfl) rfl ?_
    refine V_getR (pc := 1) hG (dk dd_X9_drawn 1 rfl) fl_X9_26 sh_0 rfl ?_
    refine V_callVip (pc := 4) hG (dk dd_X9_drawn 2 rfl) ml_X9_219 mo_X2_isTold sh_15 rfl (k_isTold hA hz) (by decide) (by decide) rfl rfl rfl (fun x4 m4 p4 => ?_)
    refine V_if_ne (pc := 7) hG (dk dd_X9_drawn 3 rfl) (tgt := 13) (by decide) (fun h7 => ?_) (fun h7 => ?_)
    rotate_left
    refine V_ldc (pc := 10) hG (dk dd_X9_drawn 4 rfl) kk_X9_158 ?_
    refine V_iretP (pc := 12) hG (dk dd_X9_drawn 5 rfl) hR (Pi.mk ?_)
    rotate_left
    -- leaves: stop 13; return@12
    · exact absurd (p4.2.yes h7) hv
    · exact ⟨Or.inl ⟨hz.n0 hv, rfl⟩, by rw [p4.1]; exact FrC.rf μ⟩
