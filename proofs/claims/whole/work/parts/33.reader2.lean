theorem fgN_eq {τ : Nat → Nat} {n p j : Nat} (h : ∀ i, i < j → fig τ n (p + i)) (hj : j = 3 ∨ ¬ fig τ n (p + j)) (h3 : j ≤ 3) : fgN τ n p = j := by
  unfold fgN
  rcases (show j = 0 ∨ j = 1 ∨ j = 2 ∨ j = 3 by omega) with rfl | rfl | rfl | rfl
  · exact if_pos (hj.resolve_left (by decide))
  · rw [if_neg (fun q => q (h 0 (by decide))), if_pos (hj.resolve_left (by decide))]
  · rw [if_neg (fun q => q (h 0 (by decide))), if_neg (fun q => q (h 1 (by decide))), if_pos (hj.resolve_left (by decide))]
  · rw [if_neg (fun q => q (h 0 (by decide))), if_neg (fun q => q (h 1 (by decide))), if_neg (fun q => q (h 2 (by decide)))]
theorem fgN_le {τ : Nat → Nat} {n p : Nat} (h : fgN τ n p = 1 ∨ fgN τ n p = 2) : p + fgN τ n p ≤ n ∧ fig τ n p ∧ (fgN τ n p = 2 → fig τ n (p + 1)) := by
  unfold fgN at h ⊢
  by_cases a : ¬ fig τ n p
  · rw [if_pos a] at h; omega
  · rw [if_neg a] at h ⊢
    have a' := Classical.not_not.mp a
    by_cases b : ¬ fig τ n (p + 1)
    · rw [if_pos b] at h ⊢; exact ⟨a'.1, a', fun q => by omega⟩
    · rw [if_neg b] at h ⊢
      have b' := Classical.not_not.mp b
      by_cases c : ¬ fig τ n (p + 2)
      · rw [if_pos c] at h ⊢; exact ⟨b'.1, a', fun _ => b'⟩
      · rw [if_neg c] at h; omega
theorem isFig_iff {μ : Mem} {τ : Nat → Nat} {n p : Nat} (hT : Tp μ τ n) : isFig μ n p ↔ fig τ n p := by
  unfold isFig
  constructor
  · rintro ⟨h1, h2, h3⟩
    obtain ⟨e, l⟩ := hT.2.2 p h1
    rw [e] at h2 h3
    exact ⟨h1, le_i (a := 48) h2 (by omega) (by omega), le_i (b := 57) h3 (by omega) (by omega)⟩
  · rintro ⟨h1, h2, h3⟩
    obtain ⟨e, l⟩ := hT.2.2 p h1
    rw [e]
    exact ⟨h1, (nI_leI (a := 48) (by omega) (by omega)).mpr h2, (nI_leI (b := 57) (by omega) (by omega)).mpr h3⟩
theorem c_number {μ : Mem} {τ : Nat → Nat} {n : Nat} {s : Pf} (hs : RdS μ τ n s) {x y : Int32} {lo hi : Nat} (hx : x = nI lo) (hlo : lo < 100) (hy : s.2 = 0 → y = nI hi) (hhi : hi < 100) :
    CtP yX4_number cX4_number 5 (some .int) 1 [vR 31, vI x, vI y] μ (Pi (fun r μ' => r = nI (numS τ n lo hi s).1 ∧ RdS μ' τ n (numS τ n lo hi s).2 ∧ Off31 μ μ')) := by
  refine CtP.go RX4 rfl pn_X4 (Nat.le_of_ble_eq_true rfl) (fun C hG hR => ?_)
  have hp := hs.2.2.2.1
  have hn := hs.1.2.1
  by_cases hf : s.2 = 0
  · have hy := hy hf
    have e38 : V C 38 [(0, vR 31), (1, vI x), (2, vI y), (3, vI (nI (fgN τ n s.1)))] [] μ := by
      by_cases hg : fgN τ n s.1 = 1 ∨ fgN τ n s.1 = 2
      · obtain ⟨l1, l2, l3⟩ := fgN_le hg
        have e1 : (if s.1 < n then μ 14 s.1 else -1) = nI (τ s.1) := by rw [if_pos l2.1]; exact (hs.1.2.2 _ l2.1).1
        have hge : ∀ v, v = valS τ n s.1 → V C 100 [(0, vR 31), (1, vI x), (2, vI y), (3, vI (nI (fgN τ n s.1))), (4, vI (nI v))] [] μ := by
          intro v hv
          have hv100 : v < 1000 := by
            rw [hv]; unfold valS; have := l2.2.2
            split
            · rename_i q; have := (l3 q).2.2; omega
            · omega
          have hnum : numS τ n lo hi s = if lo ≤ v ∧ v ≤ hi then (v, (s.1 + fgN τ n s.1, 0)) else (0, (s.1, 2)) := by
            unfold numS; rw [if_pos hf, if_neg (by omega), hv]
          rw [hnum] at hR
          refine V_iload (pc := 100) hG (dk dd_X4_number 56 rfl) rfl ?_
          refine V_iload_n (pc := 102) hG (dk dd_X4_number 57 rfl) rfl ?_
          refine V_icmp_lt (pc := 103) hG (dk dd_X4_number 58 rfl) (tgt := 112) (by decide) (fun h103 => ?_) (fun h103 => ?_)
          refine V_aload_n (pc := 112) hG (dk dd_X4_number 62 rfl) rfl ?_
          refine V_iconst (pc := 113) hG (dk dd_X4_number 63 rfl) (v := 2) (by decide) ?_
          refine V_callVvp (pc := 114) hG (dk dd_X4_number 64 rfl) ml_X4_79 mo_X4_mark sh_31 rfl (c_mark hs (k := 2) rfl (by decide)) (by decide) (by decide) rfl rfl rfl (fun m114 p114 => ?_)
          refine V_iconst (pc := 117) hG (dk dd_X4_number 65 rfl) (v := 0) (by decide) ?_
          refine V_iretP (pc := 118) hG (dk dd_X4_number 66 rfl) hR (Pi.mk ?_)
          rotate_left
          refine V_iload (pc := 106) hG (dk dd_X4_number 59 rfl) rfl ?_
          refine V_iload_n (pc := 108) hG (dk dd_X4_number 60 rfl) rfl ?_
          refine V_icmp_le (pc := 109) hG (dk dd_X4_number 61 rfl) (tgt := 119) (by decide) (fun h109 => ?_) (fun h109 => ?_)
          refine V_aload_n (pc := 119) hG (dk dd_X4_number 67 rfl) rfl ?_
          refine V_dup (pc := 120) hG (dk dd_X4_number 68 rfl) rfl ?_
          refine V_getI (pc := 121) hG (dk dd_X4_number 69 rfl) fl_X4_19 sh_31 rfl ?_
          refine V_iload_n (pc := 124) hG (dk dd_X4_number 70 rfl) rfl ?_
          refine V_iadd (pc := 125) hG (dk dd_X4_number 71 rfl) ?_
          refine V_putI (pc := 126) hG (dk dd_X4_number 72 rfl) fl_X4_19 sh_31 rfl rfl ?_
          refine V_iload (pc := 129) hG (dk dd_X4_number 73 rfl) rfl ?_
          refine V_iretP (pc := 131) hG (dk dd_X4_number 74 rfl) hR (Pi.mk ?_)
          rotate_left
          refine V_aload_n (pc := 112) hG (dk dd_X4_number 62 rfl) rfl ?_
          refine V_iconst (pc := 113) hG (dk dd_X4_number 63 rfl) (v := 2) (by decide) ?_
          refine V_callVvp (pc := 114) hG (dk dd_X4_number 64 rfl) ml_X4_79 mo_X4_mark sh_31 rfl (c_mark hs (k := 2) rfl (by decide)) (by decide) (by decide) rfl rfl rfl (fun m114 p114 => ?_)
          refine V_iconst (pc := 117) hG (dk dd_X4_number 65 rfl) (v := 0) (by decide) ?_
          refine V_iretP (pc := 118) hG (dk dd_X4_number 66 rfl) hR (Pi.mk ?_)
          rotate_left
          -- leaves: return@118; return@131; return@118
          · rw [hx] at h103
            rw [if_neg (fun q => by have := (nI_ltI (by omega) (by omega)).mp h103; omega)]
            unfold markS at p114; rw [if_pos hf] at p114; exact ⟨rfl, p114⟩
          · rw [hx] at h103; rw [hy] at h109
            have a1 := Nat.not_lt.mp (fun q => h103 ((nI_ltI (by omega) (by omega)).mpr q))
            rw [if_pos ⟨a1, le_i h109 (by omega) (by omega)⟩]
            exact ⟨rfl, ⟨hs.1.off (setc_n (by decide)) (setc_n (by decide)), by rw [setc_s, pk_us, hs.2.1, nI_add], by rw [setc_s, pk_un (by decide)]; exact hs.f0.mpr hf, l1, Nat.zero_le 3⟩, fun a ha => setc_n ha⟩
          · rw [hy] at h109
            rw [if_neg (fun q => h109 ((nI_leI (by omega) (by omega)).mpr q.2))]
            unfold markS at p114; rw [if_pos hf] at p114; exact ⟨rfl, p114⟩
        have hl48 := l2.2.1
        have hl57 := l2.2.2
        refine V_iload_n (pc := 38) hG (dk dd_X4_number 20 rfl) rfl ?_
        refine V_iconst (pc := 39) hG (dk dd_X4_number 21 rfl) (v := 1) (by decide) ?_
        refine V_icmp_lt (pc := 40) hG (dk dd_X4_number 22 rfl) (tgt := 48) (by decide) (fun h40 => ?_) (fun h40 => ?_)
        rotate_left
        refine V_iload_n (pc := 43) hG (dk dd_X4_number 23 rfl) rfl ?_
        refine V_iconst (pc := 44) hG (dk dd_X4_number 24 rfl) (v := 2) (by decide) ?_
        refine V_icmp_le (pc := 45) hG (dk dd_X4_number 25 rfl) (tgt := 55) (by decide) (fun h45 => ?_) (fun h45 => ?_)
        refine V_aload_n (pc := 55) hG (dk dd_X4_number 31 rfl) rfl ?_
        refine V_getR (pc := 56) hG (dk dd_X4_number 32 rfl) fl_X4_9 sh_31 rfl ?_
        refine V_aload_n (pc := 59) hG (dk dd_X4_number 33 rfl) rfl ?_
        refine V_getI (pc := 60) hG (dk dd_X4_number 34 rfl) fl_X4_19 sh_31 rfl ?_
        refine V_callVip (pc := 63) hG (dk dd_X4_number 35 rfl) ml_X4_113 mo_X6_at sh_13 rfl (c_tat hs.1.1 hn hs.2.1 (by omega)) (by decide) (by decide) rfl rfl rfl (fun x63 m63 p63 => ?_)
        refine V_bipush (pc := 66) hG (dk dd_X4_number 36 rfl) (v := 48) (by decide) ?_
        refine V_isub (pc := 68) hG (dk dd_X4_number 37 rfl) ?_
        refine V_istore (pc := 69) hG (dk dd_X4_number 38 rfl) (by decide) (lv' := [(0, _), (1, _), (2, _), (3, _), (4, _)]) rfl ?_
        refine V_iload_n (pc := 71) hG (dk dd_X4_number 39 rfl) rfl ?_
        refine V_iconst (pc := 72) hG (dk dd_X4_number 40 rfl) (v := 2) (by decide) ?_
        refine V_icmp_ne (pc := 73) hG (dk dd_X4_number 41 rfl) (tgt := 100) (by decide) (fun h73 => ?_) (fun h73 => ?_)
        rotate_left
        refine V_bipush (pc := 76) hG (dk dd_X4_number 42 rfl) (v := 10) (by decide) ?_
        refine V_iload (pc := 78) hG (dk dd_X4_number 43 rfl) rfl ?_
        refine V_imul (pc := 80) hG (dk dd_X4_number 44 rfl) ?_
        refine V_aload_n (pc := 81) hG (dk dd_X4_number 45 rfl) rfl ?_
        refine V_getR (pc := 82) hG (dk dd_X4_number 46 rfl) fl_X4_9 sh_31 rfl ?_
        refine V_aload_n (pc := 85) hG (dk dd_X4_number 47 rfl) rfl ?_
        refine V_getI (pc := 86) hG (dk dd_X4_number 48 rfl) fl_X4_19 sh_31 rfl ?_
        refine V_iconst (pc := 89) hG (dk dd_X4_number 49 rfl) (v := 1) (by decide) ?_
        refine V_iadd (pc := 90) hG (dk dd_X4_number 50 rfl) ?_
        refine V_callVip (pc := 91) hG (dk dd_X4_number 51 rfl) ml_X4_113 mo_X6_at sh_13 rfl (c_tat (p := s.1 + 1) (by rw [p63.1]; exact hs.1.1) hn (by rw [p63.1, hs.2.1, nI_1]) (by omega)) (by decide) (by decide) rfl rfl rfl (fun x91 m91 p91 => ?_)
        refine V_iadd (pc := 94) hG (dk dd_X4_number 52 rfl) ?_
        refine V_bipush (pc := 95) hG (dk dd_X4_number 53 rfl) (v := 48) (by decide) ?_
        refine V_isub (pc := 97) hG (dk dd_X4_number 54 rfl) ?_
        refine V_istore (pc := 98) hG (dk dd_X4_number 55 rfl) (by decide) (lv' := [(0, _), (1, _), (2, _), (3, _), (4, _)]) rfl ?_
        rotate_left
        rotate_left
        -- leaves: stop 48; stop 100; stop 100; stop 48
        · exfalso; have := (nI_ltI (b := 1) (by omega) (by decide)).mp h40; omega
        · obtain ⟨rfl, rfl⟩ := p63
          have hne : ¬ fgN τ n s.1 = 2 := fun q => h73 (by rw [q]; rfl)
          rw [e1, show (48 : Int32) = nI 48 from rfl, pk_sub hl48]
          exact hge _ (by unfold valS; rw [if_neg hne])
        · obtain ⟨rfl, rfl⟩ := p63
          obtain ⟨rfl, rfl⟩ := p91
          have he : fgN τ n s.1 = 2 := (nI_eq (b := 2) (by omega) (by decide)).mp h73
          obtain ⟨m1, m2, m3⟩ := l3 he
          rw [e1, if_pos m1, (hs.1.2.2 _ m1).1, show (48 : Int32) = nI 48 from rfl, pk_sub hl48, show (10 : Int32) = nI 10 from rfl, pk_mul, nI_add, pk_sub (by omega)]
          exact hge _ (by unfold valS; rw [if_pos he]; omega)
        · exfalso; exact h45 ((nI_leI (b := 2) (by omega) (by decide)).mpr (by omega))
      · have hg3 : fgN τ n s.1 ≤ 3 := by unfold fgN; split; decide; split; decide; split <;> decide
        have hnum : numS τ n lo hi s = (0, (s.1, 1)) := by unfold numS; rw [if_pos hf, if_pos (by omega)]
        rw [hnum] at hR
        refine V_iload_n (pc := 38) hG (dk dd_X4_number 20 rfl) rfl ?_
        refine V_iconst (pc := 39) hG (dk dd_X4_number 21 rfl) (v := 1) (by decide) ?_
        refine V_icmp_lt (pc := 40) hG (dk dd_X4_number 22 rfl) (tgt := 48) (by decide) (fun h40 => ?_) (fun h40 => ?_)
        refine V_aload_n (pc := 48) hG (dk dd_X4_number 26 rfl) rfl ?_
        refine V_iconst (pc := 49) hG (dk dd_X4_number 27 rfl) (v := 1) (by decide) ?_
        refine V_callVvp (pc := 50) hG (dk dd_X4_number 28 rfl) ml_X4_79 mo_X4_mark sh_31 rfl (c_mark hs (k := 1) rfl (by decide)) (by decide) (by decide) rfl rfl rfl (fun m50 p50 => ?_)
        refine V_iconst (pc := 53) hG (dk dd_X4_number 29 rfl) (v := 0) (by decide) ?_
        refine V_iretP (pc := 54) hG (dk dd_X4_number 30 rfl) hR (Pi.mk ?_)
        rotate_left
        refine V_iload_n (pc := 43) hG (dk dd_X4_number 23 rfl) rfl ?_
        refine V_iconst (pc := 44) hG (dk dd_X4_number 24 rfl) (v := 2) (by decide) ?_
        refine V_icmp_le (pc := 45) hG (dk dd_X4_number 25 rfl) (tgt := 55) (by decide) (fun h45 => ?_) (fun h45 => ?_)
        rotate_left
        refine V_aload_n (pc := 48) hG (dk dd_X4_number 26 rfl) rfl ?_
        refine V_iconst (pc := 49) hG (dk dd_X4_number 27 rfl) (v := 1) (by decide) ?_
        refine V_callVvp (pc := 50) hG (dk dd_X4_number 28 rfl) ml_X4_79 mo_X4_mark sh_31 rfl (c_mark hs (k := 1) rfl (by decide)) (by decide) (by decide) rfl rfl rfl (fun m50 p50 => ?_)
        refine V_iconst (pc := 53) hG (dk dd_X4_number 29 rfl) (v := 0) (by decide) ?_
        refine V_iretP (pc := 54) hG (dk dd_X4_number 30 rfl) hR (Pi.mk ?_)
        rotate_left
        -- leaves: return@54; stop 55; return@54
        · unfold markS at p50; rw [if_pos hf] at p50; exact ⟨rfl, p50⟩
        · exfalso
          have a1 := Nat.not_lt.mp (fun q => h40 ((nI_ltI (b := 1) (by omega) (by decide)).mpr q))
          have a2 := le_i (b := 2) h45 (by omega) (by decide)
          omega
        · unfold markS at p50; rw [if_pos hf] at p50; exact ⟨rfl, p50⟩
    have loop : ∀ k j, j + k = 3 → (∀ i, i < j → fig τ n (s.1 + i)) → V C 11 [(0, vR 31), (1, vI x), (2, vI y), (3, vI (nI j))] [] μ := by
      intro k
      induction k with
      | zero =>
        intro j hj hi
        have e := fgN_eq hi (Or.inl (by omega)) (by omega)
        rw [← e]
        have hg : fgN τ n s.1 = 3 := by omega
        refine V_iload_n (pc := 11) hG (dk dd_X4_number 7 rfl) rfl ?_
        refine V_iconst (pc := 12) hG (dk dd_X4_number 8 rfl) (v := 3) (by decide) ?_
        refine V_icmp_ge (pc := 13) hG (dk dd_X4_number 9 rfl) (tgt := 38) (by decide) (fun h13 => ?_) (fun h13 => ?_)
        rotate_left
        rotate_left
        -- leaves: stop 38; stop 16
        · exact e38
        · exfalso; exact h13 ((nI_leI (a := 3) (by decide) (by omega)).mpr (by omega))
      | succ k ih =>
        intro j hj hi
        have hI := fun z => ih (j + 1) (by omega) z
        rw [nI_succ] at hI
        refine V_iload_n (pc := 11) hG (dk dd_X4_number 7 rfl) rfl ?_
        refine V_iconst (pc := 12) hG (dk dd_X4_number 8 rfl) (v := 3) (by decide) ?_
        refine V_icmp_ge (pc := 13) hG (dk dd_X4_number 9 rfl) (tgt := 38) (by decide) (fun h13 => ?_) (fun h13 => ?_)
        rotate_left
        refine V_aload_n (pc := 16) hG (dk dd_X4_number 10 rfl) rfl ?_
        refine V_getR (pc := 17) hG (dk dd_X4_number 11 rfl) fl_X4_9 sh_31 rfl ?_
        refine V_aload_n (pc := 20) hG (dk dd_X4_number 12 rfl) rfl ?_
        refine V_getI (pc := 21) hG (dk dd_X4_number 13 rfl) fl_X4_19 sh_31 rfl ?_
        refine V_iload_n (pc := 24) hG (dk dd_X4_number 14 rfl) rfl ?_
        refine V_iadd (pc := 25) hG (dk dd_X4_number 15 rfl) ?_
        refine V_callVip (pc := 26) hG (dk dd_X4_number 16 rfl) ml_X4_117 mo_X6_isFigure sh_13 rfl (c_isFigure (p := s.1 + j) hs.1.1 hn (by rw [hs.2.1, nI_add]) (by omega)) (by decide) (by decide) rfl rfl rfl (fun x26 m26 p26 => ?_)
        refine V_if_eq (pc := 29) hG (dk dd_X4_number 17 rfl) (tgt := 38) (by decide) (fun h29 => ?_) (fun h29 => ?_)
        rotate_left
        refine V_iinc (pc := 32) hG (dk dd_X4_number 18 rfl) rfl (v := _ + 1) rfl (by decide) (lv' := [(0, _), (1, _), (2, _), (3, _)]) rfl ?_
        refine V_goto (pc := 35) hG (dk dd_X4_number 19 rfl) (tgt := 11) (by decide) ?_
        rotate_left
        -- leaves: stop 38; stop 38; stop 11
        · exfalso; have := (nI_leI (a := 3) (by decide) (by omega)).mp h13; omega
        · obtain ⟨rfl, p26⟩ := p26
          have e := fgN_eq hi (Or.inr (fun q => p26.no h29 ((isFig_iff hs.1).mpr q))) (by omega)
          rw [← e]; exact e38
        · obtain ⟨rfl, p26⟩ := p26
          refine hI (fun i hi' => ?_)
          by_cases e : i = j
          · subst e; exact (isFig_iff hs.1).mp (p26.yes h29)
          · exact hi i (by omega)
    refine V_aload_n (pc := 0) hG (dk dd_X4_number 0 rfl) rfl ?_
    refine V_getI (pc := 1) hG (dk dd_X4_number 1 rfl) fl_X4_23 sh_31 rfl ?_
    refine V_if_eq (pc := 4) hG (dk dd_X4_number 2 rfl) (tgt := 9) (by decide) (fun h4 => ?_) (fun h4 => ?_)
    refine V_iconst (pc := 9) hG (dk dd_X4_number 5 rfl) (v := 0) (by decide) ?_
    refine V_istore_n (pc := 10) hG (dk dd_X4_number 6 rfl) (by decide) (lv' := [(0, _), (1, _), (2, _), (3, _)]) rfl ?_
    rotate_left
    rotate_left
    -- leaves: stop 11; stop 7
    · exact loop 3 0 (by omega) (fun i hi => absurd hi (Nat.not_lt_zero i))
    · exact absurd (hs.f0.mpr hf) h4
  · have hnum : numS τ n lo hi s = (0, s) := by unfold numS; rw [if_neg hf]
    rw [hnum] at hR
    refine V_aload_n (pc := 0) hG (dk dd_X4_number 0 rfl) rfl ?_
    refine V_getI (pc := 1) hG (dk dd_X4_number 1 rfl) fl_X4_23 sh_31 rfl ?_
    refine V_if_eq (pc := 4) hG (dk dd_X4_number 2 rfl) (tgt := 9) (by decide) (fun h4 => ?_) (fun h4 => ?_)
    rotate_left
    refine V_iconst (pc := 7) hG (dk dd_X4_number 3 rfl) (v := 0) (by decide) ?_
    refine V_iretP (pc := 8) hG (dk dd_X4_number 4 rfl) hR (Pi.mk ?_)
    rotate_left
    -- leaves: stop 9; return@8
    · exact absurd (hs.f0.mp h4) hf
    · exact ⟨rfl, hs, fun _ _ => rfl⟩
