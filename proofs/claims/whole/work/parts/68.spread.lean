/-! ===== the model: dreams behind just so many hums ===== -/
set_option maxHeartbeats 2000000 in
theorem m_spread {μ : Mem} {α : Al} (hA : Abs (kap (μ 71)) α) (hv : Val α) {x : Int32} {n : Nat} (hx : x = nI n) (hn : n < 100) :
    CtP yX10_spread cX10_spread 5 none 2 [vR 67, vI x] μ (Pv (fun μ' => (∀ a, a ≠ 76 → a ≠ 77 → μ' a = μ a) ∧ Mk (μ' 76) (Rch α (α 0 3) n))) := by
  refine CtP.go RX10 rfl pn_X10 (Nat.le_of_ble_eq_true rfl) (fun C hG hR => ?_)
  have ht := hv.t
  have hH := hv.H
  have hp := pow8 ht
  have hD8 := hv.lt hv.D
  have r6 : vp_in (6 : Int32) 46 := rr (n := 6) (by decide)
  have r3 : vp_in (3 : Int32) 46 := rr (n := 3) (by decide)
  have e0 : μ 71 0 = nI (α 0 0) := e_sc hA (i := 0) (by decide)
  have e3 : μ 71 (Int32.toNatClampNeg 3) = nI (α 0 6) := e_sc hA (i := 6) (by decide)
  have e6 : μ 71 (Int32.toNatClampNeg 6) = nI (α 0 3) := e_sc hA (i := 3) (by decide)
  have outer : ∀ ko j M, j + ko = n → (∀ a, a ≠ 76 → a ≠ 77 → M a = μ a) → Mk (M 76) (Rch α (α 0 3) j) → V C 39 [(0, vR 67), (1, vI x), (2, vI (nI j))] [] M := by
    intro ko
    induction ko with
    | zero =>
      intro j M hj f1 f2
      refine V_iload_n (pc := 39) hG (dk dd_X10_spread 22 rfl) rfl ?_
      refine V_iload_n (pc := 40) hG (dk dd_X10_spread 23 rfl) rfl ?_
      refine V_icmp_ge (pc := 41) hG (dk dd_X10_spread 24 rfl) (tgt := 160) (by decide) (fun h41 => ?_) (fun h41 => ?_)
      refine V_vretP (pc := 160) hG (dk dd_X10_spread 86 rfl) hR (Pv.mk ?_)
      rotate_left
      rotate_left
      -- leaves: return@160; stop 44
      · exact ⟨f1, by rw [show n = j by omega]; exact f2⟩
      · exfalso; rw [hx] at h41; have := nle_i h41 (by omega) (by omega); omega
    | succ ko ih =>
      intro j M hj f1 f2
      -- the copy back
      have back : ∀ k d M2, d + k = 256 → (∀ a, a ≠ 76 → a ≠ 77 → M2 a = μ a) → Mk (M2 77) (Rch α (α 0 3) (j + 1)) → (∀ E, E < d → M2 76 E = M2 77 E) → V C 129 [(0, vR 67), (1, vI x), (2, vI (nI j)), (3, vI (nI d))] [] M2 := by
        intro k
        induction k with
        | zero =>
          intro d M2 hd g1 g2 g3
          refine V_iload_n (pc := 129) hG (dk dd_X10_spread 71 rfl) rfl ?_
          refine V_sipush (pc := 130) hG (dk dd_X10_spread 72 rfl) (v := 256) (by decide) ?_
          refine V_icmp_ge (pc := 133) hG (dk dd_X10_spread 73 rfl) (tgt := 154) (by decide) (fun h133 => ?_) (fun h133 => ?_)
          refine V_iinc (pc := 154) hG (dk dd_X10_spread 84 rfl) rfl (v := _ + 1) rfl (by decide) (lv' := [(0, _), (1, _), (2, _), (3, _)]) rfl ?_
          refine V_goto (pc := 157) hG (dk dd_X10_spread 85 rfl) (tgt := 39) (by decide) ?_
          refine V_keep [0, 1, 2] (lv' := [(0, _), (1, _), (2, _)]) rfl ?_
          rotate_left
          rotate_left
          -- leaves: stop 39; stop 136
          · rw [← nI_succ]
            exact ih (j + 1) M2 (by omega) g1 (g2.cg (fun E hE => g3 E (by omega)) (fun E _ => Iff.rfl))
          · exfalso; have := nle_i (a := 256) h133 (by omega) (by omega); omega
        | succ k ik =>
          intro d M2 hd g1 g2 g3
          have r : vp_in (nI d) 256 := vp_in_nI (by omega) (by decide)
          have bb : M2 77 (nI d).toNatClampNeg = 0 ∨ M2 77 (nI d).toNatClampNeg = 1 := by rw [nI_clamp (by omega)]; exact (g2 d (by omega)).bool
          refine V_iload_n (pc := 129) hG (dk dd_X10_spread 71 rfl) rfl ?_
          refine V_sipush (pc := 130) hG (dk dd_X10_spread 72 rfl) (v := 256) (by decide) ?_
          refine V_icmp_ge (pc := 133) hG (dk dd_X10_spread 73 rfl) (tgt := 154) (by decide) (fun h133 => ?_) (fun h133 => ?_)
          rotate_left
          refine V_aload_n (pc := 136) hG (dk dd_X10_spread 74 rfl) rfl ?_
          refine V_getR (pc := 137) hG (dk dd_X10_spread 75 rfl) fl_X10_34 sh_67 rfl ?_
          refine V_iload_n (pc := 140) hG (dk dd_X10_spread 76 rfl) rfl ?_
          refine V_aload_n (pc := 141) hG (dk dd_X10_spread 77 rfl) rfl ?_
          refine V_getR (pc := 142) hG (dk dd_X10_spread 78 rfl) fl_X10_38 sh_67 rfl ?_
          refine V_iload_n (pc := 145) hG (dk dd_X10_spread 79 rfl) rfl ?_
          refine V_zald (pc := 146) hG (dk dd_X10_spread 80 rfl) sh_77 r ?_
          refine V_zast (pc := 147) hG (dk dd_X10_spread 81 rfl) sh_76 r bb ?_
          refine V_iinc (pc := 148) hG (dk dd_X10_spread 82 rfl) rfl (v := _ + 1) rfl (by decide) (lv' := [(0, _), (1, _), (2, _), (3, _)]) rfl ?_
          refine V_goto (pc := 151) hG (dk dd_X10_spread 83 rfl) (tgt := 129) (by decide) ?_
          rotate_left
          -- leaves: stop 154; stop 129
          · exfalso; have := le_i (a := 256) h133 (by omega) (by omega); omega
          · rw [← nI_succ, nI_clamp (by omega)]
            refine ik (d + 1) _ (by omega) (fun a a1 a2 => by rw [setc_n a1]; exact g1 a a1 a2) (by rw [setc_n (by decide)]; exact g2) (fun E hE => ?_)
            rw [setc_s, setc_n (by decide)]
            by_cases z : E = d
            · rw [z, upd_s]
            · rw [upd_n z]; exact g3 E (by omega)
      -- over dreams
      have mid : ∀ k i M2, i + k = 2 ^ α 0 0 → (∀ a, a ≠ 76 → a ≠ 77 → M2 a = μ a) → Mk (M2 76) (Rch α (α 0 3) j) → Mk (M2 77) (fun E => ∃ F, F < i ∧ Rch α (α 0 3) j F ∧ ∃ h, h < α 0 6 ∧ humN α h F = E) → V C 68 [(0, vR 67), (1, vI x), (2, vI (nI j)), (3, vI (nI i))] [] M2 := by
        intro k
        induction k with
        | zero =>
          intro i M2 hi g1 g2 g3
          have m0 : M2 71 0 = nI (α 0 0) := by rw [g1 71 (by decide) (by decide)]; exact e0
          refine V_iload_n (pc := 68) hG (dk dd_X10_spread 39 rfl) rfl ?_
          refine V_aload_n (pc := 69) hG (dk dd_X10_spread 40 rfl) rfl ?_
          refine V_callVip (pc := 70) hG (dk dd_X10_spread 41 rfl) ml_X10_173 mo_X10_allDreams sh_67 rfl (m_allDreams m0 (by omega)) (by decide) (by decide) rfl rfl rfl (fun x70 m70 p70 => ?_)
          refine V_icmp_ge (pc := 73) hG (dk dd_X10_spread 42 rfl) (tgt := 127) (by decide) (fun h73 => ?_) (fun h73 => ?_)
          refine V_iconst (pc := 127) hG (dk dd_X10_spread 69 rfl) (v := 0) (by decide) ?_
          refine V_istore_n (pc := 128) hG (dk dd_X10_spread 70 rfl) (by decide) (lv' := [(0, _), (1, _), (2, _), (3, _)]) rfl ?_
          rotate_left
          rotate_left
          -- leaves: stop 129; stop 76
          · rw [p70.1]
            refine back 256 0 M2 (by omega) g1 (g3.cg (fun E _ => rfl) (fun E _ => ?_)) (fun E hE => by omega)
            constructor
            · rintro ⟨F, _, h2, h, h3, h4⟩; exact ⟨F, h, h2, h3, h4⟩
            · rintro ⟨F, h, h2, h3, h4⟩; exact ⟨F, by have := Rch_lt hv hv.D h2; omega, h2, h, h3, h4⟩
          · exfalso; rw [p70.2] at h73; have := nle_i h73 (by omega) (by omega); omega
        | succ k ik =>
          intro i M2 hi g1 g2 g3
          have hi2 : i < 2 ^ α 0 0 := by omega
          have m0 : M2 71 0 = nI (α 0 0) := by rw [g1 71 (by decide) (by decide)]; exact e0
          have inn : ∀ k2 h M3, h + k2 = α 0 6 → (∀ a, a ≠ 76 → a ≠ 77 → M3 a = μ a) → Mk (M3 76) (Rch α (α 0 3) j) → Mk (M3 77) (fun E => (∃ F, F < i ∧ Rch α (α 0 3) j F ∧ ∃ h, h < α 0 6 ∧ humN α h F = E) ∨ (Rch α (α 0 3) j i ∧ ∃ g, g < h ∧ humN α g i = E)) → V C 79 [(0, vR 67), (1, vI x), (2, vI (nI j)), (3, vI (nI i)), (4, vI (nI h))] [] M3 := by
            intro k2
            have nx : ∀ M3, (∀ a, a ≠ 76 → a ≠ 77 → M3 a = μ a) → Mk (M3 76) (Rch α (α 0 3) j) → Mk (M3 77) (fun E => (∃ F, F < i ∧ Rch α (α 0 3) j F ∧ ∃ h, h < α 0 6 ∧ humN α h F = E) ∨ (Rch α (α 0 3) j i ∧ ∃ g, g < α 0 6 ∧ humN α g i = E)) → V C 121 [(0, vR 67), (1, vI x), (2, vI (nI j)), (3, vI (nI i))] [] M3 := by
              intro M3 s1 s2 s3
              have hI := ik (i + 1) M3 (by omega) s1 s2 (s3.cg (fun E _ => rfl) (fun E _ => by
                constructor
                · rintro (⟨F, a, b⟩ | ⟨a, b⟩)
                  · exact ⟨F, by omega, b⟩
                  · exact ⟨i, by omega, a, b⟩
                · rintro ⟨F, a, b, c⟩
                  by_cases z : F = i
                  · exact Or.inr ⟨z ▸ b, z ▸ c⟩
                  · exact Or.inl ⟨F, by omega, b, c⟩))
              rw [nI_succ] at hI
              refine V_iinc (pc := 121) hG (dk dd_X10_spread 67 rfl) rfl (v := _ + 1) rfl (by decide) (lv' := [(0, _), (1, _), (2, _), (3, _)]) rfl ?_
              refine V_goto (pc := 124) hG (dk dd_X10_spread 68 rfl) (tgt := 68) (by decide) ?_
              rotate_left
              -- leaves: stop 68
              · exact hI
            induction k2 with
            | zero =>
              intro h M3 hh s1 s2 s3
              have m3 : M3 71 (Int32.toNatClampNeg 3) = nI (α 0 6) := by rw [s1 71 (by decide) (by decide)]; exact e3
              refine V_iload (pc := 79) hG (dk dd_X10_spread 45 rfl) rfl ?_
              refine V_aload_n (pc := 81) hG (dk dd_X10_spread 46 rfl) rfl ?_
              refine V_getR (pc := 82) hG (dk dd_X10_spread 47 rfl) fl_X10_19 sh_67 rfl ?_
              refine V_iconst (pc := 85) hG (dk dd_X10_spread 48 rfl) (v := 3) (by decide) ?_
              refine V_iald (pc := 86) hG (dk dd_X10_spread 49 rfl) sh_71 r3 ?_
              refine V_icmp_ge (pc := 87) hG (dk dd_X10_spread 50 rfl) (tgt := 121) (by decide) (fun h87 => ?_) (fun h87 => ?_)
              refine V_keep [0, 1, 2, 3] (lv' := [(0, _), (1, _), (2, _), (3, _)]) rfl ?_
              rotate_left
              rotate_left
              -- leaves: stop 121; stop 90
              · exact nx M3 s1 s2 (by rw [show h = α 0 6 by omega] at s3; exact s3)
              · exfalso; rw [m3] at h87; have := nle_i h87 (by omega) (by omega); omega
            | succ k2 ip =>
              intro h M3 hh s1 s2 s3
              have m3 : M3 71 (Int32.toNatClampNeg 3) = nI (α 0 6) := by rw [s1 71 (by decide) (by decide)]; exact e3
              have hA3 : Abs (kap (M3 71)) α := by rw [s1 71 (by decide) (by decide)]; exact hA
              have ri : vp_in (nI i) 256 := vp_in_nI (by omega) (by decide)
              have lt := hv.lt (humN_lt hv (h := h) (by omega) hi2)
              have ci : (nI i).toNatClampNeg = i := nI_clamp (by omega)
              have wi := s2 i (by omega)
              refine V_iload (pc := 79) hG (dk dd_X10_spread 45 rfl) rfl ?_
              refine V_aload_n (pc := 81) hG (dk dd_X10_spread 46 rfl) rfl ?_
              refine V_getR (pc := 82) hG (dk dd_X10_spread 47 rfl) fl_X10_19 sh_67 rfl ?_
              refine V_iconst (pc := 85) hG (dk dd_X10_spread 48 rfl) (v := 3) (by decide) ?_
              refine V_iald (pc := 86) hG (dk dd_X10_spread 49 rfl) sh_71 r3 ?_
              refine V_icmp_ge (pc := 87) hG (dk dd_X10_spread 50 rfl) (tgt := 121) (by decide) (fun h87 => ?_) (fun h87 => ?_)
              refine V_keep [0, 1, 2, 3] (lv' := [(0, _), (1, _), (2, _), (3, _)]) rfl ?_
              rotate_left
              refine V_aload_n (pc := 90) hG (dk dd_X10_spread 51 rfl) rfl ?_
              refine V_getR (pc := 91) hG (dk dd_X10_spread 52 rfl) fl_X10_34 sh_67 rfl ?_
              refine V_iload_n (pc := 94) hG (dk dd_X10_spread 53 rfl) rfl ?_
              refine V_zald (pc := 95) hG (dk dd_X10_spread 54 rfl) sh_76 ri ?_
              refine V_if_eq (pc := 96) hG (dk dd_X10_spread 55 rfl) (tgt := 121) (by decide) (fun h96 => ?_) (fun h96 => ?_)
              refine V_keep [0, 1, 2, 3] (lv' := [(0, _), (1, _), (2, _), (3, _)]) rfl ?_
              rotate_left
              refine V_aload_n (pc := 99) hG (dk dd_X10_spread 56 rfl) rfl ?_
              refine V_getR (pc := 100) hG (dk dd_X10_spread 57 rfl) fl_X10_38 sh_67 rfl ?_
              refine V_aload_n (pc := 103) hG (dk dd_X10_spread 58 rfl) rfl ?_
              refine V_getR (pc := 104) hG (dk dd_X10_spread 59 rfl) fl_X10_19 sh_67 rfl ?_
              refine V_iload (pc := 107) hG (dk dd_X10_spread 60 rfl) rfl ?_
              refine V_iload_n (pc := 109) hG (dk dd_X10_spread 61 rfl) rfl ?_
              refine V_callSip (pc := 110) hG (dk dd_X10_spread 62 rfl) ml_X10_191 mo_X10_hummed (m_hummed (μ := M3) sh_71 (α := α) hA3 hv (h := h) rfl (by omega) (D := i) rfl hi2) (by decide) (by decide) rfl rfl rfl (fun x110 m110 p110 => ?_)
              refine V_iconst (pc := 113) hG (dk dd_X10_spread 63 rfl) (v := 1) (by decide) ?_
              refine V_zast (pc := 114) hG (dk dd_X10_spread 64 rfl) sh_77 (by rw [p110.2]; exact vp_in_nI lt (by decide)) (by decide) ?_
              refine V_iinc (pc := 115) hG (dk dd_X10_spread 65 rfl) rfl (v := _ + 1) rfl (by decide) (lv' := [(0, _), (1, _), (2, _), (3, _), (4, _)]) rfl ?_
              refine V_goto (pc := 118) hG (dk dd_X10_spread 66 rfl) (tgt := 79) (by decide) ?_
              rotate_left
              -- leaves: stop 121; stop 121; stop 79
              · exfalso; rw [m3] at h87; have := le_i h87 (by omega) (by omega); omega
              · rw [ci] at h96
                have nr := wi.no h96
                exact nx M3 s1 s2 (s3.cg (fun E _ => rfl) (fun E _ => ⟨fun q => q.elim Or.inl (fun w => absurd w.1 nr), fun q => q.elim Or.inl (fun w => absurd w.1 nr)⟩))
              · rw [ci] at h96
                have yr := wi.yes h96
                rw [← nI_succ, p110.1, p110.2, nI_clamp (by omega)]
                refine ip (h + 1) _ (by omega) (fun a a1 a2 => by rw [setc_n a2]; exact s1 a a1 a2) (by rw [setc_n (by decide)]; exact s2) ?_
                rw [setc_s]
                refine (s3.upd (humN α h i)).cg (fun E _ => rfl) (fun E _ => ?_)
                constructor
                · rintro ((a | ⟨a, g, b, c⟩) | a)
                  · exact Or.inl a
                  · exact Or.inr ⟨a, g, by omega, c⟩
                  · exact Or.inr ⟨yr, h, by omega, a.symm⟩
                · rintro (a | ⟨a, g, b, c⟩)
                  · exact Or.inl (Or.inl a)
                  · by_cases z : g = h
                    · exact Or.inr (by rw [← c, z])
                    · exact Or.inl (Or.inr ⟨a, g, by omega, c⟩)
          refine V_iload_n (pc := 68) hG (dk dd_X10_spread 39 rfl) rfl ?_
          refine V_aload_n (pc := 69) hG (dk dd_X10_spread 40 rfl) rfl ?_
          refine V_callVip (pc := 70) hG (dk dd_X10_spread 41 rfl) ml_X10_173 mo_X10_allDreams sh_67 rfl (m_allDreams m0 (by omega)) (by decide) (by decide) rfl rfl rfl (fun x70 m70 p70 => ?_)
          refine V_icmp_ge (pc := 73) hG (dk dd_X10_spread 42 rfl) (tgt := 127) (by decide) (fun h73 => ?_) (fun h73 => ?_)
          rotate_left
          refine V_iconst (pc := 76) hG (dk dd_X10_spread 43 rfl) (v := 0) (by decide) ?_
          refine V_istore (pc := 77) hG (dk dd_X10_spread 44 rfl) (by decide) (lv' := [(0, _), (1, _), (2, _), (3, _), (4, _)]) rfl ?_
          rotate_left
          -- leaves: stop 127; stop 79
          · exfalso; rw [p70.2] at h73; have := le_i h73 (by omega) (by omega); omega
          · rw [p70.1]
            exact inn (α 0 6) 0 M2 (by omega) g1 g2 (g3.cg (fun E _ => rfl) (fun E _ => ⟨Or.inl, fun q => q.elim id (fun w => by obtain ⟨_, g, b, _⟩ := w; omega)⟩))
      have clear : ∀ k d M2, d + k = 256 → (∀ a, a ≠ 76 → a ≠ 77 → M2 a = μ a) → Mk (M2 76) (Rch α (α 0 3) j) → (∀ E, E < d → M2 77 E = 0) → V C 46 [(0, vR 67), (1, vI x), (2, vI (nI j)), (3, vI (nI d))] [] M2 := by
        intro k
        induction k with
        | zero =>
          intro d M2 hd g1 g2 g3
          refine V_iload_n (pc := 46) hG (dk dd_X10_spread 27 rfl) rfl ?_
          refine V_sipush (pc := 47) hG (dk dd_X10_spread 28 rfl) (v := 256) (by decide) ?_
          refine V_icmp_ge (pc := 50) hG (dk dd_X10_spread 29 rfl) (tgt := 66) (by decide) (fun h50 => ?_) (fun h50 => ?_)
          refine V_iconst (pc := 66) hG (dk dd_X10_spread 37 rfl) (v := 0) (by decide) ?_
          refine V_istore_n (pc := 67) hG (dk dd_X10_spread 38 rfl) (by decide) (lv' := [(0, _), (1, _), (2, _), (3, _)]) rfl ?_
          rotate_left
          rotate_left
          -- leaves: stop 68; stop 53
          · refine mid (2 ^ α 0 0) 0 M2 (by omega) g1 g2 (fun E hE => ?_)
            rw [g3 E (by omega)]
            exact is1.f (fun q => by obtain ⟨F, a, _⟩ := q; omega)
          · exfalso; have := nle_i (a := 256) h50 (by omega) (by omega); omega
        | succ k ik =>
          intro d M2 hd g1 g2 g3
          have r : vp_in (nI d) 256 := vp_in_nI (by omega) (by decide)
          refine V_iload_n (pc := 46) hG (dk dd_X10_spread 27 rfl) rfl ?_
          refine V_sipush (pc := 47) hG (dk dd_X10_spread 28 rfl) (v := 256) (by decide) ?_
          refine V_icmp_ge (pc := 50) hG (dk dd_X10_spread 29 rfl) (tgt := 66) (by decide) (fun h50 => ?_) (fun h50 => ?_)
          rotate_left
          refine V_aload_n (pc := 53) hG (dk dd_X10_spread 30 rfl) rfl ?_
          refine V_getR (pc := 54) hG (dk dd_X10_spread 31 rfl) fl_X10_38 sh_67 rfl ?_
          refine V_iload_n (pc := 57) hG (dk dd_X10_spread 32 rfl) rfl ?_
          refine V_iconst (pc := 58) hG (dk dd_X10_spread 33 rfl) (v := 0) (by decide) ?_
          refine V_zast (pc := 59) hG (dk dd_X10_spread 34 rfl) sh_77 r (by decide) ?_
          refine V_iinc (pc := 60) hG (dk dd_X10_spread 35 rfl) rfl (v := _ + 1) rfl (by decide) (lv' := [(0, _), (1, _), (2, _), (3, _)]) rfl ?_
          refine V_goto (pc := 63) hG (dk dd_X10_spread 36 rfl) (tgt := 46) (by decide) ?_
          rotate_left
          -- leaves: stop 66; stop 46
          · exfalso; have := le_i (a := 256) h50 (by omega) (by omega); omega
          · rw [← nI_succ, nI_clamp (by omega)]
            refine ik (d + 1) _ (by omega) (fun a a1 a2 => by rw [setc_n a2]; exact g1 a a1 a2) (by rw [setc_n (by decide)]; exact g2) (fun E hE => ?_)
            rw [setc_s]
            by_cases z : E = d
            · rw [z, upd_s]
            · rw [upd_n z]; exact g3 E (by omega)
      refine V_iload_n (pc := 39) hG (dk dd_X10_spread 22 rfl) rfl ?_
      refine V_iload_n (pc := 40) hG (dk dd_X10_spread 23 rfl) rfl ?_
      refine V_icmp_ge (pc := 41) hG (dk dd_X10_spread 24 rfl) (tgt := 160) (by decide) (fun h41 => ?_) (fun h41 => ?_)
      rotate_left
      refine V_iconst (pc := 44) hG (dk dd_X10_spread 25 rfl) (v := 0) (by decide) ?_
      refine V_istore_n (pc := 45) hG (dk dd_X10_spread 26 rfl) (by decide) (lv' := [(0, _), (1, _), (2, _), (3, _)]) rfl ?_
      rotate_left
      -- leaves: stop 160; stop 46
      · exfalso; rw [hx] at h41; have := le_i h41 (by omega) (by omega); omega
      · exact clear 256 0 M (by omega) f1 f2 (fun E hE => by omega)
  have ini : ∀ k d M, d + k = 256 → (∀ a, a ≠ 76 → a ≠ 77 → M a = μ a) → (∀ E, E < d → is1 (M 76 E) (E = α 0 3)) → V C 2 [(0, vR 67), (1, vI x), (2, vI (nI d))] [] M := by
    intro k
    induction k with
    | zero =>
      intro d M hd g1 g2
      refine V_iload_n (pc := 2) hG (dk dd_X10_spread 2 rfl) rfl ?_
      refine V_sipush (pc := 3) hG (dk dd_X10_spread 3 rfl) (v := 256) (by decide) ?_
      refine V_icmp_ge (pc := 6) hG (dk dd_X10_spread 4 rfl) (tgt := 37) (by decide) (fun h6 => ?_) (fun h6 => ?_)
      refine V_iconst (pc := 37) hG (dk dd_X10_spread 20 rfl) (v := 0) (by decide) ?_
      refine V_istore_n (pc := 38) hG (dk dd_X10_spread 21 rfl) (by decide) (lv' := [(0, _), (1, _), (2, _)]) rfl ?_
      rotate_left
      rotate_left
      -- leaves: stop 39; stop 9
      · exact outer n 0 M (by omega) g1 (fun E hE => g2 E (by omega))
      · exfalso; have := nle_i (a := 256) h6 (by omega) (by omega); omega
    | succ k ik =>
      intro d M hd g1 g2
      have r : vp_in (nI d) 256 := vp_in_nI (by omega) (by decide)
      have m6 : M 71 (Int32.toNatClampNeg 6) = nI (α 0 3) := by rw [g1 71 (by decide) (by decide)]; exact e6
      have go : ∀ v, is1 v (d = α 0 3) → V C 2 [(0, vR 67), (1, vI x), (2, vI (nI (d + 1)))] [] (setc M 76 (upd (M 76) d v)) := fun v hv1 => by
        refine ik (d + 1) _ (by omega) (fun a a1 a2 => by rw [setc_n a1]; exact g1 a a1 a2) (fun E hE => ?_)
        rw [setc_s]
        by_cases z : E = d
        · rw [z, upd_s]; exact hv1
        · rw [upd_n z]; exact g2 E (by omega)
      refine V_iload_n (pc := 2) hG (dk dd_X10_spread 2 rfl) rfl ?_
      refine V_sipush (pc := 3) hG (dk dd_X10_spread 3 rfl) (v := 256) (by decide) ?_
      refine V_icmp_ge (pc := 6) hG (dk dd_X10_spread 4 rfl) (tgt := 37) (by decide) (fun h6 => ?_) (fun h6 => ?_)
      rotate_left
      refine V_aload_n (pc := 9) hG (dk dd_X10_spread 5 rfl) rfl ?_
      refine V_getR (pc := 10) hG (dk dd_X10_spread 6 rfl) fl_X10_34 sh_67 rfl ?_
      refine V_iload_n (pc := 13) hG (dk dd_X10_spread 7 rfl) rfl ?_
      refine V_iload_n (pc := 14) hG (dk dd_X10_spread 8 rfl) rfl ?_
      refine V_aload_n (pc := 15) hG (dk dd_X10_spread 9 rfl) rfl ?_
      refine V_getR (pc := 16) hG (dk dd_X10_spread 10 rfl) fl_X10_19 sh_67 rfl ?_
      refine V_bipush (pc := 19) hG (dk dd_X10_spread 11 rfl) (v := 6) (by decide) ?_
      refine V_iald (pc := 21) hG (dk dd_X10_spread 12 rfl) sh_71 r6 ?_
      refine V_icmp_ne (pc := 22) hG (dk dd_X10_spread 13 rfl) (tgt := 29) (by decide) (fun h22 => ?_) (fun h22 => ?_)
      refine V_iconst (pc := 29) hG (dk dd_X10_spread 16 rfl) (v := 0) (by decide) ?_
      refine V_zast (pc := 30) hG (dk dd_X10_spread 17 rfl) sh_76 r (by decide) ?_
      refine V_iinc (pc := 31) hG (dk dd_X10_spread 18 rfl) rfl (v := _ + 1) rfl (by decide) (lv' := [(0, _), (1, _), (2, _)]) rfl ?_
      refine V_goto (pc := 34) hG (dk dd_X10_spread 19 rfl) (tgt := 2) (by decide) ?_
      rotate_left
      refine V_iconst (pc := 25) hG (dk dd_X10_spread 14 rfl) (v := 1) (by decide) ?_
      refine V_goto (pc := 26) hG (dk dd_X10_spread 15 rfl) (tgt := 30) (by decide) ?_
      refine V_zast (pc := 30) hG (dk dd_X10_spread 17 rfl) sh_76 r (by decide) ?_
      refine V_iinc (pc := 31) hG (dk dd_X10_spread 18 rfl) rfl (v := _ + 1) rfl (by decide) (lv' := [(0, _), (1, _), (2, _)]) rfl ?_
      refine V_goto (pc := 34) hG (dk dd_X10_spread 19 rfl) (tgt := 2) (by decide) ?_
      rotate_left
      -- leaves: stop 37; stop 2; stop 2
      · exfalso; have := le_i (a := 256) h6 (by omega) (by omega); omega
      · rw [m6] at h22
        rw [← nI_succ, nI_clamp (by omega)]
        exact go 0 (is1.f (fun q => h22 (by rw [q])))
      · rw [m6] at h22
        rw [← nI_succ, nI_clamp (by omega)]
        exact go 1 (is1.t ((nI_eq (by omega) (by omega)).mp h22))
  refine V_iconst (pc := 0) hG (dk dd_X10_spread 0 rfl) (v := 0) (by decide) ?_
  refine V_istore_n (pc := 1) hG (dk dd_X10_spread 1 rfl) (by decide) (lv' := [(0, _), (1, _), (2, _)]) rfl ?_
  rotate_left
  -- leaves: stop 2
  · exact ini 256 0 μ (by omega) (fun a _ _ => rfl) (fun E hE => by omega)
def DrmR (α : Al) (x w r : Int32) : Prop := (¬ 0 < α 0 0 ∧ r = -1000002) ∨ (0 < α 0 0 ∧ ¬ ((0 ≤ x ∧ x ≤ 8) ∧ (0 ≤ w ∧ w ≤ 4)) ∧ r = -1000001) ∨ (0 < α 0 0 ∧ ∃ n W, x = nI n ∧ n ≤ 8 ∧ w = nI W ∧ W < 5 ∧ DrQ (Rch α (α 0 3) n) (α 0 0) W r)
set_option maxHeartbeats 2000000 in
theorem m_dreams {μ : Mem} {α : Al} (hA : Abs (kap (μ 71)) α) (hz : Vz α) {x w : Int32} : CtP yX10_dreams cX10_dreams 9 (some .int) 3 [vR 67, vI x, vI w] μ (Pi (fun r μ' => DrmR α x w r ∧ FrM μ none μ')) := by
  refine CtP.go RX10 rfl pn_X10 (Nat.le_of_ble_eq_true rfl) (fun C hG hR => ?_)
  have e0 : μ 71 0 = nI (α 0 0) := e_sc hA (i := 0) (by decide)
  by_cases hv : Val α
  · have h0 : 0 < α 0 0 := by have := hv.t3; omega
    have ht := hv.t
    have hp := pow8 ht
    by_cases hi : (0 ≤ x ∧ x ≤ 8) ∧ (0 ≤ w ∧ w ≤ 4)
    · obtain ⟨n, hn, hx⟩ := nI_of (Int32.not_lt.mpr hi.1.1)
      have n8 : n ≤ 8 := le_i (b := 8) (hx ▸ hi.1.2) hn (by decide)
      obtain ⟨W, hW, hw⟩ := nI_of (Int32.not_lt.mpr hi.2.1)
      have W4 : W ≤ 4 := le_i (b := 4) (hw ▸ hi.2.2) hW (by decide)
      have loop : ∀ M, FrM μ none M → Mk (M 76) (Rch α (α 0 3) n) → ∀ k d c a o l g, d + k = 2 ^ α 0 0 → c = nI (cntT (Rch α (α 0 3) n) d) → a = nI (andT (Rch α (α 0 3) n) (2 ^ α 0 0 - 1) d) → o = nI (orP (Rch α (α 0 3) n) d) → IsL (Rch α (α 0 3) n) d l → IsG (Rch α (α 0 3) n) d g → V C 71 [(0, vR 67), (1, vI x), (2, vI w), (3, vI c), (4, vI a), (5, vI o), (6, vI l), (7, vI g), (8, vI (nI d))] [] M := by
        intro M hM hk k
        have m0 : M 71 0 = nI (α 0 0) := by rw [hM.1 71 (by decide) (by decide) (by decide)]; exact e0
        have lsn : ∀ (P : Nat → Prop) d l, IsL P d l → ¬ P d → IsL P (d + 1) l := fun P d l h np => by
          rcases h with ⟨D, a1, a2, a3, a4⟩ | ⟨a1, a2⟩
          · exact Or.inl ⟨D, by omega, a2, a3, a4⟩
          · exact Or.inr ⟨fun D hD => if z : D = d then z ▸ np else a1 D (by omega), a2⟩
        have lsy : ∀ (P : Nat → Prop) d l, IsL P d l → P d → ¬ l = -1000000 → IsL P (d + 1) l := fun P d l h p hl => by
          rcases h with ⟨D, a1, a2, a3, a4⟩ | ⟨a1, a2⟩
          · exact Or.inl ⟨D, by omega, a2, a3, a4⟩
          · exact absurd a2 hl
        have lsz : ∀ (P : Nat → Prop) d, d ≤ 256 → IsL P d (-1000000) → P d → IsL P (d + 1) (nI d) := fun P d h8 h p => by
          rcases h with ⟨D, a1, a2, a3, a4⟩ | ⟨a1, a2⟩
          · exfalso
            have : (0 : Int32) ≤ nI D := nI_pos' (by omega)
            rw [← a3] at this; exact absurd this (by decide)
          · exact Or.inl ⟨d, by omega, p, rfl, fun E hE => a1 E hE⟩
        have gsn : ∀ (P : Nat → Prop) d g, IsG P d g → ¬ P d → IsG P (d + 1) g := fun P d g h np => by
          rcases h with ⟨D, a1, a2, a3, a4⟩ | ⟨a1, a2⟩
          · exact Or.inl ⟨D, by omega, a2, a3, fun E e1 e2 => if z : E = d then z ▸ np else a4 E (by omega) e2⟩
          · exact Or.inr ⟨fun D hD => if z : D = d then z ▸ np else a1 D (by omega), a2⟩
        have gsy : ∀ (P : Nat → Prop) d, P d → IsG P (d + 1) (nI d) := fun P d p => Or.inl ⟨d, by omega, p, rfl, fun E e1 e2 => by omega⟩
        induction k with
        | zero =>
          intro d c a o l g hd hc ha ho hl hg
          have e : d = 2 ^ α 0 0 := by omega
          subst e
          have mk : ∀ r, DrQ (Rch α (α 0 3) n) (α 0 0) W r → ∀ M2, M2 = M → DrmR α x w r ∧ FrM μ none M2 := fun r hr M2 e2 => ⟨Or.inr (Or.inr ⟨h0, n, W, hx, n8, hw, by omega, hr⟩), by rw [e2]; exact hM⟩
          have wk : ∀ j, j < 5 → (w = nI j ↔ W = j) := fun j hj => by rw [hw]; exact nI_eq (by omega) (by omega)
          refine V_iload (pc := 71) hG (dk dd_X10_dreams 40 rfl) rfl ?_
          refine V_aload_n (pc := 73) hG (dk dd_X10_dreams 41 rfl) rfl ?_
          refine V_callVip (pc := 74) hG (dk dd_X10_dreams 42 rfl) ml_X10_173 mo_X10_allDreams sh_67 rfl (m_allDreams m0 (by omega)) (by decide) (by decide) rfl rfl rfl (fun x74 m74 p74 => ?_)
          refine V_icmp_ge (pc := 77) hG (dk dd_X10_dreams 43 rfl) (tgt := 133) (by decide) (fun h77 => ?_) (fun h77 => ?_)
          refine V_iload_n (pc := 133) hG (dk dd_X10_dreams 69 rfl) rfl ?_
          refine V_if_ne (pc := 134) hG (dk dd_X10_dreams 70 rfl) (tgt := 141) (by decide) (fun h134 => ?_) (fun h134 => ?_)
          refine V_iload_n (pc := 141) hG (dk dd_X10_dreams 73 rfl) rfl ?_
          refine V_iconst (pc := 142) hG (dk dd_X10_dreams 74 rfl) (v := 1) (by decide) ?_
          refine V_icmp_ne (pc := 143) hG (dk dd_X10_dreams 75 rfl) (tgt := 151) (by decide) (fun h143 => ?_) (fun h143 => ?_)
          refine V_iload_n (pc := 151) hG (dk dd_X10_dreams 78 rfl) rfl ?_
          refine V_iconst (pc := 152) hG (dk dd_X10_dreams 79 rfl) (v := 2) (by decide) ?_
          refine V_icmp_ne (pc := 153) hG (dk dd_X10_dreams 80 rfl) (tgt := 161) (by decide) (fun h153 => ?_) (fun h153 => ?_)
          refine V_iload_n (pc := 161) hG (dk dd_X10_dreams 83 rfl) rfl ?_
          refine V_iconst (pc := 162) hG (dk dd_X10_dreams 84 rfl) (v := 3) (by decide) ?_
          refine V_icmp_ne (pc := 163) hG (dk dd_X10_dreams 85 rfl) (tgt := 171) (by decide) (fun h163 => ?_) (fun h163 => ?_)
          refine V_iload (pc := 171) hG (dk dd_X10_dreams 88 rfl) rfl ?_
          refine V_iretP (pc := 173) hG (dk dd_X10_dreams 89 rfl) hR (Pi.mk ?_)
          rotate_left
          refine V_iload (pc := 166) hG (dk dd_X10_dreams 86 rfl) rfl ?_
          refine V_goto (pc := 168) hG (dk dd_X10_dreams 87 rfl) (tgt := 173) (by decide) ?_
          refine V_iretP (pc := 173) hG (dk dd_X10_dreams 89 rfl) hR (Pi.mk ?_)
          rotate_left
          refine V_iload (pc := 156) hG (dk dd_X10_dreams 81 rfl) rfl ?_
          refine V_goto (pc := 158) hG (dk dd_X10_dreams 82 rfl) (tgt := 173) (by decide) ?_
          refine V_iretP (pc := 173) hG (dk dd_X10_dreams 89 rfl) hR (Pi.mk ?_)
          rotate_left
          refine V_iload (pc := 146) hG (dk dd_X10_dreams 76 rfl) rfl ?_
          refine V_goto (pc := 148) hG (dk dd_X10_dreams 77 rfl) (tgt := 173) (by decide) ?_
          refine V_iretP (pc := 173) hG (dk dd_X10_dreams 89 rfl) hR (Pi.mk ?_)
          rotate_left
          refine V_iload_n (pc := 137) hG (dk dd_X10_dreams 71 rfl) rfl ?_
          refine V_goto (pc := 138) hG (dk dd_X10_dreams 72 rfl) (tgt := 173) (by decide) ?_
          refine V_iretP (pc := 173) hG (dk dd_X10_dreams 89 rfl) hR (Pi.mk ?_)
          rotate_left
          rotate_left
          -- leaves: return@173; return@173; return@173; return@173; return@173; stop 80
          · have n0 : W ≠ 0 := fun z => h134 ((wk 0 (by decide)).mpr z)
            have n1 : W ≠ 1 := fun z => h143 ((wk 1 (by decide)).mpr z)
            have n2 : W ≠ 2 := fun z => h153 ((wk 2 (by decide)).mpr z)
            have n3 : W ≠ 3 := fun z => h163 ((wk 3 (by decide)).mpr z)
            exact mk _ ⟨fun z => absurd z n0, fun z => absurd z n1, fun z => absurd z n2, fun z => absurd z n3, fun _ => hg⟩ _ p74.1
          · have n3 := (wk 3 (by decide)).mp h163
            exact mk _ ⟨fun z => by omega, fun z => by omega, fun z => by omega, fun _ => hl, fun z => by omega⟩ _ p74.1
          · have n3 := (wk 2 (by decide)).mp h153
            exact mk _ ⟨fun z => by omega, fun z => by omega, fun _ => ho, fun z => by omega, fun z => by omega⟩ _ p74.1
          · have n3 := (wk 1 (by decide)).mp h143
            exact mk _ ⟨fun z => by omega, fun _ => ha, fun z => by omega, fun z => by omega, fun z => by omega⟩ _ p74.1
          · have n3 := (wk 0 (by decide)).mp h134
            exact mk _ ⟨fun _ => hc, fun z => by omega, fun z => by omega, fun z => by omega, fun z => by omega⟩ _ p74.1
          · exfalso; rw [p74.2] at h77; have := nle_i h77 (by omega) (by omega); omega
        | succ k ih =>
          intro d c a o l g hd hc ha ho hl hg
          have ri : vp_in (nI d) 256 := vp_in_nI (by omega) (by decide)
          have ci : (nI d).toNatClampNeg = d := nI_clamp (by omega)
          have wi := hk d (by omega)
          have cl := cntT_le (Rch α (α 0 3) n) d
          have al := andT_le (Rch α (α 0 3) n) (2 ^ α 0 0 - 1) d
          have ol := orP_lt (Rch α (α 0 3) n) d (by omega)
          refine V_iload (pc := 71) hG (dk dd_X10_dreams 40 rfl) rfl ?_
          refine V_aload_n (pc := 73) hG (dk dd_X10_dreams 41 rfl) rfl ?_
          refine V_callVip (pc := 74) hG (dk dd_X10_dreams 42 rfl) ml_X10_173 mo_X10_allDreams sh_67 rfl (m_allDreams m0 (by omega)) (by decide) (by decide) rfl rfl rfl (fun x74 m74 p74 => ?_)
          refine V_icmp_ge (pc := 77) hG (dk dd_X10_dreams 43 rfl) (tgt := 133) (by decide) (fun h77 => ?_) (fun h77 => ?_)
          rotate_left
          refine V_aload_n (pc := 80) hG (dk dd_X10_dreams 44 rfl) rfl ?_
          refine V_getR (pc := 81) hG (dk dd_X10_dreams 45 rfl) fl_X10_34 sh_67 rfl ?_
          refine V_iload (pc := 84) hG (dk dd_X10_dreams 46 rfl) rfl ?_
          refine V_zald (pc := 86) hG (dk dd_X10_dreams 47 rfl) sh_76 ri ?_
          refine V_if_eq (pc := 87) hG (dk dd_X10_dreams 48 rfl) (tgt := 127) (by decide) (fun h87 => ?_) (fun h87 => ?_)
          refine V_iinc (pc := 127) hG (dk dd_X10_dreams 67 rfl) rfl (v := _ + 1) rfl (by decide) (lv' := [(0, _), (1, _), (2, _), (3, _), (4, _), (5, _), (6, _), (7, _), (8, _)]) rfl ?_
          refine V_goto (pc := 130) hG (dk dd_X10_dreams 68 rfl) (tgt := 71) (by decide) ?_
          rotate_left
          refine V_iinc (pc := 90) hG (dk dd_X10_dreams 49 rfl) rfl (v := _ + 1) rfl (by decide) (lv' := [(0, _), (1, _), (2, _), (3, _), (4, _), (5, _), (6, _), (7, _), (8, _)]) rfl ?_
          refine V_iload (pc := 93) hG (dk dd_X10_dreams 50 rfl) rfl ?_
          refine V_iload (pc := 95) hG (dk dd_X10_dreams 51 rfl) rfl ?_
          refine V_iand (pc := 97) hG (dk dd_X10_dreams 52 rfl) ?_
          refine V_istore (pc := 98) hG (dk dd_X10_dreams 53 rfl) (by decide) (lv' := [(0, _), (1, _), (2, _), (3, _), (4, _), (5, _), (6, _), (7, _), (8, _)]) rfl ?_
          refine V_iload (pc := 100) hG (dk dd_X10_dreams 54 rfl) rfl ?_
          refine V_iload (pc := 102) hG (dk dd_X10_dreams 55 rfl) rfl ?_
          refine V_ior (pc := 104) hG (dk dd_X10_dreams 56 rfl) ?_
          refine V_istore (pc := 105) hG (dk dd_X10_dreams 57 rfl) (by decide) (lv' := [(0, _), (1, _), (2, _), (3, _), (4, _), (5, _), (6, _), (7, _), (8, _)]) rfl ?_
          refine V_iload (pc := 107) hG (dk dd_X10_dreams 58 rfl) rfl ?_
          refine V_ldc (pc := 109) hG (dk dd_X10_dreams 59 rfl) kk_X10_105 ?_
          refine V_icmp_ne (pc := 111) hG (dk dd_X10_dreams 60 rfl) (tgt := 119) (by decide) (fun h111 => ?_) (fun h111 => ?_)
          refine V_iload (pc := 119) hG (dk dd_X10_dreams 63 rfl) rfl ?_
          refine V_istore (pc := 121) hG (dk dd_X10_dreams 64 rfl) (by decide) (lv' := [(0, _), (1, _), (2, _), (3, _), (4, _), (5, _), (6, _), (7, _), (8, _)]) rfl ?_
          refine V_iload (pc := 123) hG (dk dd_X10_dreams 65 rfl) rfl ?_
          refine V_istore (pc := 125) hG (dk dd_X10_dreams 66 rfl) (by decide) (lv' := [(0, _), (1, _), (2, _), (3, _), (4, _), (5, _), (6, _), (7, _), (8, _)]) rfl ?_
          refine V_iinc (pc := 127) hG (dk dd_X10_dreams 67 rfl) rfl (v := _ + 1) rfl (by decide) (lv' := [(0, _), (1, _), (2, _), (3, _), (4, _), (5, _), (6, _), (7, _), (8, _)]) rfl ?_
          refine V_goto (pc := 130) hG (dk dd_X10_dreams 68 rfl) (tgt := 71) (by decide) ?_
          rotate_left
          refine V_iload (pc := 114) hG (dk dd_X10_dreams 61 rfl) rfl ?_
          refine V_goto (pc := 116) hG (dk dd_X10_dreams 62 rfl) (tgt := 121) (by decide) ?_
          refine V_istore (pc := 121) hG (dk dd_X10_dreams 64 rfl) (by decide) (lv' := [(0, _), (1, _), (2, _), (3, _), (4, _), (5, _), (6, _), (7, _), (8, _)]) rfl ?_
          refine V_iload (pc := 123) hG (dk dd_X10_dreams 65 rfl) rfl ?_
          refine V_istore (pc := 125) hG (dk dd_X10_dreams 66 rfl) (by decide) (lv' := [(0, _), (1, _), (2, _), (3, _), (4, _), (5, _), (6, _), (7, _), (8, _)]) rfl ?_
          refine V_iinc (pc := 127) hG (dk dd_X10_dreams 67 rfl) rfl (v := _ + 1) rfl (by decide) (lv' := [(0, _), (1, _), (2, _), (3, _), (4, _), (5, _), (6, _), (7, _), (8, _)]) rfl ?_
          refine V_goto (pc := 130) hG (dk dd_X10_dreams 68 rfl) (tgt := 71) (by decide) ?_
          rotate_left
          -- leaves: stop 133; stop 71; stop 71; stop 71
          · exfalso; rw [p74.2] at h77; have := le_i h77 (by omega) (by omega); omega
          · rw [p74.1] at h87 ⊢
            rw [ci] at h87
            have np := wi.no h87
            rw [← nI_succ]
            exact ih (d + 1) c a o l g (by omega) (by rw [cntT_s, p1_f np]; exact hc) (by rw [andT_f np]; exact ha) (by rw [orP_f np]; exact ho) (lsn _ d l hl np) (gsn _ d g hg np)
          · rw [p74.1] at h87 ⊢
            rw [ci] at h87
            have np := wi.yes h87
            rw [← nI_succ]
            exact ih (d + 1) (c + 1) _ _ l (nI d) (by omega) (by rw [cntT_s, p1_t np, hc, nI_1]) (by rw [andT_t np, ha, q_andG (by omega) (by omega)]) (by rw [orP_t np, ho, q_orG (by omega) (by omega)]) (lsy _ d l hl np h111) (gsy _ d np)
          · rw [p74.1] at h87 ⊢
            rw [ci] at h87
            have np := wi.yes h87
            rw [← nI_succ]
            rw [h111] at hl
            exact ih (d + 1) (c + 1) _ _ (nI d) (nI d) (by omega) (by rw [cntT_s, p1_t np, hc, nI_1]) (by rw [andT_t np, ha, q_andG (by omega) (by omega)]) (by rw [orP_t np, ho, q_orG (by omega) (by omega)]) (lsz _ d (by omega) hl np) (gsy _ d np)
      refine V_aload_n (pc := 0) hG (dk dd_X10_dreams 0 rfl) rfl ?_
      refine V_iconst (pc := 1) hG (dk dd_X10_dreams 1 rfl) (v := 0) (by decide) ?_
      refine V_putI (pc := 2) hG (dk dd_X10_dreams 2 rfl) fl_X10_62 sh_67 rfl rfl ?_
      refine V_aload_n (pc := 5) hG (dk dd_X10_dreams 3 rfl) rfl ?_
      refine V_callVip (pc := 6) hG (dk dd_X10_dreams 4 rfl) ml_X10_219 mo_X10_isThere sh_67 rfl (m_isThere) (by decide) (by decide) rfl rfl rfl (fun x6 m6 p6 => ?_)
      refine V_if_ne (pc := 9) hG (dk dd_X10_dreams 5 rfl) (tgt := 15) (by decide) (fun h9 => ?_) (fun h9 => ?_)
      refine V_iload_n (pc := 15) hG (dk dd_X10_dreams 8 rfl) rfl ?_
      refine V_i2l (pc := 16) hG (dk dd_X10_dreams 9 rfl) ?_
      refine V_lconst (pc := 17) hG (dk dd_X10_dreams 10 rfl) (v := 0) (by decide) ?_
      refine V_ldc2_w (pc := 18) hG (dk dd_X10_dreams 11 rfl) kk_X10_234 ?_
      refine V_callSip (pc := 21) hG (dk dd_X10_dreams 12 rfl) ml_X10_72 mo_X10_in (m_inI (v := x) (lo := 0) (hi := 8) rfl rfl (by decide)) (by decide) (by decide) rfl rfl rfl (fun x21 m21 p21 => ?_)
      refine V_if_eq (pc := 24) hG (dk dd_X10_dreams 13 rfl) (tgt := 39) (by decide) (fun h24 => ?_) (fun h24 => ?_)
      rotate_left
      refine V_iload_n (pc := 27) hG (dk dd_X10_dreams 14 rfl) rfl ?_
      refine V_i2l (pc := 28) hG (dk dd_X10_dreams 15 rfl) ?_
      refine V_lconst (pc := 29) hG (dk dd_X10_dreams 16 rfl) (v := 0) (by decide) ?_
      refine V_ldc2_w (pc := 30) hG (dk dd_X10_dreams 17 rfl) kk_X10_217 ?_
      refine V_callSip (pc := 33) hG (dk dd_X10_dreams 18 rfl) ml_X10_72 mo_X10_in (m_inI (v := w) (lo := 0) (hi := 4) rfl rfl (by decide)) (by decide) (by decide) rfl rfl rfl (fun x33 m33 p33 => ?_)
      refine V_if_ne (pc := 36) hG (dk dd_X10_dreams 19 rfl) (tgt := 42) (by decide) (fun h36 => ?_) (fun h36 => ?_)
      refine V_aload_n (pc := 42) hG (dk dd_X10_dreams 22 rfl) rfl ?_
      refine V_iload_n (pc := 43) hG (dk dd_X10_dreams 23 rfl) rfl ?_
      refine V_callVvp (pc := 44) hG (dk dd_X10_dreams 24 rfl) ml_X10_236 mo_X10_spread sh_67 rfl (m_spread (α := α) (n := n) (by rw [p33.1, p21.1, p6.1]; exact hA) hv hx (by omega)) (by decide) (by decide) rfl rfl rfl (fun m44 p44 => ?_)
      refine V_iconst (pc := 47) hG (dk dd_X10_dreams 25 rfl) (v := 0) (by decide) ?_
      refine V_istore_n (pc := 48) hG (dk dd_X10_dreams 26 rfl) (by decide) (lv' := [(0, _), (1, _), (2, _), (3, _)]) rfl ?_
      refine V_aload_n (pc := 49) hG (dk dd_X10_dreams 27 rfl) rfl ?_
      refine V_callVip (pc := 50) hG (dk dd_X10_dreams 28 rfl) ml_X10_173 mo_X10_allDreams sh_67 rfl (m_allDreams (t := α 0 0) (by rw [p44.1 71 (by decide) (by decide), p33.1, p21.1, p6.1]; exact e0) (by omega)) (by decide) (by decide) rfl rfl rfl (fun x50 m50 p50 => ?_)
      refine V_iconst (pc := 53) hG (dk dd_X10_dreams 29 rfl) (v := 1) (by decide) ?_
      refine V_isub (pc := 54) hG (dk dd_X10_dreams 30 rfl) ?_
      refine V_istore (pc := 55) hG (dk dd_X10_dreams 31 rfl) (by decide) (lv' := [(0, _), (1, _), (2, _), (3, _), (4, _)]) rfl ?_
      refine V_iconst (pc := 57) hG (dk dd_X10_dreams 32 rfl) (v := 0) (by decide) ?_
      refine V_istore (pc := 58) hG (dk dd_X10_dreams 33 rfl) (by decide) (lv' := [(0, _), (1, _), (2, _), (3, _), (4, _), (5, _)]) rfl ?_
      refine V_ldc (pc := 60) hG (dk dd_X10_dreams 34 rfl) kk_X10_105 ?_
      refine V_istore (pc := 62) hG (dk dd_X10_dreams 35 rfl) (by decide) (lv' := [(0, _), (1, _), (2, _), (3, _), (4, _), (5, _), (6, _)]) rfl ?_
      refine V_ldc (pc := 64) hG (dk dd_X10_dreams 36 rfl) kk_X10_105 ?_
      refine V_istore (pc := 66) hG (dk dd_X10_dreams 37 rfl) (by decide) (lv' := [(0, _), (1, _), (2, _), (3, _), (4, _), (5, _), (6, _), (7, _)]) rfl ?_
      refine V_iconst (pc := 68) hG (dk dd_X10_dreams 38 rfl) (v := 0) (by decide) ?_
      refine V_istore (pc := 69) hG (dk dd_X10_dreams 39 rfl) (by decide) (lv' := [(0, _), (1, _), (2, _), (3, _), (4, _), (5, _), (6, _), (7, _), (8, _)]) rfl ?_
      rotate_left
      rotate_left
      rotate_left
      -- leaves: stop 39; stop 71; stop 39; stop 12
      · exact absurd hi.1 (p21.2.no h24)
      · obtain ⟨g1, g2⟩ := p44
        rw [p50.1, p50.2, show (1 : Int32) = nI 1 from rfl, pk_sub (Nat.two_pow_pos _)]
        have e33 : m33 = th0 μ := p33.1.trans (p21.1.trans p6.1)
        refine loop m44 ((FrM.th μ).tr (fun j a b c => by rw [g1 j (by omega) (by omega), e33]) (fun q a b c => by rw [g1 67 (by decide) (by decide), e33])) g2 (2 ^ α 0 0) 0 0 _ 0 (-1000000) (-1000000) (by omega) rfl rfl rfl (Or.inr ⟨fun D hD => by omega, rfl⟩) (Or.inr ⟨fun D hD => by omega, rfl⟩)
      · exact absurd hi.2 (p33.2.no h36)
      · exact absurd ((hz.there e0).mpr hv) (p6.2.no h9)
    · skip
      refine V_aload_n (pc := 0) hG (dk dd_X10_dreams 0 rfl) rfl ?_
      refine V_iconst (pc := 1) hG (dk dd_X10_dreams 1 rfl) (v := 0) (by decide) ?_
      refine V_putI (pc := 2) hG (dk dd_X10_dreams 2 rfl) fl_X10_62 sh_67 rfl rfl ?_
      refine V_aload_n (pc := 5) hG (dk dd_X10_dreams 3 rfl) rfl ?_
      refine V_callVip (pc := 6) hG (dk dd_X10_dreams 4 rfl) ml_X10_219 mo_X10_isThere sh_67 rfl (m_isThere) (by decide) (by decide) rfl rfl rfl (fun x6 m6 p6 => ?_)
      refine V_if_ne (pc := 9) hG (dk dd_X10_dreams 5 rfl) (tgt := 15) (by decide) (fun h9 => ?_) (fun h9 => ?_)
      refine V_iload_n (pc := 15) hG (dk dd_X10_dreams 8 rfl) rfl ?_
      refine V_i2l (pc := 16) hG (dk dd_X10_dreams 9 rfl) ?_
      refine V_lconst (pc := 17) hG (dk dd_X10_dreams 10 rfl) (v := 0) (by decide) ?_
      refine V_ldc2_w (pc := 18) hG (dk dd_X10_dreams 11 rfl) kk_X10_234 ?_
      refine V_callSip (pc := 21) hG (dk dd_X10_dreams 12 rfl) ml_X10_72 mo_X10_in (m_inI (v := x) (lo := 0) (hi := 8) rfl rfl (by decide)) (by decide) (by decide) rfl rfl rfl (fun x21 m21 p21 => ?_)
      refine V_if_eq (pc := 24) hG (dk dd_X10_dreams 13 rfl) (tgt := 39) (by decide) (fun h24 => ?_) (fun h24 => ?_)
      refine V_ldc (pc := 39) hG (dk dd_X10_dreams 20 rfl) kk_X10_82 ?_
      refine V_iretP (pc := 41) hG (dk dd_X10_dreams 21 rfl) hR (Pi.mk ?_)
      rotate_left
      refine V_iload_n (pc := 27) hG (dk dd_X10_dreams 14 rfl) rfl ?_
      refine V_i2l (pc := 28) hG (dk dd_X10_dreams 15 rfl) ?_
      refine V_lconst (pc := 29) hG (dk dd_X10_dreams 16 rfl) (v := 0) (by decide) ?_
      refine V_ldc2_w (pc := 30) hG (dk dd_X10_dreams 17 rfl) kk_X10_217 ?_
      refine V_callSip (pc := 33) hG (dk dd_X10_dreams 18 rfl) ml_X10_72 mo_X10_in (m_inI (v := w) (lo := 0) (hi := 4) rfl rfl (by decide)) (by decide) (by decide) rfl rfl rfl (fun x33 m33 p33 => ?_)
      refine V_if_ne (pc := 36) hG (dk dd_X10_dreams 19 rfl) (tgt := 42) (by decide) (fun h36 => ?_) (fun h36 => ?_)
      rotate_left
      refine V_ldc (pc := 39) hG (dk dd_X10_dreams 20 rfl) kk_X10_82 ?_
      refine V_iretP (pc := 41) hG (dk dd_X10_dreams 21 rfl) hR (Pi.mk ?_)
      rotate_left
      rotate_left
      -- leaves: return@41; stop 42; return@41; stop 12
      · exact ⟨Or.inr (Or.inl ⟨h0, hi, rfl⟩), by rw [p21.1, p6.1]; exact FrM.th μ⟩
      · exact absurd ⟨p21.2.yes h24, p33.2.yes h36⟩ hi
      · exact ⟨Or.inr (Or.inl ⟨h0, hi, rfl⟩), by rw [p33.1, p21.1, p6.1]; exact FrM.th μ⟩
      · exact absurd ((hz.there e0).mpr hv) (p6.2.no h9)
  · skip
    refine V_aload_n (pc := 0) hG (dk dd_X10_dreams 0 rfl) rfl ?_
    refine V_iconst (pc := 1) hG (dk dd_X10_dreams 1 rfl) (v := 0) (by decide) ?_
    refine V_putI (pc := 2) hG (dk dd_X10_dreams 2 rfl) fl_X10_62 sh_67 rfl rfl ?_
    refine V_aload_n (pc := 5) hG (dk dd_X10_dreams 3 rfl) rfl ?_
    refine V_callVip (pc := 6) hG (dk dd_X10_dreams 4 rfl) ml_X10_219 mo_X10_isThere sh_67 rfl (m_isThere) (by decide) (by decide) rfl rfl rfl (fun x6 m6 p6 => ?_)
    refine V_if_ne (pc := 9) hG (dk dd_X10_dreams 5 rfl) (tgt := 15) (by decide) (fun h9 => ?_) (fun h9 => ?_)
    rotate_left
    refine V_ldc (pc := 12) hG (dk dd_X10_dreams 6 rfl) kk_X10_210 ?_
    refine V_iretP (pc := 14) hG (dk dd_X10_dreams 7 rfl) hR (Pi.mk ?_)
    rotate_left
    -- leaves: stop 15; return@14
    · exact absurd ((hz.there e0).mp (p6.2.yes h9)) hv
    · exact ⟨Or.inl ⟨fun q => hv (hz.vt q), rfl⟩, by rw [p6.1]; exact FrM.th μ⟩
/-- dreams within n hums, by rows of hums -/
theorem Rch_end {α : Al} {D : Nat} : ∀ {n E : Nat}, Rch α D n E ↔ ∃ w, Hs α w ∧ w.length = n ∧ endN α D w = E
  | 0, E => ⟨fun h => ⟨[], fun _ h => absurd h List.not_mem_nil, rfl, (show E = D from h).symm⟩, fun ⟨w, _, h2, h3⟩ => by
      have : w = [] := List.length_eq_zero_iff.mp h2
      subst this; exact h3.symm⟩
  | n + 1, E => by
    constructor
    · rintro ⟨F, h, h1, h2, h3⟩
      obtain ⟨w, a1, a2, a3⟩ := Rch_end.mp h1
      exact ⟨w ++ [h], a1.mk h2, by simp [a2], by rw [endN_sn, a3, h3]⟩
    · rintro ⟨w, a1, a2, a3⟩
      have hne : w ≠ [] := fun z => by rw [z] at a2; simp at a2
      have e := List.dropLast_concat_getLast hne
      rw [← e] at a1 a3
      obtain ⟨b1, b2⟩ := a1.sn
      rw [endN_sn] at a3
      exact ⟨_, _, Rch_end.mpr ⟨_, b1, by rw [List.length_dropLast, a2]; rfl, rfl⟩, b2, a3⟩
def CanR (α : Al) (x y r : Int32) : Prop := (¬ (inN x (α 0 7) ∧ (0 ≤ y ∧ y ≤ 8)) ∧ r = -1000001) ∨ (inN x (α 0 7) ∧ ∃ n, y = nI n ∧ n ≤ 8 ∧ CanQ α (α 0 3) n x.toNatClampNeg r)
set_option maxHeartbeats 2000000 in
theorem m_can {μ : Mem} {α : Al} (hA : Abs (kap (μ 71)) α) (hz : Vz α) {x y : Int32} : CtP yX10_can cX10_can 6 (some .int) 3 [vR 67, vI x, vI y] μ (Pi (fun r μ' => CanR α x y r ∧ FrM μ none μ')) := by
  refine CtP.go RX10 rfl pn_X10 (Nat.le_of_ble_eq_true rfl) (fun C hG hR => ?_)
  have hC := hz.C
  have e0 : μ 71 0 = nI (α 0 0) := e_sc hA (i := 0) (by decide)
  have e4 : th0 μ 71 4 = nI (α 0 7) := e_sc hA (i := 7) (by decide)
  by_cases hi : inN x (α 0 7) ∧ (0 ≤ y ∧ y ≤ 8)
  · obtain ⟨hx, hh⟩ := hi.1.n (by omega)
    have hv := hz.vc hh
    have ht := hv.t
    have hp := pow8 ht
    obtain ⟨n, hn, hy⟩ := nI_of (Int32.not_lt.mpr hi.2.1)
    have n8 : n ≤ 8 := le_i (b := 8) (hy ▸ hi.2.2) hn (by decide)
    -- the verdicts so far: of rows shorter than j, and of those of length j to dreams below d
    have loop : ∀ ko j M b, j + ko = n + 1 → FrM μ none M → b < 8 → (∀ v, v < 3 → (b.testBit v = true ↔ ∃ q E, q < j ∧ Rch α (α 0 3) q E ∧ verN α x.toNatClampNeg E = v)) → V C 33 [(0, vR 67), (1, vI x), (2, vI y), (3, vI (nI b)), (4, vI (nI j))] [] M := by
      intro ko
      induction ko with
      | zero =>
        intro j M b hj hM hb hq
        refine V_iload (pc := 33) hG (dk dd_X10_can 19 rfl) rfl ?_
        refine V_iload_n (pc := 35) hG (dk dd_X10_can 20 rfl) rfl ?_
        refine V_icmp_gt (pc := 36) hG (dk dd_X10_can 21 rfl) (tgt := 98) (by decide) (fun h36 => ?_) (fun h36 => ?_)
        refine V_iload_n (pc := 98) hG (dk dd_X10_can 52 rfl) rfl ?_
        refine V_iretP (pc := 99) hG (dk dd_X10_can 53 rfl) hR (Pi.mk ?_)
        rotate_left
        rotate_left
        -- leaves: return@99; stop 39
        · refine ⟨Or.inr ⟨hi.1, n, hy, n8, b, hb, rfl, fun v hv3 => ?_⟩, hM⟩
          rw [hq v hv3]
          constructor
          · rintro ⟨q, E, a1, a2, a3⟩
            obtain ⟨w, b1, b2, b3⟩ := Rch_end.mp a2
            exact ⟨w, b1, by omega, by rw [b3]; exact a3⟩
          · rintro ⟨w, b1, b2, b3⟩
            exact ⟨w.length, _, by omega, Rch_end.mpr ⟨w, b1, rfl, rfl⟩, b3⟩
        · exfalso; rw [hy] at h36; have h36 := Int32.not_lt.mp h36; have := le_i h36 (by omega) (by omega); omega
      | succ ko ih =>
        intro j M b hj hM hb hq
        have inn : ∀ k d M2 b, d + k = 2 ^ α 0 0 → FrM μ none M2 → Mk (M2 76) (Rch α (α 0 3) j) → b < 8 → (∀ v, v < 3 → (b.testBit v = true ↔ ((∃ q E, q < j ∧ Rch α (α 0 3) q E ∧ verN α x.toNatClampNeg E = v) ∨ (∃ E, E < d ∧ Rch α (α 0 3) j E ∧ verN α x.toNatClampNeg E = v)))) → V C 48 [(0, vR 67), (1, vI x), (2, vI y), (3, vI (nI b)), (4, vI (nI j)), (5, vI (nI d))] [] M2 := by
          intro k
          induction k with
          | zero =>
            intro d M2 b hd hM2 hk hb hq
            have m0 : M2 71 0 = nI (α 0 0) := by rw [hM2.1 71 (by decide) (by decide) (by decide)]; exact e0
            refine V_iload (pc := 48) hG (dk dd_X10_can 27 rfl) rfl ?_
            refine V_aload_n (pc := 50) hG (dk dd_X10_can 28 rfl) rfl ?_
            refine V_callVip (pc := 51) hG (dk dd_X10_can 29 rfl) ml_X10_173 mo_X10_allDreams sh_67 rfl (m_allDreams m0 (by omega)) (by decide) (by decide) rfl rfl rfl (fun x51 m51 p51 => ?_)
            refine V_icmp_ge (pc := 54) hG (dk dd_X10_can 30 rfl) (tgt := 92) (by decide) (fun h54 => ?_) (fun h54 => ?_)
            refine V_iinc (pc := 92) hG (dk dd_X10_can 50 rfl) rfl (v := _ + 1) rfl (by decide) (lv' := [(0, _), (1, _), (2, _), (3, _), (4, _), (5, _)]) rfl ?_
            refine V_goto (pc := 95) hG (dk dd_X10_can 51 rfl) (tgt := 33) (by decide) ?_
            refine V_keep [0, 1, 2, 3, 4] (lv' := [(0, _), (1, _), (2, _), (3, _), (4, _)]) rfl ?_
            rotate_left
            rotate_left
            -- leaves: stop 33; stop 57
            · rw [p51.1, ← nI_succ]
              refine ih (j + 1) M2 b (by omega) hM2 hb (fun v hv3 => ?_)
              rw [hq v hv3]
              constructor
              · rintro (⟨q, E, a1, a2, a3⟩ | ⟨E, a1, a2, a3⟩)
                · exact ⟨q, E, by omega, a2, a3⟩
                · exact ⟨j, E, by omega, a2, a3⟩
              · rintro ⟨q, E, a1, a2, a3⟩
                by_cases z : q = j
                · exact Or.inr ⟨E, by rw [z] at a2; have := Rch_lt hv hv.D a2; omega, z ▸ a2, a3⟩
                · exact Or.inl ⟨q, E, by omega, a2, a3⟩
            · exfalso; rw [p51.2] at h54; have := nle_i h54 (by omega) (by omega); omega
          | succ k ik =>
            intro d M2 b hd hM2 hk hb hq
            have m0 : M2 71 0 = nI (α 0 0) := by rw [hM2.1 71 (by decide) (by decide) (by decide)]; exact e0
            have hA2 : Abs (kap (M2 71)) α := by rw [hM2.1 71 (by decide) (by decide) (by decide)]; exact hA
            have ri : vp_in (nI d) 256 := vp_in_nI (by omega) (by decide)
            have ci : (nI d).toNatClampNeg = d := nI_clamp (by omega)
            have wi := hk d (by omega)
            have vl := verN_lt α x.toNatClampNeg d
            refine V_iload (pc := 48) hG (dk dd_X10_can 27 rfl) rfl ?_
            refine V_aload_n (pc := 50) hG (dk dd_X10_can 28 rfl) rfl ?_
            refine V_callVip (pc := 51) hG (dk dd_X10_can 29 rfl) ml_X10_173 mo_X10_allDreams sh_67 rfl (m_allDreams m0 (by omega)) (by decide) (by decide) rfl rfl rfl (fun x51 m51 p51 => ?_)
            refine V_icmp_ge (pc := 54) hG (dk dd_X10_can 30 rfl) (tgt := 92) (by decide) (fun h54 => ?_) (fun h54 => ?_)
            rotate_left
            refine V_iload_n (pc := 57) hG (dk dd_X10_can 31 rfl) rfl ?_
            refine V_aload_n (pc := 58) hG (dk dd_X10_can 32 rfl) rfl ?_
            refine V_getR (pc := 59) hG (dk dd_X10_can 33 rfl) fl_X10_34 sh_67 rfl ?_
            refine V_iload (pc := 62) hG (dk dd_X10_can 34 rfl) rfl ?_
            refine V_zald (pc := 64) hG (dk dd_X10_can 35 rfl) sh_76 ri ?_
            refine V_if_eq (pc := 65) hG (dk dd_X10_can 36 rfl) (tgt := 83) (by decide) (fun h65 => ?_) (fun h65 => ?_)
            refine V_iconst (pc := 83) hG (dk dd_X10_can 45 rfl) (v := 0) (by decide) ?_
            refine V_ior (pc := 84) hG (dk dd_X10_can 46 rfl) ?_
            refine V_istore_n (pc := 85) hG (dk dd_X10_can 47 rfl) (by decide) (lv' := [(0, _), (1, _), (2, _), (3, _), (4, _), (5, _)]) rfl ?_
            refine V_iinc (pc := 86) hG (dk dd_X10_can 48 rfl) rfl (v := _ + 1) rfl (by decide) (lv' := [(0, _), (1, _), (2, _), (3, _), (4, _), (5, _)]) rfl ?_
            refine V_goto (pc := 89) hG (dk dd_X10_can 49 rfl) (tgt := 48) (by decide) ?_
            rotate_left
            refine V_iconst (pc := 68) hG (dk dd_X10_can 37 rfl) (v := 1) (by decide) ?_
            refine V_aload_n (pc := 69) hG (dk dd_X10_can 38 rfl) rfl ?_
            refine V_getR (pc := 70) hG (dk dd_X10_can 39 rfl) fl_X10_19 sh_67 rfl ?_
            refine V_iload_n (pc := 73) hG (dk dd_X10_can 40 rfl) rfl ?_
            refine V_iload (pc := 74) hG (dk dd_X10_can 41 rfl) rfl ?_
            refine V_callSip (pc := 76) hG (dk dd_X10_can 42 rfl) ml_X10_194 mo_X10_verdict (m_verdict (α := α) sh_71 (by rw [p51.1]; exact hA2) hv hx hh (D := d) rfl (by omega)) (by decide) (by decide) rfl rfl rfl (fun x76 m76 p76 => ?_)
            refine V_ishl (pc := 79) hG (dk dd_X10_can 43 rfl) ?_
            refine V_goto (pc := 80) hG (dk dd_X10_can 44 rfl) (tgt := 84) (by decide) ?_
            refine V_ior (pc := 84) hG (dk dd_X10_can 46 rfl) ?_
            refine V_istore_n (pc := 85) hG (dk dd_X10_can 47 rfl) (by decide) (lv' := [(0, _), (1, _), (2, _), (3, _), (4, _), (5, _)]) rfl ?_
            refine V_iinc (pc := 86) hG (dk dd_X10_can 48 rfl) rfl (v := _ + 1) rfl (by decide) (lv' := [(0, _), (1, _), (2, _), (3, _), (4, _), (5, _)]) rfl ?_
            refine V_goto (pc := 89) hG (dk dd_X10_can 49 rfl) (tgt := 48) (by decide) ?_
            rotate_left
            -- leaves: stop 92; stop 48; stop 48
            · exfalso; rw [p51.2] at h54; have := le_i h54 (by omega) (by omega); omega
            · rw [p51.1] at h65 ⊢
              rw [ci] at h65
              have np := wi.no h65
              rw [← nI_succ, Int32.or_zero]
              refine ik (d + 1) M2 b (by omega) hM2 hk hb (fun v hv3 => ?_)
              rw [hq v hv3]
              constructor
              · rintro (a | ⟨E, a1, a2, a3⟩)
                · exact Or.inl a
                · exact Or.inr ⟨E, by omega, a2, a3⟩
              · rintro (a | ⟨E, a1, a2, a3⟩)
                · exact Or.inl a
                · exact Or.inr ⟨E, by have : E ≠ d := fun z => np (z ▸ a2); omega, a2, a3⟩
            · rw [p76.1, p51.1]
              rw [p51.1] at h65
              rw [ci] at h65
              have np := wi.yes h65
              obtain ⟨q1, q2⟩ := q_or3 b hb _ vl
              rw [← nI_succ, p76.2, bI_eq, q_orB (by omega) (by omega)]
              refine ik (d + 1) M2 _ (by omega) hM2 hk q1 (fun v hv3 => ?_)
              rw [q2 v hv3, hq v hv3]
              constructor
              · rintro ((a | ⟨E, a1, a2, a3⟩) | a)
                · exact Or.inl a
                · exact Or.inr ⟨E, by omega, a2, a3⟩
                · exact Or.inr ⟨d, by omega, np, a.symm⟩
              · rintro (a | ⟨E, a1, a2, a3⟩)
                · exact Or.inl (Or.inl a)
                · by_cases z : E = d
                  · exact Or.inr (by rw [← a3, z])
                  · exact Or.inl (Or.inr ⟨E, by omega, a2, a3⟩)
        refine V_iload (pc := 33) hG (dk dd_X10_can 19 rfl) rfl ?_
        refine V_iload_n (pc := 35) hG (dk dd_X10_can 20 rfl) rfl ?_
        refine V_icmp_gt (pc := 36) hG (dk dd_X10_can 21 rfl) (tgt := 98) (by decide) (fun h36 => ?_) (fun h36 => ?_)
        rotate_left
        refine V_aload_n (pc := 39) hG (dk dd_X10_can 22 rfl) rfl ?_
        refine V_iload (pc := 40) hG (dk dd_X10_can 23 rfl) rfl ?_
        refine V_callVvp (pc := 42) hG (dk dd_X10_can 24 rfl) ml_X10_236 mo_X10_spread sh_67 rfl (m_spread (α := α) (n := j) (by rw [hM.1 71 (by decide) (by decide) (by decide)]; exact hA) hv rfl (by omega)) (by decide) (by decide) rfl rfl rfl (fun m42 p42 => ?_)
        refine V_iconst (pc := 45) hG (dk dd_X10_can 25 rfl) (v := 0) (by decide) ?_
        refine V_istore (pc := 46) hG (dk dd_X10_can 26 rfl) (by decide) (lv' := [(0, _), (1, _), (2, _), (3, _), (4, _), (5, _)]) rfl ?_
        rotate_left
        -- leaves: stop 98; stop 48
        · exfalso; rw [hy] at h36; have := (nI_ltI (by omega) (by omega)).mp h36; omega
        · obtain ⟨g1, g2⟩ := p42
          refine inn (2 ^ α 0 0) 0 m42 b (by omega) (hM.tr (fun j a b c => g1 j (by omega) (by omega)) (fun q a b c => by rw [g1 67 (by decide) (by decide)])) g2 hb (fun v hv3 => ?_)
          rw [hq v hv3]
          exact ⟨Or.inl, fun z => z.elim id (fun ⟨E, a, _⟩ => by omega)⟩
    refine V_aload_n (pc := 0) hG (dk dd_X10_can 0 rfl) rfl ?_
    refine V_iconst (pc := 1) hG (dk dd_X10_can 1 rfl) (v := 0) (by decide) ?_
    refine V_putI (pc := 2) hG (dk dd_X10_can 2 rfl) fl_X10_62 sh_67 rfl rfl ?_
    refine V_aload_n (pc := 5) hG (dk dd_X10_can 3 rfl) rfl ?_
    refine V_iload_n (pc := 6) hG (dk dd_X10_can 4 rfl) rfl ?_
    refine V_callVip (pc := 7) hG (dk dd_X10_can 5 rfl) ml_X10_207 mo_X10_isCase sh_67 rfl (m_isCase (n := α 0 7) (by omega) e4) (by decide) (by decide) rfl rfl rfl (fun x7 m7 p7 => ?_)
    refine V_if_eq (pc := 10) hG (dk dd_X10_can 6 rfl) (tgt := 25) (by decide) (fun h10 => ?_) (fun h10 => ?_)
    rotate_left
    refine V_iload_n (pc := 13) hG (dk dd_X10_can 7 rfl) rfl ?_
    refine V_i2l (pc := 14) hG (dk dd_X10_can 8 rfl) ?_
    refine V_lconst (pc := 15) hG (dk dd_X10_can 9 rfl) (v := 0) (by decide) ?_
    refine V_ldc2_w (pc := 16) hG (dk dd_X10_can 10 rfl) kk_X10_234 ?_
    refine V_callSip (pc := 19) hG (dk dd_X10_can 11 rfl) ml_X10_72 mo_X10_in (m_inI (v := y) (lo := 0) (hi := 8) rfl rfl (by decide)) (by decide) (by decide) rfl rfl rfl (fun x19 m19 p19 => ?_)
    refine V_if_ne (pc := 22) hG (dk dd_X10_can 12 rfl) (tgt := 28) (by decide) (fun h22 => ?_) (fun h22 => ?_)
    refine V_iconst (pc := 28) hG (dk dd_X10_can 15 rfl) (v := 0) (by decide) ?_
    refine V_istore_n (pc := 29) hG (dk dd_X10_can 16 rfl) (by decide) (lv' := [(0, _), (1, _), (2, _), (3, _)]) rfl ?_
    refine V_iconst (pc := 30) hG (dk dd_X10_can 17 rfl) (v := 0) (by decide) ?_
    refine V_istore (pc := 31) hG (dk dd_X10_can 18 rfl) (by decide) (lv' := [(0, _), (1, _), (2, _), (3, _), (4, _)]) rfl ?_
    rotate_left
    rotate_left
    -- leaves: stop 25; stop 33; stop 25
    · exact absurd hi.1 (p7.2.no h10)
    · rw [p19.1, p7.1]
      refine loop (n + 1) 0 _ 0 (by omega) (FrM.th μ) (by decide) (fun v hv3 => ⟨fun q => ?_, fun ⟨q, E, a, _⟩ => by omega⟩)
      rw [Nat.zero_testBit] at q; cases q
    · exact absurd hi.2 (p19.2.no h22)
  · skip
    refine V_aload_n (pc := 0) hG (dk dd_X10_can 0 rfl) rfl ?_
    refine V_iconst (pc := 1) hG (dk dd_X10_can 1 rfl) (v := 0) (by decide) ?_
    refine V_putI (pc := 2) hG (dk dd_X10_can 2 rfl) fl_X10_62 sh_67 rfl rfl ?_
    refine V_aload_n (pc := 5) hG (dk dd_X10_can 3 rfl) rfl ?_
    refine V_iload_n (pc := 6) hG (dk dd_X10_can 4 rfl) rfl ?_
    refine V_callVip (pc := 7) hG (dk dd_X10_can 5 rfl) ml_X10_207 mo_X10_isCase sh_67 rfl (m_isCase (n := α 0 7) (by omega) e4) (by decide) (by decide) rfl rfl rfl (fun x7 m7 p7 => ?_)
    refine V_if_eq (pc := 10) hG (dk dd_X10_can 6 rfl) (tgt := 25) (by decide) (fun h10 => ?_) (fun h10 => ?_)
    refine V_ldc (pc := 25) hG (dk dd_X10_can 13 rfl) kk_X10_82 ?_
    refine V_iretP (pc := 27) hG (dk dd_X10_can 14 rfl) hR (Pi.mk ?_)
    rotate_left
    refine V_iload_n (pc := 13) hG (dk dd_X10_can 7 rfl) rfl ?_
    refine V_i2l (pc := 14) hG (dk dd_X10_can 8 rfl) ?_
    refine V_lconst (pc := 15) hG (dk dd_X10_can 9 rfl) (v := 0) (by decide) ?_
    refine V_ldc2_w (pc := 16) hG (dk dd_X10_can 10 rfl) kk_X10_234 ?_
    refine V_callSip (pc := 19) hG (dk dd_X10_can 11 rfl) ml_X10_72 mo_X10_in (m_inI (v := y) (lo := 0) (hi := 8) rfl rfl (by decide)) (by decide) (by decide) rfl rfl rfl (fun x19 m19 p19 => ?_)
    refine V_if_ne (pc := 22) hG (dk dd_X10_can 12 rfl) (tgt := 28) (by decide) (fun h22 => ?_) (fun h22 => ?_)
    rotate_left
    refine V_ldc (pc := 25) hG (dk dd_X10_can 13 rfl) kk_X10_82 ?_
    refine V_iretP (pc := 27) hG (dk dd_X10_can 14 rfl) hR (Pi.mk ?_)
    rotate_left
    -- leaves: return@27; stop 28; return@27
    · exact ⟨Or.inl ⟨hi, rfl⟩, by rw [p7.1]; exact FrM.th μ⟩
    · exact absurd ⟨p7.2.yes h10, p19.2.yes h22⟩ hi
    · exact ⟨Or.inl ⟨hi, rfl⟩, by rw [p19.1, p7.1]; exact FrM.th μ⟩
