/-! ===== the model: the first shortest row ===== -/
theorem FarK.at {α : Al} {T : Nat → Prop} {K d i : Nat} {v : Int32} (h : FarK α T K v d) (hK : K ≤ 100) (hi : i < K) : v = nI i ↔ DstL α T d i := by
  rcases h with ⟨j, a1, a2, a3⟩ | ⟨a1, a2⟩
  · rw [a2, nI_eq (by omega) (by omega)]
    exact ⟨fun z => z ▸ a3, fun z => a3.uniq z⟩
  · rw [a1]
    exact ⟨fun z => absurd z.symm (none_ne (by omega)), fun z => by
      obtain ⟨⟨w, b1, b2, b3⟩, _⟩ := z
      exact absurd b3 (a2 w b1 (by omega))⟩
theorem getD_app {p v : List Nat} {h : Nat} : (p ++ h :: v).getD p.length 0 = h := by simp
set_option maxHeartbeats 2000000 in
theorem m_wayOf {μ : Mem} {α : Al} (hA : Abs (kap (μ 71)) α) (hv : Val α) {T : Nat → Prop} (hF : ∀ d, d < 2 ^ α 0 0 → FarK α T 13 (μ 78 d) d) {k : Int32} (hk : -1 ≤ k) :
    CtP yX10_wayOf cX10_wayOf 7 (some .int) 2 [vR 67, vI k] μ (Pi (fun r μ' => μ' = μ ∧ WR α (α 0 3) 12 T k r)) := by
  refine CtP.go RX10 rfl pn_X10 (Nat.le_of_ble_eq_true rfl) (fun C hG hR => ?_)
  have ht := hv.t
  have hH := hv.H
  have hp := pow8 ht
  have hD8 := hv.lt hv.D
  have r3 : vp_in (3 : Int32) 46 := rr (n := 3) (by decide)
  have r6 : vp_in (6 : Int32) 46 := rr (n := 6) (by decide)
  have e3 : μ 71 (Int32.toNatClampNeg 3) = nI (α 0 6) := e_sc hA (i := 6) (by decide)
  have e6 : μ 71 (Int32.toNatClampNeg 6) = nI (α 0 3) := e_sc hA (i := 3) (by decide)
  have rD : vp_in (μ 71 (Int32.toNatClampNeg 6)) 256 := by rw [e6]; exact vp_in_nI (by omega) (by decide)
  have cD : (μ 71 (Int32.toNatClampNeg 6)).toNatClampNeg = α 0 3 := nI_cl e6 (by omega)
  rcases hF (α 0 3) hv.D with ⟨N, N13, eN, dN⟩ | ⟨eN, dN⟩
  · obtain ⟨w0, hw0⟩ := BestW.ex N _ dN
    have hbest : Best α (α 0 3) 12 T w0 := hw0.best dN (by omega)
    have len : w0.length = N := hw0.2.1
    by_cases k1 : k = -1
    · skip
      refine V_aload_n (pc := 0) hG (dk dd_X10_wayOf 0 rfl) rfl ?_
      refine V_getR (pc := 1) hG (dk dd_X10_wayOf 1 rfl) fl_X10_19 sh_67 rfl ?_
      refine V_bipush (pc := 4) hG (dk dd_X10_wayOf 2 rfl) (v := 6) (by decide) ?_
      refine V_iald (pc := 6) hG (dk dd_X10_wayOf 3 rfl) sh_71 r6 ?_
      refine V_istore_n (pc := 7) hG (dk dd_X10_wayOf 4 rfl) (by decide) (lv' := [(0, _), (1, _), (2, _)]) rfl ?_
      refine V_aload_n (pc := 8) hG (dk dd_X10_wayOf 5 rfl) rfl ?_
      refine V_getR (pc := 9) hG (dk dd_X10_wayOf 6 rfl) fl_X10_41 sh_67 rfl ?_
      refine V_iload_n (pc := 12) hG (dk dd_X10_wayOf 7 rfl) rfl ?_
      refine V_iald (pc := 13) hG (dk dd_X10_wayOf 8 rfl) sh_78 rD ?_
      refine V_istore_n (pc := 14) hG (dk dd_X10_wayOf 9 rfl) (by decide) (lv' := [(0, _), (1, _), (2, _), (3, _)]) rfl ?_
      refine V_iload_n (pc := 15) hG (dk dd_X10_wayOf 10 rfl) rfl ?_
      refine V_ldc (pc := 16) hG (dk dd_X10_wayOf 11 rfl) kk_X10_105 ?_
      refine V_icmp_eq (pc := 18) hG (dk dd_X10_wayOf 12 rfl) (tgt := 26) (by decide) (fun h18 => ?_) (fun h18 => ?_)
      refine V_iload_n (pc := 26) hG (dk dd_X10_wayOf 16 rfl) rfl ?_
      refine V_iretP (pc := 27) hG (dk dd_X10_wayOf 17 rfl) hR (Pi.mk ?_)
      rotate_left
      refine V_iload_n (pc := 21) hG (dk dd_X10_wayOf 13 rfl) rfl ?_
      refine V_iconst (pc := 22) hG (dk dd_X10_wayOf 14 rfl) (v := -1) (by decide) ?_
      refine V_icmp_ne (pc := 23) hG (dk dd_X10_wayOf 15 rfl) (tgt := 28) (by decide) (fun h23 => ?_) (fun h23 => ?_)
      rotate_left
      refine V_iload_n (pc := 26) hG (dk dd_X10_wayOf 16 rfl) rfl ?_
      refine V_iretP (pc := 27) hG (dk dd_X10_wayOf 17 rfl) hR (Pi.mk ?_)
      rotate_left
      -- leaves: return@27; stop 28; return@27
      · exact ⟨rfl, Or.inl ⟨w0, hbest, Or.inl ⟨k1, by rw [cD, eN, len]⟩⟩⟩
      · exact absurd k1 h23
      · exact ⟨rfl, Or.inl ⟨w0, hbest, Or.inl ⟨k1, by rw [cD, eN, len]⟩⟩⟩
    · obtain ⟨K, hK, hkK⟩ := nI_of (x := k) (fun z => k1 (by clear hG hR; grind))
      have loop : ∀ m j d hum (p v : List Nat), j + m = N → j ≤ K + 1 → w0 = p ++ v → p.length = j → d = endN α (α 0 3) p → d < 2 ^ α 0 0 → BestW α T d m v → DstL α T d m → (j = 0 ∨ hum = nI (w0.getD (j - 1) 0)) → V C 35 [(0, vR 67), (1, vI k), (2, vI (nI d)), (3, vI (nI N)), (4, vI hum), (5, vI (nI j))] [] μ := by
        intro m
        have fin : ∀ j d hum, j ≤ N → j ≤ K + 1 → (N ≤ j ∨ K < j) → (j = 0 ∨ hum = nI (w0.getD (j - 1) 0)) → V C 124 [(0, vR 67), (1, vI k), (2, vI d), (3, vI (nI N)), (4, vI hum), (5, vI (nI j))] [] μ := by
          intro j d hum q1 q2 q3 q4
          refine V_iload_n (pc := 124) hG (dk dd_X10_wayOf 68 rfl) rfl ?_
          refine V_iload_n (pc := 125) hG (dk dd_X10_wayOf 69 rfl) rfl ?_
          refine V_icmp_ge (pc := 126) hG (dk dd_X10_wayOf 70 rfl) (tgt := 134) (by decide) (fun h126 => ?_) (fun h126 => ?_)
          refine V_ldc (pc := 134) hG (dk dd_X10_wayOf 73 rfl) kk_X10_105 ?_
          refine V_iretP (pc := 136) hG (dk dd_X10_wayOf 74 rfl) hR (Pi.mk ?_)
          rotate_left
          refine V_iload (pc := 129) hG (dk dd_X10_wayOf 71 rfl) rfl ?_
          refine V_goto (pc := 131) hG (dk dd_X10_wayOf 72 rfl) (tgt := 136) (by decide) ?_
          refine V_iretP (pc := 136) hG (dk dd_X10_wayOf 74 rfl) hR (Pi.mk ?_)
          rotate_left
          -- leaves: return@136; return@136
          · exact ⟨rfl, Or.inl ⟨w0, hbest, Or.inr (Or.inr ⟨k1, by rw [len]; exact h126, rfl⟩)⟩⟩
          · rw [hkK] at h126
            have KN := nle_i h126 (by omega) (by omega)
            have ej : j = K + 1 := by omega
            refine ⟨rfl, Or.inl ⟨w0, hbest, Or.inr (Or.inl ⟨K, hkK, by omega, ?_⟩)⟩⟩
            rcases q4 with z | z
            · omega
            · rw [z, ej]; rfl
        induction m with
        | zero =>
          intro j d hum p v hj jK e1 e2 e3' e4 b1 b2 hh
          refine V_iload (pc := 35) hG (dk dd_X10_wayOf 22 rfl) rfl ?_
          refine V_iload_n (pc := 37) hG (dk dd_X10_wayOf 23 rfl) rfl ?_
          refine V_icmp_ge (pc := 38) hG (dk dd_X10_wayOf 24 rfl) (tgt := 124) (by decide) (fun h38 => ?_) (fun h38 => ?_)
          rotate_left
          rotate_left
          -- leaves: stop 124; stop 41
          · exact fin j _ hum (by omega) jK (Or.inl (by omega)) hh
          · exfalso; have := nle_i h38 (by omega) (by omega); omega
        | succ m ih =>
          intro j d hum p v hj jK e1 e2 e3' e4 b1 b2 hh
          have d256 := hv.lt e4
          have rd : vp_in (nI d) 256 := vp_in_nI (by omega) (by decide)
          have cd : (nI d).toNatClampNeg = d := nI_clamp (by omega)
          have fd : μ 78 d = nI (m + 1) := ((hF d e4).at (by decide) (by omega)).mpr b2
          -- the least hum that leads on
          have inn : j ≤ K → ∀ h hum, h ≤ α 0 6 → ((hum = -1000000 ∧ ∀ g, h ≤ g → g < α 0 6 → ¬ DstL α T (humN α g d) m) ∨ (∃ g, hum = nI g ∧ h ≤ g ∧ g < α 0 6 ∧ DstL α T (humN α g d) m ∧ ∀ q, h ≤ q → q < g → ¬ DstL α T (humN α q d) m)) → ∀ y, y = nI h - 1 → V C 61 [(0, vR 67), (1, vI k), (2, vI (nI d)), (3, vI (nI N)), (4, vI hum), (5, vI (nI j)), (6, vI y)] [] μ := by
            intro jK2 h
            induction h with
            | zero =>
              intro hum hl hq y hy
              subst hy
              refine V_iload (pc := 61) hG (dk dd_X10_wayOf 37 rfl) rfl ?_
              refine V_if_lt (pc := 63) hG (dk dd_X10_wayOf 38 rfl) (tgt := 107) (by decide) (fun h63 => ?_) (fun h63 => ?_)
              refine V_keep [0, 1, 2, 3, 4, 5] (lv' := [(0, _), (1, _), (2, _), (3, _), (4, _), (5, _)]) rfl ?_
              rotate_left
              rotate_left
              -- leaves: stop 107; stop 66
              · rcases hq with ⟨_, q2⟩ | ⟨g, q1, _, q3, q4, q5⟩
                · exfalso
                  obtain ⟨⟨w, a1, a2, a3⟩, a4⟩ := b2
                  match w, a1, a2, a3 with
                  | [], _, a2, _ => simp at a2
                  | g :: u, a1, a2, a3 => exact q2 g (Nat.zero_le g) (Hs.cons.mp a1).1 (DstL.back a4 a1 (by simpa using a2) a3)
                · have l2 := humN_lt hv q3 e4
                  obtain ⟨v', hv'⟩ := BestW.ex m _ q4
                  have ev := b1.uniq (BestW.cons b2 q3 (fun q hq => q5 q (Nat.zero_le q) hq) hv')
                  have hI := ih (j + 1) (humN α g d) hum (p ++ [g]) v' (by omega) (by omega) (by rw [e1, ev]; simp) (by simp [e2]) (by rw [endN_sn, ← e3']) l2 hv' q4 (Or.inr (by rw [q1, e1, ev, Nat.add_sub_cancel, ← e2, getD_app]))
                  rw [nI_succ] at hI
                  refine V_aload_n (pc := 107) hG (dk dd_X10_wayOf 60 rfl) rfl ?_
                  refine V_getR (pc := 108) hG (dk dd_X10_wayOf 61 rfl) fl_X10_19 sh_67 rfl ?_
                  refine V_iload (pc := 111) hG (dk dd_X10_wayOf 62 rfl) rfl ?_
                  refine V_iload_n (pc := 113) hG (dk dd_X10_wayOf 63 rfl) rfl ?_
                  refine V_callSip (pc := 114) hG (dk dd_X10_wayOf 64 rfl) ml_X10_191 mo_X10_hummed (m_hummed (μ := μ) sh_71 (α := α) hA hv (h := g) q1 q3 (D := d) rfl e4) (by decide) (by decide) rfl rfl rfl (fun x114 m114 p114 => ?_)
                  refine V_istore_n (pc := 117) hG (dk dd_X10_wayOf 65 rfl) (by decide) (lv' := [(0, _), (1, _), (2, _), (3, _), (4, _), (5, _)]) rfl ?_
                  refine V_iinc (pc := 118) hG (dk dd_X10_wayOf 66 rfl) rfl (v := _ + 1) rfl (by decide) (lv' := [(0, _), (1, _), (2, _), (3, _), (4, _), (5, _)]) rfl ?_
                  refine V_goto (pc := 121) hG (dk dd_X10_wayOf 67 rfl) (tgt := 35) (by decide) ?_
                  rotate_left
                  -- leaves: stop 35
                  · obtain ⟨z1, z2⟩ := p114
                    rw [z1, z2]; exact hI
              · exfalso; exact h63 (by decide)
            | succ h ip =>
              intro hum hl hq y hy
              subst hy
              rw [nI_pred]
              have l2 := humN_lt hv (h := h) (by omega) e4
              have lt := hv.lt l2
              have re : ∀ y, y = nI (humN α h d) → vp_in y 256 := fun y e => by rw [e]; exact vp_in_nI lt (by decide)
              have ce : (nI (humN α h d)).toNatClampNeg = humN α h d := nI_clamp (by omega)
              have at' := (hF _ l2).at (i := m) (by decide) (by omega)
              refine V_iload (pc := 61) hG (dk dd_X10_wayOf 37 rfl) rfl ?_
              refine V_if_lt (pc := 63) hG (dk dd_X10_wayOf 38 rfl) (tgt := 107) (by decide) (fun h63 => ?_) (fun h63 => ?_)
              rotate_left
              refine V_aload_n (pc := 66) hG (dk dd_X10_wayOf 39 rfl) rfl ?_
              refine V_getR (pc := 67) hG (dk dd_X10_wayOf 40 rfl) fl_X10_41 sh_67 rfl ?_
              refine V_aload_n (pc := 70) hG (dk dd_X10_wayOf 41 rfl) rfl ?_
              refine V_getR (pc := 71) hG (dk dd_X10_wayOf 42 rfl) fl_X10_19 sh_67 rfl ?_
              refine V_iload (pc := 74) hG (dk dd_X10_wayOf 43 rfl) rfl ?_
              refine V_iload_n (pc := 76) hG (dk dd_X10_wayOf 44 rfl) rfl ?_
              refine V_callSip (pc := 77) hG (dk dd_X10_wayOf 45 rfl) ml_X10_191 mo_X10_hummed (m_hummed (μ := μ) sh_71 (α := α) hA hv (h := h) rfl (by omega) (D := d) rfl e4) (by decide) (by decide) rfl rfl rfl (fun x77 m77 p77 => ?_)
              refine V_iald (pc := 80) hG (dk dd_X10_wayOf 46 rfl) sh_78 (re _ p77.2) ?_
              refine V_aload_n (pc := 81) hG (dk dd_X10_wayOf 47 rfl) rfl ?_
              refine V_getR (pc := 82) hG (dk dd_X10_wayOf 48 rfl) fl_X10_41 sh_67 rfl ?_
              refine V_iload_n (pc := 85) hG (dk dd_X10_wayOf 49 rfl) rfl ?_
              refine V_iald (pc := 86) hG (dk dd_X10_wayOf 50 rfl) sh_78 rd ?_
              refine V_iconst (pc := 87) hG (dk dd_X10_wayOf 51 rfl) (v := 1) (by decide) ?_
              refine V_isub (pc := 88) hG (dk dd_X10_wayOf 52 rfl) ?_
              refine V_icmp_ne (pc := 89) hG (dk dd_X10_wayOf 53 rfl) (tgt := 97) (by decide) (fun h89 => ?_) (fun h89 => ?_)
              refine V_iload (pc := 97) hG (dk dd_X10_wayOf 56 rfl) rfl ?_
              refine V_istore (pc := 99) hG (dk dd_X10_wayOf 57 rfl) (by decide) (lv' := [(0, _), (1, _), (2, _), (3, _), (4, _), (5, _), (6, _)]) rfl ?_
              refine V_iinc (pc := 101) hG (dk dd_X10_wayOf 58 rfl) rfl (v := _ + (-1)) rfl (by decide) (lv' := [(0, _), (1, _), (2, _), (3, _), (4, _), (5, _), (6, _)]) rfl ?_
              refine V_goto (pc := 104) hG (dk dd_X10_wayOf 59 rfl) (tgt := 61) (by decide) ?_
              rotate_left
              refine V_iload (pc := 92) hG (dk dd_X10_wayOf 54 rfl) rfl ?_
              refine V_goto (pc := 94) hG (dk dd_X10_wayOf 55 rfl) (tgt := 99) (by decide) ?_
              refine V_istore (pc := 99) hG (dk dd_X10_wayOf 57 rfl) (by decide) (lv' := [(0, _), (1, _), (2, _), (3, _), (4, _), (5, _), (6, _)]) rfl ?_
              refine V_iinc (pc := 101) hG (dk dd_X10_wayOf 58 rfl) rfl (v := _ + (-1)) rfl (by decide) (lv' := [(0, _), (1, _), (2, _), (3, _), (4, _), (5, _), (6, _)]) rfl ?_
              refine V_goto (pc := 104) hG (dk dd_X10_wayOf 59 rfl) (tgt := 61) (by decide) ?_
              rotate_left
              -- leaves: stop 107; stop 61; stop 61
              · exact absurd h63 (nI_pos (by omega))
              · obtain ⟨z1, z2⟩ := p77
                rw [z1, z2, ce, cd, fd, nI_pred] at h89
                rw [z1]
                have nd : ¬ DstL α T (humN α h d) m := fun z => h89 (at'.mpr z)
                refine ip hum (by omega) ?_ _ (m1e _)
                rcases hq with ⟨q1, q2⟩ | ⟨g, q1, q2, q3, q4, q5⟩
                · exact Or.inl ⟨q1, fun g a b => if z : g = h then z ▸ nd else q2 g (by omega) b⟩
                · exact Or.inr ⟨g, q1, by omega, q3, q4, fun q a b => if z : q = h then z ▸ nd else q5 q (by omega) b⟩
              · obtain ⟨z1, z2⟩ := p77
                rw [z1, z2, ce, cd, fd, nI_pred] at h89
                rw [z1]
                exact ip (nI h) (by omega) (Or.inr ⟨h, rfl, Nat.le_refl h, by omega, at'.mp h89, fun q a b => by omega⟩) _ (m1e _)
          refine V_iload (pc := 35) hG (dk dd_X10_wayOf 22 rfl) rfl ?_
          refine V_iload_n (pc := 37) hG (dk dd_X10_wayOf 23 rfl) rfl ?_
          refine V_icmp_ge (pc := 38) hG (dk dd_X10_wayOf 24 rfl) (tgt := 124) (by decide) (fun h38 => ?_) (fun h38 => ?_)
          rotate_left
          refine V_iload (pc := 41) hG (dk dd_X10_wayOf 25 rfl) rfl ?_
          refine V_iload_n (pc := 43) hG (dk dd_X10_wayOf 26 rfl) rfl ?_
          refine V_icmp_gt (pc := 44) hG (dk dd_X10_wayOf 27 rfl) (tgt := 124) (by decide) (fun h44 => ?_) (fun h44 => ?_)
          rotate_left
          refine V_ldc (pc := 47) hG (dk dd_X10_wayOf 28 rfl) kk_X10_105 ?_
          refine V_istore (pc := 49) hG (dk dd_X10_wayOf 29 rfl) (by decide) (lv' := [(0, _), (1, _), (2, _), (3, _), (4, _), (5, _)]) rfl ?_
          refine V_aload_n (pc := 51) hG (dk dd_X10_wayOf 30 rfl) rfl ?_
          refine V_getR (pc := 52) hG (dk dd_X10_wayOf 31 rfl) fl_X10_19 sh_67 rfl ?_
          refine V_iconst (pc := 55) hG (dk dd_X10_wayOf 32 rfl) (v := 3) (by decide) ?_
          refine V_iald (pc := 56) hG (dk dd_X10_wayOf 33 rfl) sh_71 r3 ?_
          refine V_iconst (pc := 57) hG (dk dd_X10_wayOf 34 rfl) (v := 1) (by decide) ?_
          refine V_isub (pc := 58) hG (dk dd_X10_wayOf 35 rfl) ?_
          refine V_istore (pc := 59) hG (dk dd_X10_wayOf 36 rfl) (by decide) (lv' := [(0, _), (1, _), (2, _), (3, _), (4, _), (5, _), (6, _)]) rfl ?_
          rotate_left
          -- leaves: stop 124; stop 124; stop 61
          · exfalso; have := le_i h38 (by omega) (by omega); omega
          · rw [hkK] at h44
            have := (nI_ltI hK (by omega)).mp h44
            exact fin j _ hum (by omega) jK (Or.inr this) hh
          · rw [hkK] at h44
            have jK2 := le_i (Int32.not_lt.mp h44) (by omega) (by omega)
            exact inn jK2 (α 0 6) (-1000000) (Nat.le_refl _) (Or.inl ⟨rfl, fun g a b => by omega⟩) _ (by rw [e3])
      refine V_aload_n (pc := 0) hG (dk dd_X10_wayOf 0 rfl) rfl ?_
      refine V_getR (pc := 1) hG (dk dd_X10_wayOf 1 rfl) fl_X10_19 sh_67 rfl ?_
      refine V_bipush (pc := 4) hG (dk dd_X10_wayOf 2 rfl) (v := 6) (by decide) ?_
      refine V_iald (pc := 6) hG (dk dd_X10_wayOf 3 rfl) sh_71 r6 ?_
      refine V_istore_n (pc := 7) hG (dk dd_X10_wayOf 4 rfl) (by decide) (lv' := [(0, _), (1, _), (2, _)]) rfl ?_
      refine V_aload_n (pc := 8) hG (dk dd_X10_wayOf 5 rfl) rfl ?_
      refine V_getR (pc := 9) hG (dk dd_X10_wayOf 6 rfl) fl_X10_41 sh_67 rfl ?_
      refine V_iload_n (pc := 12) hG (dk dd_X10_wayOf 7 rfl) rfl ?_
      refine V_iald (pc := 13) hG (dk dd_X10_wayOf 8 rfl) sh_78 rD ?_
      refine V_istore_n (pc := 14) hG (dk dd_X10_wayOf 9 rfl) (by decide) (lv' := [(0, _), (1, _), (2, _), (3, _)]) rfl ?_
      refine V_iload_n (pc := 15) hG (dk dd_X10_wayOf 10 rfl) rfl ?_
      refine V_ldc (pc := 16) hG (dk dd_X10_wayOf 11 rfl) kk_X10_105 ?_
      refine V_icmp_eq (pc := 18) hG (dk dd_X10_wayOf 12 rfl) (tgt := 26) (by decide) (fun h18 => ?_) (fun h18 => ?_)
      rotate_left
      refine V_iload_n (pc := 21) hG (dk dd_X10_wayOf 13 rfl) rfl ?_
      refine V_iconst (pc := 22) hG (dk dd_X10_wayOf 14 rfl) (v := -1) (by decide) ?_
      refine V_icmp_ne (pc := 23) hG (dk dd_X10_wayOf 15 rfl) (tgt := 28) (by decide) (fun h23 => ?_) (fun h23 => ?_)
      refine V_ldc (pc := 28) hG (dk dd_X10_wayOf 18 rfl) kk_X10_105 ?_
      refine V_istore (pc := 30) hG (dk dd_X10_wayOf 19 rfl) (by decide) (lv' := [(0, _), (1, _), (2, _), (3, _), (4, _)]) rfl ?_
      refine V_iconst (pc := 32) hG (dk dd_X10_wayOf 20 rfl) (v := 0) (by decide) ?_
      refine V_istore (pc := 33) hG (dk dd_X10_wayOf 21 rfl) (by decide) (lv' := [(0, _), (1, _), (2, _), (3, _), (4, _), (5, _)]) rfl ?_
      rotate_left
      rotate_left
      -- leaves: stop 26; stop 35; stop 26
      · exfalso; rw [cD, eN] at h18; exact none_ne (by omega) h18
      · rw [cD, eN, e6]
        exact loop N 0 (α 0 3) _ [] w0 (by omega) (by omega) rfl rfl rfl hv.D hw0 dN (Or.inl rfl)
      · exact absurd h23 k1
  · have fin : WR α (α 0 3) 12 T k (-1000000) := Or.inr ⟨fun w a b => dN w a (by omega), rfl⟩
    refine V_aload_n (pc := 0) hG (dk dd_X10_wayOf 0 rfl) rfl ?_
    refine V_getR (pc := 1) hG (dk dd_X10_wayOf 1 rfl) fl_X10_19 sh_67 rfl ?_
    refine V_bipush (pc := 4) hG (dk dd_X10_wayOf 2 rfl) (v := 6) (by decide) ?_
    refine V_iald (pc := 6) hG (dk dd_X10_wayOf 3 rfl) sh_71 r6 ?_
    refine V_istore_n (pc := 7) hG (dk dd_X10_wayOf 4 rfl) (by decide) (lv' := [(0, _), (1, _), (2, _)]) rfl ?_
    refine V_aload_n (pc := 8) hG (dk dd_X10_wayOf 5 rfl) rfl ?_
    refine V_getR (pc := 9) hG (dk dd_X10_wayOf 6 rfl) fl_X10_41 sh_67 rfl ?_
    refine V_iload_n (pc := 12) hG (dk dd_X10_wayOf 7 rfl) rfl ?_
    refine V_iald (pc := 13) hG (dk dd_X10_wayOf 8 rfl) sh_78 rD ?_
    refine V_istore_n (pc := 14) hG (dk dd_X10_wayOf 9 rfl) (by decide) (lv' := [(0, _), (1, _), (2, _), (3, _)]) rfl ?_
    refine V_iload_n (pc := 15) hG (dk dd_X10_wayOf 10 rfl) rfl ?_
    refine V_ldc (pc := 16) hG (dk dd_X10_wayOf 11 rfl) kk_X10_105 ?_
    refine V_icmp_eq (pc := 18) hG (dk dd_X10_wayOf 12 rfl) (tgt := 26) (by decide) (fun h18 => ?_) (fun h18 => ?_)
    refine V_iload_n (pc := 26) hG (dk dd_X10_wayOf 16 rfl) rfl ?_
    refine V_iretP (pc := 27) hG (dk dd_X10_wayOf 17 rfl) hR (Pi.mk ?_)
    rotate_left
    rotate_left
    -- leaves: return@27; stop 21
    · exact ⟨rfl, by rw [cD, eN]; exact fin⟩
    · exact absurd (by rw [cD]; exact eN) h18
def LstR (α : Al) (x y k r : Int32) : Prop := (¬ 0 < α 0 0 ∧ r = -1000002) ∨ (0 < α 0 0 ∧ ¬ (inN x (2 ^ α 0 0) ∧ inN y (2 ^ α 0 0) ∧ -1 ≤ k) ∧ r = -1000001) ∨ (0 < α 0 0 ∧ (inN x (2 ^ α 0 0) ∧ inN y (2 ^ α 0 0) ∧ -1 ≤ k) ∧ WR α (α 0 3) 12 (TgT x.toNatClampNeg y.toNatClampNeg) k r)
def SavR (α : Al) (x k r : Int32) : Prop := (¬ (inN x (α 0 7) ∧ -1 ≤ k) ∧ r = -1000001) ∨ ((inN x (α 0 7) ∧ -1 ≤ k) ∧ WR α (α 0 3) 12 (fun E => verN α x.toNatClampNeg E = 1) k r)
theorem far1 {α : Al} {T : Nat → Prop} {d : Nat} {v : Int32} (h : (T d ∧ v = 0) ∨ (¬ T d ∧ v = -1000000)) : FarK α T 1 v d := by
  rcases h with ⟨a, b⟩ | ⟨a, b⟩
  · exact Or.inl ⟨0, by decide, b, ⟨⟨[], fun _ h => absurd h List.not_mem_nil, rfl, a⟩, fun w _ h => by omega⟩⟩
  · refine Or.inr ⟨b, fun w _ h z => a ?_⟩
    have e : w = [] := List.length_eq_zero_iff.mp (by omega)
    subst e; exact z
set_option maxHeartbeats 2000000 in
theorem m_least {μ : Mem} {α : Al} (hA : Abs (kap (μ 71)) α) (hz : Vz α) {x y k : Int32} : CtP yX10_least cX10_least 5 (some .int) 3 [vR 67, vI x, vI y, vI k] μ (Pi (fun r μ' => LstR α x y k r ∧ FrM μ none μ')) := by
  refine CtP.go RX10 rfl pn_X10 (Nat.le_of_ble_eq_true rfl) (fun C hG hR => ?_)
  have e0 : μ 71 0 = nI (α 0 0) := e_sc hA (i := 0) (by decide)
  by_cases hv : Val α
  · have h0 : 0 < α 0 0 := by have := hv.t3; omega
    have ht := hv.t
    have hp := pow8 ht
    by_cases hi : inN x (2 ^ α 0 0) ∧ inN y (2 ^ α 0 0) ∧ -1 ≤ k
    · obtain ⟨hx, hxl⟩ := hi.1.n (by omega)
      obtain ⟨hy, hyl⟩ := hi.2.1.n (by omega)
      have loop : ∀ kd d M, d + kd = 256 → FrM μ none M → (∀ e, e < d → e < 2 ^ α 0 0 → FarK α (TgT x.toNatClampNeg y.toNatClampNeg) 1 (M 78 e) e) → V C 42 [(0, vR 67), (1, vI x), (2, vI y), (3, vI k), (4, vI (nI d))] [] M := by
        intro kd
        induction kd with
        | zero =>
          intro d M hd hM hf
          have hA2 : Abs (kap (M 71)) α := by rw [hM.1 71 (by decide) (by decide) (by decide)]; exact hA
          refine V_iload (pc := 42) hG (dk dd_X10_least 23 rfl) rfl ?_
          refine V_sipush (pc := 44) hG (dk dd_X10_least 24 rfl) (v := 256) (by decide) ?_
          refine V_icmp_ge (pc := 47) hG (dk dd_X10_least 25 rfl) (tgt := 93) (by decide) (fun h47 => ?_) (fun h47 => ?_)
          refine V_aload_n (pc := 93) hG (dk dd_X10_least 48 rfl) rfl ?_
          refine V_callVvp (pc := 94) hG (dk dd_X10_least 49 rfl) ml_X10_242 mo_X10_measure sh_67 rfl (m_measure hA2 hv (T := TgT x.toNatClampNeg y.toNatClampNeg) (fun e he => hf e (by omega) he)) (by decide) (by decide) rfl rfl rfl (fun m94 p94 => ?_)
          refine V_aload_n (pc := 97) hG (dk dd_X10_least 50 rfl) rfl ?_
          refine V_iload_n (pc := 98) hG (dk dd_X10_least 51 rfl) rfl ?_
          refine V_callVip (pc := 99) hG (dk dd_X10_least 52 rfl) ml_X10_245 mo_X10_wayOf sh_67 rfl (m_wayOf (by rw [p94.1 71 (by decide)]; exact hA2) hv p94.2 hi.2.2) (by decide) (by decide) rfl rfl rfl (fun x99 m99 p99 => ?_)
          refine V_iretP (pc := 102) hG (dk dd_X10_least 53 rfl) hR (Pi.mk ?_)
          rotate_left
          rotate_left
          -- leaves: return@102; stop 50
          · refine ⟨Or.inr (Or.inr ⟨h0, hi, p99.2⟩), ?_⟩
            rw [p99.1]
            exact hM.tr (fun j a b c => p94.1 j (by omega)) (fun q a b c => by rw [p94.1 67 (by decide)])
          · exfalso; have := nle_i (a := 256) h47 (by omega) (by omega); omega
        | succ kd ih =>
          intro d M hd hM hf
          have m0 : M 71 0 = nI (α 0 0) := by rw [hM.1 71 (by decide) (by decide) (by decide)]; exact e0
          have rd : vp_in (nI d) 256 := vp_in_nI (by omega) (by decide)
          have go : ∀ v, (d < 2 ^ α 0 0 → FarK α (TgT x.toNatClampNeg y.toNatClampNeg) 1 v d) → V C 42 [(0, vR 67), (1, vI x), (2, vI y), (3, vI k), (4, vI (nI (d + 1)))] [] (setc M 78 (upd (M 78) d v)) := fun v hv1 => by
            refine ih (d + 1) _ (by omega) (hM.tr (fun j a b c => setc_n (by omega)) (fun q a b c => by rw [setc_n (by decide)])) (fun e he h2 => ?_)
            rw [setc_s]
            by_cases z : e = d
            · rw [z, upd_s]; exact hv1 (z ▸ h2)
            · rw [upd_n z]; exact hf e (by omega) h2
          refine V_iload (pc := 42) hG (dk dd_X10_least 23 rfl) rfl ?_
          refine V_sipush (pc := 44) hG (dk dd_X10_least 24 rfl) (v := 256) (by decide) ?_
          refine V_icmp_ge (pc := 47) hG (dk dd_X10_least 25 rfl) (tgt := 93) (by decide) (fun h47 => ?_) (fun h47 => ?_)
          rotate_left
          refine V_aload_n (pc := 50) hG (dk dd_X10_least 26 rfl) rfl ?_
          refine V_getR (pc := 51) hG (dk dd_X10_least 27 rfl) fl_X10_41 sh_67 rfl ?_
          refine V_iload (pc := 54) hG (dk dd_X10_least 28 rfl) rfl ?_
          refine V_iload (pc := 56) hG (dk dd_X10_least 29 rfl) rfl ?_
          refine V_aload_n (pc := 58) hG (dk dd_X10_least 30 rfl) rfl ?_
          refine V_callVip (pc := 59) hG (dk dd_X10_least 31 rfl) ml_X10_173 mo_X10_allDreams sh_67 rfl (m_allDreams m0 (by omega)) (by decide) (by decide) rfl rfl rfl (fun x59 m59 p59 => ?_)
          refine V_icmp_ge (pc := 62) hG (dk dd_X10_least 32 rfl) (tgt := 84) (by decide) (fun h62 => ?_) (fun h62 => ?_)
          refine V_ldc (pc := 84) hG (dk dd_X10_least 44 rfl) kk_X10_105 ?_
          refine V_iast (pc := 86) hG (dk dd_X10_least 45 rfl) sh_78 rd ?_
          refine V_iinc (pc := 87) hG (dk dd_X10_least 46 rfl) rfl (v := _ + 1) rfl (by decide) (lv' := [(0, _), (1, _), (2, _), (3, _), (4, _)]) rfl ?_
          refine V_goto (pc := 90) hG (dk dd_X10_least 47 rfl) (tgt := 42) (by decide) ?_
          rotate_left
          refine V_iload (pc := 65) hG (dk dd_X10_least 33 rfl) rfl ?_
          refine V_iload_n (pc := 67) hG (dk dd_X10_least 34 rfl) rfl ?_
          refine V_iand (pc := 68) hG (dk dd_X10_least 35 rfl) ?_
          refine V_iload_n (pc := 69) hG (dk dd_X10_least 36 rfl) rfl ?_
          refine V_icmp_ne (pc := 70) hG (dk dd_X10_least 37 rfl) (tgt := 84) (by decide) (fun h70 => ?_) (fun h70 => ?_)
          refine V_ldc (pc := 84) hG (dk dd_X10_least 44 rfl) kk_X10_105 ?_
          refine V_iast (pc := 86) hG (dk dd_X10_least 45 rfl) sh_78 rd ?_
          refine V_iinc (pc := 87) hG (dk dd_X10_least 46 rfl) rfl (v := _ + 1) rfl (by decide) (lv' := [(0, _), (1, _), (2, _), (3, _), (4, _)]) rfl ?_
          refine V_goto (pc := 90) hG (dk dd_X10_least 47 rfl) (tgt := 42) (by decide) ?_
          rotate_left
          refine V_iload (pc := 73) hG (dk dd_X10_least 38 rfl) rfl ?_
          refine V_iload_n (pc := 75) hG (dk dd_X10_least 39 rfl) rfl ?_
          refine V_iand (pc := 76) hG (dk dd_X10_least 40 rfl) ?_
          refine V_if_ne (pc := 77) hG (dk dd_X10_least 41 rfl) (tgt := 84) (by decide) (fun h77 => ?_) (fun h77 => ?_)
          refine V_ldc (pc := 84) hG (dk dd_X10_least 44 rfl) kk_X10_105 ?_
          refine V_iast (pc := 86) hG (dk dd_X10_least 45 rfl) sh_78 rd ?_
          refine V_iinc (pc := 87) hG (dk dd_X10_least 46 rfl) rfl (v := _ + 1) rfl (by decide) (lv' := [(0, _), (1, _), (2, _), (3, _), (4, _)]) rfl ?_
          refine V_goto (pc := 90) hG (dk dd_X10_least 47 rfl) (tgt := 42) (by decide) ?_
          rotate_left
          refine V_iconst (pc := 80) hG (dk dd_X10_least 42 rfl) (v := 0) (by decide) ?_
          refine V_goto (pc := 81) hG (dk dd_X10_least 43 rfl) (tgt := 86) (by decide) ?_
          refine V_iast (pc := 86) hG (dk dd_X10_least 45 rfl) sh_78 rd ?_
          refine V_iinc (pc := 87) hG (dk dd_X10_least 46 rfl) rfl (v := _ + 1) rfl (by decide) (lv' := [(0, _), (1, _), (2, _), (3, _), (4, _)]) rfl ?_
          refine V_goto (pc := 90) hG (dk dd_X10_least 47 rfl) (tgt := 42) (by decide) ?_
          rotate_left
          -- leaves: stop 93; stop 42; stop 42; stop 42; stop 42
          · exfalso; have := le_i (a := 256) h47 (by omega) (by omega); omega
          · rw [p59.1, ← nI_succ, nI_clamp (by omega)]
            rw [p59.2] at h62
            have := le_i h62 (by omega) (by omega)
            exact go _ (fun z => by omega)
          · rw [p59.1, ← nI_succ, nI_clamp (by omega)]
            refine go _ (fun z => far1 (Or.inr ⟨fun w => h70 ?_, rfl⟩))
            rw [hx, q_andG (by omega) (by omega), w.1]
          · rw [p59.1, ← nI_succ, nI_clamp (by omega)]
            refine go _ (fun z => far1 (Or.inr ⟨fun w => h77 ?_, rfl⟩))
            rw [hy, q_andG (by omega) (by omega), w.2]; rfl
          · rw [p59.1, ← nI_succ, nI_clamp (by omega)]
            refine go _ (fun z => far1 (Or.inl ⟨⟨?_, ?_⟩, rfl⟩))
            · rw [hx, q_andG (by omega) (by omega)] at h70
              have l1 : d &&& x.toNatClampNeg ≤ x.toNatClampNeg := Nat.and_le_right
              exact (nI_eq (by omega) (by omega)).mp h70
            · rw [hy, q_andG (by omega) (by omega)] at h77
              have l1 : d &&& y.toNatClampNeg ≤ y.toNatClampNeg := Nat.and_le_right
              exact (nI_eq (b := 0) (by omega) (by decide)).mp h77
      refine V_aload_n (pc := 0) hG (dk dd_X10_least 0 rfl) rfl ?_
      refine V_iconst (pc := 1) hG (dk dd_X10_least 1 rfl) (v := 0) (by decide) ?_
      refine V_putI (pc := 2) hG (dk dd_X10_least 2 rfl) fl_X10_62 sh_67 rfl rfl ?_
      refine V_aload_n (pc := 5) hG (dk dd_X10_least 3 rfl) rfl ?_
      refine V_callVip (pc := 6) hG (dk dd_X10_least 4 rfl) ml_X10_219 mo_X10_isThere sh_67 rfl (m_isThere) (by decide) (by decide) rfl rfl rfl (fun x6 m6 p6 => ?_)
      refine V_if_ne (pc := 9) hG (dk dd_X10_least 5 rfl) (tgt := 15) (by decide) (fun h9 => ?_) (fun h9 => ?_)
      refine V_aload_n (pc := 15) hG (dk dd_X10_least 8 rfl) rfl ?_
      refine V_iload_n (pc := 16) hG (dk dd_X10_least 9 rfl) rfl ?_
      refine V_callVip (pc := 17) hG (dk dd_X10_least 10 rfl) ml_X10_239 mo_X10_areThings sh_67 rfl (m_areThings (t := α 0 0) (by rw [p6.1]; exact e0) (by omega)) (by decide) (by decide) rfl rfl rfl (fun x17 m17 p17 => ?_)
      refine V_if_eq (pc := 20) hG (dk dd_X10_least 11 rfl) (tgt := 36) (by decide) (fun h20 => ?_) (fun h20 => ?_)
      rotate_left
      refine V_aload_n (pc := 23) hG (dk dd_X10_least 12 rfl) rfl ?_
      refine V_iload_n (pc := 24) hG (dk dd_X10_least 13 rfl) rfl ?_
      refine V_callVip (pc := 25) hG (dk dd_X10_least 14 rfl) ml_X10_239 mo_X10_areThings sh_67 rfl (m_areThings (t := α 0 0) (by rw [p17.1, p6.1]; exact e0) (by omega)) (by decide) (by decide) rfl rfl rfl (fun x25 m25 p25 => ?_)
      refine V_if_eq (pc := 28) hG (dk dd_X10_least 15 rfl) (tgt := 36) (by decide) (fun h28 => ?_) (fun h28 => ?_)
      rotate_left
      refine V_iload_n (pc := 31) hG (dk dd_X10_least 16 rfl) rfl ?_
      refine V_iconst (pc := 32) hG (dk dd_X10_least 17 rfl) (v := -1) (by decide) ?_
      refine V_icmp_ge (pc := 33) hG (dk dd_X10_least 18 rfl) (tgt := 39) (by decide) (fun h33 => ?_) (fun h33 => ?_)
      refine V_iconst (pc := 39) hG (dk dd_X10_least 21 rfl) (v := 0) (by decide) ?_
      refine V_istore (pc := 40) hG (dk dd_X10_least 22 rfl) (by decide) (lv' := [(0, _), (1, _), (2, _), (3, _), (4, _)]) rfl ?_
      rotate_left
      rotate_left
      rotate_left
      -- leaves: stop 36; stop 36; stop 42; stop 36; stop 12
      · exact absurd hi.1 (p17.2.no h20)
      · exact absurd hi.2.1 (p25.2.no h28)
      · rw [p25.1, p17.1, p6.1]
        exact loop 256 0 _ (by omega) (FrM.th μ) (fun e he => by omega)
      · exact absurd hi.2.2 h33
      · exact absurd ((hz.there e0).mpr hv) (p6.2.no h9)
    · skip
      refine V_aload_n (pc := 0) hG (dk dd_X10_least 0 rfl) rfl ?_
      refine V_iconst (pc := 1) hG (dk dd_X10_least 1 rfl) (v := 0) (by decide) ?_
      refine V_putI (pc := 2) hG (dk dd_X10_least 2 rfl) fl_X10_62 sh_67 rfl rfl ?_
      refine V_aload_n (pc := 5) hG (dk dd_X10_least 3 rfl) rfl ?_
      refine V_callVip (pc := 6) hG (dk dd_X10_least 4 rfl) ml_X10_219 mo_X10_isThere sh_67 rfl (m_isThere) (by decide) (by decide) rfl rfl rfl (fun x6 m6 p6 => ?_)
      refine V_if_ne (pc := 9) hG (dk dd_X10_least 5 rfl) (tgt := 15) (by decide) (fun h9 => ?_) (fun h9 => ?_)
      refine V_aload_n (pc := 15) hG (dk dd_X10_least 8 rfl) rfl ?_
      refine V_iload_n (pc := 16) hG (dk dd_X10_least 9 rfl) rfl ?_
      refine V_callVip (pc := 17) hG (dk dd_X10_least 10 rfl) ml_X10_239 mo_X10_areThings sh_67 rfl (m_areThings (t := α 0 0) (by rw [p6.1]; exact e0) (by omega)) (by decide) (by decide) rfl rfl rfl (fun x17 m17 p17 => ?_)
      refine V_if_eq (pc := 20) hG (dk dd_X10_least 11 rfl) (tgt := 36) (by decide) (fun h20 => ?_) (fun h20 => ?_)
      refine V_ldc (pc := 36) hG (dk dd_X10_least 19 rfl) kk_X10_82 ?_
      refine V_iretP (pc := 38) hG (dk dd_X10_least 20 rfl) hR (Pi.mk ?_)
      rotate_left
      refine V_aload_n (pc := 23) hG (dk dd_X10_least 12 rfl) rfl ?_
      refine V_iload_n (pc := 24) hG (dk dd_X10_least 13 rfl) rfl ?_
      refine V_callVip (pc := 25) hG (dk dd_X10_least 14 rfl) ml_X10_239 mo_X10_areThings sh_67 rfl (m_areThings (t := α 0 0) (by rw [p17.1, p6.1]; exact e0) (by omega)) (by decide) (by decide) rfl rfl rfl (fun x25 m25 p25 => ?_)
      refine V_if_eq (pc := 28) hG (dk dd_X10_least 15 rfl) (tgt := 36) (by decide) (fun h28 => ?_) (fun h28 => ?_)
      refine V_ldc (pc := 36) hG (dk dd_X10_least 19 rfl) kk_X10_82 ?_
      refine V_iretP (pc := 38) hG (dk dd_X10_least 20 rfl) hR (Pi.mk ?_)
      rotate_left
      refine V_iload_n (pc := 31) hG (dk dd_X10_least 16 rfl) rfl ?_
      refine V_iconst (pc := 32) hG (dk dd_X10_least 17 rfl) (v := -1) (by decide) ?_
      refine V_icmp_ge (pc := 33) hG (dk dd_X10_least 18 rfl) (tgt := 39) (by decide) (fun h33 => ?_) (fun h33 => ?_)
      rotate_left
      refine V_ldc (pc := 36) hG (dk dd_X10_least 19 rfl) kk_X10_82 ?_
      refine V_iretP (pc := 38) hG (dk dd_X10_least 20 rfl) hR (Pi.mk ?_)
      rotate_left
      rotate_left
      -- leaves: return@38; return@38; stop 39; return@38; stop 12
      · exact ⟨Or.inr (Or.inl ⟨h0, hi, rfl⟩), by rw [p17.1, p6.1]; exact FrM.th μ⟩
      · exact ⟨Or.inr (Or.inl ⟨h0, hi, rfl⟩), by rw [p25.1, p17.1, p6.1]; exact FrM.th μ⟩
      · exact absurd ⟨p17.2.yes h20, p25.2.yes h28, h33⟩ hi
      · exact ⟨Or.inr (Or.inl ⟨h0, hi, rfl⟩), by rw [p25.1, p17.1, p6.1]; exact FrM.th μ⟩
      · exact absurd ((hz.there e0).mpr hv) (p6.2.no h9)
  · skip
    refine V_aload_n (pc := 0) hG (dk dd_X10_least 0 rfl) rfl ?_
    refine V_iconst (pc := 1) hG (dk dd_X10_least 1 rfl) (v := 0) (by decide) ?_
    refine V_putI (pc := 2) hG (dk dd_X10_least 2 rfl) fl_X10_62 sh_67 rfl rfl ?_
    refine V_aload_n (pc := 5) hG (dk dd_X10_least 3 rfl) rfl ?_
    refine V_callVip (pc := 6) hG (dk dd_X10_least 4 rfl) ml_X10_219 mo_X10_isThere sh_67 rfl (m_isThere) (by decide) (by decide) rfl rfl rfl (fun x6 m6 p6 => ?_)
    refine V_if_ne (pc := 9) hG (dk dd_X10_least 5 rfl) (tgt := 15) (by decide) (fun h9 => ?_) (fun h9 => ?_)
    rotate_left
    refine V_ldc (pc := 12) hG (dk dd_X10_least 6 rfl) kk_X10_210 ?_
    refine V_iretP (pc := 14) hG (dk dd_X10_least 7 rfl) hR (Pi.mk ?_)
    rotate_left
    -- leaves: stop 15; return@14
    · exact absurd ((hz.there e0).mp (p6.2.yes h9)) hv
    · exact ⟨Or.inl ⟨fun q => hv (hz.vt q), rfl⟩, by rw [p6.1]; exact FrM.th μ⟩
set_option maxHeartbeats 2000000 in
theorem m_save {μ : Mem} {α : Al} (hA : Abs (kap (μ 71)) α) (hz : Vz α) {x k : Int32} : CtP yX10_save cX10_save 4 (some .int) 3 [vR 67, vI x, vI k] μ (Pi (fun r μ' => SavR α x k r ∧ FrM μ none μ')) := by
  refine CtP.go RX10 rfl pn_X10 (Nat.le_of_ble_eq_true rfl) (fun C hG hR => ?_)
  have hC := hz.C
  have e0 : μ 71 0 = nI (α 0 0) := e_sc hA (i := 0) (by decide)
  have e4 : th0 μ 71 4 = nI (α 0 7) := e_sc hA (i := 7) (by decide)
  by_cases hi : inN x (α 0 7) ∧ -1 ≤ k
  · obtain ⟨hx, hh⟩ := hi.1.n (by omega)
    have hv := hz.vc hh
    have ht := hv.t
    have hp := pow8 ht
    have loop : ∀ kd d M, d + kd = 256 → FrM μ none M → (∀ e, e < d → e < 2 ^ α 0 0 → FarK α (fun E => verN α x.toNatClampNeg E = 1) 1 (M 78 e) e) → V C 23 [(0, vR 67), (1, vI x), (2, vI k), (3, vI (nI d))] [] M := by
      intro kd
      induction kd with
      | zero =>
        intro d M hd hM hf
        have hA2 : Abs (kap (M 71)) α := by rw [hM.1 71 (by decide) (by decide) (by decide)]; exact hA
        refine V_iload_n (pc := 23) hG (dk dd_X10_save 14 rfl) rfl ?_
        refine V_sipush (pc := 24) hG (dk dd_X10_save 15 rfl) (v := 256) (by decide) ?_
        refine V_icmp_ge (pc := 27) hG (dk dd_X10_save 16 rfl) (tgt := 69) (by decide) (fun h27 => ?_) (fun h27 => ?_)
        refine V_aload_n (pc := 69) hG (dk dd_X10_save 37 rfl) rfl ?_
        refine V_callVvp (pc := 70) hG (dk dd_X10_save 38 rfl) ml_X10_242 mo_X10_measure sh_67 rfl (m_measure hA2 hv (T := fun E => verN α x.toNatClampNeg E = 1) (fun e he => hf e (by omega) he)) (by decide) (by decide) rfl rfl rfl (fun m70 p70 => ?_)
        refine V_aload_n (pc := 73) hG (dk dd_X10_save 39 rfl) rfl ?_
        refine V_iload_n (pc := 74) hG (dk dd_X10_save 40 rfl) rfl ?_
        refine V_callVip (pc := 75) hG (dk dd_X10_save 41 rfl) ml_X10_245 mo_X10_wayOf sh_67 rfl (m_wayOf (by rw [p70.1 71 (by decide)]; exact hA2) hv p70.2 hi.2) (by decide) (by decide) rfl rfl rfl (fun x75 m75 p75 => ?_)
        refine V_iretP (pc := 78) hG (dk dd_X10_save 42 rfl) hR (Pi.mk ?_)
        rotate_left
        rotate_left
        -- leaves: return@78; stop 30
        · refine ⟨Or.inr ⟨hi, p75.2⟩, ?_⟩
          rw [p75.1]
          exact hM.tr (fun j a b c => p70.1 j (by omega)) (fun q a b c => by rw [p70.1 67 (by decide)])
        · exfalso; have := nle_i (a := 256) h27 (by omega) (by omega); omega
      | succ kd ih =>
        intro d M hd hM hf
        have m0 : M 71 0 = nI (α 0 0) := by rw [hM.1 71 (by decide) (by decide) (by decide)]; exact e0
        have hA2 : Abs (kap (M 71)) α := by rw [hM.1 71 (by decide) (by decide) (by decide)]; exact hA
        have rd : vp_in (nI d) 256 := vp_in_nI (by omega) (by decide)
        have vl := verN_lt α x.toNatClampNeg d
        have go : ∀ v, (d < 2 ^ α 0 0 → FarK α (fun E => verN α x.toNatClampNeg E = 1) 1 v d) → V C 23 [(0, vR 67), (1, vI x), (2, vI k), (3, vI (nI (d + 1)))] [] (setc M 78 (upd (M 78) d v)) := fun v hv1 => by
          refine ih (d + 1) _ (by omega) (hM.tr (fun j a b c => setc_n (by omega)) (fun q a b c => by rw [setc_n (by decide)])) (fun e he h2 => ?_)
          rw [setc_s]
          by_cases z : e = d
          · rw [z, upd_s]; exact hv1 (z ▸ h2)
          · rw [upd_n z]; exact hf e (by omega) h2
        refine V_iload_n (pc := 23) hG (dk dd_X10_save 14 rfl) rfl ?_
        refine V_sipush (pc := 24) hG (dk dd_X10_save 15 rfl) (v := 256) (by decide) ?_
        refine V_icmp_ge (pc := 27) hG (dk dd_X10_save 16 rfl) (tgt := 69) (by decide) (fun h27 => ?_) (fun h27 => ?_)
        rotate_left
        refine V_aload_n (pc := 30) hG (dk dd_X10_save 17 rfl) rfl ?_
        refine V_getR (pc := 31) hG (dk dd_X10_save 18 rfl) fl_X10_41 sh_67 rfl ?_
        refine V_iload_n (pc := 34) hG (dk dd_X10_save 19 rfl) rfl ?_
        refine V_iload_n (pc := 35) hG (dk dd_X10_save 20 rfl) rfl ?_
        refine V_aload_n (pc := 36) hG (dk dd_X10_save 21 rfl) rfl ?_
        refine V_callVip (pc := 37) hG (dk dd_X10_save 22 rfl) ml_X10_173 mo_X10_allDreams sh_67 rfl (m_allDreams m0 (by omega)) (by decide) (by decide) rfl rfl rfl (fun x37 m37 p37 => ?_)
        refine V_icmp_ge (pc := 40) hG (dk dd_X10_save 23 rfl) (tgt := 60) (by decide) (fun h40 => ?_) (fun h40 => ?_)
        refine V_ldc (pc := 60) hG (dk dd_X10_save 33 rfl) kk_X10_105 ?_
        refine V_iast (pc := 62) hG (dk dd_X10_save 34 rfl) sh_78 rd ?_
        refine V_iinc (pc := 63) hG (dk dd_X10_save 35 rfl) rfl (v := _ + 1) rfl (by decide) (lv' := [(0, _), (1, _), (2, _), (3, _)]) rfl ?_
        refine V_goto (pc := 66) hG (dk dd_X10_save 36 rfl) (tgt := 23) (by decide) ?_
        rotate_left
        rotate_left
        -- leaves: stop 69; stop 23; stop 43
        · exfalso; have := le_i (a := 256) h27 (by omega) (by omega); omega
        · rw [p37.1, ← nI_succ, nI_clamp (by omega)]
          rw [p37.2] at h40
          have := le_i h40 (by omega) (by omega)
          exact go _ (fun z => by omega)
        · rw [p37.2] at h40
          have dl := nle_i h40 (by omega) (by omega)
          rw [p37.1]
          refine V_aload_n (pc := 43) hG (dk dd_X10_save 24 rfl) rfl ?_
          refine V_getR (pc := 44) hG (dk dd_X10_save 25 rfl) fl_X10_19 sh_67 rfl ?_
          refine V_iload_n (pc := 47) hG (dk dd_X10_save 26 rfl) rfl ?_
          refine V_iload_n (pc := 48) hG (dk dd_X10_save 27 rfl) rfl ?_
          refine V_callSip (pc := 49) hG (dk dd_X10_save 28 rfl) ml_X10_194 mo_X10_verdict (m_verdict (μ := M) (α := α) sh_71 hA2 hv hx hh (D := d) rfl dl) (by decide) (by decide) rfl rfl rfl (fun x49 m49 p49 => ?_)
          refine V_iconst (pc := 52) hG (dk dd_X10_save 29 rfl) (v := 1) (by decide) ?_
          refine V_icmp_ne (pc := 53) hG (dk dd_X10_save 30 rfl) (tgt := 60) (by decide) (fun h53 => ?_) (fun h53 => ?_)
          refine V_ldc (pc := 60) hG (dk dd_X10_save 33 rfl) kk_X10_105 ?_
          refine V_iast (pc := 62) hG (dk dd_X10_save 34 rfl) sh_78 rd ?_
          refine V_iinc (pc := 63) hG (dk dd_X10_save 35 rfl) rfl (v := _ + 1) rfl (by decide) (lv' := [(0, _), (1, _), (2, _), (3, _)]) rfl ?_
          refine V_goto (pc := 66) hG (dk dd_X10_save 36 rfl) (tgt := 23) (by decide) ?_
          rotate_left
          refine V_iconst (pc := 56) hG (dk dd_X10_save 31 rfl) (v := 0) (by decide) ?_
          refine V_goto (pc := 57) hG (dk dd_X10_save 32 rfl) (tgt := 62) (by decide) ?_
          refine V_iast (pc := 62) hG (dk dd_X10_save 34 rfl) sh_78 rd ?_
          refine V_iinc (pc := 63) hG (dk dd_X10_save 35 rfl) rfl (v := _ + 1) rfl (by decide) (lv' := [(0, _), (1, _), (2, _), (3, _)]) rfl ?_
          refine V_goto (pc := 66) hG (dk dd_X10_save 36 rfl) (tgt := 23) (by decide) ?_
          rotate_left
          -- leaves: stop 23; stop 23
          · rw [p49.1, ← nI_succ, nI_clamp (by omega)]
            rw [p49.2] at h53
            exact go _ (fun z => far1 (Or.inr ⟨fun w => h53 (by rw [w]; rfl), rfl⟩))
          · rw [p49.1, ← nI_succ, nI_clamp (by omega)]
            rw [p49.2] at h53
            exact go _ (fun z => far1 (Or.inl ⟨(nI_eq (b := 1) (by omega) (by decide)).mp h53, rfl⟩))
    refine V_aload_n (pc := 0) hG (dk dd_X10_save 0 rfl) rfl ?_
    refine V_iconst (pc := 1) hG (dk dd_X10_save 1 rfl) (v := 0) (by decide) ?_
    refine V_putI (pc := 2) hG (dk dd_X10_save 2 rfl) fl_X10_62 sh_67 rfl rfl ?_
    refine V_aload_n (pc := 5) hG (dk dd_X10_save 3 rfl) rfl ?_
    refine V_iload_n (pc := 6) hG (dk dd_X10_save 4 rfl) rfl ?_
    refine V_callVip (pc := 7) hG (dk dd_X10_save 5 rfl) ml_X10_207 mo_X10_isCase sh_67 rfl (m_isCase (n := α 0 7) (by omega) e4) (by decide) (by decide) rfl rfl rfl (fun x7 m7 p7 => ?_)
    refine V_if_eq (pc := 10) hG (dk dd_X10_save 6 rfl) (tgt := 18) (by decide) (fun h10 => ?_) (fun h10 => ?_)
    rotate_left
    refine V_iload_n (pc := 13) hG (dk dd_X10_save 7 rfl) rfl ?_
    refine V_iconst (pc := 14) hG (dk dd_X10_save 8 rfl) (v := -1) (by decide) ?_
    refine V_icmp_ge (pc := 15) hG (dk dd_X10_save 9 rfl) (tgt := 21) (by decide) (fun h15 => ?_) (fun h15 => ?_)
    refine V_iconst (pc := 21) hG (dk dd_X10_save 12 rfl) (v := 0) (by decide) ?_
    refine V_istore_n (pc := 22) hG (dk dd_X10_save 13 rfl) (by decide) (lv' := [(0, _), (1, _), (2, _), (3, _)]) rfl ?_
    rotate_left
    rotate_left
    -- leaves: stop 18; stop 23; stop 18
    · exact absurd hi.1 (p7.2.no h10)
    · rw [p7.1]
      exact loop 256 0 _ (by omega) (FrM.th μ) (fun e he => by omega)
    · exact absurd hi.2 h15
  · skip
    refine V_aload_n (pc := 0) hG (dk dd_X10_save 0 rfl) rfl ?_
    refine V_iconst (pc := 1) hG (dk dd_X10_save 1 rfl) (v := 0) (by decide) ?_
    refine V_putI (pc := 2) hG (dk dd_X10_save 2 rfl) fl_X10_62 sh_67 rfl rfl ?_
    refine V_aload_n (pc := 5) hG (dk dd_X10_save 3 rfl) rfl ?_
    refine V_iload_n (pc := 6) hG (dk dd_X10_save 4 rfl) rfl ?_
    refine V_callVip (pc := 7) hG (dk dd_X10_save 5 rfl) ml_X10_207 mo_X10_isCase sh_67 rfl (m_isCase (n := α 0 7) (by omega) e4) (by decide) (by decide) rfl rfl rfl (fun x7 m7 p7 => ?_)
    refine V_if_eq (pc := 10) hG (dk dd_X10_save 6 rfl) (tgt := 18) (by decide) (fun h10 => ?_) (fun h10 => ?_)
    refine V_ldc (pc := 18) hG (dk dd_X10_save 10 rfl) kk_X10_82 ?_
    refine V_iretP (pc := 20) hG (dk dd_X10_save 11 rfl) hR (Pi.mk ?_)
    rotate_left
    refine V_iload_n (pc := 13) hG (dk dd_X10_save 7 rfl) rfl ?_
    refine V_iconst (pc := 14) hG (dk dd_X10_save 8 rfl) (v := -1) (by decide) ?_
    refine V_icmp_ge (pc := 15) hG (dk dd_X10_save 9 rfl) (tgt := 21) (by decide) (fun h15 => ?_) (fun h15 => ?_)
    rotate_left
    refine V_ldc (pc := 18) hG (dk dd_X10_save 10 rfl) kk_X10_82 ?_
    refine V_iretP (pc := 20) hG (dk dd_X10_save 11 rfl) hR (Pi.mk ?_)
    rotate_left
    -- leaves: return@20; stop 21; return@20
    · exact ⟨Or.inl ⟨hi, rfl⟩, by rw [p7.1]; exact FrM.th μ⟩
    · exact absurd ⟨p7.2.yes h10, h15⟩ hi
    · exact ⟨Or.inl ⟨hi, rfl⟩, by rw [p7.1]; exact FrM.th μ⟩
