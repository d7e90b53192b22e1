/-! ===== the model: how far dreams are ===== -/
def DstL (α : Al) (T : Nat → Prop) (d j : Nat) : Prop := (∃ w, Hs α w ∧ w.length = j ∧ T (endN α d w)) ∧ ∀ w, Hs α w → w.length < j → ¬ T (endN α d w)
theorem DstL.uniq {α : Al} {T : Nat → Prop} {d j i : Nat} (h : DstL α T d j) (k : DstL α T d i) : j = i := by
  obtain ⟨⟨w, a1, a2, a3⟩, a4⟩ := h
  obtain ⟨⟨v, b1, b2, b3⟩, b4⟩ := k
  rcases Nat.lt_trichotomy j i with q | q | q
  · exact absurd a3 (b4 w a1 (by omega))
  · exact q
  · exact absurd b3 (a4 v b1 (by omega))
def FarK (α : Al) (T : Nat → Prop) (K : Nat) (v : Int32) (d : Nat) : Prop := (∃ j, j < K ∧ v = nI j ∧ DstL α T d j) ∨ (v = -1000000 ∧ ∀ w, Hs α w → w.length < K → ¬ T (endN α d w))
theorem none_ne {j : Nat} (h : j < 2 ^ 31) : ¬ nI j = -1000000 := fun z => by
  have : (0 : Int32) ≤ nI j := nI_pos' h
  rw [z] at this; exact absurd this (by decide)
theorem FarK.eq {α : Al} {T : Nat → Prop} {k K d : Nat} {v : Int32} (h : FarK α T K v d) (hK : k ≤ K ∧ K ≤ k + 1) (h1 : 1 ≤ k) (h12 : k ≤ 12) : v = nI (k - 1) ↔ DstL α T d (k - 1) := by
  rcases h with ⟨j, a1, a2, a3⟩ | ⟨a1, a2⟩
  · rw [a2, nI_eq (by omega) (by omega)]
    exact ⟨fun z => z ▸ a3, fun z => a3.uniq z⟩
  · rw [a1]
    exact ⟨fun z => absurd z.symm (none_ne (by omega)), fun z => by
      obtain ⟨⟨w, b1, b2, b3⟩, _⟩ := z
      exact absurd b3 (a2 w b1 (by omega))⟩
theorem Hs.cons {α : Al} {h : Nat} {w : List Nat} : Hs α (h :: w) ↔ h < α 0 6 ∧ Hs α w := ⟨fun z => ⟨z h List.mem_cons_self, fun q hq => z q (List.mem_cons_of_mem _ hq)⟩, fun z q hq => by
  rcases List.mem_cons.mp hq with rfl | e
  · exact z.1
  · exact z.2 q e⟩
theorem endN_cons (α : Al) (D h : Nat) (w : List Nat) : endN α D (h :: w) = endN α (humN α h D) w := rfl
/-- one further -/
theorem DstL.step {α : Al} {T : Nat → Prop} {d k h : Nat} (hh : h < α 0 6) (hd : DstL α T (humN α h d) k) (hn : ∀ w, Hs α w → w.length < k + 1 → ¬ T (endN α d w)) : DstL α T d (k + 1) := by
  obtain ⟨⟨w, a1, a2, a3⟩, _⟩ := hd
  exact ⟨⟨h :: w, Hs.cons.mpr ⟨hh, a1⟩, by simp [a2], a3⟩, hn⟩
theorem DstL.back {α : Al} {T : Nat → Prop} {d k h : Nat} {w : List Nat} (hn : ∀ w, Hs α w → w.length < k + 1 → ¬ T (endN α d w)) (hw : Hs α (h :: w)) (hl : w.length = k) (hT : T (endN α d (h :: w))) : DstL α T (humN α h d) k :=
  ⟨⟨w, (Hs.cons.mp hw).2, hl, hT⟩, fun v v1 v2 v3 => hn (h :: v) (Hs.cons.mpr ⟨(Hs.cons.mp hw).1, v1⟩) (by simp; omega) v3⟩
set_option maxHeartbeats 2000000 in
theorem m_measure {μ : Mem} {α : Al} (hA : Abs (kap (μ 71)) α) (hv : Val α) {T : Nat → Prop} (hF : ∀ d, d < 2 ^ α 0 0 → FarK α T 1 (μ 78 d) d) :
    CtP yX10_measure cX10_measure 4 none 2 [vR 67] μ (Pv (fun μ' => (∀ a, a ≠ 78 → μ' a = μ a) ∧ ∀ d, d < 2 ^ α 0 0 → FarK α T 13 (μ' 78 d) d)) := by
  refine CtP.go RX10 rfl pn_X10 (Nat.le_of_ble_eq_true rfl) (fun C hG hR => ?_)
  have ht := hv.t
  have hH := hv.H
  have hp := pow8 ht
  have r3 : vp_in (3 : Int32) 46 := rr (n := 3) (by decide)
  have e0 : μ 71 0 = nI (α 0 0) := e_sc hA (i := 0) (by decide)
  have e3 : μ 71 (Int32.toNatClampNeg 3) = nI (α 0 6) := e_sc hA (i := 6) (by decide)
  have outer : ∀ ko k M, k + ko = 13 → 1 ≤ k → (∀ a, a ≠ 78 → M a = μ a) → (∀ d, d < 2 ^ α 0 0 → FarK α T k (M 78 d) d) → V C 2 [(0, vR 67), (1, vI (nI k))] [] M := by
    intro ko
    induction ko with
    | zero =>
      intro k M hk k1 f1 f2
      refine V_iload_n (pc := 2) hG (dk dd_X10_measure 2 rfl) rfl ?_
      refine V_bipush (pc := 3) hG (dk dd_X10_measure 3 rfl) (v := 12) (by decide) ?_
      refine V_icmp_gt (pc := 5) hG (dk dd_X10_measure 4 rfl) (tgt := 91) (by decide) (fun h5 => ?_) (fun h5 => ?_)
      refine V_vretP (pc := 91) hG (dk dd_X10_measure 50 rfl) hR (Pv.mk ?_)
      rotate_left
      rotate_left
      -- leaves: return@91; stop 8
      · exact ⟨f1, by rw [show (13 : Nat) = k by omega]; exact f2⟩
      · exfalso; have h5 := Int32.not_lt.mp h5; have := le_i (b := 12) h5 (by omega) (by decide); omega
    | succ ko ih =>
      intro k M hk k1 f1 f2
      have mid : ∀ kd d M2, d + kd = 2 ^ α 0 0 → (∀ a, a ≠ 78 → M2 a = μ a) → (∀ e, e < 2 ^ α 0 0 → (e < d → FarK α T (k + 1) (M2 78 e) e) ∧ (d ≤ e → FarK α T k (M2 78 e) e)) → V C 10 [(0, vR 67), (1, vI (nI k)), (2, vI (nI d))] [] M2 := by
        intro kd
        induction kd with
        | zero =>
          intro d M2 hd g1 g2
          have m0 : M2 71 0 = nI (α 0 0) := by rw [g1 71 (by decide)]; exact e0
          refine V_iload_n (pc := 10) hG (dk dd_X10_measure 7 rfl) rfl ?_
          refine V_aload_n (pc := 11) hG (dk dd_X10_measure 8 rfl) rfl ?_
          refine V_callVip (pc := 12) hG (dk dd_X10_measure 9 rfl) ml_X10_173 mo_X10_allDreams sh_67 rfl (m_allDreams m0 (by omega)) (by decide) (by decide) rfl rfl rfl (fun x12 m12 p12 => ?_)
          refine V_icmp_ge (pc := 15) hG (dk dd_X10_measure 10 rfl) (tgt := 85) (by decide) (fun h15 => ?_) (fun h15 => ?_)
          refine V_iinc (pc := 85) hG (dk dd_X10_measure 48 rfl) rfl (v := _ + 1) rfl (by decide) (lv' := [(0, _), (1, _), (2, _)]) rfl ?_
          refine V_goto (pc := 88) hG (dk dd_X10_measure 49 rfl) (tgt := 2) (by decide) ?_
          refine V_keep [0, 1] (lv' := [(0, _), (1, _)]) rfl ?_
          rotate_left
          rotate_left
          -- leaves: stop 2; stop 18
          · rw [p12.1, ← nI_succ]
            exact ih (k + 1) M2 (by omega) (by omega) g1 (fun e he => (g2 e he).1 (by omega))
          · exfalso; rw [p12.2] at h15; have := nle_i h15 (by omega) (by omega); omega
        | succ kd ik =>
          intro d M2 hd g1 g2
          have hd2 : d < 2 ^ α 0 0 := by omega
          have m0 : M2 71 0 = nI (α 0 0) := by rw [g1 71 (by decide)]; exact e0
          have rd : vp_in (nI d) 256 := vp_in_nI (by omega) (by decide)
          have cd : (nI d).toNatClampNeg = d := nI_clamp (by omega)
          have nx : ∀ M3, (∀ a, a ≠ 78 → M3 a = μ a) → (∀ e, e < 2 ^ α 0 0 → e ≠ d → M3 78 e = M2 78 e) → FarK α T (k + 1) (M3 78 d) d → V C 79 [(0, vR 67), (1, vI (nI k)), (2, vI (nI d))] [] M3 := by
            intro M3 s1 s2 s3
            have hI := ik (d + 1) M3 (by omega) s1 (fun e he => ⟨fun q => if z : e = d then z ▸ s3 else by rw [s2 e he z]; exact (g2 e he).1 (by omega), fun q => by rw [s2 e he (by omega)]; exact (g2 e he).2 (by omega)⟩)
            rw [nI_succ] at hI
            refine V_iinc (pc := 79) hG (dk dd_X10_measure 46 rfl) rfl (v := _ + 1) rfl (by decide) (lv' := [(0, _), (1, _), (2, _)]) rfl ?_
            refine V_goto (pc := 82) hG (dk dd_X10_measure 47 rfl) (tgt := 10) (by decide) ?_
            rotate_left
            -- leaves: stop 10
            · exact hI
          have inn : ∀ kh h M3, h + kh = α 0 6 → (∀ a, a ≠ 78 → M3 a = μ a) → (∀ e, e < 2 ^ α 0 0 → e ≠ d → M3 78 e = M2 78 e) → ((¬ M3 78 d = -1000000 ∧ FarK α T (k + 1) (M3 78 d) d) ∨ (M3 78 d = -1000000 ∧ (∀ w, Hs α w → w.length < k → ¬ T (endN α d w)) ∧ ∀ g, g < h → ¬ DstL α T (humN α g d) (k - 1))) → V C 20 [(0, vR 67), (1, vI (nI k)), (2, vI (nI d)), (3, vI (nI h))] [] M3 := by
            intro kh
            induction kh with
            | zero =>
              intro h M3 hh s1 s2 s3
              have m3 : M3 71 (Int32.toNatClampNeg 3) = nI (α 0 6) := by rw [s1 71 (by decide)]; exact e3
              refine V_iload_n (pc := 20) hG (dk dd_X10_measure 13 rfl) rfl ?_
              refine V_aload_n (pc := 21) hG (dk dd_X10_measure 14 rfl) rfl ?_
              refine V_getR (pc := 22) hG (dk dd_X10_measure 15 rfl) fl_X10_19 sh_67 rfl ?_
              refine V_iconst (pc := 25) hG (dk dd_X10_measure 16 rfl) (v := 3) (by decide) ?_
              refine V_iald (pc := 26) hG (dk dd_X10_measure 17 rfl) sh_71 r3 ?_
              refine V_icmp_ge (pc := 27) hG (dk dd_X10_measure 18 rfl) (tgt := 79) (by decide) (fun h27 => ?_) (fun h27 => ?_)
              refine V_keep [0, 1, 2] (lv' := [(0, _), (1, _), (2, _)]) rfl ?_
              rotate_left
              rotate_left
              -- leaves: stop 79; stop 30
              · refine nx M3 s1 s2 ?_
                rcases s3 with ⟨_, a⟩ | ⟨a, b, c⟩
                · exact a
                · refine Or.inr ⟨a, fun w w1 w2 w3 => ?_⟩
                  by_cases z : w.length < k
                  · exact b w w1 z w3
                  · match w, w1, w2, w3, z with
                    | [], _, _, _, z => simp at z; omega
                    | g :: v, w1, w2, w3, z =>
                      simp only [List.length_cons] at w2 z
                      have hg := (Hs.cons.mp w1).1
                      exact c g (by omega) (DstL.back (k := k - 1) (by rw [show k - 1 + 1 = k by omega]; exact b) w1 (by omega) w3)
              · exfalso; rw [m3] at h27; have := nle_i h27 (by omega) (by omega); omega
            | succ kh ip =>
              intro h M3 hh s1 s2 s3
              have m3 : M3 71 (Int32.toNatClampNeg 3) = nI (α 0 6) := by rw [s1 71 (by decide)]; exact e3
              have hA3 : Abs (kap (M3 71)) α := by rw [s1 71 (by decide)]; exact hA
              have l2 := humN_lt hv (h := h) (by omega) hd2
              have lt := hv.lt l2
              have re : ∀ y, y = nI (humN α h d) → vp_in y 256 := fun y e => by rw [e]; exact vp_in_nI lt (by decide)
              have ce : (nI (humN α h d)).toNatClampNeg = humN α h d := nI_clamp (by omega)
              have nk : nI k - 1 = nI (k - 1) := nm1 k1
              -- what the hum leads to
              have ev : M3 78 d = -1000000 → (M3 78 (humN α h d) = nI (k - 1) ↔ DstL α T (humN α h d) (k - 1)) := fun hd0 => by
                by_cases z : humN α h d = d
                · rw [z, hd0]
                  rcases s3 with ⟨a, _⟩ | ⟨_, b, _⟩
                  · exact absurd hd0 a
                  · exact ⟨fun q => absurd q.symm (none_ne (by omega)), fun q => by
                      obtain ⟨⟨w, b1, b2, b3⟩, _⟩ := q
                      exact absurd b3 (b w b1 (by omega))⟩
                · rw [s2 _ l2 z]
                  by_cases q : humN α h d < d
                  · exact ((g2 _ l2).1 q).eq ⟨by omega, by omega⟩ k1 (by omega)
                  · exact ((g2 _ l2).2 (by omega)).eq ⟨by omega, by omega⟩ k1 (by omega)
              refine V_iload_n (pc := 20) hG (dk dd_X10_measure 13 rfl) rfl ?_
              refine V_aload_n (pc := 21) hG (dk dd_X10_measure 14 rfl) rfl ?_
              refine V_getR (pc := 22) hG (dk dd_X10_measure 15 rfl) fl_X10_19 sh_67 rfl ?_
              refine V_iconst (pc := 25) hG (dk dd_X10_measure 16 rfl) (v := 3) (by decide) ?_
              refine V_iald (pc := 26) hG (dk dd_X10_measure 17 rfl) sh_71 r3 ?_
              refine V_icmp_ge (pc := 27) hG (dk dd_X10_measure 18 rfl) (tgt := 79) (by decide) (fun h27 => ?_) (fun h27 => ?_)
              refine V_keep [0, 1, 2] (lv' := [(0, _), (1, _), (2, _)]) rfl ?_
              rotate_left
              refine V_aload_n (pc := 30) hG (dk dd_X10_measure 19 rfl) rfl ?_
              refine V_getR (pc := 31) hG (dk dd_X10_measure 20 rfl) fl_X10_41 sh_67 rfl ?_
              refine V_iload_n (pc := 34) hG (dk dd_X10_measure 21 rfl) rfl ?_
              refine V_iald (pc := 35) hG (dk dd_X10_measure 22 rfl) sh_78 rd ?_
              refine V_ldc (pc := 36) hG (dk dd_X10_measure 23 rfl) kk_X10_105 ?_
              refine V_icmp_ne (pc := 38) hG (dk dd_X10_measure 24 rfl) (tgt := 79) (by decide) (fun h38 => ?_) (fun h38 => ?_)
              refine V_keep [0, 1, 2] (lv' := [(0, _), (1, _), (2, _)]) rfl ?_
              rotate_left
              refine V_aload_n (pc := 41) hG (dk dd_X10_measure 25 rfl) rfl ?_
              refine V_getR (pc := 42) hG (dk dd_X10_measure 26 rfl) fl_X10_41 sh_67 rfl ?_
              refine V_iload_n (pc := 45) hG (dk dd_X10_measure 27 rfl) rfl ?_
              refine V_aload_n (pc := 46) hG (dk dd_X10_measure 28 rfl) rfl ?_
              refine V_getR (pc := 47) hG (dk dd_X10_measure 29 rfl) fl_X10_41 sh_67 rfl ?_
              refine V_aload_n (pc := 50) hG (dk dd_X10_measure 30 rfl) rfl ?_
              refine V_getR (pc := 51) hG (dk dd_X10_measure 31 rfl) fl_X10_19 sh_67 rfl ?_
              refine V_iload_n (pc := 54) hG (dk dd_X10_measure 32 rfl) rfl ?_
              refine V_iload_n (pc := 55) hG (dk dd_X10_measure 33 rfl) rfl ?_
              refine V_callSip (pc := 56) hG (dk dd_X10_measure 34 rfl) ml_X10_191 mo_X10_hummed (m_hummed (μ := M3) sh_71 (α := α) hA3 hv (h := h) rfl (by omega) (D := d) rfl hd2) (by decide) (by decide) rfl rfl rfl (fun x56 m56 p56 => ?_)
              refine V_iald (pc := 59) hG (dk dd_X10_measure 35 rfl) sh_78 (re _ p56.2) ?_
              refine V_iload_n (pc := 60) hG (dk dd_X10_measure 36 rfl) rfl ?_
              refine V_iconst (pc := 61) hG (dk dd_X10_measure 37 rfl) (v := 1) (by decide) ?_
              refine V_isub (pc := 62) hG (dk dd_X10_measure 38 rfl) ?_
              refine V_icmp_ne (pc := 63) hG (dk dd_X10_measure 39 rfl) (tgt := 70) (by decide) (fun h63 => ?_) (fun h63 => ?_)
              refine V_ldc (pc := 70) hG (dk dd_X10_measure 42 rfl) kk_X10_105 ?_
              refine V_iast (pc := 72) hG (dk dd_X10_measure 43 rfl) sh_78 rd ?_
              refine V_iinc (pc := 73) hG (dk dd_X10_measure 44 rfl) rfl (v := _ + 1) rfl (by decide) (lv' := [(0, _), (1, _), (2, _), (3, _)]) rfl ?_
              refine V_goto (pc := 76) hG (dk dd_X10_measure 45 rfl) (tgt := 20) (by decide) ?_
              rotate_left
              refine V_iload_n (pc := 66) hG (dk dd_X10_measure 40 rfl) rfl ?_
              refine V_goto (pc := 67) hG (dk dd_X10_measure 41 rfl) (tgt := 72) (by decide) ?_
              refine V_iast (pc := 72) hG (dk dd_X10_measure 43 rfl) sh_78 rd ?_
              refine V_iinc (pc := 73) hG (dk dd_X10_measure 44 rfl) rfl (v := _ + 1) rfl (by decide) (lv' := [(0, _), (1, _), (2, _), (3, _)]) rfl ?_
              refine V_goto (pc := 76) hG (dk dd_X10_measure 45 rfl) (tgt := 20) (by decide) ?_
              rotate_left
              -- leaves: stop 79; stop 79; stop 20; stop 20
              · exfalso; rw [m3] at h27; have := le_i h27 (by omega) (by omega); omega
              · rw [cd] at h38
                refine nx M3 s1 s2 ?_
                rcases s3 with ⟨_, a⟩ | ⟨a, _⟩
                · exact a
                · exact absurd a h38
              · rw [cd] at h38
                obtain ⟨e1, e2⟩ := p56
                rw [e1, e2, ce, nk] at h63
                rw [e1, ← nI_succ, cd]
                obtain ⟨_, b, c⟩ := s3.resolve_left (fun q => q.1 h38)
                refine ip (h + 1) _ (by omega) (fun a a1 => by rw [setc_n a1]; exact s1 a a1) (fun e he z => by rw [setc_s, upd_n z]; exact s2 e he z) (Or.inr ⟨by rw [setc_s, upd_s], b, fun g hg q => ?_⟩)
                by_cases z : g = h
                · rw [z] at q; exact h63 ((ev h38).mpr q)
                · exact c g (by omega) q
              · rw [cd] at h38
                obtain ⟨e1, e2⟩ := p56
                rw [e1, e2, ce, nk] at h63
                rw [e1, ← nI_succ, cd]
                obtain ⟨_, b, c⟩ := s3.resolve_left (fun q => q.1 h38)
                have dd := (ev h38).mp h63
                refine ip (h + 1) _ (by omega) (fun a a1 => by rw [setc_n a1]; exact s1 a a1) (fun e he z => by rw [setc_s, upd_n z]; exact s2 e he z) (Or.inl ⟨by rw [setc_s, upd_s]; exact none_ne (by omega), Or.inl ⟨k, by omega, by rw [setc_s, upd_s], ?_⟩⟩)
                have := DstL.step (d := d) (h := h) (by omega) dd (by rw [show k - 1 + 1 = k by omega]; exact b)
                rw [show k - 1 + 1 = k by omega] at this; exact this
          refine V_iload_n (pc := 10) hG (dk dd_X10_measure 7 rfl) rfl ?_
          refine V_aload_n (pc := 11) hG (dk dd_X10_measure 8 rfl) rfl ?_
          refine V_callVip (pc := 12) hG (dk dd_X10_measure 9 rfl) ml_X10_173 mo_X10_allDreams sh_67 rfl (m_allDreams m0 (by omega)) (by decide) (by decide) rfl rfl rfl (fun x12 m12 p12 => ?_)
          refine V_icmp_ge (pc := 15) hG (dk dd_X10_measure 10 rfl) (tgt := 85) (by decide) (fun h15 => ?_) (fun h15 => ?_)
          rotate_left
          refine V_iconst (pc := 18) hG (dk dd_X10_measure 11 rfl) (v := 0) (by decide) ?_
          refine V_istore_n (pc := 19) hG (dk dd_X10_measure 12 rfl) (by decide) (lv' := [(0, _), (1, _), (2, _), (3, _)]) rfl ?_
          rotate_left
          -- leaves: stop 85; stop 20
          · exfalso; rw [p12.2] at h15; have := le_i h15 (by omega) (by omega); omega
          · rw [p12.1]
            refine inn (α 0 6) 0 M2 (by omega) g1 (fun e _ _ => rfl) ?_
            rcases (g2 d hd2).2 (Nat.le_refl d) with ⟨j, a1, a2, a3⟩ | ⟨a1, a2⟩
            · exact Or.inl ⟨by rw [a2]; exact none_ne (by omega), Or.inl ⟨j, by omega, a2, a3⟩⟩
            · exact Or.inr ⟨a1, a2, fun g hg => by omega⟩
      refine V_iload_n (pc := 2) hG (dk dd_X10_measure 2 rfl) rfl ?_
      refine V_bipush (pc := 3) hG (dk dd_X10_measure 3 rfl) (v := 12) (by decide) ?_
      refine V_icmp_gt (pc := 5) hG (dk dd_X10_measure 4 rfl) (tgt := 91) (by decide) (fun h5 => ?_) (fun h5 => ?_)
      rotate_left
      refine V_iconst (pc := 8) hG (dk dd_X10_measure 5 rfl) (v := 0) (by decide) ?_
      refine V_istore_n (pc := 9) hG (dk dd_X10_measure 6 rfl) (by decide) (lv' := [(0, _), (1, _), (2, _)]) rfl ?_
      rotate_left
      -- leaves: stop 91; stop 10
      · exfalso; have := (nI_ltI (a := 12) (by decide) (by omega)).mp h5; omega
      · exact mid (2 ^ α 0 0) 0 M (by omega) f1 (fun e he => ⟨fun q => by omega, fun _ => f2 e he⟩)
  refine V_iconst (pc := 0) hG (dk dd_X10_measure 0 rfl) (v := 1) (by decide) ?_
  refine V_istore_n (pc := 1) hG (dk dd_X10_measure 1 rfl) (by decide) (lv' := [(0, _), (1, _)]) rfl ?_
  rotate_left
  -- leaves: stop 2
  · exact outer 12 1 μ (by omega) (by omega) (fun _ _ => rfl) hF
/-- the first one of the rows of that length -/
def BestW (α : Al) (T : Nat → Prop) (d m : Nat) (w : List Nat) : Prop := Hs α w ∧ w.length = m ∧ T (endN α d w) ∧ ∀ w', Hs α w' → w'.length = m → T (endN α d w') → w = w' ∨ lx w w'
theorem BestW.uniq {α : Al} {T : Nat → Prop} {d m : Nat} {w v : List Nat} (h : BestW α T d m w) (k : BestW α T d m v) : w = v := by
  rcases h.2.2.2 v k.1 k.2.1 k.2.2.1 with e | e
  · exact e
  · rcases k.2.2.2 w h.1 h.2.1 h.2.2.1 with e2 | e2
    · exact e2.symm
    · exact absurd (lx_tr e e2) (lx_irr w)
theorem BestW.cons {α : Al} {T : Nat → Prop} {d m h : Nat} {w : List Nat} (hd : DstL α T d (m + 1)) (hh : h < α 0 6) (hl : ∀ g, g < h → ¬ DstL α T (humN α g d) m) (hw : BestW α T (humN α h d) m w) : BestW α T d (m + 1) (h :: w) := by
  obtain ⟨a1, a2, a3, a4⟩ := hw
  refine ⟨Hs.cons.mpr ⟨hh, a1⟩, by simp [a2], a3, fun w' b1 b2 b3 => ?_⟩
  match w', b1, b2, b3 with
  | [], _, b2, _ => simp at b2
  | g :: v, b1, b2, b3 =>
    simp only [List.length_cons] at b2
    have dg := DstL.back hd.2 b1 (by omega) b3
    have hg : h ≤ g := Nat.not_lt.mp (fun q => hl g q dg)
    by_cases z : h = g
    · subst z
      rcases a4 v (Hs.cons.mp b1).2 (by omega) b3 with e | e
      · exact Or.inl (by rw [e])
      · exact Or.inr (Or.inr ⟨rfl, e⟩)
    · exact Or.inr (Or.inl (by omega))
theorem BestW.ex {α : Al} {T : Nat → Prop} : ∀ (m d : Nat), DstL α T d m → ∃ w, BestW α T d m w
  | 0, d, h => by
    obtain ⟨⟨w, a1, a2, a3⟩, _⟩ := h
    have e : w = [] := List.length_eq_zero_iff.mp a2
    subst e
    exact ⟨[], a1, rfl, a3, fun w' _ b2 _ => Or.inl (List.length_eq_zero_iff.mp b2).symm⟩
  | m + 1, d, h => by
    have ex : ∃ g, g < α 0 6 ∧ DstL α T (humN α g d) m := by
      obtain ⟨⟨w, a1, a2, a3⟩, a4⟩ := h
      match w, a1, a2, a3 with
      | [], _, a2, _ => simp at a2
      | g :: v, a1, a2, a3 => exact ⟨g, (Hs.cons.mp a1).1, DstL.back a4 a1 (by simpa using a2) a3⟩
    obtain ⟨g, ⟨g1, g2⟩, g3⟩ := pk_least (fun g => g < α 0 6 ∧ DstL α T (humN α g d) m) ex
    obtain ⟨w, hw⟩ := BestW.ex m _ g2
    exact ⟨g :: w, BestW.cons h g1 (fun q hq z => g3 q hq ⟨by omega, z⟩) hw⟩
theorem BestW.best {α : Al} {T : Nat → Prop} {d m n : Nat} {w : List Nat} (h : BestW α T d m w) (hd : DstL α T d m) (hm : m ≤ n) : Best α d n T w := by
  obtain ⟨a1, a2, a3, a4⟩ := h
  refine ⟨a1, by omega, a3, fun w' b1 b2 b3 => ?_⟩
  rcases Nat.lt_trichotomy w'.length m with q | q | q
  · exact absurd b3 (hd.2 w' b1 q)
  · rcases a4 w' b1 q b3 with e | e
    · exact Or.inl e
    · exact Or.inr (Or.inr ⟨by omega, e⟩)
  · exact Or.inr (Or.inl (by omega))
