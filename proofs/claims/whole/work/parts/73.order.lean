/-! ===== the model: order, first ===== -/
theorem ordA_ne {α : Al} (hv : Val α) : ∃ p r, ordA α = p :: r := by
  obtain ⟨_, h2, _⟩ := q_chain (α 0 7) (by have := hv.C; omega) (opnN α) (thoN_lt α 0 (α 0 7))
  have e : ordA α = ordM (α 0 7) (bitsN (opnN α)) (opnN α) := rfl
  rw [← e] at h2
  cases h : ordA α with
  | nil => rw [h] at h2; cases h2
  | cons p r => exact ⟨p, r, rfl⟩
theorem betO_some (α : Al) (D : Nat) (s : Option (List Nat)) (p : List Nat) : ∃ q, betO α D s p = some q := by
  unfold betO; cases s with
  | none => exact ⟨p, rfl⟩
  | some q => dsimp only; split
              · exact ⟨p, rfl⟩
              · exact ⟨q, rfl⟩
theorem bestL_some (α : Al) (D : Nat) : ∀ (L : List (List Nat)) (s : Option (List Nat)), (∃ q, s = some q) → ∃ q, L.foldl (betO α D) s = some q
  | [], _, h => h
  | p :: L, s, _ => bestL_some α D L _ (betO_some α D s p)
theorem best_ex {α : Al} (hv : Val α) : ∃ q, bestL α (α 0 3) (ordA α) = some q := by
  obtain ⟨p, r, e⟩ := ordA_ne hv
  rw [e]; exact bestL_some α (α 0 3) r _ (betO_some α (α 0 3) none p)
def OrdR (α : Al) (k r : Int32) : Prop := (¬ 0 < α 0 0 ∧ r = -1000002) ∨ (0 < α 0 0 ∧ ¬ -2 ≤ k ∧ r = -1000001) ∨ (0 < α 0 0 ∧ -2 ≤ k ∧ ∃ q, bestL α (α 0 3) (ordA α) = some q ∧ q.length = bitsN (opnN α) ∧
  r = (if k = -1 then nI (frN α (α 0 3) q) else if k = -2 then nI (guN α (α 0 3) q) else if k < nI (bitsN (opnN α)) then nI (q.getD k.toNatClampNeg 0) else -1000000))
theorem OffO.fr {μ M : Mem} (h : OffO (th0 μ) M) : FrM μ none M := ⟨fun j a b c => by rw [h.1 j a b (by omega) (by omega) (by omega)]; exact th0_n a, fun q a b c => by rw [h.2 q b c]; exact th0_s (by omega), by rw [h.2 1 (by decide) (by decide)]; exact th0_s (by decide)⟩
theorem m_order {μ : Mem} {α : Al} (hA : Abs (kap (μ 71)) α) (hz : Vz α) {k : Int32} : CtP yX10_order cX10_order 3 (some .int) 5 [vR 67, vI k] μ (Pi (fun r μ' => OrdR α k r ∧ FrM μ none μ')) := by
  refine CtP.go RX10 rfl pn_X10 (Nat.le_of_ble_eq_true rfl) (fun C hG hR => ?_)
  have e0 : μ 71 0 = nI (α 0 0) := e_sc hA (i := 0) (by decide)
  by_cases hv : Val α
  · have h0 : 0 < α 0 0 := by have := hv.t3; omega
    have hb5 := q_b5 (opnN α) (opn_lt hv)
    by_cases hk : -2 ≤ k
    · obtain ⟨q, hq⟩ := best_ex hv
      have kin : ¬ k = -1 → ¬ k = -2 → ¬ nI (bitsN (opnN α)) ≤ k → vp_in k 5 ∧ k.toNatClampNeg < bitsN (opnN α) := fun a b c => by
        have k0 : ¬ k < 0 := fun w => by clear hG hR c; grind
        obtain ⟨j, hj, rfl⟩ := nI_of k0
        have := nle_i c (by omega) hj
        rw [nI_clamp hj]
        exact ⟨vp_in_nI (by omega) (by decide), this⟩
      refine V_aload_n (pc := 0) hG (dk dd_X10_order 0 rfl) rfl ?_
      refine V_iconst (pc := 1) hG (dk dd_X10_order 1 rfl) (v := 0) (by decide) ?_
      refine V_putI (pc := 2) hG (dk dd_X10_order 2 rfl) fl_X10_62 sh_67 rfl rfl ?_
      refine V_aload_n (pc := 5) hG (dk dd_X10_order 3 rfl) rfl ?_
      refine V_callVip (pc := 6) hG (dk dd_X10_order 4 rfl) ml_X10_219 mo_X10_isThere sh_67 rfl (m_isThere) (by decide) (by decide) rfl rfl rfl (fun x6 m6 p6 => ?_)
      refine V_if_ne (pc := 9) hG (dk dd_X10_order 5 rfl) (tgt := 15) (by decide) (fun h9 => ?_) (fun h9 => ?_)
      refine V_iload_n (pc := 15) hG (dk dd_X10_order 8 rfl) rfl ?_
      refine V_bipush (pc := 16) hG (dk dd_X10_order 9 rfl) (v := -2) (by decide) ?_
      refine V_icmp_ge (pc := 18) hG (dk dd_X10_order 10 rfl) (tgt := 24) (by decide) (fun h18 => ?_) (fun h18 => ?_)
      refine V_aload_n (pc := 24) hG (dk dd_X10_order 13 rfl) rfl ?_
      refine V_callVip (pc := 25) hG (dk dd_X10_order 14 rfl) ml_X10_260 mo_X10_tryOrders sh_67 rfl (m_tryOrders (α := α) (by rw [p6.1]; exact hA) hv) (by decide) (by decide) rfl rfl rfl (fun x25 m25 p25 => ?_)
      refine V_istore_n (pc := 28) hG (dk dd_X10_order 15 rfl) (by decide) (lv' := [(0, _), (1, _), (2, _)]) rfl ?_
      refine V_iload_n (pc := 29) hG (dk dd_X10_order 16 rfl) rfl ?_
      refine V_iconst (pc := 30) hG (dk dd_X10_order 17 rfl) (v := -1) (by decide) ?_
      refine V_icmp_ne (pc := 31) hG (dk dd_X10_order 18 rfl) (tgt := 41) (by decide) (fun h31 => ?_) (fun h31 => ?_)
      refine V_iload_n (pc := 41) hG (dk dd_X10_order 22 rfl) rfl ?_
      refine V_bipush (pc := 42) hG (dk dd_X10_order 23 rfl) (v := -2) (by decide) ?_
      refine V_icmp_ne (pc := 44) hG (dk dd_X10_order 24 rfl) (tgt := 54) (by decide) (fun h44 => ?_) (fun h44 => ?_)
      refine V_iload_n (pc := 54) hG (dk dd_X10_order 28 rfl) rfl ?_
      refine V_iload_n (pc := 55) hG (dk dd_X10_order 29 rfl) rfl ?_
      refine V_icmp_ge (pc := 56) hG (dk dd_X10_order 30 rfl) (tgt := 68) (by decide) (fun h56 => ?_) (fun h56 => ?_)
      refine V_ldc (pc := 68) hG (dk dd_X10_order 36 rfl) kk_X10_105 ?_
      refine V_iretP (pc := 70) hG (dk dd_X10_order 37 rfl) hR (Pi.mk ?_)
      rotate_left
      refine V_aload_n (pc := 59) hG (dk dd_X10_order 31 rfl) rfl ?_
      refine V_getR (pc := 60) hG (dk dd_X10_order 32 rfl) fl_X10_47 sh_67 rfl ?_
      refine V_iload_n (pc := 63) hG (dk dd_X10_order 33 rfl) rfl ?_
      refine V_iald (pc := 64) hG (dk dd_X10_order 34 rfl) sh_80 (kin h31 h44 (by rw [← p25.1]; exact h56)).1 ?_
      refine V_goto (pc := 65) hG (dk dd_X10_order 35 rfl) (tgt := 70) (by decide) ?_
      refine V_iretP (pc := 70) hG (dk dd_X10_order 37 rfl) hR (Pi.mk ?_)
      rotate_left
      refine V_aload_n (pc := 47) hG (dk dd_X10_order 25 rfl) rfl ?_
      refine V_getI (pc := 48) hG (dk dd_X10_order 26 rfl) fl_X10_254 sh_67 rfl ?_
      refine V_goto (pc := 51) hG (dk dd_X10_order 27 rfl) (tgt := 70) (by decide) ?_
      refine V_iretP (pc := 70) hG (dk dd_X10_order 37 rfl) hR (Pi.mk ?_)
      rotate_left
      refine V_aload_n (pc := 34) hG (dk dd_X10_order 19 rfl) rfl ?_
      refine V_getI (pc := 35) hG (dk dd_X10_order 20 rfl) fl_X10_248 sh_67 rfl ?_
      refine V_goto (pc := 38) hG (dk dd_X10_order 21 rfl) (tgt := 70) (by decide) ?_
      refine V_iretP (pc := 70) hG (dk dd_X10_order 37 rfl) hR (Pi.mk ?_)
      rotate_left
      rotate_left
      rotate_left
      -- leaves: return@70; return@70; return@70; return@70; stop 21; stop 12
      all_goals (first | exact absurd ((hz.there e0).mpr hv) (p6.2.no h9) | exact absurd hk h18 | skip)
      all_goals (obtain ⟨t1, ⟨t2, _⟩, t4⟩ := p25; rw [p6.1] at t4; have fr := OffO.fr t4; rw [hq] at t2; obtain ⟨b1, b2, b3, b4⟩ := t2)
      · refine ⟨Or.inr (Or.inr ⟨h0, hk, q, hq, b1, ?_⟩), fr⟩
        rw [t1] at h56
        rw [if_neg h31, if_neg h44, if_neg (Int32.not_lt.mpr h56)]
      · refine ⟨Or.inr (Or.inr ⟨h0, hk, q, hq, b1, ?_⟩), fr⟩
        rw [t1] at h56
        rw [if_neg h31, if_neg h44, if_pos (Int32.not_le.mp h56)]
        exact b4 _ (kin h31 h44 h56).2
      · refine ⟨Or.inr (Or.inr ⟨h0, hk, q, hq, b1, ?_⟩), fr⟩
        rw [if_neg h31, if_pos h44]; exact b3
      · refine ⟨Or.inr (Or.inr ⟨h0, hk, q, hq, b1, ?_⟩), fr⟩
        rw [if_pos h31]; exact b2
    · skip
      refine V_aload_n (pc := 0) hG (dk dd_X10_order 0 rfl) rfl ?_
      refine V_iconst (pc := 1) hG (dk dd_X10_order 1 rfl) (v := 0) (by decide) ?_
      refine V_putI (pc := 2) hG (dk dd_X10_order 2 rfl) fl_X10_62 sh_67 rfl rfl ?_
      refine V_aload_n (pc := 5) hG (dk dd_X10_order 3 rfl) rfl ?_
      refine V_callVip (pc := 6) hG (dk dd_X10_order 4 rfl) ml_X10_219 mo_X10_isThere sh_67 rfl (m_isThere) (by decide) (by decide) rfl rfl rfl (fun x6 m6 p6 => ?_)
      refine V_if_ne (pc := 9) hG (dk dd_X10_order 5 rfl) (tgt := 15) (by decide) (fun h9 => ?_) (fun h9 => ?_)
      refine V_iload_n (pc := 15) hG (dk dd_X10_order 8 rfl) rfl ?_
      refine V_bipush (pc := 16) hG (dk dd_X10_order 9 rfl) (v := -2) (by decide) ?_
      refine V_icmp_ge (pc := 18) hG (dk dd_X10_order 10 rfl) (tgt := 24) (by decide) (fun h18 => ?_) (fun h18 => ?_)
      rotate_left
      refine V_ldc (pc := 21) hG (dk dd_X10_order 11 rfl) kk_X10_82 ?_
      refine V_iretP (pc := 23) hG (dk dd_X10_order 12 rfl) hR (Pi.mk ?_)
      rotate_left
      rotate_left
      -- leaves: stop 24; return@23; stop 12
      · exact absurd h18 hk
      · exact ⟨Or.inr (Or.inl ⟨h0, hk, rfl⟩), by rw [p6.1]; exact FrM.th μ⟩
      · exact absurd ((hz.there e0).mpr hv) (p6.2.no h9)
  · skip
    refine V_aload_n (pc := 0) hG (dk dd_X10_order 0 rfl) rfl ?_
    refine V_iconst (pc := 1) hG (dk dd_X10_order 1 rfl) (v := 0) (by decide) ?_
    refine V_putI (pc := 2) hG (dk dd_X10_order 2 rfl) fl_X10_62 sh_67 rfl rfl ?_
    refine V_aload_n (pc := 5) hG (dk dd_X10_order 3 rfl) rfl ?_
    refine V_callVip (pc := 6) hG (dk dd_X10_order 4 rfl) ml_X10_219 mo_X10_isThere sh_67 rfl (m_isThere) (by decide) (by decide) rfl rfl rfl (fun x6 m6 p6 => ?_)
    refine V_if_ne (pc := 9) hG (dk dd_X10_order 5 rfl) (tgt := 15) (by decide) (fun h9 => ?_) (fun h9 => ?_)
    rotate_left
    refine V_ldc (pc := 12) hG (dk dd_X10_order 6 rfl) kk_X10_210 ?_
    refine V_iretP (pc := 14) hG (dk dd_X10_order 7 rfl) hR (Pi.mk ?_)
    rotate_left
    -- leaves: stop 15; return@14
    · exact absurd ((hz.there e0).mp (p6.2.yes h9)) hv
    · exact ⟨Or.inl ⟨fun q => hv (hz.vt q), rfl⟩, by rw [p6.1]; exact FrM.th μ⟩
def FstR (α : Al) (r : Int32) : Prop := (¬ 0 < α 0 0 ∧ r = -1000002) ∨ (0 < α 0 0 ∧ FirQ α (ordA α) r)
theorem m_first {μ : Mem} {α : Al} (hA : Abs (kap (μ 71)) α) (hz : Vz α) : CtP yX10_first cX10_first 4 (some .int) 5 [vR 67] μ (Pi (fun r μ' => FstR α r ∧ FrM μ none μ')) := by
  refine CtP.go RX10 rfl pn_X10 (Nat.le_of_ble_eq_true rfl) (fun C hG hR => ?_)
  have e0 : μ 71 0 = nI (α 0 0) := e_sc hA (i := 0) (by decide)
  by_cases hv : Val α
  · have h0 : 0 < α 0 0 := by have := hv.t3; omega
    have hb5 := q_b5 (opnN α) (opn_lt hv)
    have lens : ∀ p ∈ ordA α, p.length = bitsN (opnN α) ∧ ∀ c ∈ p, c < α 0 7 := ordM_len (α 0 7) (bitsN (opnN α)) (opnN α)
    have hC := hv.C
    have bc : ∀ c x, ByF α (α 0 3) (ordA α) c x → c < α 0 7 ∧ x ≤ 5 := fun c x ⟨p, p1, p2, p3⟩ => by
      obtain ⟨l1, l2⟩ := lens p p1
      have := frN_le α p (α 0 3)
      refine ⟨l2 c ?_, by omega⟩
      cases p with
      | nil => cases p2
      | cons a r => rw [← Option.some.inj p2]; exact List.mem_cons_self
    -- from above
    have loop : ∀ M, FrM μ none M → (∀ c, c < 5 → MxQ (ByF α (α 0 3) (ordA α) c) (-1000000) (M 81 c)) → 0 < bitsN (opnN α) → ∀ c w, c ≤ 5 → ((w = -1000000 ∧ ∀ d x, c ≤ d → ¬ ByF α (α 0 3) (ordA α) d x) ∨ (∃ d x, c ≤ d ∧ d < 5 ∧ w = nI d ∧ M 81 d = nI x ∧ x ≤ 5 ∧ ByF α (α 0 3) (ordA α) d x ∧ ∀ e y, c ≤ e → ByF α (α 0 3) (ordA α) e y → y ≤ x ∧ (e < d → y < x))) → ∀ v, v = nI c - 1 → V C 25 [(0, vR 67), (1, vI (nI (bitsN (opnN α)))), (2, vI w), (3, vI v)] [] M := by
      intro M hM hX hn c
      induction c with
      | zero =>
        intro w _ hw v hv1
        subst hv1
        refine V_iload_n (pc := 25) hG (dk dd_X10_first 15 rfl) rfl ?_
        refine V_if_lt (pc := 26) hG (dk dd_X10_first 16 rfl) (tgt := 77) (by decide) (fun h26 => ?_) (fun h26 => ?_)
        refine V_iload_n (pc := 77) hG (dk dd_X10_first 43 rfl) rfl ?_
        refine V_iretP (pc := 78) hG (dk dd_X10_first 44 rfl) hR (Pi.mk ?_)
        rotate_left
        rotate_left
        -- leaves: return@78; stop 29
        · refine ⟨Or.inr ⟨h0, ?_⟩, hM⟩
          rcases hw with ⟨a1, a2⟩ | ⟨d, x, a1, a2, a3, _, _, a5, a6⟩
          · exact Or.inr ⟨fun c x _ => a2 c x (Nat.zero_le c), a1⟩
          · exact Or.inl ⟨d, x, (bc d x a5).1, a5, a3, fun e y _ hy => a6 e y (Nat.zero_le e) hy⟩
        · exfalso; exact h26 (by decide)
      | succ c ih =>
        intro w hc hw v hv1
        subst hv1
        rw [nI_pred]
        have rc : vp_in (nI c) 5 := vp_in_nI (by omega) (by decide)
        have cc : (nI c).toNatClampNeg = c := nI_clamp (by omega)
        have rw' : ¬ w = -1000000 → vp_in w 5 := fun z => by
          rcases hw with ⟨a1, _⟩ | ⟨d, x, a1, a2, a3, _⟩
          · exact absurd a1 z
          · rw [a3]; exact vp_in_nI a2 (by decide)
        have none : M 81 c = -1000000 → ∀ x, ¬ ByF α (α 0 3) (ordA α) c x := fun z x hx => by
          rcases hX c (by omega) with ⟨_, a2⟩ | ⟨y, a1, a2, _⟩
          · exact a2 x hx
          · rw [a2] at z; exact none_ne (by have := (bc c y a1).2; omega) z
        have some : ¬ M 81 c = -1000000 → ∃ x, M 81 c = nI x ∧ x ≤ 5 ∧ ByF α (α 0 3) (ordA α) c x ∧ ∀ y, ByF α (α 0 3) (ordA α) c y → y ≤ x := fun z => by
          rcases hX c (by omega) with ⟨a1, _⟩ | ⟨y, a1, a2, a3⟩
          · exact absurd a1 z
          · exact ⟨y, a2, (bc c y a1).2, a1, a3⟩
        refine V_iload_n (pc := 25) hG (dk dd_X10_first 15 rfl) rfl ?_
        refine V_if_lt (pc := 26) hG (dk dd_X10_first 16 rfl) (tgt := 77) (by decide) (fun h26 => ?_) (fun h26 => ?_)
        rotate_left
        refine V_iload_n (pc := 29) hG (dk dd_X10_first 17 rfl) rfl ?_
        refine V_if_le (pc := 30) hG (dk dd_X10_first 18 rfl) (tgt := 77) (by decide) (fun h30 => ?_) (fun h30 => ?_)
        rotate_left
        refine V_aload_n (pc := 33) hG (dk dd_X10_first 19 rfl) rfl ?_
        refine V_getR (pc := 34) hG (dk dd_X10_first 20 rfl) fl_X10_50 sh_67 rfl ?_
        refine V_iload_n (pc := 37) hG (dk dd_X10_first 21 rfl) rfl ?_
        refine V_iald (pc := 38) hG (dk dd_X10_first 22 rfl) sh_81 rc ?_
        refine V_ldc (pc := 39) hG (dk dd_X10_first 23 rfl) kk_X10_105 ?_
        refine V_icmp_eq (pc := 41) hG (dk dd_X10_first 24 rfl) (tgt := 69) (by decide) (fun h41 => ?_) (fun h41 => ?_)
        refine V_iload_n (pc := 69) hG (dk dd_X10_first 39 rfl) rfl ?_
        refine V_istore_n (pc := 70) hG (dk dd_X10_first 40 rfl) (by decide) (lv' := [(0, _), (1, _), (2, _), (3, _)]) rfl ?_
        refine V_iinc (pc := 71) hG (dk dd_X10_first 41 rfl) rfl (v := _ + (-1)) rfl (by decide) (lv' := [(0, _), (1, _), (2, _), (3, _)]) rfl ?_
        refine V_goto (pc := 74) hG (dk dd_X10_first 42 rfl) (tgt := 25) (by decide) ?_
        rotate_left
        refine V_iload_n (pc := 44) hG (dk dd_X10_first 25 rfl) rfl ?_
        refine V_ldc (pc := 45) hG (dk dd_X10_first 26 rfl) kk_X10_105 ?_
        refine V_icmp_eq (pc := 47) hG (dk dd_X10_first 27 rfl) (tgt := 65) (by decide) (fun h47 => ?_) (fun h47 => ?_)
        refine V_iload_n (pc := 65) hG (dk dd_X10_first 37 rfl) rfl ?_
        refine V_goto (pc := 66) hG (dk dd_X10_first 38 rfl) (tgt := 70) (by decide) ?_
        refine V_istore_n (pc := 70) hG (dk dd_X10_first 40 rfl) (by decide) (lv' := [(0, _), (1, _), (2, _), (3, _)]) rfl ?_
        refine V_iinc (pc := 71) hG (dk dd_X10_first 41 rfl) rfl (v := _ + (-1)) rfl (by decide) (lv' := [(0, _), (1, _), (2, _), (3, _)]) rfl ?_
        refine V_goto (pc := 74) hG (dk dd_X10_first 42 rfl) (tgt := 25) (by decide) ?_
        rotate_left
        refine V_aload_n (pc := 50) hG (dk dd_X10_first 28 rfl) rfl ?_
        refine V_getR (pc := 51) hG (dk dd_X10_first 29 rfl) fl_X10_50 sh_67 rfl ?_
        refine V_iload_n (pc := 54) hG (dk dd_X10_first 30 rfl) rfl ?_
        refine V_iald (pc := 55) hG (dk dd_X10_first 31 rfl) sh_81 rc ?_
        refine V_aload_n (pc := 56) hG (dk dd_X10_first 32 rfl) rfl ?_
        refine V_getR (pc := 57) hG (dk dd_X10_first 33 rfl) fl_X10_50 sh_67 rfl ?_
        refine V_iload_n (pc := 60) hG (dk dd_X10_first 34 rfl) rfl ?_
        refine V_iald (pc := 61) hG (dk dd_X10_first 35 rfl) sh_81 (rw' h47) ?_
        refine V_icmp_lt (pc := 62) hG (dk dd_X10_first 36 rfl) (tgt := 69) (by decide) (fun h62 => ?_) (fun h62 => ?_)
        refine V_iload_n (pc := 69) hG (dk dd_X10_first 39 rfl) rfl ?_
        refine V_istore_n (pc := 70) hG (dk dd_X10_first 40 rfl) (by decide) (lv' := [(0, _), (1, _), (2, _), (3, _)]) rfl ?_
        refine V_iinc (pc := 71) hG (dk dd_X10_first 41 rfl) rfl (v := _ + (-1)) rfl (by decide) (lv' := [(0, _), (1, _), (2, _), (3, _)]) rfl ?_
        refine V_goto (pc := 74) hG (dk dd_X10_first 42 rfl) (tgt := 25) (by decide) ?_
        rotate_left
        refine V_iload_n (pc := 65) hG (dk dd_X10_first 37 rfl) rfl ?_
        refine V_goto (pc := 66) hG (dk dd_X10_first 38 rfl) (tgt := 70) (by decide) ?_
        refine V_istore_n (pc := 70) hG (dk dd_X10_first 40 rfl) (by decide) (lv' := [(0, _), (1, _), (2, _), (3, _)]) rfl ?_
        refine V_iinc (pc := 71) hG (dk dd_X10_first 41 rfl) rfl (v := _ + (-1)) rfl (by decide) (lv' := [(0, _), (1, _), (2, _), (3, _)]) rfl ?_
        refine V_goto (pc := 74) hG (dk dd_X10_first 42 rfl) (tgt := 25) (by decide) ?_
        rotate_left
        -- leaves: stop 77; stop 77; stop 25; stop 25; stop 25; stop 25
        · exact absurd h26 (nI_pos (by omega))
        · exfalso; have := le_i (b := 0) h30 (by omega) (by decide); omega
        · rw [cc] at h41
          have nn := none h41
          refine ih w (by omega) ?_ _ (m1e _)
          rcases hw with ⟨a1, a2⟩ | ⟨d, x, a1, a2, a3, a4, a5, a6, a7⟩
          · exact Or.inl ⟨a1, fun d x hd => if z : d = c then z ▸ nn x else a2 d x (by omega)⟩
          · exact Or.inr ⟨d, x, by omega, a2, a3, a4, a5, a6, fun e y he hy => if z : e = c then absurd (z ▸ hy) (nn y) else a7 e y (by omega) hy⟩
        · rw [cc] at h41
          obtain ⟨x, b1, b2, b3, b4⟩ := some h41
          have a2 : ∀ d y, c + 1 ≤ d → ¬ ByF α (α 0 3) (ordA α) d y := by
            rcases hw with ⟨_, a2⟩ | ⟨d, y, a1, a2, a3, _⟩
            · exact a2
            · exact absurd (a3.symm.trans h47) (none_ne (by omega))
          refine ih (nI c) (by omega) (Or.inr ⟨c, x, Nat.le_refl c, by omega, rfl, b1, b2, b3, fun e y he hy => ?_⟩) _ (m1e _)
          by_cases z : e = c
          · rw [z] at hy; exact ⟨b4 y hy, fun w => by omega⟩
          · exact absurd hy (a2 e y (by omega))
        · rw [cc] at h41 h62
          obtain ⟨x, b1, b2, b3, b4⟩ := some h41
          rcases hw with ⟨a1, _⟩ | ⟨d, y, a1, a2, a3, a4, a5, a6, a7⟩
          · exact absurd a1 h47
          · rw [a3, nI_clamp (by omega), a4, b1] at h62
            have lt := (nI_ltI (by omega) (by omega)).mp h62
            refine ih w (by omega) (Or.inr ⟨d, y, by omega, a2, a3, a4, a5, a6, fun e u he hu => ?_⟩) _ (m1e _)
            by_cases z : e = c
            · rw [z] at hu; have := b4 u hu; exact ⟨by omega, fun _ => by omega⟩
            · exact a7 e u (by omega) hu
        · rw [cc] at h41 h62
          obtain ⟨x, b1, b2, b3, b4⟩ := some h41
          rcases hw with ⟨a1, _⟩ | ⟨d, y, a1, a2, a3, a4, a5, a6, a7⟩
          · exact absurd a1 h47
          · rw [a3, nI_clamp (by omega), a4, b1] at h62
            have ge := le_i (Int32.not_lt.mp h62) (by omega) (by omega)
            refine ih (nI c) (by omega) (Or.inr ⟨c, x, Nat.le_refl c, by omega, rfl, b1, b2, b3, fun e u he hu => ?_⟩) _ (m1e _)
            by_cases z : e = c
            · rw [z] at hu; exact ⟨b4 u hu, fun w => by omega⟩
            · have := (a7 e u (by omega) hu).1; exact ⟨by omega, fun w => by omega⟩
    refine V_aload_n (pc := 0) hG (dk dd_X10_first 0 rfl) rfl ?_
    refine V_iconst (pc := 1) hG (dk dd_X10_first 1 rfl) (v := 0) (by decide) ?_
    refine V_putI (pc := 2) hG (dk dd_X10_first 2 rfl) fl_X10_62 sh_67 rfl rfl ?_
    refine V_aload_n (pc := 5) hG (dk dd_X10_first 3 rfl) rfl ?_
    refine V_callVip (pc := 6) hG (dk dd_X10_first 4 rfl) ml_X10_219 mo_X10_isThere sh_67 rfl (m_isThere) (by decide) (by decide) rfl rfl rfl (fun x6 m6 p6 => ?_)
    refine V_if_ne (pc := 9) hG (dk dd_X10_first 5 rfl) (tgt := 15) (by decide) (fun h9 => ?_) (fun h9 => ?_)
    refine V_aload_n (pc := 15) hG (dk dd_X10_first 8 rfl) rfl ?_
    refine V_callVip (pc := 16) hG (dk dd_X10_first 9 rfl) ml_X10_260 mo_X10_tryOrders sh_67 rfl (m_tryOrders (α := α) (by rw [p6.1]; exact hA) hv) (by decide) (by decide) rfl rfl rfl (fun x16 m16 p16 => ?_)
    refine V_istore_n (pc := 19) hG (dk dd_X10_first 10 rfl) (by decide) (lv' := [(0, _), (1, _)]) rfl ?_
    refine V_ldc (pc := 20) hG (dk dd_X10_first 11 rfl) kk_X10_105 ?_
    refine V_istore_n (pc := 22) hG (dk dd_X10_first 12 rfl) (by decide) (lv' := [(0, _), (1, _), (2, _)]) rfl ?_
    refine V_iconst (pc := 23) hG (dk dd_X10_first 13 rfl) (v := 4) (by decide) ?_
    refine V_istore_n (pc := 24) hG (dk dd_X10_first 14 rfl) (by decide) (lv' := [(0, _), (1, _), (2, _), (3, _)]) rfl ?_
    rotate_left
    rotate_left
    -- leaves: stop 25; stop 12
    · obtain ⟨t1, ⟨t2, t3⟩, t4⟩ := p16
      rw [p6.1] at t4
      have fr := OffO.fr t4
      by_cases n0 : bitsN (opnN α) = 0
      · rw [t1, n0]
        refine V_iload_n (pc := 25) hG (dk dd_X10_first 15 rfl) rfl ?_
        refine V_if_lt (pc := 26) hG (dk dd_X10_first 16 rfl) (tgt := 77) (by decide) (fun h26 => ?_) (fun h26 => ?_)
        refine V_iload_n (pc := 77) hG (dk dd_X10_first 43 rfl) rfl ?_
        refine V_iretP (pc := 78) hG (dk dd_X10_first 44 rfl) hR (Pi.mk ?_)
        rotate_left
        refine V_iload_n (pc := 29) hG (dk dd_X10_first 17 rfl) rfl ?_
        refine V_if_le (pc := 30) hG (dk dd_X10_first 18 rfl) (tgt := 77) (by decide) (fun h30 => ?_) (fun h30 => ?_)
        refine V_iload_n (pc := 77) hG (dk dd_X10_first 43 rfl) rfl ?_
        refine V_iretP (pc := 78) hG (dk dd_X10_first 44 rfl) hR (Pi.mk ?_)
        rotate_left
        rotate_left
        -- leaves: return@78; return@78; stop 33
        · exact absurd h26 (by decide)
        · refine ⟨Or.inr ⟨h0, Or.inr ⟨fun c x _ hB => ?_, rfl⟩⟩, fr⟩
          obtain ⟨p, q1, q2, _⟩ := hB
          have : p = [] := List.length_eq_zero_iff.mp (by rw [(lens p q1).1, n0])
          rw [this] at q2; cases q2
        · exact absurd (by decide) h30
      · rw [t1]
        exact loop m16 fr t3 (by omega) 5 _ (by omega) (Or.inl ⟨rfl, fun d x hd hB => by have := (bc d x hB).1; omega⟩) _ rfl
    · exact absurd ((hz.there e0).mpr hv) (p6.2.no h9)
  · skip
    refine V_aload_n (pc := 0) hG (dk dd_X10_first 0 rfl) rfl ?_
    refine V_iconst (pc := 1) hG (dk dd_X10_first 1 rfl) (v := 0) (by decide) ?_
    refine V_putI (pc := 2) hG (dk dd_X10_first 2 rfl) fl_X10_62 sh_67 rfl rfl ?_
    refine V_aload_n (pc := 5) hG (dk dd_X10_first 3 rfl) rfl ?_
    refine V_callVip (pc := 6) hG (dk dd_X10_first 4 rfl) ml_X10_219 mo_X10_isThere sh_67 rfl (m_isThere) (by decide) (by decide) rfl rfl rfl (fun x6 m6 p6 => ?_)
    refine V_if_ne (pc := 9) hG (dk dd_X10_first 5 rfl) (tgt := 15) (by decide) (fun h9 => ?_) (fun h9 => ?_)
    rotate_left
    refine V_ldc (pc := 12) hG (dk dd_X10_first 6 rfl) kk_X10_210 ?_
    refine V_iretP (pc := 14) hG (dk dd_X10_first 7 rfl) hR (Pi.mk ?_)
    rotate_left
    -- leaves: stop 15; return@14
    · exact absurd ((hz.there e0).mp (p6.2.yes h9)) hv
    · exact ⟨Or.inl ⟨fun q => hv (hz.vt q), rfl⟩, by rw [p6.1]; exact FrM.th μ⟩
