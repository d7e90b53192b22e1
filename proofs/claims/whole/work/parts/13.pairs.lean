/-! ===== pairs; powers; a case heard in a draft; terms ===== -/
noncomputable def p1 (P : Prop) : Nat := @ite Nat P (Classical.propDecidable P) 1 0
theorem p1_t {P : Prop} (h : P) : p1 P = 1 := by unfold p1; exact if_pos h
theorem p1_f {P : Prop} (h : ¬ P) : p1 P = 0 := by unfold p1; exact if_neg h
theorem p1_le (P : Prop) : p1 P ≤ 1 := by unfold p1; split <;> decide
def sumT (f : Nat → Nat) : Nat → Nat
  | 0 => 0
  | n + 1 => sumT f n + f n
theorem sumT_s (f : Nat → Nat) (n : Nat) : sumT f (n + 1) = sumT f n + f n := rfl
theorem sumT_le {f : Nat → Nat} {c : Nat} (h : ∀ i, f i ≤ c) : ∀ n, sumT f n ≤ n * c
  | 0 => Nat.zero_le _
  | n + 1 => by rw [sumT_s, Nat.succ_mul]; exact Nat.add_le_add (sumT_le h n) (h n)
theorem sumT_0 {f : Nat → Nat} : ∀ {n : Nat}, (∀ i, i < n → f i = 0) → sumT f n = 0
  | 0, _ => rfl
  | n + 1, h => by rw [sumT_s, sumT_0 (fun i hi => h i (by omega)), h n (Nat.lt_succ_self n)]
noncomputable def g2 (P : Nat → Nat → Prop) (i j : Nat) : Nat := p1 (i < j ∧ P i j)
noncomputable def cnt2 (P : Nat → Nat → Prop) (N n : Nat) : Nat := sumT (fun i => sumT (g2 P i) N) n
def IsF (P : Nat → Nat → Prop) (N : Nat) (r : Int32) : Prop := (∃ i j, i < j ∧ j < N ∧ P i j ∧ r = nI (10 * i + j) ∧ ∀ i' j', i' < j' → j' < N → P i' j' → i < i' ∨ (i = i' ∧ j ≤ j')) ∨ ((∀ i j, i < j → j < N → ¬ P i j) ∧ r = -1000000)
theorem IsF.uniq {P : Nat → Nat → Prop} {N : Nat} {r r' : Int32} (h : IsF P N r) (h' : IsF P N r') : r = r' := by
  rcases h with ⟨i, j, a1, a2, a3, a4, a5⟩ | ⟨a1, a2⟩ <;> rcases h' with ⟨i', j', b1, b2, b3, b4, b5⟩ | ⟨b1, b2⟩
  · have h1 := a5 i' j' b1 b2 b3
    have h2 := b5 i j a1 a2 a3
    rw [a4, b4, show i = i' by omega, show j = j' by omega]
  · exact absurd a3 (b1 i j a1 a2)
  · exact absurd b3 (a1 i' j' b1 b2)
  · rw [a2, b2]
theorem g2_le (P : Nat → Nat → Prop) (i j : Nat) : g2 P i j ≤ 1 := p1_le _
theorem cnt2_le (P : Nat → Nat → Prop) (N n : Nat) : cnt2 P N n ≤ n * N := sumT_le (fun i => by have := sumT_le (g2_le P i) N; omega) n
theorem c_pairs {b : Nat} {μ : Mem} {α : Al} (hb : IsCo b) (hA : Abs (kac μ b) α) (hv : Val α) {z w : Int32} {N : Nat} {P : Nat → Nat → Prop} (hz : (z = 1 ∧ N = α 0 6 ∧ P = samB α) ∨ (z = 0 ∧ N = α 0 7 ∧ P = claB α)) (hw : w = 0 ∨ w = 1) :
    CtP yX2_pairs cX2_pairs 7 (some .int) 4 [vR b, vI z, vI w] μ (Pi (fun r μ' => μ' = μ ∧ (w = 0 → r = nI (cnt2 P N N)) ∧ (w = 1 → IsF P N r))) := by
  refine CtP.go RX2 rfl pn_X2 (Nat.le_of_ble_eq_true rfl) (fun C hG hR => ?_)
  have e6 : μ b 6 = nI (α 0 6) := hA.1 6 (by decide)
  have e7 : μ b 7 = nI (α 0 7) := hA.1 7 (by decide)
  have hH := hv.H
  have hC := hv.C
  have hN : N ≤ 6 := by rcases hz with q | q <;> omega
  have loop : ∀ ko i, i + ko = N → (w = 1 → ∀ i' j', i' < j' → j' < N → P i' j' → i ≤ i') → V C 22 [(0, vR b), (1, vI z), (2, vI w), (3, vI (nI N)), (4, vI (nI (cnt2 P N i))), (5, vI (nI i))] [] μ := by
    intro ko
    induction ko with
    | zero =>
      intro i hi hno
      refine V_iload (pc := 22) hG (dk dd_X2_pairs 12 rfl) rfl ?_
      refine V_iload_n (pc := 24) hG (dk dd_X2_pairs 13 rfl) rfl ?_
      refine V_icmp_ge (pc := 25) hG (dk dd_X2_pairs 14 rfl) (tgt := 98) (by decide) (fun h25 => ?_) (fun h25 => ?_)
      refine V_iload_n (pc := 98) hG (dk dd_X2_pairs 49 rfl) rfl ?_
      refine V_iconst (pc := 99) hG (dk dd_X2_pairs 50 rfl) (v := 1) (by decide) ?_
      refine V_icmp_ne (pc := 100) hG (dk dd_X2_pairs 51 rfl) (tgt := 108) (by decide) (fun h100 => ?_) (fun h100 => ?_)
      refine V_iload (pc := 108) hG (dk dd_X2_pairs 54 rfl) rfl ?_
      refine V_iretP (pc := 110) hG (dk dd_X2_pairs 55 rfl) hR (Pi.mk ?_)
      rotate_left
      refine V_ldc (pc := 103) hG (dk dd_X2_pairs 52 rfl) kk_X2_99 ?_
      refine V_goto (pc := 105) hG (dk dd_X2_pairs 53 rfl) (tgt := 110) (by decide) ?_
      refine V_iretP (pc := 110) hG (dk dd_X2_pairs 55 rfl) hR (Pi.mk ?_)
      rotate_left
      rotate_left
      -- leaves: return@110; return@110; stop 28
      · exact ⟨rfl, fun _ => by rw [show i = N by omega], fun q => absurd q h100⟩
      · exact ⟨rfl, fun q => absurd (q.symm.trans h100) (by decide), fun q => Or.inr ⟨fun i' j' a1 a2 a3 => by have := hno q i' j' a1 a2 a3; omega, rfl⟩⟩
      · exfalso; have := nle_i h25 (by omega) (by omega); omega
    | succ ko ih =>
      intro i hi hno
      have hg : sumT (g2 P i) (i + 1) = 0 := sumT_0 (fun j hj => p1_f (fun q => by omega))
      have inner : ∀ k j, j + k = N → i < j → (w = 1 → ∀ j', i < j' → j' < N → P i j' → j ≤ j') → V C 34 [(0, vR b), (1, vI z), (2, vI w), (3, vI (nI N)), (4, vI (nI (cnt2 P N i + sumT (g2 P i) j))), (5, vI (nI i)), (6, vI (nI j))] [] μ := by
        intro k
        induction k with
        | zero =>
          intro j hj hij hno2
          have hI := ih (i + 1) (by omega) (fun q i' j' a1 a2 a3 => by
            have h1 := hno q i' j' a1 a2 a3
            by_cases e : i' = i
            · subst e; have := hno2 q j' a1 a2 a3; omega
            · omega)
          have e : cnt2 P N (i + 1) = cnt2 P N i + sumT (g2 P i) j := by rw [show j = N by omega]; rfl
          rw [e, nI_succ] at hI
          refine V_iload (pc := 34) hG (dk dd_X2_pairs 19 rfl) rfl ?_
          refine V_iload_n (pc := 36) hG (dk dd_X2_pairs 20 rfl) rfl ?_
          refine V_icmp_ge (pc := 37) hG (dk dd_X2_pairs 21 rfl) (tgt := 92) (by decide) (fun h37 => ?_) (fun h37 => ?_)
          refine V_iinc (pc := 92) hG (dk dd_X2_pairs 47 rfl) rfl (v := _ + 1) rfl (by decide) (lv' := [(0, _), (1, _), (2, _), (3, _), (4, _), (5, _), (6, _)]) rfl ?_
          refine V_goto (pc := 95) hG (dk dd_X2_pairs 48 rfl) (tgt := 22) (by decide) ?_
          refine V_keep [0, 1, 2, 3, 4, 5] (lv' := [(0, _), (1, _), (2, _), (3, _), (4, _), (5, _)]) rfl ?_
          rotate_left
          rotate_left
          -- leaves: stop 22; stop 40
          · exact hI
          · exfalso; have := nle_i h37 (by omega) (by omega); omega
        | succ k ihk =>
          intro j hj hij hno2
          have hjN : j < N := by omega
          have next : ¬ P i j → V C 86 [(0, vR b), (1, vI z), (2, vI w), (3, vI (nI N)), (4, vI (nI (cnt2 P N i + sumT (g2 P i) j))), (5, vI (nI i)), (6, vI (nI j))] [] μ := by
            intro hnP
            have hI := ihk (j + 1) (by omega) (by omega) (fun q j' a1 a2 a3 => by
              have := hno2 q j' a1 a2 a3
              by_cases e : j' = j
              · subst e; exact absurd a3 hnP
              · omega)
            rw [sumT_s, show g2 P i j = 0 from p1_f (fun q => hnP q.2), nI_succ] at hI
            refine V_iinc (pc := 86) hG (dk dd_X2_pairs 45 rfl) rfl (v := _ + 1) rfl (by decide) (lv' := [(0, _), (1, _), (2, _), (3, _), (4, _), (5, _), (6, _)]) rfl ?_
            refine V_goto (pc := 89) hG (dk dd_X2_pairs 46 rfl) (tgt := 34) (by decide) ?_
            rotate_left
            -- leaves: stop 34
            · exact hI
          have found : P i j → V C 69 [(0, vR b), (1, vI z), (2, vI w), (3, vI (nI N)), (4, vI (nI (cnt2 P N i + sumT (g2 P i) j))), (5, vI (nI i)), (6, vI (nI j))] [] μ := by
            intro hPij
            refine V_iload_n (pc := 69) hG (dk dd_X2_pairs 35 rfl) rfl ?_
            refine V_iconst (pc := 70) hG (dk dd_X2_pairs 36 rfl) (v := 1) (by decide) ?_
            refine V_icmp_ne (pc := 71) hG (dk dd_X2_pairs 37 rfl) (tgt := 83) (by decide) (fun h71 => ?_) (fun h71 => ?_)
            refine V_iinc (pc := 83) hG (dk dd_X2_pairs 44 rfl) rfl (v := _ + 1) rfl (by decide) (lv' := [(0, _), (1, _), (2, _), (3, _), (4, _), (5, _), (6, _)]) rfl ?_
            refine V_iinc (pc := 86) hG (dk dd_X2_pairs 45 rfl) rfl (v := _ + 1) rfl (by decide) (lv' := [(0, _), (1, _), (2, _), (3, _), (4, _), (5, _), (6, _)]) rfl ?_
            refine V_goto (pc := 89) hG (dk dd_X2_pairs 46 rfl) (tgt := 34) (by decide) ?_
            rotate_left
            refine V_bipush (pc := 74) hG (dk dd_X2_pairs 38 rfl) (v := 10) (by decide) ?_
            refine V_iload (pc := 76) hG (dk dd_X2_pairs 39 rfl) rfl ?_
            refine V_imul (pc := 78) hG (dk dd_X2_pairs 40 rfl) ?_
            refine V_iload (pc := 79) hG (dk dd_X2_pairs 41 rfl) rfl ?_
            refine V_iadd (pc := 81) hG (dk dd_X2_pairs 42 rfl) ?_
            refine V_iretP (pc := 82) hG (dk dd_X2_pairs 43 rfl) hR (Pi.mk ?_)
            rotate_left
            -- leaves: stop 34; return@82
            · have hw0 : w = 0 := hw.resolve_right h71
              have hI := ihk (j + 1) (by omega) (by omega) (fun q => absurd q h71)
              rw [sumT_s, show g2 P i j = 1 from p1_t ⟨hij, hPij⟩, ← Nat.add_assoc, nI_succ, nI_succ] at hI
              exact hI
            · refine ⟨rfl, fun q => absurd (q.symm.trans h71) (by decide), fun q => Or.inl ⟨i, j, hij, hjN, hPij, ?_, fun i' j' a1 a2 a3 => ?_⟩⟩
              · rw [show (10 : Int32) = nI 10 from rfl, pk_mul, nI_add]
              · have h1 := hno q i' j' a1 a2 a3
                by_cases e : i' = i
                · subst e; exact Or.inr ⟨rfl, hno2 q j' a1 a2 a3⟩
                · left; omega
          refine V_iload (pc := 34) hG (dk dd_X2_pairs 19 rfl) rfl ?_
          refine V_iload_n (pc := 36) hG (dk dd_X2_pairs 20 rfl) rfl ?_
          refine V_icmp_ge (pc := 37) hG (dk dd_X2_pairs 21 rfl) (tgt := 92) (by decide) (fun h37 => ?_) (fun h37 => ?_)
          rotate_left
          refine V_iload_n (pc := 40) hG (dk dd_X2_pairs 22 rfl) rfl ?_
          refine V_if_eq (pc := 41) hG (dk dd_X2_pairs 23 rfl) (tgt := 58) (by decide) (fun h41 => ?_) (fun h41 => ?_)
          refine V_aload_n (pc := 58) hG (dk dd_X2_pairs 30 rfl) rfl ?_
          refine V_iload (pc := 59) hG (dk dd_X2_pairs 31 rfl) rfl ?_
          refine V_iload (pc := 61) hG (dk dd_X2_pairs 32 rfl) rfl ?_
          refine V_callVip (pc := 63) hG (dk dd_X2_pairs 33 rfl) ml_X2_96 mo_X2_clash hb.s0 rfl (c_clash (α := α) hb hA hv (i := i) (j := j) rfl ?_ rfl ?_) (by decide) (by decide) rfl rfl rfl (fun x63 m63 p63 => ?_)
          rotate_left
          rotate_left
          refine V_if_eq (pc := 66) hG (dk dd_X2_pairs 34 rfl) (tgt := 86) (by decide) (fun h66 => ?_) (fun h66 => ?_)
          rotate_left
          rotate_left
          refine V_aload_n (pc := 44) hG (dk dd_X2_pairs 24 rfl) rfl ?_
          refine V_iload (pc := 45) hG (dk dd_X2_pairs 25 rfl) rfl ?_
          refine V_iload (pc := 47) hG (dk dd_X2_pairs 26 rfl) rfl ?_
          refine V_callVip (pc := 49) hG (dk dd_X2_pairs 27 rfl) ml_X2_92 mo_X2_doTheSame hb.s0 rfl (c_doTheSame (α := α) hb hA hv (i := i) (j := j) rfl ?_ rfl ?_) (by decide) (by decide) rfl rfl rfl (fun x49 m49 p49 => ?_)
          rotate_left
          rotate_left
          refine V_if_eq (pc := 52) hG (dk dd_X2_pairs 28 rfl) (tgt := 86) (by decide) (fun h52 => ?_) (fun h52 => ?_)
          rotate_left
          refine V_goto (pc := 55) hG (dk dd_X2_pairs 29 rfl) (tgt := 69) (by decide) ?_
          rotate_left
          -- leaves: stop 92; call clash@63 0; call clash@63 1; stop 86; stop 69; call doTheSame@49 0; call doTheSame@49 1; stop 86; stop 69
          · exfalso; have := le_i h37 (by omega) (by omega); omega
          · rcases hz with q | q
            · exact absurd (h41.symm.trans q.1) (by decide)
            · omega
          · rcases hz with q | q
            · exact absurd (h41.symm.trans q.1) (by decide)
            · omega
          · obtain ⟨rfl, p63⟩ := p63
            rcases hz with q | q
            · exact absurd (h41.symm.trans q.1) (by decide)
            · exact next (by rw [q.2.2]; exact p63.no h66)
          · obtain ⟨rfl, p63⟩ := p63
            rcases hz with q | q
            · exact absurd (h41.symm.trans q.1) (by decide)
            · exact found (by rw [q.2.2]; exact p63.yes h66)
          · rcases hz with q | q
            · omega
            · exact absurd q.1 h41
          · rcases hz with q | q
            · omega
            · exact absurd q.1 h41
          · obtain ⟨rfl, p49⟩ := p49
            rcases hz with q | q
            · exact next (by rw [q.2.2]; exact p49.no h52)
            · exact absurd q.1 h41
          · obtain ⟨rfl, p49⟩ := p49
            rcases hz with q | q
            · exact found (by rw [q.2.2]; exact p49.yes h52)
            · exact absurd q.1 h41
      have hI := inner (N - (i + 1)) (i + 1) (by omega) (by omega) (fun _ j' a _ _ => by omega)
      rw [hg, Nat.add_zero, nI_succ] at hI
      refine V_iload (pc := 22) hG (dk dd_X2_pairs 12 rfl) rfl ?_
      refine V_iload_n (pc := 24) hG (dk dd_X2_pairs 13 rfl) rfl ?_
      refine V_icmp_ge (pc := 25) hG (dk dd_X2_pairs 14 rfl) (tgt := 98) (by decide) (fun h25 => ?_) (fun h25 => ?_)
      rotate_left
      refine V_iload (pc := 28) hG (dk dd_X2_pairs 15 rfl) rfl ?_
      refine V_iconst (pc := 30) hG (dk dd_X2_pairs 16 rfl) (v := 1) (by decide) ?_
      refine V_iadd (pc := 31) hG (dk dd_X2_pairs 17 rfl) ?_
      refine V_istore (pc := 32) hG (dk dd_X2_pairs 18 rfl) (by decide) (lv' := [(0, _), (1, _), (2, _), (3, _), (4, _), (5, _), (6, _)]) rfl ?_
      rotate_left
      -- leaves: stop 98; stop 34
      · exfalso; have := le_i h25 (by omega) (by omega); omega
      · exact hI
  have hI := loop N 0 (by omega) (fun _ i' _ _ _ _ => Nat.zero_le i')
  refine V_iload_n (pc := 0) hG (dk dd_X2_pairs 0 rfl) rfl ?_
  refine V_if_eq (pc := 1) hG (dk dd_X2_pairs 1 rfl) (tgt := 11) (by decide) (fun h1 => ?_) (fun h1 => ?_)
  refine V_aload_n (pc := 11) hG (dk dd_X2_pairs 5 rfl) rfl ?_
  refine V_getI (pc := 12) hG (dk dd_X2_pairs 6 rfl) fl_X2_55 hb.s0 rfl ?_
  refine V_istore_n (pc := 15) hG (dk dd_X2_pairs 7 rfl) (by decide) (lv' := [(0, _), (1, _), (2, _), (3, _)]) rfl ?_
  refine V_iconst (pc := 16) hG (dk dd_X2_pairs 8 rfl) (v := 0) (by decide) ?_
  refine V_istore (pc := 17) hG (dk dd_X2_pairs 9 rfl) (by decide) (lv' := [(0, _), (1, _), (2, _), (3, _), (4, _)]) rfl ?_
  refine V_iconst (pc := 19) hG (dk dd_X2_pairs 10 rfl) (v := 0) (by decide) ?_
  refine V_istore (pc := 20) hG (dk dd_X2_pairs 11 rfl) (by decide) (lv' := [(0, _), (1, _), (2, _), (3, _), (4, _), (5, _)]) rfl ?_
  rotate_left
  refine V_aload_n (pc := 4) hG (dk dd_X2_pairs 2 rfl) rfl ?_
  refine V_getI (pc := 5) hG (dk dd_X2_pairs 3 rfl) fl_X2_52 hb.s0 rfl ?_
  refine V_goto (pc := 8) hG (dk dd_X2_pairs 4 rfl) (tgt := 15) (by decide) ?_
  refine V_istore_n (pc := 15) hG (dk dd_X2_pairs 7 rfl) (by decide) (lv' := [(0, _), (1, _), (2, _), (3, _)]) rfl ?_
  refine V_iconst (pc := 16) hG (dk dd_X2_pairs 8 rfl) (v := 0) (by decide) ?_
  refine V_istore (pc := 17) hG (dk dd_X2_pairs 9 rfl) (by decide) (lv' := [(0, _), (1, _), (2, _), (3, _), (4, _)]) rfl ?_
  refine V_iconst (pc := 19) hG (dk dd_X2_pairs 10 rfl) (v := 0) (by decide) ?_
  refine V_istore (pc := 20) hG (dk dd_X2_pairs 11 rfl) (by decide) (lv' := [(0, _), (1, _), (2, _), (3, _), (4, _), (5, _)]) rfl ?_
  rotate_left
  -- leaves: stop 22; stop 22
  · rcases hz with q | q
    · exact absurd (h1.symm.trans q.1) (by decide)
    · rw [e7, ← q.2.1]; exact hI
  · rcases hz with q | q
    · rw [e6, ← q.2.1]; exact hI
    · exact absurd q.1 h1
