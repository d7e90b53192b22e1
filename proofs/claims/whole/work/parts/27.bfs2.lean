def Full (α : Al) (n N : Nat) (ρ : Nat → List Nat) : Prop := (∀ i, i < N → (ρ i).length ≤ n) ∧ ∀ w, Hs α w → w.length ≤ n → ∃ j, j < N ∧ endN α (α 0 3) (ρ j) = endN α (α 0 3) w ∧ le_sl (ρ j) w
/-- the hums of the dream i have been gone through, those below m -/
def Done (α : Al) (N : Nat) (ρ : Nat → List Nat) (i m : Nat) : Prop := ∀ h, h < m → ∃ j, j < N ∧ endN α (α 0 3) (ρ j) = humN α h (endN α (α 0 3) (ρ i)) ∧ le_sl (ρ j) (ρ i ++ [h])
theorem full_of {α : Al} {n N a : Nat} {ρ : Nat → List Nat} (h0 : ρ 0 = []) (h1 : 1 ≤ N) (hd : ∀ i, i < N → (ρ i).length ≤ n) (hp : ∀ i, i < a → i < N → Done α N ρ i (α 0 6)) (hr : ∀ i, a ≤ i → i < N → n ≤ (ρ i).length) : Full α n N ρ := by
  refine ⟨hd, ?_⟩
  have key : ∀ k w, w.length = k → Hs α w → w.length ≤ n → ∃ j, j < N ∧ endN α (α 0 3) (ρ j) = endN α (α 0 3) w ∧ le_sl (ρ j) w := by
    intro k
    induction k with
    | zero =>
      intro w hw _ _
      have : w = [] := List.length_eq_zero_iff.mp hw
      subst this
      exact ⟨0, by omega, by rw [h0], Or.inl h0⟩
    | succ k ih =>
      intro w hw hs hl
      rcases List.eq_nil_or_concat w with e | ⟨u, b, e⟩
      · rw [e] at hw; simp at hw
      · have e : w = u ++ [b] := by rw [e]; simp
        subst e
        have hu : u.length = k := by simp at hw; exact hw
        obtain ⟨j, j1, j2, j3⟩ := ih u hu hs.sn.1 (by omega)
        have hja : j < a := by
          rcases Nat.lt_or_ge j a with q | q
          · exact q
          · exfalso
            have q1 := hr j q j1
            have q2 := le_sl_len j3
            simp at hl
            omega
        obtain ⟨i, i1, i2, i3⟩ := hp j hja j1 b hs.sn.2
        exact ⟨i, i1, by rw [i2, endN_sn, j2], le_sl_tr i3 (le_sl_sn j3)⟩
  exact fun w hs hl => key w.length w rfl hs hl
theorem Done.grow {α : Al} {N : Nat} {ρ : Nat → List Nat} {i m : Nat} {v : List Nat} (h : Done α N ρ i m) (hi : i < N) : Done α (N + 1) (fun q => if q = N then v else ρ q) i m := by
  intro b hb
  obtain ⟨j, j1, j2, j3⟩ := h b hb
  refine ⟨j, by omega, ?_, ?_⟩
  · show endN α (α 0 3) (if j = N then v else ρ j) = humN α b (endN α (α 0 3) (if i = N then v else ρ i))
    rw [if_neg (by omega), if_neg (by omega)]; exact j2
  · show le_sl (if j = N then v else ρ j) ((if i = N then v else ρ i) ++ [b])
    rw [if_neg (by omega), if_neg (by omega)]; exact j3
set_option maxHeartbeats 1000000 in
theorem c_goWithin {μ : Mem} {α : Al} (hA : Abs (kac μ 15) α) (hv : Val α) {x : Int32} {n : Nat} (hx : x = nI n) (hn : n ≤ 12) :
    CtP yX8_goWithin cX8_goWithin 4 none 4 [vR 51, vI x] μ (Pv (fun μ' => (∀ c, (c < 51 ∨ 57 < c) → μ' c = μ c) ∧ ∃ N ρ fr, BF μ' α N ρ fr ∧ Full α n N ρ)) := by
  refine CtP.go RX8 rfl pn_X8 (Nat.le_of_ble_eq_true rfl) (fun C hG hR => ?_)
  have e3 : μ 15 3 = nI (α 0 3) := hA.1 3 (by decide)
  have e6 : μ 15 6 = nI (α 0 6) := hA.1 6 (by decide)
  have hH := hv.H
  have hD8 := hv.lt hv.D
  have loop : ∀ k a μ1 N ρ fr, a + k = 256 → (∀ c, (c < 51 ∨ 57 < c) → μ1 c = μ c) → BF μ1 α N ρ fr → a ≤ N → (∀ i, i < N → (ρ i).length ≤ n) → (∀ i, i < a → i < N → Done α N ρ i (α 0 6)) → (∀ j, 0 < j → j < N → fr j < a) → V C 29 [(0, vR 51), (1, vI x), (2, vI (nI a))] [] μ1 := by
    intro k
    induction k with
    | zero =>
      intro a μ1 N ρ fr hk f1 hB haN hd hp hf
      have hN := hB.le
      refine V_iload_n (pc := 29) hG (dk dd_X8_goWithin 17 rfl) rfl ?_
      refine V_sipush (pc := 30) hG (dk dd_X8_goWithin 18 rfl) (v := 256) (by decide) ?_
      refine V_icmp_ge (pc := 33) hG (dk dd_X8_goWithin 19 rfl) (tgt := 107) (by decide) (fun h33 => ?_) (fun h33 => ?_)
      refine V_vretP (pc := 107) hG (dk dd_X8_goWithin 59 rfl) hR (Pv.mk ?_)
      rotate_left
      rotate_left
      -- leaves: return@107; stop 36
      · exact ⟨f1, N, ρ, fr, hB, full_of hB.2.2.2.1 hB.2.2.2.2.1 hd hp (fun i h1 h2 => by omega)⟩
      · exfalso; have := nle_i (a := 256) h33 (by omega) (by omega); omega
    | succ k ih =>
      intro a μ1 N ρ fr hk f1 hB haN hd hp hf
      have hN := hB.le
      have hr : vp_in (nI a) 256 := vp_in_nI (by omega) (by decide)
      have ca : (nI a).toNatClampNeg = a := nI_clamp (by omega)
      have inner : ∀ kk h μ2 N2 ρ2 fr2, h + kk = α 0 6 → (∀ c, (c < 51 ∨ 57 < c) → μ2 c = μ c) → BF μ2 α N2 ρ2 fr2 → a < N2 → (ρ2 a).length < n → (∀ i, i < N2 → (ρ2 i).length ≤ n) → (∀ i, i < a → i < N2 → Done α N2 ρ2 i (α 0 6)) → Done α N2 ρ2 a h → (∀ j, 0 < j → j < N2 → fr2 j ≤ a) → (∀ j, j < N2 → sl (ρ2 j) (ρ2 a ++ [h])) → V C 56 [(0, vR 51), (1, vI x), (2, vI (nI a)), (3, vI (nI h))] [] μ2 := by
        intro kk
        induction kk with
        | zero =>
          intro h μ2 N2 ρ2 fr2 hkk g1 hB2 ha2 hla hd2 hp2 hpa hf2 hs2
          have e62 : μ2 15 6 = nI (α 0 6) := by rw [g1 15 (by omega)]; exact e6
          have hI := ih (a + 1) μ2 N2 ρ2 fr2 (by omega) g1 hB2 (by omega) hd2 (fun i h1 h2 => by
            by_cases e : i = a
            · subst e; rw [show α 0 6 = h by omega]; exact hpa
            · exact hp2 i (by omega) h2) (fun j h1 h2 => by have := hf2 j h1 h2; omega)
          rw [nI_succ] at hI
          refine V_iload_n (pc := 56) hG (dk dd_X8_goWithin 32 rfl) rfl ?_
          refine V_aload_n (pc := 57) hG (dk dd_X8_goWithin 33 rfl) rfl ?_
          refine V_getR (pc := 58) hG (dk dd_X8_goWithin 34 rfl) fl_X8_30 sh_51 rfl ?_
          refine V_getI (pc := 61) hG (dk dd_X8_goWithin 35 rfl) fl_X8_64 sh_15 rfl ?_
          refine V_icmp_ge (pc := 64) hG (dk dd_X8_goWithin 36 rfl) (tgt := 101) (by decide) (fun h64 => ?_) (fun h64 => ?_)
          refine V_iinc (pc := 101) hG (dk dd_X8_goWithin 57 rfl) rfl (v := _ + 1) rfl (by decide) (lv' := [(0, _), (1, _), (2, _), (3, _)]) rfl ?_
          refine V_goto (pc := 104) hG (dk dd_X8_goWithin 58 rfl) (tgt := 29) (by decide) ?_
          refine V_keep [0, 1, 2] (lv' := [(0, _), (1, _), (2, _)]) rfl ?_
          rotate_left
          rotate_left
          -- leaves: stop 29; stop 67
          · exact hI
          · exfalso; rw [e62] at h64; have := nle_i h64 (by omega) (by omega); omega
        | succ kk ihk =>
          intro h μ2 N2 ρ2 fr2 hkk g1 hB2 ha2 hla hd2 hp2 hpa hf2 hs2
          have e62 : μ2 15 6 = nI (α 0 6) := by rw [g1 15 (by omega)]; exact e6
          have hA2 : Abs (kac μ2 15) α := hA.off (fun x hx => g1 _ (by omega))
          have hN2 := hB2.le
          obtain ⟨b2a, b2b, b2c⟩ := hB2.2.1 a ha2
          have hh : h < α 0 6 := by omega
          have ed : μ2 54 (nI a).toNatClampNeg = nI (endN α (α 0 3) (ρ2 a)) := by rw [ca]; exact b2b
          have ew : μ2 57 (nI a).toNatClampNeg + 1 = nI ((ρ2 a).length + 1) := by rw [ca, b2c, nI_1]
          have hla8 := endN_lt hv hv.D b2a
          have eE : humN α h (endN α (α 0 3) (ρ2 a)) = endN α (α 0 3) (ρ2 a ++ [h]) := (endN_sn α _ _ _).symm
          have hE8 : humN α h (endN α (α 0 3) (ρ2 a)) < 256 := hv.lt (humN_lt hv hh hla8)
          refine V_iload_n (pc := 56) hG (dk dd_X8_goWithin 32 rfl) rfl ?_
          refine V_aload_n (pc := 57) hG (dk dd_X8_goWithin 33 rfl) rfl ?_
          refine V_getR (pc := 58) hG (dk dd_X8_goWithin 34 rfl) fl_X8_30 sh_51 rfl ?_
          refine V_getI (pc := 61) hG (dk dd_X8_goWithin 35 rfl) fl_X8_64 sh_15 rfl ?_
          refine V_icmp_ge (pc := 64) hG (dk dd_X8_goWithin 36 rfl) (tgt := 101) (by decide) (fun h64 => ?_) (fun h64 => ?_)
          rotate_left
          refine V_aload_n (pc := 67) hG (dk dd_X8_goWithin 37 rfl) rfl ?_
          refine V_aload_n (pc := 68) hG (dk dd_X8_goWithin 38 rfl) rfl ?_
          refine V_getR (pc := 69) hG (dk dd_X8_goWithin 39 rfl) fl_X8_30 sh_51 rfl ?_
          refine V_iload_n (pc := 72) hG (dk dd_X8_goWithin 40 rfl) rfl ?_
          refine V_aload_n (pc := 73) hG (dk dd_X8_goWithin 41 rfl) rfl ?_
          refine V_getR (pc := 74) hG (dk dd_X8_goWithin 42 rfl) fl_X8_18 sh_51 rfl ?_
          refine V_iload_n (pc := 77) hG (dk dd_X8_goWithin 43 rfl) rfl ?_
          refine V_iald (pc := 78) hG (dk dd_X8_goWithin 44 rfl) sh_54 hr ?_
          refine V_callVi (pc := 79) hG (dk dd_X8_goWithin 45 rfl) ml_X8_67 mo_X2_by sh_15 rfl (c_by co_now hA2 hv rfl hh ed hla8) (by decide) (by decide) rfl rfl rfl ?_
          refine V_iload_n (pc := 82) hG (dk dd_X8_goWithin 46 rfl) rfl ?_
          refine V_iload_n (pc := 83) hG (dk dd_X8_goWithin 47 rfl) rfl ?_
          refine V_aload_n (pc := 84) hG (dk dd_X8_goWithin 48 rfl) rfl ?_
          refine V_getR (pc := 85) hG (dk dd_X8_goWithin 49 rfl) fl_X8_27 sh_51 rfl ?_
          refine V_iload_n (pc := 88) hG (dk dd_X8_goWithin 50 rfl) rfl ?_
          refine V_iald (pc := 89) hG (dk dd_X8_goWithin 51 rfl) sh_57 hr ?_
          refine V_iconst (pc := 90) hG (dk dd_X8_goWithin 52 rfl) (v := 1) (by decide) ?_
          refine V_iadd (pc := 91) hG (dk dd_X8_goWithin 53 rfl) ?_
          refine V_callVvp (pc := 92) hG (dk dd_X8_goWithin 54 rfl) ml_X8_74 mo_X8_meet sh_51 rfl (c_meet (N := N2) rfl hE8 hB2.1 (fun q => hB2.lt hE8 q)) (by decide) (by decide) rfl rfl rfl (fun m92 p92 => ?_)
          refine V_iinc (pc := 95) hG (dk dd_X8_goWithin 55 rfl) rfl (v := _ + 1) rfl (by decide) (lv' := [(0, _), (1, _), (2, _), (3, _)]) rfl ?_
          refine V_goto (pc := 98) hG (dk dd_X8_goWithin 56 rfl) (tgt := 56) (by decide) ?_
          rotate_left
          -- leaves: stop 101; stop 56
          · exfalso; rw [e62] at h64; have := le_i h64 (by omega) (by omega); omega
          · rcases hB2.add hv ha2 hh hs2 eE rfl rfl rfl ew p92 with ⟨rfl, j, j1, j2, j3⟩ | ⟨hB3, g3⟩
            · have hI := ihk (h + 1) m92 N2 ρ2 fr2 (by omega) g1 hB2 ha2 hla hd2 hp2 (fun b hb => by
                by_cases e : b = h
                · subst e; exact ⟨j, j1, j2, Or.inr j3⟩
                · exact hpa b (by omega)) hf2 (fun i hi => sl_tr (hs2 i hi) (sl_sn2 _ (Nat.lt_succ_self h)))
              rw [nI_succ] at hI
              exact hI
            · have hI := ihk (h + 1) m92 (N2 + 1) _ _ (by omega) (fun c hc => (g3 c hc).trans (g1 c hc)) hB3 (by omega) (by show (if a = N2 then _ else ρ2 a).length < n; rw [if_neg (by omega)]; exact hla) (fun i hi => by
                  show (if i = N2 then ρ2 a ++ [h] else ρ2 i).length ≤ n
                  by_cases e : i = N2
                  · rw [if_pos e, List.length_append]; show (ρ2 a).length + 1 ≤ n; omega
                  · rw [if_neg e]; exact hd2 i (by omega)) (fun i h1 h2 => (hp2 i h1 (by omega)).grow (by omega)) (fun b hb => by
                  by_cases e : b = h
                  · subst e
                    refine ⟨N2, by omega, ?_, ?_⟩
                    · show endN α (α 0 3) (if N2 = N2 then _ else ρ2 N2) = humN α b (endN α (α 0 3) (if a = N2 then _ else ρ2 a))
                      rw [if_pos rfl, if_neg (by omega), endN_sn]
                    · show le_sl (if N2 = N2 then _ else ρ2 N2) ((if a = N2 then _ else ρ2 a) ++ [b])
                      rw [if_pos rfl, if_neg (by omega)]; exact Or.inl rfl
                  · exact hpa.grow ha2 b (by omega)) (fun j h1 h2 => by
                  show (if j = N2 then a else fr2 j) ≤ a
                  by_cases e : j = N2
                  · rw [if_pos e]; exact Nat.le_refl a
                  · rw [if_neg e]; exact hf2 j h1 (by omega)) (fun j hj => by
                  show sl (if j = N2 then _ else ρ2 j) ((if a = N2 then _ else ρ2 a) ++ [h + 1])
                  rw [if_neg (show a ≠ N2 by omega)]
                  by_cases e : j = N2
                  · rw [if_pos e]; exact sl_sn2 _ (Nat.lt_succ_self h)
                  · rw [if_neg e]; exact sl_tr (hs2 j (by omega)) (sl_sn2 _ (Nat.lt_succ_self h)))
              rw [nI_succ] at hI
              exact hI
      refine V_iload_n (pc := 29) hG (dk dd_X8_goWithin 17 rfl) rfl ?_
      refine V_sipush (pc := 30) hG (dk dd_X8_goWithin 18 rfl) (v := 256) (by decide) ?_
      refine V_icmp_ge (pc := 33) hG (dk dd_X8_goWithin 19 rfl) (tgt := 107) (by decide) (fun h33 => ?_) (fun h33 => ?_)
      refine V_vretP (pc := 107) hG (dk dd_X8_goWithin 59 rfl) hR (Pv.mk ?_)
      rotate_left
      refine V_iload_n (pc := 36) hG (dk dd_X8_goWithin 20 rfl) rfl ?_
      refine V_aload_n (pc := 37) hG (dk dd_X8_goWithin 21 rfl) rfl ?_
      refine V_getI (pc := 38) hG (dk dd_X8_goWithin 22 rfl) fl_X8_71 sh_51 rfl ?_
      refine V_icmp_ge (pc := 41) hG (dk dd_X8_goWithin 23 rfl) (tgt := 107) (by decide) (fun h41 => ?_) (fun h41 => ?_)
      refine V_vretP (pc := 107) hG (dk dd_X8_goWithin 59 rfl) hR (Pv.mk ?_)
      rotate_left
      refine V_aload_n (pc := 44) hG (dk dd_X8_goWithin 24 rfl) rfl ?_
      refine V_getR (pc := 45) hG (dk dd_X8_goWithin 25 rfl) fl_X8_27 sh_51 rfl ?_
      refine V_iload_n (pc := 48) hG (dk dd_X8_goWithin 26 rfl) rfl ?_
      refine V_iald (pc := 49) hG (dk dd_X8_goWithin 27 rfl) sh_57 hr ?_
      refine V_iload_n (pc := 50) hG (dk dd_X8_goWithin 28 rfl) rfl ?_
      refine V_icmp_ge (pc := 51) hG (dk dd_X8_goWithin 29 rfl) (tgt := 107) (by decide) (fun h51 => ?_) (fun h51 => ?_)
      refine V_vretP (pc := 107) hG (dk dd_X8_goWithin 59 rfl) hR (Pv.mk ?_)
      rotate_left
      refine V_iconst (pc := 54) hG (dk dd_X8_goWithin 30 rfl) (v := 0) (by decide) ?_
      refine V_istore_n (pc := 55) hG (dk dd_X8_goWithin 31 rfl) (by decide) (lv' := [(0, _), (1, _), (2, _), (3, _)]) rfl ?_
      rotate_left
      -- leaves: return@107; return@107; return@107; stop 56
      · exfalso; have := le_i (a := 256) h33 (by omega) (by omega); omega
      · rw [hB.1] at h41; have := le_i h41 (by omega) (by omega)
        exact ⟨f1, N, ρ, fr, hB, full_of hB.2.2.2.1 hB.2.2.2.2.1 hd hp (fun i h1 h2 => by omega)⟩
      · rw [hB.1] at h41; have haN2 := nle_i h41 (by omega) (by omega)
        rw [ca, (hB.2.1 a haN2).2.2, hx] at h51
        have hla := hd a haN2
        have := le_i h51 (by omega) (by omega)
        refine ⟨f1, N, ρ, fr, hB, full_of hB.2.2.2.1 hB.2.2.2.2.1 hd hp (fun i h1 h2 => ?_)⟩
        by_cases e : a = i
        · subst e; exact this
        · have := le_sl_len (Or.inr (hB.2.2.2.2.2.1 a i (by omega) h2)); omega
      · rw [hB.1] at h41; have haN2 := nle_i h41 (by omega) (by omega)
        rw [ca, (hB.2.1 a haN2).2.2, hx] at h51
        have hla := hd a haN2
        have := nle_i h51 (by omega) (by omega)
        refine inner (α 0 6) 0 μ1 N ρ fr (by omega) f1 hB haN2 this hd hp (fun b hb => absurd hb (Nat.not_lt_zero b)) (fun j h1 h2 => Nat.le_of_lt (hf j h1 h2)) (fun j hj => ?_)
        by_cases e : j = 0
        · subst e; rw [hB.2.2.2.1]; exact sl_nil
        · obtain ⟨_, _, b, _, _, c5⟩ := hB.2.2.1 j (by omega) hj
          rw [c5]; exact sl_sn1 (hB.2.2.2.2.2.1 (fr j) a (hf j (by omega) hj) haN2)
  refine V_aload_n (pc := 0) hG (dk dd_X8_goWithin 0 rfl) rfl ?_
  refine V_getR (pc := 1) hG (dk dd_X8_goWithin 1 rfl) fl_X8_9 sh_51 rfl ?_
  refine V_iconst (pc := 4) hG (dk dd_X8_goWithin 2 rfl) (v := 0) (by decide) ?_
  refine V_callSvp (pc := 5) hG (dk dd_X8_goWithin 3 rfl) ml_X8_45 mo_J7_fill_53178 (c_fill sh_52 (by decide)) (by decide) (by decide) rfl rfl rfl (fun m5 p5 => ?_)
  refine V_aload_n (pc := 8) hG (dk dd_X8_goWithin 4 rfl) rfl ?_
  refine V_iconst (pc := 9) hG (dk dd_X8_goWithin 5 rfl) (v := 0) (by decide) ?_
  refine V_putI (pc := 10) hG (dk dd_X8_goWithin 6 rfl) fl_X8_71 sh_51 rfl rfl ?_
  refine V_aload_n (pc := 13) hG (dk dd_X8_goWithin 7 rfl) rfl ?_
  refine V_aload_n (pc := 14) hG (dk dd_X8_goWithin 8 rfl) rfl ?_
  refine V_getR (pc := 15) hG (dk dd_X8_goWithin 9 rfl) fl_X8_30 sh_51 rfl ?_
  refine V_getI (pc := 18) hG (dk dd_X8_goWithin 10 rfl) fl_X8_51 sh_15 rfl ?_
  refine V_iconst (pc := 21) hG (dk dd_X8_goWithin 11 rfl) (v := -1) (by decide) ?_
  refine V_iconst (pc := 22) hG (dk dd_X8_goWithin 12 rfl) (v := -1) (by decide) ?_
  refine V_iconst (pc := 23) hG (dk dd_X8_goWithin 13 rfl) (v := 0) (by decide) ?_
  refine V_callVvp (pc := 24) hG (dk dd_X8_goWithin 14 rfl) ml_X8_74 mo_X8_meet sh_51 rfl (c_meet (N := 0) (E := α 0 3) ?_ hD8 ?_ (fun _ => by decide)) (by decide) (by decide) rfl rfl rfl (fun m24 p24 => ?_)
  rotate_left
  rotate_left
  refine V_iconst (pc := 27) hG (dk dd_X8_goWithin 15 rfl) (v := 0) (by decide) ?_
  refine V_istore_n (pc := 28) hG (dk dd_X8_goWithin 16 rfl) (by decide) (lv' := [(0, _), (1, _), (2, _)]) rfl ?_
  rotate_left
  -- leaves: call meet@24 0; call meet@24 1; stop 29
  · obtain ⟨f, rfl, hf⟩ := p5; rw [setc_n (by decide), setc_n (by decide)]; exact e3
  · obtain ⟨f, rfl, hf⟩ := p5; rw [setc_s, pk_us]; rfl
  · obtain ⟨f, rfl, hf⟩ := p5
    have e52 : ∀ E, E < 256 → setc (setc μ 52 f) 51 (upd (setc μ 52 f 51) 7 0) 52 E = 0 := fun E hE => by rw [setc_n (by decide), setc_s]; exact hf E hE
    rcases p24 with ⟨q1, _⟩ | ⟨_, q2⟩
    · exact absurd (e52 _ hD8) q1
    · have hex : (setc (setc μ 52 f) 51 (upd (setc μ 52 f 51) 7 0)) 15 3 = nI (α 0 3) := by rw [setc_n (by decide), setc_n (by decide)]; exact e3
      rw [hex] at q2
      refine loop 256 0 m24 1 (fun _ => []) (fun _ => 0) (by omega) (fun c hc => by rw [q2]; simp (disch := omega) only [setc_n]) ⟨by rw [q2, setc_s, pk_us], fun i hi => ?_, fun i h1 h2 => by omega, rfl, by omega, fun i j h1 h2 => by omega, ?_, ?_⟩ (by omega) (fun i _ => Nat.zero_le n) (fun i h1 _ => absurd h1 (Nat.not_lt_zero i)) (fun j h1 h2 => by omega)
      · have : i = 0 := by omega
        subst this
        refine ⟨fun _ h => absurd h List.not_mem_nil, ?_, ?_⟩
        · rw [q2]; simp (disch := omega) only [setc_s, setc_n]; rw [pk_us]; rfl
        · rw [q2]; simp (disch := omega) only [setc_s, setc_n]; rw [pk_us]; rfl
      · rw [show m24 52 = upd (setc (setc μ 52 f) 51 (upd (setc μ 52 f 51) 7 0) 52) (α 0 3) 1 by rw [q2]; simp (disch := omega) only [setc_s, setc_n]]
        exact (Mk.upd (P := fun _ => False) (fun E hE => Or.inr ⟨e52 E hE, id⟩) (α 0 3)).cg (fun _ _ => rfl) (fun E _ => ⟨fun q => q.elim False.elim (fun z => ⟨0, by decide, z.symm⟩), fun ⟨i, _, h⟩ => Or.inr h.symm⟩)
      · rw [cntT_cg (Q := fun E => False ∨ E = α 0 3) (fun E _ => ⟨fun ⟨i, _, h⟩ => Or.inr h.symm, fun q => q.elim False.elim (fun z => ⟨0, by decide, z.symm⟩)⟩), cntT_add (P := fun _ => False) id, if_pos hD8]
        have : ∀ m, cntT (fun _ => False) m = 0 := by
          intro m; induction m with
          | zero => rfl
          | succ m ih => rw [cntT_s, ih, p1_f id]
        rw [this]
