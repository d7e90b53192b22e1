def FstI (α : Al) (N : Nat) (ρ : Nat → List Nat) (T : Nat → Prop) (r : Int32) : Prop := (∃ i, i < N ∧ r = nI i ∧ T (endN α (α 0 3) (ρ i)) ∧ ∀ j, j < i → ¬ T (endN α (α 0 3) (ρ j))) ∨ (r = -1 ∧ ∀ i, i < N → ¬ T (endN α (α 0 3) (ρ i)))
def TgT (a b : Nat) (E : Nat) : Prop := E &&& a = a ∧ E &&& b = 0
theorem c_firstWith {μ : Mem} {α : Al} (hv : Val α) {N : Nat} {ρ : Nat → List Nat} {fr : Nat → Nat} (hB : BF μ α N ρ fr) {x y : Int32} {a b : Nat} (hx : x = nI a) (ha : a < 256) (hy : y = nI b) (hb : b < 256) :
    CtP yX8_firstWith cX8_firstWith 4 (some .int) 0 [vR 51, vI x, vI y] μ (Pi (fun r μ' => μ' = μ ∧ FstI α N ρ (TgT a b) r)) := by
  refine CtP.go RX8 rfl pn_X8 (Nat.le_of_ble_eq_true rfl) (fun C hG hR => ?_)
  have hN := hB.le
  have loop : ∀ k i, i + k = N → (∀ j, j < i → ¬ TgT a b (endN α (α 0 3) (ρ j))) → V C 2 [(0, vR 51), (1, vI x), (2, vI y), (3, vI (nI i))] [] μ := by
    intro k
    induction k with
    | zero =>
      intro i hi hn
      refine V_iload_n (pc := 2) hG (dk dd_X8_firstWith 2 rfl) rfl ?_
      refine V_aload_n (pc := 3) hG (dk dd_X8_firstWith 3 rfl) rfl ?_
      refine V_getI (pc := 4) hG (dk dd_X8_firstWith 4 rfl) fl_X8_71 sh_51 rfl ?_
      refine V_icmp_ge (pc := 7) hG (dk dd_X8_firstWith 5 rfl) (tgt := 41) (by decide) (fun h7 => ?_) (fun h7 => ?_)
      refine V_iconst (pc := 41) hG (dk dd_X8_firstWith 25 rfl) (v := -1) (by decide) ?_
      refine V_iretP (pc := 42) hG (dk dd_X8_firstWith 26 rfl) hR (Pi.mk ?_)
      rotate_left
      rotate_left
      -- leaves: return@42; stop 10
      · exact ⟨rfl, Or.inr ⟨rfl, fun j hj => hn j (by omega)⟩⟩
      · exfalso; rw [hB.1] at h7; have := nle_i h7 (by omega) (by omega); omega
    | succ k ih =>
      intro i hi hn
      have hr : vp_in (nI i) 256 := vp_in_nI (by omega) (by decide)
      have em : μ 54 (nI i).toNatClampNeg = nI (endN α (α 0 3) (ρ i)) := by rw [nI_clamp (by omega)]; exact (hB.2.1 i (by omega)).2.1
      have hE := hv.lt (endN_lt hv hv.D (hB.2.1 i (by omega)).1)
      have q1 : nI (endN α (α 0 3) (ρ i)) &&& nI a = nI (endN α (α 0 3) (ρ i) &&& a) := q_andG (by omega) (by omega)
      have q2 : nI (endN α (α 0 3) (ρ i)) &&& nI b = nI (endN α (α 0 3) (ρ i) &&& b) := q_andG (by omega) (by omega)
      have l1 : endN α (α 0 3) (ρ i) &&& a ≤ a := Nat.and_le_right
      have l2 : endN α (α 0 3) (ρ i) &&& b ≤ b := Nat.and_le_right
      have hI := fun z => ih (i + 1) (by omega) z
      rw [nI_succ] at hI
      have go : ¬ TgT a b (endN α (α 0 3) (ρ i)) → ∀ j, j < i + 1 → ¬ TgT a b (endN α (α 0 3) (ρ j)) := fun hz j hj => by
        rcases Nat.lt_succ_iff_lt_or_eq.mp hj with z | z
        · exact hn j z
        · rw [z]; exact hz
      refine V_iload_n (pc := 2) hG (dk dd_X8_firstWith 2 rfl) rfl ?_
      refine V_aload_n (pc := 3) hG (dk dd_X8_firstWith 3 rfl) rfl ?_
      refine V_getI (pc := 4) hG (dk dd_X8_firstWith 4 rfl) fl_X8_71 sh_51 rfl ?_
      refine V_icmp_ge (pc := 7) hG (dk dd_X8_firstWith 5 rfl) (tgt := 41) (by decide) (fun h7 => ?_) (fun h7 => ?_)
      rotate_left
      refine V_aload_n (pc := 10) hG (dk dd_X8_firstWith 6 rfl) rfl ?_
      refine V_getR (pc := 11) hG (dk dd_X8_firstWith 7 rfl) fl_X8_18 sh_51 rfl ?_
      refine V_iload_n (pc := 14) hG (dk dd_X8_firstWith 8 rfl) rfl ?_
      refine V_iald (pc := 15) hG (dk dd_X8_firstWith 9 rfl) sh_54 hr ?_
      refine V_iload_n (pc := 16) hG (dk dd_X8_firstWith 10 rfl) rfl ?_
      refine V_iand (pc := 17) hG (dk dd_X8_firstWith 11 rfl) ?_
      refine V_iload_n (pc := 18) hG (dk dd_X8_firstWith 12 rfl) rfl ?_
      refine V_icmp_ne (pc := 19) hG (dk dd_X8_firstWith 13 rfl) (tgt := 35) (by decide) (fun h19 => ?_) (fun h19 => ?_)
      refine V_iinc (pc := 35) hG (dk dd_X8_firstWith 23 rfl) rfl (v := _ + 1) rfl (by decide) (lv' := [(0, _), (1, _), (2, _), (3, _)]) rfl ?_
      refine V_goto (pc := 38) hG (dk dd_X8_firstWith 24 rfl) (tgt := 2) (by decide) ?_
      rotate_left
      refine V_aload_n (pc := 22) hG (dk dd_X8_firstWith 14 rfl) rfl ?_
      refine V_getR (pc := 23) hG (dk dd_X8_firstWith 15 rfl) fl_X8_18 sh_51 rfl ?_
      refine V_iload_n (pc := 26) hG (dk dd_X8_firstWith 16 rfl) rfl ?_
      refine V_iald (pc := 27) hG (dk dd_X8_firstWith 17 rfl) sh_54 hr ?_
      refine V_iload_n (pc := 28) hG (dk dd_X8_firstWith 18 rfl) rfl ?_
      refine V_iand (pc := 29) hG (dk dd_X8_firstWith 19 rfl) ?_
      refine V_if_ne (pc := 30) hG (dk dd_X8_firstWith 20 rfl) (tgt := 35) (by decide) (fun h30 => ?_) (fun h30 => ?_)
      refine V_iinc (pc := 35) hG (dk dd_X8_firstWith 23 rfl) rfl (v := _ + 1) rfl (by decide) (lv' := [(0, _), (1, _), (2, _), (3, _)]) rfl ?_
      refine V_goto (pc := 38) hG (dk dd_X8_firstWith 24 rfl) (tgt := 2) (by decide) ?_
      rotate_left
      refine V_iload_n (pc := 33) hG (dk dd_X8_firstWith 21 rfl) rfl ?_
      refine V_iretP (pc := 34) hG (dk dd_X8_firstWith 22 rfl) hR (Pi.mk ?_)
      rotate_left
      -- leaves: stop 41; stop 2; stop 2; return@34
      · exfalso; rw [hB.1] at h7; have := le_i h7 (by omega) (by omega); omega
      · rw [em, hx, q1] at h19
        exact hI (go (fun z => h19 (by rw [z.1])))
      · rw [em, hy, q2] at h30
        exact hI (go (fun z => h30 (by rw [z.2]; rfl)))
      · rw [em, hx, q1] at h19; rw [em, hy, q2] at h30
        exact ⟨rfl, Or.inl ⟨i, by omega, rfl, ⟨(nI_eq (by omega) (by omega)).mp h19, (nI_eq (b := 0) (by omega) (by omega)).mp h30⟩, hn⟩⟩
  refine V_iconst (pc := 0) hG (dk dd_X8_firstWith 0 rfl) (v := 0) (by decide) ?_
  refine V_istore_n (pc := 1) hG (dk dd_X8_firstWith 1 rfl) (by decide) (lv' := [(0, _), (1, _), (2, _), (3, _)]) rfl ?_
  rotate_left
  -- leaves: stop 2
  · exact loop N 0 (by omega) (fun j hj => absurd hj (Nat.not_lt_zero j))
theorem c_firstFree {μ : Mem} {α : Al} (hA : Abs (kac μ 15) α) (hv : Val α) {N : Nat} {ρ : Nat → List Nat} {fr : Nat → Nat} (hB : BF μ α N ρ fr) {x : Int32} {c : Nat} (hx : x = nI c) (hc : c < α 0 7) :
    CtP yX8_firstFree cX8_firstFree 3 (some .int) 4 [vR 51, vI x] μ (Pi (fun r μ' => μ' = μ ∧ FstI α N ρ (fun E => verN α c E = 1) r)) := by
  refine CtP.go RX8 rfl pn_X8 (Nat.le_of_ble_eq_true rfl) (fun C hG hR => ?_)
  have hN := hB.le
  have loop : ∀ k i, i + k = N → (∀ j, j < i → ¬ verN α c (endN α (α 0 3) (ρ j)) = 1) → V C 2 [(0, vR 51), (1, vI x), (2, vI (nI i))] [] μ := by
    intro k
    induction k with
    | zero =>
      intro i hi hn
      refine V_iload_n (pc := 2) hG (dk dd_X8_firstFree 2 rfl) rfl ?_
      refine V_aload_n (pc := 3) hG (dk dd_X8_firstFree 3 rfl) rfl ?_
      refine V_getI (pc := 4) hG (dk dd_X8_firstFree 4 rfl) fl_X8_71 sh_51 rfl ?_
      refine V_icmp_ge (pc := 7) hG (dk dd_X8_firstFree 5 rfl) (tgt := 36) (by decide) (fun h7 => ?_) (fun h7 => ?_)
      refine V_iconst (pc := 36) hG (dk dd_X8_firstFree 20 rfl) (v := -1) (by decide) ?_
      refine V_iretP (pc := 37) hG (dk dd_X8_firstFree 21 rfl) hR (Pi.mk ?_)
      rotate_left
      rotate_left
      -- leaves: return@37; stop 10
      · exact ⟨rfl, Or.inr ⟨rfl, fun j hj => hn j (by omega)⟩⟩
      · exfalso; rw [hB.1] at h7; have := nle_i h7 (by omega) (by omega); omega
    | succ k ih =>
      intro i hi hn
      have hr : vp_in (nI i) 256 := vp_in_nI (by omega) (by decide)
      have em : μ 54 (nI i).toNatClampNeg = nI (endN α (α 0 3) (ρ i)) := by rw [nI_clamp (by omega)]; exact (hB.2.1 i (by omega)).2.1
      have hE := endN_lt hv hv.D (hB.2.1 i (by omega)).1
      have hI := fun z => ih (i + 1) (by omega) z
      rw [nI_succ] at hI
      have hv3 := verN_lt α c (endN α (α 0 3) (ρ i))
      refine V_iload_n (pc := 2) hG (dk dd_X8_firstFree 2 rfl) rfl ?_
      refine V_aload_n (pc := 3) hG (dk dd_X8_firstFree 3 rfl) rfl ?_
      refine V_getI (pc := 4) hG (dk dd_X8_firstFree 4 rfl) fl_X8_71 sh_51 rfl ?_
      refine V_icmp_ge (pc := 7) hG (dk dd_X8_firstFree 5 rfl) (tgt := 36) (by decide) (fun h7 => ?_) (fun h7 => ?_)
      rotate_left
      refine V_aload_n (pc := 10) hG (dk dd_X8_firstFree 6 rfl) rfl ?_
      refine V_getR (pc := 11) hG (dk dd_X8_firstFree 7 rfl) fl_X8_30 sh_51 rfl ?_
      refine V_iload_n (pc := 14) hG (dk dd_X8_firstFree 8 rfl) rfl ?_
      refine V_aload_n (pc := 15) hG (dk dd_X8_firstFree 9 rfl) rfl ?_
      refine V_getR (pc := 16) hG (dk dd_X8_firstFree 10 rfl) fl_X8_18 sh_51 rfl ?_
      refine V_iload_n (pc := 19) hG (dk dd_X8_firstFree 11 rfl) rfl ?_
      refine V_iald (pc := 20) hG (dk dd_X8_firstFree 12 rfl) sh_54 hr ?_
      refine V_callVi (pc := 21) hG (dk dd_X8_firstFree 13 rfl) ml_X8_78 mo_X2_verdict sh_15 rfl (c_verdict co_now hA hv hx hc em hE) (by decide) (by decide) rfl rfl rfl ?_
      refine V_iconst (pc := 24) hG (dk dd_X8_firstFree 14 rfl) (v := 1) (by decide) ?_
      refine V_icmp_ne (pc := 25) hG (dk dd_X8_firstFree 15 rfl) (tgt := 30) (by decide) (fun h25 => ?_) (fun h25 => ?_)
      refine V_iinc (pc := 30) hG (dk dd_X8_firstFree 18 rfl) rfl (v := _ + 1) rfl (by decide) (lv' := [(0, _), (1, _), (2, _)]) rfl ?_
      refine V_goto (pc := 33) hG (dk dd_X8_firstFree 19 rfl) (tgt := 2) (by decide) ?_
      rotate_left
      refine V_iload_n (pc := 28) hG (dk dd_X8_firstFree 16 rfl) rfl ?_
      refine V_iretP (pc := 29) hG (dk dd_X8_firstFree 17 rfl) hR (Pi.mk ?_)
      rotate_left
      -- leaves: stop 36; stop 2; return@29
      · exfalso; rw [hB.1] at h7; have := le_i h7 (by omega) (by omega); omega
      · refine hI (fun j hj => ?_)
        rcases Nat.lt_succ_iff_lt_or_eq.mp hj with z | z
        · exact hn j z
        · rw [z]; exact fun q => h25 (by rw [q]; rfl)
      · exact ⟨rfl, Or.inl ⟨i, by omega, rfl, (nI_eq (b := 1) (by omega) (by omega)).mp h25, hn⟩⟩
  refine V_iconst (pc := 0) hG (dk dd_X8_firstFree 0 rfl) (v := 0) (by decide) ?_
  refine V_istore_n (pc := 1) hG (dk dd_X8_firstFree 1 rfl) (by decide) (lv' := [(0, _), (1, _), (2, _)]) rfl ?_
  rotate_left
  -- leaves: stop 2
  · exact loop N 0 (by omega) (fun j hj => absurd hj (Nat.not_lt_zero j))
theorem c_humOfRowTo {μ : Mem} {α : Al} {n N : Nat} {ρ : Nat → List Nat} {fr : Nat → Nat} (hB : BF μ α N ρ fr) (hF : Full α n N ρ) (hn : n ≤ 12) {T : Nat → Prop} {x k : Int32} (hx : FstI α N ρ T x) (hk : -1 ≤ k) :
    CtP yX8_humOfRowTo cX8_humOfRowTo 5 (some .int) 0 [vR 51, vI x, vI k] μ (Pi (fun r μ' => μ' = μ ∧ WR α (α 0 3) n T k r)) := by
  refine CtP.go RX8 rfl pn_X8 (Nat.le_of_ble_eq_true rfl) (fun C hG hR => ?_)
  have hN := hB.le
  have none0 : x = -1 → ∀ w, Hs α w → w.length ≤ n → ¬ T (endN α (α 0 3) w) := by
    intro e w h1 h2 h3
    rcases hx with ⟨i, i1, i2, _⟩ | ⟨_, i2⟩
    · exact absurd (show nI i < 0 by rw [← i2, e]; decide) (nI_pos (by omega))
    · obtain ⟨j, j1, j2, _⟩ := hF.2 w h1 h2
      exact i2 j j1 (by rw [j2]; exact h3)
  have some0 : ¬ x = -1 → ∃ i, i < N ∧ x = nI i ∧ Best α (α 0 3) n T (ρ i) := by
    intro e
    rcases hx with ⟨i, i1, i2, i3, i4⟩ | ⟨q, _⟩
    · refine ⟨i, i1, i2, (hB.2.1 i i1).1, hF.1 i i1, i3, fun w h1 h2 h3 => ?_⟩
      obtain ⟨j, j1, j2, j3⟩ := hF.2 w h1 h2
      have hij : i ≤ j := Nat.not_lt.mp (fun q => i4 j q (by rw [j2]; exact h3))
      rcases Nat.lt_or_ge i j with q | q
      · exact le_sl_tr (Or.inr (hB.2.2.2.2.2.1 i j q j1)) j3
      · rw [show i = j by omega]; exact j3
    · exact absurd q e
  have back : ∀ i kk, i < N → Best α (α 0 3) n T (ρ i) → k = nI kk → kk < (ρ i).length → ∀ m q, q < N → (ρ q).length = kk + 1 + m → (ρ q).getD kk 0 = (ρ i).getD kk 0 → V C 43 [(0, vR 51), (1, vI x), (2, vI k), (3, vI (nI q)), (4, vI (nI (kk + 1 + m)))] [] μ := by
    intro i kk hi hBe hkk hkl m
    have hl12 := hF.1 i hi
    induction m with
    | zero =>
      intro q hq hl hg
      have hr : vp_in (nI q) 256 := vp_in_nI (by omega) (by decide)
      have cq : (nI q).toNatClampNeg = q := nI_clamp (by omega)
      have hq0 : 0 < q := by
        rcases Nat.eq_zero_or_pos q with z | z
        · rw [z, hB.2.2.2.1] at hl; simp at hl
        · exact z
      obtain ⟨_, _, h, _, c4, c5⟩ := hB.2.2.1 q hq0 hq
      refine V_iload (pc := 43) hG (dk dd_X8_humOfRowTo 28 rfl) rfl ?_
      refine V_iload_n (pc := 45) hG (dk dd_X8_humOfRowTo 29 rfl) rfl ?_
      refine V_iconst (pc := 46) hG (dk dd_X8_humOfRowTo 30 rfl) (v := 1) (by decide) ?_
      refine V_iadd (pc := 47) hG (dk dd_X8_humOfRowTo 31 rfl) ?_
      refine V_icmp_le (pc := 48) hG (dk dd_X8_humOfRowTo 32 rfl) (tgt := 64) (by decide) (fun h48 => ?_) (fun h48 => ?_)
      refine V_aload_n (pc := 64) hG (dk dd_X8_humOfRowTo 40 rfl) rfl ?_
      refine V_getR (pc := 65) hG (dk dd_X8_humOfRowTo 41 rfl) fl_X8_24 sh_51 rfl ?_
      refine V_iload_n (pc := 68) hG (dk dd_X8_humOfRowTo 42 rfl) rfl ?_
      refine V_iald (pc := 69) hG (dk dd_X8_humOfRowTo 43 rfl) sh_56 hr ?_
      refine V_iretP (pc := 70) hG (dk dd_X8_humOfRowTo 44 rfl) hR (Pi.mk ?_)
      rotate_left
      rotate_left
      -- leaves: return@70; stop 51
      · refine ⟨rfl, Or.inl ⟨ρ i, hBe, Or.inr (Or.inl ⟨kk, hkk, hkl, ?_⟩)⟩⟩
        rw [cq, c4, ← hg, c5]
        have : (ρ (fr q)).length = kk := by rw [c5] at hl; simp at hl; exact hl
        rw [List.getD_eq_getElem?_getD, List.getElem?_append_right (by omega), this, Nat.sub_self]; rfl
      · exfalso; rw [hkk, nI_1] at h48; exact h48 ((nI_leI (by omega) (by omega)).mpr (by omega))
    | succ m ihm =>
      intro q hq hl hg
      have hr : vp_in (nI q) 256 := vp_in_nI (by omega) (by decide)
      have cq : (nI q).toNatClampNeg = q := nI_clamp (by omega)
      have hlq := hF.1 q hq
      have hq0 : 0 < q := by
        rcases Nat.eq_zero_or_pos q with z | z
        · rw [z, hB.2.2.2.1] at hl; simp at hl
        · exact z
      obtain ⟨c1, c2, h, _, c4, c5⟩ := hB.2.2.1 q hq0 hq
      have hlf : (ρ (fr q)).length = kk + 1 + m := by rw [c5] at hl; simp at hl; omega
      have hI := ihm (fr q) (by omega) hlf (by
        rw [← hg, c5, List.getD_eq_getElem?_getD, List.getD_eq_getElem?_getD, List.getElem?_append_left (by omega)])
      refine V_iload (pc := 43) hG (dk dd_X8_humOfRowTo 28 rfl) rfl ?_
      refine V_iload_n (pc := 45) hG (dk dd_X8_humOfRowTo 29 rfl) rfl ?_
      refine V_iconst (pc := 46) hG (dk dd_X8_humOfRowTo 30 rfl) (v := 1) (by decide) ?_
      refine V_iadd (pc := 47) hG (dk dd_X8_humOfRowTo 31 rfl) ?_
      refine V_icmp_le (pc := 48) hG (dk dd_X8_humOfRowTo 32 rfl) (tgt := 64) (by decide) (fun h48 => ?_) (fun h48 => ?_)
      rotate_left
      refine V_aload_n (pc := 51) hG (dk dd_X8_humOfRowTo 33 rfl) rfl ?_
      refine V_getR (pc := 52) hG (dk dd_X8_humOfRowTo 34 rfl) fl_X8_21 sh_51 rfl ?_
      refine V_iload_n (pc := 55) hG (dk dd_X8_humOfRowTo 35 rfl) rfl ?_
      refine V_iald (pc := 56) hG (dk dd_X8_humOfRowTo 36 rfl) sh_55 hr ?_
      refine V_istore_n (pc := 57) hG (dk dd_X8_humOfRowTo 37 rfl) (by decide) (lv' := [(0, _), (1, _), (2, _), (3, _), (4, _)]) rfl ?_
      refine V_iinc (pc := 58) hG (dk dd_X8_humOfRowTo 38 rfl) rfl (v := _ + (-1)) rfl (by decide) (lv' := [(0, _), (1, _), (2, _), (3, _), (4, _)]) rfl ?_
      refine V_goto (pc := 61) hG (dk dd_X8_humOfRowTo 39 rfl) (tgt := 43) (by decide) ?_
      rotate_left
      -- leaves: stop 64; stop 43
      · exfalso; rw [hkk, nI_1] at h48; have := (nI_leI (by omega) (by omega)).mp h48; omega
      · rw [cq, c2, show kk + 1 + (m + 1) = (kk + 1 + m) + 1 by omega, pk_m1]; exact hI
  by_cases hx1 : x = -1
  · skip
    refine V_iload_n (pc := 0) hG (dk dd_X8_humOfRowTo 0 rfl) rfl ?_
    refine V_iconst (pc := 1) hG (dk dd_X8_humOfRowTo 1 rfl) (v := -1) (by decide) ?_
    refine V_icmp_ne (pc := 2) hG (dk dd_X8_humOfRowTo 2 rfl) (tgt := 8) (by decide) (fun h2 => ?_) (fun h2 => ?_)
    rotate_left
    refine V_ldc (pc := 5) hG (dk dd_X8_humOfRowTo 3 rfl) kk_X8_44 ?_
    refine V_iretP (pc := 7) hG (dk dd_X8_humOfRowTo 4 rfl) hR (Pi.mk ?_)
    rotate_left
    -- leaves: stop 8; return@7
    · exact absurd hx1 h2
    · exact ⟨rfl, Or.inr ⟨none0 hx1, rfl⟩⟩
  · obtain ⟨i, i1, i2, i3⟩ := some0 hx1
    have hr : vp_in x 256 := in_nI i2 (by omega) (by decide)
    have ci : x.toNatClampNeg = i := nI_cl i2 (by omega)
    have ed : μ 57 x.toNatClampNeg = nI (ρ i).length := by rw [ci]; exact (hB.2.1 i i1).2.2
    have hl12 := hF.1 i i1
    refine V_iload_n (pc := 0) hG (dk dd_X8_humOfRowTo 0 rfl) rfl ?_
    refine V_iconst (pc := 1) hG (dk dd_X8_humOfRowTo 1 rfl) (v := -1) (by decide) ?_
    refine V_icmp_ne (pc := 2) hG (dk dd_X8_humOfRowTo 2 rfl) (tgt := 8) (by decide) (fun h2 => ?_) (fun h2 => ?_)
    refine V_iload_n (pc := 8) hG (dk dd_X8_humOfRowTo 5 rfl) rfl ?_
    refine V_iconst (pc := 9) hG (dk dd_X8_humOfRowTo 6 rfl) (v := -1) (by decide) ?_
    refine V_icmp_ne (pc := 10) hG (dk dd_X8_humOfRowTo 7 rfl) (tgt := 20) (by decide) (fun h10 => ?_) (fun h10 => ?_)
    refine V_iload_n (pc := 20) hG (dk dd_X8_humOfRowTo 13 rfl) rfl ?_
    refine V_aload_n (pc := 21) hG (dk dd_X8_humOfRowTo 14 rfl) rfl ?_
    refine V_getR (pc := 22) hG (dk dd_X8_humOfRowTo 15 rfl) fl_X8_27 sh_51 rfl ?_
    refine V_iload_n (pc := 25) hG (dk dd_X8_humOfRowTo 16 rfl) rfl ?_
    refine V_iald (pc := 26) hG (dk dd_X8_humOfRowTo 17 rfl) sh_57 hr ?_
    refine V_icmp_lt (pc := 27) hG (dk dd_X8_humOfRowTo 18 rfl) (tgt := 33) (by decide) (fun h27 => ?_) (fun h27 => ?_)
    refine V_iload_n (pc := 33) hG (dk dd_X8_humOfRowTo 21 rfl) rfl ?_
    refine V_istore_n (pc := 34) hG (dk dd_X8_humOfRowTo 22 rfl) (by decide) (lv' := [(0, _), (1, _), (2, _), (3, _)]) rfl ?_
    refine V_aload_n (pc := 35) hG (dk dd_X8_humOfRowTo 23 rfl) rfl ?_
    refine V_getR (pc := 36) hG (dk dd_X8_humOfRowTo 24 rfl) fl_X8_27 sh_51 rfl ?_
    refine V_iload_n (pc := 39) hG (dk dd_X8_humOfRowTo 25 rfl) rfl ?_
    refine V_iald (pc := 40) hG (dk dd_X8_humOfRowTo 26 rfl) sh_57 hr ?_
    refine V_istore (pc := 41) hG (dk dd_X8_humOfRowTo 27 rfl) (by decide) (lv' := [(0, _), (1, _), (2, _), (3, _), (4, _)]) rfl ?_
    rotate_left
    refine V_ldc (pc := 30) hG (dk dd_X8_humOfRowTo 19 rfl) kk_X8_44 ?_
    refine V_iretP (pc := 32) hG (dk dd_X8_humOfRowTo 20 rfl) hR (Pi.mk ?_)
    rotate_left
    refine V_aload_n (pc := 13) hG (dk dd_X8_humOfRowTo 8 rfl) rfl ?_
    refine V_getR (pc := 14) hG (dk dd_X8_humOfRowTo 9 rfl) fl_X8_27 sh_51 rfl ?_
    refine V_iload_n (pc := 17) hG (dk dd_X8_humOfRowTo 10 rfl) rfl ?_
    refine V_iald (pc := 18) hG (dk dd_X8_humOfRowTo 11 rfl) sh_57 hr ?_
    refine V_iretP (pc := 19) hG (dk dd_X8_humOfRowTo 12 rfl) hR (Pi.mk ?_)
    rotate_left
    refine V_ldc (pc := 5) hG (dk dd_X8_humOfRowTo 3 rfl) kk_X8_44 ?_
    refine V_iretP (pc := 7) hG (dk dd_X8_humOfRowTo 4 rfl) hR (Pi.mk ?_)
    rotate_left
    -- leaves: stop 43; return@32; return@19; return@7
    · rw [ed] at h27
      have hk0 : 0 ≤ k := by clear hG hR; grind
      obtain ⟨kk, hkk, rfl⟩ := nI_of (Int32.not_lt.mpr hk0)
      have hlt := (nI_ltI hkk (by omega)).mp h27
      have := back i kk i1 i3 rfl hlt ((ρ i).length - (kk + 1)) i i1 (by omega) rfl
      rw [show kk + 1 + ((ρ i).length - (kk + 1)) = (ρ i).length by omega] at this
      rw [ed]
      have e2 : vI x = vI (nI i) := by rw [i2]
      rw [e2] at this ⊢
      exact this
    · rw [ed] at h27
      exact ⟨rfl, Or.inl ⟨ρ i, i3, Or.inr (Or.inr ⟨h10, Int32.not_lt.mp h27, rfl⟩)⟩⟩
    · exact ⟨rfl, Or.inl ⟨ρ i, i3, Or.inl ⟨h10, ed⟩⟩⟩
    · exact absurd h2 hx1
/-- verdicts that there can be, as bits -/
def CanQ (α : Al) (D n c : Nat) (r : Int32) : Prop := ∃ b, b < 8 ∧ r = nI b ∧ ∀ v, v < 3 → (b.testBit v = true ↔ ∃ w, Hs α w ∧ w.length ≤ n ∧ verN α c (endN α D w) = v)
theorem CanQ.uniq {α : Al} {D n c : Nat} {r r' : Int32} (h : CanQ α D n c r) (h' : CanQ α D n c r') : r = r' := by
  obtain ⟨b, b1, b2, b3⟩ := h
  obtain ⟨d, d1, d2, d3⟩ := h'
  have e : ∀ v, v < 3 → b.testBit v = d.testBit v := fun v hv => by
    rw [Bool.eq_iff_iff, b3 v hv, d3 v hv]
  have : b = d := by
    apply Nat.eq_of_testBit_eq
    intro i
    by_cases hi : i < 3
    · exact e i hi
    · rw [Nat.testBit_lt_two_pow (Nat.lt_of_lt_of_le b1 (Nat.pow_le_pow_right (n := 2) (by decide) (show 3 ≤ i by omega))), Nat.testBit_lt_two_pow (Nat.lt_of_lt_of_le d1 (Nat.pow_le_pow_right (n := 2) (by decide) (show 3 ≤ i by omega)))]
  rw [b2, d2, this]
theorem q_or3 : ∀ b, b < 8 → ∀ v, v < 3 → b ||| 2 ^ v < 8 ∧ ∀ u, u < 3 → ((b ||| 2 ^ v).testBit u = true ↔ (b.testBit u = true ∨ u = v)) := by decide +kernel
theorem c_verdictsMet {μ : Mem} {α : Al} (hA : Abs (kac μ 15) α) (hv : Val α) {n N : Nat} {ρ : Nat → List Nat} {fr : Nat → Nat} (hB : BF μ α N ρ fr) (hF : Full α n N ρ) {x : Int32} {c : Nat} (hx : x = nI c) (hc : c < α 0 7) :
    CtP yX8_verdictsMet cX8_verdictsMet 4 (some .int) 4 [vR 51, vI x] μ (Pi (fun r μ' => μ' = μ ∧ CanQ α (α 0 3) n c r)) := by
  refine CtP.go RX8 rfl pn_X8 (Nat.le_of_ble_eq_true rfl) (fun C hG hR => ?_)
  have hN := hB.le
  have loop : ∀ k i b, i + k = N → b < 8 → (∀ v, v < 3 → (b.testBit v = true ↔ ∃ j, j < i ∧ verN α c (endN α (α 0 3) (ρ j)) = v)) → V C 4 [(0, vR 51), (1, vI x), (2, vI (nI b)), (3, vI (nI i))] [] μ := by
    intro k
    induction k with
    | zero =>
      intro i b hi hb hq
      refine V_iload_n (pc := 4) hG (dk dd_X8_verdictsMet 4 rfl) rfl ?_
      refine V_aload_n (pc := 5) hG (dk dd_X8_verdictsMet 5 rfl) rfl ?_
      refine V_getI (pc := 6) hG (dk dd_X8_verdictsMet 6 rfl) fl_X8_71 sh_51 rfl ?_
      refine V_icmp_ge (pc := 9) hG (dk dd_X8_verdictsMet 7 rfl) (tgt := 37) (by decide) (fun h9 => ?_) (fun h9 => ?_)
      refine V_iload_n (pc := 37) hG (dk dd_X8_verdictsMet 23 rfl) rfl ?_
      refine V_iretP (pc := 38) hG (dk dd_X8_verdictsMet 24 rfl) hR (Pi.mk ?_)
      rotate_left
      rotate_left
      -- leaves: return@38; stop 12
      · refine ⟨rfl, b, hb, rfl, fun v hv3 => ?_⟩
        rw [hq v hv3]
        constructor
        · rintro ⟨j, j1, j2⟩; exact ⟨ρ j, (hB.2.1 j (by omega)).1, hF.1 j (by omega), j2⟩
        · rintro ⟨w, w1, w2, w3⟩
          obtain ⟨j, j1, j2, _⟩ := hF.2 w w1 w2
          exact ⟨j, by omega, by rw [j2]; exact w3⟩
      · exfalso; rw [hB.1] at h9; have := nle_i h9 (by omega) (by omega); omega
    | succ k ih =>
      intro i b hi hb hq
      have hr : vp_in (nI i) 256 := vp_in_nI (by omega) (by decide)
      have em : μ 54 (nI i).toNatClampNeg = nI (endN α (α 0 3) (ρ i)) := by rw [nI_clamp (by omega)]; exact (hB.2.1 i (by omega)).2.1
      have hE := endN_lt hv hv.D (hB.2.1 i (by omega)).1
      have hv3 := verN_lt α c (endN α (α 0 3) (ρ i))
      obtain ⟨o1, o2⟩ := q_or3 b hb _ hv3
      have hI := ih (i + 1) _ (by omega) o1 (fun v hv => by
        rw [o2 v hv, hq v hv]
        constructor
        · rintro (⟨j, j1, j2⟩ | j2)
          · exact ⟨j, by omega, j2⟩
          · exact ⟨i, by omega, j2.symm⟩
        · rintro ⟨j, j1, j2⟩
          by_cases e : j = i
          · subst e; exact Or.inr j2.symm
          · exact Or.inl ⟨j, by omega, j2⟩)
      rw [nI_succ, ← q_or b (by omega) _ (by omega)] at hI
      refine V_iload_n (pc := 4) hG (dk dd_X8_verdictsMet 4 rfl) rfl ?_
      refine V_aload_n (pc := 5) hG (dk dd_X8_verdictsMet 5 rfl) rfl ?_
      refine V_getI (pc := 6) hG (dk dd_X8_verdictsMet 6 rfl) fl_X8_71 sh_51 rfl ?_
      refine V_icmp_ge (pc := 9) hG (dk dd_X8_verdictsMet 7 rfl) (tgt := 37) (by decide) (fun h9 => ?_) (fun h9 => ?_)
      rotate_left
      refine V_iload_n (pc := 12) hG (dk dd_X8_verdictsMet 8 rfl) rfl ?_
      refine V_iconst (pc := 13) hG (dk dd_X8_verdictsMet 9 rfl) (v := 1) (by decide) ?_
      refine V_aload_n (pc := 14) hG (dk dd_X8_verdictsMet 10 rfl) rfl ?_
      refine V_getR (pc := 15) hG (dk dd_X8_verdictsMet 11 rfl) fl_X8_30 sh_51 rfl ?_
      refine V_iload_n (pc := 18) hG (dk dd_X8_verdictsMet 12 rfl) rfl ?_
      refine V_aload_n (pc := 19) hG (dk dd_X8_verdictsMet 13 rfl) rfl ?_
      refine V_getR (pc := 20) hG (dk dd_X8_verdictsMet 14 rfl) fl_X8_18 sh_51 rfl ?_
      refine V_iload_n (pc := 23) hG (dk dd_X8_verdictsMet 15 rfl) rfl ?_
      refine V_iald (pc := 24) hG (dk dd_X8_verdictsMet 16 rfl) sh_54 hr ?_
      refine V_callVi (pc := 25) hG (dk dd_X8_verdictsMet 17 rfl) ml_X8_78 mo_X2_verdict sh_15 rfl (c_verdict co_now hA hv hx hc em hE) (by decide) (by decide) rfl rfl rfl ?_
      refine V_ishl (pc := 28) hG (dk dd_X8_verdictsMet 18 rfl) ?_
      refine V_ior (pc := 29) hG (dk dd_X8_verdictsMet 19 rfl) ?_
      refine V_istore_n (pc := 30) hG (dk dd_X8_verdictsMet 20 rfl) (by decide) (lv' := [(0, _), (1, _), (2, _), (3, _)]) rfl ?_
      refine V_iinc (pc := 31) hG (dk dd_X8_verdictsMet 21 rfl) rfl (v := _ + 1) rfl (by decide) (lv' := [(0, _), (1, _), (2, _), (3, _)]) rfl ?_
      refine V_goto (pc := 34) hG (dk dd_X8_verdictsMet 22 rfl) (tgt := 4) (by decide) ?_
      rotate_left
      -- leaves: stop 37; stop 4
      · exfalso; rw [hB.1] at h9; have := le_i h9 (by omega) (by omega); omega
      · exact hI
  refine V_iconst (pc := 0) hG (dk dd_X8_verdictsMet 0 rfl) (v := 0) (by decide) ?_
  refine V_istore_n (pc := 1) hG (dk dd_X8_verdictsMet 1 rfl) (by decide) (lv' := [(0, _), (1, _), (2, _)]) rfl ?_
  refine V_iconst (pc := 2) hG (dk dd_X8_verdictsMet 2 rfl) (v := 0) (by decide) ?_
  refine V_istore_n (pc := 3) hG (dk dd_X8_verdictsMet 3 rfl) (by decide) (lv' := [(0, _), (1, _), (2, _), (3, _)]) rfl ?_
  rotate_left
  -- leaves: stop 4
  · exact loop N 0 0 (by omega) (by decide) (fun v _ => by rw [Nat.zero_testBit]; exact ⟨fun q => (by cases q), fun ⟨j, j1, _⟩ => absurd j1 (Nat.not_lt_zero j)⟩)
