/-! ===== the model: what rows tell ===== -/
theorem kap_h3 {f : Nat → Int32} {α : Al} {x0 h0 v : Nat} (h : Abs (kap f) α) (hx : 1 ≤ x0 ∧ x0 ≤ 3) (hh : h0 < α 0 6) (hH : α 0 6 ≤ 6) : Abs (kap (upd f (7 + 3 * h0 + x0) (nI v))) (updA α x0 h0 v) := by
  refine ⟨fun j hj => ?_, fun x k q1 q2 q3 => ?_, fun x k q1 q2 q3 => ?_⟩
  · have := h.1 j hj; rw [kap_0] at this ⊢; rw [upd_n (by have := q_pm j hj; omega), updA_n (by omega)]; exact this
  · rw [updA_n (by omega)] at q3
    by_cases z : x = x0 ∧ k = h0
    · obtain ⟨rfl, rfl⟩ := z
      rw [kap_h q1 q2, upd_s, updA_s]
    · have := h.2.1 x k q1 q2 q3; rw [kap_h q1 q2] at this ⊢; rw [upd_n (by omega), updA_n z]; exact this
  · rw [updA_n (by omega)] at q3
    have := h.2.2 x k q1 q2 q3; rw [kap_c q1] at this ⊢; rw [upd_n (by omega), updA_n (by omega)]; exact this
theorem val_h3 {α : Al} (hv : Val α) {x h v : Nat} (hx : 1 ≤ x ∧ x ≤ 3) (h1 : x = 1 → 1 ≤ v ∧ v ≤ 5) (h2 : x ≠ 1 → v < α 0 0) : Val (updA α x h v) := by
  have e : ∀ i, updA α x h v 0 i = α 0 i := fun i => updA_n (by omega)
  obtain ⟨a1, a2, a3, a4, a5, a6, a7, a8, a9⟩ := hv
  refine ⟨?_, ?_, ?_, ?_, ?_, ?_, ?_, fun k hk => ?_, fun c hc => ?_⟩
  · rw [e]; exact a1
  · rw [e]; exact a2
  · rw [e]; exact a3
  · rw [e, e]; exact a4
  · rw [e, e]; exact a5
  · rw [e]; exact a6
  · rw [e]; exact a7
  · rw [e] at hk
    obtain ⟨b1, b2, b3, b4⟩ := a8 k hk
    unfold HumOk
    rw [e]
    by_cases z : k = h
    · subst z
      rcases (show x = 1 ∨ x = 2 ∨ x = 3 by omega) with rfl | rfl | rfl
      · rw [updA_s, updA_n (by omega), updA_n (by omega)]; exact ⟨(h1 rfl).1, (h1 rfl).2, b3, b4⟩
      · rw [updA_s, updA_n (by omega), updA_n (by omega)]; exact ⟨b1, b2, h2 (by decide), b4⟩
      · rw [updA_s, updA_n (by omega), updA_n (by omega)]; exact ⟨b1, b2, b3, h2 (by decide)⟩
    · rw [updA_n (by omega), updA_n (by omega), updA_n (by omega)]; exact ⟨b1, b2, b3, b4⟩
  · rw [e] at hc
    obtain ⟨b1, b2, b3, b4⟩ := a9 c hc
    unfold CaseOk
    rw [e, e, updA_n (by omega), updA_n (by omega), updA_n (by omega), updA_n (by omega)]; exact ⟨b1, b2, b3, b4⟩
theorem m_isSo {μ : Mem} {β : Al} (hA : Abs (kap (μ 73)) β) (hv : Val β) {hs : Nat → Nat} {n D A B : Nat} (hn : n ≤ 12) (hA1 : A + n ≤ 320) (hB1 : B + n ≤ 320) (hq : ∀ k, k < n → μ 70 (A + k) = nI (hs k)) (hh : ∀ k, k < n → hs k < β 0 6) (hD : D < 2 ^ β 0 0) {x a b k : Int32} (hx : x = nI D) (ha : a = nI A) (hb : b = nI B) (hk : k = nI n) :
    CtP yX10_isSo cX10_isSo 8 (some .boolean) 2 [vR 67, vI x, vI a, vI b, vI k] μ (Pi (fun r μ' => μ' = μ ∧ is1 r (Fit β hs (fun q => μ 70 (B + q)) n D))) := by
  refine CtP.go RX10 rfl pn_X10 (Nat.le_of_ble_eq_true rfl) (fun C hG hR => ?_)
  have loop : ∀ d q v, q + d = n → is1 v (Fit β hs (fun q => μ 70 (B + q)) q D) → V C 9 [(0, vR 67), (1, vI x), (2, vI a), (3, vI b), (4, vI k), (5, vI v), (6, vI (nI (runN β hs D q))), (7, vI (nI q))] [] μ := by
    intro d
    induction d with
    | zero =>
      intro q v hqd hI
      refine V_iload (pc := 9) hG (dk dd_X10_isSo 6 rfl) rfl ?_
      refine V_iload (pc := 11) hG (dk dd_X10_isSo 7 rfl) rfl ?_
      refine V_icmp_ge (pc := 13) hG (dk dd_X10_isSo 8 rfl) (tgt := 68) (by decide) (fun h13 => ?_) (fun h13 => ?_)
      refine V_iload (pc := 68) hG (dk dd_X10_isSo 36 rfl) rfl ?_
      refine V_zretP (pc := 70) hG (dk dd_X10_isSo 37 rfl) hI.bool hR (Pi.mk ?_)
      rotate_left
      rotate_left
      -- leaves: return@70; stop 16
      · rw [show q = n by omega] at hI; exact ⟨rfl, hI⟩
      · exfalso; rw [hk] at h13; have := nle_i h13 (by omega) (by omega); omega
    | succ d ih =>
      intro q v hqd hI
      have i1 : a + nI q = nI (A + q) := by rw [ha, nI_add]
      have i2 : b + nI q = nI (B + q) := by rw [hb, nI_add]
      have r1 : vp_in (a + nI q) 320 := by rw [i1]; exact vp_in_nI (by omega) (by decide)
      have r2 : vp_in (b + nI q) 320 := by rw [i2]; exact vp_in_nI (by omega) (by decide)
      have lt := runN_lt hv hh hD q (by omega)
      refine V_iload (pc := 9) hG (dk dd_X10_isSo 6 rfl) rfl ?_
      refine V_iload (pc := 11) hG (dk dd_X10_isSo 7 rfl) rfl ?_
      refine V_icmp_ge (pc := 13) hG (dk dd_X10_isSo 8 rfl) (tgt := 68) (by decide) (fun h13 => ?_) (fun h13 => ?_)
      rotate_left
      refine V_aload_n (pc := 16) hG (dk dd_X10_isSo 9 rfl) rfl ?_
      refine V_getR (pc := 17) hG (dk dd_X10_isSo 10 rfl) fl_X10_25 sh_67 rfl ?_
      refine V_aload_n (pc := 20) hG (dk dd_X10_isSo 11 rfl) rfl ?_
      refine V_getR (pc := 21) hG (dk dd_X10_isSo 12 rfl) fl_X10_16 sh_67 rfl ?_
      refine V_iload_n (pc := 24) hG (dk dd_X10_isSo 13 rfl) rfl ?_
      refine V_iload (pc := 25) hG (dk dd_X10_isSo 14 rfl) rfl ?_
      refine V_iadd (pc := 27) hG (dk dd_X10_isSo 15 rfl) ?_
      refine V_iald (pc := 28) hG (dk dd_X10_isSo 16 rfl) sh_70 r1 ?_
      refine V_iload (pc := 29) hG (dk dd_X10_isSo 17 rfl) rfl ?_
      refine V_callSip (pc := 31) hG (dk dd_X10_isSo 18 rfl) ml_X10_191 mo_X10_hummed (m_hummed (μ := μ) sh_73 (α := β) hA hv (h := hs q) (by rw [i1, nI_clamp (by omega)]; exact hq q (by omega)) (hh q (by omega)) (D := runN β hs D q) rfl lt) (by decide) (by decide) rfl rfl rfl (fun x31 m31 p31 => ?_)
      refine V_istore (pc := 34) hG (dk dd_X10_isSo 19 rfl) (by decide) (lv' := [(0, _), (1, _), (2, _), (3, _), (4, _), (5, _), (6, _), (7, _)]) rfl ?_
      refine V_iload (pc := 36) hG (dk dd_X10_isSo 20 rfl) rfl ?_
      refine V_if_eq (pc := 38) hG (dk dd_X10_isSo 21 rfl) (tgt := 59) (by decide) (fun h38 => ?_) (fun h38 => ?_)
      refine V_iconst (pc := 59) hG (dk dd_X10_isSo 32 rfl) (v := 0) (by decide) ?_
      refine V_istore (pc := 60) hG (dk dd_X10_isSo 33 rfl) (by decide) (lv' := [(0, _), (1, _), (2, _), (3, _), (4, _), (5, _), (6, _), (7, _)]) rfl ?_
      refine V_iinc (pc := 62) hG (dk dd_X10_isSo 34 rfl) rfl (v := _ + 1) rfl (by decide) (lv' := [(0, _), (1, _), (2, _), (3, _), (4, _), (5, _), (6, _), (7, _)]) rfl ?_
      refine V_goto (pc := 65) hG (dk dd_X10_isSo 35 rfl) (tgt := 9) (by decide) ?_
      rotate_left
      refine V_iload (pc := 41) hG (dk dd_X10_isSo 22 rfl) rfl ?_
      refine V_aload_n (pc := 43) hG (dk dd_X10_isSo 23 rfl) rfl ?_
      refine V_getR (pc := 44) hG (dk dd_X10_isSo 24 rfl) fl_X10_16 sh_67 rfl ?_
      refine V_iload_n (pc := 47) hG (dk dd_X10_isSo 25 rfl) rfl ?_
      refine V_iload (pc := 48) hG (dk dd_X10_isSo 26 rfl) rfl ?_
      refine V_iadd (pc := 50) hG (dk dd_X10_isSo 27 rfl) ?_
      refine V_iald (pc := 51) hG (dk dd_X10_isSo 28 rfl) sh_70 r2 ?_
      refine V_icmp_ne (pc := 52) hG (dk dd_X10_isSo 29 rfl) (tgt := 59) (by decide) (fun h52 => ?_) (fun h52 => ?_)
      refine V_iconst (pc := 59) hG (dk dd_X10_isSo 32 rfl) (v := 0) (by decide) ?_
      refine V_istore (pc := 60) hG (dk dd_X10_isSo 33 rfl) (by decide) (lv' := [(0, _), (1, _), (2, _), (3, _), (4, _), (5, _), (6, _), (7, _)]) rfl ?_
      refine V_iinc (pc := 62) hG (dk dd_X10_isSo 34 rfl) rfl (v := _ + 1) rfl (by decide) (lv' := [(0, _), (1, _), (2, _), (3, _), (4, _), (5, _), (6, _), (7, _)]) rfl ?_
      refine V_goto (pc := 65) hG (dk dd_X10_isSo 35 rfl) (tgt := 9) (by decide) ?_
      rotate_left
      refine V_iconst (pc := 55) hG (dk dd_X10_isSo 30 rfl) (v := 1) (by decide) ?_
      refine V_goto (pc := 56) hG (dk dd_X10_isSo 31 rfl) (tgt := 60) (by decide) ?_
      refine V_istore (pc := 60) hG (dk dd_X10_isSo 33 rfl) (by decide) (lv' := [(0, _), (1, _), (2, _), (3, _), (4, _), (5, _), (6, _), (7, _)]) rfl ?_
      refine V_iinc (pc := 62) hG (dk dd_X10_isSo 34 rfl) rfl (v := _ + 1) rfl (by decide) (lv' := [(0, _), (1, _), (2, _), (3, _), (4, _), (5, _), (6, _), (7, _)]) rfl ?_
      refine V_goto (pc := 65) hG (dk dd_X10_isSo 35 rfl) (tgt := 9) (by decide) ?_
      rotate_left
      -- leaves: stop 68; stop 9; stop 9; stop 9
      · exfalso; rw [hk] at h13; have := le_i h13 (by omega) (by omega); omega
      · obtain ⟨rfl, rfl⟩ := p31
        rw [← nI_succ, ← runN_s]
        exact ih (q + 1) 0 (by omega) (is1.f (fun w => hI.no h38 (fun j hj => w j (by omega))))
      · obtain ⟨rfl, rfl⟩ := p31
        rw [i2, nI_clamp (by omega)] at h52
        rw [← nI_succ, ← runN_s]
        exact ih (q + 1) 0 (by omega) (is1.f (fun w => h52 (w q (by omega))))
      · obtain ⟨rfl, rfl⟩ := p31
        rw [i2, nI_clamp (by omega)] at h52
        rw [← nI_succ, ← runN_s]
        refine ih (q + 1) 1 (by omega) (is1.t (fun j hj => ?_))
        by_cases z : j = q
        · rw [z]; exact h52
        · exact hI.yes h38 j (by omega)
  refine V_iconst (pc := 0) hG (dk dd_X10_isSo 0 rfl) (v := 1) (by decide) ?_
  refine V_istore (pc := 1) hG (dk dd_X10_isSo 1 rfl) (by decide) (lv' := [(0, _), (1, _), (2, _), (3, _), (4, _), (5, _)]) rfl ?_
  refine V_iload_n (pc := 3) hG (dk dd_X10_isSo 2 rfl) rfl ?_
  refine V_istore (pc := 4) hG (dk dd_X10_isSo 3 rfl) (by decide) (lv' := [(0, _), (1, _), (2, _), (3, _), (4, _), (5, _), (6, _)]) rfl ?_
  refine V_iconst (pc := 6) hG (dk dd_X10_isSo 4 rfl) (v := 0) (by decide) ?_
  refine V_istore (pc := 7) hG (dk dd_X10_isSo 5 rfl) (by decide) (lv' := [(0, _), (1, _), (2, _), (3, _), (4, _), (5, _), (6, _), (7, _)]) rfl ?_
  rotate_left
  -- leaves: stop 9
  · rw [hx] at *
    exact loop n 0 1 (by omega) (is1.t (fun j hj => by omega))
/-- both rows are taken -/
def TbS (ln mn : Nat → Int32) (I : Nat → Nat → Int32) (H n n2 m : Nat) (i j k f : Int32) : Prop := ∃ f1, HfS ln mn I H n m i k f1 ∧ ((f1 ≠ 0 ∧ f = f1) ∨ (f1 = 0 ∧ f = lookS ln mn n2 j k))
theorem TbS.uniq {ln mn : Nat → Int32} {I : Nat → Nat → Int32} {H n n2 m : Nat} {i j k f f' : Int32} (hm : 1 ≤ m) (h : TbS ln mn I H n n2 m i j k f) (h' : TbS ln mn I H n n2 m i j k f') : f = f' := by
  obtain ⟨a, a1, a2⟩ := h
  obtain ⟨b, b1, b2⟩ := h'
  have e := HfS.uniq hm a1 b1
  subst e
  rcases a2 with ⟨x, y⟩ | ⟨x, y⟩ <;> rcases b2 with ⟨z, w⟩ | ⟨z, w⟩
  · rw [y, w]
  · exact absurd z x
  · exact absurd x z
  · rw [y, w]
theorem fnd_0 {ln mn : Nat → Int32} {n : Nat} {i k : Int32} : fnd (lookS ln mn n i k) = 0 ↔ lookS ln mn n i k = 0 := by
  unfold lookS
  by_cases a : ln n = -1
  · rw [if_pos a]; decide
  · rw [if_neg a]
    by_cases b : 0 ≤ i ∧ 0 ≤ k ∧ k ≤ mn n ∧ i ≤ mn n - k
    · rw [if_pos b]; decide
    · rw [if_neg b]; decide
theorem HfS.z {ln mn : Nat → Int32} {I : Nat → Nat → Int32} {H n m : Nat} {i k f : Int32} (h : HfS ln mn I H n m i k f) : fnd f = 0 ↔ f = 0 := by
  rcases h with ⟨_, h2⟩ | ⟨_, a, _, _, ⟨h4, _⟩ | ⟨h4, _⟩⟩
  · rw [h2]; exact fnd_0
  · rw [h4]; decide
  · rw [h4]; decide
theorem HfS.ok {ln mn : Nat → Int32} {I : Nat → Nat → Int32} {H n m : Nat} {i k : Int32} (h : HfS ln mn I H n m i k 0) : ∃ a, i = nI a ∧ a + m ≤ 40 ∧ ∀ q, q < m → inN (I n (a + q)) H := by
  rcases h with ⟨h1, h2⟩ | ⟨_, a, h2, h3, ⟨h4, _⟩ | ⟨_, h5⟩⟩
  · exact absurd h2.symm h1
  · exact absurd h4 (by decide)
  · exact ⟨a, h2, h3, h5⟩
def WhoR (α : Al) (ln mn : Nat → Int32) (I : Nat → Nat → Int32) (x w y i u j k : Int32) (r : Int32) (o : Option Int32) : Prop :=
  (¬ (inN x (α 0 6) ∧ (0 ≤ w ∧ w ≤ 2) ∧ isR y ∧ isR u ∧ 1 ≤ k ∧ k ≤ 12) ∧ r = -1000001 ∧ o = none) ∨
  ((inN x (α 0 6) ∧ (0 ≤ w ∧ w ≤ 2) ∧ isR y ∧ isR u ∧ 1 ≤ k ∧ k ≤ 12) ∧ ∃ n n2 m f, y = nI n ∧ n < 8 ∧ u = nI n2 ∧ n2 < 8 ∧ k = nI m ∧ 1 ≤ m ∧ m ≤ 12 ∧ TbS ln mn I (α 0 6) n n2 m i j k f ∧ o = some f ∧
    ((f ≠ 0 ∧ r = fnd f) ∨ (f = 0 ∧ ∃ a b, i = nI a ∧ a + m ≤ 40 ∧ j = nI b ∧ b + m ≤ 40 ∧ r = nI (whoN α (hsI I n a) (fun q => I n2 (b + q)) m (α 0 3) x.toNatClampNeg (w.toNatClampNeg + 1) (if w = 0 then 6 else α 0 0)))))
set_option maxHeartbeats 2000000 in
theorem m_who {μ : Mem} {α : Al} (hA : Abs (kap (μ 71)) α) (hz : Vz α) (hk : Rok (μ 68) (μ 69)) {x w y i u j k : Int32} : CtP yX10_who cX10_who 11 (some .int) 3 [vR 67, vI x, vI w, vI y, vI i, vI u, vI j, vI k] μ (Pi (fun r μ' => ∃ o, WhoR α (μ 68) (μ 69) (itM μ) x w y i u j k r o ∧ FrM μ o μ')) := by
  refine CtP.go RX10 rfl pn_X10 (Nat.le_of_ble_eq_true rfl) (fun C hG hR => ?_)
  have r6 : vp_in (6 : Int32) 46 := rr (n := 6) (by decide)
  have r0 : vp_in (0 : Int32) 46 := rr (n := 0) (by decide)
  have hH := hz.H
  have e3 : th0 μ 71 3 = nI (α 0 6) := e_sc hA (i := 6) (by decide)
  by_cases hi : inN x (α 0 6) ∧ (0 ≤ w ∧ w ≤ 2) ∧ isR y ∧ isR u ∧ 1 ≤ k ∧ k ≤ 12
  · obtain ⟨i1, i2, i3, i4, i5⟩ := id hi
    obtain ⟨hx, hh⟩ := i1.n (by omega)
    obtain ⟨n, hy, hn⟩ := i3.n
    obtain ⟨n2, hu, hn2⟩ := i4.n
    obtain ⟨m, hkm, m1, m2⟩ := k12 i5
    have hv := hz.vh hh
    have ht := hv.t
    have hk0 : 0 ≤ k := by rw [hkm]; exact nI_pos' (by omega)
    obtain ⟨W, hW, hw⟩ := nI_of (Int32.not_lt.mpr i2.1)
    have W2 : W ≤ 2 := le_i (b := 2) (hw ▸ i2.2) hW (by decide)
    have wW : w.toNatClampNeg = W := nI_cl hw hW
    have w0 : w = 0 ↔ W = 0 := by rw [hw]; exact nI_eq (b := 0) hW (by decide)
    -- the loop over what may be
    have loop : ∀ a b, i = nI a → a + m ≤ 40 → j = nI b → b + m ≤ 40 → (∀ q, q < m → inN (itM μ n (a + q)) (α 0 6)) → TbS (μ 68) (μ 69) (itM μ) (α 0 6) n n2 m i j k 0 → ∀ B, B = (if w = 0 then 6 else α 0 0) → ∀ d v M F, v + d = B → (w = 0 → 1 ≤ v) → FrM μ (some 0) M → V C 111 [(0, vR 67), (1, vI x), (2, vI w), (3, vI y), (4, vI i), (5, vI u), (6, vI j), (7, vI k), (8, vI F), (9, vI (nI (whoN α (hsI (itM μ) n a) (fun q => itM μ n2 (b + q)) m (α 0 3) x.toNatClampNeg (W + 1) v))), (10, vI (nI v))] [] M := by
      intro a b hia ha hjb hb hq hT B hB d
      have B8 : B ≤ 8 := by rw [hB]; split <;> omega
      have ho := hs_ok hH hq
      induction d with
      | zero =>
        intro v M F hvd hv1 hM
        have eM : M 71 = μ 71 := hM.1 71 (by decide) (by decide) (by decide)
        have em0 : M 71 (Int32.toNatClampNeg 0) = nI (α 0 0) := by rw [eM]; exact e_sc hA (i := 0) (by decide)
        have fin : ∃ o, WhoR α (μ 68) (μ 69) (itM μ) x w y i u j k (nI (whoN α (hsI (itM μ) n a) (fun q => itM μ n2 (b + q)) m (α 0 3) x.toNatClampNeg (W + 1) v)) o ∧ FrM μ o M := ⟨some 0, Or.inr ⟨hi, n, n2, m, 0, hy, hn, hu, hn2, hkm, m1, m2, hT, rfl, Or.inr ⟨rfl, a, b, hia, ha, hjb, hb, by rw [wW, ← hB, show v = B by omega]⟩⟩, hM⟩
        refine V_iload (pc := 111) hG (dk dd_X10_who 55 rfl) rfl ?_
        refine V_iload_n (pc := 113) hG (dk dd_X10_who 56 rfl) rfl ?_
        refine V_if_ne (pc := 114) hG (dk dd_X10_who 57 rfl) (tgt := 122) (by decide) (fun h114 => ?_) (fun h114 => ?_)
        refine V_aload_n (pc := 122) hG (dk dd_X10_who 60 rfl) rfl ?_
        refine V_getR (pc := 123) hG (dk dd_X10_who 61 rfl) fl_X10_19 sh_67 rfl ?_
        refine V_iconst (pc := 126) hG (dk dd_X10_who 62 rfl) (v := 0) (by decide) ?_
        refine V_iald (pc := 127) hG (dk dd_X10_who 63 rfl) sh_71 r0 ?_
        refine V_icmp_ge (pc := 128) hG (dk dd_X10_who 64 rfl) (tgt := 200) (by decide) (fun h128 => ?_) (fun h128 => ?_)
        refine V_iload (pc := 200) hG (dk dd_X10_who 106 rfl) rfl ?_
        refine V_iretP (pc := 202) hG (dk dd_X10_who 107 rfl) hR (Pi.mk ?_)
        rotate_left
        rotate_left
        refine V_bipush (pc := 117) hG (dk dd_X10_who 58 rfl) (v := 6) (by decide) ?_
        refine V_goto (pc := 119) hG (dk dd_X10_who 59 rfl) (tgt := 128) (by decide) ?_
        refine V_icmp_ge (pc := 128) hG (dk dd_X10_who 64 rfl) (tgt := 200) (by decide) (fun h128 => ?_) (fun h128 => ?_)
        refine V_iload (pc := 200) hG (dk dd_X10_who 106 rfl) rfl ?_
        refine V_iretP (pc := 202) hG (dk dd_X10_who 107 rfl) hR (Pi.mk ?_)
        rotate_left
        rotate_left
        -- leaves: return@202; stop 131; return@202; stop 131
        · exact fin
        · exfalso; rw [if_neg h114] at hB; rw [em0] at h128; have := nle_i h128 (by omega) (by omega); omega
        · exact fin
        · exfalso; rw [if_pos h114] at hB; have := nle_i (a := 6) h128 (by omega) (by omega); omega
      | succ d ih =>
        intro v M F hvd hv1 hM
        have eM : M 71 = μ 71 := hM.1 71 (by decide) (by decide) (by decide)
        have em0 : M 71 (Int32.toNatClampNeg 0) = nI (α 0 0) := by rw [eM]; exact e_sc hA (i := 0) (by decide)
        have ix : (8 : Int32) + 3 * x + w = nI (7 + 3 * x.toNatClampNeg + (W + 1)) := by
          have := ix3 (h := x.toNatClampNeg) (v := W)
          rw [← hx, ← hw] at this
          rw [this]; congr 1; omega
        have rx : vp_in ((8 : Int32) + 3 * x + w) 46 := by rw [ix]; exact rr (by omega)
        have hvB : Val (updA α (W + 1) x.toNatClampNeg v) := val_h3 hv (by omega) (fun z => by
          have z0 : w = 0 := w0.mpr (by omega)
          rw [if_pos z0] at hB
          have := hv1 z0
          omega) (fun z => by
          rw [if_neg (fun q => z (by rw [w0.mp q]))] at hB
          omega)
        have sl := whoN_lt α (hsI (itM μ) n a) (fun q => itM μ n2 (b + q)) m (α 0 3) x.toNatClampNeg (W + 1) v
        have sl2 : 2 ^ v ≤ 2 ^ 8 := Nat.pow_le_pow_right (by decide) (by omega)
        have body : V C 131 [(0, vR 67), (1, vI x), (2, vI w), (3, vI y), (4, vI i), (5, vI u), (6, vI j), (7, vI k), (8, vI F), (9, vI (nI (whoN α (hsI (itM μ) n a) (fun q => itM μ n2 (b + q)) m (α 0 3) x.toNatClampNeg (W + 1) v))), (10, vI (nI v))] [] M := by
          refine V_aload_n (pc := 131) hG (dk dd_X10_who 65 rfl) rfl ?_
          refine V_callVvp (pc := 132) hG (dk dd_X10_who 66 rfl) ml_X10_251 mo_X10_layThen sh_67 rfl (m_layThen) (by decide) (by decide) rfl rfl rfl (fun m132 p132 => ?_)
          rotate_left
          -- leaves: stop 135
          · obtain ⟨l1, l2⟩ := p132
            generalize hm2 : setc m132 73 (upd (m132 73) (7 + 3 * x.toNatClampNeg + (W + 1)) (nI v)) = m2m
            have q70 : m2m 70 = μ 70 := by rw [← hm2, setc_n (by decide), l2 70 (by decide), hM.1 70 (by decide) (by decide) (by decide)]
            have q71 : m2m 71 = μ 71 := by rw [← hm2, setc_n (by decide), l2 71 (by decide), eM]
            have q73 : Abs (kap (m2m 73)) (updA α (W + 1) x.toNatClampNeg v) := by
              rw [← hm2, setc_s]
              refine kap_h3 (kap_cg hA hH hz.C (fun q hq => ?_)) (by omega) hh hH
              rw [l1 q hq, eM]
            have hM2 : FrM μ (some 0) m2m := hM.tr (fun j a b c => by rw [← hm2, setc_n b]; exact l2 j b) (fun q a b c => by rw [← hm2, setc_n (by decide), l2 67 (by decide)])
            have hI := ih (v + 1) m2m F (by omega) (fun z => by omega) hM2
            rw [whoN_s, nI_succ] at hI
            have e6 : m2m 71 (Int32.toNatClampNeg 6) = nI (α 0 3) := by rw [q71]; exact e_sc hA (i := 3) (by decide)
            have a1 : (40 : Int32) * y + i = nI (40 * n + a) := by rw [hy, hia, ix40]
            have a2 : (40 : Int32) * u + j = nI (40 * n2 + b) := by rw [hu, hjb, ix40]
            have efit : Fit (updA α (W + 1) x.toNatClampNeg v) (hsI (itM μ) n a) (fun q => m2m 70 (40 * n2 + b + q)) m (α 0 3) = Fit (updA α (W + 1) x.toNatClampNeg v) (hsI (itM μ) n a) (fun q => itM μ n2 (b + q)) m (α 0 3) := by rw [q70]; congr 1; funext q; rw [Nat.add_assoc]
            have nz : ¬ (W + 1 = 1 ∧ v = 0) := fun z => by have := hv1 (w0.mpr (by omega)); omega
            refine V_aload_n (pc := 135) hG (dk dd_X10_who 67 rfl) rfl ?_
            refine V_getR (pc := 136) hG (dk dd_X10_who 68 rfl) fl_X10_25 sh_67 rfl ?_
            refine V_bipush (pc := 139) hG (dk dd_X10_who 69 rfl) (v := 8) (by decide) ?_
            refine V_iconst (pc := 141) hG (dk dd_X10_who 70 rfl) (v := 3) (by decide) ?_
            refine V_iload_n (pc := 142) hG (dk dd_X10_who 71 rfl) rfl ?_
            refine V_imul (pc := 143) hG (dk dd_X10_who 72 rfl) ?_
            refine V_iadd (pc := 144) hG (dk dd_X10_who 73 rfl) ?_
            refine V_iload_n (pc := 145) hG (dk dd_X10_who 74 rfl) rfl ?_
            refine V_iadd (pc := 146) hG (dk dd_X10_who 75 rfl) ?_
            refine V_iload (pc := 147) hG (dk dd_X10_who 76 rfl) rfl ?_
            refine V_iast (pc := 149) hG (dk dd_X10_who 77 rfl) sh_73 rx ?_
            rotate_left
            -- leaves: stop 150
            · rw [ix, nI_clamp (by omega), hm2]
              refine V_iload (pc := 150) hG (dk dd_X10_who 78 rfl) rfl ?_
              refine V_aload_n (pc := 152) hG (dk dd_X10_who 79 rfl) rfl ?_
              refine V_aload_n (pc := 153) hG (dk dd_X10_who 80 rfl) rfl ?_
              refine V_getR (pc := 154) hG (dk dd_X10_who 81 rfl) fl_X10_19 sh_67 rfl ?_
              refine V_bipush (pc := 157) hG (dk dd_X10_who 82 rfl) (v := 6) (by decide) ?_
              refine V_iald (pc := 159) hG (dk dd_X10_who 83 rfl) sh_71 r6 ?_
              refine V_bipush (pc := 160) hG (dk dd_X10_who 84 rfl) (v := 40) (by decide) ?_
              refine V_iload_n (pc := 162) hG (dk dd_X10_who 85 rfl) rfl ?_
              refine V_imul (pc := 163) hG (dk dd_X10_who 86 rfl) ?_
              refine V_iload (pc := 164) hG (dk dd_X10_who 87 rfl) rfl ?_
              refine V_iadd (pc := 166) hG (dk dd_X10_who 88 rfl) ?_
              refine V_bipush (pc := 167) hG (dk dd_X10_who 89 rfl) (v := 40) (by decide) ?_
              refine V_iload (pc := 169) hG (dk dd_X10_who 90 rfl) rfl ?_
              refine V_imul (pc := 171) hG (dk dd_X10_who 91 rfl) ?_
              refine V_iload (pc := 172) hG (dk dd_X10_who 92 rfl) rfl ?_
              refine V_iadd (pc := 174) hG (dk dd_X10_who 93 rfl) ?_
              refine V_iload (pc := 175) hG (dk dd_X10_who 94 rfl) rfl ?_
              refine V_callVip (pc := 177) hG (dk dd_X10_who 95 rfl) ml_X10_269 mo_X10_isSo sh_67 rfl (m_isSo (μ := m2m) q73 hvB (hs := hsI (itM μ) n a) (n := m) (D := α 0 3) (A := 40 * n + a) (B := 40 * n2 + b) m2 (by omega) (by omega) (fun q hq => by rw [q70, Nat.add_assoc]; exact (ho q hq).1) (fun q hq => by rw [updA_n (by omega)]; exact (ho q hq).2) (by rw [updA_n (by omega)]; exact hv.D) e6 a1 a2 hkm) (by decide) (by decide) rfl rfl rfl (fun x177 m177 p177 => ?_)
              refine V_if_eq (pc := 180) hG (dk dd_X10_who 96 rfl) (tgt := 190) (by decide) (fun h180 => ?_) (fun h180 => ?_)
              refine V_iconst (pc := 190) hG (dk dd_X10_who 101 rfl) (v := 0) (by decide) ?_
              refine V_ior (pc := 191) hG (dk dd_X10_who 102 rfl) ?_
              refine V_istore (pc := 192) hG (dk dd_X10_who 103 rfl) (by decide) (lv' := [(0, _), (1, _), (2, _), (3, _), (4, _), (5, _), (6, _), (7, _), (8, _), (9, _), (10, _)]) rfl ?_
              refine V_iinc (pc := 194) hG (dk dd_X10_who 104 rfl) rfl (v := _ + 1) rfl (by decide) (lv' := [(0, _), (1, _), (2, _), (3, _), (4, _), (5, _), (6, _), (7, _), (8, _), (9, _), (10, _)]) rfl ?_
              refine V_goto (pc := 197) hG (dk dd_X10_who 105 rfl) (tgt := 111) (by decide) ?_
              rotate_left
              refine V_iconst (pc := 183) hG (dk dd_X10_who 97 rfl) (v := 1) (by decide) ?_
              refine V_iload (pc := 184) hG (dk dd_X10_who 98 rfl) rfl ?_
              refine V_ishl (pc := 186) hG (dk dd_X10_who 99 rfl) ?_
              refine V_goto (pc := 187) hG (dk dd_X10_who 100 rfl) (tgt := 191) (by decide) ?_
              refine V_ior (pc := 191) hG (dk dd_X10_who 102 rfl) ?_
              refine V_istore (pc := 192) hG (dk dd_X10_who 103 rfl) (by decide) (lv' := [(0, _), (1, _), (2, _), (3, _), (4, _), (5, _), (6, _), (7, _), (8, _), (9, _), (10, _)]) rfl ?_
              refine V_iinc (pc := 194) hG (dk dd_X10_who 104 rfl) rfl (v := _ + 1) rfl (by decide) (lv' := [(0, _), (1, _), (2, _), (3, _), (4, _), (5, _), (6, _), (7, _), (8, _), (9, _), (10, _)]) rfl ?_
              refine V_goto (pc := 197) hG (dk dd_X10_who 105 rfl) (tgt := 111) (by decide) ?_
              rotate_left
              -- leaves: stop 111; stop 111
              · obtain ⟨e1, z⟩ := p177
                rw [efit] at z
                rw [e1, Int32.or_zero]
                rw [b1_f (fun q => z.no h180 q.2), Nat.or_zero] at hI
                exact hI
              · obtain ⟨e1, z⟩ := p177
                rw [efit] at z
                rw [e1, bI_eq, q_orB (by omega) (by omega)]
                rw [b1_t ⟨nz, z.yes h180⟩] at hI
                exact hI
        refine V_iload (pc := 111) hG (dk dd_X10_who 55 rfl) rfl ?_
        refine V_iload_n (pc := 113) hG (dk dd_X10_who 56 rfl) rfl ?_
        refine V_if_ne (pc := 114) hG (dk dd_X10_who 57 rfl) (tgt := 122) (by decide) (fun h114 => ?_) (fun h114 => ?_)
        refine V_aload_n (pc := 122) hG (dk dd_X10_who 60 rfl) rfl ?_
        refine V_getR (pc := 123) hG (dk dd_X10_who 61 rfl) fl_X10_19 sh_67 rfl ?_
        refine V_iconst (pc := 126) hG (dk dd_X10_who 62 rfl) (v := 0) (by decide) ?_
        refine V_iald (pc := 127) hG (dk dd_X10_who 63 rfl) sh_71 r0 ?_
        refine V_icmp_ge (pc := 128) hG (dk dd_X10_who 64 rfl) (tgt := 200) (by decide) (fun h128 => ?_) (fun h128 => ?_)
        rotate_left
        rotate_left
        refine V_bipush (pc := 117) hG (dk dd_X10_who 58 rfl) (v := 6) (by decide) ?_
        refine V_goto (pc := 119) hG (dk dd_X10_who 59 rfl) (tgt := 128) (by decide) ?_
        refine V_icmp_ge (pc := 128) hG (dk dd_X10_who 64 rfl) (tgt := 200) (by decide) (fun h128 => ?_) (fun h128 => ?_)
        rotate_left
        rotate_left
        -- leaves: stop 200; stop 131; stop 200; stop 131
        · exfalso; rw [if_neg h114] at hB; rw [em0] at h128; have := le_i h128 (by omega) (by omega); omega
        · exact body
        · exfalso; rw [if_pos h114] at hB; have := le_i (a := 6) h128 (by omega) (by omega); omega
        · exact body
    -- what is found
    have res : ∀ (f F : Int32), TbS (μ 68) (μ 69) (itM μ) (α 0 6) n n2 m i j k f → (fnd f = 0 ↔ f = 0) → V C 87 [(0, vR 67), (1, vI x), (2, vI w), (3, vI y), (4, vI i), (5, vI u), (6, vI j), (7, vI k), (8, vI F)] [vI (fnd f)] (stM (th0 μ) f) := by
      intro f F hT hz0
      refine V_istore (pc := 87) hG (dk dd_X10_who 42 rfl) (by decide) (lv' := [(0, _), (1, _), (2, _), (3, _), (4, _), (5, _), (6, _), (7, _), (8, _)]) rfl ?_
      refine V_iload (pc := 89) hG (dk dd_X10_who 43 rfl) rfl ?_
      refine V_if_eq (pc := 91) hG (dk dd_X10_who 44 rfl) (tgt := 97) (by decide) (fun h91 => ?_) (fun h91 => ?_)
      rotate_left
      refine V_iload (pc := 94) hG (dk dd_X10_who 45 rfl) rfl ?_
      refine V_iretP (pc := 96) hG (dk dd_X10_who 46 rfl) hR (Pi.mk ?_)
      rotate_left
      -- leaves: stop 97; return@96
      · have f0 := hz0.mp h91
        subst f0
        obtain ⟨f1, t1, t2⟩ := id hT
        have t3 : f1 = 0 ∧ (0 : Int32) = lookS (μ 68) (μ 69) n2 j k := t2.elim (fun q => absurd q.2.symm q.1) id
        rw [t3.1] at t1
        obtain ⟨a, a1, a2, a3⟩ := t1.ok
        obtain ⟨b, b1, b2⟩ := lookS_0 (hk n2 hn2).2 hkm (by omega) t3.2.symm
        refine V_iconst (pc := 97) hG (dk dd_X10_who 47 rfl) (v := 0) (by decide) ?_
        refine V_istore (pc := 98) hG (dk dd_X10_who 48 rfl) (by decide) (lv' := [(0, _), (1, _), (2, _), (3, _), (4, _), (5, _), (6, _), (7, _), (8, _), (9, _)]) rfl ?_
        refine V_iload_n (pc := 100) hG (dk dd_X10_who 49 rfl) rfl ?_
        refine V_if_ne (pc := 101) hG (dk dd_X10_who 50 rfl) (tgt := 108) (by decide) (fun h101 => ?_) (fun h101 => ?_)
        refine V_iconst (pc := 108) hG (dk dd_X10_who 53 rfl) (v := 0) (by decide) ?_
        refine V_istore (pc := 109) hG (dk dd_X10_who 54 rfl) (by decide) (lv' := [(0, _), (1, _), (2, _), (3, _), (4, _), (5, _), (6, _), (7, _), (8, _), (9, _), (10, _)]) rfl ?_
        rotate_left
        refine V_iconst (pc := 104) hG (dk dd_X10_who 51 rfl) (v := 1) (by decide) ?_
        refine V_goto (pc := 105) hG (dk dd_X10_who 52 rfl) (tgt := 109) (by decide) ?_
        refine V_istore (pc := 109) hG (dk dd_X10_who 54 rfl) (by decide) (lv' := [(0, _), (1, _), (2, _), (3, _), (4, _), (5, _), (6, _), (7, _), (8, _), (9, _), (10, _)]) rfl ?_
        rotate_left
        -- leaves: stop 111; stop 111
        · have hwn : W ≠ 0 := fun z => h101 (w0.mpr z)
          exact loop a b a1 a2 b1 b2 a3 hT _ rfl _ 0 _ _ (Nat.zero_add _) (fun z => absurd z h101) (FrM.st μ 0)
        · have W0 := w0.mp h101
          have e1 : whoN α (hsI (itM μ) n a) (fun q => itM μ n2 (b + q)) m (α 0 3) x.toNatClampNeg (W + 1) 1 = 0 := by
            rw [whoN_s, b1_f (fun q => q.1 ⟨by omega, rfl⟩), Nat.or_zero]; rfl
          have hl := loop a b a1 a2 b1 b2 a3 hT 6 (by rw [if_pos h101]) 5 1 (stM (th0 μ) 0) (fnd 0) rfl (fun _ => Nat.le_refl 1) (FrM.st μ 0)
          rw [e1] at hl
          exact hl
      · have f0 : f ≠ 0 := fun z => h91 (hz0.mpr z)
        exact ⟨some f, Or.inr ⟨hi, n, n2, m, f, hy, hn, hu, hn2, hkm, m1, m2, hT, rfl, Or.inl ⟨f0, rfl⟩⟩, FrM.st μ f⟩
    refine V_aload_n (pc := 0) hG (dk dd_X10_who 0 rfl) rfl ?_
    refine V_iconst (pc := 1) hG (dk dd_X10_who 1 rfl) (v := 0) (by decide) ?_
    refine V_putI (pc := 2) hG (dk dd_X10_who 2 rfl) fl_X10_62 sh_67 rfl rfl ?_
    refine V_aload_n (pc := 5) hG (dk dd_X10_who 3 rfl) rfl ?_
    refine V_iload_n (pc := 6) hG (dk dd_X10_who 4 rfl) rfl ?_
    refine V_callVip (pc := 7) hG (dk dd_X10_who 5 rfl) ml_X10_201 mo_X10_isHum sh_67 rfl (m_isHum (n := α 0 6) (by omega) e3) (by decide) (by decide) rfl rfl rfl (fun x7 m7 p7 => ?_)
    refine V_if_eq (pc := 10) hG (dk dd_X10_who 6 rfl) (tgt := 53) (by decide) (fun h10 => ?_) (fun h10 => ?_)
    rotate_left
    refine V_iload_n (pc := 13) hG (dk dd_X10_who 7 rfl) rfl ?_
    refine V_i2l (pc := 14) hG (dk dd_X10_who 8 rfl) ?_
    refine V_lconst (pc := 15) hG (dk dd_X10_who 9 rfl) (v := 0) (by decide) ?_
    refine V_ldc2_w (pc := 16) hG (dk dd_X10_who 10 rfl) kk_X10_80 ?_
    refine V_callSip (pc := 19) hG (dk dd_X10_who 11 rfl) ml_X10_72 mo_X10_in (m_inI (v := w) (lo := 0) (hi := 2) rfl rfl (by decide)) (by decide) (by decide) rfl rfl rfl (fun x19 m19 p19 => ?_)
    refine V_if_eq (pc := 22) hG (dk dd_X10_who 12 rfl) (tgt := 53) (by decide) (fun h22 => ?_) (fun h22 => ?_)
    rotate_left
    refine V_iload_n (pc := 25) hG (dk dd_X10_who 13 rfl) rfl ?_
    refine V_callSip (pc := 26) hG (dk dd_X10_who 14 rfl) ml_X10_76 mo_X10_isRow (m_isRow) (by decide) (by decide) rfl rfl rfl (fun x26 m26 p26 => ?_)
    refine V_if_eq (pc := 29) hG (dk dd_X10_who 15 rfl) (tgt := 53) (by decide) (fun h29 => ?_) (fun h29 => ?_)
    rotate_left
    refine V_iload (pc := 32) hG (dk dd_X10_who 16 rfl) rfl ?_
    refine V_callSip (pc := 34) hG (dk dd_X10_who 17 rfl) ml_X10_76 mo_X10_isRow (m_isRow) (by decide) (by decide) rfl rfl rfl (fun x34 m34 p34 => ?_)
    refine V_if_eq (pc := 37) hG (dk dd_X10_who 18 rfl) (tgt := 53) (by decide) (fun h37 => ?_) (fun h37 => ?_)
    rotate_left
    refine V_iload (pc := 40) hG (dk dd_X10_who 19 rfl) rfl ?_
    refine V_i2l (pc := 42) hG (dk dd_X10_who 20 rfl) ?_
    refine V_lconst (pc := 43) hG (dk dd_X10_who 21 rfl) (v := 1) (by decide) ?_
    refine V_ldc2_w (pc := 44) hG (dk dd_X10_who 22 rfl) kk_X10_229 ?_
    refine V_callSip (pc := 47) hG (dk dd_X10_who 23 rfl) ml_X10_72 mo_X10_in (m_inI (v := k) (lo := 1) (hi := 12) rfl (by decide) (by decide)) (by decide) (by decide) rfl rfl rfl (fun x47 m47 p47 => ?_)
    refine V_if_ne (pc := 50) hG (dk dd_X10_who 24 rfl) (tgt := 56) (by decide) (fun h50 => ?_) (fun h50 => ?_)
    refine V_aload_n (pc := 56) hG (dk dd_X10_who 27 rfl) rfl ?_
    refine V_iload_n (pc := 57) hG (dk dd_X10_who 28 rfl) rfl ?_
    refine V_iload (pc := 58) hG (dk dd_X10_who 29 rfl) rfl ?_
    refine V_iload (pc := 60) hG (dk dd_X10_who 30 rfl) rfl ?_
    refine V_callVip (pc := 62) hG (dk dd_X10_who 31 rfl) ml_X10_231 mo_X10_humsFound sh_67 rfl (m_humsFound (μ := m47) (by rw [p47.1, p34.1, p26.1, p19.1, p7.1]; exact hk) hy hn hkm m2 (H := α 0 6) (by rw [p47.1, p34.1, p26.1, p19.1, p7.1]; exact e3) hH) (by decide) (by decide) rfl rfl rfl (fun x62 m62 p62 => ?_)
    refine V_istore (pc := 65) hG (dk dd_X10_who 32 rfl) (by decide) (lv' := [(0, _), (1, _), (2, _), (3, _), (4, _), (5, _), (6, _), (7, _), (8, _)]) rfl ?_
    refine V_iload (pc := 67) hG (dk dd_X10_who 33 rfl) rfl ?_
    refine V_if_ne (pc := 69) hG (dk dd_X10_who 34 rfl) (tgt := 85) (by decide) (fun h69 => ?_) (fun h69 => ?_)
    refine V_iload (pc := 85) hG (dk dd_X10_who 41 rfl) rfl ?_
    rotate_left
    refine V_aload_n (pc := 72) hG (dk dd_X10_who 35 rfl) rfl ?_
    refine V_iload (pc := 73) hG (dk dd_X10_who 36 rfl) rfl ?_
    refine V_iload (pc := 75) hG (dk dd_X10_who 37 rfl) rfl ?_
    refine V_iload (pc := 77) hG (dk dd_X10_who 38 rfl) rfl ?_
    refine V_callVip (pc := 79) hG (dk dd_X10_who 39 rfl) ml_X10_225 mo_X10_rowFound sh_67 rfl (m_rowFound (μ := m62) ?_ hu hn2 hk0) (by decide) (by decide) rfl rfl rfl (fun x79 m79 p79 => ?_)
    rotate_left
    refine V_goto (pc := 82) hG (dk dd_X10_who 40 rfl) (tgt := 87) (by decide) ?_
    rotate_left
    rotate_left
    -- leaves: stop 53; stop 53; stop 53; stop 53; stop 87; call rowFound@79 0; stop 87; stop 53
    all_goals (first | exact absurd i1 (p7.2.no h10) | exact absurd i2 (p19.2.no h22) | exact absurd i3 (p26.2.no h29) | exact absurd i4 (p34.2.no h37) | exact absurd i5 (p47.2.no h50) | skip)
    all_goals (rw [p47.1, p34.1, p26.1, p19.1, p7.1] at p62; obtain ⟨f, hf, rf, em⟩ := p62)
    · have f0 : f ≠ 0 := fun z => h69 (by rw [rf, z]; rfl)
      rw [rf, em]
      exact res f _ ⟨f, hf, Or.inl ⟨f0, rfl⟩⟩ hf.z
    · rw [em]; exact hk
    · have f0 : f = 0 := hf.z.mp (rf ▸ h69)
      obtain ⟨z1, z2⟩ := p79
      rw [em] at z1 z2
      rw [z1, z2, f0]
      have es : ∀ a b, stM (stM (th0 μ) a) b = stM (th0 μ) b := fun a b => by unfold stM; rw [setc_c, setc_s, upd_upd]
      have e2 : stM (stM (setc μ 67 (upd (μ 67) 0 0)) 0) (lookS (stM (setc μ 67 (upd (μ 67) 0 0)) 0 68) (stM (setc μ 67 (upd (μ 67) 0 0)) 0 69) n2 j k) = stM (th0 μ) (lookS (μ 68) (μ 69) n2 j k) := es 0 _
      rw [e2]
      exact res (lookS (μ 68) (μ 69) n2 j k) _ ⟨0, f0 ▸ hf, Or.inr ⟨rfl, rfl⟩⟩ fnd_0
  · have bad : ∀ M, M = th0 μ → ∃ o, WhoR α (μ 68) (μ 69) (itM μ) x w y i u j k (-1000001) o ∧ FrM μ o M := fun M e => ⟨none, Or.inl ⟨hi, rfl, rfl⟩, by rw [e]; exact FrM.th μ⟩
    refine V_aload_n (pc := 0) hG (dk dd_X10_who 0 rfl) rfl ?_
    refine V_iconst (pc := 1) hG (dk dd_X10_who 1 rfl) (v := 0) (by decide) ?_
    refine V_putI (pc := 2) hG (dk dd_X10_who 2 rfl) fl_X10_62 sh_67 rfl rfl ?_
    refine V_aload_n (pc := 5) hG (dk dd_X10_who 3 rfl) rfl ?_
    refine V_iload_n (pc := 6) hG (dk dd_X10_who 4 rfl) rfl ?_
    refine V_callVip (pc := 7) hG (dk dd_X10_who 5 rfl) ml_X10_201 mo_X10_isHum sh_67 rfl (m_isHum (n := α 0 6) (by omega) e3) (by decide) (by decide) rfl rfl rfl (fun x7 m7 p7 => ?_)
    refine V_if_eq (pc := 10) hG (dk dd_X10_who 6 rfl) (tgt := 53) (by decide) (fun h10 => ?_) (fun h10 => ?_)
    refine V_ldc (pc := 53) hG (dk dd_X10_who 25 rfl) kk_X10_82 ?_
    refine V_iretP (pc := 55) hG (dk dd_X10_who 26 rfl) hR (Pi.mk ?_)
    rotate_left
    refine V_iload_n (pc := 13) hG (dk dd_X10_who 7 rfl) rfl ?_
    refine V_i2l (pc := 14) hG (dk dd_X10_who 8 rfl) ?_
    refine V_lconst (pc := 15) hG (dk dd_X10_who 9 rfl) (v := 0) (by decide) ?_
    refine V_ldc2_w (pc := 16) hG (dk dd_X10_who 10 rfl) kk_X10_80 ?_
    refine V_callSip (pc := 19) hG (dk dd_X10_who 11 rfl) ml_X10_72 mo_X10_in (m_inI (v := w) (lo := 0) (hi := 2) rfl rfl (by decide)) (by decide) (by decide) rfl rfl rfl (fun x19 m19 p19 => ?_)
    refine V_if_eq (pc := 22) hG (dk dd_X10_who 12 rfl) (tgt := 53) (by decide) (fun h22 => ?_) (fun h22 => ?_)
    refine V_ldc (pc := 53) hG (dk dd_X10_who 25 rfl) kk_X10_82 ?_
    refine V_iretP (pc := 55) hG (dk dd_X10_who 26 rfl) hR (Pi.mk ?_)
    rotate_left
    refine V_iload_n (pc := 25) hG (dk dd_X10_who 13 rfl) rfl ?_
    refine V_callSip (pc := 26) hG (dk dd_X10_who 14 rfl) ml_X10_76 mo_X10_isRow (m_isRow) (by decide) (by decide) rfl rfl rfl (fun x26 m26 p26 => ?_)
    refine V_if_eq (pc := 29) hG (dk dd_X10_who 15 rfl) (tgt := 53) (by decide) (fun h29 => ?_) (fun h29 => ?_)
    refine V_ldc (pc := 53) hG (dk dd_X10_who 25 rfl) kk_X10_82 ?_
    refine V_iretP (pc := 55) hG (dk dd_X10_who 26 rfl) hR (Pi.mk ?_)
    rotate_left
    refine V_iload (pc := 32) hG (dk dd_X10_who 16 rfl) rfl ?_
    refine V_callSip (pc := 34) hG (dk dd_X10_who 17 rfl) ml_X10_76 mo_X10_isRow (m_isRow) (by decide) (by decide) rfl rfl rfl (fun x34 m34 p34 => ?_)
    refine V_if_eq (pc := 37) hG (dk dd_X10_who 18 rfl) (tgt := 53) (by decide) (fun h37 => ?_) (fun h37 => ?_)
    refine V_ldc (pc := 53) hG (dk dd_X10_who 25 rfl) kk_X10_82 ?_
    refine V_iretP (pc := 55) hG (dk dd_X10_who 26 rfl) hR (Pi.mk ?_)
    rotate_left
    refine V_iload (pc := 40) hG (dk dd_X10_who 19 rfl) rfl ?_
    refine V_i2l (pc := 42) hG (dk dd_X10_who 20 rfl) ?_
    refine V_lconst (pc := 43) hG (dk dd_X10_who 21 rfl) (v := 1) (by decide) ?_
    refine V_ldc2_w (pc := 44) hG (dk dd_X10_who 22 rfl) kk_X10_229 ?_
    refine V_callSip (pc := 47) hG (dk dd_X10_who 23 rfl) ml_X10_72 mo_X10_in (m_inI (v := k) (lo := 1) (hi := 12) rfl (by decide) (by decide)) (by decide) (by decide) rfl rfl rfl (fun x47 m47 p47 => ?_)
    refine V_if_ne (pc := 50) hG (dk dd_X10_who 24 rfl) (tgt := 56) (by decide) (fun h50 => ?_) (fun h50 => ?_)
    rotate_left
    refine V_ldc (pc := 53) hG (dk dd_X10_who 25 rfl) kk_X10_82 ?_
    refine V_iretP (pc := 55) hG (dk dd_X10_who 26 rfl) hR (Pi.mk ?_)
    rotate_left
    -- leaves: return@55; return@55; return@55; return@55; stop 56; return@55
    · exact bad _ p7.1
    · exact bad _ (p19.1.trans p7.1)
    · exact bad _ (p26.1.trans (p19.1.trans p7.1))
    · exact bad _ (p34.1.trans (p26.1.trans (p19.1.trans p7.1)))
    · exact absurd ⟨p7.2.yes h10, p19.2.yes h22, p26.2.yes h29, p34.2.yes h37, p47.2.yes h50⟩ hi
    · exact bad _ (p47.1.trans (p34.1.trans (p26.1.trans (p19.1.trans p7.1))))
