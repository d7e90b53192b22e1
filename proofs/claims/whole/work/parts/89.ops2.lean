/-! ===== acts, on both sides ===== -/
theorem AsO.of {α : Al} {As : Nat → Al} {L : Nat} (h : ∀ i, i < L → Sta α (As i) ∧ Val (As i)) : AsO As L := fun i hi => ⟨(h i hi).2.H, (h i hi).2.C⟩
theorem Inv.act {μ m1 m2 : Mem} {α : Al} {As : Nat → Al} {L nx : Nat} {o : Option Al} (h : Inv μ) (hz : Vz α) (hA : Abs (kac μ 15) α) (hS : ∀ i, i < L → Sta α (As i) ∧ Val (As i)) (c : OutC μ As L α o m1) (m : OutM m1 As L α o m2) (hb : ∀ β, o = some β → Val α ∧ Val β ∧ Sta α β) : Inv m2 := by
  rcases c with ⟨c1, c2⟩ | ⟨β, c1, c2, c3, nx', c4⟩
  · rcases m with ⟨m1, rfl⟩ | ⟨β, m1, _⟩
    · rw [c2]; exact h.th
    · rw [c1] at m1; cases m1
  · rcases m with ⟨d1, _⟩ | ⟨β', d1, d2, d3, d4, d5⟩
    · rw [c1] at d1; cases d1
    · have eb : β' = β := Option.some.inj (d1.symm.trans c1)
      subst eb
      obtain ⟨va, vb, sab⟩ := hb β' c1
      obtain ⟨h1, h2, h3, h4, h5, h6, h7⟩ := h
      have lo : ∀ a, (a < 15 ∨ 22 < a) → a ≠ 32 → a ≠ 33 → a < 67 → m2 a = μ a := fun a x y z w => by rw [d2 a (by omega) (by omega) (by omega)]; exact c2 a x y z
      have hi : ∀ a, 68 ≤ a → a ≠ 71 → a ≠ 74 → m2 a = μ a := fun a x y z => by rw [d2 a (by omega) y z]; exact c2 a (by omega) (by omega) (by omega)
      have sl : ∀ q, 1 ≤ q → q ≠ 9 → m2 67 q = μ 67 q := fun q x y => by rw [d3 q x y, c2 67 (by decide) (by decide) (by decide)]
      refine ⟨h1.fr (fun a x y => lo a (by omega) (by omega) (by omega) (by omega)) (fun a x y => hi a (by omega) (by omega) (by omega)), ?_, ?_, h4.fr (lo 13 (by decide) (by decide) (by decide) (by decide)) (lo 14 (by decide) (by decide) (by decide) (by decide)) (hi 75 (by decide) (by decide) (by decide)) (sl 11 (by decide) (by decide)), ?_, h6.fr (fun a x y => lo a (by omega) (by omega) (by omega) (by omega)) (hi 82 (by decide) (by decide) (by decide)) (hi 83 (by decide) (by decide) (by decide)), h7.fr (lo 65 (by decide) (by decide) (by decide) (by decide)) (lo 66 (by decide) (by decide) (by decide) (by decide)) (hi 84 (by decide) (by decide) (by decide)) (sl 30 (by decide) (by decide))⟩
      · rw [lo 0 (by decide) (by decide) (by decide) (by decide), sl 1 (by decide) (by decide)]; exact h2
      · rw [lo 0 (by decide) (by decide) (by decide) (by decide), sl 18 (by decide) (by decide)]; exact h3
      · obtain ⟨r1, r2, r3, r4, r5⟩ := c4
        have e32 : m2 32 = m1 32 := d2 32 (by decide) (by decide) (by decide)
        have e33 : m2 33 = m1 33 := d2 33 (by decide) (by decide) (by decide)
        refine ⟨β', pushA α As, min (L + 1) 24, nx', Or.inl vb, c3.off (fun x hx => d2 _ (by omega) (by omega) (by omega)), d4, ⟨by rw [e32]; exact r1, r2, by rw [e32]; exact r3, r4, by rw [e33]; exact r5⟩, d5, fun i hi => ?_⟩
        unfold pushA
        by_cases z : i = 0
        · rw [if_pos z]; exact ⟨sab.sy, va⟩
        · rw [if_neg z]
          obtain ⟨q1, q2⟩ := hS (i - 1) (by omega)
          exact ⟨sab.sy.tr q1, q2⟩
theorem sta_0 {α : Al} {i v : Nat} (hi : i = 3 ∨ i = 4 ∨ i = 5) : Sta α (updA α 0 i v) := ⟨fun j _ a b c => (updA_n (by omega)).symm, fun x h hx _ => (updA_n (by omega)).symm, fun x c hx _ => (updA_n (by omega)).symm⟩
theorem sta_x {α : Al} {y i v : Nat} (hy : y = 2 ∨ y = 7) : Sta α (updA α y i v) := ⟨fun j _ a b c => (updA_n (by omega)).symm, fun x h hx _ => (updA_n (by omega)).symm, fun x c hx _ => (updA_n (by omega)).symm⟩
theorem hum_b {α β : Al} {x : Int32} (hz : Vz α) (h : (humF α x).2 = some β) : Val α ∧ Val β ∧ Sta α β := by
  unfold humF at h
  split at h
  · rename_i hi
    have hh := (hi.n (by have := hz.H; omega)).2
    have hv := hz.vh hh
    split at h
    · cases h
    · rename_i hne
      have e := Option.some.inj h
      rw [← e]
      have h42 : α 0 4 ≤ α 0 2 := hv.2.2.2.2.1
      have v1 := val_D hv (humN_lt hv hh hv.D)
      refine ⟨hv, ?_, (sta_0 (Or.inl rfl)).tr (sta_0 (Or.inr (Or.inl rfl)))⟩
      unfold humA
      obtain ⟨a1, a2, a3, a4, a5, a6, a7, a8, a9⟩ := v1
      refine ⟨?_, ?_, ?_, ?_, ?_, ?_, ?_, fun k hk => ?_, fun c hc => ?_⟩
      · rw [updA_n (by omega)]; exact a1
      · rw [updA_n (by omega)]; exact a2
      · rw [updA_n (by omega)]; exact a3
      · rw [updA_n (by omega), updA_n (x := 0) (i := 4) (y := 0) (j := 0) (by omega)]; exact a4
      · rw [updA_s, updA_n (by omega), updA_n (by omega)]; omega
      · rw [updA_n (by omega)]; exact a6
      · rw [updA_n (by omega)]; exact a7
      · rw [updA_n (by omega)] at hk
        have := a8 k hk
        unfold HumOk at this ⊢
        rw [updA_n (x := 0) (i := 4) (y := 1) (by omega), updA_n (x := 0) (i := 4) (y := 2) (by omega), updA_n (x := 0) (i := 4) (y := 3) (by omega), updA_n (x := 0) (i := 4) (y := 0) (j := 0) (by omega)]; exact this
      · rw [updA_n (by omega)] at hc
        have := a9 c hc
        unfold CaseOk at this ⊢
        rw [updA_n (x := 0) (i := 4) (y := 4) (by omega), updA_n (x := 0) (i := 4) (y := 5) (by omega), updA_n (x := 0) (i := 4) (y := 6) (by omega), updA_n (x := 0) (i := 4) (y := 7) (by omega), updA_n (x := 0) (i := 4) (y := 0) (j := 0) (by omega), updA_n (x := 0) (i := 4) (y := 0) (j := 6) (by omega)]; exact this
  · cases h
theorem hea_b {α β : Al} {x : Int32} (hz : Vz α) (h : (heaF α x).2 = some β) : Val α ∧ Val β ∧ Sta α β := by
  unfold heaF at h
  split at h
  · rename_i hi
    have hh := (hi.n (by have := hz.C; omega)).2
    have hv := hz.vc hh
    split at h
    · have e := Option.some.inj h
      rw [← e]
      refine ⟨hv, val_hrd hv hh, ?_⟩
      rw [← hrd_eq]
      exact (((sta_x (Or.inr rfl)).tr (sta_0 (Or.inl rfl))).tr (sta_0 (Or.inr (Or.inr rfl)))).tr (sta_0 (Or.inr (Or.inl rfl)))
    · cases h
  · cases h
theorem app_b {α β : Al} {x : Int32} (hz : Vz α) (h : (appF α x).2 = some β) : Val α ∧ Val β ∧ Sta α β := by
  unfold appF at h
  split at h
  · rename_i hi
    have hh := (hi.n (by have := hz.C; omega)).2
    have hv := hz.vc hh
    split at h
    · split at h
      · have e := Option.some.inj h
        rw [← e]; exact ⟨hv, val_way hv (by decide), sta_x (Or.inr rfl)⟩
      · have e := Option.some.inj h
        rw [← e]; exact ⟨hv, val_way hv (by decide), sta_x (Or.inr rfl)⟩
    · cases h
  · cases h
theorem fog_b {α β : Al} {x : Int32} (hz : Vz α) (h : (fogF α x).2 = some β) : Val α ∧ Val β ∧ Sta α β := by
  unfold fogF at h
  split at h
  · rename_i hi
    have hh := (hi.n (by have := hz.t; omega)).2
    have hv := hz.vt hh
    split at h
    · have e := Option.some.inj h
      rw [← e]; exact ⟨hv, val_D hv (Nat.lt_of_le_of_lt (clr_le _ _) hv.D), sta_0 (Or.inl rfl)⟩
    · cases h
  · cases h
theorem lea_b {α β : Al} {x y : Int32} (hz : Vz α) (h : (leaF α x y).2 = some β) : Val α ∧ Val β ∧ Sta α β := by
  unfold leaF at h
  split at h
  · rename_i hi
    have hh := (hi.1.n (by have := hz.H; omega)).2
    have hk := (hi.2.n (by have := hz.t; omega)).2
    have hv := hz.vh hh
    have e := Option.some.inj h
    rw [← e]; exact ⟨hv, val_h3 hv (by decide) (fun q => absurd q (by decide)) (fun _ => hk), sta_x (Or.inl rfl)⟩
  · cases h
theorem Vz.p {α : Al} (hz : Vz α) : α 0 4 ≤ α 0 2 ∧ α 0 2 < 100 := hz.elim (fun v => ⟨v.2.2.2.2.1, by have := v.2.2.1.2; omega⟩) (fun z => by rw [z 4 (by decide), z 2 (by decide)]; decide)
theorem outc_m {μ m1 : Mem} {As : Nat → Al} {L : Nat} {α : Al} {o : Option Al} (c : OutC μ As L α o m1) {a : Nat} (ha : 34 ≤ a) : m1 a = μ a := by
  rcases c with ⟨_, c⟩ | ⟨β, _, c, _⟩
  · rw [c]
  · exact c a (by omega) (by omega) (by omega)
theorem rgm_off {μ m1 : Mem} {As : Nat → Al} {L : Nat} (h : RgM μ As L) (e1 : m1 67 = μ 67) (e2 : m1 74 = μ 74) : RgM m1 As L := ⟨by rw [e1]; exact h.1, h.2.1, by rw [e2]; exact h.2.2⟩
theorem o_hum {μ : Mem} (h : Inv μ) {x : Int32} : CtP yX9_hum cX9_hum 2 (some .int) 3 [vR 0, vI x] μ (Pi (fun r m1 => CtP yX10_hum cX10_hum 2 (some .int) 2 [vR 67, vI x] m1 (Pi (fun r' m2 => r' = r ∧ Inv m2)))) := by
  obtain ⟨hR, hst, hfa, ⟨τ, n, hT, hTM⟩, ⟨α, As, L, nx, hz, hA, hB, hG, hM, hS⟩, ⟨βs, hI⟩, ⟨l, hl, hX, hXM⟩⟩ := id h
  refine (j_hum hA hz hz.p.1 hz.p.2 hG (AsO.of hS)).mo (fun r m1 hc => ?_)
  obtain ⟨c1, c2⟩ := hc
  refine (m_hum (α := α) (As := As) (L := L) (by rw [outc_m c2 (a := 71) (by decide)]; exact hB) hz (by have := hz.p; omega) hz.p.2 (rgm_off hM (outc_m c2 (by decide)) (outc_m c2 (by decide))) (AsO.of hS)).mo (fun r' m2 hm => ?_)
  obtain ⟨d1, d2⟩ := hm
  exact ⟨by rw [d1, c1], h.act (nx := nx) hz hA hS c2 d2 (fun β hb => hum_b hz hb)⟩
theorem o_hear {μ : Mem} (h : Inv μ) {x : Int32} : CtP yX9_hear cX9_hear 3 (some .int) 5 [vR 0, vI x] μ (Pi (fun r m1 => CtP yX10_hear cX10_hear 2 (some .int) 4 [vR 67, vI x] m1 (Pi (fun r' m2 => r' = r ∧ Inv m2)))) := by
  obtain ⟨hR, hst, hfa, ⟨τ, n, hT, hTM⟩, ⟨α, As, L, nx, hz, hA, hB, hG, hM, hS⟩, ⟨βs, hI⟩, ⟨l, hl, hX, hXM⟩⟩ := id h
  refine (j_hear hA hz hG (AsO.of hS)).mo (fun r m1 hc => ?_)
  obtain ⟨c1, c2⟩ := hc
  refine (m_hear (α := α) (As := As) (L := L) (by rw [outc_m c2 (a := 71) (by decide)]; exact hB) hz (rgm_off hM (outc_m c2 (by decide)) (outc_m c2 (by decide))) (AsO.of hS)).mo (fun r' m2 hm => ?_)
  obtain ⟨d1, d2⟩ := hm
  exact ⟨by rw [d1, c1], h.act (nx := nx) hz hA hS c2 d2 (fun β hb => hea_b hz hb)⟩
theorem o_appeal {μ : Mem} (h : Inv μ) {x : Int32} : CtP yX9_appeal cX9_appeal 3 (some .int) 2 [vR 0, vI x] μ (Pi (fun r m1 => CtP yX10_appeal cX10_appeal 3 (some .int) 2 [vR 67, vI x] m1 (Pi (fun r' m2 => r' = r ∧ Inv m2)))) := by
  obtain ⟨hR, hst, hfa, ⟨τ, n, hT, hTM⟩, ⟨α, As, L, nx, hz, hA, hB, hG, hM, hS⟩, ⟨βs, hI⟩, ⟨l, hl, hX, hXM⟩⟩ := id h
  refine (j_appeal hA hz hG (AsO.of hS)).mo (fun r m1 hc => ?_)
  obtain ⟨c1, c2⟩ := hc
  refine (m_appeal (α := α) (As := As) (L := L) (by rw [outc_m c2 (a := 71) (by decide)]; exact hB) hz (rgm_off hM (outc_m c2 (by decide)) (outc_m c2 (by decide))) (AsO.of hS)).mo (fun r' m2 hm => ?_)
  obtain ⟨d1, d2⟩ := hm
  exact ⟨by rw [d1, c1], h.act (nx := nx) hz hA hS c2 d2 (fun β hb => app_b hz hb)⟩
theorem o_forget {μ : Mem} (h : Inv μ) {x : Int32} : CtP yX9_forget cX9_forget 2 (some .int) 2 [vR 0, vI x] μ (Pi (fun r m1 => CtP yX10_forget cX10_forget 2 (some .int) 2 [vR 67, vI x] m1 (Pi (fun r' m2 => r' = r ∧ Inv m2)))) := by
  obtain ⟨hR, hst, hfa, ⟨τ, n, hT, hTM⟩, ⟨α, As, L, nx, hz, hA, hB, hG, hM, hS⟩, ⟨βs, hI⟩, ⟨l, hl, hX, hXM⟩⟩ := id h
  refine (j_forget hA hz hG (AsO.of hS)).mo (fun r m1 hc => ?_)
  obtain ⟨c1, c2⟩ := hc
  refine (m_forget (α := α) (As := As) (L := L) (by rw [outc_m c2 (a := 71) (by decide)]; exact hB) hz (rgm_off hM (outc_m c2 (by decide)) (outc_m c2 (by decide))) (AsO.of hS)).mo (fun r' m2 hm => ?_)
  obtain ⟨d1, d2⟩ := hm
  exact ⟨by rw [d1, c1], h.act (nx := nx) hz hA hS c2 d2 (fun β hb => fog_b hz hb)⟩
theorem o_learn {μ : Mem} (h : Inv μ) {x y : Int32} : CtP yX9_learn cX9_learn 4 (some .int) 2 [vR 0, vI x, vI y] μ (Pi (fun r m1 => CtP yX10_learn cX10_learn 4 (some .int) 2 [vR 67, vI x, vI y] m1 (Pi (fun r' m2 => r' = r ∧ Inv m2)))) := by
  obtain ⟨hR, hst, hfa, ⟨τ, n, hT, hTM⟩, ⟨α, As, L, nx, hz, hA, hB, hG, hM, hS⟩, ⟨βs, hI⟩, ⟨l, hl, hX, hXM⟩⟩ := id h
  refine (j_learn hA hz hG (AsO.of hS)).mo (fun r m1 hc => ?_)
  obtain ⟨c1, c2⟩ := hc
  refine (m_learn (α := α) (As := As) (L := L) (by rw [outc_m c2 (a := 71) (by decide)]; exact hB) hz (rgm_off hM (outc_m c2 (by decide)) (outc_m c2 (by decide))) (AsO.of hS)).mo (fun r' m2 hm => ?_)
  obtain ⟨d1, d2⟩ := hm
  exact ⟨by rw [d1, c1], h.act (nx := nx) hz hA hS c2 d2 (fun β hb => lea_b hz hb)⟩
theorem o_undo {μ : Mem} (h : Inv μ) : CtP yX9_undo cX9_undo 1 (some .int) 2 [vR 0] μ (Pi (fun r m1 => CtP yX10_undo cX10_undo 2 (some .int) 0 [vR 67] m1 (Pi (fun r' m2 => r' = r ∧ Inv m2)))) := by
  obtain ⟨hR, hst, hfa, ⟨τ, n, hT, hTM⟩, ⟨α, As, L, nx, hz, hA, hB, hG, hM, hS⟩, ⟨βs, hI⟩, ⟨l, hl, hX, hXM⟩⟩ := id h
  refine (j_undo hA hz hG (fun z => (hS 0 z).1)).mo (fun r m1 hc => ?_)
  have m67 : ∀ a, 34 ≤ a → m1 a = μ a := fun a ha => by
    rcases hc with ⟨_, _, c⟩ | ⟨_, _, c, _⟩
    · rw [c]
    · exact c a (by omega) (by omega)
  refine (m_undo (As := As) (L := L) (rgm_off hM (m67 67 (by decide)) (m67 74 (by decide))) (AsO.of hS)).mo (fun r' m2 hm => ?_)
  rcases hc with ⟨a1, a2, a3⟩ | ⟨a1, a2, a3, a4, nx', a5⟩ <;> rcases hm with ⟨b1, b2, b3⟩ | ⟨b1, b2, b3, b4, b5, b6⟩
  · exact ⟨by rw [a2, b2], by rw [b3, a3]; exact h.th⟩
  · omega
  · omega
  · refine ⟨by rw [a2, b2], ?_⟩
    obtain ⟨h1, h2, h3, h4, h5, h6, h7⟩ := h
    have lo : ∀ a, (a < 15 ∨ 22 < a) → a ≠ 32 → a < 67 → m2 a = μ a := fun a x y w => by rw [b3 a (by omega) (by omega)]; exact a3 a y x
    have hi : ∀ a, 68 ≤ a → a ≠ 71 → m2 a = μ a := fun a x y => by rw [b3 a (by omega) y]; exact m67 a (by omega)
    have sl : ∀ q, 1 ≤ q → q ≠ 9 → m2 67 q = μ 67 q := fun q x y => by rw [b4 q x y, m67 67 (by decide)]
    refine ⟨h1.fr (fun a x y => lo a (by omega) (by omega) (by omega)) (fun a x y => hi a (by omega) (by omega)), ?_, ?_, h4.fr (lo 13 (by decide) (by decide) (by decide)) (lo 14 (by decide) (by decide) (by decide)) (hi 75 (by decide) (by decide)) (sl 11 (by decide) (by decide)), ?_, h6.fr (fun a x y => lo a (by omega) (by omega) (by omega)) (hi 82 (by decide) (by decide)) (hi 83 (by decide) (by decide)), h7.fr (lo 65 (by decide) (by decide) (by decide)) (lo 66 (by decide) (by decide) (by decide)) (hi 84 (by decide) (by decide)) (sl 30 (by decide) (by decide))⟩
    · rw [lo 0 (by decide) (by decide) (by decide), sl 1 (by decide) (by decide)]; exact h2
    · rw [lo 0 (by decide) (by decide) (by decide), sl 18 (by decide) (by decide)]; exact h3
    · obtain ⟨r1, r2, r3, r4, r5⟩ := a5
      have e32 : m2 32 = m1 32 := b3 32 (by decide) (by decide)
      have e33 : m2 33 = m1 33 := b3 33 (by decide) (by decide)
      refine ⟨As 0, fun i => As (i + 1), L - 1, nx', Or.inl (hS 0 a1).2, a4.off (fun x hx => b3 _ (by omega) (by omega)), b5, ⟨by rw [e32]; exact r1, r2, by rw [e32]; exact r3, r4, by rw [e33]; exact r5⟩, b6, fun i hi => ⟨(hS 0 a1).1.sy.tr (hS (i + 1) (by omega)).1, (hS (i + 1) (by omega)).2⟩⟩
theorem o_ask {μ : Mem} (h : Inv μ) {x w : Int32} : CtP yX9_ask cX9_ask 3 (some .int) 7 [vR 0, vI x, vI w] μ (Pi (fun r m1 => CtP yX10_ask cX10_ask 3 (some .int) 5 [vR 67, vI x, vI w] m1 (Pi (fun r' m2 => r' = r ∧ Inv m2)))) := by
  obtain ⟨hR, hst, hfa, ⟨τ, n, hT, hTM⟩, ⟨α, As, L, nx, hz, hA, hB, hG, hM, hS⟩, ⟨βs, hI⟩, ⟨l, hl, hX, hXM⟩⟩ := id h
  refine (j_ask hA hz).mo (fun r m1 hc => ?_)
  have m67 : ∀ a, 67 ≤ a → m1 a = μ a := fun a ha => by
    rcases hc with ⟨_, _, c⟩ | ⟨_, _, _, c⟩
    · rw [c]
    · exact c a (by omega) (by omega)
  refine (m_ask (α := α) (by rw [m67 71 (by decide)]; exact hB) hz).mo (fun r' m2 hm => ?_)
  rcases hc with ⟨a1, a2, a3⟩ | ⟨a1, a2, a3, a4⟩ <;> rcases hm with ⟨b1, b2, b3⟩ | ⟨b1, b2, b3, b4, b5⟩
  · exact ⟨by rw [a2, b2], by rw [b3, a3]; exact h.th⟩
  · exact absurd b1 a1
  · exact absurd a1 b1
  · refine ⟨by rw [a2, b2], ?_⟩
    obtain ⟨h1, h2, h3, h4, h5, h6, h7⟩ := h
    have lo : ∀ a, a ≠ 65 → a ≠ 66 → a < 67 → m2 a = μ a := fun a x y w => by rw [b4 a (by omega) (by omega)]; exact a4 a x y
    have hi : ∀ a, 68 ≤ a → a ≠ 84 → m2 a = μ a := fun a x y => by rw [b4 a (by omega) y]; exact m67 a (by omega)
    have sl : ∀ q, 1 ≤ q → q ≠ 30 → m2 67 q = μ 67 q := fun q x y => by rw [b5 q x y, m67 67 (by decide)]
    refine ⟨h1.fr (fun a x y => lo a (by omega) (by omega) (by omega)) (fun a x y => hi a (by omega) (by omega)), ?_, ?_, h4.fr (lo 13 (by decide) (by decide) (by decide)) (lo 14 (by decide) (by decide) (by decide)) (hi 75 (by decide) (by decide)) (sl 11 (by decide) (by decide)), h5.fr (fun a x y => lo a (by omega) (by omega) (by omega)) (lo 32 (by decide) (by decide) (by decide)) (lo 33 (by decide) (by decide) (by decide)) (hi 71 (by decide) (by decide)) (hi 74 (by decide) (by decide)) (sl 9 (by decide) (by decide)), h6.fr (fun a x y => lo a (by omega) (by omega) (by omega)) (hi 82 (by decide) (by decide)) (hi 83 (by decide) (by decide)), ?_⟩
    · rw [lo 0 (by decide) (by decide) (by decide), sl 1 (by decide) (by decide)]; exact h2
    · rw [lo 0 (by decide) (by decide) (by decide), sl 18 (by decide) (by decide)]; exact h3
    · exact ⟨_, by have := askT_len α x.toNatClampNeg w; omega, ⟨by rw [b4 65 (by decide) (by decide)]; exact a3.1, by rw [b4 66 (by decide) (by decide)]; exact a3.2⟩, b3⟩
