/-! ===== questions, on both sides ===== -/
theorem CtP.mol {y : MethodName} {b : ByteArray} {n : Nat} {ret : Option FieldType} {d : Nat} {as : List Vl} {μ : Mem} {f g : Int64 → Mem → Prop} (h : CtP y b n ret d as μ (Pl f)) (k : ∀ r m, f r m → g r m) : CtP y b n ret d as μ (Pl g) := by
  intro l E p e ha hc hk s m args below hf happ hP hkk
  obtain ⟨q, o, h1, h2, h3, ⟨⟨r, μ', ho, ⟨x, hx, hp⟩, hWo⟩, hF⟩, h5⟩ := h l E p e ha hc hk s m args below hf happ hP hkk
  exact ⟨q, o, h1, h2, h3, ⟨⟨r, μ', ho, ⟨x, hx, k x μ' hp⟩, hWo⟩, hF⟩, h5⟩
theorem o_ofHum {μ : Mem} (h : Inv μ) {x w : Int32} : CtP yX9_ofHum cX9_ofHum 3 (some .int) 3 [vR 0, vI x, vI w] μ (Pi (fun r m1 => CtP yX10_ofHum cX10_ofHum 3 (some .int) 2 [vR 67, vI x, vI w] m1 (Pi (fun r' m2 => r' = r ∧ Inv m2)))) := by
  obtain ⟨hR, hst, hfa, ⟨τ, n, hT, hTM⟩, ⟨α, As, L, nx, hz, hA, hB, hG, hM, hS⟩, ⟨βs, hI⟩, ⟨l, hl, hX, hXM⟩⟩ := id h
  refine (j_ofHum hA hz).mo (fun r m1 hc => ?_)
  obtain ⟨c1, rfl⟩ := hc
  refine (m_ofHum hB hz).mo (fun r' m2 hm => ?_)
  obtain ⟨d1, rfl⟩ := hm
  exact ⟨by rw [d1, c1], h.th⟩
theorem o_ofCase {μ : Mem} (h : Inv μ) {x w : Int32} : CtP yX9_ofCase cX9_ofCase 3 (some .int) 4 [vR 0, vI x, vI w] μ (Pi (fun r m1 => CtP yX10_ofCase cX10_ofCase 3 (some .int) 3 [vR 67, vI x, vI w] m1 (Pi (fun r' m2 => r' = r ∧ Inv m2)))) := by
  obtain ⟨hR, hst, hfa, ⟨τ, n, hT, hTM⟩, ⟨α, As, L, nx, hz, hA, hB, hG, hM, hS⟩, ⟨βs, hI⟩, ⟨l, hl, hX, hXM⟩⟩ := id h
  refine (j_ofCase hA hz).mo (fun r m1 hc => ?_)
  obtain ⟨c1, rfl⟩ := hc
  refine (m_ofCase hB hz).mo (fun r' m2 hm => ?_)
  obtain ⟨d1, rfl⟩ := hm
  exact ⟨by rw [d1, c1], h.th⟩
theorem o_stand {μ : Mem} (h : Inv μ) {w : Int32} : CtP yX9_stand cX9_stand 2 (some .int) 1 [vR 0, vI w] μ (Pi (fun r m1 => CtP yX10_stand cX10_stand 2 (some .int) 2 [vR 67, vI w] m1 (Pi (fun r' m2 => r' = r ∧ Inv m2)))) := by
  obtain ⟨hR, hst, hfa, ⟨τ, n, hT, hTM⟩, ⟨α, As, L, nx, hz, hA, hB, hG, hM, hS⟩, ⟨βs, hI⟩, ⟨l, hl, hX, hXM⟩⟩ := id h
  refine (j_stand hA hz).mo (fun r m1 hc => ?_)
  obtain ⟨c1, rfl⟩ := hc
  refine (m_stand hB hz).mo (fun r' m2 hm => ?_)
  obtain ⟨d1, rfl⟩ := hm
  exact ⟨by rw [d1, c1], h.th⟩
theorem o_deaf {μ : Mem} (h : Inv μ) : CtP yX9_deaf cX9_deaf 1 (some .int) 4 [vR 0] μ (Pi (fun r m1 => CtP yX10_deaf cX10_deaf 3 (some .int) 2 [vR 67] m1 (Pi (fun r' m2 => r' = r ∧ Inv m2)))) := by
  obtain ⟨hR, hst, hfa, ⟨τ, n, hT, hTM⟩, ⟨α, As, L, nx, hz, hA, hB, hG, hM, hS⟩, ⟨βs, hI⟩, ⟨l, hl, hX, hXM⟩⟩ := id h
  refine (j_deaf hA hz).mo (fun r m1 hc => ?_)
  obtain ⟨c1, rfl⟩ := hc
  refine (m_deaf hB hz).mo (fun r' m2 hm => ?_)
  obtain ⟨d1, rfl⟩ := hm
  exact ⟨by rw [d1, c1], h.th⟩
theorem o_kind {μ : Mem} (h : Inv μ) {x : Int32} : CtP yX9_kind cX9_kind 2 (some .int) 1 [vR 0, vI x] μ (Pi (fun r m1 => CtP yX10_kind cX10_kind 2 (some .int) 2 [vR 67, vI x] m1 (Pi (fun r' m2 => r' = r ∧ Inv m2)))) := by
  obtain ⟨hR, hst, hfa, ⟨τ, n, hT, hTM⟩, ⟨α, As, L, nx, hz, hA, hB, hG, hM, hS⟩, ⟨βs, hI⟩, ⟨l, hl, hX, hXM⟩⟩ := id h
  refine (j_kind hA hz).mo (fun r m1 hc => ?_)
  obtain ⟨c1, rfl⟩ := hc
  refine (m_kind hB hz).mo (fun r' m2 hm => ?_)
  obtain ⟨d1, rfl⟩ := hm
  exact ⟨by rw [d1, c1], h.th⟩
theorem o_clashes {μ : Mem} (h : Inv μ) {w : Int32} : CtP yX9_clashes cX9_clashes 2 (some .int) 5 [vR 0, vI w] μ (Pi (fun r m1 => CtP yX10_clashes cX10_clashes 6 (some .int) 3 [vR 67, vI w] m1 (Pi (fun r' m2 => r' = r ∧ Inv m2)))) := by
  obtain ⟨hR, hst, hfa, ⟨τ, n, hT, hTM⟩, ⟨α, As, L, nx, hz, hA, hB, hG, hM, hS⟩, ⟨βs, hI⟩, ⟨l, hl, hX, hXM⟩⟩ := id h
  refine (j_clashes hA hz).mo (fun r m1 hc => ?_)
  obtain ⟨c1, rfl⟩ := hc
  refine (m_clashes hB hz).mo (fun r' m2 hm => ?_)
  obtain ⟨d1, rfl⟩ := hm
  exact ⟨c1.uniq d1, h.th⟩
theorem o_same {μ : Mem} (h : Inv μ) {w : Int32} : CtP yX9_same cX9_same 2 (some .int) 5 [vR 0, vI w] μ (Pi (fun r m1 => CtP yX10_same cX10_same 7 (some .int) 3 [vR 67, vI w] m1 (Pi (fun r' m2 => r' = r ∧ Inv m2)))) := by
  obtain ⟨hR, hst, hfa, ⟨τ, n, hT, hTM⟩, ⟨α, As, L, nx, hz, hA, hB, hG, hM, hS⟩, ⟨βs, hI⟩, ⟨l, hl, hX, hXM⟩⟩ := id h
  refine (j_same hA hz).mo (fun r m1 hc => ?_)
  obtain ⟨c1, rfl⟩ := hc
  refine (m_same hB hz).mo (fun r' m2 hm => ?_)
  obtain ⟨d1, rfl⟩ := hm
  exact ⟨c1.uniq d1, h.th⟩
theorem o_gone {μ : Mem} (h : Inv μ) {x y w : Int32} : CtP yX9_gone cX9_gone 10 (some .long) 5 [vR 0, vI x, vI y, vI w] μ (Pl (fun r m1 => CtP yX10_gone cX10_gone 15 (some .long) 3 [vR 67, vI x, vI y, vI w] m1 (Pl (fun r' m2 => r' = r ∧ Inv m2)))) := by
  obtain ⟨hR, hst, hfa, ⟨τ, n, hT, hTM⟩, ⟨α, As, L, nx, hz, hA, hB, hG, hM, hS⟩, ⟨βs, hI⟩, ⟨l, hl, hX, hXM⟩⟩ := id h
  refine (j_gone hA hz).mol (fun r m1 hc => ?_)
  obtain ⟨c1, rfl⟩ := hc
  refine (m_gone hB hz).mol (fun r' m2 hm => ?_)
  obtain ⟨d1, rfl⟩ := hm
  exact ⟨c1.uniq d1, h.th⟩
theorem o_trace {μ : Mem} (h : Inv μ) {x : Int32} : CtP yX9_trace cX9_trace 2 (some .int) 0 [vR 0, vI x] μ (Pi (fun r m1 => CtP yX10_trace cX10_trace 2 (some .int) 1 [vR 67, vI x] m1 (Pi (fun r' m2 => r' = r ∧ Inv m2)))) := by
  obtain ⟨hR, hst, hfa, ⟨τ, n, hT, hTM⟩, ⟨α, As, L, nx, hz, hA, hB, hG, hM, hS⟩, ⟨βs, hI⟩, ⟨l, hl, hX, hXM⟩⟩ := id h
  refine (j_trace hX hl).mo (fun r m1 hc => ?_)
  obtain ⟨c1, rfl⟩ := hc
  refine (m_trace hXM hl).mo (fun r' m2 hm => ?_)
  obtain ⟨d1, rfl⟩ := hm
  exact ⟨by rw [d1, c1], h.th⟩
theorem o_status {μ : Mem} (h : Inv μ) : CtP yX9_status cX9_status 1 (some .int) 0 [vR 0] μ (Pi (fun r m1 => CtP yX10_status cX10_status 1 (some .int) 0 [vR 67] m1 (Pi (fun r' m2 => r' = r ∧ Inv m2)))) := by
  obtain ⟨hR, hst, hfa, ⟨τ, n, hT, hTM⟩, ⟨α, As, L, nx, hz, hA, hB, hG, hM, hS⟩, ⟨βs, hI⟩, ⟨l, hl, hX, hXM⟩⟩ := id h
  refine (j_status).mo (fun r m1 hc => ?_)
  obtain ⟨c1, rfl⟩ := hc
  refine (m_status).mo (fun r' m2 hm => ?_)
  obtain ⟨d1, rfl⟩ := hm
  exact ⟨by rw [d1, c1, hst], h.th⟩
theorem o_fault {μ : Mem} (h : Inv μ) : CtP yX9_fault cX9_fault 1 (some .int) 0 [vR 0] μ (Pi (fun r m1 => CtP yX10_fault cX10_fault 1 (some .int) 0 [vR 67] m1 (Pi (fun r' m2 => r' = r ∧ Inv m2)))) := by
  obtain ⟨hR, hst, hfa, ⟨τ, n, hT, hTM⟩, ⟨α, As, L, nx, hz, hA, hB, hG, hM, hS⟩, ⟨βs, hI⟩, ⟨l, hl, hX, hXM⟩⟩ := id h
  refine (j_fault).mo (fun r m1 hc => ?_)
  obtain ⟨c1, rfl⟩ := hc
  refine (m_fault).mo (fun r' m2 hm => ?_)
  obtain ⟨d1, rfl⟩ := hm
  exact ⟨by rw [d1, c1, hfa], h.th⟩
theorem o_count {μ : Mem} (h : Inv μ) {w : Int32} : CtP yX9_count cX9_count 2 (some .int) 2 [vR 0, vI w] μ (Pi (fun r m1 => CtP yX10_count cX10_count 4 (some .int) 0 [vR 67, vI w] m1 (Pi (fun r' m2 => r' = r ∧ Inv m2)))) := by
  obtain ⟨hR, hst, hfa, ⟨τ, n, hT, hTM⟩, ⟨α, As, L, nx, hz, hA, hB, hG, hM, hS⟩, ⟨βs, hI⟩, ⟨l, hl, hX, hXM⟩⟩ := id h
  refine (j_count hA hG.2.2.1 hT.1).mo (fun r m1 hc => ?_)
  obtain ⟨c1, rfl⟩ := hc
  refine (m_count hB hR.2.2.2 hM.1 hTM.1).mo (fun r' m2 hm => ?_)
  obtain ⟨d1, rfl⟩ := hm
  have e : ∀ k, hmN m1 68 k = hmN m1 11 k := fun k => by
    induction k with
    | zero => rfl
    | succ k ih =>
      show hmN m1 68 k + _ = hmN m1 11 k + _
      rw [ih, hR.1]
  exact ⟨by rw [d1, c1, e], h.th⟩
theorem o_dreams {μ : Mem} (h : Inv μ) {x w : Int32} : CtP yX9_dreams cX9_dreams 3 (some .int) 6 [vR 0, vI x, vI w] μ (Pi (fun r m1 => CtP yX10_dreams cX10_dreams 9 (some .int) 3 [vR 67, vI x, vI w] m1 (Pi (fun r' m2 => r' = r ∧ Inv m2)))) := by
  obtain ⟨hR, hst, hfa, ⟨τ, n, hT, hTM⟩, ⟨α, As, L, nx, hz, hA, hB, hG, hM, hS⟩, ⟨βs, hI⟩, ⟨l, hl, hX, hXM⟩⟩ := id h
  refine (j_dreams hA hz).mo (fun r m1 hc => ?_)
  obtain ⟨c1, c2⟩ := hc
  refine (m_dreams (α := α) (by rw [c2.m (a := 71) (by decide)]; exact hB) hz).mo (fun r' m2 hm => ?_)
  obtain ⟨d1, d2⟩ := hm
  exact ⟨c1.uniq d1, h.q c2 d2⟩
theorem o_least {μ : Mem} (h : Inv μ) {x y k : Int32} : CtP yX9_least cX9_least 4 (some .int) 5 [vR 0, vI x, vI y, vI k] μ (Pi (fun r m1 => CtP yX10_least cX10_least 5 (some .int) 3 [vR 67, vI x, vI y, vI k] m1 (Pi (fun r' m2 => r' = r ∧ Inv m2)))) := by
  obtain ⟨hR, hst, hfa, ⟨τ, n, hT, hTM⟩, ⟨α, As, L, nx, hz, hA, hB, hG, hM, hS⟩, ⟨βs, hI⟩, ⟨l, hl, hX, hXM⟩⟩ := id h
  refine (j_least hA hz).mo (fun r m1 hc => ?_)
  obtain ⟨c1, c2⟩ := hc
  refine (m_least (α := α) (by rw [c2.m (a := 71) (by decide)]; exact hB) hz).mo (fun r' m2 hm => ?_)
  obtain ⟨d1, d2⟩ := hm
  exact ⟨c1.uniq d1, h.q c2 d2⟩
theorem o_save {μ : Mem} (h : Inv μ) {x k : Int32} : CtP yX9_save cX9_save 3 (some .int) 5 [vR 0, vI x, vI k] μ (Pi (fun r m1 => CtP yX10_save cX10_save 4 (some .int) 3 [vR 67, vI x, vI k] m1 (Pi (fun r' m2 => r' = r ∧ Inv m2)))) := by
  obtain ⟨hR, hst, hfa, ⟨τ, n, hT, hTM⟩, ⟨α, As, L, nx, hz, hA, hB, hG, hM, hS⟩, ⟨βs, hI⟩, ⟨l, hl, hX, hXM⟩⟩ := id h
  refine (j_save hA hz).mo (fun r m1 hc => ?_)
  obtain ⟨c1, c2⟩ := hc
  refine (m_save (α := α) (by rw [c2.m (a := 71) (by decide)]; exact hB) hz).mo (fun r' m2 hm => ?_)
  obtain ⟨d1, d2⟩ := hm
  exact ⟨c1.uniq d1, h.q c2 d2⟩
theorem o_can {μ : Mem} (h : Inv μ) {x y : Int32} : CtP yX9_can cX9_can 3 (some .int) 5 [vR 0, vI x, vI y] μ (Pi (fun r m1 => CtP yX10_can cX10_can 6 (some .int) 3 [vR 67, vI x, vI y] m1 (Pi (fun r' m2 => r' = r ∧ Inv m2)))) := by
  obtain ⟨hR, hst, hfa, ⟨τ, n, hT, hTM⟩, ⟨α, As, L, nx, hz, hA, hB, hG, hM, hS⟩, ⟨βs, hI⟩, ⟨l, hl, hX, hXM⟩⟩ := id h
  refine (j_can hA hz).mo (fun r m1 hc => ?_)
  obtain ⟨c1, c2⟩ := hc
  refine (m_can (α := α) (by rw [c2.m (a := 71) (by decide)]; exact hB) hz).mo (fun r' m2 hm => ?_)
  obtain ⟨d1, d2⟩ := hm
  exact ⟨c1.uniq d1, h.q c2 d2⟩
theorem o_order {μ : Mem} (h : Inv μ) {k : Int32} : CtP yX9_order cX9_order 2 (some .int) 11 [vR 0, vI k] μ (Pi (fun r m1 => CtP yX10_order cX10_order 3 (some .int) 5 [vR 67, vI k] m1 (Pi (fun r' m2 => r' = r ∧ Inv m2)))) := by
  obtain ⟨hR, hst, hfa, ⟨τ, n, hT, hTM⟩, ⟨α, As, L, nx, hz, hA, hB, hG, hM, hS⟩, ⟨βs, hI⟩, ⟨l, hl, hX, hXM⟩⟩ := id h
  refine (j_order hA hz).mo (fun r m1 hc => ?_)
  obtain ⟨c1, c2⟩ := hc
  refine (m_order (α := α) (by rw [c2.m (a := 71) (by decide)]; exact hB) hz).mo (fun r' m2 hm => ?_)
  obtain ⟨d1, d2⟩ := hm
  exact ⟨c1.uniq d1, h.q c2 d2⟩
theorem o_first {μ : Mem} (h : Inv μ) : CtP yX9_first cX9_first 1 (some .int) 11 [vR 0] μ (Pi (fun r m1 => CtP yX10_first cX10_first 4 (some .int) 5 [vR 67] m1 (Pi (fun r' m2 => r' = r ∧ Inv m2)))) := by
  obtain ⟨hR, hst, hfa, ⟨τ, n, hT, hTM⟩, ⟨α, As, L, nx, hz, hA, hB, hG, hM, hS⟩, ⟨βs, hI⟩, ⟨l, hl, hX, hXM⟩⟩ := id h
  refine (j_first hA hz).mo (fun r m1 hc => ?_)
  obtain ⟨c1, c2⟩ := hc
  refine (m_first (α := α) (by rw [c2.m (a := 71) (by decide)]; exact hB) hz).mo (fun r' m2 hm => ?_)
  obtain ⟨d1, d2⟩ := hm
  exact ⟨c1.uniq d1, h.q c2 d2⟩
theorem o_drawn {μ : Mem} (h : Inv μ) {x y w : Int32} : CtP yX9_drawn cX9_drawn 4 (some .int) 6 [vR 0, vI x, vI y, vI w] μ (Pi (fun r m1 => CtP yX10_drawn cX10_drawn 9 (some .int) 4 [vR 67, vI x, vI y, vI w] m1 (Pi (fun r' m2 => r' = r ∧ Inv m2)))) := by
  obtain ⟨hR, hst, hfa, ⟨τ, n, hT, hTM⟩, ⟨α, As, L, nx, hz, hA, hB, hG, hM, hS⟩, ⟨βs, hI⟩, ⟨l, hl, hX, hXM⟩⟩ := id h
  refine (j_drawn hA hz).mo (fun r m1 hc => ?_)
  obtain ⟨c1, c2⟩ := hc
  refine (m_drawn (α := α) (by rw [c2.m (a := 71) (by decide)]; exact hB) hz).mo (fun r' m2 hm => ?_)
  obtain ⟨d1, d2⟩ := hm
  exact ⟨c1.uniq d1, h.q c2 d2⟩
theorem o_as {μ : Mem} (h : Inv μ) {x w : Int32} : CtP yX9_as cX9_as 3 (some .int) 2 [vR 0, vI x, vI w] μ (Pi (fun r m1 => CtP yX10_as cX10_as 3 (some .int) 2 [vR 67, vI x, vI w] m1 (Pi (fun r' m2 => r' = r ∧ Inv m2)))) := by
  obtain ⟨hR, hst, hfa, ⟨τ, n, hT, hTM⟩, ⟨α, As, L, nx, hz, hA, hB, hG, hM, hS⟩, ⟨βs, hI⟩, ⟨l, hl, hX, hXM⟩⟩ := id h
  refine (j_as hA hz).mo (fun r m1 hc => ?_)
  obtain ⟨o, c1, c2⟩ := hc
  refine (m_as (α := α) (by rw [c2.m (a := 71) (by decide)]; exact hB) hz).mo (fun r' m2 hm => ?_)
  obtain ⟨o', d1, d2⟩ := hm
  obtain ⟨e1, e2⟩ := c1.uniq d1
  exact ⟨e1, h.q c2 (e2 ▸ d2)⟩
theorem o_sleep {μ : Mem} (h : Inv μ) {x i k : Int32} : CtP yX9_sleep cX9_sleep 5 (some .int) 5 [vR 0, vI x, vI i, vI k] μ (Pi (fun r m1 => CtP yX10_sleep cX10_sleep 7 (some .int) 3 [vR 67, vI x, vI i, vI k] m1 (Pi (fun r' m2 => r' = r ∧ Inv m2)))) := by
  obtain ⟨hR, hst, hfa, ⟨τ, n, hT, hTM⟩, ⟨α, As, L, nx, hz, hA, hB, hG, hM, hS⟩, ⟨βs, hI⟩, ⟨l, hl, hX, hXM⟩⟩ := id h
  obtain ⟨r1, r2, r3, r4⟩ := id hR
  refine (j_sleep hA hz (by rw [r1, r2]; exact r4)).mo (fun r m1 hc => ?_)
  obtain ⟨o, c1, c2⟩ := hc
  have e8 := c2.m (a := 68) (by decide)
  have e9 := c2.m (a := 69) (by decide)
  refine (m_sleep (α := α) (by rw [c2.m (a := 71) (by decide)]; exact hB) hz (by rw [e8, e9]; exact r4)).mo (fun r' m2 hm => ?_)
  obtain ⟨o', d1, d2⟩ := hm
  have ei : itM m1 = itM μ := by unfold itM; rw [c2.m (a := 70) (by decide)]
  rw [e8, e9, ei] at d1
  rw [r1, r2] at c1
  obtain ⟨e1, e2⟩ := (c1.cg (I' := itM μ) (fun n hn k hk => r3 n hn k hk)).uniq d1
  exact ⟨e1, h.q c2 (e2 ▸ d2)⟩
theorem o_snored {μ : Mem} (h : Inv μ) {x y i k : Int32} : CtP yX9_snored cX9_snored 6 (some .int) 5 [vR 0, vI x, vI y, vI i, vI k] μ (Pi (fun r m1 => CtP yX10_snored cX10_snored 10 (some .int) 3 [vR 67, vI x, vI y, vI i, vI k] m1 (Pi (fun r' m2 => r' = r ∧ Inv m2)))) := by
  obtain ⟨hR, hst, hfa, ⟨τ, n, hT, hTM⟩, ⟨α, As, L, nx, hz, hA, hB, hG, hM, hS⟩, ⟨βs, hI⟩, ⟨l, hl, hX, hXM⟩⟩ := id h
  obtain ⟨r1, r2, r3, r4⟩ := id hR
  refine (j_snored hA hz (by rw [r1, r2]; exact r4)).mo (fun r m1 hc => ?_)
  obtain ⟨o, c1, c2⟩ := hc
  have e8 := c2.m (a := 68) (by decide)
  have e9 := c2.m (a := 69) (by decide)
  refine (m_snored (α := α) (by rw [c2.m (a := 71) (by decide)]; exact hB) hz (by rw [e8, e9]; exact r4)).mo (fun r' m2 hm => ?_)
  obtain ⟨o', d1, d2⟩ := hm
  have ei : itM m1 = itM μ := by unfold itM; rw [c2.m (a := 70) (by decide)]
  rw [e8, e9, ei] at d1
  rw [r1, r2] at c1
  obtain ⟨e1, e2⟩ := (c1.cg (I' := itM μ) (fun n hn k hk => r3 n hn k hk)).uniq d1
  exact ⟨e1, h.q c2 (e2 ▸ d2)⟩
theorem o_who {μ : Mem} (h : Inv μ) {x w y i u j k : Int32} : CtP yX9_who cX9_who 9 (some .int) 5 [vR 0, vI x, vI w, vI y, vI i, vI u, vI j, vI k] μ (Pi (fun r m1 => CtP yX10_who cX10_who 11 (some .int) 3 [vR 67, vI x, vI w, vI y, vI i, vI u, vI j, vI k] m1 (Pi (fun r' m2 => r' = r ∧ Inv m2)))) := by
  obtain ⟨hR, hst, hfa, ⟨τ, n, hT, hTM⟩, ⟨α, As, L, nx, hz, hA, hB, hG, hM, hS⟩, ⟨βs, hI⟩, ⟨l, hl, hX, hXM⟩⟩ := id h
  obtain ⟨r1, r2, r3, r4⟩ := id hR
  refine (j_who hA hz (by rw [r1, r2]; exact r4)).mo (fun r m1 hc => ?_)
  obtain ⟨o, c1, c2⟩ := hc
  have e8 := c2.m (a := 68) (by decide)
  have e9 := c2.m (a := 69) (by decide)
  refine (m_who (α := α) (by rw [c2.m (a := 71) (by decide)]; exact hB) hz (by rw [e8, e9]; exact r4)).mo (fun r' m2 hm => ?_)
  obtain ⟨o', d1, d2⟩ := hm
  have ei : itM m1 = itM μ := by unfold itM; rw [c2.m (a := 70) (by decide)]
  rw [e8, e9, ei] at d1
  rw [r1, r2] at c1
  obtain ⟨e1, e2⟩ := (c1.cg (I' := itM μ) (fun n hn k hk => r3 n hn k hk)).uniq d1
  exact ⟨e1, h.q c2 (e2 ▸ d2)⟩
theorem o_began {μ : Mem} (h : Inv μ) {w y i u j k : Int32} : CtP yX9_began cX9_began 8 (some .int) 6 [vR 0, vI w, vI y, vI i, vI u, vI j, vI k] μ (Pi (fun r m1 => CtP yX10_began cX10_began 12 (some .int) 3 [vR 67, vI w, vI y, vI i, vI u, vI j, vI k] m1 (Pi (fun r' m2 => r' = r ∧ Inv m2)))) := by
  obtain ⟨hR, hst, hfa, ⟨τ, n, hT, hTM⟩, ⟨α, As, L, nx, hz, hA, hB, hG, hM, hS⟩, ⟨βs, hI⟩, ⟨l, hl, hX, hXM⟩⟩ := id h
  obtain ⟨r1, r2, r3, r4⟩ := id hR
  refine (j_began hA hz (by rw [r1, r2]; exact r4)).mo (fun r m1 hc => ?_)
  obtain ⟨o, c1, c2⟩ := hc
  have e8 := c2.m (a := 68) (by decide)
  have e9 := c2.m (a := 69) (by decide)
  refine (m_began (α := α) (by rw [c2.m (a := 71) (by decide)]; exact hB) hz (by rw [e8, e9]; exact r4)).mo (fun r' m2 hm => ?_)
  obtain ⟨o', d1, d2⟩ := hm
  have ei : itM m1 = itM μ := by unfold itM; rw [c2.m (a := 70) (by decide)]
  rw [e8, e9, ei] at d1
  rw [r1, r2] at c1
  obtain ⟨e1, e2⟩ := (c1.cg (I' := itM μ) (fun n hn k hk => r3 n hn k hk)).uniq d1
  exact ⟨e1, h.q c2 (e2 ▸ d2)⟩
