/-! ===== rows, tape, court, images, on both sides ===== -/
theorem Inv.rows {μ m2 : Mem} (h : Inv μ) (hr : InR m2) (e12 : m2 0 12 = m2 67 1) (e11 : m2 0 11 = μ 0 11) (sl : ∀ q, 2 ≤ q → m2 67 q = μ 67 q) (lo : ∀ a, 13 ≤ a → a < 67 → m2 a = μ a) (hi : ∀ a, 71 ≤ a → m2 a = μ a) : Inv m2 := by
  obtain ⟨h1, h2, h3, h4, h5, h6, h7⟩ := h
  exact ⟨hr, e12, by rw [e11, sl 18 (by decide)]; exact h3, h4.fr (lo 13 (by decide) (by decide)) (lo 14 (by decide) (by decide)) (hi 75 (by decide)) (sl 11 (by decide)), h5.fr (fun a x y => lo a (by omega) (by omega)) (lo 32 (by decide) (by decide)) (lo 33 (by decide) (by decide)) (hi 71 (by decide)) (hi 74 (by decide)) (sl 9 (by decide)), h6.fr (fun a x y => lo a (by omega) (by omega)) (hi 82 (by decide)) (hi 83 (by decide)), h7.fr (lo 65 (by decide) (by decide)) (lo 66 (by decide) (by decide)) (hi 84 (by decide)) (sl 30 (by decide))⟩
/-- a finding, on both sides -/
theorem Inv.found {μ : Mem} (h : Inv μ) (s : Int32) : Inv (thS (setc μ 0 (upd (μ 0) 12 s)) s) := by
  refine h.q (o := some s) (FrC.st (FrC.rf μ) s) ⟨fun j a b c => by unfold thS; rw [setc_n a], fun q a b c => by unfold thS; rw [setc_s, upd_n (by omega), upd_n (by omega)], by unfold thS; rw [setc_s, upd_s]; rfl⟩
theorem isR_of {x : Int32} {n : Nat} (hx : x = nI n) (hn : n < 8) : isR x := by rw [hx]; exact ⟨nI_pos' (by omega), (nI_leI (b := 7) (by omega) (by decide)).mpr (by omega)⟩
theorem rok_upd {ln mn : Nat → Int32} (h : Rok ln mn) {n : Nat} {l c : Int32} (hl : l = -1 ∨ 0 ≤ l) (hc : 0 ≤ c ∧ c ≤ 40) : Rok (upd ln n l) (upd mn n c) := fun k hk => by
  rw [upd_at, upd_at]
  by_cases z : k = n
  · rw [if_pos z, if_pos z]; exact ⟨hl, hc⟩
  · rw [if_neg z, if_neg z]; exact h k hk
theorem thS_67 (μ : Mem) (s : Int32) {q : Nat} (h : 2 ≤ q) : thS μ s 67 q = μ 67 q := by unfold thS; rw [setc_s, upd_n (by omega), upd_n (by omega)]
theorem thS_1 (μ : Mem) (s : Int32) : thS μ s 67 1 = s := by unfold thS; rw [setc_s, upd_s]
theorem thS_n (μ : Mem) (s : Int32) {a : Nat} (h : a ≠ 67) : thS μ s a = μ a := by unfold thS; rw [setc_n h]
theorem o_row {μ : Mem} (h : Inv μ) {x l0 c : Int32} : CtP yX9_row cX9_row 4 (some .int) 2 [vR 0, vI x, vI l0, vI c] μ (Pi (fun r m1 => CtP yX10_row cX10_row 5 (some .int) 2 [vR 67, vI x, vI l0, vI c] m1 (Pi (fun r' m2 => r' = r ∧ Inv m2)))) := by
  obtain ⟨hR, hst, hfa, ⟨τ, n, hT, hTM⟩, ⟨α, As, L, nx, hz, hA, hB, hG, hM, hS⟩, ⟨βs, hI⟩, ⟨l, hl, hX, hXM⟩⟩ := id h
  obtain ⟨r1, r2, r3, r4⟩ := id hR
  refine (j_row).mo (fun r m1 hc => ?_)
  refine (m_row).mo (fun r' m2 hm => ?_)
  rcases hc with ⟨a1, a2, a3⟩ | ⟨a1, a2, a3, a4⟩ | ⟨n, a1, a2, a3, a4, a5, a6, a7, a8, a9, aa⟩ <;> rcases hm with ⟨b1, b2, b3⟩ | ⟨b1, b2, b3, b4⟩ | ⟨n', b1, b2, b3, b4, b5, b6, b7, b8, b9, bb⟩
  · exact ⟨by rw [a2, b2], by rw [b3, a3]; exact h.th⟩
  · exact absurd b1 a1
  · exact absurd ⟨isR_of b1 b2, b3, b4.2⟩ a1
  · exact absurd a1 b1
  · exact ⟨by rw [a3, b3], by rw [b4, a4]; exact h.found 4⟩
  · exact absurd b4.1 (Int32.not_le.mpr a2)
  · exact absurd ⟨isR_of a1 a2, a3, a4.2⟩ b1
  · exact absurd a4.1 (Int32.not_le.mpr b2)
  · have en := nIe a1 b1 (by omega) (by omega)
    subst en
    refine ⟨by rw [a5, b5], ?_⟩
    have m67 : ∀ a, 13 ≤ a → m1 a = μ a := fun a ha => aa a (by omega) (by omega) (by omega) (by omega)
    have lo : ∀ a, a < 67 → m2 a = m1 a := fun a ha => bb a (Or.inl ha)
    refine h.rows ⟨?_, ?_, fun n' hn' k hk => ?_, ?_⟩ ?_ ?_ (fun q hq => ?_) (fun a x y => by rw [lo a y]; exact m67 a x) (fun a x => by rw [bb a (by omega)]; exact m67 a (by omega))
    · rw [lo 11 (by decide), a7, b7, m67 68 (by decide), r1]
    · rw [lo 12 (by decide), a8, b8, m67 69 (by decide), r2]
    · rw [lo _ (by omega), b9]
      by_cases z : n' = n
      · rw [if_pos (by omega), z]; exact a9 k hk
      · rw [if_neg (by omega), aa _ (by omega) (by omega) (by omega) (by omega), m67 70 (by decide)]; exact r3 n' hn' k hk
    · rw [b7, b8, m67 68 (by decide), m67 69 (by decide)]; exact rok_upd r4 (Or.inr a3.1) a4
    · rw [lo 0 (by decide), a6, b6, thS_1, upd_s]
    · rw [lo 0 (by decide), a6, upd_n (by decide)]
    · rw [b6, thS_67 _ _ hq, m67 67 (by decide)]
theorem look_1 {ln mn : Nat → Int32} (h : Rok ln mn) {n : Nat} (hn : n < 8) {i : Int32} : (ln n < 0 → lookS ln mn n i 1 = 1) ∧ (0 ≤ ln n → ¬ (0 ≤ i ∧ i ≤ mn n - 1) → lookS ln mn n i 1 = 2) ∧ (0 ≤ ln n → (0 ≤ i ∧ i ≤ mn n - 1) → lookS ln mn n i 1 = 0) := by
  obtain ⟨_, k0, k40⟩ := h n hn
  refine ⟨fun z => ?_, fun z w => ?_, fun z w => ?_⟩
  · unfold lookS; rw [if_pos ((h.lt hn).mp z)]
  · unfold lookS; rw [if_neg (fun q => Int32.not_lt.mpr z ((h.lt hn).mpr q)), if_neg (fun q => w ⟨q.1, q.2.2.2⟩)]
  · unfold lookS; rw [if_neg (fun q => Int32.not_lt.mpr z ((h.lt hn).mpr q)), if_pos ⟨w.1, by decide, by have := w.1; have := w.2; grind, w.2⟩]
theorem o_set {μ : Mem} (h : Inv μ) {x i v : Int32} : CtP yX9_set cX9_set 5 (some .int) 2 [vR 0, vI x, vI i, vI v] μ (Pi (fun r m1 => CtP yX10_set cX10_set 4 (some .int) 2 [vR 67, vI x, vI i, vI v] m1 (Pi (fun r' m2 => r' = r ∧ Inv m2)))) := by
  obtain ⟨hR, hst, hfa, ⟨τ, n, hT, hTM⟩, ⟨α, As, L, nx, hz, hA, hB, hG, hM, hS⟩, ⟨βs, hI⟩, ⟨l, hl, hX, hXM⟩⟩ := id h
  obtain ⟨r1, r2, r3, r4⟩ := id hR
  refine (j_set (by rw [r1, r2]; exact r4)).mo (fun r m1 hc => ?_)
  have m67 : ∀ a, 11 ≤ a → m1 a = μ a := fun a ha => by
    rcases hc with ⟨_, _, c⟩ | ⟨n, _, hn, ⟨_, _, c⟩ | ⟨_, k, _, _, _, c⟩⟩
    · rw [c]
    · rw [c, setc_n (by omega)]
    · rw [c, setc_n (by omega), setc_n (by omega)]
  have e8 := m67 68 (by decide)
  have e9 := m67 69 (by decide)
  refine (m_set (by rw [e9]; exact fun n hn => (r4 n hn).2)).mo (fun r' m2 hm => ?_)
  rcases hc with ⟨a1, a2, a3⟩ | ⟨n, a1, a2, a3⟩ <;> rcases hm with ⟨b1, b2, b3⟩ | ⟨n', b1, b2, b3⟩
  · exact ⟨by rw [a2, b2], by rw [b3, a3]; exact h.th⟩
  · exact absurd (isR_of b1 b2) a1
  · exact absurd (isR_of a1 a2) b1
  · have en := nIe a1 b1 (by omega) (by omega)
    subst en
    rw [e8, e9] at b3
    rw [r1, r2] at a3
    obtain ⟨k1, k2, k3⟩ := look_1 r4 a2 (i := i)
    rcases b3 with ⟨b3, b4, b5⟩ | ⟨b3, b4, b5, b6⟩ | ⟨b3, b4, k, b5, b6, b7, b8⟩
    · rw [k1 b3] at a3
      rcases a3 with ⟨_, a4, a5⟩ | ⟨a3, _⟩
      · exact ⟨by rw [a4, b4], by rw [b5, a5]; exact h.found 1⟩
      · exact absurd a3 (by decide)
    · rw [k2 b3 b4] at a3
      rcases a3 with ⟨_, a4, a5⟩ | ⟨a3, _⟩
      · exact ⟨by rw [a4, b5], by rw [b6, a5]; exact h.found 2⟩
      · exact absurd a3 (by decide)
    · rw [k3 b3 b4] at a3
      rcases a3 with ⟨a3, _⟩ | ⟨_, k', a4, a5, a6, a7⟩
      · exact absurd rfl a3
      · have ek := nIe a4 b5 (by omega) (by omega)
        subst ek
        refine ⟨by rw [a6, b7], ?_⟩
        have e70 := m67 70 (by decide)
        have lo : ∀ a, a < 67 → m2 a = m1 a := fun a ha => by rw [b8, setc_n (by omega), thS_n _ _ (by omega)]
        refine h.rows ⟨?_, ?_, fun n' hn' q hq => ?_, ?_⟩ ?_ ?_ (fun q hq => ?_) (fun a x y => by rw [lo a y]; exact m67 a (by omega)) (fun a x => by rw [b8, setc_n (by omega), thS_n _ _ (by omega)]; exact m67 a (by omega))
        · rw [lo 11 (by decide), m67 11 (by decide), b8, setc_n (by decide), thS_n _ _ (by decide), e8, r1]
        · rw [lo 12 (by decide), m67 12 (by decide), b8, setc_n (by decide), thS_n _ _ (by decide), e9, r2]
        · rw [lo _ (by omega), b8, setc_s, e70, a7, setc_n (by omega)]
          by_cases z : n' = n
          · rw [z, setc_s]
            by_cases w : q = k'
            · rw [w, upd_s, upd_s]
            · rw [upd_n w, upd_n (by omega), ← z]; exact r3 n' hn' q hq
          · rw [setc_n (by omega), upd_n (by omega)]; exact r3 n' hn' q hq
        · rw [b8, setc_n (by decide), setc_n (by decide), thS_n _ _ (by decide), thS_n _ _ (by decide), e8, e9]; exact r4
        · rw [lo 0 (by decide), a7, setc_s, upd_s, b8, setc_n (by decide), thS_1]
        · rw [lo 0 (by decide), a7, setc_s, upd_n (by decide)]
        · rw [b8, setc_n (by decide), thS_67 _ _ hq, m67 67 (by decide)]
theorem o_drop {μ : Mem} (h : Inv μ) {x : Int32} : CtP yX9_drop cX9_drop 2 (some .int) 1 [vR 0, vI x] μ (Pi (fun r m1 => CtP yX10_drop cX10_drop 2 (some .int) 2 [vR 67, vI x] m1 (Pi (fun r' m2 => r' = r ∧ Inv m2)))) := by
  obtain ⟨hR, hst, hfa, ⟨τ, n, hT, hTM⟩, ⟨α, As, L, nx, hz, hA, hB, hG, hM, hS⟩, ⟨βs, hI⟩, ⟨l, hl, hX, hXM⟩⟩ := id h
  obtain ⟨r1, r2, r3, r4⟩ := id hR
  refine (j_drop).mo (fun r m1 hc => ?_)
  have m67 : ∀ a, 12 ≤ a → m1 a = μ a := fun a ha => by
    rcases hc with ⟨_, _, c⟩ | ⟨n, _, hn, ⟨_, _, c⟩ | ⟨_, _, c⟩⟩
    · rw [c]
    · rw [c, setc_n (by omega)]
    · rw [c, setc_n (by omega), setc_n (by omega)]
  have e8 := m67 68 (by decide)
  have e9 := m67 69 (by decide)
  refine (m_drop).mo (fun r' m2 hm => ?_)
  rcases hc with ⟨a1, a2, a3⟩ | ⟨n, a1, a2, a3⟩ <;> rcases hm with ⟨b1, b2, b3⟩ | ⟨n', b1, b2, b3⟩
  · exact ⟨by rw [a2, b2], by rw [b3, a3]; exact h.th⟩
  · exact absurd (isR_of b1 b2) a1
  · exact absurd (isR_of a1 a2) b1
  · have en := nIe a1 b1 (by omega) (by omega)
    subst en
    rw [e8, e9] at b3
    rw [r1, r2] at a3
    have lt := r4.lt a2
    rcases a3 with ⟨a3, a4, a5⟩ | ⟨a3, a4, a5⟩ <;> rcases b3 with ⟨b3, b4, b5⟩ | ⟨b3, b4, b5⟩
    · exact ⟨by rw [a4, b4], by rw [b5, a5]; exact h.found 1⟩
    · exact absurd (lt.mpr a3) (Int32.not_lt.mpr b3)
    · exact absurd (lt.mp b3) a3
    · refine ⟨by rw [a4, b4], ?_⟩
      have lo : ∀ a, a < 67 → m2 a = m1 a := fun a ha => by rw [b5, setc_n (by omega), thS_n _ _ (by omega)]
      refine h.rows ⟨?_, ?_, fun n' hn' q hq => ?_, ?_⟩ ?_ ?_ (fun q hq => ?_) (fun a x y => by rw [lo a y]; exact m67 a (by omega)) (fun a x => by rw [b5, setc_n (by omega), thS_n _ _ (by omega)]; exact m67 a (by omega))
      · rw [lo 11 (by decide), b5, setc_s, a5, setc_n (by decide), setc_s]
      · rw [lo 12 (by decide), m67 12 (by decide), b5, setc_n (by decide), thS_n _ _ (by decide), e9, r2]
      · rw [lo _ (by omega), b5, setc_n (by decide), thS_n _ _ (by decide), m67 70 (by decide), a5, setc_n (by omega), setc_n (by omega)]; exact r3 n' hn' q hq
      · rw [b5, setc_s, setc_n (by decide), thS_n _ _ (by decide), e9]
        intro k hk
        rw [upd_at]
        by_cases z : k = n
        · rw [if_pos z]; exact ⟨Or.inl rfl, (r4 k hk).2⟩
        · rw [if_neg z]; exact r4 k hk
      · rw [lo 0 (by decide), a5, setc_s, upd_s, b5, setc_n (by decide), thS_1]
      · rw [lo 0 (by decide), a5, setc_s, upd_n (by decide)]
      · rw [b5, setc_n (by decide), thS_67 _ _ hq, m67 67 (by decide)]
theorem o_copy {μ : Mem} (h : Inv μ) {x i y j c : Int32} : CtP yX9_copy cX9_copy 6 (some .int) 2 [vR 0, vI x, vI i, vI y, vI j, vI c] μ (Pi (fun r m1 => CtP yX10_copy cX10_copy 9 (some .int) 2 [vR 67, vI x, vI i, vI y, vI j, vI c] m1 (Pi (fun r' m2 => r' = r ∧ Inv m2)))) := by
  obtain ⟨hR, hst, hfa, ⟨τ, n, hT, hTM⟩, ⟨α, As, L, nx, hz, hA, hB, hG, hM, hS⟩, ⟨βs, hI⟩, ⟨l, hl, hX, hXM⟩⟩ := id h
  obtain ⟨r1, r2, r3, r4⟩ := id hR
  refine (j_copy (by rw [r1, r2]; exact r4)).mo (fun r m1 hc => ?_)
  have m67 : ∀ a, 11 ≤ a → m1 a = μ a := fun a ha => by
    rcases hc with ⟨_, _, c⟩ | ⟨n, m, _, hn, _, hm, ⟨_, _, c⟩ | ⟨_, _, _, c⟩ | ⟨_, _, _, _, c⟩ | ⟨_, _, _, _, _, _, _, _, _, _, _, _, c⟩⟩
    · rw [c]
    · rw [c, setc_n (by omega)]
    · rw [c, setc_n (by omega)]
    · rw [c, setc_n (by omega)]
    · rw [c, setc_n (by omega), setc_n (by omega)]
  have e8 := m67 68 (by decide)
  have e9 := m67 69 (by decide)
  have e70 := m67 70 (by decide)
  refine (m_copy (by rw [e8, e9]; exact r4)).mo (fun r' m2 hm => ?_)
  rcases hc with ⟨a1, a2, a3⟩ | ⟨n, m, a1, a2, a3, a4, a5⟩ <;> rcases hm with ⟨b1, b2, b3⟩ | ⟨n', m', b1, b2, b3, b4, b5⟩
  · exact ⟨by rw [a2, b2], by rw [b3, a3]; exact h.th⟩
  · exact absurd ⟨isR_of b1 b2, isR_of b3 b4⟩ a1
  · exact absurd ⟨isR_of a1 a2, isR_of a3 a4⟩ b1
  · have en := nIe a1 b1 (by omega) (by omega)
    have em := nIe a3 b3 (by omega) (by omega)
    subst en; subst em
    rw [e8, e9, e70] at b5
    rw [r1, r2] at a5
    rcases a5 with ⟨p1, p2, p3⟩ | ⟨p1, p2, p3, p4⟩ | ⟨p1, p2, p3, p4, p5⟩ | ⟨p1, p2, p3, p4, a, b, k, p5, p6, p7, p8, p9, pa⟩ <;> rcases b5 with ⟨q1, q2, q3⟩ | ⟨q1, q2, q3, q4⟩ | ⟨q1, q2, q3, q4, q5⟩ | ⟨q1, q2, q3, q4, a', b', k', q5, q6, q7, q8, q9, qa, qb⟩
    · exact ⟨by rw [p2, q2], by rw [q3, p3]; exact h.found 1⟩
    · exact absurd p1 q1
    · exact absurd p1 q1
    · exact absurd p1 q1
    · exact absurd q1 p1
    · exact ⟨by rw [p3, q3], by rw [q4, p4]; exact h.found 5⟩
    · exact absurd q2 p2
    · exact absurd q2 p2
    · exact absurd q1 p1
    · exact absurd p2 q2
    · exact ⟨by rw [p4, q4], by rw [q5, p5]; exact h.found 2⟩
    · exact absurd q3 p3
    · exact absurd q1 p1
    · exact absurd p2 q2
    · exact absurd p3 q3
    · have ea := nIe p5 q5 (by omega) (by omega)
      have eb := nIe p6 q6 (by omega) (by omega)
      have ek := nIe p7 q7 (by omega) (by omega)
      subst ea; subst eb; subst ek
      refine ⟨by rw [p4, q4], ?_⟩
      have lo : ∀ l, l < 67 → m2 l = m1 l := fun l hl => by rw [qb l (by omega), thS_n _ _ (by omega)]
      refine h.rows ⟨?_, ?_, fun n' hn' q hq => ?_, ?_⟩ ?_ ?_ (fun q hq => ?_) (fun a x y => by rw [lo a y]; exact m67 a (by omega)) (fun a x => by rw [qb a (by omega), thS_n _ _ (by omega)]; exact m67 a (by omega))
      · rw [lo 11 (by decide), m67 11 (by decide), qb 68 (by decide), thS_n _ _ (by decide), e8, r1]
      · rw [lo 12 (by decide), m67 12 (by decide), qb 69 (by decide), thS_n _ _ (by decide), e9, r2]
      · rw [lo _ (by omega), qa, pa, setc_n (by omega)]
        by_cases z : n' = m
        · rw [z, setc_s]
          by_cases w : b ≤ q ∧ q < b + k
          · rw [if_pos (by omega), pk_cpy_in w.1 w.2, r3 n a2 (a + (q - b)) (by omega)]
            congr 1; omega
          · rw [if_neg (by omega), pk_cpy_out (by omega), ← z]; exact r3 n' hn' q hq
        · rw [setc_n (by omega), if_neg (by omega)]; exact r3 n' hn' q hq
      · rw [qb 68 (by decide), qb 69 (by decide), thS_n _ _ (by decide), thS_n _ _ (by decide), e8, e9]; exact r4
      · rw [lo 0 (by decide), pa, setc_s, upd_s, qb 67 (by decide), thS_1]
      · rw [lo 0 (by decide), pa, setc_s, upd_n (by decide)]
      · rw [qb 67 (by decide), thS_67 _ _ hq, m67 67 (by decide)]
theorem o_feed {μ : Mem} (h : Inv μ) {x : Int32} : CtP yX9_feed cX9_feed 2 (some .int) 1 [vR 0, vI x] μ (Pi (fun r m1 => CtP yX10_feed cX10_feed 2 (some .int) 1 [vR 67, vI x] m1 (Pi (fun r' m2 => r' = r ∧ Inv m2)))) := by
  obtain ⟨hR, hst, hfa, ⟨τ, n, hT, hTM⟩, ⟨α, As, L, nx, hz, hA, hB, hG, hM, hS⟩, ⟨βs, hI⟩, ⟨l, hl, hX, hXM⟩⟩ := id h
  refine (j_feed hT.2.1 hT.1).mo (fun r m1 hc => ?_)
  have m67 : ∀ a, 15 ≤ a → m1 a = μ a := fun a ha => by
    rcases hc with ⟨_, _, c⟩ | ⟨_, _, _, c⟩ | ⟨_, _, _, c⟩
    · rw [c]
    · rw [c]
    · rw [c, setc_n (by omega), setc_n (by omega)]
  refine (m_feed hTM.2.1 (by rw [m67 67 (by decide)]; exact hTM.1)).mo (fun r' m2 hm => ?_)
  rcases hc with ⟨a1, a2, a3⟩ | ⟨a1, a2, a3, a4⟩ | ⟨a1, a2, a3, a4⟩ <;> rcases hm with ⟨b1, b2, b3⟩ | ⟨b1, b2, b3, b4⟩ | ⟨b1, b2, b3, b4, b5, b6⟩
  · exact ⟨by rw [a2, b2], by rw [b3, a3]; exact h.th⟩
  · exact absurd b1 a1
  · exact absurd b1 a1
  · exact absurd a1 b1
  · exact ⟨by rw [a3, b3], by rw [b4, a4]; exact h.th⟩
  · omega
  · exact absurd a1 b1
  · omega
  · refine ⟨by rw [a3, b3], ?_⟩
    obtain ⟨h1, h2, h3, h4, h5, h6, h7⟩ := h
    have lo : ∀ a, a ≠ 13 → a ≠ 14 → a < 67 → m2 a = μ a := fun a x y w => by rw [b6 a (by omega) (by omega), a4, setc_n x, setc_n y]
    have hi : ∀ a, 68 ≤ a → a ≠ 75 → m2 a = μ a := fun a x y => by rw [b6 a (by omega) y]; exact m67 a (by omega)
    have sl : ∀ q, 1 ≤ q → q ≠ 11 → m2 67 q = μ 67 q := fun q x y => by rw [b4, upd_n y, upd_n (by omega), m67 67 (by decide)]
    obtain ⟨v, hv, hxv⟩ := nI_of (Int32.not_lt.mpr a1.1)
    have v255 : v ≤ 255 := le_i (b := 255) (hxv ▸ a1.2) hv (by decide)
    refine ⟨h1.fr (fun a x y => lo a (by omega) (by omega) (by omega)) (fun a x y => hi a (by omega) (by omega)), ?_, ?_, ?_, h5.fr (fun a x y => lo a (by omega) (by omega) (by omega)) (lo 32 (by decide) (by decide) (by decide)) (lo 33 (by decide) (by decide) (by decide)) (hi 71 (by decide) (by decide)) (hi 74 (by decide) (by decide)) (sl 9 (by decide) (by decide)), h6.fr (fun a x y => lo a (by omega) (by omega) (by omega)) (hi 82 (by decide) (by decide)) (hi 83 (by decide) (by decide)), h7.fr (lo 65 (by decide) (by decide) (by decide)) (lo 66 (by decide) (by decide) (by decide)) (hi 84 (by decide) (by decide)) (sl 30 (by decide) (by decide))⟩
    · rw [lo 0 (by decide) (by decide) (by decide), sl 1 (by decide) (by decide)]; exact h2
    · rw [lo 0 (by decide) (by decide) (by decide), sl 18 (by decide) (by decide)]; exact h3
    · refine ⟨fun k => if k = n then v else τ k, n + 1, ⟨?_, by omega, fun k hk => ?_⟩, ⟨?_, by omega, fun k hk => ?_⟩⟩
      · rw [b6 13 (by decide) (by decide), a4, setc_s, upd_s]
      · rw [b6 14 (by decide) (by decide), a4, setc_n (by decide), setc_s]
        by_cases z : k = n
        · rw [z, upd_s]; dsimp only; rw [if_pos rfl]; exact ⟨hxv, by omega⟩
        · rw [upd_n z]; dsimp only; rw [if_neg z]; exact hT.2.2 k (by omega)
      · rw [b4, upd_s]
      · rw [b5, m67 75 (by decide)]
        by_cases z : k = n
        · rw [z, upd_s]; dsimp only; rw [if_pos rfl]; exact ⟨hxv, by omega⟩
        · rw [upd_n z]; dsimp only; rw [if_neg z]; exact hTM.2.2 k (by omega)
theorem inv_court {μ m1 m2 : Mem} {al : Rd} {r r' : Int32} (h : Inv μ) (av : al.1.2 = 0 → Val al.2 ∧ al.2 0 4 = 0) (c : CrC al μ r m1) (m : CrQ al m1 r' m2) : r' = r ∧ Inv m2 := by
  obtain ⟨c1, c2, c3⟩ := c
  obtain ⟨d1, d2, d3, d4⟩ := m
  obtain ⟨h1, h2, h3, h4, h5, h6, h7⟩ := h
  have lo : ∀ a, a ≠ 0 → a ≠ 13 → (a < 15 ∨ 31 < a) → a ≠ 32 → a < 67 → m2 a = μ a := fun a x y z w v => by rw [d1 a (by omega) (by omega) (by omega)]; exact c1 a x y z w
  have hi : ∀ a, 68 ≤ a → a ≠ 71 → a ≠ 72 → m2 a = μ a := fun a x y z => by rw [d1 a (by omega) y z]; exact c1 a (by omega) (by omega) (by omega) (by omega)
  have e67 : m1 67 = μ 67 := c1 67 (by decide) (by decide) (by decide) (by decide)
  have sl : ∀ q, ((1 ≤ q ∧ q < 9) ∨ q = 10 ∨ 18 < q) → m2 67 q = μ 67 q := fun q x => by rw [d2 q x, e67]
  have z0 : m2 0 = m1 0 := d1 0 (by decide) (by decide) (by decide)
  have fR : InR m2 := h1.fr (fun a x y => lo a (by omega) (by omega) (by omega) (by omega) (by omega)) (fun a x y => hi a (by omega) (by omega) (by omega))
  have fT : InT m2 := ⟨fun _ => 0, 0, ⟨by rw [d1 13 (by decide) (by decide) (by decide), c2, upd_s]; rfl, by decide, fun k hk => absurd hk (Nat.not_lt_zero k)⟩, ⟨by rw [d3]; rfl, by decide, fun k hk => absurd hk (Nat.not_lt_zero k)⟩⟩
  have fI : InI m2 := h6.fr (fun a x y => lo a (by omega) (by omega) (by omega) (by omega) (by omega)) (hi 82 (by decide) (by decide) (by decide)) (hi 83 (by decide) (by decide) (by decide))
  have fX : InX m2 := h7.fr (lo 65 (by decide) (by decide) (by decide) (by decide) (by decide)) (lo 66 (by decide) (by decide) (by decide) (by decide) (by decide)) (hi 84 (by decide) (by decide) (by decide)) (sl 30 (by decide))
  rcases c3 with ⟨p1, p2, p3, p4, p5, p6⟩ | ⟨p1, p2, p3, p4, p5⟩ <;> rcases d4 with ⟨q1, q2, q3, q4, q5⟩ | ⟨q1, q2, q3, q4, q5⟩
  · refine ⟨by rw [p2, q2], fR, by rw [z0, p6, sl 1 (by decide)]; exact h2, by rw [z0, p6, q5, e67]; exact h3, fT, ?_, fI, fX⟩
    have e32 : m2 32 = m1 32 := d1 32 (by decide) (by decide) (by decide)
    exact ⟨al.2, fun _ => al.2, 0, 0, Or.inl (av p1).1, p3.off (fun x hx => d1 _ (by omega) (by omega) (by omega)), q3.1, ⟨by rw [e32, p4]; rfl, by decide, by rw [e32, p5]; rfl, by decide, fun i hi => absurd hi (Nat.not_lt_zero i)⟩, ⟨by rw [q4]; rfl, by decide, fun i hi => absurd hi (Nat.not_lt_zero i)⟩, fun i hi => absurd hi (Nat.not_lt_zero i)⟩
  · exact absurd p1 q1
  · exact absurd q1 p1
  · refine ⟨by rw [p2, q2], fR, ?_, ?_, fT, ?_, fI, fX⟩
    · rw [z0, p3, upd_n (by decide), sl 1 (by decide)]; exact h2
    · rw [z0, p3, upd_s, q3]
    · exact h5.fr (fun a x y => by rw [d1 a (by omega) (by omega) (by omega)]; exact p5 a x y) (by rw [d1 32 (by decide) (by decide) (by decide)]; exact p4) (lo 33 (by decide) (by decide) (by decide) (by decide) (by decide)) (by rw [q4]; exact c1 71 (by decide) (by decide) (by decide) (by decide)) (hi 74 (by decide) (by decide) (by decide)) (by rw [q5, e67])
theorem o_court {μ : Mem} (h : Inv μ) : CtP yX9_court cX9_court 1 (some .int) 6 [vR 0] μ (Pi (fun r m1 => CtP yX10_court cX10_court 2 (some .int) 5 [vR 67] m1 (Pi (fun r' m2 => r' = r ∧ Inv m2)))) := by
  obtain ⟨hR, hst, hfa, ⟨τ, n, hT, hTM⟩, ⟨α, As, L, nx, hz, hA, hB, hG, hM, hS⟩, ⟨βs, hI⟩, ⟨l, hl, hX, hXM⟩⟩ := id h
  refine (j_court hT).mo (fun r m1 hc => ?_)
  have e67 : m1 67 = μ 67 := hc.1 67 (by decide) (by decide) (by decide) (by decide)
  have e75 : m1 75 = μ 75 := hc.1 75 (by decide) (by decide) (by decide) (by decide)
  refine (m_court (τ := τ) (n := n) ⟨by rw [e67]; exact hTM.1, hTM.2.1, by rw [e75]; exact hTM.2.2⟩).mo (fun r' m2 hm => ?_)
  exact inv_court h all_val hc hm
theorem o_image {μ : Mem} (h : Inv μ) {k : Int32} : CtP yX9_image cX9_image 2 (some .int) 1 [vR 0, vI k] μ (Pi (fun r m1 => CtP yX10_image cX10_image 3 (some .int) 2 [vR 67, vI k] m1 (Pi (fun r' m2 => r' = r ∧ Inv m2)))) := by
  obtain ⟨hR, hst, hfa, ⟨τ, n, hT, hTM⟩, ⟨α, As, L, nx, hz, hA, hB, hG, hM, hS⟩, ⟨βs, hI⟩, ⟨l, hl, hX, hXM⟩⟩ := id h
  refine (j_image hA hz).mo (fun r m1 hc => ?_)
  have m67 : ∀ a, 51 ≤ a → m1 a = μ a := fun a ha => by
    rcases hc with ⟨_, _, c⟩ | ⟨_, _, _, c⟩ | ⟨_, K, _, hK, _, c⟩
    · rw [c]
    · rw [c]
    · exact c.2 a (by omega)
  refine (m_image (α := α) (by rw [m67 71 (by decide)]; exact hB) hz).mo (fun r' m2 hm => ?_)
  rcases hc with ⟨a1, a2, a3⟩ | ⟨a1, a2, a3, a4⟩ | ⟨a0, K, a1, a2, a3, a4⟩ <;> rcases hm with ⟨b1, b2, b3⟩ | ⟨b1, b2, b3, b4⟩ | ⟨b0, K', b1, b2, b3, b4, b5, b6, b7, b8⟩
  · exact ⟨by rw [a2, b2], by rw [b3, a3]; exact h.th⟩
  · exact absurd b1 a1
  · exact absurd (by rcases (show K' = 0 ∨ K' = 1 by omega) with z | z <;> (rw [z] at b1; first | exact Or.inl b1 | exact Or.inr b1)) a1
  · exact absurd a1 b1
  · exact ⟨by rw [a3, b3], by rw [b4, a4]; exact h.th⟩
  · exact absurd b0 a2
  · exact absurd (by rcases (show K = 0 ∨ K = 1 by omega) with z | z <;> (rw [z] at a1; first | exact Or.inl a1 | exact Or.inr a1)) b1
  · exact absurd a0 b2
  · have ek := nIe a1 b1 (by omega) (by omega)
    subst ek
    refine ⟨by rw [a3, b3], ?_⟩
    have hv := hz.vt a0
    obtain ⟨h1, h2, h3, h4, h5, h6, h7⟩ := h
    have lo : ∀ a, (a < 35 ∨ 50 < a) → a < 67 → m2 a = μ a := fun a x w => by rw [b8 a (by omega) (by omega) (by omega)]; exact a4.2 a (by omega)
    have hi : ∀ a, 68 ≤ a → a ≠ 82 → a ≠ 83 → m2 a = μ a := fun a x y z => by rw [b8 a (by omega) y z]; exact m67 a (by omega)
    have sl : ∀ q, 1 ≤ q → m2 67 q = μ 67 q := fun q x => by rw [b4, th0_s x, m67 67 (by decide)]
    refine ⟨h1.fr (fun a x y => lo a (by omega) (by omega)) (fun a x y => hi a (by omega) (by omega) (by omega)), ?_, ?_, h4.fr (lo 13 (by decide) (by decide)) (lo 14 (by decide) (by decide)) (hi 75 (by decide) (by decide) (by decide)) (sl 11 (by decide)), h5.fr (fun a x y => lo a (by omega) (by omega)) (lo 32 (by decide) (by decide)) (lo 33 (by decide) (by decide)) (hi 71 (by decide) (by decide) (by decide)) (hi 74 (by decide) (by decide) (by decide)) (sl 9 (by decide)), ?_, h7.fr (lo 65 (by decide) (by decide)) (lo 66 (by decide) (by decide)) (hi 84 (by decide) (by decide) (by decide)) (sl 30 (by decide))⟩
    · rw [lo 0 (by decide) (by decide), sl 1 (by decide)]; exact h2
    · rw [lo 0 (by decide) (by decide), sl 18 (by decide)]; exact h3
    · refine ⟨fun J => if J = K then α else βs J, fun J hJ => ?_⟩
      by_cases z : J = K
      · subst z
        dsimp only
        rw [if_pos rfl]
        refine ⟨hz, (a4.abs hA hv.H hv.C).off (fun x hx => b8 _ (by omega) (by omega) (by omega)), Or.inl ⟨hv, ?_, ?_⟩⟩
        · rw [b5, upd_s]; decide
        · refine kap_cg hB hv.H hv.C (fun q hq => ?_)
          rw [b6 q hq, m67 71 (by decide)]
      · dsimp only
        rw [if_neg z]
        obtain ⟨i1, i2, i3⟩ := hI J hJ
        refine ⟨i1, i2.off (fun x hx => by rw [b8 _ (by omega) (by omega) (by omega)]; exact a4.2 _ (by omega)), ?_⟩
        have e82 : m2 82 J = μ 82 J := by rw [b5, upd_n z, m67 82 (by decide)]
        rw [e82]
        rcases i3 with ⟨i3, i4, i5⟩ | i3
        · refine Or.inl ⟨i3, i4, kap_cg i5 i3.H i3.C (fun q hq => ?_)⟩
          rw [b7 _ (by omega), m67 83 (by decide)]
        · exact Or.inr i3
theorem o_restore {μ : Mem} (h : Inv μ) {k : Int32} : CtP yX9_restore cX9_restore 2 (some .int) 1 [vR 0, vI k] μ (Pi (fun r m1 => CtP yX10_restore cX10_restore 3 (some .int) 2 [vR 67, vI k] m1 (Pi (fun r' m2 => r' = r ∧ Inv m2)))) := by
  obtain ⟨hR, hst, hfa, ⟨τ, n, hT, hTM⟩, ⟨α, As, L, nx, hz, hA, hB, hG, hM, hS⟩, ⟨βs, hI⟩, ⟨l, hl, hX, hXM⟩⟩ := id h
  obtain ⟨i0, i1, i2⟩ := hI 0 (by decide)
  obtain ⟨j0, j1, j2⟩ := hI 1 (by decide)
  refine (j_restore (βs := βs) i1 i0 j1 j0).mo (fun r m1 hc => ?_)
  have m67 : ∀ a, 33 ≤ a → m1 a = μ a := fun a ha => by
    rcases hc with ⟨_, _, c⟩ | ⟨K, _, hK, ⟨_, _, c⟩ | ⟨_, _, _, _, _, c⟩⟩
    · rw [c]
    · rw [c]
    · exact c a (by omega) (by omega)
  refine (m_restore).mo (fun r' m2 hm => ?_)
  rcases hc with ⟨a1, a2, a3⟩ | ⟨K, a1, a2, a3⟩ <;> rcases hm with ⟨b1, b2, b3⟩ | ⟨K', b1, b2, b3⟩
  · exact ⟨by rw [a2, b2], by rw [b3, a3]; exact h.th⟩
  · exact absurd (by rcases (show K' = 0 ∨ K' = 1 by omega) with z | z <;> (rw [z] at b1; first | exact Or.inl b1 | exact Or.inr b1)) a1
  · exact absurd (by rcases (show K = 0 ∨ K = 1 by omega) with z | z <;> (rw [z] at a1; first | exact Or.inl a1 | exact Or.inr a1)) b1
  · have ek := nIe a1 b1 (by omega) (by omega)
    subst ek
    rw [m67 82 (by decide)] at b3
    obtain ⟨g1, g2, g3⟩ := hI K a2
    rcases a3 with ⟨a3, a4, a5⟩ | ⟨a3, a4, a5, a6, a7, a8⟩ <;> rcases b3 with ⟨b3, b4, b5⟩ | ⟨b3, b4, b5, b6, b7, b8⟩
    · exact ⟨by rw [a4, b4], by rw [b5, a5]; exact h.th⟩
    · rcases g3 with ⟨g3, _⟩ | ⟨_, g3⟩
      · exact absurd g3 a3
      · exact absurd g3 b3
    · rcases g3 with ⟨_, g3, _⟩ | ⟨g3, _⟩
      · exact absurd b3 g3
      · exact absurd a3 g3
    · refine ⟨by rw [a4, b4], ?_⟩
      have ab : Abs (kap (fun q => μ 83 (46 * K + q))) (βs K) := by
        rcases g3 with ⟨_, _, g3⟩ | ⟨g3, _⟩
        · exact g3
        · exact absurd a3 g3
      obtain ⟨h1, h2, h3, h4, h5, h6, h7⟩ := h
      have lo : ∀ a, (a < 15 ∨ 22 < a) → a ≠ 32 → a < 67 → m2 a = μ a := fun a x y w => by rw [b8 a (by omega) (by omega)]; exact a8 a x y
      have hi : ∀ a, 68 ≤ a → a ≠ 71 → m2 a = μ a := fun a x y => by rw [b8 a (by omega) y]; exact m67 a (by omega)
      have sl : ∀ q, 1 ≤ q → q ≠ 9 → m2 67 q = μ 67 q := fun q x y => by rw [b6 q x y, m67 67 (by decide)]
      have e32 : m2 32 = m1 32 := b8 32 (by decide) (by decide)
      refine ⟨h1.fr (fun a x y => lo a (by omega) (by omega) (by omega)) (fun a x y => hi a (by omega) (by omega)), ?_, ?_, h4.fr (lo 13 (by decide) (by decide) (by decide)) (lo 14 (by decide) (by decide) (by decide)) (hi 75 (by decide) (by decide)) (sl 11 (by decide) (by decide)), ?_, h6.fr (fun a x y => lo a (by omega) (by omega) (by omega)) (hi 82 (by decide) (by decide)) (hi 83 (by decide) (by decide)), h7.fr (lo 65 (by decide) (by decide) (by decide)) (lo 66 (by decide) (by decide) (by decide)) (hi 84 (by decide) (by decide)) (sl 30 (by decide) (by decide))⟩
      · rw [lo 0 (by decide) (by decide) (by decide), sl 1 (by decide) (by decide)]; exact h2
      · rw [lo 0 (by decide) (by decide) (by decide), sl 18 (by decide) (by decide)]; exact h3
      · refine ⟨βs K, fun _ => βs K, 0, 0, g1, a5.off (fun x hx => b8 _ (by omega) (by omega)), kap_cg ab a3.H a3.C (fun q hq => by rw [b7 q hq, m67 83 (by decide)]), ⟨by rw [e32, a6]; rfl, by decide, by rw [e32, a7]; rfl, by decide, fun i hi => absurd hi (Nat.not_lt_zero i)⟩, ⟨by rw [b5]; rfl, by decide, fun i hi => absurd hi (Nat.not_lt_zero i)⟩, fun i hi => absurd hi (Nat.not_lt_zero i)⟩
