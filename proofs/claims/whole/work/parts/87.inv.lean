/-! ===== class and model side by side ===== -/
def InR (μ : Mem) : Prop := μ 11 = μ 68 ∧ μ 12 = μ 69 ∧ (∀ n, n < 8 → ∀ k, k < 40 → μ (3 + n) k = μ 70 (40 * n + k)) ∧ Rok (μ 68) (μ 69)
def InT (μ : Mem) : Prop := ∃ τ n, Tp μ τ n ∧ TpM μ τ n
def InC (μ : Mem) : Prop := ∃ (α : Al) (As : Nat → Al) (L nx : Nat), Vz α ∧ Abs (kac μ 15) α ∧ Abs (kap (μ 71)) α ∧ Ring μ As L nx ∧ RgM μ As L ∧ ∀ i, i < L → Sta α (As i) ∧ Val (As i)
def InI (μ : Mem) : Prop := ∃ βs : Nat → Al, ∀ K, K < 2 → Vz (βs K) ∧ Abs (kac μ (35 + 8 * K)) (βs K) ∧ ((Val (βs K) ∧ ¬ μ 82 K = 0 ∧ Abs (kap (fun q => μ 83 (46 * K + q))) (βs K)) ∨ (¬ Val (βs K) ∧ μ 82 K = 0))
def InX (μ : Mem) : Prop := ∃ l : List Nat, l.length ≤ 16 ∧ Tr μ l ∧ TrM μ l
def Inv (μ : Mem) : Prop := InR μ ∧ μ 0 12 = μ 67 1 ∧ μ 0 11 = μ 67 18 ∧ InT μ ∧ InC μ ∧ InI μ ∧ InX μ
theorem InR.fr {μ μ' : Mem} (h : InR μ) (k1 : ∀ a, 3 ≤ a → a ≤ 12 → μ' a = μ a) (k2 : ∀ a, 68 ≤ a → a ≤ 70 → μ' a = μ a) : InR μ' := by
  obtain ⟨h1, h2, h3, h4⟩ := h
  unfold InR
  rw [k1 11 (by decide) (by decide), k1 12 (by decide) (by decide), k2 68 (by decide) (by decide), k2 69 (by decide) (by decide), k2 70 (by decide) (by decide)]
  exact ⟨h1, h2, fun n hn k hk => by rw [k1 _ (by omega) (by omega)]; exact h3 n hn k hk, h4⟩
theorem InT.fr {μ μ' : Mem} (h : InT μ) (k1 : μ' 13 = μ 13) (k2 : μ' 14 = μ 14) (k3 : μ' 75 = μ 75) (k4 : μ' 67 11 = μ 67 11) : InT μ' := by
  obtain ⟨τ, n, h1, h2⟩ := h
  exact ⟨τ, n, h1.off k1 k2, ⟨by rw [k4]; exact h2.1, h2.2.1, by rw [k3]; exact h2.2.2⟩⟩
theorem InC.fr {μ μ' : Mem} (h : InC μ) (k1 : ∀ a, 15 ≤ a → a ≤ 22 → μ' a = μ a) (k2 : μ' 32 = μ 32) (k3 : μ' 33 = μ 33) (k4 : μ' 71 = μ 71) (k5 : μ' 74 = μ 74) (k6 : μ' 67 9 = μ 67 9) : InC μ' := by
  obtain ⟨α, As, L, nx, h1, h2, h3, ⟨r1, r2, r3, r4, r5⟩, ⟨g1, g2, g3⟩, h6⟩ := h
  exact ⟨α, As, L, nx, h1, h2.off (fun x hx => k1 _ (by omega) (by omega)), by rw [k4]; exact h3, ⟨by rw [k2]; exact r1, r2, by rw [k2]; exact r3, r4, by rw [k3]; exact r5⟩, ⟨by rw [k6]; exact g1, g2, by rw [k5]; exact g3⟩, h6⟩
theorem InI.fr {μ μ' : Mem} (h : InI μ) (k1 : ∀ a, 35 ≤ a → a ≤ 50 → μ' a = μ a) (k2 : μ' 82 = μ 82) (k3 : μ' 83 = μ 83) : InI μ' := by
  obtain ⟨βs, hb⟩ := h
  refine ⟨βs, fun K hK => ?_⟩
  obtain ⟨a, b, c⟩ := hb K hK
  exact ⟨a, b.off (fun x hx => k1 _ (by omega) (by omega)), by rw [k2, k3]; exact c⟩
theorem InX.fr {μ μ' : Mem} (h : InX μ) (k1 : μ' 65 = μ 65) (k2 : μ' 66 = μ 66) (k3 : μ' 84 = μ 84) (k4 : μ' 67 30 = μ 67 30) : InX μ' := by
  obtain ⟨l, h1, h2, h3⟩ := h
  exact ⟨l, h1, ⟨by rw [k1]; exact h2.1, by rw [k2]; exact h2.2⟩, ⟨by rw [k4]; exact h3.1, by rw [k3]; exact h3.2⟩⟩
theorem FrC.m {μ μ' : Mem} {o : Option Int32} (h : FrC μ o μ') {a : Nat} (ha : 65 ≤ a) : μ' a = μ a := h.1 a (by omega) (by omega) (by omega)
/-- behind a question -/
theorem Inv.q {μ μ1 μ2 : Mem} {o : Option Int32} (h : Inv μ) (c : FrC μ o μ1) (m : FrM μ1 o μ2) : Inv μ2 := by
  obtain ⟨h1, h2, h3, h4, h5, h6, h7⟩ := h
  have lo : ∀ a, a ≠ 0 → (a < 23 ∨ 31 < a) → (a < 51 ∨ 64 < a) → a < 67 → μ2 a = μ a := fun a x y z w => by rw [m.1 a (by omega) (by omega) (by omega)]; exact c.1 a x y z
  have hi : ∀ a, 68 ≤ a → a ≠ 73 → (a < 76 ∨ 81 < a) → μ2 a = μ a := fun a x y z => by rw [m.1 a (by omega) y z]; exact c.m (by omega)
  have sl : ∀ q, 2 ≤ q → q ≠ 24 → q ≠ 25 → μ2 67 q = μ 67 q := fun q x y z => by rw [m.2.1 q x y z, c.m (a := 67) (by decide)]
  have z0 : μ2 0 = μ1 0 := m.1 0 (by decide) (by decide) (by decide)
  refine ⟨h1.fr (fun a x y => lo a (by omega) (by omega) (by omega) (by omega)) (fun a x y => hi a (by omega) (by omega) (by omega)), ?_, ?_, h4.fr (lo 13 (by decide) (by decide) (by decide) (by decide)) (lo 14 (by decide) (by decide) (by decide) (by decide)) (hi 75 (by decide) (by decide) (by decide)) (sl 11 (by decide) (by decide) (by decide)), h5.fr (fun a x y => lo a (by omega) (by omega) (by omega) (by omega)) (lo 32 (by decide) (by decide) (by decide) (by decide)) (lo 33 (by decide) (by decide) (by decide) (by decide)) (hi 71 (by decide) (by decide) (by decide)) (hi 74 (by decide) (by decide) (by decide)) (sl 9 (by decide) (by decide) (by decide)), h6.fr (fun a x y => lo a (by omega) (by omega) (by omega) (by omega)) (hi 82 (by decide) (by decide) (by decide)) (hi 83 (by decide) (by decide) (by decide)), h7.fr (lo 65 (by decide) (by decide) (by decide) (by decide)) (lo 66 (by decide) (by decide) (by decide) (by decide)) (hi 84 (by decide) (by decide) (by decide)) (sl 30 (by decide) (by decide) (by decide))⟩
  · rw [z0, c.2.2, m.2.2, c.m (a := 67) (by decide)]
    cases o with
    | none => exact h2
    | some v => rfl
  · rw [z0, c.2.1 11 (by decide), sl 18 (by decide) (by decide) (by decide)]; exact h3
theorem Inv.th {μ : Mem} (h : Inv μ) : Inv (th0 μ) := h.q (FrC.rf μ) (FrM.th μ)
/-! rows told in two ways -/
def Agr (I I' : Nat → Nat → Int32) : Prop := ∀ n, n < 8 → ∀ k, k < 40 → I n k = I' n k
theorem HfS.cg {ln mn : Nat → Int32} {I I' : Nat → Nat → Int32} {H n m : Nat} {i k f : Int32} (e : Agr I I') (hn : n < 8) (h : HfS ln mn I H n m i k f) : HfS ln mn I' H n m i k f := by
  rcases h with h | ⟨h1, a, h2, h3, ⟨h4, h5⟩ | ⟨h4, h5⟩⟩
  · exact Or.inl h
  · exact Or.inr ⟨h1, a, h2, h3, Or.inl ⟨h4, fun q => h5 (fun j hj => by rw [e n hn (a + j) (by omega)]; exact q j hj)⟩⟩
  · exact Or.inr ⟨h1, a, h2, h3, Or.inr ⟨h4, fun j hj => by rw [← e n hn (a + j) (by omega)]; exact h5 j hj⟩⟩
theorem TbS.cg {ln mn : Nat → Int32} {I I' : Nat → Nat → Int32} {H n n2 m : Nat} {i j k f : Int32} (e : Agr I I') (hn : n < 8) (h : TbS ln mn I H n n2 m i j k f) : TbS ln mn I' H n n2 m i j k f := by
  obtain ⟨f1, h1, h2⟩ := h
  exact ⟨f1, h1.cg e hn, h2⟩
theorem hsI_cg {I I' : Nat → Nat → Int32} (e : Agr I I') {n a m : Nat} (hn : n < 8) (ha : a + m ≤ 40) : ∀ q, q < m → hsI I n a q = hsI I' n a q := fun q hq => by unfold hsI; rw [e n hn (a + q) (by omega)]
theorem runS_cg {β : Al} {hs hs' : Nat → Nat} {D sk : Nat} : ∀ {k : Nat}, (∀ q, q < k → hs q = hs' q) → runS β hs sk D k = runS β hs' sk D k
  | 0, _ => rfl
  | k + 1, h => by rw [runS_s, runS_s, runS_cg (fun q hq => h q (by omega)), h k (by omega)]
theorem Fit.cgh {β : Al} {hs hs' : Nat → Nat} {ds : Nat → Int32} {n : Nat} (h : ∀ q, q < n → hs q = hs' q) : Fit β hs ds n = Fit β hs' ds n := by
  funext D
  refine propext ⟨fun z k hk => ?_, fun z k hk => ?_⟩
  · rw [← runN_cg (hs := hs) (fun q hq => h q (by omega))]; exact z k hk
  · rw [runN_cg (hs := hs) (hs' := hs') (fun q hq => h q (by omega))]; exact z k hk
theorem sno_cg {α : Al} {hs hs' : Nat → Nat} {D L n k : Nat} (h : ∀ q, q < n → hs q = hs' q) : snoN α hs D L n k = snoN α hs' D L n k := by
  unfold snoN
  rw [runS_cg h]
  congr 2
  funext q
  rw [runS_cg h]
theorem who_cgh {α : Al} {hs hs' : Nat → Nat} {ds : Nat → Int32} {n D h w m : Nat} (e : ∀ q, q < n → hs q = hs' q) : whoN α hs ds n D h w m = whoN α hs' ds n D h w m := by
  unfold whoN
  congr 1
  funext v
  rw [Fit.cgh e]
theorem SlpR.cg {α : Al} {ln mn : Nat → Int32} {I I' : Nat → Nat → Int32} {x i k r : Int32} {o : Option Int32} (e : Agr I I') (h : SlpR α ln mn I x i k r o) : SlpR α ln mn I' x i k r o := by
  rcases h with h | h | ⟨h0, n, m, f, h1, h2, h3, h4, h5, h6, h7, h8⟩
  · exact Or.inl h
  · exact Or.inr (Or.inl h)
  · refine Or.inr (Or.inr ⟨h0, n, m, f, h1, h2, h3, h4, h5, h6.cg e h2, h7, ?_⟩)
    rcases h8 with h8 | ⟨h8, a, h9, hA, hB⟩
    · exact Or.inl h8
    · exact Or.inr ⟨h8, a, h9, hA, by rw [hB, runN_cg (hsI_cg e h2 hA)]⟩
theorem SnoR.cg {α : Al} {ln mn : Nat → Int32} {I I' : Nat → Nat → Int32} {x y i k r : Int32} {o : Option Int32} (e : Agr I I') (h : SnoR α ln mn I x y i k r o) : SnoR α ln mn I' x y i k r o := by
  rcases h with h | h | ⟨h0, hc, n, m, f, h1, h2, h3, h4, h5, h6, h7, h8⟩
  · exact Or.inl h
  · exact Or.inr (Or.inl h)
  · refine Or.inr (Or.inr ⟨h0, hc, n, m, f, h1, h2, h3, h4, h5, h6.cg e h2, h7, ?_⟩)
    rcases h8 with h8 | ⟨h8, a, h9, hA, hB⟩
    · exact Or.inl h8
    · exact Or.inr ⟨h8, a, h9, hA, by rw [hB, sno_cg (hsI_cg e h2 hA)]⟩
theorem WhoR.cg {α : Al} {ln mn : Nat → Int32} {I I' : Nat → Nat → Int32} {x w y i u j k r : Int32} {o : Option Int32} (e : Agr I I') (h : WhoR α ln mn I x w y i u j k r o) : WhoR α ln mn I' x w y i u j k r o := by
  rcases h with h | ⟨hc, n, n2, m, f, h1, h2, g1, g2, h3, h4, h5, h6, h7, h8⟩
  · exact Or.inl h
  · refine Or.inr ⟨hc, n, n2, m, f, h1, h2, g1, g2, h3, h4, h5, h6.cg e h2, h7, ?_⟩
    rcases h8 with h8 | ⟨h8, a, b, h9, hA, hB, hC, hD⟩
    · exact Or.inl h8
    · exact Or.inr ⟨h8, a, b, h9, hA, hB, hC, by rw [hD, who_cgh (hsI_cg e h2 hA), who_cg (ds' := fun q => I' n2 (b + q)) (fun q hq => e n2 g2 (b + q) (by omega))]⟩
theorem BegR.cg {α : Al} {ln mn : Nat → Int32} {I I' : Nat → Nat → Int32} {w y i u j k r : Int32} {o : Option Int32} (e : Agr I I') (h : BegR α ln mn I w y i u j k r o) : BegR α ln mn I' w y i u j k r o := by
  rcases h with h | h | ⟨h0, hc, n, n2, m, f, h1, h2, g1, g2, h3, h4, h5, h6, h7, h8⟩
  · exact Or.inl h
  · exact Or.inr (Or.inl h)
  · refine Or.inr (Or.inr ⟨h0, hc, n, n2, m, f, h1, h2, g1, g2, h3, h4, h5, h6.cg e h2, h7, ?_⟩)
    rcases h8 with h8 | ⟨h8, a, b, h9, hA, hB, hC, hD⟩
    · exact Or.inl h8
    · refine Or.inr ⟨h8, a, b, h9, hA, hB, hC, ?_⟩
      rw [← Fit.cgh (hsI_cg e h2 hA), ← Fit.cgf (ds := fun q => I n2 (b + q)) (fun q hq => e n2 g2 (b + q) (by omega))]; exact hD
/-! each answer is the only one -/
theorem nIe {a b : Nat} {x : Int32} (ha : x = nI a) (hb : x = nI b) (h1 : a < 2 ^ 31) (h2 : b < 2 ^ 31) : a = b := (nI_eq h1 h2).mp (ha.symm.trans hb)
theorem SlpR.uniq {α : Al} {ln mn : Nat → Int32} {I : Nat → Nat → Int32} {x i k r r' : Int32} {o o' : Option Int32} (h : SlpR α ln mn I x i k r o) (h' : SlpR α ln mn I x i k r' o') : r' = r ∧ o' = o := by
  rcases h with ⟨a, b, c⟩ | ⟨a, b, c, d⟩ | ⟨h0, n, m, f, h1, h2, h3, h4, h5, h6, h7, h8⟩ <;> rcases h' with ⟨a', b', c'⟩ | ⟨a', b', c', d'⟩ | ⟨h0', n', m', f', h1', h2', h3', h4', h5', h6', h7', h8'⟩
  · exact ⟨by rw [b, b'], by rw [c, c']⟩
  · exact absurd a' a
  · exact absurd h0' a
  · exact absurd a a'
  · exact ⟨by rw [c, c'], by rw [d, d']⟩
  · exact absurd ⟨by rw [h1']; exact ⟨nI_pos' (by omega), (nI_leI (b := 7) (by omega) (by decide)).mpr (by omega)⟩, by rw [h3']; exact ⟨(nI_leI (a := 1) (by decide) (by omega)).mpr h4', (nI_leI (b := 12) (by omega) (by decide)).mpr h5'⟩⟩ b
  · exact absurd h0 a'
  · exact absurd ⟨by rw [h1]; exact ⟨nI_pos' (by omega), (nI_leI (b := 7) (by omega) (by decide)).mpr (by omega)⟩, by rw [h3]; exact ⟨(nI_leI (a := 1) (by decide) (by omega)).mpr h4, (nI_leI (b := 12) (by omega) (by decide)).mpr h5⟩⟩ b'
  · have e1 := nIe h1 h1' (by omega) (by omega)
    have e2 := nIe h3 h3' (by omega) (by omega)
    subst e1; subst e2
    have e3 := HfS.uniq h4 h6 h6'
    subst e3
    refine ⟨?_, by rw [h7, h7']⟩
    rcases h8 with ⟨a, b⟩ | ⟨a, c, d, e, g⟩ <;> rcases h8' with ⟨a', b'⟩ | ⟨a', c', d', e', g'⟩
    · rw [b, b']
    · exact absurd a' a
    · exact absurd a a'
    · have := nIe d d' (by omega) (by omega)
      subst this
      rw [g, g']
theorem SnoR.uniq {α : Al} {ln mn : Nat → Int32} {I : Nat → Nat → Int32} {x y i k r r' : Int32} {o o' : Option Int32} (h : SnoR α ln mn I x y i k r o) (h' : SnoR α ln mn I x y i k r' o') : r' = r ∧ o' = o := by
  rcases h with ⟨a, b, c⟩ | ⟨a, b, c, d⟩ | ⟨h0, hc, n, m, f, h1, h2, h3, h4, h5, h6, h7, h8⟩ <;> rcases h' with ⟨a', b', c'⟩ | ⟨a', b', c', d'⟩ | ⟨h0', hc', n', m', f', h1', h2', h3', h4', h5', h6', h7', h8'⟩
  · exact ⟨by rw [b, b'], by rw [c, c']⟩
  · exact absurd a' a
  · exact absurd h0' a
  · exact absurd a a'
  · exact ⟨by rw [c, c'], by rw [d, d']⟩
  · exact absurd hc' b
  · exact absurd h0 a'
  · exact absurd hc b'
  · have e1 := nIe h1 h1' (by omega) (by omega)
    have e2 := nIe h3 h3' (by omega) (by omega)
    subst e1; subst e2
    have e3 := HfS.uniq h4 h6 h6'
    subst e3
    refine ⟨?_, by rw [h7, h7']⟩
    rcases h8 with ⟨a, b⟩ | ⟨a, c, d, e, g⟩ <;> rcases h8' with ⟨a', b'⟩ | ⟨a', c', d', e', g'⟩
    · rw [b, b']
    · exact absurd a' a
    · exact absurd a a'
    · have := nIe d d' (by omega) (by omega)
      subst this
      rw [g, g']
theorem WhoR.uniq {α : Al} {ln mn : Nat → Int32} {I : Nat → Nat → Int32} {x w y i u j k r r' : Int32} {o o' : Option Int32} (h : WhoR α ln mn I x w y i u j k r o) (h' : WhoR α ln mn I x w y i u j k r' o') : r' = r ∧ o' = o := by
  rcases h with ⟨b, c, d⟩ | ⟨hc, n, n2, m, f, h1, h2, g1, g2, h3, h4, h5, h6, h7, h8⟩ <;> rcases h' with ⟨b', c', d'⟩ | ⟨hc', n', n2', m', f', h1', h2', g1', g2', h3', h4', h5', h6', h7', h8'⟩
  · exact ⟨by rw [c, c'], by rw [d, d']⟩
  · exact absurd hc' b
  · exact absurd hc b'
  · have e1 := nIe h1 h1' (by omega) (by omega)
    have e2 := nIe h3 h3' (by omega) (by omega)
    have e4 := nIe g1 g1' (by omega) (by omega)
    subst e1; subst e2; subst e4
    have e3 := TbS.uniq h4 h6 h6'
    subst e3
    refine ⟨?_, by rw [h7, h7']⟩
    rcases h8 with ⟨a, b⟩ | ⟨a, c, d, e, g, p, q, s⟩ <;> rcases h8' with ⟨a', b'⟩ | ⟨a', c', d', e', g', p', q', s'⟩
    · rw [b, b']
    · exact absurd a' a
    · exact absurd a a'
    · have z1 := nIe e e' (by omega) (by omega)
      have z2 := nIe p p' (by omega) (by omega)
      subst z1; subst z2
      rw [s, s']
theorem BegR.uniq {α : Al} {ln mn : Nat → Int32} {I : Nat → Nat → Int32} {w y i u j k r r' : Int32} {o o' : Option Int32} (h : BegR α ln mn I w y i u j k r o) (h' : BegR α ln mn I w y i u j k r' o') : r' = r ∧ o' = o := by
  rcases h with ⟨a, b, c⟩ | ⟨a, b, c, d⟩ | ⟨h0, hc, n, n2, m, f, h1, h2, g1, g2, h3, h4, h5, h6, h7, h8⟩ <;> rcases h' with ⟨a', b', c'⟩ | ⟨a', b', c', d'⟩ | ⟨h0', hc', n', n2', m', f', h1', h2', g1', g2', h3', h4', h5', h6', h7', h8'⟩
  · exact ⟨by rw [b, b'], by rw [c, c']⟩
  · exact absurd a' a
  · exact absurd h0' a
  · exact absurd a a'
  · exact ⟨by rw [c, c'], by rw [d, d']⟩
  · exact absurd hc' b
  · exact absurd h0 a'
  · exact absurd hc b'
  · have e1 := nIe h1 h1' (by omega) (by omega)
    have e2 := nIe h3 h3' (by omega) (by omega)
    have e4 := nIe g1 g1' (by omega) (by omega)
    subst e1; subst e2; subst e4
    have e3 := TbS.uniq h4 h6 h6'
    subst e3
    refine ⟨?_, by rw [h7, h7']⟩
    rcases h8 with ⟨a, b⟩ | ⟨a, c, d, e, g, p, q, s⟩ <;> rcases h8' with ⟨a', b'⟩ | ⟨a', c', d', e', g', p', q', s'⟩
    · rw [b, b']
    · exact absurd a' a
    · exact absurd a a'
    · have z1 := nIe e e' (by omega) (by omega)
      have z2 := nIe p p' (by omega) (by omega)
      subst z1; subst z2
      rcases s with ⟨s1, s2⟩ | ⟨s1, s2⟩ <;> rcases s' with ⟨u1, u2⟩ | ⟨u1, u2⟩
      · rw [s2, u2]
      · exact absurd (s1.symm.trans u1) (by decide)
      · exact absurd (s1.symm.trans u1) (by decide)
      · exact u2.uniq s2
theorem DrmR.uniq {α : Al} {x w r r' : Int32} (h : DrmR α x w r) (h' : DrmR α x w r') : r' = r := by
  rcases h with ⟨a, b⟩ | ⟨a, b, c⟩ | ⟨a, n, W, b, c, d, e, f⟩ <;> rcases h' with ⟨a', b'⟩ | ⟨a', b', c'⟩ | ⟨a', n', W', b', c', d', e', f'⟩
  · rw [b, b']
  · exact absurd a' a
  · exact absurd a' a
  · exact absurd a a'
  · rw [c, c']
  · exact absurd ⟨by rw [b']; exact ⟨nI_pos' (by omega), (nI_leI (b := 8) (by omega) (by decide)).mpr c'⟩, by rw [d']; exact ⟨nI_pos' (by omega), (nI_leI (b := 4) (by omega) (by decide)).mpr (by omega)⟩⟩ b
  · exact absurd a a'
  · exact absurd ⟨by rw [b]; exact ⟨nI_pos' (by omega), (nI_leI (b := 8) (by omega) (by decide)).mpr c⟩, by rw [d]; exact ⟨nI_pos' (by omega), (nI_leI (b := 4) (by omega) (by decide)).mpr (by omega)⟩⟩ b'
  · have e1 := nIe b b' (by omega) (by omega)
    have e2 := nIe d d' (by omega) (by omega)
    subst e1; subst e2
    exact f'.uniq e f
theorem LstR.uniq {α : Al} {x y k r r' : Int32} (h : LstR α x y k r) (h' : LstR α x y k r') : r' = r := by
  rcases h with ⟨a, b⟩ | ⟨a, b, c⟩ | ⟨a, b, c⟩ <;> rcases h' with ⟨a', b'⟩ | ⟨a', b', c'⟩ | ⟨a', b', c'⟩
  · rw [b, b']
  · exact absurd a' a
  · exact absurd a' a
  · exact absurd a a'
  · rw [c, c']
  · exact absurd b' b
  · exact absurd a a'
  · exact absurd b b'
  · exact c'.uniq (by decide) c
theorem SavR.uniq {α : Al} {x k r r' : Int32} (h : SavR α x k r) (h' : SavR α x k r') : r' = r := by
  rcases h with ⟨a, b⟩ | ⟨a, b⟩ <;> rcases h' with ⟨a', b'⟩ | ⟨a', b'⟩
  · rw [b, b']
  · exact absurd a' a
  · exact absurd a a'
  · exact b'.uniq (by decide) b
theorem CanR.uniq {α : Al} {x y r r' : Int32} (h : CanR α x y r) (h' : CanR α x y r') : r' = r := by
  rcases h with ⟨a, b⟩ | ⟨a, n, b, c, d⟩ <;> rcases h' with ⟨a', b'⟩ | ⟨a', n', b', c', d'⟩
  · rw [b, b']
  · exact absurd ⟨a', by rw [b']; exact ⟨nI_pos' (by omega), (nI_leI (b := 8) (by omega) (by decide)).mpr c'⟩⟩ a
  · exact absurd ⟨a, by rw [b]; exact ⟨nI_pos' (by omega), (nI_leI (b := 8) (by omega) (by decide)).mpr c⟩⟩ a'
  · have e1 := nIe b b' (by omega) (by omega)
    subst e1
    exact d'.uniq d
theorem OrdR.uniq {α : Al} {k r r' : Int32} (h : OrdR α k r) (h' : OrdR α k r') : r' = r := by
  rcases h with ⟨a, b⟩ | ⟨a, b, c⟩ | ⟨a, b, q, c, d, e⟩ <;> rcases h' with ⟨a', b'⟩ | ⟨a', b', c'⟩ | ⟨a', b', q', c', d', e'⟩
  · rw [b, b']
  · exact absurd a' a
  · exact absurd a' a
  · exact absurd a a'
  · rw [c, c']
  · exact absurd b' b
  · exact absurd a a'
  · exact absurd b b'
  · have : q' = q := Option.some.inj (c'.symm.trans c)
    rw [e, e', this]
theorem FstR.uniq {α : Al} {r r' : Int32} (h : FstR α r) (h' : FstR α r') : r' = r := by
  rcases h with ⟨a, b⟩ | ⟨a, b⟩ <;> rcases h' with ⟨a', b'⟩ | ⟨a', b'⟩
  · rw [b, b']
  · exact absurd a' a
  · exact absurd a a'
  · exact b'.uniq b
theorem PrR.uniq {P : Nat → Nat → Prop} {α : Al} {N : Nat} {w r r' : Int32} (h : PrR P α N w r) (h' : PrR P α N w r') : r' = r := by
  rcases h with ⟨a, b⟩ | ⟨a, b, c⟩ | ⟨a, b⟩ <;> rcases h' with ⟨a', b'⟩ | ⟨a', b', c'⟩ | ⟨a', b'⟩
  · rw [b, b']
  · exact absurd a' a
  · exact absurd a' a
  · exact absurd a a'
  · rw [c, c']
  · exact absurd (b'.elim (fun q => Or.inl q.1) (fun q => Or.inr q.1)) b
  · exact absurd a a'
  · exact absurd (b.elim (fun q => Or.inl q.1) (fun q => Or.inr q.1)) b'
  · rcases b with ⟨s1, s2⟩ | ⟨s1, s2⟩ <;> rcases b' with ⟨u1, u2⟩ | ⟨u1, u2⟩
    · rw [s2, u2]
    · exact absurd (s1.symm.trans u1) (by decide)
    · exact absurd (s1.symm.trans u1) (by decide)
    · exact u2.uniq s2
theorem GonR.uniq {α : Al} {x y w : Int32} {r r' : Int64} (h : GonR α x y w r) (h' : GonR α x y w r') : r' = r := by
  rcases h with ⟨a, b⟩ | ⟨a, b⟩ <;> rcases h' with ⟨a', b'⟩ | ⟨a', b'⟩
  · rw [b, b']
  · exact absurd a' a
  · exact absurd a a'
  · rw [b, b']
theorem DraR.uniq {α : Al} {x y w r r' : Int32} (h : DraR α x y w r) (h' : DraR α x y w r') : r' = r := by
  rcases h with ⟨a, b⟩ | ⟨a, b, c⟩ | ⟨a, b, c⟩ <;> rcases h' with ⟨a', b'⟩ | ⟨a', b', c'⟩ | ⟨a', b', c'⟩
  · rw [b, b']
  · exact absurd a' a
  · exact absurd a' a
  · exact absurd a a'
  · rw [c, c']
  · exact absurd b' b
  · exact absurd a a'
  · exact absurd b b'
  · rw [c, c']
theorem AsR.uniq {α : Al} {x w r r' : Int32} {o o' : Option Int32} (h : AsR α x w r o) (h' : AsR α x w r' o') : r' = r ∧ o' = o := by
  rcases h with ⟨a, b, c⟩ | ⟨a, ⟨b, c, d⟩ | ⟨b, c, d⟩⟩ <;> rcases h' with ⟨a', b', c'⟩ | ⟨a', ⟨b', c', d'⟩ | ⟨b', c', d'⟩⟩
  · exact ⟨by rw [b, b'], by rw [c, c']⟩
  · exact absurd a' a
  · exact absurd a' a
  · exact absurd a a'
  · exact ⟨by rw [c, c'], by rw [d, d']⟩
  · exact absurd b b'
  · exact absurd a a'
  · exact absurd b' b
  · exact ⟨by rw [c, c'], by rw [d, d']⟩
