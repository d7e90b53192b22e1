/-! ===== rows of hums, by how long and by numbers ===== -/
def lx : List Nat → List Nat → Prop
  | [], _ => False
  | _ :: _, [] => False
  | a :: x, b :: y => a < b ∨ (a = b ∧ lx x y)
def sl (x y : List Nat) : Prop := x.length < y.length ∨ (x.length = y.length ∧ lx x y)
theorem lx_irr : ∀ x, ¬ lx x x
  | [] => id
  | a :: x => fun h => h.elim (Nat.lt_irrefl a) (fun q => lx_irr x q.2)
theorem lx_tr : ∀ {x y z : List Nat}, lx x y → lx y z → lx x z
  | [], _, _, h, _ => h.elim
  | _ :: _, [], _, h, _ => h.elim
  | _ :: _, _ :: _, [], _, h => h.elim
  | a :: x, b :: y, c :: z, h, k => by
    rcases h with h | ⟨h, h'⟩ <;> rcases k with k | ⟨k, k'⟩
    · exact Or.inl (by omega)
    · exact Or.inl (by omega)
    · exact Or.inl (by omega)
    · exact Or.inr ⟨by omega, lx_tr h' k'⟩
theorem lx_sn1 : ∀ {x y : List Nat} {a b : Nat}, lx x y → lx (x ++ [a]) (y ++ [b])
  | [], _, _, _, h => h.elim
  | _ :: _, [], _, _, h => h.elim
  | c :: x, d :: y, a, b, h => h.elim Or.inl (fun q => Or.inr ⟨q.1, lx_sn1 q.2⟩)
theorem lx_sn2 : ∀ (x : List Nat) {a b : Nat}, a < b → lx (x ++ [a]) (x ++ [b])
  | [], _, _, h => Or.inl h
  | _ :: x, _, _, h => Or.inr ⟨rfl, lx_sn2 x h⟩
theorem lx_tot : ∀ {x y : List Nat}, x.length = y.length → x = y ∨ lx x y ∨ lx y x
  | [], [], _ => Or.inl rfl
  | [], _ :: _, h => by simp at h
  | _ :: _, [], h => by simp at h
  | a :: x, b :: y, h => by
    have h2 : x.length = y.length := by simpa using h
    rcases Nat.lt_trichotomy a b with q | q | q
    · exact Or.inr (Or.inl (Or.inl q))
    · subst q
      rcases lx_tot (x := x) (y := y) h2 with z | z | z
      · exact Or.inl (by rw [z])
      · exact Or.inr (Or.inl (Or.inr ⟨rfl, z⟩))
      · exact Or.inr (Or.inr (Or.inr ⟨rfl, z⟩))
    · exact Or.inr (Or.inr (Or.inl q))
theorem sl_irr (x : List Nat) : ¬ sl x x := fun h => h.elim (Nat.lt_irrefl _) (fun q => lx_irr x q.2)
theorem sl_tr {x y z : List Nat} (h : sl x y) (k : sl y z) : sl x z := by
  rcases h with h | ⟨h, h'⟩ <;> rcases k with k | ⟨k, k'⟩
  · exact Or.inl (by omega)
  · exact Or.inl (by omega)
  · exact Or.inl (by omega)
  · exact Or.inr ⟨by omega, lx_tr h' k'⟩
theorem sl_sn1 {x y : List Nat} {a b : Nat} (h : sl x y) : sl (x ++ [a]) (y ++ [b]) := by
  rcases h with h | ⟨h, h'⟩
  · exact Or.inl (by simp; exact h)
  · exact Or.inr ⟨by simp [h], lx_sn1 h'⟩
theorem sl_sn2 (x : List Nat) {a b : Nat} (h : a < b) : sl (x ++ [a]) (x ++ [b]) := Or.inr ⟨by simp, lx_sn2 x h⟩
theorem sl_nil {x : List Nat} {a : Nat} : sl [] (x ++ [a]) := Or.inl (by simp)
/-- at most -/
def le_sl (x y : List Nat) : Prop := x = y ∨ sl x y
theorem le_sl_tr {x y z : List Nat} (h : le_sl x y) (k : le_sl y z) : le_sl x z := by
  rcases h with rfl | h
  · exact k
  · rcases k with rfl | k
    · exact Or.inr h
    · exact Or.inr (sl_tr h k)
theorem le_sl_as {x y : List Nat} (h : le_sl x y) (k : le_sl y x) : x = y := by
  rcases h with h | h
  · exact h
  · rcases k with k | k
    · exact k.symm
    · exact absurd (sl_tr h k) (sl_irr x)
theorem le_sl_sn {x y : List Nat} {a : Nat} (h : le_sl x y) : le_sl (x ++ [a]) (y ++ [a]) := by
  rcases h with rfl | h
  · exact Or.inl rfl
  · exact Or.inr (sl_sn1 h)
theorem le_sl_len {x y : List Nat} (h : le_sl x y) : x.length ≤ y.length := by
  rcases h with rfl | h | h
  · exact Nat.le_refl _
  · omega
  · omega
def endN (α : Al) (D : Nat) (w : List Nat) : Nat := w.foldl (fun d h => humN α h d) D
theorem endN_sn (α : Al) (D : Nat) (w : List Nat) (h : Nat) : endN α D (w ++ [h]) = humN α h (endN α D w) := by unfold endN; rw [List.foldl_append]; rfl
def Hs (α : Al) (w : List Nat) : Prop := ∀ h ∈ w, h < α 0 6
theorem Hs.sn {α : Al} {w : List Nat} {h : Nat} (hw : Hs α (w ++ [h])) : Hs α w ∧ h < α 0 6 := ⟨fun q hq => hw q (List.mem_append_left _ hq), hw h (by simp)⟩
theorem Hs.mk {α : Al} {w : List Nat} {h : Nat} (hw : Hs α w) (hh : h < α 0 6) : Hs α (w ++ [h]) := fun q hq => (List.mem_append.mp hq).elim (hw q) (fun z => by rw [List.mem_singleton.mp z]; exact hh)
theorem endN_lt {α : Al} (hv : Val α) : ∀ {w : List Nat} {D : Nat}, D < 2 ^ α 0 0 → Hs α w → endN α D w < 2 ^ α 0 0
  | [], _, hD, _ => hD
  | h :: w, D, hD, hw => endN_lt hv (w := w) (humN_lt hv (hw h List.mem_cons_self) hD) (fun q hq => hw q (List.mem_cons_of_mem _ hq))
/-- the first shortest row to a dream with T -/
def Best (α : Al) (D n : Nat) (T : Nat → Prop) (w : List Nat) : Prop := Hs α w ∧ w.length ≤ n ∧ T (endN α D w) ∧ ∀ w', Hs α w' → w'.length ≤ n → T (endN α D w') → le_sl w w'
theorem Best.uniq {α : Al} {D n : Nat} {T : Nat → Prop} {w w' : List Nat} (h : Best α D n T w) (h' : Best α D n T w') : w = w' :=
  le_sl_as (h.2.2.2 w' h'.1 h'.2.1 h'.2.2.1) (h'.2.2.2 w h.1 h.2.1 h.2.2.1)
/-- how many hums (-1), the k-th one; NONE -/
def WR (α : Al) (D n : Nat) (T : Nat → Prop) (k r : Int32) : Prop :=
  (∃ w, Best α D n T w ∧ ((k = -1 ∧ r = nI w.length) ∨ (∃ j, k = nI j ∧ j < w.length ∧ r = nI (w.getD j 0)) ∨ (¬ k = -1 ∧ nI w.length ≤ k ∧ r = -1000000))) ∨ ((∀ w, Hs α w → w.length ≤ n → ¬ T (endN α D w)) ∧ r = -1000000)
theorem WR.uniq {α : Al} {D n : Nat} {T : Nat → Prop} {k r r' : Int32} (hn : n ≤ 12) (h : WR α D n T k r) (h' : WR α D n T k r') : r = r' := by
  rcases h with ⟨w, hb, h⟩ | ⟨h, e⟩ <;> rcases h' with ⟨w', hb', h'⟩ | ⟨h', e'⟩
  · have := hb.uniq hb'
    subst this
    have hl := hb.2.1
    rcases h with ⟨h1, h2⟩ | ⟨j, h1, h2, h3⟩ | ⟨h1, h2, h3⟩ <;> rcases h' with ⟨g1, g2⟩ | ⟨j', g1, g2, g3⟩ | ⟨g1, g2, g3⟩
    · rw [h2, g2]
    · exact absurd (show nI j' < 0 by rw [← g1, h1]; decide) (nI_pos (by omega))
    · exact absurd h1 g1
    · exact absurd (show nI j < 0 by rw [← h1, g1]; decide) (nI_pos (by omega))
    · have : j = j' := (nI_eq (by omega) (by omega)).mp (h1.symm.trans g1)
      rw [h3, g3, this]
    · rw [h1] at g2; have := le_i g2 (by omega) (by omega); omega
    · exact absurd g1 h1
    · rw [g1] at h2; have := le_i h2 (by omega) (by omega); omega
    · rw [h3, g3]
  · exact absurd hb.2.2.1 (h' w hb.1 hb.2.1)
  · exact absurd hb'.2.2.1 (h w' hb'.1 hb'.2.1)
  · rw [e, e']
