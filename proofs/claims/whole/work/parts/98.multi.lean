/-! ===== rows of rows: eight of forty ===== -/
def irow (cC : ClassId) : Cell := { cls := cC, slots := Array.replicate 40 (.int 0), vm := .none }
def orow (cA : ClassId) (a i : Nat) : Cell := { cls := cA, slots := Array.ofFn (n := 8) (fun j => if j.val < i then Value.ref (a + 1 + j.val) else .null), vm := .none }
theorem orow_s {cA : ClassId} {a i : Nat} (hi : i < 8) : (orow cA a i).setSlot i (.ref (a + 1 + i)) = orow cA a (i + 1) := by
  have e : (orow cA a i).slots.setIfInBounds i (.ref (a + 1 + i)) = (orow cA a (i + 1)).slots := by
    apply Array.ext_getElem?
    intro j
    rw [Array.getElem?_setIfInBounds]
    have hz : (orow cA a i).slots.size = 8 := by simp [orow]
    by_cases q : i = j
    · subst q
      rw [if_pos rfl, if_pos (by omega)]
      simp [orow, hi]
    · rw [if_neg q]
      unfold orow
      dsimp only
      rw [Array.getElem?_ofFn, Array.getElem?_ofFn]
      by_cases y : j < 8
      · rw [dif_pos y, dif_pos y]
        by_cases z : j < i
        · rw [if_pos z, if_pos (show j < i + 1 by omega)]
        · rw [if_neg z, if_neg (show ¬ j < i + 1 by omega)]
      · rw [dif_neg y, dif_neg y]
  show ({ orow cA a i with slots := _ } : Cell) = orow cA a (i + 1)
  rw [e]
  rfl
/-- i rows are made -/
def MF (T : State) (vm : Vm) (cA cC : ClassId) (i : Nat) (S : State) : Prop :=
  S.heap.size = T.heap.size + 1 + i ∧ S.heap[T.heap.size]? = some (orow cA T.heap.size i) ∧ (∀ j, j < i → S.heap[T.heap.size + 1 + j]? = some (irow cC)) ∧ (∀ q, q < T.heap.size → S.heap[q]? = T.heap[q]?) ∧ S.vm = vm ∧ S.slotsUsed = T.slotsUsed + 8 + 40 * i
def nxS (S : State) (a : Nat) (cA cC : ClassId) (i : Nat) : State := (S.pushCell (irow cC)).setCell a ((orow cA a i).setSlot i (.ref (a + 1 + i)))
theorem MF.next {T S : State} {vm : Vm} {cA cC : ClassId} {i : Nat} (h : MF T vm cA cC i S) (hi : i < 8) : MF T vm cA cC (i + 1) (nxS S T.heap.size cA cC i) := by
  obtain ⟨h1, h2, h3, h4, h5, h6⟩ := h
  have hlt : T.heap.size < S.heap.size := by omega
  have hb : (S.pushCell (irow cC)).heap[T.heap.size]? = some (orow cA T.heap.size i) := by rw [State.heap_pushCell_of_lt (h := hlt)]; exact h2
  refine ⟨?_, ?_, fun j hj => ?_, fun q hq => ?_, ?_, ?_⟩
  · simp [nxS, State.setCell, h1]; omega
  · rw [← orow_s hi]; exact State.heap_setCell_self hb
  · unfold nxS
    rw [State.heap_setCell_other (show T.heap.size ≠ T.heap.size + 1 + j by omega)]
    rcases Nat.lt_or_ge j i with q | q
    · have hl2 : T.heap.size + 1 + j < S.heap.size := by omega
      rw [State.heap_pushCell_of_lt (h := hl2)]; exact h3 j q
    · have e : j = i := by omega
      subst e
      rw [← h1]
      exact State.heap_pushCell_size _ _
  · unfold nxS
    have hl2 : q < S.heap.size := by omega
    rw [State.heap_setCell_other (Nat.ne_of_gt hq), State.heap_pushCell_of_lt (h := hl2)]
    exact h4 q hq
  · simp [nxS, h5]
  · simp [nxS, h6, irow]; omega
theorem aoA {args : Array Value} {s : State} (h : (Cond.arrayOver (.array .int)).before args s = true) : AOr s := by
  unfold Cond.before at h
  simp only [Cond.holds, Cond.value, beq_iff_eq] at h
  cases hc : s.vm.findClass (FieldType.array .int).toString with
  | none => simp [hc] at h
  | some comp =>
    simp only [hc, Option.bind_some, Option.bind_eq_some_iff, Option.map_eq_some_iff] at h
    obtain ⟨c, hi, k, hk, hb⟩ := h
    obtain ⟨hlt, hp, -⟩ := Array.findIdx?_eq_some_iff_getElem.mp hi
    have hkk : s.vm.classes[c] = k := (Array.getElem?_eq_some_iff.mp hk).2
    rw [hkk] at hp
    cases hkind : k.kind with
    | array component ty =>
      rw [hkind] at hb hp
      simp at hb hp
      exact ⟨comp, c, k, hc, hk, by rw [hkind, hp, hb.1], hb.2⟩
    | _ => rw [hkind] at hb; simp at hb
