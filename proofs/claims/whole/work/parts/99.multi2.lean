/-! ===== the instruction itself ===== -/
section MW
variable {EE : CtlPost} {e : Env} {d : Bool} {acts : List Action}
theorem mk_arr {S : State} {c comp : ClassId} {k : Class} {type : FieldType} {len : Nat} {init : Value} (hk : S.vm.classes[c]? = some k) (hkind : k.kind = .array comp type)
    (hlimit : ¬ len > e.platform.arrayLengthLimit) (hheap : ¬ len * componentBytes type > e.platform.maxHeapBytes) (hfit : fits type init = true) (hdef : init.isDefault = true) {Q : Addr → Pre}
    (h1 : S.heap.size < e.platform.maxCells) (h2 : S.slotsUsed + len ≤ e.platform.maxSlots)
    (hq : Q S.heap.size d acts (S.pushCell { cls := c, slots := Array.replicate len init, vm := .none })) : wp (Jvm.newArray c len init) Q EE e d acts S := by
  have hfits : ∀ i v, (Array.replicate len init)[i]? = some v → S.fitsSlot c .none i v = true := by
    intro i v hv
    rw [Array.getElem?_replicate] at hv
    split at hv
    · cases hv; simp [State.fitsSlot, State.slotType?, hk, hkind, hfit]
    · cases hv
  have hda : allocActs (Array.replicate len init) S.heap.size acts = acts := by
    unfold allocActs
    rw [if_pos (by rw [Array.all_replicate]; split <;> simp [hdef])]
  simp only [Jvm.newArray, Jvm.arrayFits, wp_bind', W.ask, W.ite, hlimit, if_false, wp_pure', W.theClass, hk, hkind, hheap, W.alloc, W.stop, Option.some.injEq, exists_eq_left', Array.size_replicate, hda]
  rw [if_neg (by omega)]
  exact ⟨h1, h2, hfits, hq⟩
/-- the loop, one row at a time -/
theorem mk_loop {T : State} {vm : Vm} {cA cC : ClassId} {f : JFrame} {body : Nat → PUnit → Sem (ForInStep PUnit)} {Q : PUnit → Pre}
    (step : ∀ (i : Nat) (S : State) (d : Bool) (acts : List Action) (Q' : ForInStep PUnit → Pre), i < 8 → MF T vm cA cC i S → (∀ d' acts', Q' (.yield ⟨⟩) d' acts' ((nxS S T.heap.size cA cC i).setTop f)) → wp (body i ⟨⟩) Q' EE e d acts (S.setTop f))
    (hq : ∀ (S : State) (d : Bool) (acts : List Action), MF T vm cA cC 8 S → S = (List.range' 0 8).foldl (fun S i => nxS S T.heap.size cA cC i) S → True) : True := trivial
end MW
