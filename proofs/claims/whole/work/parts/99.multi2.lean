/-! ===== the instruction itself ===== -/
section MW
variable {EE : CtlPost} {e : Env} {d : Bool} {acts : List Action}
theorem mk_arr {S : State} {c comp : ClassId} {k : Class} {type : FieldType} {len : Nat} {init : Value} (hk : S.vm.classes[c]? = some k) (hkind : k.kind = .array comp type)
    (hlimit : ¬ len > e.platform.arrayLengthLimit) (hheap : ¬ len * componentBytes type > e.platform.maxHeapBytes) (hfit : fits type init = true) (hdef : init.isDefault = true) {Q : Addr → Pre}
    (h1 : S.heap.size < e.platform.maxCells) (h2 : S.slotsUsed + len ≤ e.platform.maxSlots)
    (hq : Q S.heap.size d acts (S.pushCell { cls := c, slots := Array.replicate len init, vm := .none })) : wp (Jvm.newArray c len init) Q EE e d acts S := by
  have hfits : ∀ i v, (Array.replicate len init)[i]? = some v → S.fitsSlot c .none i v = true := by
    intro i v hv
    rw [Array.getElem?_replicate] at hv
    split at hv
    · cases hv; simp [State.fitsSlot, State.slotType?, hk, hkind, hfit]
    · cases hv
  have hda : allocActs (Array.replicate len init) S.heap.size acts = acts := by
    unfold allocActs
    rw [if_pos (by rw [Array.all_replicate]; split <;> simp [hdef])]
  simp only [Jvm.newArray, Jvm.arrayFits, wp_bind', W.ask, W.ite, hlimit, if_false, wp_pure', W.theClass, hk, hkind, hheap, W.alloc, W.stop, Option.some.injEq, exists_eq_left', Array.size_replicate, hda]
  rw [if_neg (by omega)]
  exact ⟨h1, h2, hfits, hq⟩
end MW
section MX
variable {p : Program} {l : Launch} {e : Env} {R : Room} {s : State} {m : MethodId} {args : Array Value} {below : List Frame} {meth : Method} {c : Code} {H : Heap} {locs : List Loc} {cells slots : Nat} {Q : State → Prop}
theorem orow_0 {cA : ClassId} {a : Nat} : ({ cls := cA, slots := Array.replicate (8 : Int32).toNatClampNeg .null, vm := .none } : Cell) = orow cA a 0 := by
  have e : Array.replicate (8 : Int32).toNatClampNeg Value.null = (orow cA a 0).slots := by
    apply Array.ext_getElem?
    intro j
    rw [show (8 : Int32).toNatClampNeg = 8 by decide, Array.getElem?_replicate]
    unfold orow
    dsimp only
    rw [Array.getElem?_ofFn]
    by_cases y : j < 8
    · rw [if_pos y, dif_pos y, if_neg (Nat.not_lt_zero _)]
    · rw [if_neg y, dif_neg y]
  rw [e]
  rfl
/-- a row more is made -/
theorem MF.stand {T S : State} {vm : Vm} {cA cC : ClassId} {i : Nat} (h : MF T vm cA cC i S) {locs : List Loc} {k n : Nat} (X : Stand p l e R s m args below meth c S locs k n) : Stand p l e R s m args below meth c (nxS S T.heap.size cA cC i) (locs ++ [⟨T.heap.size, i⟩]) (k + 1) (n + 40) := by
  have hlt : T.heap.size < S.heap.size := by have := h.1; omega
  have hb : (S.pushCell (irow cC)).heap[T.heap.size]? = some (orow cA T.heap.size i) := by rw [State.heap_pushCell_of_lt (h := hlt)]; exact h.2.1
  have q := (X.pushed (irow cC)).stored hb i (.ref (T.heap.size + 1 + i))
  have e1 : (irow cC).slots.size = 40 := by simp [irow]
  rw [e1] at q
  exact q
def SnM (T0 : State) (a : Nat) (cA cC : ClassId) : Nat → State
  | 0 => T0.pushCell (orow cA a 0)
  | i + 1 => nxS (SnM T0 a cA cC i) a cA cC i
theorem SnM_top (T0 : State) (a : Nat) (cA cC : ClassId) (f : JFrame) : ∀ i, SnM (T0.setTop f) a cA cC i = (SnM T0 a cA cC i).setTop f
  | 0 => rfl
  | i + 1 => by
    show nxS _ _ _ _ _ = (nxS _ _ _ _ _).setTop f
    rw [SnM_top T0 a cA cC f i]
    simp only [nxS, State.pushCell_setTop, State.setCell_setTop]
theorem SnM_MF {T : State} {vm : Vm} {cA cC : ClassId} : ∀ i, i ≤ 8 → MF T vm cA cC i (SnM (T.setVm vm) T.heap.size cA cC i)
  | 0, _ => ⟨by simp [SnM], State.heap_pushCell_size (T.setVm vm) _, fun j hj => absurd hj (Nat.not_lt_zero j), fun q hq => State.heap_pushCell_of_lt (T.setVm vm) _ hq, rfl, by simp [SnM, orow]⟩
  | i + 1, h => (SnM_MF i (by omega)).next (by omega)
theorem SnM_stand {T : State} {vm : Vm} {cA cC : ClassId} (X : Stand p l e R s m args below meth c (T.setVm vm) locs cells slots) : ∀ i, i ≤ 8 → Stand p l e R s m args below meth c (SnM (T.setVm vm) T.heap.size cA cC i) (locs ++ (List.range i).map (fun j => ⟨T.heap.size, j⟩)) (cells + 1 + i) (slots + 8 + 40 * i)
  | 0, _ => by
    have q := X.pushed (orow cA T.heap.size 0)
    have e1 : (orow cA T.heap.size 0).slots.size = 8 := by simp [orow]
    rw [e1] at q
    simpa [SnM] using q
  | i + 1, h => by
    have q := (SnM_MF (T := T) (vm := vm) (cA := cA) (cC := cC) i (by omega)).stand (SnM_stand X i (by omega))
    have e2 : (locs ++ (List.range (i + 1)).map fun j => (⟨T.heap.size, j⟩ : Loc)) = (locs ++ (List.range i).map fun j => (⟨T.heap.size, j⟩ : Loc)) ++ [⟨T.heap.size, i⟩] := by simp [List.range_succ, List.append_assoc]
    rw [e2, show slots + 8 + 40 * (i + 1) = slots + 8 + 40 * i + 40 by omega]
    exact q
theorem multi_step {T : State} (X : Stand p l e R s m args below meth c T locs cells slots) (hexec : p.tables.exec = Jvm.exec) {own : String} {idx : Nat} (hown : s.vm.findClass own = some m.cls) (hclink : (Cond.classLink own idx ("[" ++ (FieldType.array .int).toString)).before args s = true) (hover : AOr s) (harr : (Cond.arrayClass .int).before args s = true)
    {g : JFrame} (hg : g.method = m) (hdg : decode c.code g.pc = .ok (.multianewarray idx 2, 4)) {rest : List Value} (hstack : g.stack = .int 40 :: .int 8 :: rest) (hcells : cells + 9 ≤ R.cells) (hslots : slots + 328 ≤ R.slots) :
    ∃ (vm₁ : Vm) (cA cC : ClassId), s.vm.findClass ("[" ++ (FieldType.array .int).toString) = some cA ∧ s.vm.findClass (FieldType.array .int).toString = some cC ∧ Stand p l e R s m args below meth c (T.setVm vm₁) locs cells slots ∧
      ∀ target, Steps p.tables e below ((SnM (T.setVm vm₁) T.heap.size cA cC 8).setTop { g with pc := g.pc + 4, stack := .ref T.heap.size :: rest }) target → Steps p.tables e below (T.setTop g) target := by
  subst hg
  have hpl : e.platform.magicAccessors = ({} : Platform).magicAccessors := by rw [X.admits.platform]
  obtain ⟨comp, cA, kA, hcomp, hkA, hkindA, hnameA⟩ := hover
  obtain ⟨comp', kC, cc, hcomp', hkC, hkindC⟩ := Cond.arrayClass_spec harr
  have ecomp : comp' = comp := Option.some.inj (hcomp'.symm.trans hcomp)
  subst ecomp
  obtain ⟨c0, hfc0, hcl⟩ := Cond.classLink_spec hown hclink e.platform hpl
  cases hnameA.symm.trans hfc0
  obtain ⟨hg₁, hwarm₁, hready₁⟩ := State.classEntry (e := e) X.warmed hcl
  generalize T.vm.noted g.method.cls idx (.cls cA) = vm₁ at hg₁ hwarm₁ hready₁
  have hal : s.vm.Alike vm₁ := hwarm₁.alike
  obtain ⟨kA₁, hkA₁, heA⟩ := hal.2.2 _ _ hkA
  obtain ⟨kC₁, hkC₁, heC⟩ := hal.2.2 _ _ hkC
  have hkindA₁ : kA₁.kind = .array comp' (.array .int) := by rw [heA]; exact hkindA
  have hkindC₁ : kC₁.kind = .array cc .int := by rw [heC]; exact hkindC
  have X₁ := X.noted hwarm₁
  obtain ⟨hr1, hr2⟩ := X.roomAbove hcells hslots
  have lim : ∀ n, n ≤ 1000 → ¬ n > e.platform.arrayLengthLimit := fun n hn => by rw [Launch.admits_arrayLengthLimit X.admits]; omega
  have lih : ∀ n, n ≤ 1000 → ¬ n * 4 > e.platform.maxHeapBytes := fun n hn => by rw [Launch.admits_maxHeapBytes X.admits]; omega
  refine ⟨vm₁, cA, comp', hnameA, hcomp, X₁, fun target hrest => ?_⟩
  have X8 := SnM_stand (cA := cA) (cC := comp') X₁ 8 (Nat.le_refl 8)
  jvm_step X.here [hexec, hdg]
  simp only [multianewarray.sem, wp_bind', W.resolveClassAt_links (State.method?_setTop g X.here.top) hg₁]
  rw [W.popN, if_neg (by decide)]
  refine ⟨g, State.topJava?_setTop' (s := T.setVm vm₁) g X.here.top, [.int 8, .int 40], rest, rfl, hstack, ?_⟩
  simp only [List.mapM_cons, List.mapM_nil, wp_bind', wp_pure']
  have eS : ((T.setTop g).setVm vm₁).setTop { g with stack := rest } = (T.setVm vm₁).setTop { g with stack := rest } := by
    show ((T.setVm vm₁).setTop g).setTop _ = _
    rw [State.setTop_setTop]
  rw [eS]
  generalize hf : ({ g with stack := rest } : JFrame) = f
  rw [multianewarray.make]
  simp only [wp_bind', W.ite, show ¬ (8 : Int32) < 0 by decide, if_false, wp_pure', W.theClass, show ((T.setVm vm₁).setTop f).vm.classes[cA]? = some kA₁ from hkA₁, hkindA₁, Option.some.injEq, exists_eq_left']
  refine mk_arr (k := kA₁) hkA₁ hkindA₁ (lim _ (by decide)) (lih _ (by decide)) rfl rfl (by show T.heap.size < _; omega) (by show T.slotsUsed + 8 ≤ _; omega) ?_
  simp only [show ([(40 : Int32)].find? (· < 0)) = none by decide]
  rw [ite_self, wp_bind', Std.Legacy.Range.forIn_eq_forIn_range']
  have hsz : ([:(8 : Int32).toNatClampNeg] : Std.Legacy.Range).size = 8 := by decide
  rw [hsz]
  refine wp_forIn_inv (fun rest s' => ∃ i, i ≤ 8 ∧ rest = List.range' i (8 - i) ∧ s' = (SnM (T.setVm vm₁) T.heap.size cA comp' i).setTop f) _ _ ⟨0, by omega, rfl, ?_⟩ ?_ ?_
  · rw [← SnM_top]
    show _ = ((T.setVm vm₁).setTop f).pushCell (orow cA T.heap.size 0)
    rw [← orow_0]
  · rintro x rest' s' d' acts' Q' ⟨i, hi, hl, rfl⟩ hnext
    have hlt : i < 8 := by
      rcases Nat.lt_or_ge i 8 with h | h
      · exact h
      · rw [show 8 - i = 0 by omega] at hl; cases hl
    have hl2 : x = i ∧ rest' = List.range' (i + 1) (8 - (i + 1)) := by
      rw [show 8 - i = (8 - (i + 1)) + 1 by omega, List.range'_succ] at hl
      exact ⟨(List.cons.inj hl).1, (List.cons.inj hl).2⟩
    obtain ⟨rfl, hr'⟩ := hl2
    have F := SnM_MF (T := T) (vm := vm₁) (cA := cA) (cC := comp') x (by omega)
    obtain ⟨f1, f2, f3, f4, f5, f6⟩ := F
    generalize hSd : SnM (T.setVm vm₁) T.heap.size cA comp' x = S at f1 f2 f3 f4 f5 f6
    have hcC : (S.setTop f).vm.classes[comp']? = some kC₁ := by show S.vm.classes[comp']? = _; rw [f5]; exact hkC₁
    simp only [wp_bind']
    rw [multianewarray.make]
    simp only [wp_bind', W.ite, show ¬ (40 : Int32) < 0 by decide, if_false, wp_pure', W.theClass, hcC, hkindC₁, Option.some.injEq, exists_eq_left']
    refine mk_arr (k := kC₁) hcC hkindC₁ (lim _ (by decide)) (lih _ (by decide)) rfl rfl (by show S.heap.size < _; omega) (by show S.slotsUsed + 40 ≤ _; omega) ?_
    have hlt0 : T.heap.size < S.heap.size := by omega
    simp only [wp_bind', W.writeLoc, wp_pure']
    refine ⟨orow cA T.heap.size x, ?_, by simp [orow], by simp [orow]; exact hlt, ?_, hnext _ _ _ ⟨x + 1, hlt, hr', ?_⟩⟩
    · exact (State.heap_pushCell_of_lt (S.setTop f) _ hlt0).trans f2
    · have hvA : (S.setTop f).vm.classes[cA]? = some kA₁ := by show S.vm.classes[cA]? = _; rw [f5]; exact hkA₁
      have hvA : S.vm.classes[cA]? = some kA₁ := hvA
      simp [State.fitsSlot, State.slotType?, orow, hvA, hkindA₁, fits]
    · show ((S.setTop f).pushCell (irow comp')).setCell T.heap.size ((orow cA T.heap.size x).setSlot x (.ref S.heap.size)) = (nxS (SnM (T.setVm vm₁) T.heap.size cA comp' x) T.heap.size cA comp' x).setTop f
      rw [hSd, f1, State.pushCell_setTop, State.setCell_setTop]
      rfl
  · rintro s' d' acts' ⟨i, hi, hl, rfl⟩
    have hiN : i = 8 := by
      rcases Nat.lt_or_ge i 8 with h | h
      · rw [show 8 - i = (8 - (i + 1)) + 1 by omega, List.range'_succ] at hl; cases hl
      · omega
    subst hiN
    subst hf
    simp only [wp_pure', wp_bind', W.mark, W.pushRef, State.topJava?_setTop' _ X8.here.top, Option.some.injEq, exists_eq_left', State.setTop_setTop, State.heap_setTop]
    intro acts
    simp [jvm, X8.here.top]
    exact hrest
theorem W_multi {cc : ByteArray} {pc idx : Nat} {ls : Array Slot} {rest : List Value} {own : String} (hexec : p.tables.exec = Jvm.exec) (hb : c.code = cc) (hown : s.vm.findClass own = some m.cls) (hclink : (Cond.classLink own idx ("[" ++ (FieldType.array .int).toString)).before args s = true) (hover : AOr s) (harr : (Cond.arrayClass .int).before args s = true)
    (hdg : decode cc pc = .ok (.multianewarray idx 2, 4)) (hcells : cells + 9 ≤ R.cells) (hslots : slots + 328 ≤ R.slots)
    (kk : ∀ (H' : Heap) (cA cC : ClassId) (L : List Loc), s.vm.findClass ("[" ++ (FieldType.array .int).toString) = some cA → s.vm.findClass (FieldType.array .int).toString = some cC → H'.size = H.size + 9 → H'[H.size]? = some (orow cA H.size 8) → (∀ j, j < 8 → H'[H.size + 1 + j]? = some (irow cC)) → (∀ q, q < H.size → H'[q]? = H[q]?) → (∀ x ∈ L, x.base = H.size) →
      W p l e R s m args below meth c H' (locs ++ L) (cells + 9) (slots + 328) Q (F0 m (pc + 4) ls (.ref H.size :: rest))) : W p l e R s m args below meth c H locs cells slots Q (F0 m pc ls (.int 40 :: .int 8 :: rest)) := by
  intro T hT X
  subst hT; subst hb
  obtain ⟨vm₁, cA, cC, h1, h2, X₁, st⟩ := multi_step X hexec hown hclink hover harr (g := F0 m pc ls (.int 40 :: .int 8 :: rest)) rfl hdg rfl hcells hslots
  have F8 := SnM_MF (T := T) (vm := vm₁) (cA := cA) (cC := cC) 8 (Nat.le_refl 8)
  have X8 := SnM_stand (cA := cA) (cC := cC) X₁ 8 (Nat.le_refl 8)
  obtain ⟨t, a1, b1⟩ := kk (SnM (T.setVm vm₁) T.heap.size cA cC 8).heap cA cC ((List.range 8).map fun j => ⟨T.heap.size, j⟩) h1 h2 (by rw [F8.1]) F8.2.1 F8.2.2.1 F8.2.2.2.1 (fun x hx => by obtain ⟨j, -, rfl⟩ := List.mem_map.mp hx; rfl) _ rfl X8
  exact ⟨t, st t a1, b1⟩
end MX
