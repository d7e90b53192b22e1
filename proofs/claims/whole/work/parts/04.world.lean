/-! ===== the world: cells in a fixed shape, numbers in a memory ===== -/
abbrev Vl : Type := Int32 ⊕ Int64 ⊕ Nat
abbrev Mem : Type := Nat → Nat → Int32
abbrev vI (x : Int32) : Vl := .inl x
abbrev vL (x : Int64) : Vl := .inr (.inl x)
abbrev vR (j : Nat) : Vl := .inr (.inr j)
/-- class ids, slots, addresses of cells, array classes (0 int, 1 boolean, 2 Court, 3 int rows) -/
abbrev En : Type := (Nat → ClassId) × (Nat → Nat → Nat) × (Nat → Nat) × (Nat → ClassId)
def dv (E : En) : Vl → Value
  | .inl x => .int x
  | .inr (.inl x) => .long x
  | .inr (.inr j) => .ref (E.2.2.1 j)
/-- an object: its class's number, its fields (none: an int; some j: the cell j); an array: its kind, its length, the cells -/
abbrev Sd : Type := (Nat × List (Option Nat)) ⊕ (Nat × Nat × List Nat)
def coSh (b : Nat) : List Sd := [.inl (2, [none, none, none, none, none, none, none, none, some (b + 1), some (b + 2), some (b + 3), some (b + 4), some (b + 5), some (b + 6), some (b + 7)]), .inr (0, 6, []), .inr (0, 6, []), .inr (0, 6, []), .inr (0, 5, []), .inr (0, 5, []), .inr (0, 5, []), .inr (0, 5, [])]
def Sh : List Sd := [
  .inl (9, [some 1, some 13, some 15, some 23, some 31, some 32, some 34, some 51, some 58, some 62, some 65, none, none]),
  .inl (5, [some 2, some 11, some 12]), .inr (3, 8, [3, 4, 5, 6, 7, 8, 9, 10]),
  .inr (0, 40, []), .inr (0, 40, []), .inr (0, 40, []), .inr (0, 40, []), .inr (0, 40, []), .inr (0, 40, []), .inr (0, 40, []), .inr (0, 40, []),
  .inr (0, 8, []), .inr (0, 8, []),
  .inl (6, [some 14, none]), .inr (0, 120, []),
  .inl (2, [none, none, none, none, none, none, none, none, some 16, some 17, some 18, some 19, some 20, some 21, some 22]), .inr (0, 6, []), .inr (0, 6, []), .inr (0, 6, []), .inr (0, 5, []), .inr (0, 5, []), .inr (0, 5, []), .inr (0, 5, []),
  .inl (2, [none, none, none, none, none, none, none, none, some 24, some 25, some 26, some 27, some 28, some 29, some 30]), .inr (0, 6, []), .inr (0, 6, []), .inr (0, 6, []), .inr (0, 5, []), .inr (0, 5, []), .inr (0, 5, []), .inr (0, 5, []),
  .inl (4, [some 13, some 23, none, none]),
  .inl (0, [some 33, none, none]), .inr (0, 336, []),
  .inr (2, 2, [35, 43]),
  .inl (2, [none, none, none, none, none, none, none, none, some 36, some 37, some 38, some 39, some 40, some 41, some 42]), .inr (0, 6, []), .inr (0, 6, []), .inr (0, 6, []), .inr (0, 5, []), .inr (0, 5, []), .inr (0, 5, []), .inr (0, 5, []),
  .inl (2, [none, none, none, none, none, none, none, none, some 44, some 45, some 46, some 47, some 48, some 49, some 50]), .inr (0, 6, []), .inr (0, 6, []), .inr (0, 6, []), .inr (0, 5, []), .inr (0, 5, []), .inr (0, 5, []), .inr (0, 5, []),
  .inl (8, [some 15, some 52, some 53, some 54, some 55, some 56, some 57, none]), .inr (0, 256, []), .inr (0, 256, []), .inr (0, 256, []), .inr (0, 256, []), .inr (0, 256, []), .inr (0, 256, []),
  .inl (3, [some 15, some 59, some 60, some 61, none, none, none]), .inr (0, 5, []), .inr (0, 5, []), .inr (0, 5, []),
  .inl (7, [some 15, some 63, some 64, none]), .inr (0, 12, []), .inr (0, 12, []),
  .inl (1, [some 15, some 66, none]), .inr (0, 16, []),
  .inl (10, [none, none, some 68, some 69, some 70, some 71, some 72, some 73, some 74, none, some 75, none, none, none, none, none, none, none, none, some 76, some 77, some 78, some 79, some 80, none, none, some 81, some 82, some 83, some 84, none]),
  .inr (0, 8, []), .inr (0, 8, []), .inr (0, 320, []), .inr (0, 46, []), .inr (0, 46, []), .inr (0, 46, []), .inr (0, 1104, []), .inr (0, 120, []), .inr (1, 256, []), .inr (1, 256, []), .inr (0, 256, []), .inr (0, 5, []), .inr (0, 5, []), .inr (0, 5, []), .inr (1, 2, []), .inr (0, 92, []), .inr (0, 16, [])]
def fdv (E : En) (μ : Mem) (j k : Nat) : Option Nat → Value
  | none => .int (μ j k)
  | some r => .ref (E.2.2.1 r)
def ent (E : En) (μ : Mem) (j : Nat) : Sd → va_E
  | .inl (ci, fds) => .inr (ci, fds.mapIdx (fun k o => fdv E μ j k o))
  | .inr (t, n, rs) => .inl (E.2.2.2 t, n, if t ≤ 1 then .inl (μ j) else .inr (.inr (.inr (.inr (fun i => (rs[i]?).map E.2.2.1)))))
def cells (E : En) (μ : Mem) : va_W := Sh.mapIdx (fun j d => (E.2.2.1 j, ent E μ j d))
theorem cells_at {E : En} {μ : Mem} {j : Nat} {d : Sd} (h : Sh[j]? = some d) : (cells E μ)[j]? = some (E.2.2.1 j, ent E μ j d) := by
  unfold cells; rw [List.getElem?_mapIdx, h]; rfl
theorem Sh_len : Sh.length = 85 := by decide +kernel
theorem cells_of {E : En} {μ : Mem} {j : Nat} {q : Nat × va_E} (h : (cells E μ)[j]? = some q) : j < 85 ∧ q.1 = E.2.2.1 j := by
  unfold cells at h
  rw [List.getElem?_mapIdx] at h
  cases hd : Sh[j]? with
  | none => rw [hd] at h; cases h
  | some d =>
    rw [hd] at h; cases h
    exact ⟨by rw [← Sh_len]; exact (List.getElem?_eq_some_iff.mp hd).1, rfl⟩
def Ad (E : En) : Nat → Prop := fun q => ∃ j, j < 85 ∧ q = E.2.2.1 j
def Inj (E : En) : Prop := ∀ i j, i < 85 → j < 85 → E.2.2.1 i = E.2.2.1 j → i = j
theorem cells_D {E : En} (hi : Inj E) (μ : Mem) : va_D (Ad E) (cells E μ) := by
  refine ⟨fun i j p q hp hq h => ?_, fun k q hq => ?_⟩
  · obtain ⟨h1, h2⟩ := cells_of hp
    obtain ⟨h3, h4⟩ := cells_of hq
    exact hi i j h1 h3 (by rw [← h2, ← h4, h])
  · obtain ⟨h1, h2⟩ := cells_of hq
    exact ⟨k, h1, h2⟩
abbrev tysE (E : En) : List (ClassId × FieldType) := [(E.2.2.2 0, .int), (E.2.2.2 1, .boolean), (E.2.2.2 2, .object "SleepingJudge$Court"), (E.2.2.2 3, .array .int)]
/-- one cell's numbers are others -/
def setc (μ : Mem) (j : Nat) (f : Nat → Int32) : Mem := fun a => if a = j then f else μ a
theorem setc_s {μ : Mem} {j : Nat} {f : Nat → Int32} : setc μ j f j = f := if_pos rfl
theorem setc_n {μ : Mem} {i j : Nat} {f : Nat → Int32} (h : i ≠ j) : setc μ j f i = μ i := if_neg h
theorem ent_n {E : En} {μ : Mem} {i j : Nat} {f : Nat → Int32} (h : i ≠ j) (d : Sd) : ent E (setc μ j f) i d = ent E μ i d := by
  rcases d with ⟨ci, fds⟩ | ⟨t, n, rs⟩
  · show Sum.inr _ = Sum.inr _
    congr 3
    funext k o
    cases o with
    | none => show Value.int (setc μ j f i k) = _; rw [setc_n h]; rfl
    | some r => rfl
  · show Sum.inl _ = Sum.inl _
    rw [setc_n h]
theorem cells_set {E : En} {μ : Mem} {j : Nat} {f : Nat → Int32} {d : Sd} (hs : Sh[j]? = some d) {e : va_E} (he : e = ent E (setc μ j f) j d) : (cells E μ).set j (E.2.2.1 j, e) = cells E (setc μ j f) := by
  apply List.ext_getElem?
  intro i
  by_cases h : i = j
  · subst h
    rw [List.getElem?_set_self (by unfold cells; rw [List.length_mapIdx]; exact (List.getElem?_eq_some_iff.mp hs).1), cells_at hs, he]
  · rw [List.getElem?_set_ne (Ne.symm h)]
    unfold cells
    rw [List.getElem?_mapIdx, List.getElem?_mapIdx]
    cases Sh[i]? with
    | none => rfl
    | some d => show some (E.2.2.1 i, ent E μ i d) = some (E.2.2.1 i, ent E (setc μ j f) i d); rw [ent_n h]
/-- the two static rows -/
def szB (k : Nat) : Int32 := match k with | 0 => 10 | 1 => 11 | 2 => 12 | 3 => 11 | 4 => 13 | _ => 14
def mkB (k : Nat) : Int32 := match k with | 0 => 20 | 1 => 21 | 2 => 24 | 3 => 22 | 4 => 23 | _ => 23
def Stat (E : En) (U : State) (H : Heap) : Prop :=
  (va_Z "SleepingJudge$Asking" "SIZE_BODIES" "[I" (.ref (E.2.2.1 85)) (Ad E) U H ∧ va_T .int (E.2.2.1 85) 6 (fun j => .int (szB j)) (Ad E) U H) ∧
  (va_Z "SleepingJudge$Asking" "MARK_BODIES" "[I" (.ref (E.2.2.1 86)) (Ad E) U H ∧ va_T .int (E.2.2.1 86) 6 (fun j => .int (mkB j)) (Ad E) U H)
theorem Stat.moved {E : En} {u U : State} {H : Heap} (hvm : u.vm.Alike U.vm) (h : Stat E u H) : Stat E U H :=
  ⟨⟨h.1.1.moved hvm, h.1.2.moved hvm⟩, ⟨h.2.1.moved hvm, h.2.2.moved hvm⟩⟩
theorem Stat.kept {E : En} {U : State} {H H1 : Heap} (h : Stat E U H) (hq : ∀ a : Nat, a < H.size → ¬ Ad E a → H1[a]? = H[a]?) : Stat E U H1 :=
  ⟨⟨h.1.1.kept hq, h.1.2.kept hq⟩, ⟨h.2.1.kept hq, h.2.2.kept hq⟩⟩
/-- the one call of a nest mate's private method -/
def NwP (U : State) : Prop := va_Nw (Cond.methodLinkNest RX2 108 yX9_power "SleepingJudge") U
def Wo (E : En) (μ : Mem) (U : State) : Prop := va_P (E.1, E.2.1) classes (cells E μ) U.heap ∧ va_K (E.1, E.2.1) classes (tysE E) U ∧ Inj E ∧ Stat E U U.heap ∧ NwP U
theorem Wo.at {E : En} {μ : Mem} {s U : State} {H : Heap} (hU : U.heap = H) (hP : va_P (E.1, E.2.1) classes (cells E μ) H) (hK : va_K (E.1, E.2.1) classes (tysE E) s) (hi : Inj E) (hs : Stat E s s.heap) (hn : NwP s) {locs : List Loc} (hS : va_S (Ad E) s.heap H locs) (hW : s.WarmedH U.vm) : Wo E μ U := by
  subst hU
  exact ⟨hP, hK.moved hW.alike, hi, (hs.kept hS.2.1).moved hW.alike, va_Nw.warmM hW hn⟩
theorem Wo.blind {E : En} {μ : Mem} {as : List Value} : FrameBlind (va_Pc as (Wo E μ)) := fun a U g mk q => by
  obtain ⟨q0, qP, qK, qi, qs, qn⟩ := q
  exact ⟨q0, qP, va_K.moved (u := U) (U := U.calling g mk a) (Vm.Alike.refl U.vm) qK, qi, Stat.moved (u := U) (U := U.calling g mk a) (Vm.Alike.refl U.vm) qs, va_Nw.same (u := U) (U := U.calling g mk a) rfl rfl qn⟩
/-- what a call leaves: the answer, the world, nothing else written -/
def QQ (E : En) (r : Option Vl) (μ' : Mem) : Array Value → State → Outcome → State → Prop := fun _ st oc t => oc = .returned (r.map (dv E)) ∧ Wo E μ' t ∧ va_F (Ad E) st t
def rmD (d : Nat) : Room := { frames := d + 1, cells := 0, slots := 0, locals := 256 * (d + 1) }
/-- method y, called with as in the memory μ, answers r and leaves μ' -/
def Ct (y : MethodName) (b : ByteArray) (n : Nat) (ret : Option FieldType) (d : Nat) (as : List Vl) (μ : Mem) (r : Option Vl) (μ' : Mem) : Prop :=
  ∀ (l : Launch) (E : En), Met l y (Cond.code y b n ret :: gw_tbl) (rmD d) (va_Pc (as.map (dv E)) (Wo E μ)) (QQ E r μ') 0 0 (Ad E)
/-! ===== the walk ===== -/
abbrev Cx : Type := Program × Launch × Env × Room × State × MethodId × Array Value × List Frame × Method × Code × (State → Prop) × (Nat × Nat) × En
def dl (E : En) (lv : List (Nat × Vl)) : List (Nat × Value) := lv.map (fun q => (q.1, dv E q.2))
def V (C : Cx) (pc : Nat) (lv : List (Nat × Vl)) (st : List Vl) (μ : Mem) : Prop :=
  match C with
  | (p, l, e, R, s, m, args, below, meth, c, Q, kn, E) => ∀ (H : Heap) (locs : List Loc) (ls : Array Slot), va_P (E.1, E.2.1) classes (cells E μ) H → va_S (Ad E) s.heap H locs → lv_has ls c.maxLocals (dl E lv) → W p l e R s m args below meth c H locs kn.1 kn.2 Q (F0 m pc ls (st.map (dv E)))
def G (C : Cx) (own : String) (b : ByteArray) (nL d : Nat) : Prop :=
  match C with
  | (p, _, _, R, s, m, args, _, meth, c, _, kn, E) => p.tables.exec = Jvm.exec ∧ c.code = b ∧ c.maxLocals = nL ∧ s.vm.findClass own = some m.cls ∧ (∀ w ∈ gw_tbl, w.before args s = true) ∧ va_K (E.1, E.2.1) classes (tysE E) s ∧ Inj E ∧ Stat E s s.heap ∧ NwP s ∧ (d + 1 ≤ R.frames ∧ 256 * (d + 1) ≤ R.locals) ∧ (kn.1 ≤ R.cells ∧ kn.2 ≤ R.slots) ∧ meth.locks = false
def Rt (C : Cx) (ret : Option FieldType) (r : Option Vl) (μ' : Mem) : Prop :=
  match C with
  | (_, _, _, _, s, _, args, below, meth, _, Q, kn, E) => meth.sig.returnType = ret ∧ kn = (0, 0) ∧ Q = MQ below (QQ E r μ') args s 0 0 (Ad E)
def largs : Nat → List Vl → List (Nat × Vl)
  | _, [] => []
  | i, (.inr (.inl x)) :: r => (i, vL x) :: largs (i + 2) r
  | i, (.inl x) :: r => (i, vI x) :: largs (i + 1) r
  | i, (.inr (.inr j)) :: r => (i, vR j) :: largs (i + 1) r
def cat : Vl → Nat
  | .inr (.inl _) => 2
  | _ => 1
theorem cat_eq (E : En) (v : Vl) : (dv E v).category = cat v := by rcases v with x | x | x <;> rfl
theorem largs_eq (E : En) : ∀ (as : List Vl) (i : Nat), dl E (largs i as) = lv_args i (as.map (dv E))
  | [], _ => rfl
  | (.inl x) :: r, i => by
    show (i, Value.int x) :: dl E (largs (i + 1) r) = (i, Value.int x) :: lv_args (i + 1) (r.map (dv E))
    rw [largs_eq E r]
  | (.inr (.inl x)) :: r, i => by
    show (i, Value.long x) :: dl E (largs (i + 2) r) = (i, Value.long x) :: lv_args (i + 2) (r.map (dv E))
    rw [largs_eq E r]
  | (.inr (.inr j)) :: r, i => by
    show (i, Value.ref (E.2.2.1 j)) :: dl E (largs (i + 1) r) = (i, Value.ref (E.2.2.1 j)) :: lv_args (i + 1) (r.map (dv E))
    rw [largs_eq E r]
theorem sl_len (E : En) : ∀ (as : List Vl), (lg_sl (as.map (dv E))).length = (as.map cat).sum
  | [] => rfl
  | (.inl x) :: r => by
    have := sl_len E r
    simp [lg_sl, dv, Value.category, cat] at this ⊢
    omega
  | (.inr (.inl x)) :: r => by
    have := sl_len E r
    simp [lg_sl, dv, Value.category, cat] at this ⊢
    omega
  | (.inr (.inr j)) :: r => by
    have := sl_len E r
    simp [lg_sl, dv, Value.category, cat] at this ⊢
    omega
theorem Ct.intro {y : MethodName} {b : ByteArray} {n : Nat} {ret : Option FieldType} {d : Nat} {as : List Vl} {μ : Mem} {r : Option Vl} {μ' : Mem} (hy : plainName y.cls = true) (hn : (as.map cat).sum ≤ n)
    (body : ∀ C : Cx, G C y.cls b n d → Rt C ret r μ' → V C 0 (largs 0 as) [] μ) : Ct y b n ret d as μ r μ' := by
  intro l E
  refine Met.ofW (cc := b) (maxL := n) (ret := ret) hy rfl ?_
  intro p e s m args below meth c s₁ B hml hv
  obtain ⟨rfl, hP, hK, hi, hst, hnw⟩ := hv
  have hts := atoms_spec (ws := Cond.code y b n ret :: gw_tbl) B.pre
  have hown : s.vm.findClass y.cls = some m.cls := findClass_of_methodNamed B.named
  have hl := lv_entry (as.map (dv E)) (n := n) (by rw [sl_len]; exact hn)
  rw [lg_entry_eq]
  generalize (lg_sl (as.map (dv E)) ++ List.replicate (n - (lg_sl (as.map (dv E))).length) Slot.unset).toArray = ls at hl ⊢
  exact body (p, l, e, (headSpec (Cond.code y b n ret :: gw_tbl) (rmD d)).room, s, m, (as.map (dv E)).toArray, below, meth, c, MQ below (QQ E r μ') (as.map (dv E)).toArray s 0 0 (Ad E), (0, 0), E)
    ⟨B.exec, B.bytes, hml, hown, fun w hw => hts w (List.mem_cons_of_mem _ hw), hK, hi, hst, hnw, ⟨Nat.le_refl _, Nat.le_refl _⟩, ⟨Nat.zero_le _, Nat.zero_le _⟩, B.notSynchronized⟩ ⟨B.returns, rfl, rfl⟩ s.heap [] ls hP va_S.rf (by rw [hml, largs_eq]; exact hl)
