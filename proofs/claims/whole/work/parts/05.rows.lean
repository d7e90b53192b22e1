/-! ===== locals ===== -/
def lget : List (Nat × Vl) → Nat → Option Vl
  | [], _ => none
  | q :: r, i => cond (Nat.beq q.1 i) (some q.2) (lget r i)
def lins : List (Nat × Vl) → Nat → Vl → List (Nat × Vl)
  | [], i, v => [(i, v)]
  | q :: r, i, v => cond (Nat.ble i q.1) ((i, v) :: q :: r) (q :: lins r i v)
def lsto (lv : List (Nat × Vl)) (i : Nat) (v : Vl) : List (Nat × Vl) := lins (lv.filter (fun q => !(q.1 == i) && !(q.1 + 1 == i && cat q.2 == 2))) i v
def lsto2 (lv : List (Nat × Vl)) (i : Nat) (v : Vl) : List (Nat × Vl) := lins (lv.filter (fun q => !(q.1 == i) && (!(q.1 == i + 1) && !(q.1 + 1 == i && cat q.2 == 2)))) i v
theorem lget_mem : ∀ {lv : List (Nat × Vl)} {i : Nat} {v : Vl}, lget lv i = some v → (i, v) ∈ lv
  | [], i, v, h => by cases h
  | (j, w) :: r, i, v, h => by
    unfold lget at h
    cases hb : Nat.beq j i with
    | true =>
      rw [hb] at h
      have hj : j = i := Nat.eq_of_beq_eq_true hb
      subst hj
      cases h
      exact List.mem_cons_self
    | false =>
      rw [hb] at h
      exact List.mem_cons_of_mem _ (lget_mem h)
theorem lget_k {E : En} {lv : List (Nat × Vl)} {i : Nat} {v : Vl} (h : lget lv i = some v) : ∃ k : Nat, (dl E lv)[k]? = some (i, dv E v) := by
  obtain ⟨k, hk⟩ := List.getElem?_of_mem (lget_mem h)
  exact ⟨k, by unfold dl; rw [List.getElem?_map, hk]; rfl⟩
theorem lget_at {E : En} {ls : Array Slot} {nL : Nat} {lv : List (Nat × Vl)} {i : Nat} {v : Vl} (hl : lv_has ls nL (dl E lv)) (h : lget lv i = some v) : ls[i]? = some (.val (dv E v)) := by
  obtain ⟨k, hk⟩ := lget_k (E := E) h
  exact lv_at hl k hk
theorem lv_mono {ls : Array Slot} {nL : Nat} {l l' : List (Nat × Value)} (h : lv_has ls nL l) (hs : ∀ q ∈ l', q ∈ l) : lv_has ls nL l' := ⟨h.1, h.2.1, fun q hq => h.2.2 q (hs q hq)⟩
theorem lins_mem : ∀ {lv : List (Nat × Vl)} {i : Nat} {v : Vl} {q : Nat × Vl}, q ∈ lins lv i v → q = (i, v) ∨ q ∈ lv
  | [], i, v, q, h => Or.inl (List.mem_singleton.mp h)
  | a :: r, i, v, q, h => by
    unfold lins at h
    cases hb : Nat.ble i a.1 with
    | true => rw [hb] at h; exact List.mem_cons.mp h
    | false =>
      rw [hb] at h
      rcases List.mem_cons.mp h with h | h
      · exact Or.inr (h ▸ List.mem_cons_self)
      · exact (lins_mem h).imp id (List.mem_cons_of_mem _)
theorem lsto_sub {E : En} {ls : Array Slot} {nL : Nat} {lv : List (Nat × Vl)} {i : Nat} {v : Vl} (h : lv_has ls nL ((i, dv E v) :: (dl E lv).filter (fun q => !(q.1 == i) && !(q.1 + 1 == i && q.2.category == 2)))) : lv_has ls nL (dl E (lsto lv i v)) := by
  refine lv_mono h (fun q hq => ?_)
  obtain ⟨q0, h1, rfl⟩ := List.mem_map.mp hq
  rcases lins_mem h1 with rfl | h2
  · exact List.mem_cons_self
  · obtain ⟨h3, h4⟩ := List.mem_filter.mp h2
    refine List.mem_cons_of_mem _ (List.mem_filter.mpr ⟨List.mem_map.mpr ⟨q0, h3, rfl⟩, ?_⟩)
    show (!(q0.1 == i) && !(q0.1 + 1 == i && (dv E q0.2).category == 2)) = true
    rw [cat_eq]
    exact h4
theorem lsto2_sub {E : En} {ls : Array Slot} {nL : Nat} {lv : List (Nat × Vl)} {i : Nat} {v : Vl} (h : lv_has ls nL ((i, dv E v) :: (dl E lv).filter (fun q => !(q.1 == i) && (!(q.1 == i + 1) && !(q.1 + 1 == i && q.2.category == 2))))) : lv_has ls nL (dl E (lsto2 lv i v)) := by
  refine lv_mono h (fun q hq => ?_)
  obtain ⟨q0, h1, rfl⟩ := List.mem_map.mp hq
  rcases lins_mem h1 with rfl | h2
  · exact List.mem_cons_self
  · obtain ⟨h3, h4⟩ := List.mem_filter.mp h2
    refine List.mem_cons_of_mem _ (List.mem_filter.mpr ⟨List.mem_map.mpr ⟨q0, h3, rfl⟩, ?_⟩)
    show (!(q0.1 == i) && (!(q0.1 == i + 1) && !(q0.1 + 1 == i && (dv E q0.2).category == 2))) = true
    rw [cat_eq]
    exact h4
theorem cat_sum (E : En) (st : List Vl) : ((st.map (dv E)).map fun v => v.category).sum = (st.map cat).sum := by
  congr 1
  rw [List.map_map]
  exact List.map_congr_left (fun v _ => cat_eq E v)
theorem gw_ok {y : MethodName} {b : ByteArray} {n : Nat} {ret : Option FieldType} (h : Cond.code y b n ret ∈ gw_tbl) : GoodIn gw_tbl (Cond.code y b n ret :: gw_tbl) := fun w hw => by
  rcases List.mem_cons.mp hw with rfl | hw
  · exact ⟨h, good_of_word (gw_good h)⟩
  · exact ⟨hw, good_of_word (gw_good hw)⟩
theorem cls_in {ci : Nat} {Cn : String} {T : u_T} {N : Nat} (h : classes[ci]? = some (Cn, T, N)) : ∀ w ∈ u_ws Cn T N, w ∈ gw_tbl := by
  match ci, h with
  | 0, h => cases h; exact inX0
  | 1, h => cases h; exact inX1
  | 2, h => cases h; exact inX2
  | 3, h => cases h; exact inX3
  | 4, h => cases h; exact inX4
  | 5, h => cases h; exact inX5
  | 6, h => cases h; exact inX6
  | 7, h => cases h; exact inX7
  | 8, h => cases h; exact inX8
  | 9, h => cases h; exact inX9
  | 10, h => cases h; exact inX10
  | n + 11, h => simp [classes] at h
/-- an int field that isn't final -/
def fldI (ci k : Nat) : Bool := match classes[ci]? with
  | some q => decide ((q.2.1 k).2.2.1 = "I") && !(q.2.1 k).2.2.2
  | none => false
theorem cls_ty {ci : Nat} {Cn : String} {T : u_T} {N : Nat} (h : classes[ci]? = some (Cn, T, N)) : ∃ ty0 : Nat → FieldType, (∀ k, k < N → parseFieldDescriptor (T k).2.2.1 = some (ty0 k)) ∧ (∀ a, a < N → ∀ b, b < N → a ≠ b → (T a).2.1 ≠ (T b).2.1) := by
  match ci, h with
  | 0, h => cases h; exact ⟨_, tyX0_ok, nmX0⟩
  | 1, h => cases h; exact ⟨_, tyX1_ok, nmX1⟩
  | 2, h => cases h; exact ⟨_, tyX2_ok, nmX2⟩
  | 3, h => cases h; exact ⟨_, tyX3_ok, nmX3⟩
  | 4, h => cases h; exact ⟨_, tyX4_ok, nmX4⟩
  | 5, h => cases h; exact ⟨_, tyX5_ok, nmX5⟩
  | 6, h => cases h; exact ⟨_, tyX6_ok, nmX6⟩
  | 7, h => cases h; exact ⟨_, tyX7_ok, nmX7⟩
  | 8, h => cases h; exact ⟨_, tyX8_ok, nmX8⟩
  | 9, h => cases h; exact ⟨_, tyX9_ok, nmX9⟩
  | 10, h => cases h; exact ⟨_, tyX10_ok, nmX10⟩
  | n + 11, h => simp [classes] at h
theorem fldI_spec {ci k : Nat} {Cn : String} {T : u_T} {N : Nat} (h : classes[ci]? = some (Cn, T, N)) (hi : fldI ci k = true) (hk : k < N) : ∃ ty0 : Nat → FieldType, (∀ k, k < N → parseFieldDescriptor (T k).2.2.1 = some (ty0 k)) ∧ (∀ a, a < N → ∀ b, b < N → a ≠ b → (T a).2.1 ≠ (T b).2.1) ∧ (T k).2.2.2 = false ∧ parseFieldDescriptor (T k).2.2.1 = some .int := by
  obtain ⟨ty0, h1, h2⟩ := cls_ty h
  unfold fldI at hi
  rw [h] at hi
  simp only [Bool.and_eq_true, decide_eq_true_eq, Bool.not_eq_true'] at hi
  exact ⟨ty0, h1, h2, hi.2, by rw [hi.1]; decide +kernel⟩
theorem ent_put {E : En} {μ : Mem} {j ci k : Nat} {fds : List (Option Nat)} {x : Int32} (hk : fds[k]? = some none) : (Sum.inr (ci, (fds.mapIdx (fun k o => fdv E μ j k o)).set k (.int x)) : va_E) = ent E (setc μ j (upd (μ j) k x)) j (.inl (ci, fds)) := by
  show Sum.inr (ci, _) = Sum.inr (ci, _)
  congr 2
  apply List.ext_getElem?
  intro i
  by_cases h : i = k
  · subst h
    rw [List.getElem?_set_self (by rw [List.length_mapIdx]; exact (List.getElem?_eq_some_iff.mp hk).1), List.getElem?_mapIdx, hk]
    show some (Value.int x) = some (Value.int (setc μ j (upd (μ j) i x) j i))
    rw [setc_s, pk_us]
  · rw [List.getElem?_set_ne (Ne.symm h), List.getElem?_mapIdx, List.getElem?_mapIdx]
    cases fds[i]? with
    | none => rfl
    | some o =>
      cases o with
      | none => show some (Value.int _) = some (Value.int (setc μ j (upd (μ j) k x) j i)); rw [setc_s, pk_un h]
      | some r => rfl
theorem ent_arr {E : En} {μ : Mem} {j t n : Nat} {f : Nat → Int32} (ht : t ≤ 1) : (Sum.inl (E.2.2.2 t, n, .inl f) : va_E) = ent E (setc μ j f) j (.inr (t, n, [])) := by
  show _ = Sum.inl (E.2.2.2 t, n, if t ≤ 1 then Sum.inl (setc μ j f j) else _)
  rw [if_pos ht, setc_s]
theorem acopy_nat : Cond.native arraycopyName ∈ gw_tbl := tb 388 (by decide +kernel)
theorem acopy_st : Cond.static arraycopyName ∈ gw_tbl := tb 387 (by decide +kernel)
/-! ===== the rows ===== -/
theorem V_iconst {C : Cx} {own : String} {b : ByteArray} {nL d pc : Nat} {lv : List (Nat × Vl)} {st : List Vl} {μ : Mem} {n : Int} {v : Int32} (g : G C own b nL d) (hd : decode b pc = .ok (.iconst n, 1)) (hv : Int32.ofInt n = v) (k : V C (pc + 1) lv (vI v :: st) μ) : V C pc lv (st) μ := by
  obtain ⟨p, l, e, R, s, m, args, below, meth, c, Q, kn, E⟩ := C
  obtain ⟨hx, hb, hml, hown, hts, hK, hi, hst, hnw, hrm, hcs, hlk⟩ := id g
  intro H locs ls hP hS hl
  exact lv_iconst hx hb hd hv (k H locs ls hP hS hl)
theorem V_bipush {C : Cx} {own : String} {b : ByteArray} {nL d pc : Nat} {lv : List (Nat × Vl)} {st : List Vl} {μ : Mem} {n : Int} {v : Int32} (g : G C own b nL d) (hd : decode b pc = .ok (.bipush n, 2)) (hv : (Int8.ofInt n).toInt32 = v) (k : V C (pc + 2) lv (vI v :: st) μ) : V C pc lv (st) μ := by
  obtain ⟨p, l, e, R, s, m, args, below, meth, c, Q, kn, E⟩ := C
  obtain ⟨hx, hb, hml, hown, hts, hK, hi, hst, hnw, hrm, hcs, hlk⟩ := id g
  intro H locs ls hP hS hl
  exact lv_bipush hx hb hd hv (k H locs ls hP hS hl)
theorem V_sipush {C : Cx} {own : String} {b : ByteArray} {nL d pc : Nat} {lv : List (Nat × Vl)} {st : List Vl} {μ : Mem} {n : Int} {v : Int32} (g : G C own b nL d) (hd : decode b pc = .ok (.sipush n, 3)) (hv : (Int16.ofInt n).toInt32 = v) (k : V C (pc + 3) lv (vI v :: st) μ) : V C pc lv (st) μ := by
  obtain ⟨p, l, e, R, s, m, args, below, meth, c, Q, kn, E⟩ := C
  obtain ⟨hx, hb, hml, hown, hts, hK, hi, hst, hnw, hrm, hcs, hlk⟩ := id g
  intro H locs ls hP hS hl
  exact lv_sipush hx hb hd hv (k H locs ls hP hS hl)
theorem V_lconst {C : Cx} {own : String} {b : ByteArray} {nL d pc : Nat} {lv : List (Nat × Vl)} {st : List Vl} {μ : Mem} {n : Fin 2} {v : Int64} (g : G C own b nL d) (hd : decode b pc = .ok (.lconst n, 1)) (hv : Int64.ofNat (n : Nat) = v) (k : V C (pc + 1) lv (vL v :: st) μ) : V C pc lv (st) μ := by
  obtain ⟨p, l, e, R, s, m, args, below, meth, c, Q, kn, E⟩ := C
  obtain ⟨hx, hb, hml, hown, hts, hK, hi, hst, hnw, hrm, hcs, hlk⟩ := id g
  intro H locs ls hP hS hl
  exact lv_lconst hx hb hd hv (k H locs ls hP hS hl)
theorem V_ldc {C : Cx} {own : String} {b : ByteArray} {nL d pc : Nat} {lv : List (Nat × Vl)} {st : List Vl} {μ : Mem} {i : Nat} {v : Int32} (g : G C own b nL d) (hd : decode b pc = .ok (.ldc i, 2)) (hc : Cond.constant own i v ∈ gw_tbl) (k : V C (pc + 2) lv (vI v :: st) μ) : V C pc lv (st) μ := by
  obtain ⟨p, l, e, R, s, m, args, below, meth, c, Q, kn, E⟩ := C
  obtain ⟨hx, hb, hml, hown, hts, hK, hi, hst, hnw, hrm, hcs, hlk⟩ := id g
  intro H locs ls hP hS hl
  exact lv_ldc hx hb hown (hts _ hc) hd (k H locs ls hP hS hl)
theorem V_ldc_w {C : Cx} {own : String} {b : ByteArray} {nL d pc : Nat} {lv : List (Nat × Vl)} {st : List Vl} {μ : Mem} {i : Nat} {v : Int32} (g : G C own b nL d) (hd : decode b pc = .ok (.ldc_w i, 3)) (hc : Cond.constant own i v ∈ gw_tbl) (k : V C (pc + 3) lv (vI v :: st) μ) : V C pc lv (st) μ := by
  obtain ⟨p, l, e, R, s, m, args, below, meth, c, Q, kn, E⟩ := C
  obtain ⟨hx, hb, hml, hown, hts, hK, hi, hst, hnw, hrm, hcs, hlk⟩ := id g
  intro H locs ls hP hS hl
  exact lv_ldcw hx hb hown (hts _ hc) hd (k H locs ls hP hS hl)
theorem V_ldc2_w {C : Cx} {own : String} {b : ByteArray} {nL d pc : Nat} {lv : List (Nat × Vl)} {st : List Vl} {μ : Mem} {i : Nat} {v : Int64} (g : G C own b nL d) (hd : decode b pc = .ok (.ldc2_w i, 3)) (hc : Cond.constantLong own i v ∈ gw_tbl) (k : V C (pc + 3) lv (vL v :: st) μ) : V C pc lv (st) μ := by
  obtain ⟨p, l, e, R, s, m, args, below, meth, c, Q, kn, E⟩ := C
  obtain ⟨hx, hb, hml, hown, hts, hK, hi, hst, hnw, hrm, hcs, hlk⟩ := id g
  intro H locs ls hP hS hl
  exact lv_ldc2 hx hb hown (hts _ hc) hd (k H locs ls hP hS hl)
theorem V_iload_n {C : Cx} {own : String} {b : ByteArray} {nL d pc : Nat} {lv : List (Nat × Vl)} {st : List Vl} {μ : Mem} {i : Fin 4} {x : Int32} (g : G C own b nL d) (hd : decode b pc = .ok (.iload_n i, 1)) (h : lget lv i = some (vI x)) (k : V C (pc + 1) lv (vI x :: st) μ) : V C pc lv (st) μ := by
  obtain ⟨p, l, e, R, s, m, args, below, meth, c, Q, kn, E⟩ := C
  obtain ⟨hx, hb, hml, hown, hts, hK, hi, hst, hnw, hrm, hcs, hlk⟩ := id g
  intro H locs ls hP hS hl
  exact lv_iload_n hx hb hd rfl (lget_at hl h) (k H locs ls hP hS hl)
theorem V_iload {C : Cx} {own : String} {b : ByteArray} {nL d pc : Nat} {lv : List (Nat × Vl)} {st : List Vl} {μ : Mem} {i : Nat} {x : Int32} (g : G C own b nL d) (hd : decode b pc = .ok (.iload i, 2)) (h : lget lv i = some (vI x)) (k : V C (pc + 2) lv (vI x :: st) μ) : V C pc lv (st) μ := by
  obtain ⟨p, l, e, R, s, m, args, below, meth, c, Q, kn, E⟩ := C
  obtain ⟨hx, hb, hml, hown, hts, hK, hi, hst, hnw, hrm, hcs, hlk⟩ := id g
  intro H locs ls hP hS hl
  exact lv_iload hx hb hd (lget_at hl h) (k H locs ls hP hS hl)
theorem V_lload_n {C : Cx} {own : String} {b : ByteArray} {nL d pc : Nat} {lv : List (Nat × Vl)} {st : List Vl} {μ : Mem} {i : Fin 4} {x : Int64} (g : G C own b nL d) (hd : decode b pc = .ok (.lload_n i, 1)) (h : lget lv i = some (vL x)) (k : V C (pc + 1) lv (vL x :: st) μ) : V C pc lv (st) μ := by
  obtain ⟨p, l, e, R, s, m, args, below, meth, c, Q, kn, E⟩ := C
  obtain ⟨hx, hb, hml, hown, hts, hK, hi, hst, hnw, hrm, hcs, hlk⟩ := id g
  intro H locs ls hP hS hl
  exact lv_lload_n hx hb hd rfl (lget_at hl h) (k H locs ls hP hS hl)
theorem V_lload {C : Cx} {own : String} {b : ByteArray} {nL d pc : Nat} {lv : List (Nat × Vl)} {st : List Vl} {μ : Mem} {i : Nat} {x : Int64} (g : G C own b nL d) (hd : decode b pc = .ok (.lload i, 2)) (h : lget lv i = some (vL x)) (k : V C (pc + 2) lv (vL x :: st) μ) : V C pc lv (st) μ := by
  obtain ⟨p, l, e, R, s, m, args, below, meth, c, Q, kn, E⟩ := C
  obtain ⟨hx, hb, hml, hown, hts, hK, hi, hst, hnw, hrm, hcs, hlk⟩ := id g
  intro H locs ls hP hS hl
  exact lv_lload hx hb hd (lget_at hl h) (k H locs ls hP hS hl)
theorem V_aload_n {C : Cx} {own : String} {b : ByteArray} {nL d pc : Nat} {lv : List (Nat × Vl)} {st : List Vl} {μ : Mem} {i : Fin 4} {x : Nat} (g : G C own b nL d) (hd : decode b pc = .ok (.aload_n i, 1)) (h : lget lv i = some (vR x)) (k : V C (pc + 1) lv (vR x :: st) μ) : V C pc lv (st) μ := by
  obtain ⟨p, l, e, R, s, m, args, below, meth, c, Q, kn, E⟩ := C
  obtain ⟨hx, hb, hml, hown, hts, hK, hi, hst, hnw, hrm, hcs, hlk⟩ := id g
  intro H locs ls hP hS hl
  exact lv_aload_n hx hb hd rfl (lget_at hl h) (k H locs ls hP hS hl)
theorem V_aload {C : Cx} {own : String} {b : ByteArray} {nL d pc : Nat} {lv : List (Nat × Vl)} {st : List Vl} {μ : Mem} {i : Nat} {x : Nat} (g : G C own b nL d) (hd : decode b pc = .ok (.aload i, 2)) (h : lget lv i = some (vR x)) (k : V C (pc + 2) lv (vR x :: st) μ) : V C pc lv (st) μ := by
  obtain ⟨p, l, e, R, s, m, args, below, meth, c, Q, kn, E⟩ := C
  obtain ⟨hx, hb, hml, hown, hts, hK, hi, hst, hnw, hrm, hcs, hlk⟩ := id g
  intro H locs ls hP hS hl
  exact lv_aload hx hb hd (lget_at hl h) (k H locs ls hP hS hl)
theorem V_istore_n {C : Cx} {own : String} {b : ByteArray} {nL d pc : Nat} {lv : List (Nat × Vl)} {st : List Vl} {μ : Mem} {i : Fin 4} {x : Int32} {lv' : List (Nat × Vl)} (g : G C own b nL d) (hd : decode b pc = .ok (.istore_n i, 1)) (hn : (i : Nat) < nL) (hv : lsto lv i (vI x) = lv') (k : V C (pc + 1) lv' st μ) : V C pc lv (vI x :: st) μ := by
  obtain ⟨p, l, e, R, s, m, args, below, meth, c, Q, kn, E⟩ := C
  obtain ⟨hx, hb, hml, hown, hts, hK, hi, hst, hnw, hrm, hcs, hlk⟩ := id g
  intro H locs ls hP hS hl
  exact lv_istore_n hx hb hd rfl hl (by rw [hml]; exact hn) rfl (fun ls hl => k H locs ls hP hS (hv ▸ lsto_sub hl))
theorem V_istore {C : Cx} {own : String} {b : ByteArray} {nL d pc : Nat} {lv : List (Nat × Vl)} {st : List Vl} {μ : Mem} {i : Nat} {x : Int32} {lv' : List (Nat × Vl)} (g : G C own b nL d) (hd : decode b pc = .ok (.istore i, 2)) (hn : (i : Nat) < nL) (hv : lsto lv i (vI x) = lv') (k : V C (pc + 2) lv' st μ) : V C pc lv (vI x :: st) μ := by
  obtain ⟨p, l, e, R, s, m, args, below, meth, c, Q, kn, E⟩ := C
  obtain ⟨hx, hb, hml, hown, hts, hK, hi, hst, hnw, hrm, hcs, hlk⟩ := id g
  intro H locs ls hP hS hl
  exact lv_istore hx hb hd hl (by rw [hml]; exact hn) rfl (fun ls hl => k H locs ls hP hS (hv ▸ lsto_sub hl))
theorem V_lstore_n {C : Cx} {own : String} {b : ByteArray} {nL d pc : Nat} {lv : List (Nat × Vl)} {st : List Vl} {μ : Mem} {i : Fin 4} {x : Int64} {lv' : List (Nat × Vl)} (g : G C own b nL d) (hd : decode b pc = .ok (.lstore_n i, 1)) (hn : (i + 1 : Nat) < nL) (hv : lsto2 lv i (vL x) = lv') (k : V C (pc + 1) lv' st μ) : V C pc lv (vL x :: st) μ := by
  obtain ⟨p, l, e, R, s, m, args, below, meth, c, Q, kn, E⟩ := C
  obtain ⟨hx, hb, hml, hown, hts, hK, hi, hst, hnw, hrm, hcs, hlk⟩ := id g
  intro H locs ls hP hS hl
  exact lv_lstore_n hx hb hd rfl hl (by rw [hml]; exact hn) rfl (fun ls hl => k H locs ls hP hS (hv ▸ lsto2_sub hl))
theorem V_lstore {C : Cx} {own : String} {b : ByteArray} {nL d pc : Nat} {lv : List (Nat × Vl)} {st : List Vl} {μ : Mem} {i : Nat} {x : Int64} {lv' : List (Nat × Vl)} (g : G C own b nL d) (hd : decode b pc = .ok (.lstore i, 2)) (hn : (i + 1 : Nat) < nL) (hv : lsto2 lv i (vL x) = lv') (k : V C (pc + 2) lv' st μ) : V C pc lv (vL x :: st) μ := by
  obtain ⟨p, l, e, R, s, m, args, below, meth, c, Q, kn, E⟩ := C
  obtain ⟨hx, hb, hml, hown, hts, hK, hi, hst, hnw, hrm, hcs, hlk⟩ := id g
  intro H locs ls hP hS hl
  exact lv_lstore hx hb hd hl (by rw [hml]; exact hn) rfl (fun ls hl => k H locs ls hP hS (hv ▸ lsto2_sub hl))
theorem V_astore_n {C : Cx} {own : String} {b : ByteArray} {nL d pc : Nat} {lv : List (Nat × Vl)} {st : List Vl} {μ : Mem} {i : Fin 4} {x : Nat} {lv' : List (Nat × Vl)} (g : G C own b nL d) (hd : decode b pc = .ok (.astore_n i, 1)) (hn : (i : Nat) < nL) (hv : lsto lv i (vR x) = lv') (k : V C (pc + 1) lv' st μ) : V C pc lv (vR x :: st) μ := by
  obtain ⟨p, l, e, R, s, m, args, below, meth, c, Q, kn, E⟩ := C
  obtain ⟨hx, hb, hml, hown, hts, hK, hi, hst, hnw, hrm, hcs, hlk⟩ := id g
  intro H locs ls hP hS hl
  exact lv_astore_n hx hb hd rfl hl (by rw [hml]; exact hn) rfl (fun ls hl => k H locs ls hP hS (hv ▸ lsto_sub hl))
theorem V_astore {C : Cx} {own : String} {b : ByteArray} {nL d pc : Nat} {lv : List (Nat × Vl)} {st : List Vl} {μ : Mem} {i : Nat} {x : Nat} {lv' : List (Nat × Vl)} (g : G C own b nL d) (hd : decode b pc = .ok (.astore i, 2)) (hn : (i : Nat) < nL) (hv : lsto lv i (vR x) = lv') (k : V C (pc + 2) lv' st μ) : V C pc lv (vR x :: st) μ := by
  obtain ⟨p, l, e, R, s, m, args, below, meth, c, Q, kn, E⟩ := C
  obtain ⟨hx, hb, hml, hown, hts, hK, hi, hst, hnw, hrm, hcs, hlk⟩ := id g
  intro H locs ls hP hS hl
  exact lv_astore hx hb hd hl (by rw [hml]; exact hn) rfl (fun ls hl => k H locs ls hP hS (hv ▸ lsto_sub hl))
theorem V_iinc {C : Cx} {own : String} {b : ByteArray} {nL d pc : Nat} {lv : List (Nat × Vl)} {st : List Vl} {μ : Mem} {i : Nat} {n : Int} {x v : Int32} {lv' : List (Nat × Vl)} (g : G C own b nL d) (hd : decode b pc = .ok (.iinc i n, 3)) (h : lget lv i = some (vI x)) (he : x + Int32.ofInt n = v) (hn : i < nL) (hv : lsto lv i (vI v) = lv') (k : V C (pc + 3) lv' st μ) : V C pc lv (st) μ := by
  obtain ⟨p, l, e, R, s, m, args, below, meth, c, Q, kn, E⟩ := C
  obtain ⟨hx, hb, hml, hown, hts, hK, hi, hst, hnw, hrm, hcs, hlk⟩ := id g
  intro H locs ls hP hS hl
  obtain ⟨q, hq⟩ := lget_k (E := E) h
  exact lv_iinc hx hb hd hl hq he (by rw [hml]; exact hn) rfl (fun ls hl => k H locs ls hP hS (hv ▸ lsto_sub hl))
theorem V_iadd {C : Cx} {own : String} {b : ByteArray} {nL d pc : Nat} {lv : List (Nat × Vl)} {st : List Vl} {μ : Mem} {x y : Int32} (g : G C own b nL d) (hd : decode b pc = .ok (.iadd, 1)) (k : V C (pc + 1) lv (vI (x + y) :: st) μ) : V C pc lv (vI y :: vI x :: st) μ := by
  obtain ⟨p, l, e, R, s, m, args, below, meth, c, Q, kn, E⟩ := C
  obtain ⟨hx, hb, hml, hown, hts, hK, hi, hst, hnw, hrm, hcs, hlk⟩ := id g
  intro H locs ls hP hS hl
  exact lv_iadd hx hb hd (k H locs ls hP hS hl)
theorem V_isub {C : Cx} {own : String} {b : ByteArray} {nL d pc : Nat} {lv : List (Nat × Vl)} {st : List Vl} {μ : Mem} {x y : Int32} (g : G C own b nL d) (hd : decode b pc = .ok (.isub, 1)) (k : V C (pc + 1) lv (vI (x - y) :: st) μ) : V C pc lv (vI y :: vI x :: st) μ := by
  obtain ⟨p, l, e, R, s, m, args, below, meth, c, Q, kn, E⟩ := C
  obtain ⟨hx, hb, hml, hown, hts, hK, hi, hst, hnw, hrm, hcs, hlk⟩ := id g
  intro H locs ls hP hS hl
  exact lv_isub hx hb hd (k H locs ls hP hS hl)
theorem V_imul {C : Cx} {own : String} {b : ByteArray} {nL d pc : Nat} {lv : List (Nat × Vl)} {st : List Vl} {μ : Mem} {x y : Int32} (g : G C own b nL d) (hd : decode b pc = .ok (.imul, 1)) (k : V C (pc + 1) lv (vI (x * y) :: st) μ) : V C pc lv (vI y :: vI x :: st) μ := by
  obtain ⟨p, l, e, R, s, m, args, below, meth, c, Q, kn, E⟩ := C
  obtain ⟨hx, hb, hml, hown, hts, hK, hi, hst, hnw, hrm, hcs, hlk⟩ := id g
  intro H locs ls hP hS hl
  exact lv_imul hx hb hd (k H locs ls hP hS hl)
theorem V_iand {C : Cx} {own : String} {b : ByteArray} {nL d pc : Nat} {lv : List (Nat × Vl)} {st : List Vl} {μ : Mem} {x y : Int32} (g : G C own b nL d) (hd : decode b pc = .ok (.iand, 1)) (k : V C (pc + 1) lv (vI (x &&& y) :: st) μ) : V C pc lv (vI y :: vI x :: st) μ := by
  obtain ⟨p, l, e, R, s, m, args, below, meth, c, Q, kn, E⟩ := C
  obtain ⟨hx, hb, hml, hown, hts, hK, hi, hst, hnw, hrm, hcs, hlk⟩ := id g
  intro H locs ls hP hS hl
  exact lv_iand hx hb hd (k H locs ls hP hS hl)
theorem V_ior {C : Cx} {own : String} {b : ByteArray} {nL d pc : Nat} {lv : List (Nat × Vl)} {st : List Vl} {μ : Mem} {x y : Int32} (g : G C own b nL d) (hd : decode b pc = .ok (.ior, 1)) (k : V C (pc + 1) lv (vI (x ||| y) :: st) μ) : V C pc lv (vI y :: vI x :: st) μ := by
  obtain ⟨p, l, e, R, s, m, args, below, meth, c, Q, kn, E⟩ := C
  obtain ⟨hx, hb, hml, hown, hts, hK, hi, hst, hnw, hrm, hcs, hlk⟩ := id g
  intro H locs ls hP hS hl
  exact lv_ior hx hb hd (k H locs ls hP hS hl)
theorem V_ixor {C : Cx} {own : String} {b : ByteArray} {nL d pc : Nat} {lv : List (Nat × Vl)} {st : List Vl} {μ : Mem} {x y : Int32} (g : G C own b nL d) (hd : decode b pc = .ok (.ixor, 1)) (k : V C (pc + 1) lv (vI (x ^^^ y) :: st) μ) : V C pc lv (vI y :: vI x :: st) μ := by
  obtain ⟨p, l, e, R, s, m, args, below, meth, c, Q, kn, E⟩ := C
  obtain ⟨hx, hb, hml, hown, hts, hK, hi, hst, hnw, hrm, hcs, hlk⟩ := id g
  intro H locs ls hP hS hl
  exact lv_ixor hx hb hd (k H locs ls hP hS hl)
theorem V_ishl {C : Cx} {own : String} {b : ByteArray} {nL d pc : Nat} {lv : List (Nat × Vl)} {st : List Vl} {μ : Mem} {x y : Int32} (g : G C own b nL d) (hd : decode b pc = .ok (.ishl, 1)) (k : V C (pc + 1) lv (vI (x <<< (y &&& 31)) :: st) μ) : V C pc lv (vI y :: vI x :: st) μ := by
  obtain ⟨p, l, e, R, s, m, args, below, meth, c, Q, kn, E⟩ := C
  obtain ⟨hx, hb, hml, hown, hts, hK, hi, hst, hnw, hrm, hcs, hlk⟩ := id g
  intro H locs ls hP hS hl
  exact lv_ishl hx hb hd (k H locs ls hP hS hl)
theorem V_ishr {C : Cx} {own : String} {b : ByteArray} {nL d pc : Nat} {lv : List (Nat × Vl)} {st : List Vl} {μ : Mem} {x y : Int32} (g : G C own b nL d) (hd : decode b pc = .ok (.ishr, 1)) (k : V C (pc + 1) lv (vI (x >>> (y &&& 31)) :: st) μ) : V C pc lv (vI y :: vI x :: st) μ := by
  obtain ⟨p, l, e, R, s, m, args, below, meth, c, Q, kn, E⟩ := C
  obtain ⟨hx, hb, hml, hown, hts, hK, hi, hst, hnw, hrm, hcs, hlk⟩ := id g
  intro H locs ls hP hS hl
  exact lv_ishr hx hb hd (k H locs ls hP hS hl)
theorem V_iushr {C : Cx} {own : String} {b : ByteArray} {nL d pc : Nat} {lv : List (Nat × Vl)} {st : List Vl} {μ : Mem} {x y : Int32} (g : G C own b nL d) (hd : decode b pc = .ok (.iushr, 1)) (k : V C (pc + 1) lv (vI ((x.toUInt32 >>> (y.toUInt32 &&& Int32.toUInt32 31)).toInt32) :: st) μ) : V C pc lv (vI y :: vI x :: st) μ := by
  obtain ⟨p, l, e, R, s, m, args, below, meth, c, Q, kn, E⟩ := C
  obtain ⟨hx, hb, hml, hown, hts, hK, hi, hst, hnw, hrm, hcs, hlk⟩ := id g
  intro H locs ls hP hS hl
  exact lv_iushr hx hb hd rfl (k H locs ls hP hS hl)
theorem V_ladd {C : Cx} {own : String} {b : ByteArray} {nL d pc : Nat} {lv : List (Nat × Vl)} {st : List Vl} {μ : Mem} {x y : Int64} (g : G C own b nL d) (hd : decode b pc = .ok (.ladd, 1)) (k : V C (pc + 1) lv (vL (x + y) :: st) μ) : V C pc lv (vL y :: vL x :: st) μ := by
  obtain ⟨p, l, e, R, s, m, args, below, meth, c, Q, kn, E⟩ := C
  obtain ⟨hx, hb, hml, hown, hts, hK, hi, hst, hnw, hrm, hcs, hlk⟩ := id g
  intro H locs ls hP hS hl
  exact lv_ladd hx hb hd (k H locs ls hP hS hl)
theorem V_lsub {C : Cx} {own : String} {b : ByteArray} {nL d pc : Nat} {lv : List (Nat × Vl)} {st : List Vl} {μ : Mem} {x y : Int64} (g : G C own b nL d) (hd : decode b pc = .ok (.lsub, 1)) (k : V C (pc + 1) lv (vL (x - y) :: st) μ) : V C pc lv (vL y :: vL x :: st) μ := by
  obtain ⟨p, l, e, R, s, m, args, below, meth, c, Q, kn, E⟩ := C
  obtain ⟨hx, hb, hml, hown, hts, hK, hi, hst, hnw, hrm, hcs, hlk⟩ := id g
  intro H locs ls hP hS hl
  exact lv_lsub hx hb hd (k H locs ls hP hS hl)
theorem V_lmul {C : Cx} {own : String} {b : ByteArray} {nL d pc : Nat} {lv : List (Nat × Vl)} {st : List Vl} {μ : Mem} {x y : Int64} (g : G C own b nL d) (hd : decode b pc = .ok (.lmul, 1)) (k : V C (pc + 1) lv (vL (x * y) :: st) μ) : V C pc lv (vL y :: vL x :: st) μ := by
  obtain ⟨p, l, e, R, s, m, args, below, meth, c, Q, kn, E⟩ := C
  obtain ⟨hx, hb, hml, hown, hts, hK, hi, hst, hnw, hrm, hcs, hlk⟩ := id g
  intro H locs ls hP hS hl
  exact lv_lmul hx hb hd (k H locs ls hP hS hl)
theorem V_irem {C : Cx} {own : String} {b : ByteArray} {nL d pc : Nat} {lv : List (Nat × Vl)} {st : List Vl} {μ : Mem} {x y : Int32} (g : G C own b nL d) (hd : decode b pc = .ok (.irem, 1)) (hne : ¬ y = 0) (k : V C (pc + 1) lv (vI (x - x / y * y) :: st) μ) : V C pc lv (vI y :: vI x :: st) μ := by
  obtain ⟨p, l, e, R, s, m, args, below, meth, c, Q, kn, E⟩ := C
  obtain ⟨hx, hb, hml, hown, hts, hK, hi, hst, hnw, hrm, hcs, hlk⟩ := id g
  intro H locs ls hP hS hl
  exact lv_irem hx hb hd hne (k H locs ls hP hS hl)
theorem V_lrem {C : Cx} {own : String} {b : ByteArray} {nL d pc : Nat} {lv : List (Nat × Vl)} {st : List Vl} {μ : Mem} {x y : Int64} (g : G C own b nL d) (hd : decode b pc = .ok (.lrem, 1)) (hne : ¬ y = 0) (k : V C (pc + 1) lv (vL (x - x / y * y) :: st) μ) : V C pc lv (vL y :: vL x :: st) μ := by
  obtain ⟨p, l, e, R, s, m, args, below, meth, c, Q, kn, E⟩ := C
  obtain ⟨hx, hb, hml, hown, hts, hK, hi, hst, hnw, hrm, hcs, hlk⟩ := id g
  intro H locs ls hP hS hl
  exact lv_lrem hx hb hd hne (k H locs ls hP hS hl)
theorem V_ldiv {C : Cx} {own : String} {b : ByteArray} {nL d pc : Nat} {lv : List (Nat × Vl)} {st : List Vl} {μ : Mem} {x y : Int64} (g : G C own b nL d) (hd : decode b pc = .ok (.ldiv, 1)) (hne : ¬ y = 0) (k : V C (pc + 1) lv (vL (x / y) :: st) μ) : V C pc lv (vL y :: vL x :: st) μ := by
  obtain ⟨p, l, e, R, s, m, args, below, meth, c, Q, kn, E⟩ := C
  obtain ⟨hx, hb, hml, hown, hts, hK, hi, hst, hnw, hrm, hcs, hlk⟩ := id g
  intro H locs ls hP hS hl
  exact lv_ldiv hx hb hd hne (k H locs ls hP hS hl)
theorem V_ineg {C : Cx} {own : String} {b : ByteArray} {nL d pc : Nat} {lv : List (Nat × Vl)} {st : List Vl} {μ : Mem} {x : Int32} (g : G C own b nL d) (hd : decode b pc = .ok (.ineg, 1)) (k : V C (pc + 1) lv (vI (-x) :: st) μ) : V C pc lv (vI x :: st) μ := by
  obtain ⟨p, l, e, R, s, m, args, below, meth, c, Q, kn, E⟩ := C
  obtain ⟨hx, hb, hml, hown, hts, hK, hi, hst, hnw, hrm, hcs, hlk⟩ := id g
  intro H locs ls hP hS hl
  exact lv_ineg hx hb hd (k H locs ls hP hS hl)
theorem V_i2l {C : Cx} {own : String} {b : ByteArray} {nL d pc : Nat} {lv : List (Nat × Vl)} {st : List Vl} {μ : Mem} {x : Int32} (g : G C own b nL d) (hd : decode b pc = .ok (.i2l, 1)) (k : V C (pc + 1) lv (vL x.toInt64 :: st) μ) : V C pc lv (vI x :: st) μ := by
  obtain ⟨p, l, e, R, s, m, args, below, meth, c, Q, kn, E⟩ := C
  obtain ⟨hx, hb, hml, hown, hts, hK, hi, hst, hnw, hrm, hcs, hlk⟩ := id g
  intro H locs ls hP hS hl
  exact lv_i2l hx hb hd rfl (k H locs ls hP hS hl)
theorem V_l2i {C : Cx} {own : String} {b : ByteArray} {nL d pc : Nat} {lv : List (Nat × Vl)} {st : List Vl} {μ : Mem} {x : Int64} (g : G C own b nL d) (hd : decode b pc = .ok (.l2i, 1)) (k : V C (pc + 1) lv (vI x.toInt32 :: st) μ) : V C pc lv (vL x :: st) μ := by
  obtain ⟨p, l, e, R, s, m, args, below, meth, c, Q, kn, E⟩ := C
  obtain ⟨hx, hb, hml, hown, hts, hK, hi, hst, hnw, hrm, hcs, hlk⟩ := id g
  intro H locs ls hP hS hl
  exact lv_l2i hx hb hd rfl (k H locs ls hP hS hl)
theorem V_i2b {C : Cx} {own : String} {b : ByteArray} {nL d pc : Nat} {lv : List (Nat × Vl)} {st : List Vl} {μ : Mem} {x : Int32} (g : G C own b nL d) (hd : decode b pc = .ok (.i2b, 1)) (k : V C (pc + 1) lv (vI x.toInt8.toInt32 :: st) μ) : V C pc lv (vI x :: st) μ := by
  obtain ⟨p, l, e, R, s, m, args, below, meth, c, Q, kn, E⟩ := C
  obtain ⟨hx, hb, hml, hown, hts, hK, hi, hst, hnw, hrm, hcs, hlk⟩ := id g
  intro H locs ls hP hS hl
  exact lv_i2b hx hb hd rfl (k H locs ls hP hS hl)
theorem V_i2s {C : Cx} {own : String} {b : ByteArray} {nL d pc : Nat} {lv : List (Nat × Vl)} {st : List Vl} {μ : Mem} {x : Int32} (g : G C own b nL d) (hd : decode b pc = .ok (.i2s, 1)) (k : V C (pc + 1) lv (vI x.toInt16.toInt32 :: st) μ) : V C pc lv (vI x :: st) μ := by
  obtain ⟨p, l, e, R, s, m, args, below, meth, c, Q, kn, E⟩ := C
  obtain ⟨hx, hb, hml, hown, hts, hK, hi, hst, hnw, hrm, hcs, hlk⟩ := id g
  intro H locs ls hP hS hl
  exact lv_i2s hx hb hd rfl (k H locs ls hP hS hl)
theorem V_dup {C : Cx} {own : String} {b : ByteArray} {nL d pc : Nat} {lv : List (Nat × Vl)} {st : List Vl} {μ : Mem} {x : Vl} (g : G C own b nL d) (hd : decode b pc = .ok (.dup, 1)) (hc : cat x = 1) (k : V C (pc + 1) lv (x :: x :: st) μ) : V C pc lv (x :: st) μ := by
  obtain ⟨p, l, e, R, s, m, args, below, meth, c, Q, kn, E⟩ := C
  obtain ⟨hx, hb, hml, hown, hts, hK, hi, hst, hnw, hrm, hcs, hlk⟩ := id g
  intro H locs ls hP hS hl
  exact lv_dup hx hb hd ((cat_eq E x).trans hc) (k H locs ls hP hS hl)
theorem V_pop {C : Cx} {own : String} {b : ByteArray} {nL d pc : Nat} {lv : List (Nat × Vl)} {st : List Vl} {μ : Mem} {x : Vl} (g : G C own b nL d) (hd : decode b pc = .ok (.pop, 1)) (hc : cat x = 1) (k : V C (pc + 1) lv st μ) : V C pc lv (x :: st) μ := by
  obtain ⟨p, l, e, R, s, m, args, below, meth, c, Q, kn, E⟩ := C
  obtain ⟨hx, hb, hml, hown, hts, hK, hi, hst, hnw, hrm, hcs, hlk⟩ := id g
  intro H locs ls hP hS hl
  exact lv_pop hx hb hd ((cat_eq E x).trans hc) (k H locs ls hP hS hl)
theorem V_dup2 {C : Cx} {own : String} {b : ByteArray} {nL d pc : Nat} {lv : List (Nat × Vl)} {st : List Vl} {μ : Mem} {x y : Vl} (g : G C own b nL d) (hd : decode b pc = .ok (.dup2, 1)) (hc : cat x = 1) (hc2 : cat y = 1) (k : V C (pc + 1) lv (x :: y :: x :: y :: st) μ) : V C pc lv (x :: y :: st) μ := by
  obtain ⟨p, l, e, R, s, m, args, below, meth, c, Q, kn, E⟩ := C
  obtain ⟨hx, hb, hml, hown, hts, hK, hi, hst, hnw, hrm, hcs, hlk⟩ := id g
  intro H locs ls hP hS hl
  exact lv_dup2_11 hx hb hd ((cat_eq E x).trans hc) ((cat_eq E y).trans hc2) (k H locs ls hP hS hl)
theorem V_lcmp {C : Cx} {own : String} {b : ByteArray} {nL d pc : Nat} {lv : List (Nat × Vl)} {st : List Vl} {μ : Mem} {x y : Int64} (g : G C own b nL d) (hd : decode b pc = .ok (.lcmp, 1)) (k : V C (pc + 1) lv (vI (lg_cmp x y) :: st) μ) : V C pc lv (vL y :: vL x :: st) μ := by
  obtain ⟨p, l, e, R, s, m, args, below, meth, c, Q, kn, E⟩ := C
  obtain ⟨hx, hb, hml, hown, hts, hK, hi, hst, hnw, hrm, hcs, hlk⟩ := id g
  intro H locs ls hP hS hl
  exact W.lcmp hx hb hd (k H locs ls hP hS hl)
theorem V_if_eq {C : Cx} {own : String} {b : ByteArray} {nL d pc : Nat} {lv : List (Nat × Vl)} {st : List Vl} {μ : Mem} {x : Int32} {off : Int} {tgt : Nat} (g : G C own b nL d) (hd : decode b pc = .ok (.ifCond .eq off, 3)) (ht : (pc : Int) + off = (tgt : Int)) (kt : x = 0 → V C tgt lv st μ) (kf : ¬ x = 0 → V C (pc + 3) lv st μ) : V C pc lv (vI x :: st) μ := by
  obtain ⟨p, l, e, R, s, m, args, below, meth, c, Q, kn, E⟩ := C
  obtain ⟨hx, hb, hml, hown, hts, hK, hi, hst, hnw, hrm, hcs, hlk⟩ := id g
  intro H locs ls hP hS hl
  exact lv_if_eq hx hb hd ht (fun q => kt q H locs ls hP hS hl) (fun q => kf q H locs ls hP hS hl)
theorem V_icmp_eq {C : Cx} {own : String} {b : ByteArray} {nL d pc : Nat} {lv : List (Nat × Vl)} {st : List Vl} {μ : Mem} {x y : Int32} {off : Int} {tgt : Nat} (g : G C own b nL d) (hd : decode b pc = .ok (.if_icmp .eq off, 3)) (ht : (pc : Int) + off = (tgt : Int)) (kt : x = y → V C tgt lv st μ) (kf : ¬ x = y → V C (pc + 3) lv st μ) : V C pc lv (vI y :: vI x :: st) μ := by
  obtain ⟨p, l, e, R, s, m, args, below, meth, c, Q, kn, E⟩ := C
  obtain ⟨hx, hb, hml, hown, hts, hK, hi, hst, hnw, hrm, hcs, hlk⟩ := id g
  intro H locs ls hP hS hl
  exact lv_icmp_eq hx hb hd ht (fun q => kt q H locs ls hP hS hl) (fun q => kf q H locs ls hP hS hl)
theorem V_if_ne {C : Cx} {own : String} {b : ByteArray} {nL d pc : Nat} {lv : List (Nat × Vl)} {st : List Vl} {μ : Mem} {x : Int32} {off : Int} {tgt : Nat} (g : G C own b nL d) (hd : decode b pc = .ok (.ifCond .ne off, 3)) (ht : (pc : Int) + off = (tgt : Int)) (kt : ¬ x = 0 → V C tgt lv st μ) (kf : x = 0 → V C (pc + 3) lv st μ) : V C pc lv (vI x :: st) μ := by
  obtain ⟨p, l, e, R, s, m, args, below, meth, c, Q, kn, E⟩ := C
  obtain ⟨hx, hb, hml, hown, hts, hK, hi, hst, hnw, hrm, hcs, hlk⟩ := id g
  intro H locs ls hP hS hl
  exact lv_if_ne hx hb hd ht (fun q => kt q H locs ls hP hS hl) (fun q => kf q H locs ls hP hS hl)
theorem V_icmp_ne {C : Cx} {own : String} {b : ByteArray} {nL d pc : Nat} {lv : List (Nat × Vl)} {st : List Vl} {μ : Mem} {x y : Int32} {off : Int} {tgt : Nat} (g : G C own b nL d) (hd : decode b pc = .ok (.if_icmp .ne off, 3)) (ht : (pc : Int) + off = (tgt : Int)) (kt : ¬ x = y → V C tgt lv st μ) (kf : x = y → V C (pc + 3) lv st μ) : V C pc lv (vI y :: vI x :: st) μ := by
  obtain ⟨p, l, e, R, s, m, args, below, meth, c, Q, kn, E⟩ := C
  obtain ⟨hx, hb, hml, hown, hts, hK, hi, hst, hnw, hrm, hcs, hlk⟩ := id g
  intro H locs ls hP hS hl
  exact lv_icmp_ne hx hb hd ht (fun q => kt q H locs ls hP hS hl) (fun q => kf q H locs ls hP hS hl)
theorem V_if_lt {C : Cx} {own : String} {b : ByteArray} {nL d pc : Nat} {lv : List (Nat × Vl)} {st : List Vl} {μ : Mem} {x : Int32} {off : Int} {tgt : Nat} (g : G C own b nL d) (hd : decode b pc = .ok (.ifCond .lt off, 3)) (ht : (pc : Int) + off = (tgt : Int)) (kt : x < 0 → V C tgt lv st μ) (kf : ¬ x < 0 → V C (pc + 3) lv st μ) : V C pc lv (vI x :: st) μ := by
  obtain ⟨p, l, e, R, s, m, args, below, meth, c, Q, kn, E⟩ := C
  obtain ⟨hx, hb, hml, hown, hts, hK, hi, hst, hnw, hrm, hcs, hlk⟩ := id g
  intro H locs ls hP hS hl
  exact lv_if_lt hx hb hd ht (fun q => kt q H locs ls hP hS hl) (fun q => kf q H locs ls hP hS hl)
theorem V_icmp_lt {C : Cx} {own : String} {b : ByteArray} {nL d pc : Nat} {lv : List (Nat × Vl)} {st : List Vl} {μ : Mem} {x y : Int32} {off : Int} {tgt : Nat} (g : G C own b nL d) (hd : decode b pc = .ok (.if_icmp .lt off, 3)) (ht : (pc : Int) + off = (tgt : Int)) (kt : x < y → V C tgt lv st μ) (kf : ¬ x < y → V C (pc + 3) lv st μ) : V C pc lv (vI y :: vI x :: st) μ := by
  obtain ⟨p, l, e, R, s, m, args, below, meth, c, Q, kn, E⟩ := C
  obtain ⟨hx, hb, hml, hown, hts, hK, hi, hst, hnw, hrm, hcs, hlk⟩ := id g
  intro H locs ls hP hS hl
  exact lv_icmp_lt hx hb hd ht (fun q => kt q H locs ls hP hS hl) (fun q => kf q H locs ls hP hS hl)
theorem V_if_ge {C : Cx} {own : String} {b : ByteArray} {nL d pc : Nat} {lv : List (Nat × Vl)} {st : List Vl} {μ : Mem} {x : Int32} {off : Int} {tgt : Nat} (g : G C own b nL d) (hd : decode b pc = .ok (.ifCond .ge off, 3)) (ht : (pc : Int) + off = (tgt : Int)) (kt : 0 ≤ x → V C tgt lv st μ) (kf : ¬ 0 ≤ x → V C (pc + 3) lv st μ) : V C pc lv (vI x :: st) μ := by
  obtain ⟨p, l, e, R, s, m, args, below, meth, c, Q, kn, E⟩ := C
  obtain ⟨hx, hb, hml, hown, hts, hK, hi, hst, hnw, hrm, hcs, hlk⟩ := id g
  intro H locs ls hP hS hl
  exact lv_if_ge hx hb hd ht (fun q => kt q H locs ls hP hS hl) (fun q => kf q H locs ls hP hS hl)
theorem V_icmp_ge {C : Cx} {own : String} {b : ByteArray} {nL d pc : Nat} {lv : List (Nat × Vl)} {st : List Vl} {μ : Mem} {x y : Int32} {off : Int} {tgt : Nat} (g : G C own b nL d) (hd : decode b pc = .ok (.if_icmp .ge off, 3)) (ht : (pc : Int) + off = (tgt : Int)) (kt : y ≤ x → V C tgt lv st μ) (kf : ¬ y ≤ x → V C (pc + 3) lv st μ) : V C pc lv (vI y :: vI x :: st) μ := by
  obtain ⟨p, l, e, R, s, m, args, below, meth, c, Q, kn, E⟩ := C
  obtain ⟨hx, hb, hml, hown, hts, hK, hi, hst, hnw, hrm, hcs, hlk⟩ := id g
  intro H locs ls hP hS hl
  exact lv_icmp_ge hx hb hd ht (fun q => kt q H locs ls hP hS hl) (fun q => kf q H locs ls hP hS hl)
theorem V_if_gt {C : Cx} {own : String} {b : ByteArray} {nL d pc : Nat} {lv : List (Nat × Vl)} {st : List Vl} {μ : Mem} {x : Int32} {off : Int} {tgt : Nat} (g : G C own b nL d) (hd : decode b pc = .ok (.ifCond .gt off, 3)) (ht : (pc : Int) + off = (tgt : Int)) (kt : 0 < x → V C tgt lv st μ) (kf : ¬ 0 < x → V C (pc + 3) lv st μ) : V C pc lv (vI x :: st) μ := by
  obtain ⟨p, l, e, R, s, m, args, below, meth, c, Q, kn, E⟩ := C
  obtain ⟨hx, hb, hml, hown, hts, hK, hi, hst, hnw, hrm, hcs, hlk⟩ := id g
  intro H locs ls hP hS hl
  exact lv_if_gt hx hb hd ht (fun q => kt q H locs ls hP hS hl) (fun q => kf q H locs ls hP hS hl)
theorem V_icmp_gt {C : Cx} {own : String} {b : ByteArray} {nL d pc : Nat} {lv : List (Nat × Vl)} {st : List Vl} {μ : Mem} {x y : Int32} {off : Int} {tgt : Nat} (g : G C own b nL d) (hd : decode b pc = .ok (.if_icmp .gt off, 3)) (ht : (pc : Int) + off = (tgt : Int)) (kt : y < x → V C tgt lv st μ) (kf : ¬ y < x → V C (pc + 3) lv st μ) : V C pc lv (vI y :: vI x :: st) μ := by
  obtain ⟨p, l, e, R, s, m, args, below, meth, c, Q, kn, E⟩ := C
  obtain ⟨hx, hb, hml, hown, hts, hK, hi, hst, hnw, hrm, hcs, hlk⟩ := id g
  intro H locs ls hP hS hl
  exact lv_icmp_gt hx hb hd ht (fun q => kt q H locs ls hP hS hl) (fun q => kf q H locs ls hP hS hl)
theorem V_if_le {C : Cx} {own : String} {b : ByteArray} {nL d pc : Nat} {lv : List (Nat × Vl)} {st : List Vl} {μ : Mem} {x : Int32} {off : Int} {tgt : Nat} (g : G C own b nL d) (hd : decode b pc = .ok (.ifCond .le off, 3)) (ht : (pc : Int) + off = (tgt : Int)) (kt : x ≤ 0 → V C tgt lv st μ) (kf : ¬ x ≤ 0 → V C (pc + 3) lv st μ) : V C pc lv (vI x :: st) μ := by
  obtain ⟨p, l, e, R, s, m, args, below, meth, c, Q, kn, E⟩ := C
  obtain ⟨hx, hb, hml, hown, hts, hK, hi, hst, hnw, hrm, hcs, hlk⟩ := id g
  intro H locs ls hP hS hl
  exact lv_if_le hx hb hd ht (fun q => kt q H locs ls hP hS hl) (fun q => kf q H locs ls hP hS hl)
theorem V_icmp_le {C : Cx} {own : String} {b : ByteArray} {nL d pc : Nat} {lv : List (Nat × Vl)} {st : List Vl} {μ : Mem} {x y : Int32} {off : Int} {tgt : Nat} (g : G C own b nL d) (hd : decode b pc = .ok (.if_icmp .le off, 3)) (ht : (pc : Int) + off = (tgt : Int)) (kt : x ≤ y → V C tgt lv st μ) (kf : ¬ x ≤ y → V C (pc + 3) lv st μ) : V C pc lv (vI y :: vI x :: st) μ := by
  obtain ⟨p, l, e, R, s, m, args, below, meth, c, Q, kn, E⟩ := C
  obtain ⟨hx, hb, hml, hown, hts, hK, hi, hst, hnw, hrm, hcs, hlk⟩ := id g
  intro H locs ls hP hS hl
  exact lv_icmp_le hx hb hd ht (fun q => kt q H locs ls hP hS hl) (fun q => kf q H locs ls hP hS hl)
theorem V_goto {C : Cx} {own : String} {b : ByteArray} {nL d pc : Nat} {lv : List (Nat × Vl)} {st : List Vl} {μ : Mem} {off : Int} {tgt : Nat} (g : G C own b nL d) (hd : decode b pc = .ok (.goto off, 3)) (ht : (pc : Int) + off = (tgt : Int)) (k : V C tgt lv st μ) : V C pc lv st μ := by
  obtain ⟨p, l, e, R, s, m, args, below, meth, c, Q, kn, E⟩ := C
  obtain ⟨hx, hb, hml, hown, hts, hK, hi, hst, hnw, hrm, hcs, hlk⟩ := id g
  intro H locs ls hP hS hl
  exact lv_goto hx hb hd ht (k H locs ls hP hS hl)
theorem V_tableIn {C : Cx} {own : String} {b : ByteArray} {nL d pc : Nat} {lv : List (Nat × Vl)} {st : List Vl} {μ : Mem} {dflt lo hi : Int} {offs : Array Int} {len : Nat} {x : Int32} {off : Int} {tgt : Nat} (g : G C own b nL d) (hd : decode b pc = .ok (.tableswitch dflt lo hi offs, len)) (h1 : ¬ x.toInt < lo) (h2 : ¬ hi < x.toInt) (ho : offs[(x.toInt - lo).toNat]? = some off) (ht : (pc : Int) + off = (tgt : Int)) (k : V C tgt lv st μ) : V C pc lv (vI x :: st) μ := by
  obtain ⟨p, l, e, R, s, m, args, below, meth, c, Q, kn, E⟩ := C
  obtain ⟨hx, hb, hml, hown, hts, hK, hi, hst, hnw, hrm, hcs, hlk⟩ := id g
  intro H locs ls hP hS hl
  exact lv_tableIn hx hb hd h1 h2 ho ht (k H locs ls hP hS hl)
theorem V_tableOut {C : Cx} {own : String} {b : ByteArray} {nL d pc : Nat} {lv : List (Nat × Vl)} {st : List Vl} {μ : Mem} {dflt lo hi : Int} {offs : Array Int} {len : Nat} {x : Int32} {tgt : Nat} (g : G C own b nL d) (hd : decode b pc = .ok (.tableswitch dflt lo hi offs, len)) (h : x.toInt < lo ∨ hi < x.toInt) (ht : (pc : Int) + dflt = (tgt : Int)) (k : V C tgt lv st μ) : V C pc lv (vI x :: st) μ := by
  obtain ⟨p, l, e, R, s, m, args, below, meth, c, Q, kn, E⟩ := C
  obtain ⟨hx, hb, hml, hown, hts, hK, hi, hst, hnw, hrm, hcs, hlk⟩ := id g
  intro H locs ls hP hS hl
  exact lv_tableOut hx hb hd h ht (k H locs ls hP hS hl)
theorem V_lookup {C : Cx} {own : String} {b : ByteArray} {nL d pc : Nat} {lv : List (Nat × Vl)} {st : List Vl} {μ : Mem} {dflt : Int} {ps : Array (Int × Int)} {len : Nat} {x : Int32} {off : Int} {tgt : Nat} (g : G C own b nL d) (hd : decode b pc = .ok (.lookupswitch dflt ps, len)) (hp : (ps.toList.zip (ps.toList.drop 1)).all (fun (a, next) => a.1 < next.1) = true) (ho : Op.lookupswitch.offset ps.toList dflt x.toInt = off) (ht : (pc : Int) + off = (tgt : Int)) (k : V C tgt lv st μ) : V C pc lv (vI x :: st) μ := by
  obtain ⟨p, l, e, R, s, m, args, below, meth, c, Q, kn, E⟩ := C
  obtain ⟨hx, hb, hml, hown, hts, hK, hi, hst, hnw, hrm, hcs, hlk⟩ := id g
  intro H locs ls hP hS hl
  exact lv_lookup hx hb hd hp ho ht (k H locs ls hP hS hl)
theorem V_getI {C : Cx} {own : String} {b : ByteArray} {nL d pc : Nat} {lv : List (Nat × Vl)} {st : List Vl} {μ : Mem} {j idx ci f : Nat} {fds : List (Option Nat)} (g : G C own b nL d) (hd : decode b pc = .ok (.getfield idx, 3)) (hf : FLk own idx ci f) (hs : Sh[j]? = some (.inl (ci, fds))) (hk : fds[f]? = some none) (k : V C (pc + 3) lv (vI (μ j f) :: st) μ) : V C pc lv (vR j :: st) μ := by
  obtain ⟨p, l, e, R, s, m, args, below, meth, c, Q, kn, E⟩ := C
  obtain ⟨hx, hb, hml, hown, hts, hK, hi, hst, hnw, hrm, hcs, hlk⟩ := id g
  intro H locs ls hP hS hl
  obtain ⟨⟨Cn, T, N⟩, hcl, hlt, hlk2⟩ := hf
  exact va_get (C := Cn) (T := T) (N := N) (ref := (T f).1) hx hb hts (cls_in hcl) hown hK hP j (cells_at hs) hcl f hlt (hts _ hlk2) (fun _ h => h) (v := .int (μ j f)) (by rw [List.getElem?_mapIdx, hk]; rfl) hd (k H locs ls hP hS hl)
theorem V_getR {C : Cx} {own : String} {b : ByteArray} {nL d pc : Nat} {lv : List (Nat × Vl)} {st : List Vl} {μ : Mem} {j r idx ci f : Nat} {fds : List (Option Nat)} (g : G C own b nL d) (hd : decode b pc = .ok (.getfield idx, 3)) (hf : FLk own idx ci f) (hs : Sh[j]? = some (.inl (ci, fds))) (hk : fds[f]? = some (some r)) (k : V C (pc + 3) lv (vR r :: st) μ) : V C pc lv (vR j :: st) μ := by
  obtain ⟨p, l, e, R, s, m, args, below, meth, c, Q, kn, E⟩ := C
  obtain ⟨hx, hb, hml, hown, hts, hK, hi, hst, hnw, hrm, hcs, hlk⟩ := id g
  intro H locs ls hP hS hl
  obtain ⟨⟨Cn, T, N⟩, hcl, hlt, hlk2⟩ := hf
  exact va_get (C := Cn) (T := T) (N := N) (ref := (T f).1) hx hb hts (cls_in hcl) hown hK hP j (cells_at hs) hcl f hlt (hts _ hlk2) (fun _ h => h) (v := .ref (E.2.2.1 r)) (by rw [List.getElem?_mapIdx, hk]; rfl) hd (k H locs ls hP hS hl)
theorem V_putI {C : Cx} {own : String} {b : ByteArray} {nL d pc : Nat} {lv : List (Nat × Vl)} {st : List Vl} {μ : Mem} {j idx ci f : Nat} {fds : List (Option Nat)} {x : Int32} (g : G C own b nL d) (hd : decode b pc = .ok (.putfield idx, 3)) (hf : FLk own idx ci f) (hs : Sh[j]? = some (.inl (ci, fds))) (hk : fds[f]? = some none) (hi : fldI ci f = true) (k : V C (pc + 3) lv st (setc μ j (upd (μ j) f x))) : V C pc lv (vI x :: vR j :: st) μ := by
  obtain ⟨p, l, e, R, s, m, args, below, meth, c, Q, kn, E⟩ := C
  obtain ⟨hx, hb, hml, hown, hts, hK, hi0, hst, hnw, hrm, hcs, hlk⟩ := id g
  intro H locs ls hP hS hl
  obtain ⟨⟨Cn, T, N⟩, hcl, hlt, hlk2⟩ := hf
  obtain ⟨ty0, ht0, hnm, hfin, hdI⟩ := fldI_spec hcl hi hlt
  refine va_put (C := Cn) (T := T) (N := N) (ref := (T f).1) hx hb hts (cls_in hcl) ty0 ht0 hnm hown hK hP (cells_D hi0 μ) hS j (cells_at hs) hcl f hlt (hts _ hlk2) (fun _ h => h) hfin hdI rfl rfl (by rw [List.length_mapIdx]; exact (List.getElem?_eq_some_iff.mp hk).1) hd (fun H1 locs1 hP1 hD1 hS1 => ?_)
  exact k H1 locs1 ls (cells_set (E := E) hs (f := upd (μ j) f x) (ent_put (E := E) hk) ▸ hP1) hS1 hl
theorem V_iald {C : Cx} {own : String} {b : ByteArray} {nL d pc : Nat} {lv : List (Nat × Vl)} {st : List Vl} {μ : Mem} {j n : Nat} {i : Int32} (g : G C own b nL d) (hd : decode b pc = .ok (.iaload, 1)) (hs : Sh[j]? = some (.inr (0, n, []))) (hin : vp_in i n) (k : V C (pc + 1) lv (vI (μ j i.toNatClampNeg) :: st) μ) : V C pc lv (vI i :: vR j :: st) μ := by
  obtain ⟨p, l, e, R, s, m, args, below, meth, c, Q, kn, E⟩ := C
  obtain ⟨hx, hb, hml, hown, hts, hK, hi, hst, hnw, hrm, hcs, hlk⟩ := id g
  intro H locs ls hP hS hl
  exact va_iald (f := μ j) hx hb hK hP j 0 (cells_at hs) rfl hin hd (k H locs ls hP hS hl)
theorem V_zald {C : Cx} {own : String} {b : ByteArray} {nL d pc : Nat} {lv : List (Nat × Vl)} {st : List Vl} {μ : Mem} {j n : Nat} {i : Int32} (g : G C own b nL d) (hd : decode b pc = .ok (.baload, 1)) (hs : Sh[j]? = some (.inr (1, n, []))) (hin : vp_in i n) (k : V C (pc + 1) lv (vI (μ j i.toNatClampNeg) :: st) μ) : V C pc lv (vI i :: vR j :: st) μ := by
  obtain ⟨p, l, e, R, s, m, args, below, meth, c, Q, kn, E⟩ := C
  obtain ⟨hx, hb, hml, hown, hts, hK, hi, hst, hnw, hrm, hcs, hlk⟩ := id g
  intro H locs ls hP hS hl
  exact va_zald (f := μ j) hx hb hK hP j 1 (cells_at hs) rfl hin hd (k H locs ls hP hS hl)
theorem V_iast {C : Cx} {own : String} {b : ByteArray} {nL d pc : Nat} {lv : List (Nat × Vl)} {st : List Vl} {μ : Mem} {j n : Nat} {i x : Int32} (g : G C own b nL d) (hd : decode b pc = .ok (.iastore, 1)) (hs : Sh[j]? = some (.inr (0, n, []))) (hin : vp_in i n) (k : V C (pc + 1) lv st (setc μ j (upd (μ j) i.toNatClampNeg x))) : V C pc lv (vI x :: vI i :: vR j :: st) μ := by
  obtain ⟨p, l, e, R, s, m, args, below, meth, c, Q, kn, E⟩ := C
  obtain ⟨hx, hb, hml, hown, hts, hK, hi, hst, hnw, hrm, hcs, hlk⟩ := id g
  intro H locs ls hP hS hl
  refine va_iast (f := μ j) hx hb hK hP (cells_D hi μ) hS j 0 (cells_at hs) rfl hin hd (fun H1 locs1 hP1 hD1 hS1 => ?_)
  rw [cells_set hs (f := upd (μ j) i.toNatClampNeg x) (ent_arr (Nat.zero_le _))] at hP1
  exact k H1 locs1 ls hP1 hS1 hl
theorem V_zast {C : Cx} {own : String} {b : ByteArray} {nL d pc : Nat} {lv : List (Nat × Vl)} {st : List Vl} {μ : Mem} {j n : Nat} {i x : Int32} (g : G C own b nL d) (hd : decode b pc = .ok (.bastore, 1)) (hs : Sh[j]? = some (.inr (1, n, []))) (hin : vp_in i n) (hb1 : x = 0 ∨ x = 1) (k : V C (pc + 1) lv st (setc μ j (upd (μ j) i.toNatClampNeg x))) : V C pc lv (vI x :: vI i :: vR j :: st) μ := by
  obtain ⟨p, l, e, R, s, m, args, below, meth, c, Q, kn, E⟩ := C
  obtain ⟨hx, hb, hml, hown, hts, hK, hi, hst, hnw, hrm, hcs, hlk⟩ := id g
  intro H locs ls hP hS hl
  have hnx : vp_nar .boolean x = x := by rcases hb1 with rfl | rfl <;> decide
  refine va_zast (f := μ j) hx hb hK hP (cells_D hi μ) hS j 1 (cells_at hs) rfl hin hd (fun H1 locs1 hP1 hD1 hS1 => ?_)
  rw [hnx, cells_set hs (f := upd (μ j) i.toNatClampNeg x) (ent_arr (Nat.le_refl _))] at hP1
  exact k H1 locs1 ls hP1 hS1 hl
theorem V_ald2 {C : Cx} {own : String} {b : ByteArray} {nL d pc : Nat} {lv : List (Nat × Vl)} {st : List Vl} {μ : Mem} {j n r : Nat} {i : Int32} {rs : List Nat} (g : G C own b nL d) (hd : decode b pc = .ok (.aaload, 1)) (hs : Sh[j]? = some (.inr (2, n, rs))) (hin : vp_in i n) (hr : rs[i.toNatClampNeg]? = some r) (k : V C (pc + 1) lv (vR r :: st) μ) : V C pc lv (vI i :: vR j :: st) μ := by
  obtain ⟨p, l, e, R, s, m, args, below, meth, c, Q, kn, E⟩ := C
  obtain ⟨hx, hb, hml, hown, hts, hK, hi, hst, hnw, hrm, hcs, hlk⟩ := id g
  intro H locs ls hP hS hl
  refine va_aldq (f := fun i => (rs[i]?).map E.2.2.1) hx hb hK hP j 2 (cells_at hs) rfl hin hd ?_
  have := k H locs ls hP hS hl
  simp only [hr]
  exact this
theorem V_ald3 {C : Cx} {own : String} {b : ByteArray} {nL d pc : Nat} {lv : List (Nat × Vl)} {st : List Vl} {μ : Mem} {j n r : Nat} {i : Int32} {rs : List Nat} (g : G C own b nL d) (hd : decode b pc = .ok (.aaload, 1)) (hs : Sh[j]? = some (.inr (3, n, rs))) (hin : vp_in i n) (hr : rs[i.toNatClampNeg]? = some r) (k : V C (pc + 1) lv (vR r :: st) μ) : V C pc lv (vI i :: vR j :: st) μ := by
  obtain ⟨p, l, e, R, s, m, args, below, meth, c, Q, kn, E⟩ := C
  obtain ⟨hx, hb, hml, hown, hts, hK, hi, hst, hnw, hrm, hcs, hlk⟩ := id g
  intro H locs ls hP hS hl
  have hlt : i.toNatClampNeg < n := Nat.not_le.mp fun q => hin (Or.inr q)
  have := k H locs ls hP hS hl
  exact W.aald (v := .ref (E.2.2.1 r)) (ty := .array .int) hx hb (hP j _ (cells_at hs)) ((hK.2 3 _ rfl).1 n (fun q => va_rf ((rs[q]?).map E.2.2.1))) rfl (fun q => by cases q) (by show ¬ (i < 0 ∨ (arrV _ _ _).slots.size ≤ _); rw [arrV_size]; exact hin) (by show (arrV _ _ _).slots[_]? = _; rw [arrV_read _ _ hlt]; simp only [hr]; rfl) rfl rfl hd this
theorem V_alen {C : Cx} {own : String} {b : ByteArray} {nL d pc : Nat} {lv : List (Nat × Vl)} {st : List Vl} {μ : Mem} {j t n : Nat} {rs : List Nat} {v : Int32} (g : G C own b nL d) (hd : decode b pc = .ok (.arraylength, 1)) (hs : Sh[j]? = some (.inr (t, n, rs))) (ht : t < 4) (hv : Int32.ofNat n = v) (k : V C (pc + 1) lv (vI v :: st) μ) : V C pc lv (vR j :: st) μ := by
  obtain ⟨p, l, e, R, s, m, args, below, meth, c, Q, kn, E⟩ := C
  obtain ⟨hx, hb, hml, hown, hts, hK, hi, hst, hnw, hrm, hcs, hlk⟩ := id g
  intro H locs ls hP hS hl
  obtain ⟨ty, hty⟩ : ∃ ty, (tysE E)[t]? = some (E.2.2.2 t, ty) := by
    rcases (show t = 0 ∨ t = 1 ∨ t = 2 ∨ t = 3 by omega) with rfl | rfl | rfl | rfl <;> exact ⟨_, rfl⟩
  exact va_alen hx hb hK hP j t (cells_at hs) hty hv hd (k H locs ls hP hS hl)
theorem V_getSz {C : Cx} {own : String} {b : ByteArray} {nL d pc : Nat} {lv : List (Nat × Vl)} {st : List Vl} {μ : Mem} {idx : Nat} (g : G C own b nL d) (hd : decode b pc = .ok (.getstatic idx, 3)) (hf : Cond.fieldLink own idx "SleepingJudge$Asking" "SIZE_BODIES" "[I" ∈ gw_tbl) (k : V C (pc + 3) lv (vR 85 :: st) μ) : V C pc lv (st) μ := by
  obtain ⟨p, l, e, R, s, m, args, below, meth, c, Q, kn, E⟩ := C
  obtain ⟨hx, hb, hml, hown, hts, hK, hi, hst, hnw, hrm, hcs, hlk⟩ := id g
  intro H locs ls hP hS hl
  exact va_gets hx hb hst.1.1 hS hown (hts _ hf) (fun _ h => h) hd (k H locs ls hP hS hl)
theorem V_getMk {C : Cx} {own : String} {b : ByteArray} {nL d pc : Nat} {lv : List (Nat × Vl)} {st : List Vl} {μ : Mem} {idx : Nat} (g : G C own b nL d) (hd : decode b pc = .ok (.getstatic idx, 3)) (hf : Cond.fieldLink own idx "SleepingJudge$Asking" "MARK_BODIES" "[I" ∈ gw_tbl) (k : V C (pc + 3) lv (vR 86 :: st) μ) : V C pc lv (st) μ := by
  obtain ⟨p, l, e, R, s, m, args, below, meth, c, Q, kn, E⟩ := C
  obtain ⟨hx, hb, hml, hown, hts, hK, hi, hst, hnw, hrm, hcs, hlk⟩ := id g
  intro H locs ls hP hS hl
  exact va_gets hx hb hst.2.1 hS hown (hts _ hf) (fun _ h => h) hd (k H locs ls hP hS hl)
theorem V_ldSz {C : Cx} {own : String} {b : ByteArray} {nL d pc : Nat} {lv : List (Nat × Vl)} {st : List Vl} {μ : Mem} {i : Int32} (g : G C own b nL d) (hd : decode b pc = .ok (.iaload, 1)) (hin : vp_in i 6) (k : V C (pc + 1) lv (vI (szB i.toNatClampNeg) :: st) μ) : V C pc lv (vI i :: vR 85 :: st) μ := by
  obtain ⟨p, l, e, R, s, m, args, below, meth, c, Q, kn, E⟩ := C
  obtain ⟨hx, hb, hml, hown, hts, hK, hi, hst, hnw, hrm, hcs, hlk⟩ := id g
  intro H locs ls hP hS hl
  exact va_ti hx hb hst.1.2 hS hin rfl hd (k H locs ls hP hS hl)
theorem V_ldMk {C : Cx} {own : String} {b : ByteArray} {nL d pc : Nat} {lv : List (Nat × Vl)} {st : List Vl} {μ : Mem} {i : Int32} (g : G C own b nL d) (hd : decode b pc = .ok (.iaload, 1)) (hin : vp_in i 6) (k : V C (pc + 1) lv (vI (mkB i.toNatClampNeg) :: st) μ) : V C pc lv (vI i :: vR 86 :: st) μ := by
  obtain ⟨p, l, e, R, s, m, args, below, meth, c, Q, kn, E⟩ := C
  obtain ⟨hx, hb, hml, hown, hts, hK, hi, hst, hnw, hrm, hcs, hlk⟩ := id g
  intro H locs ls hP hS hl
  exact va_ti hx hb hst.2.2 hS hin rfl hd (k H locs ls hP hS hl)
theorem V_acopy {C : Cx} {own : String} {b : ByteArray} {nL d pc : Nat} {lv : List (Nat × Vl)} {st : List Vl} {μ : Mem} {i j n0 n1 idx : Nat} {sp dp n : Int32} (g : G C own b nL d) (hd : decode b pc = .ok (.invokestatic idx, 3)) (hm : Cond.methodLink own idx arraycopyName ∈ gw_tbl) (h0 : Sh[i]? = some (.inr (0, n0, []))) (h1 : Sh[j]? = some (.inr (0, n1, []))) (hsp : ¬ sp < 0) (hdp : ¬ dp < 0) (hn : ¬ n < 0) (h4 : sp.toNatClampNeg + n.toNatClampNeg ≤ n0) (h5 : dp.toNatClampNeg + n.toNatClampNeg ≤ n1) (hw : Nat.ble (st.map cat).sum 8 = true) (k : V C (pc + 3) lv st (setc μ j (va_cpy (μ i) (μ j) sp.toNatClampNeg dp.toNatClampNeg n.toNatClampNeg))) : V C pc lv (vI n :: vI dp :: vR j :: vI sp :: vR i :: st) μ := by
  obtain ⟨p, l, e, R, s, m, args, below, meth, c, Q, kn, E⟩ := C
  obtain ⟨hx, hb, hml, hown, hts, hK, hi, hst, hnw, hrm, hcs, hlk⟩ := id g
  intro H locs ls hP hS hl
  refine va_copyi (f := μ i) (g := μ j) (rest := st.map (dv E)) hx hb hl.1.symm hown (hts _ hm) (hts _ acopy_nat) (hts _ acopy_st) (hts _ ini_J10) hK hP (cells_D hi μ) hS i j 0 0 (cells_at h0) (cells_at h1) rfl rfl rfl hsp hdp hn h4 h5 (fun _ _ => rfl) (by omega) (by rw [cat_sum E st]; have := Nat.le_of_ble_eq_true hw; have h9 : nativeFrameWords "java/lang/System" "arraycopy" 5 ≤ 200 := (by decide +kernel); omega) hd (fun H1 locs1 hP1 hD1 hS1 => ?_)
  rw [cells_set h1 (f := va_cpy (μ i) (μ j) sp.toNatClampNeg dp.toNatClampNeg n.toNatClampNeg) (ent_arr (Nat.zero_le _))] at hP1
  exact k H1 locs1 ls hP1 hS1 hl
theorem V_mmax {C : Cx} {own : String} {b : ByteArray} {nL d pc : Nat} {lv : List (Nat × Vl)} {st : List Vl} {μ : Mem} {x y : Int32} {idx : Nat} (g : G C own b nL d) (hd : decode b pc = .ok (.invokestatic idx, 3)) (hm : Cond.methodLink own idx yJ9_max_7cf53 ∈ gw_tbl) (hw : Nat.ble (st.map cat).sum 8 = true) (k : V C (pc + 3) lv (vI (if x < y then y else x) :: st) μ) : V C pc lv (vI y :: vI x :: st) μ := by
  obtain ⟨p, l, e, R, s, m, args, below, meth, c, Q, kn, E⟩ := C
  obtain ⟨hx, hb, hml, hown, hts, hK, hi, hst, hnw, hrm, hcs, hlk⟩ := id g
  intro H locs ls hP hS hl
  exact va_mmax (rest := st.map (dv E)) hx hb hl.1.symm hown (hts _ hm) (hts _ mo_J9_max_7cf53.2) (hts _ ini_J9) (hts _ mo_J9_max_7cf53.1.1) (by omega) (by rw [cat_sum E st]; have := Nat.le_of_ble_eq_true hw; omega) hcs.1 hcs.2 hd (k H locs ls hP hS hl)
theorem V_mmin {C : Cx} {own : String} {b : ByteArray} {nL d pc : Nat} {lv : List (Nat × Vl)} {st : List Vl} {μ : Mem} {x y : Int32} {idx : Nat} (g : G C own b nL d) (hd : decode b pc = .ok (.invokestatic idx, 3)) (hm : Cond.methodLink own idx yJ9_min_7cf53 ∈ gw_tbl) (hw : Nat.ble (st.map cat).sum 8 = true) (k : V C (pc + 3) lv (vI (if y < x then y else x) :: st) μ) : V C pc lv (vI y :: vI x :: st) μ := by
  obtain ⟨p, l, e, R, s, m, args, below, meth, c, Q, kn, E⟩ := C
  obtain ⟨hx, hb, hml, hown, hts, hK, hi, hst, hnw, hrm, hcs, hlk⟩ := id g
  intro H locs ls hP hS hl
  exact va_mmin (rest := st.map (dv E)) hx hb hl.1.symm hown (hts _ hm) (hts _ mo_J9_min_7cf53.2) (hts _ ini_J9) (hts _ mo_J9_min_7cf53.1.1) (by omega) (by rw [cat_sum E st]; have := Nat.le_of_ble_eq_true hw; omega) hcs.1 hcs.2 hd (k H locs ls hP hS hl)
theorem V_iret {C : Cx} {own : String} {b : ByteArray} {nL d pc : Nat} {lv : List (Nat × Vl)} {μ : Mem} {x : Int32} (g : G C own b nL d) (hd : decode b pc = .ok (.ireturn, 1))  (hR : Rt C (some .int) (some (vI x)) μ) : V C pc lv ([vI x]) μ := by
  obtain ⟨p, l, e, R, s, m, args, below, meth, c, Q, kn, E⟩ := C
  obtain ⟨hx, hb, hml, hown, hts, hK, hi, hst, hnw, hrm, hcs, hlk⟩ := id g
  obtain ⟨hr, hk, hQ⟩ := hR
  subst hk; subst hQ
  intro H locs ls hP hS hl
  exact W.iret hx hb hr (fun t ht hW => ⟨rfl, Wo.at ht hP hK hi hst hnw hS hW, hS.F ht⟩) hS.2.2 hd hlk
theorem V_zret {C : Cx} {own : String} {b : ByteArray} {nL d pc : Nat} {lv : List (Nat × Vl)} {μ : Mem} {x : Int32} (g : G C own b nL d) (hd : decode b pc = .ok (.ireturn, 1)) (hz : x = 0 ∨ x = 1) (hR : Rt C (some .boolean) (some (vI x)) μ) : V C pc lv ([vI x]) μ := by
  obtain ⟨p, l, e, R, s, m, args, below, meth, c, Q, kn, E⟩ := C
  obtain ⟨hx, hb, hml, hown, hts, hK, hi, hst, hnw, hrm, hcs, hlk⟩ := id g
  obtain ⟨hr, hk, hQ⟩ := hR
  subst hk; subst hQ
  intro H locs ls hP hS hl
  exact W.zret hx hb hr (by rcases hz with rfl | rfl <;> decide) (fun t ht hW => ⟨rfl, Wo.at ht hP hK hi hst hnw hS hW, hS.F ht⟩) hS.2.2 hd hlk
theorem V_lret {C : Cx} {own : String} {b : ByteArray} {nL d pc : Nat} {lv : List (Nat × Vl)} {μ : Mem} {x : Int64} (g : G C own b nL d) (hd : decode b pc = .ok (.lreturn, 1))  (hR : Rt C (some .long) (some (vL x)) μ) : V C pc lv ([vL x]) μ := by
  obtain ⟨p, l, e, R, s, m, args, below, meth, c, Q, kn, E⟩ := C
  obtain ⟨hx, hb, hml, hown, hts, hK, hi, hst, hnw, hrm, hcs, hlk⟩ := id g
  obtain ⟨hr, hk, hQ⟩ := hR
  subst hk; subst hQ
  intro H locs ls hP hS hl
  exact W.lret hx hb hr (fun t ht hW => ⟨rfl, Wo.at ht hP hK hi hst hnw hS hW, hS.F ht⟩) hS.2.2 hd hlk
theorem V_vret {C : Cx} {own : String} {b : ByteArray} {nL d pc : Nat} {lv : List (Nat × Vl)} {μ : Mem}  (g : G C own b nL d) (hd : decode b pc = .ok (.return_, 1))  (hR : Rt C none (none) μ) : V C pc lv ([]) μ := by
  obtain ⟨p, l, e, R, s, m, args, below, meth, c, Q, kn, E⟩ := C
  obtain ⟨hx, hb, hml, hown, hts, hK, hi, hst, hnw, hrm, hcs, hlk⟩ := id g
  obtain ⟨hr, hk, hQ⟩ := hR
  subst hk; subst hQ
  intro H locs ls hP hS hl
  exact W.vret hx hb hr (fun t ht hW => ⟨rfl, Wo.at ht hP hK hi hst hnw hS hW, hS.F ht⟩) hS.2.2 hd hlk
theorem V_run {C : Cx} {own : String} {b : ByteArray} {nL d pc : Nat} {lv : List (Nat × Vl)} {st : List Vl} {μ : Mem} {y : MethodName} {b' : ByteArray} {n' d' : Nat} {ret : Option FieldType} {as : List Vl} {r : Option Vl} {μ' : Mem} {st0 : List Vl} (g : G C own b nL d) (hct : Ct y b' n' ret d' as μ r μ')
    (run : match C with | (p, l, e, R, s, m, args, below, meth, c, Q, kn, E) => ∀ (H : Heap) (locs : List Loc) (ls : Array Slot), va_P (E.1, E.2.1) classes (cells E μ) H → va_S (Ad E) s.heap H locs → lv_has ls c.maxLocals (dl E lv) → va_Run p l e R s m args below meth c H locs kn.1 kn.2 0 0 (F0 m pc ls (st0.map (dv E))) (st.map (dv E)) (QQ E r μ' (as.map (dv E)).toArray) (Ad E))
    (k : V C (pc + 3) lv (r.toList ++ st) μ') : V C pc lv st0 μ := by
  obtain ⟨p, l, e, R, s, m, args, below, meth, c, Q, kn, E⟩ := C
  obtain ⟨hx, hb, hml, hown, hts, hK, hi, hst, hnw, hrm, hcs, hlk⟩ := id g
  intro H locs ls hP hS hl
  intro T hT X
  obtain ⟨v, st₀, t, T', L, h0, X', hL, e1, e2, ⟨hv, hWo, hz, hk⟩, stp⟩ := run H locs ls hP hS hl T hT X
  have hv' : v = r.map (dv E) := by cases hv; rfl
  subst hv'
  rw [h0] at hz hk
  obtain ⟨t2, a1, b1⟩ := k T'.heap (locs ++ L) ls (by rw [e1]; exact hWo.1) ⟨Nat.le_trans hS.1 (by rw [e1]; exact hz), fun q h1 h2 => by rw [e1, hk q (Nat.lt_of_lt_of_le h1 hS.1) h2]; exact hS.2.1 q h1 h2, fun q hq => by
      rcases List.mem_append.mp hq with h | h
      · exact hS.2.2 q h
      · exact hL q h⟩ hl T' rfl X'
  refine ⟨t2, stp t2 ?_, b1⟩
  have ev : (r.map (dv E)).toList ++ st.map (dv E) = (r.toList ++ st).map (dv E) := by cases r <;> rfl
  rw [ev]
  exact a1
theorem V_callV {C : Cx} {own : String} {b : ByteArray} {nL d pc : Nat} {lv : List (Nat × Vl)} {st : List Vl} {μ : Mem} {y : MethodName} {b' : ByteArray} {n' d' np idx j ci : Nat} {ret : Option FieldType} {as : List Vl} {r : Option Vl} {μ' : Mem} {st0 : List Vl} {fds : List (Option Nat)} (g : G C own b nL d) (hd : decode b pc = .ok (.invokevirtual idx, 3)) (hm : Cond.methodLink own idx y ∈ gw_tbl) (mo : Mi y b' n' ret np) (hs : Sh[j]? = some (.inl (ci, fds))) (hcl : (classes[ci]?).map (fun q => q.1) = some y.cls) (hct : Ct y b' n' ret d' (vR j :: as) μ r μ') (hdd : d' < d) (hn' : n' ≤ 200) (hnp : as.length = np) (h0 : st0 = as.reverse ++ vR j :: st) (hw : Nat.ble (st.map cat).sum 8 = true)
    (k : V C (pc + 3) lv (r.toList ++ st) μ') : V C pc lv st0 μ := by
  refine V_run g hct ?_ k
  obtain ⟨p, l, e, R, s, m, args, below, meth, c, Q, kn, E⟩ := C
  obtain ⟨hx, hb, hml, hown, hts, hK, hi, hst, hnw, hrm, hcs, hlk⟩ := id g
  intro H locs ls hP hS hl
  obtain ⟨⟨m1, m2, m3⟩, m4, m5⟩ := mo
  obtain ⟨q, hq, hqe⟩ : ∃ q, classes[ci]? = some q ∧ q.1 = y.cls := by
    cases hc : classes[ci]? with
    | none => rw [hc] at hcl; cases hcl
    | some q => rw [hc] at hcl; exact ⟨q, rfl, Option.some.inj hcl⟩
  have hrecv := va_recv hK hP hq (q0 := j) (cells_at hs)
  rw [hqe] at hrecv
  refine va_runV (C := y.cls) (bytes := b') (maxL := n') (ret := ret) (ws := Cond.code y b' n' ret :: gw_tbl) (rm := rmD d') (n := np) (index := idx) (As := as.map (dv E)) (rest := st.map (dv E)) (b := E.2.2.1 j) ⟨hx, hb, hml, hown, hts⟩ (hct l E)
    ⟨callB_of np hts (gw_ok m1) rfl rfl rfl (hts _ m2) (hts _ hm) m3 ⟨by show d' + 1 + 1 ≤ _; omega, by show 8 + (n' + 11) + 256 * (d' + 1) ≤ _; omega⟩, hts _ m4, hts _ m5⟩ ⟨Wo.blind, hrecv, fun U hU hW => ⟨rfl, Wo.at hU hP hK hi hst hnw hS hW⟩⟩ rfl (by rw [List.length_map]; exact hnp) (hl.1.trans hml) ?_ (lv_room (by rw [cat_sum E st]; exact Nat.le_of_ble_eq_true hw)) hd ⟨by omega, by omega⟩
  rw [h0]
  show List.map (dv E) (as.reverse ++ vR j :: st) = _
  rw [List.map_append, List.map_reverse]
  rfl
theorem V_callS {C : Cx} {own : String} {b : ByteArray} {nL d pc : Nat} {lv : List (Nat × Vl)} {st : List Vl} {μ : Mem} {y : MethodName} {b' : ByteArray} {n' d' np idx : Nat} {ret : Option FieldType} {as : List Vl} {r : Option Vl} {μ' : Mem} {st0 : List Vl} (g : G C own b nL d) (hd : decode b pc = .ok (.invokestatic idx, 3)) (hm : Cond.methodLink own idx y ∈ gw_tbl) (mo : Ms y b' n' ret np) (hct : Ct y b' n' ret d' as μ r μ') (hdd : d' < d) (hn' : n' ≤ 200) (hnp : as.length = np) (h0 : st0 = as.reverse ++ st) (hw : Nat.ble (st.map cat).sum 8 = true)
    (k : V C (pc + 3) lv (r.toList ++ st) μ') : V C pc lv st0 μ := by
  refine V_run g hct ?_ k
  obtain ⟨p, l, e, R, s, m, args, below, meth, c, Q, kn, E⟩ := C
  obtain ⟨hx, hb, hml, hown, hts, hK, hi, hst, hnw, hrm, hcs, hlk⟩ := id g
  intro H locs ls hP hS hl
  obtain ⟨⟨m1, m2, m3⟩, m4⟩ := mo
  refine va_runS (bytes := b') (maxL := n') (ret := ret) (ws := Cond.code y b' n' ret :: gw_tbl) (rm := rmD d') (n := np) (index := idx) (As := as.map (dv E)) (rest := st.map (dv E)) ⟨hx, hb, hml, hown, hts⟩ (hct l E)
    ⟨callB_of np hts (gw_ok m1) rfl rfl rfl (hts _ m2) (hts _ hm) m3 ⟨by show d' + 1 + 1 ≤ _; omega, by show 8 + (n' + 11) + 256 * (d' + 1) ≤ _; omega⟩, hts _ m4⟩ ⟨Wo.blind, fun U hU hW => ⟨rfl, Wo.at hU hP hK hi hst hnw hS hW⟩⟩ rfl (by rw [List.length_map]; exact hnp) (hl.1.trans hml) ?_ (lv_room (by rw [cat_sum E st]; exact Nat.le_of_ble_eq_true hw)) hd ⟨by omega, by omega⟩
  rw [h0]
  show List.map (dv E) (as.reverse ++ st) = _
  rw [List.map_append, List.map_reverse]
theorem V_callP {C : Cx} {own : String} {b : ByteArray} {nL d pc : Nat} {lv : List (Nat × Vl)} {st : List Vl} {μ : Mem} {d' : Nat} {as : List Vl} {r : Option Vl} {μ' : Mem} {st0 : List Vl} (g : G C RX2 b nL d) (hd : decode b pc = .ok (.invokestatic 108, 3)) (hct : Ct yX9_power cX9_power 5 (some .long) d' as μ r μ') (hdd : d' < d) (hnp : as.length = 2) (h0 : st0 = as.reverse ++ st) (hw : Nat.ble (st.map cat).sum 8 = true)
    (k : V C (pc + 3) lv (r.toList ++ st) μ') : V C pc lv st0 μ := by
  refine V_run g hct ?_ k
  obtain ⟨p, l, e, R, s, m, args, below, meth, c, Q, kn, E⟩ := C
  obtain ⟨hx, hb, hml, hown, hts, hK, hi, hst, hnw, hrm, hcs, hlk⟩ := id g
  intro H locs ls hP hS hl
  obtain ⟨⟨m1, m2, m3⟩, m4⟩ := mo_X9_power
  refine va_runSN (host := "SleepingJudge") (bytes := cX9_power) (maxL := 5) (ret := some .long) (ws := Cond.code yX9_power cX9_power 5 (some .long) :: gw_tbl) (rm := rmD d') (n := 2) (index := 108) (As := as.map (dv E)) (rest := st.map (dv E)) ⟨hx, hb, hml, hown, hts⟩ (hct l E)
    ⟨va_cnB 2 hts (gw_ok m1) rfl rfl rfl hnw (hts _ m2) m3 ⟨by show d' + 1 + 1 ≤ _; omega, by show 8 + (5 + 11) + 256 * (d' + 1) ≤ _; omega⟩, hts _ m4, trivial⟩ ⟨Wo.blind, fun U hU hW => ⟨rfl, Wo.at hU hP hK hi hst hnw hS hW⟩⟩ rfl (by rw [List.length_map]; exact hnp) (hl.1.trans hml) ?_ (lv_room (by rw [cat_sum E st]; exact Nat.le_of_ble_eq_true hw)) hd ⟨by omega, by omega⟩
  rw [h0]
  show List.map (dv E) (as.reverse ++ st) = _
  rw [List.map_append, List.map_reverse]
theorem V_keep {C : Cx} {pc : Nat} {lv : List (Nat × Vl)} {st : List Vl} {μ : Mem} (ks : List Nat) {lv' : List (Nat × Vl)} (h : lv.filter (fun q => ks.contains q.1) = lv') (k : V C pc lv' st μ) : V C pc lv st μ := by
  obtain ⟨p, l, e, R, s, m, args, below, meth, c, Q, kn, E⟩ := C
  intro H locs ls hP hS hl
  exact k H locs ls hP hS (lv_mono hl (fun q hq => by
    rw [← h] at hq
    obtain ⟨q0, h1, h2⟩ := List.mem_map.mp hq
    exact List.mem_map.mpr ⟨q0, (List.mem_filter.mp h1).1, h2⟩))
