/-! ===== contracts by what holds behind the call ===== -/
abbrev Po : Type := Option Vl → Mem → Prop
def QP (E : En) (post : Po) : Array Value → State → Outcome → State → Prop := fun _ st oc t => (∃ (r : Option Vl) (μ' : Mem), oc = .returned (r.map (dv E)) ∧ post r μ' ∧ Wo E μ' t) ∧ va_F (Ad E) st t
def CtP (y : MethodName) (b : ByteArray) (n : Nat) (ret : Option FieldType) (d : Nat) (as : List Vl) (μ : Mem) (post : Po) : Prop :=
  ∀ (l : Launch) (E : En), Met l y (Cond.code y b n ret :: gw_tbl) (rmD d) (va_Pc (as.map (dv E)) (Wo E μ)) (QP E post) 0 0 (Ad E)
def RtP (C : Cx) (ret : Option FieldType) (post : Po) : Prop :=
  match C with
  | (_, _, _, _, s, _, args, below, meth, _, Q, kn, E) => meth.sig.returnType = ret ∧ kn = (0, 0) ∧ Q = MQ below (QP E post) args s 0 0 (Ad E)
theorem CtP.go {y : MethodName} {b : ByteArray} {n : Nat} {ret : Option FieldType} {d : Nat} {as : List Vl} {μ : Mem} {post : Po} (own : String) (ho : y.cls = own) (hy : plainName own = true) (hn : (as.map cat).sum ≤ n)
    (body : ∀ C : Cx, G C own b n d → RtP C ret post → V C 0 (largs 0 as) [] μ) : CtP y b n ret d as μ post := by
  subst ho
  intro l E
  refine Met.ofW (cc := b) (maxL := n) (ret := ret) hy rfl ?_
  intro p e s m args below meth c s₁ B hml hv
  obtain ⟨rfl, hP, hK, hi, hst, hnw⟩ := hv
  have hts := atoms_spec (ws := Cond.code y b n ret :: gw_tbl) B.pre
  have hown : s.vm.findClass y.cls = some m.cls := findClass_of_methodNamed B.named
  have hl := lv_entry (as.map (dv E)) (n := n) (by rw [sl_len]; exact hn)
  rw [lg_entry_eq]
  generalize (lg_sl (as.map (dv E)) ++ List.replicate (n - (lg_sl (as.map (dv E))).length) Slot.unset).toArray = ls at hl ⊢
  exact body (p, l, e, (headSpec (Cond.code y b n ret :: gw_tbl) (rmD d)).room, s, m, (as.map (dv E)).toArray, below, meth, c, MQ below (QP E post) (as.map (dv E)).toArray s 0 0 (Ad E), (0, 0), E)
    ⟨B.exec, B.bytes, hml, hown, fun w hw => hts w (List.mem_cons_of_mem _ hw), hK, hi, hst, hnw, ⟨Nat.le_refl _, Nat.le_refl _⟩, ⟨Nat.zero_le _, Nat.zero_le _⟩, B.notSynchronized⟩ ⟨B.returns, rfl, rfl⟩ s.heap [] ls hP va_S.rf (by rw [hml, largs_eq]; exact hl)
theorem V_iretP {C : Cx} {own : String} {b : ByteArray} {nL d pc : Nat} {lv : List (Nat × Vl)} {μ : Mem} {x : Int32} {post : Po} (g : G C own b nL d) (hd : decode b pc = .ok (.ireturn, 1))  (hR : RtP C (some .int) post) (hp : post (some (vI x)) μ) : V C pc lv ([vI x]) μ := by
  obtain ⟨p, l, e, R, s, m, args, below, meth, c, Q, kn, E⟩ := C
  obtain ⟨hx, hb, hml, hown, hts, hK, hi, hst, hnw, hrm, hcs, hlk⟩ := id g
  obtain ⟨hr, hk, hQ⟩ := hR
  subst hk; subst hQ
  intro H locs ls hP hS hl
  exact W.iret hx hb hr (fun t ht hW => ⟨⟨_, μ, rfl, hp, Wo.at ht hP hK hi hst hnw hS hW⟩, hS.F ht⟩) hS.2.2 hd hlk
theorem V_zretP {C : Cx} {own : String} {b : ByteArray} {nL d pc : Nat} {lv : List (Nat × Vl)} {μ : Mem} {x : Int32} {post : Po} (g : G C own b nL d) (hd : decode b pc = .ok (.ireturn, 1)) (hz : x = 0 ∨ x = 1) (hR : RtP C (some .boolean) post) (hp : post (some (vI x)) μ) : V C pc lv ([vI x]) μ := by
  obtain ⟨p, l, e, R, s, m, args, below, meth, c, Q, kn, E⟩ := C
  obtain ⟨hx, hb, hml, hown, hts, hK, hi, hst, hnw, hrm, hcs, hlk⟩ := id g
  obtain ⟨hr, hk, hQ⟩ := hR
  subst hk; subst hQ
  intro H locs ls hP hS hl
  exact W.zret hx hb hr (by rcases hz with rfl | rfl <;> decide) (fun t ht hW => ⟨⟨_, μ, rfl, hp, Wo.at ht hP hK hi hst hnw hS hW⟩, hS.F ht⟩) hS.2.2 hd hlk
theorem V_lretP {C : Cx} {own : String} {b : ByteArray} {nL d pc : Nat} {lv : List (Nat × Vl)} {μ : Mem} {x : Int64} {post : Po} (g : G C own b nL d) (hd : decode b pc = .ok (.lreturn, 1))  (hR : RtP C (some .long) post) (hp : post (some (vL x)) μ) : V C pc lv ([vL x]) μ := by
  obtain ⟨p, l, e, R, s, m, args, below, meth, c, Q, kn, E⟩ := C
  obtain ⟨hx, hb, hml, hown, hts, hK, hi, hst, hnw, hrm, hcs, hlk⟩ := id g
  obtain ⟨hr, hk, hQ⟩ := hR
  subst hk; subst hQ
  intro H locs ls hP hS hl
  exact W.lret hx hb hr (fun t ht hW => ⟨⟨_, μ, rfl, hp, Wo.at ht hP hK hi hst hnw hS hW⟩, hS.F ht⟩) hS.2.2 hd hlk
theorem V_vretP {C : Cx} {own : String} {b : ByteArray} {nL d pc : Nat} {lv : List (Nat × Vl)} {μ : Mem}  {post : Po} (g : G C own b nL d) (hd : decode b pc = .ok (.return_, 1))  (hR : RtP C none post) (hp : post (none) μ) : V C pc lv ([]) μ := by
  obtain ⟨p, l, e, R, s, m, args, below, meth, c, Q, kn, E⟩ := C
  obtain ⟨hx, hb, hml, hown, hts, hK, hi, hst, hnw, hrm, hcs, hlk⟩ := id g
  obtain ⟨hr, hk, hQ⟩ := hR
  subst hk; subst hQ
  intro H locs ls hP hS hl
  exact W.vret hx hb hr (fun t ht hW => ⟨⟨_, μ, rfl, hp, Wo.at ht hP hK hi hst hnw hS hW⟩, hS.F ht⟩) hS.2.2 hd hlk
theorem V_runP {C : Cx} {own : String} {b : ByteArray} {nL d pc : Nat} {lv : List (Nat × Vl)} {st : List Vl} {μ : Mem} {y : MethodName} {b' : ByteArray} {n' d' : Nat} {ret : Option FieldType} {as : List Vl} {post : Po} {st0 : List Vl} (g : G C own b nL d) (hct : CtP y b' n' ret d' as μ post)
    (run : match C with | (p, l, e, R, s, m, args, below, meth, c, Q, kn, E) => ∀ (H : Heap) (locs : List Loc) (ls : Array Slot), va_P (E.1, E.2.1) classes (cells E μ) H → va_S (Ad E) s.heap H locs → lv_has ls c.maxLocals (dl E lv) → va_Run p l e R s m args below meth c H locs kn.1 kn.2 0 0 (F0 m pc ls (st0.map (dv E))) (st.map (dv E)) (QP E post (as.map (dv E)).toArray) (Ad E))
    (k : ∀ r μ', post r μ' → V C (pc + 3) lv (r.toList ++ st) μ') : V C pc lv st0 μ := by
  obtain ⟨p, l, e, R, s, m, args, below, meth, c, Q, kn, E⟩ := C
  obtain ⟨hx, hb, hml, hown, hts, hK, hi, hst, hnw, hrm, hcs, hlk⟩ := id g
  intro H locs ls hP hS hl
  intro T hT X
  obtain ⟨v, st₀, t, T', L, h0, X', hL, e1, e2, ⟨⟨r, μ', hv, hpo, hWo⟩, hz, hk⟩, stp⟩ := run H locs ls hP hS hl T hT X
  have hv' : v = r.map (dv E) := by cases hv; rfl
  subst hv'
  rw [h0] at hz hk
  obtain ⟨t2, a1, b1⟩ := k r μ' hpo T'.heap (locs ++ L) ls (by rw [e1]; exact hWo.1) ⟨Nat.le_trans hS.1 (by rw [e1]; exact hz), fun q h1 h2 => by rw [e1, hk q (Nat.lt_of_lt_of_le h1 hS.1) h2]; exact hS.2.1 q h1 h2, fun q hq => by
      rcases List.mem_append.mp hq with h | h
      · exact hS.2.2 q h
      · exact hL q h⟩ hl T' rfl X'
  refine ⟨t2, stp t2 ?_, b1⟩
  have ev : (r.map (dv E)).toList ++ st.map (dv E) = (r.toList ++ st).map (dv E) := by cases r <;> rfl
  rw [ev]
  exact a1
theorem V_callVP {C : Cx} {own : String} {b : ByteArray} {nL d pc : Nat} {lv : List (Nat × Vl)} {st : List Vl} {μ : Mem} {y : MethodName} {b' : ByteArray} {n' d' np idx j ci : Nat} {ret : Option FieldType} {as : List Vl} {post : Po} {st0 : List Vl} {fds : List (Option Nat)} (g : G C own b nL d) (hd : decode b pc = .ok (.invokevirtual idx, 3)) (hm : Cond.methodLink own idx y ∈ gw_tbl) (mo : Mi y b' n' ret np) (hs : Sh[j]? = some (.inl (ci, fds))) (hcl : (classes[ci]?).map (fun q => q.1) = some y.cls) (hct : CtP y b' n' ret d' (vR j :: as) μ post) (hdd : d' < d) (hn' : n' ≤ 200) (hnp : as.length = np) (h0 : st0 = as.reverse ++ vR j :: st) (hw : Nat.ble (st.map cat).sum 8 = true)
    (k : ∀ r μ', post r μ' → V C (pc + 3) lv (r.toList ++ st) μ') : V C pc lv st0 μ := by
  refine V_runP g hct ?_ k
  obtain ⟨p, l, e, R, s, m, args, below, meth, c, Q, kn, E⟩ := C
  obtain ⟨hx, hb, hml, hown, hts, hK, hi, hst, hnw, hrm, hcs, hlk⟩ := id g
  intro H locs ls hP hS hl
  obtain ⟨⟨m1, m2, m3⟩, m4, m5⟩ := mo
  obtain ⟨q, hq, hqe⟩ : ∃ q, classes[ci]? = some q ∧ q.1 = y.cls := by
    cases hc : classes[ci]? with
    | none => rw [hc] at hcl; cases hcl
    | some q => rw [hc] at hcl; exact ⟨q, rfl, Option.some.inj hcl⟩
  have hrecv := va_recv hK hP hq (q0 := j) (cells_at hs)
  rw [hqe] at hrecv
  refine va_runV (C := y.cls) (bytes := b') (maxL := n') (ret := ret) (ws := Cond.code y b' n' ret :: gw_tbl) (rm := rmD d') (n := np) (index := idx) (As := as.map (dv E)) (rest := st.map (dv E)) (b := E.2.2.1 j) ⟨hx, hb, hml, hown, hts⟩ (hct l E)
    ⟨callB_of np hts (gw_ok m1) rfl rfl rfl (hts _ m2) (hts _ hm) m3 ⟨by show d' + 1 + 1 ≤ _; omega, by show 8 + (n' + 11) + 256 * (d' + 1) ≤ _; omega⟩, hts _ m4, hts _ m5⟩ ⟨Wo.blind, hrecv, fun U hU hW => ⟨rfl, Wo.at hU hP hK hi hst hnw hS hW⟩⟩ rfl (by rw [List.length_map]; exact hnp) (hl.1.trans hml) ?_ (lv_room (by rw [cat_sum E st]; exact Nat.le_of_ble_eq_true hw)) hd ⟨by omega, by omega⟩
  rw [h0]
  show List.map (dv E) (as.reverse ++ vR j :: st) = _
  rw [List.map_append, List.map_reverse]
  rfl
theorem V_callSP {C : Cx} {own : String} {b : ByteArray} {nL d pc : Nat} {lv : List (Nat × Vl)} {st : List Vl} {μ : Mem} {y : MethodName} {b' : ByteArray} {n' d' np idx : Nat} {ret : Option FieldType} {as : List Vl} {post : Po} {st0 : List Vl} (g : G C own b nL d) (hd : decode b pc = .ok (.invokestatic idx, 3)) (hm : Cond.methodLink own idx y ∈ gw_tbl) (mo : Ms y b' n' ret np) (hct : CtP y b' n' ret d' as μ post) (hdd : d' < d) (hn' : n' ≤ 200) (hnp : as.length = np) (h0 : st0 = as.reverse ++ st) (hw : Nat.ble (st.map cat).sum 8 = true)
    (k : ∀ r μ', post r μ' → V C (pc + 3) lv (r.toList ++ st) μ') : V C pc lv st0 μ := by
  refine V_runP g hct ?_ k
  obtain ⟨p, l, e, R, s, m, args, below, meth, c, Q, kn, E⟩ := C
  obtain ⟨hx, hb, hml, hown, hts, hK, hi, hst, hnw, hrm, hcs, hlk⟩ := id g
  intro H locs ls hP hS hl
  obtain ⟨⟨m1, m2, m3⟩, m4⟩ := mo
  refine va_runS (bytes := b') (maxL := n') (ret := ret) (ws := Cond.code y b' n' ret :: gw_tbl) (rm := rmD d') (n := np) (index := idx) (As := as.map (dv E)) (rest := st.map (dv E)) ⟨hx, hb, hml, hown, hts⟩ (hct l E)
    ⟨callB_of np hts (gw_ok m1) rfl rfl rfl (hts _ m2) (hts _ hm) m3 ⟨by show d' + 1 + 1 ≤ _; omega, by show 8 + (n' + 11) + 256 * (d' + 1) ≤ _; omega⟩, hts _ m4⟩ ⟨Wo.blind, fun U hU hW => ⟨rfl, Wo.at hU hP hK hi hst hnw hS hW⟩⟩ rfl (by rw [List.length_map]; exact hnp) (hl.1.trans hml) ?_ (lv_room (by rw [cat_sum E st]; exact Nat.le_of_ble_eq_true hw)) hd ⟨by omega, by omega⟩
  rw [h0]
  show List.map (dv E) (as.reverse ++ st) = _
  rw [List.map_append, List.map_reverse]
/-- an int is answered, and this holds -/
def Pi (f : Int32 → Mem → Prop) : Po := fun r μ' => ∃ x, r = some (vI x) ∧ f x μ'
def Pv (f : Mem → Prop) : Po := fun r μ' => r = none ∧ f μ'
def Pl (f : Int64 → Mem → Prop) : Po := fun r μ' => ∃ x, r = some (vL x) ∧ f x μ'
theorem Pi.mk {f : Int32 → Mem → Prop} {x : Int32} {μ : Mem} (h : f x μ) : Pi f (some (vI x)) μ := ⟨x, rfl, h⟩
theorem Pv.mk {f : Mem → Prop} {μ : Mem} (h : f μ) : Pv f none μ := ⟨rfl, h⟩
theorem Pl.mk {f : Int64 → Mem → Prop} {x : Int64} {μ : Mem} (h : f x μ) : Pl f (some (vL x)) μ := ⟨x, rfl, h⟩
theorem CtP.ct {y : MethodName} {b : ByteArray} {n : Nat} {ret : Option FieldType} {d : Nat} {as : List Vl} {μ : Mem} {r : Option Vl} {μ' : Mem} {post : Po} (h : Ct y b n ret d as μ r μ') (hp : post r μ') : CtP y b n ret d as μ post := by
  intro l E p e ha hc hk s m args below hf happ hP hkk
  obtain ⟨k, o, h1, h2, h3, ⟨ho, hWo, hF⟩, h5⟩ := h l E p e ha hc hk s m args below hf happ hP hkk
  exact ⟨k, o, h1, h2, h3, ⟨⟨r, μ', ho, hp, hWo⟩, hF⟩, h5⟩
theorem V_callVip {C : Cx} {own : String} {b : ByteArray} {nL d pc : Nat} {lv : List (Nat × Vl)} {st : List Vl} {μ : Mem} {y : MethodName} {b' : ByteArray} {n' d' np idx j ci : Nat} {ret : Option FieldType} {as : List Vl} {f : Int32 → Mem → Prop} {st0 : List Vl} {fds : List (Option Nat)} (g : G C own b nL d) (hd : decode b pc = .ok (.invokevirtual idx, 3)) (hm : Cond.methodLink own idx y ∈ gw_tbl) (mo : Mi y b' n' ret np) (hs : Sh[j]? = some (.inl (ci, fds))) (hcl : (classes[ci]?).map (fun q => q.1) = some y.cls) (hct : CtP y b' n' ret d' (vR j :: as) μ (Pi f)) (hdd : d' < d) (hn' : n' ≤ 200) (hnp : as.length = np) (h0 : st0 = as.reverse ++ vR j :: st) (hw : Nat.ble (st.map cat).sum 8 = true) (k : ∀ x μ', f x μ' → V C (pc + 3) lv (vI x :: st) μ') : V C pc lv st0 μ := V_callVP g hd hm mo hs hcl hct hdd hn' hnp h0 hw (fun r μ' h => by obtain ⟨x, rfl, h⟩ := h; exact k x μ' h)
theorem V_callSip {C : Cx} {own : String} {b : ByteArray} {nL d pc : Nat} {lv : List (Nat × Vl)} {st : List Vl} {μ : Mem} {y : MethodName} {b' : ByteArray} {n' d' np idx : Nat} {ret : Option FieldType} {as : List Vl} {f : Int32 → Mem → Prop} {st0 : List Vl} (g : G C own b nL d) (hd : decode b pc = .ok (.invokestatic idx, 3)) (hm : Cond.methodLink own idx y ∈ gw_tbl) (mo : Ms y b' n' ret np) (hct : CtP y b' n' ret d' as μ (Pi f)) (hdd : d' < d) (hn' : n' ≤ 200) (hnp : as.length = np) (h0 : st0 = as.reverse ++ st) (hw : Nat.ble (st.map cat).sum 8 = true) (k : ∀ x μ', f x μ' → V C (pc + 3) lv (vI x :: st) μ') : V C pc lv st0 μ := V_callSP g hd hm mo hct hdd hn' hnp h0 hw (fun r μ' h => by obtain ⟨x, rfl, h⟩ := h; exact k x μ' h)
theorem V_callVlp {C : Cx} {own : String} {b : ByteArray} {nL d pc : Nat} {lv : List (Nat × Vl)} {st : List Vl} {μ : Mem} {y : MethodName} {b' : ByteArray} {n' d' np idx j ci : Nat} {ret : Option FieldType} {as : List Vl} {f : Int64 → Mem → Prop} {st0 : List Vl} {fds : List (Option Nat)} (g : G C own b nL d) (hd : decode b pc = .ok (.invokevirtual idx, 3)) (hm : Cond.methodLink own idx y ∈ gw_tbl) (mo : Mi y b' n' ret np) (hs : Sh[j]? = some (.inl (ci, fds))) (hcl : (classes[ci]?).map (fun q => q.1) = some y.cls) (hct : CtP y b' n' ret d' (vR j :: as) μ (Pl f)) (hdd : d' < d) (hn' : n' ≤ 200) (hnp : as.length = np) (h0 : st0 = as.reverse ++ vR j :: st) (hw : Nat.ble (st.map cat).sum 8 = true) (k : ∀ x μ', f x μ' → V C (pc + 3) lv (vL x :: st) μ') : V C pc lv st0 μ := V_callVP g hd hm mo hs hcl hct hdd hn' hnp h0 hw (fun r μ' h => by obtain ⟨x, rfl, h⟩ := h; exact k x μ' h)
theorem V_callSlp {C : Cx} {own : String} {b : ByteArray} {nL d pc : Nat} {lv : List (Nat × Vl)} {st : List Vl} {μ : Mem} {y : MethodName} {b' : ByteArray} {n' d' np idx : Nat} {ret : Option FieldType} {as : List Vl} {f : Int64 → Mem → Prop} {st0 : List Vl} (g : G C own b nL d) (hd : decode b pc = .ok (.invokestatic idx, 3)) (hm : Cond.methodLink own idx y ∈ gw_tbl) (mo : Ms y b' n' ret np) (hct : CtP y b' n' ret d' as μ (Pl f)) (hdd : d' < d) (hn' : n' ≤ 200) (hnp : as.length = np) (h0 : st0 = as.reverse ++ st) (hw : Nat.ble (st.map cat).sum 8 = true) (k : ∀ x μ', f x μ' → V C (pc + 3) lv (vL x :: st) μ') : V C pc lv st0 μ := V_callSP g hd hm mo hct hdd hn' hnp h0 hw (fun r μ' h => by obtain ⟨x, rfl, h⟩ := h; exact k x μ' h)
theorem V_callVvp {C : Cx} {own : String} {b : ByteArray} {nL d pc : Nat} {lv : List (Nat × Vl)} {st : List Vl} {μ : Mem} {y : MethodName} {b' : ByteArray} {n' d' np idx j ci : Nat} {ret : Option FieldType} {as : List Vl} {f : Mem → Prop} {st0 : List Vl} {fds : List (Option Nat)} (g : G C own b nL d) (hd : decode b pc = .ok (.invokevirtual idx, 3)) (hm : Cond.methodLink own idx y ∈ gw_tbl) (mo : Mi y b' n' ret np) (hs : Sh[j]? = some (.inl (ci, fds))) (hcl : (classes[ci]?).map (fun q => q.1) = some y.cls) (hct : CtP y b' n' ret d' (vR j :: as) μ (Pv f)) (hdd : d' < d) (hn' : n' ≤ 200) (hnp : as.length = np) (h0 : st0 = as.reverse ++ vR j :: st) (hw : Nat.ble (st.map cat).sum 8 = true) (k : ∀ μ', f μ' → V C (pc + 3) lv st μ') : V C pc lv st0 μ := V_callVP g hd hm mo hs hcl hct hdd hn' hnp h0 hw (fun r μ' h => by obtain ⟨rfl, h⟩ := h; exact k μ' h)
theorem V_callSvp {C : Cx} {own : String} {b : ByteArray} {nL d pc : Nat} {lv : List (Nat × Vl)} {st : List Vl} {μ : Mem} {y : MethodName} {b' : ByteArray} {n' d' np idx : Nat} {ret : Option FieldType} {as : List Vl} {f : Mem → Prop} {st0 : List Vl} (g : G C own b nL d) (hd : decode b pc = .ok (.invokestatic idx, 3)) (hm : Cond.methodLink own idx y ∈ gw_tbl) (mo : Ms y b' n' ret np) (hct : CtP y b' n' ret d' as μ (Pv f)) (hdd : d' < d) (hn' : n' ≤ 200) (hnp : as.length = np) (h0 : st0 = as.reverse ++ st) (hw : Nat.ble (st.map cat).sum 8 = true) (k : ∀ μ', f μ' → V C (pc + 3) lv st μ') : V C pc lv st0 μ := V_callSP g hd hm mo hct hdd hn' hnp h0 hw (fun r μ' h => by obtain ⟨rfl, h⟩ := h; exact k μ' h)
