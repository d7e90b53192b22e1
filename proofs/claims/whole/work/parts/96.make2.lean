/-! ===== making: objects, calls, ends ===== -/
def Wn (E : En) (h0 n : Nat) (w : Nat → va_E) (U : State) : Prop := Pw E h0 n w U.heap ∧ va_K (E.1, E.2.1) classes (tysE E) U ∧ NwI U
def QN (E : En) (h0 n : Nat) (w : Nat → va_E) : Array Value → State → Outcome → State → Prop := fun _ st oc t => oc = .returned none ∧ Wn E h0 n w t ∧ va_F (Ab h0) st t
def rmN (d mc ms : Nat) : Room := { frames := d + 1, cells := mc, slots := ms, locals := 256 * (d + 1) }
/-- a constructor: from n cells w to n' cells w' -/
def CtN (E : En) (h0 : Nat) (y : MethodName) (b : ByteArray) (nL d mc ms : Nat) (as : List Vl) (n : Nat) (w : Nat → va_E) (n' : Nat) (w' : Nat → va_E) : Prop :=
  ∀ l : Launch, Met l y (Cond.code y b nL none :: gw_tbl) (rmN d mc ms) (va_Pc (as.map (dv E)) (Wn E h0 n w)) (QN E h0 n' w') mc ms (Ab h0)
def RtN (C : Cz) (E : En) (h0 mc ms n : Nat) (w : Nat → va_E) : Prop :=
  match C with
  | (_, _, _, _, s, _, args, below, meth, _, Q) => meth.sig.returnType = none ∧ Q = MQ below (QN E h0 n w) args s mc ms (Ab h0)
theorem NwI.warm {s U : State} (hW : s.WarmedH U.vm) (h : NwI s) : NwI U := ⟨⟨h.1.1.moved hW.alike, h.1.2.moved hW.alike⟩, va_Nw.warmM hW h.2.1, va_Nw.warmM hW h.2.2.1, va_Nw.warmM hW h.2.2.2.1, va_Nw.warmM hW h.2.2.2.2⟩
theorem Wn.blind {E : En} {h0 n : Nat} {w : Nat → va_E} {as : List Value} : FrameBlind (va_Pc as (Wn E h0 n w)) := fun a U g mk q => by
  obtain ⟨q0, qP, qK, ⟨qa, qb⟩, q1, q2, q3, q4⟩ := q
  exact ⟨q0, qP, va_K.moved (u := U) (U := U.calling g mk a) (Vm.Alike.refl U.vm) qK, ⟨AOr.moved (u := U) (U := U.calling g mk a) (Vm.Alike.refl U.vm) qa, va_AO.moved (u := U) (U := U.calling g mk a) (Vm.Alike.refl U.vm) qb⟩, va_Nw.same (u := U) (U := U.calling g mk a) rfl rfl q1, va_Nw.same (u := U) (U := U.calling g mk a) rfl rfl q2, va_Nw.same (u := U) (U := U.calling g mk a) rfl rfl q3, va_Nw.same (u := U) (U := U.calling g mk a) rfl rfl q4⟩
theorem CtN.go {E : En} {h0 : Nat} {y : MethodName} {b : ByteArray} {nL d mc ms n n' : Nat} {as : List Vl} {w w' : Nat → va_E} (own : String) (ho : y.cls = own) (hy : plainName own = true) (hi : y.name = "<init>") (hn : (as.map cat).sum ≤ nL) (hL : Li E h0)
    (body : ∀ C : Cz, GN C E h0 own b nL d mc ms → RtN C E h0 mc ms n' w' → N C E h0 0 (largs 0 as) [] n w 0 0) : CtN E h0 y b nL d mc ms as n w n' w' := by
  subst ho
  intro l
  refine Met.ofW (cc := b) (maxL := nL) (ret := none) hy rfl ?_
  intro p e s m args below meth c s₁ B hml hv
  obtain ⟨rfl, hP, hK, hnw⟩ := hv
  have hts := atoms_spec (ws := Cond.code y b nL none :: gw_tbl) B.pre
  have hown : s.vm.findClass y.cls = some m.cls := findClass_of_methodNamed B.named
  have hin : meth.name = "<init>" := (name_of_methodNamed B.named B.method).1.trans hi
  have hl := lv_entry (as.map (dv E)) (n := nL) (by rw [sl_len]; exact hn)
  rw [lg_entry_eq]
  generalize (lg_sl (as.map (dv E)) ++ List.replicate (nL - (lg_sl (as.map (dv E))).length) Slot.unset).toArray = ls at hl ⊢
  exact body (p, l, e, (headSpec (Cond.code y b nL none :: gw_tbl) (rmN d mc ms)).room, s, m, (as.map (dv E)).toArray, below, meth, c, MQ below (QN E h0 n' w') (as.map (dv E)).toArray s mc ms (Ab h0))
    ⟨B.exec, B.bytes, hml, hown, fun w hw => hts w (List.mem_cons_of_mem _ hw), hK, hL, hnw, ⟨Nat.le_refl _, Nat.le_refl _⟩, ⟨Nat.le_refl _, Nat.le_refl _⟩, B.notSynchronized, fun _ => hin⟩ ⟨B.returns, rfl⟩ s.heap [] ls hP va_S.rf (by rw [hml, largs_eq]; exact hl)
section NR
variable {C : Cz} {E : En} {h0 : Nat} {own : String} {b : ByteArray} {nL d mc ms pc : Nat} {lv : List (Nat × Vl)} {st : List Vl} {n : Nat} {w : Nat → va_E} {kc ks : Nat}
theorem N_ret (g : GN C E h0 own b nL d mc ms) (hd : decode b pc = .ok (.return_, 1)) (hR : RtN C E h0 mc ms n w) : N C E h0 pc lv [] n w mc ms := by
  obtain ⟨p, l, e, R, s, m, args, below, meth, c, Q⟩ := C
  obtain ⟨hx, hb, hml, hown, hts, hK, hi, hnw, hrm, hcs, hlk, hin⟩ := id g
  obtain ⟨hr, hQ⟩ := hR
  subst hQ
  intro H locs ls hP hS hl
  exact W.vret hx hb hr (fun t ht hW => ⟨rfl, ⟨by rw [ht]; exact hP, hK.moved hW.alike, hnw.warm hW⟩, hS.F ht⟩) hS.2.2 hd hlk
theorem ob_i : Cond.instanceMethod objectInit ∈ gw_tbl := tb 22 (by decide +kernel)
theorem ob_c : Cond.code objectInit ⟨#[0xb1]⟩ 1 none ∈ gw_tbl := tb 23 (by decide +kernel)
theorem N_obj {idx r : Nat} (g : GN C E h0 own b nL d mc ms) (hd : decode b pc = .ok (.invokespecial idx, 3)) (hm : Cond.methodLink own idx objectInit ∈ gw_tbl) (hw : Nat.ble (st.map cat).sum 8 = true) (k : N C E h0 (pc + 3) lv st n w kc ks) : N C E h0 pc lv (vR r :: st) n w kc ks := by
  obtain ⟨p, l, e, R, s, m, args, below, meth, c, Q⟩ := C
  obtain ⟨hx, hb, hml, hown, hts, hK, hi, hnw, hrm, hcs, hlk, hin⟩ := id g
  intro H locs ls hP hS hl
  have h8 := Nat.le_of_ble_eq_true hw
  exact W.objInit hx hb hown (hts _ hm) (hts _ ob_i) (hts _ ob_c) rfl hl.1 rfl hd (by omega) (by rw [cat_sum E st]; show 2 * 0 + _ + 12 ≤ _; omega) (k H locs ls hP hS hl)
theorem N_new {idx ci M : Nat} {Cn : String} {T : u_T} {fs : List Value} {ty : Nat → FieldType} (g : GN C E h0 own b nL d mc ms) (hd : decode b pc = .ok (.new idx, 3)) (hcl : classes[ci]? = some (Cn, T, M)) (hty : ∀ k, k < M → parseFieldDescriptor (T k).2.2.1 = some (ty k)) (hk : Cond.classLink own idx Cn ∈ gw_tbl) (hinst : Cond.instantiable Cn M ∈ gw_tbl) (hini : Cond.initialized Cn ∈ gw_tbl) (hfs : ∀ j, j < M → defaultValue (ty j) = vp_V fs j) (hn : n < 85) (hc : kc + 1 ≤ mc) (hs : ks + M ≤ ms)
    (k : N C E h0 (pc + 3) lv (vR n :: st) (n + 1) (uw w n (.inr (ci, fs))) (kc + 1) (ks + M)) : N C E h0 pc lv st n w kc ks := by
  obtain ⟨p, l, e, R, s, m, args, below, meth, c, Q⟩ := C
  obtain ⟨hx, hb, hml, hown, hts, hK, hi, hnw, hrm, hcs, hlk, hin⟩ := id g
  intro H locs ls hP hS hl
  have hKn := hK.1 ci _ hcl
  refine W.newcK hx hb hown (hts _ hk) (hts _ hinst) (hts _ hini) rfl hd (by omega) (by omega) hKn.2.1 rfl fun H1 kC hkC e1 z1 o1 => ?_
  have q := k H1 locs ls (hP.push z1 o1 ⟨_, hcl, by rw [← hP.1]; exact (u_born ty hts (cls_in hcl) hKn hkC e1 hty).to hfs⟩) (S_push hS z1 o1) hl
  have q : W p l e R s m args below meth c H1 locs (kc + 1) (ks + M) Q (F0 m (pc + 3) ls (Value.ref (E.2.2.1 n) :: st.map (dv E))) := q
  rw [hi n hn, ← hP.1] at q
  exact q
theorem N_getR {i idx ci f r : Nat} {fs : List Value} (g : GN C E h0 own b nL d mc ms) (hd : decode b pc = .ok (.getfield idx, 3)) (hf : FLk own idx ci f) (hi' : i < n) (hn : n ≤ 85) (hw : w i = .inr (ci, fs)) (hv : fs[f]? = some (.ref (E.2.2.1 r))) (k : N C E h0 (pc + 3) lv (vR r :: st) n w kc ks) : N C E h0 pc lv (vR i :: st) n w kc ks := by
  obtain ⟨p, l, e, R, s, m, args, below, meth, c, Q⟩ := C
  obtain ⟨hx, hb, hml, hown, hts, hK, hi, hnw, hrm, hcs, hlk, hin⟩ := id g
  intro H locs ls hP hS hl
  obtain ⟨⟨Cn, T, M⟩, hcl, hlt, hlk2⟩ := hf
  have hat := hP.2 i hi'
  rw [hw] at hat
  have hP1 : va_P (E.1, E.2.1) classes [(h0 + i, .inr (ci, fs))] H := fun a q hq => by
    have hz : a < 1 := (List.getElem?_eq_some_iff.mp hq).1
    rw [show a = 0 by omega] at hq
    cases hq
    exact hat
  show W p l e R s m args below meth c H locs kc ks Q (F0 m pc ls (Value.ref (E.2.2.1 i) :: st.map (dv E)))
  rw [hi i (by omega)]
  exact va_get (C := Cn) (T := T) (N := M) (ref := (T f).1) hx hb hts (cls_in hcl) hown hK hP1 0 rfl hcl f hlt (hts _ hlk2) (fun _ h => h) hv hd (k H locs ls hP hS hl)
theorem N_iast {i len : Nat} {f : Nat → Int32} {j x : Int32} (g : GN C E h0 own b nL d mc ms) (hd : decode b pc = .ok (.iastore, 1)) (hi' : i < n) (hn : n ≤ 85) (hw : w i = .inl (E.2.2.2 0, len, .inl f)) (hin' : vp_in j len) (k : N C E h0 (pc + 1) lv st n (uw w i (.inl (E.2.2.2 0, len, .inl (upd f j.toNatClampNeg x)))) kc ks) : N C E h0 pc lv (vI x :: vI j :: vR i :: st) n w kc ks := by
  obtain ⟨p, l, e, R, s, m, args, below, meth, c, Q⟩ := C
  obtain ⟨hx, hb, hml, hown, hts, hK, hi, hnw, hrm, hcs, hlk, hin⟩ := id g
  intro H locs ls hP hS hl
  have hat := hP.2 i hi'
  rw [hw] at hat
  have hat : H[h0 + i]? = some (vp_cell (E.2.2.2 0) (len, .inl f)) := hat
  show W p l e R s m args below meth c H locs kc ks Q (F0 m pc ls (Value.int x :: Value.int j :: Value.ref (E.2.2.1 i) :: st.map (dv E)))
  rw [hi i (by omega)]
  refine W.iast hx hb hat ((hK.2 0 _ rfl).1 len (fun j => .int (f j))) (fun q => by cases q) (by show ¬ (j < 0 ∨ (arrV _ _ _).slots.size ≤ _); rw [arrV_size]; exact hin') rfl rfl hd fun H1 e z oq => ?_
  refine k H1 _ ls (hP.set z oq ?_) (hS.put z oq (by show h0 ≤ h0 + i; omega)) hl
  show H1[h0 + i]? = some (vp_cell _ _)
  rw [e, vp_cell_i, vp_cell_i, arrV_store]
  congr 2
  funext q
  by_cases hq : q = j.toNatClampNeg
  · subst hq
    simp [updV, upd]
  · simp [updV, upd, hq]
theorem N_runI {y : MethodName} {b' : ByteArray} {nL' d' mc' ms' n' : Nat} {as : List Vl} {w' : Nat → va_E} {st0 : List Vl} (g : GN C E h0 own b nL d mc ms) (hct : CtN E h0 y b' nL' d' mc' ms' as n w n' w')
    (run : match C with | (p, l, e, R, s, m, args, below, meth, c, Q) => ∀ (H : Heap) (locs : List Loc) (ls : Array Slot), Pw E h0 n w H → va_S (Ab h0) s.heap H locs → lv_has ls c.maxLocals (dl E lv) → va_Run p l e R s m args below meth c H locs kc ks mc' ms' (F0 m pc ls (st0.map (dv E))) (st.map (dv E)) (QN E h0 n' w' (as.map (dv E)).toArray) (Ab h0))
    (k : N C E h0 (pc + 3) lv st n' w' (kc + mc') (ks + ms')) : N C E h0 pc lv st0 n w kc ks := by
  obtain ⟨p, l, e, R, s, m, args, below, meth, c, Q⟩ := C
  obtain ⟨hx, hb, hml, hown, hts, hK, hi, hnw, hrm, hcs, hlk, hin⟩ := id g
  intro H locs ls hP hS hl
  intro T hT X
  obtain ⟨v, st₀, t, T', L, q0, X', hL, e1, e2, ⟨hv, hWn, hz, hk⟩, stp⟩ := run H locs ls hP hS hl T hT X
  have hv' : v = none := by cases hv; rfl
  subst hv'
  rw [q0] at hz hk
  obtain ⟨t2, a1, b1⟩ := k T'.heap (locs ++ L) ls (by rw [e1]; exact hWn.1) ⟨Nat.le_trans hS.1 (by rw [e1]; exact hz), fun q h1 h2 => by rw [e1, hk q (Nat.lt_of_lt_of_le h1 hS.1) h2]; exact hS.2.1 q h1 h2, fun q hq => by
      rcases List.mem_append.mp hq with h | h
      · exact hS.2.2 q h
      · exact hL q h⟩ hl T' rfl X'
  exact ⟨t2, stp t2 a1, b1⟩
theorem N_call {y : MethodName} {b' : ByteArray} {nL' d' mc' ms' n' np idx j : Nat} {as : List Vl} {w' : Nat → va_E} {st0 : List Vl} (g : GN C E h0 own b nL d mc ms) (hd : decode b pc = .ok (.invokespecial idx, 3)) (hm : Cond.methodLink own idx y ∈ gw_tbl) (mo : Mc y b' nL' none np) (hy : y.name = "<init>") (hct : CtN E h0 y b' nL' d' mc' ms' (vR j :: as) n w n' w') (hdd : d' < d) (hn' : nL' ≤ 200) (hnp : as.length = np) (h1 : st0 = as.reverse ++ vR j :: st) (hw : Nat.ble (st.map cat).sum 8 = true) (hc : kc + mc' ≤ mc) (hs : ks + ms' ≤ ms)
    (k : N C E h0 (pc + 3) lv st n' w' (kc + mc') (ks + ms')) : N C E h0 pc lv st0 n w kc ks := by
  refine N_runI g hct ?_ k
  obtain ⟨p, l, e, R, s, m, args, below, meth, c, Q⟩ := C
  obtain ⟨hx, hb, hml, hown, hts, hK, hi, hnw, hrm, hcs, hlk, hin⟩ := id g
  intro H locs ls hP hS hl
  obtain ⟨⟨m1, m2, m3⟩, m4⟩ := mo
  refine va_runI (bytes := b') (maxL := nL') (ws := Cond.code y b' nL' none :: gw_tbl) (rm := rmN d' mc' ms') (n := np) (index := idx) (As := as.map (dv E)) (rest := st.map (dv E)) (b := E.2.2.1 j) ⟨hx, hb, hml, hown, hts⟩ (hct l)
    ⟨callB_of np hts (gw_ok m1) rfl rfl rfl (hts _ m2) (hts _ hm) m3 ⟨by show d' + 1 + 1 ≤ _; omega, by show 8 + (nL' + 11) + 256 * (d' + 1) ≤ _; omega⟩, hy, hts _ m4⟩ ⟨Wn.blind, fun U hU hW => ⟨rfl, by rw [hU]; exact hP, hK.moved hW.alike, hnw.warm hW⟩⟩ rfl (by rw [List.length_map]; exact hnp) (hl.1.trans hml) ?_ (lv_room (by rw [cat_sum E st]; exact Nat.le_of_ble_eq_true hw)) hd ⟨by omega, by omega⟩
  rw [h1]
  show List.map (dv E) (as.reverse ++ vR j :: st) = _
  rw [List.map_append, List.map_reverse]
  rfl
theorem N_callN {y : MethodName} {b' : ByteArray} {nL' d' mc' ms' n' np idx j : Nat} {as : List Vl} {w' : Nat → va_E} {st0 : List Vl} (g : GN C E h0 own b nL d mc ms) (hd : decode b pc = .ok (.invokespecial idx, 3)) (hm : ∀ s, NwI s → va_Nw (Cond.methodLinkNest own idx y "SleepingJudge") s) (mo : Mc y b' nL' none np) (hy : y.name = "<init>") (hct : CtN E h0 y b' nL' d' mc' ms' (vR j :: as) n w n' w') (hdd : d' < d) (hn' : nL' ≤ 200) (hnp : as.length = np) (h1 : st0 = as.reverse ++ vR j :: st) (hw : Nat.ble (st.map cat).sum 8 = true) (hc : kc + mc' ≤ mc) (hs : ks + ms' ≤ ms)
    (k : N C E h0 (pc + 3) lv st n' w' (kc + mc') (ks + ms')) : N C E h0 pc lv st0 n w kc ks := by
  refine N_runI g hct ?_ k
  obtain ⟨p, l, e, R, s, m, args, below, meth, c, Q⟩ := C
  obtain ⟨hx, hb, hml, hown, hts, hK, hi, hnw, hrm, hcs, hlk, hin⟩ := id g
  intro H locs ls hP hS hl
  obtain ⟨⟨m1, m2, m3⟩, m4⟩ := mo
  refine va_runIN (host := "SleepingJudge") (bytes := b') (maxL := nL') (ws := Cond.code y b' nL' none :: gw_tbl) (rm := rmN d' mc' ms') (n := np) (index := idx) (As := as.map (dv E)) (rest := st.map (dv E)) (b := E.2.2.1 j) ⟨hx, hb, hml, hown, hts⟩ (hct l)
    ⟨va_cnB np hts (gw_ok m1) rfl rfl rfl (hm s hnw) (hts _ m2) m3 ⟨by show d' + 1 + 1 ≤ _; omega, by show 8 + (nL' + 11) + 256 * (d' + 1) ≤ _; omega⟩, hy, hts _ m4⟩ ⟨Wn.blind, fun U hU hW => ⟨rfl, by rw [hU]; exact hP, hK.moved hW.alike, hnw.warm hW⟩⟩ rfl (by rw [List.length_map]; exact hnp) (hl.1.trans hml) ?_ (lv_room (by rw [cat_sum E st]; exact Nat.le_of_ble_eq_true hw)) hd ⟨by omega, by omega⟩
  rw [h1]
  show List.map (dv E) (as.reverse ++ vR j :: st) = _
  rw [List.map_append, List.map_reverse]
  rfl
end NR
