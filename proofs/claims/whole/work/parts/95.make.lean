/-! ===== making the cells ===== -/
abbrev Cz : Type := Program × Launch × Env × Room × State × MethodId × Array Value × List Frame × Method × Code × (State → Prop)
def uw (w : Nat → va_E) (k : Nat) (e : va_E) : Nat → va_E := fun j => if j = k then e else w j
/-- n cells stand, from h0 on -/
def Pw (E : En) (h0 n : Nat) (w : Nat → va_E) (H : Heap) : Prop := H.size = h0 + n ∧ ∀ k, k < n → va_at (E.1, E.2.1) classes (h0 + k, w k) H
def Ab (h0 : Nat) : Nat → Prop := fun q => h0 ≤ q
def Li (E : En) (h0 : Nat) : Prop := ∀ j, j < 85 → E.2.2.1 j = h0 + j
/-- the class of rows of rows -/
def AOr (U : State) : Prop := ∃ (comp c : ClassId) (k : Class), U.vm.findClass (FieldType.array .int).toString = some comp ∧ U.vm.classes[c]? = some k ∧ k.kind = .array comp (.array .int) ∧ U.vm.findClass ("[" ++ (FieldType.array .int).toString) = some c
theorem AOr.moved {u U : State} (hvm : u.vm.Alike U.vm) (h : AOr u) : AOr U := by
  obtain ⟨comp, c, k, h1, h2, h3, h4⟩ := h
  obtain ⟨k', hk', he⟩ := hvm.2.2 _ _ h2
  exact ⟨comp, c, k', by rw [hvm.findClass]; exact h1, hk', by rw [he]; exact h3, by rw [hvm.findClass]; exact h4⟩
def NwI (U : State) : Prop := (AOr U ∧ va_AO "SleepingJudge$Court" U) ∧ va_Nw (Cond.methodLinkNest RX9 9 yX5_init "SleepingJudge") U ∧ va_Nw (Cond.methodLinkNest RX9 18 yX6_init "SleepingJudge") U ∧ va_Nw (Cond.methodLinkNest RX9 25 yX2_init "SleepingJudge") U ∧ va_Nw (Cond.methodLinkNest RX9 44 yX0_init "SleepingJudge") U
def N (C : Cz) (E : En) (h0 pc : Nat) (lv : List (Nat × Vl)) (st : List Vl) (n : Nat) (w : Nat → va_E) (kc ks : Nat) : Prop :=
  match C with
  | (p, l, e, R, s, m, args, below, meth, c, Q) => ∀ (H : Heap) (locs : List Loc) (ls : Array Slot), Pw E h0 n w H → va_S (Ab h0) s.heap H locs → lv_has ls c.maxLocals (dl E lv) → W p l e R s m args below meth c H locs kc ks Q (F0 m pc ls (st.map (dv E)))
def GN (C : Cz) (E : En) (h0 : Nat) (own : String) (b : ByteArray) (nL d mc ms : Nat) : Prop :=
  match C with
  | (p, _, _, R, s, m, args, _, meth, c, _) => p.tables.exec = Jvm.exec ∧ c.code = b ∧ c.maxLocals = nL ∧ s.vm.findClass own = some m.cls ∧ (∀ w ∈ gw_tbl, w.before args s = true) ∧ va_K (E.1, E.2.1) classes (tysE E) s ∧ Li E h0 ∧ NwI s ∧ (d + 1 ≤ R.frames ∧ 256 * (d + 1) ≤ R.locals) ∧ (mc ≤ R.cells ∧ ms ≤ R.slots) ∧ meth.locks = false ∧ (own ≠ RL → meth.name = "<init>")
theorem at_kept {D : va_G} {q : Nat × va_E} {H H1 : Heap} (hk : H1[q.1]? = H[q.1]?) (h : va_at D classes q H) : va_at D classes q H1 := by
  obtain ⟨a, e⟩ := q
  rcases e with x | x
  · show H1[a]? = _
    exact hk.trans h
  · obtain ⟨r, h1, cell, q1, q2⟩ := h
    exact ⟨r, h1, cell, hk.trans q1, q2⟩
theorem Pw.set {E : En} {h0 n k : Nat} {w : Nat → va_E} {e : va_E} {H H1 : Heap} (h : Pw E h0 n w H) (z : H1.size = H.size) (oq : ∀ q, q ≠ h0 + k → H1[q]? = H[q]?) (he : va_at (E.1, E.2.1) classes (h0 + k, e) H1) : Pw E h0 n (uw w k e) H1 := by
  refine ⟨z.trans h.1, fun j hj => ?_⟩
  unfold uw
  by_cases q : j = k
  · rw [if_pos q, q]; exact he
  · rw [if_neg q]; exact at_kept (oq _ (by show h0 + j ≠ h0 + k; omega)) (h.2 j hj)
theorem Pw.push {E : En} {h0 n : Nat} {w : Nat → va_E} {e : va_E} {H H1 : Heap} (h : Pw E h0 n w H) (z : H1.size = H.size + 1) (o : ∀ q, q < H.size → H1[q]? = H[q]?) (he : va_at (E.1, E.2.1) classes (h0 + n, e) H1) : Pw E h0 (n + 1) (uw w n e) H1 := by
  refine ⟨by rw [z, h.1]; omega, fun j hj => ?_⟩
  unfold uw
  by_cases q : j = n
  · rw [if_pos q, q]; exact he
  · rw [if_neg q]; exact at_kept (o _ (by show h0 + j < H.size; rw [h.1]; omega)) (h.2 j (by omega))
theorem S_push {A : Nat → Prop} {H0 H H1 : Heap} {locs : List Loc} (hS : va_S A H0 H locs) (z : H1.size = H.size + 1) (o : ∀ q, q < H.size → H1[q]? = H[q]?) : va_S A H0 H1 locs := ⟨Nat.le_trans hS.1 (by omega), fun x h1 h2 => (o x (Nat.lt_of_lt_of_le h1 hS.1)).trans (hS.2.1 x h1 h2), hS.2.2⟩
section NR
variable {C : Cz} {E : En} {h0 : Nat} {own : String} {b : ByteArray} {nL d mc ms pc : Nat} {lv : List (Nat × Vl)} {st : List Vl} {n : Nat} {w : Nat → va_E} {kc ks : Nat}
theorem N_aload_n {i : Fin 4} {x : Nat} (g : GN C E h0 own b nL d mc ms) (hd : decode b pc = .ok (.aload_n i, 1)) (h : lget lv i = some (vR x)) (k : N C E h0 (pc + 1) lv (vR x :: st) n w kc ks) : N C E h0 pc lv st n w kc ks := by
  obtain ⟨p, l, e, R, s, m, args, below, meth, c, Q⟩ := C
  obtain ⟨hx, hb, hml, hown, hts, hK, hi, hnw, hrm, hcs, hlk, hin⟩ := id g
  intro H locs ls hP hS hl
  exact lv_aload_n hx hb hd rfl (lget_at hl h) (k H locs ls hP hS hl)
theorem N_astore_n {i : Fin 4} {x : Nat} {lv' : List (Nat × Vl)} (g : GN C E h0 own b nL d mc ms) (hd : decode b pc = .ok (.astore_n i, 1)) (hn : (i : Nat) < nL) (hv : lsto lv i (vR x) = lv') (k : N C E h0 (pc + 1) lv' st n w kc ks) : N C E h0 pc lv (vR x :: st) n w kc ks := by
  obtain ⟨p, l, e, R, s, m, args, below, meth, c, Q⟩ := C
  obtain ⟨hx, hb, hml, hown, hts, hK, hi, hnw, hrm, hcs, hlk, hin⟩ := id g
  intro H locs ls hP hS hl
  exact lv_astore_n hx hb hd rfl hl (by rw [hml]; exact hn) rfl (fun ls hl => k H locs ls hP hS (hv ▸ lsto_sub hl))
theorem N_iconst {z : Int} {v : Int32} (g : GN C E h0 own b nL d mc ms) (hd : decode b pc = .ok (.iconst z, 1)) (hv : Int32.ofInt z = v) (k : N C E h0 (pc + 1) lv (vI v :: st) n w kc ks) : N C E h0 pc lv st n w kc ks := by
  obtain ⟨p, l, e, R, s, m, args, below, meth, c, Q⟩ := C
  obtain ⟨hx, hb, hml, hown, hts, hK, hi, hnw, hrm, hcs, hlk, hin⟩ := id g
  intro H locs ls hP hS hl
  exact lv_iconst hx hb hd hv (k H locs ls hP hS hl)
theorem N_bipush {z : Int} {v : Int32} (g : GN C E h0 own b nL d mc ms) (hd : decode b pc = .ok (.bipush z, 2)) (hv : (Int8.ofInt z).toInt32 = v) (k : N C E h0 (pc + 2) lv (vI v :: st) n w kc ks) : N C E h0 pc lv st n w kc ks := by
  obtain ⟨p, l, e, R, s, m, args, below, meth, c, Q⟩ := C
  obtain ⟨hx, hb, hml, hown, hts, hK, hi, hnw, hrm, hcs, hlk, hin⟩ := id g
  intro H locs ls hP hS hl
  exact lv_bipush hx hb hd hv (k H locs ls hP hS hl)
theorem N_sipush {z : Int} {v : Int32} (g : GN C E h0 own b nL d mc ms) (hd : decode b pc = .ok (.sipush z, 3)) (hv : (Int16.ofInt z).toInt32 = v) (k : N C E h0 (pc + 3) lv (vI v :: st) n w kc ks) : N C E h0 pc lv st n w kc ks := by
  obtain ⟨p, l, e, R, s, m, args, below, meth, c, Q⟩ := C
  obtain ⟨hx, hb, hml, hown, hts, hK, hi, hnw, hrm, hcs, hlk, hin⟩ := id g
  intro H locs ls hP hS hl
  exact lv_sipush hx hb hd hv (k H locs ls hP hS hl)
theorem N_dup {x : Vl} (g : GN C E h0 own b nL d mc ms) (hd : decode b pc = .ok (.dup, 1)) (hc : cat x = 1) (k : N C E h0 (pc + 1) lv (x :: x :: st) n w kc ks) : N C E h0 pc lv (x :: st) n w kc ks := by
  obtain ⟨p, l, e, R, s, m, args, below, meth, c, Q⟩ := C
  obtain ⟨hx, hb, hml, hown, hts, hK, hi, hnw, hrm, hcs, hlk, hin⟩ := id g
  intro H locs ls hP hS hl
  exact lv_dup hx hb hd ((cat_eq E x).trans hc) (k H locs ls hP hS hl)
theorem ac_int : Cond.arrayClass .int ∈ gw_tbl := tb 43 (by decide +kernel)
theorem ac_bool : Cond.arrayClass .boolean ∈ gw_tbl := tb 1042 (by decide +kernel)
theorem N_newi {x : Int32} {len : Nat} (g : GN C E h0 own b nL d mc ms) (hd : decode b pc = .ok (.newarray .int, 2)) (hn : n < 85) (hx0 : ¬ x < 0) (hxl : x.toNatClampNeg = len) (hlen : Nat.ble len 100000 = true) (hc : kc + 1 ≤ mc) (hs : ks + len ≤ ms)
    (k : N C E h0 (pc + 2) lv (vR n :: st) (n + 1) (uw w n (.inl (E.2.2.2 0, len, .inl (fun _ => 0)))) (kc + 1) (ks + len)) : N C E h0 pc lv (vI x :: st) n w kc ks := by
  obtain ⟨p, l, e, R, s, m, args, below, meth, c, Q⟩ := C
  obtain ⟨hx, hb, hml, hown, hts, hK, hi, hnw, hrm, hcs, hlk, hin⟩ := id g
  intro H locs ls hP hS hl
  have hlen' := Nat.le_of_ble_eq_true hlen
  refine va_newaK (atype := .int) hx hb (hts _ ac_int) rfl hd rfl hx0 hxl (by show len * 4 ≤ _; omega) (by omega) (by omega) rfl fun H1 cA e1 z1 o1 hAr hNm => ?_
  have ec : cA = E.2.2.2 0 := Option.some.inj (hNm.symm.trans (hK.2 0 _ rfl).2)
  subst ec
  have q := k H1 locs ls (hP.push z1 o1 (by show H1[h0 + n]? = some (vp_cell _ _); rw [vp_cell_i, ← hP.1]; exact e1)) (S_push hS z1 o1) hl
  have q : W p l e R s m args below meth c H1 locs (kc + 1) (ks + len) Q (F0 m (pc + 2) ls (Value.ref (E.2.2.1 n) :: st.map (dv E))) := q
  rw [hi n hn, ← hP.1] at q
  exact q
theorem N_newb {x : Int32} {len : Nat} (g : GN C E h0 own b nL d mc ms) (hd : decode b pc = .ok (.newarray .boolean, 2)) (hn : n < 85) (hx0 : ¬ x < 0) (hxl : x.toNatClampNeg = len) (hlen : Nat.ble len 100000 = true) (hc : kc + 1 ≤ mc) (hs : ks + len ≤ ms)
    (k : N C E h0 (pc + 2) lv (vR n :: st) (n + 1) (uw w n (.inl (E.2.2.2 1, len, .inl (fun _ => 0)))) (kc + 1) (ks + len)) : N C E h0 pc lv (vI x :: st) n w kc ks := by
  obtain ⟨p, l, e, R, s, m, args, below, meth, c, Q⟩ := C
  obtain ⟨hx, hb, hml, hown, hts, hK, hi, hnw, hrm, hcs, hlk, hin⟩ := id g
  intro H locs ls hP hS hl
  have hlen' := Nat.le_of_ble_eq_true hlen
  refine va_newaK (atype := .boolean) hx hb (hts _ ac_bool) rfl hd rfl hx0 hxl (by show len * 1 ≤ _; omega) (by omega) (by omega) rfl fun H1 cA e1 z1 o1 hAr hNm => ?_
  have ec : cA = E.2.2.2 1 := Option.some.inj (hNm.symm.trans (hK.2 1 _ rfl).2)
  subst ec
  have q := k H1 locs ls (hP.push z1 o1 (by show H1[h0 + n]? = some (vp_cell _ _); rw [vp_cell_i, ← hP.1]; exact e1)) (S_push hS z1 o1) hl
  have q : W p l e R s m args below meth c H1 locs (kc + 1) (ks + len) Q (F0 m (pc + 2) ls (Value.ref (E.2.2.1 n) :: st.map (dv E))) := q
  rw [hi n hn, ← hP.1] at q
  exact q
def fldF (own : String) (ci k : Nat) : Bool := match classes[ci]? with
  | some q => (q.2.1 k).2.2.2 && decide ((q.2.1 k).1 = own) && (match parseFieldDescriptor (q.2.1 k).2.2.1 with | some (.object _) => true | some (.array _) => true | _ => false)
  | none => false
theorem fldF_spec {own : String} {ci k : Nat} {Cn : String} {T : u_T} {M : Nat} (h : classes[ci]? = some (Cn, T, M)) (hi : fldF own ci k = true) : ∃ (ty0 : Nat → FieldType) (ty : FieldType), (∀ k, k < M → parseFieldDescriptor (T k).2.2.1 = some (ty0 k)) ∧ (∀ a, a < M → ∀ b, b < M → a ≠ b → (T a).2.1 ≠ (T b).2.1) ∧ (T k).2.2.2 = true ∧ (T k).1 = own ∧ parseFieldDescriptor (T k).2.2.1 = some ty ∧ ∀ a, narrow ty (.ref a) = .ref a ∧ fits ty (.ref a) = true := by
  obtain ⟨ty0, h1, h2⟩ := cls_ty h
  unfold fldF at hi
  rw [h] at hi
  simp only [Bool.and_eq_true, decide_eq_true_eq] at hi
  obtain ⟨⟨a, b⟩, c⟩ := hi
  cases hp : parseFieldDescriptor (T k).2.2.1 with
  | none => rw [hp] at c; cases c
  | some ty =>
    refine ⟨ty0, ty, h1, h2, a, b, rfl, fun q => ?_⟩
    rw [hp] at c
    cases ty with
    | object _ => exact ⟨rfl, rfl⟩
    | array _ => exact ⟨rfl, rfl⟩
    | _ => cases c
theorem N_putF {i idx ci f r : Nat} {fs : List Value} (g : GN C E h0 own b nL d mc ms) (ho : own ≠ RL) (hd : decode b pc = .ok (.putfield idx, 3)) (hf : FLk own idx ci f) (hF : fldF own ci f = true) (hi' : i < n) (hn : n ≤ 85) (hw : w i = .inr (ci, fs)) (hl' : f < fs.length)
    (k : N C E h0 (pc + 3) lv st n (uw w i (.inr (ci, fs.set f (.ref (E.2.2.1 r))))) kc ks) : N C E h0 pc lv (vR r :: vR i :: st) n w kc ks := by
  obtain ⟨p, l, e, R, s, m, args, below, meth, c, Q⟩ := C
  obtain ⟨hx, hb, hml, hown, hts, hK, hi, hnw, hrm, hcs, hlk, hin2⟩ := id g
  intro H locs ls hP hS hl
  obtain ⟨⟨Cn, T, M⟩, hcl, hlt, hlk2⟩ := hf
  obtain ⟨ty0, ty, hty, hnm, hfin, hdecl, hdp, hft⟩ := fldF_spec hcl hF
  have hap := va_apart (own := own) hts (cls_in hcl) ty0 hty hnm hK hcl
  have hat := hP.2 i hi'
  rw [hw] at hat
  obtain ⟨r', h1, cell, q1, q2, q3, q4⟩ := hat
  have hr : r' = (Cn, T, M) := Option.some.inj (h1.symm.trans hcl)
  subst hr
  obtain ⟨hSl, hfc, kC, hkC, hkind⟩ := hK.1 ci _ hcl
  obtain ⟨cf, kf, fi, fd, hif, hsl⟩ := hSl f hlt
  have hlay := hts _ (cls_in hcl _ (u_in_lay hlt))
  unfold u_lay at hlay
  rw [if_pos hfin] at hlay
  have hst := (u_facts hfc hkC (u_lays hts (cls_in hcl) hlt) hif).1
  have hcf : m.cls = cf := by
    obtain ⟨_, _, c', _, _, _, -, -, hf', -, -, -, hown2, -⟩ := Cond.laysFinal_spec hlay
    have e1 : c' = cf := by have := hif.symm.trans hf'; simp at this; exact this.1.symm
    rw [hdecl] at hown2
    rw [← e1]; exact Option.some.inj (hown.symm.trans hown2)
  have h6 := u_fits hfc hkC hkind (Or.inr hlay) hif hdp (hft (E.2.2.1 r)).1 (hft (E.2.2.1 r)).2
  show W p l e R s m args below meth c H locs kc ks Q (F0 m pc ls (Value.ref (E.2.2.1 r) :: Value.ref (E.2.2.1 i) :: st.map (dv E)))
  rw [hi i (by omega)]
  refine W.putFinK hx hb hown (hts _ hlk2) hif hst hcf (hin2 ho) (by rw [q2]; exact h6) q1 q3 (by rw [hsl]; exact k2_hasslot (q4 f hlt)) rfl rfl hd fun H' e1 e2 e3 => ?_
  rw [hsl] at e1 ⊢
  exact k H' _ ls (hP.set e2 e3 ⟨_, hcl, t_OB.to (V := updV (vp_V fs) f _) ⟨_, e1, q2, q3, t_set q4 hap hlt _⟩ (fun j _ => vp_updV_set hl' _ j)⟩) (hS.put e2 e3 (by show h0 ≤ h0 + i; omega)) hl
end NR
