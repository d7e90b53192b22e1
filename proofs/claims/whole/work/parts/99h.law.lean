/-! THE CLAIM OUT OF ONE WALK OF THE LAW'S BODY. Your part is whole_start (and what it stands on); all else here is the same for every law, but numbers. -/
def R_law : String := "SleepingJudgeLaw"
def lw_P (b : Addr) (xs : List Int32) (args : Array Value) (s : State) : Prop := args = #[.ref b] ∧ s.IntsAt b xs ∧ xs.length ≤ 512 ∧ (Jvm.Cond.and given_1 narrow_1).before args s = true
def lw_Q (_ : Array Value) (s : State) (o : Outcome) (t : State) : Prop := o = .returned (some (.int 1)) ∧ Framed s o t [] 600000 7302250
def lw_Z (below : List Frame) (a : Array Value) (s : State) : State → Prop := fun t => ∃ o, t.status = .running ∧ Ended t below o ∧ lw_Q a s o t
/-- the law's own end, with 1 on the stack, nothing written that was there before, its room as the claim has it -/
theorem lw_ret {p : Program} {l : Launch} {e : Env} {s : State} {m : MethodId} {below : List Frame} {meth : Method} {c : Code} {b : Nat} (hx : p.tables.exec = Jvm.exec) (hb : c.code = code) (hr : meth.sig.returnType = ret) (hlocks : meth.locks = false) {pc : Nat} {H : Heap} {ls : Array Slot} (hdg : decode code pc = .ok (.ireturn, 1)) : W p l e room_1 s m #[Value.ref b] below meth c H [] 600000 7302250 (lw_Z below #[Value.ref b] s) (F0 m pc ls [.int 1]) := by
  intro T hT X
  obtain ⟨fs, hret, hrun, hended, hW, hframe⟩ := X.leave (v := some (.int 1)) (hlocks := hlocks) (fun h => by rw [hr] at h; cases h)
  have hmeth' : T.vm.method? m = some meth := X.method'
  refine ⟨T.setFrames fs, ?_, .returned (some (.int 1)), hrun, hended, rfl, ⟨_, rfl⟩, hW, hframe⟩
  jvm_step X.here [X.here.top, hx, hb, hdg, hmeth', hr, ret, narrow_b1]
  (try refine ⟨rfl, ?_⟩); (try refine ⟨rfl, ?_⟩)
  first | (intro acts; rw [hret _ acts rfl rfl rfl]) | rw [hret _ _ rfl rfl rfl]
  exact Steps.refl _
/-- what holds at the law's entry: the machine, the code, the tables' words (any of lw_tbl by 'hts w (by decide +kernel)'), the script of L ints xs at the cell b, what the Statement gives of the start (any of its parts by flat_of_before) -/
def lw_At (p : Program) (s : State) (m : MethodId) (meth : Method) (c : Code) (b L : Nat) (xs : Nat → Int32) : Prop :=
  p.tables.exec = Jvm.exec ∧ c.code = code ∧ meth.sig.returnType = ret ∧ c.maxLocals = 4 ∧ s.vm.findClass R_law = some m.cls ∧ (∀ w ∈ lw_tbl, w.before #[Value.ref b] s = true) ∧ va_X b L xs s s.heap ∧ b < s.heap.size ∧ meth.locks = false ∧ (Jvm.Cond.and given_1 narrow_1).before #[Value.ref b] s = true
/-! the start's array classes and static rows -/
theorem ac_f {args : Array Value} {s : State} {ty : FieldType} (h : (Cond.arrayClass ty).before args s = true) : ∃ cA : ClassId, ArrOfT s cA ty ∧ s.vm.findClass ("[" ++ ty.toString) = some cA := by
  obtain ⟨c, k, comp, h1, h2, h3⟩ := Cond.arrayClass_spec h
  exact ⟨c, fun n z => ⟨fun k h => (by cases h), k, h2, comp, h3⟩, h1⟩
theorem ao_f {s : State} {C : String} (h : va_AO C s) : ∃ cA : ClassId, ArrOfT s cA (.object C) ∧ va_RA s cA (.object C) := by
  obtain ⟨comp, c, k, h1, h2, h3, h4, h5⟩ := Cond.arrayOver_spec h
  exact ⟨c, fun n z => ⟨fun k h => (by cases h), k, h3, comp, h4⟩, k, comp, h3, h4, h1, h5⟩
theorem ar_f {s : State} (h : AOr s) : ∃ cA : ClassId, ArrOfT s cA (.array .int) ∧ va_RA s cA (.array .int) := by
  obtain ⟨comp, c, k, h1, h2, h3, h4⟩ := h
  exact ⟨c, fun n z => ⟨fun k h => (by cases h), k, h2, comp, h3⟩, h4⟩
theorem lt_in {w : Cond} (i : Nat) (h : tables_1[i]? = some w) : w ∈ lw_tbl := List.mem_append_right _ (List.mem_of_getElem? h)
theorem lt_AOr : Cond.arrayOver (.array .int) ∈ lw_tbl := lt_in 31 (by decide +kernel)
theorem lt_AO : Cond.arrayOver (.object "SleepingJudge$Court") ∈ lw_tbl := lt_in 187 (by decide +kernel)
theorem lt_n9 : Cond.methodLinkNest RX9 9 yX5_init "SleepingJudge" ∈ lw_tbl := lt_in 26 (by decide +kernel)
theorem lt_n18 : Cond.methodLinkNest RX9 18 yX6_init "SleepingJudge" ∈ lw_tbl := lt_in 46 (by decide +kernel)
theorem lt_n25 : Cond.methodLinkNest RX9 25 yX2_init "SleepingJudge" ∈ lw_tbl := lt_in 61 (by decide +kernel)
theorem lt_n44 : Cond.methodLinkNest RX9 44 yX0_init "SleepingJudge" ∈ lw_tbl := lt_in 172 (by decide +kernel)
theorem lt_n108 : Cond.methodLinkNest RX2 108 yX9_power "SleepingJudge" ∈ lw_tbl := lt_in 851 (by decide +kernel)
theorem lt_s1 : Cond.laysStatic "SleepingJudge$Asking" "SIZE_BODIES" "[I" ∈ lw_tbl := lt_in 910 (by decide +kernel)
theorem lt_s2 : Cond.laysStatic "SleepingJudge$Asking" "MARK_BODIES" "[I" ∈ lw_tbl := lt_in 916 (by decide +kernel)
theorem lt_i1 : Cond.initialized "SleepingJudge$Asking" ∈ lw_tbl := lt_in 10 (by decide +kernel)
theorem cl_L_7 : Cond.classLink RL 7 RX9 ∈ gw_tbl := tb 16 (by decide +kernel)
theorem in_X9 : Cond.instantiable RX9 13 ∈ gw_tbl := tb 17 (by decide +kernel)
theorem cl_L_10 : Cond.classLink RL 10 RX10 ∈ gw_tbl := tb 942 (by decide +kernel)
theorem in_X10 : Cond.instantiable RX10 31 ∈ gw_tbl := tb 943 (by decide +kernel)
theorem st_size {b : Nat} {s : State} (hgv : (Jvm.Cond.and given_1 narrow_1).before #[Value.ref b] s = true) (hts : ∀ w ∈ lw_tbl, w.before #[Value.ref b] s = true) : ∃ t : Nat, va_Z "SleepingJudge$Asking" "SIZE_BODIES" "[I" (.ref t) (Ab s.heap.size) s s.heap ∧ va_T .int t 6 (fun j => .int (szB j)) (Ab s.heap.size) s s.heap := by
  have hs := flat_of_before _ hgv
  have hA : ∀ a : Nat, a < s.heap.size → ¬ Ab s.heap.size a := fun a h => Nat.not_le.mpr h
  have harr : (Cond.arrayOf (Jvm.Term.static "SleepingJudge$Asking" "SIZE_BODIES" "[I") .int).before #[Value.ref b] s = true := hs _ (by decide +kernel)
  have hlen : (Cond.eq (.length (Jvm.Term.static "SleepingJudge$Asking" "SIZE_BODIES" "[I")) (.int 6)).before #[Value.ref b] s = true := hs _ (by decide +kernel)
  have e0 : (Cond.eq (.elem (Jvm.Term.static "SleepingJudge$Asking" "SIZE_BODIES" "[I") (.int 0)) (.int 10)).before #[Value.ref b] s = true := hs _ (by decide +kernel)
  have e1 : (Cond.eq (.elem (Jvm.Term.static "SleepingJudge$Asking" "SIZE_BODIES" "[I") (.int 1)) (.int 11)).before #[Value.ref b] s = true := hs _ (by decide +kernel)
  have e2 : (Cond.eq (.elem (Jvm.Term.static "SleepingJudge$Asking" "SIZE_BODIES" "[I") (.int 2)) (.int 12)).before #[Value.ref b] s = true := hs _ (by decide +kernel)
  have e3 : (Cond.eq (.elem (Jvm.Term.static "SleepingJudge$Asking" "SIZE_BODIES" "[I") (.int 3)) (.int 11)).before #[Value.ref b] s = true := hs _ (by decide +kernel)
  have e4 : (Cond.eq (.elem (Jvm.Term.static "SleepingJudge$Asking" "SIZE_BODIES" "[I") (.int 4)) (.int 13)).before #[Value.ref b] s = true := hs _ (by decide +kernel)
  have e5 : (Cond.eq (.elem (Jvm.Term.static "SleepingJudge$Asking" "SIZE_BODIES" "[I") (.int 5)) (.int 14)).before #[Value.ref b] s = true := hs _ (by decide +kernel)
  obtain ⟨t, h1, h2⟩ := va_Tof (N := 6) (f := fun j => .int (szB j)) (by decide) harr (va_eqt hlen) (fun j hj => by
    rcases (show j = 0 ∨ j = 1 ∨ j = 2 ∨ j = 3 ∨ j = 4 ∨ j = 5 by omega) with rfl | rfl | rfl | rfl | rfl | rfl
    · exact va_eqt e0
    · exact va_eqt e1
    · exact va_eqt e2
    · exact va_eqt e3
    · exact va_eqt e4
    · exact va_eqt e5
    ) hA
  exact ⟨t, va_Zref (hts _ lt_s1) (hts _ lt_i1) h1 hA, h2⟩
theorem st_mark {b : Nat} {s : State} (hgv : (Jvm.Cond.and given_1 narrow_1).before #[Value.ref b] s = true) (hts : ∀ w ∈ lw_tbl, w.before #[Value.ref b] s = true) : ∃ t : Nat, va_Z "SleepingJudge$Asking" "MARK_BODIES" "[I" (.ref t) (Ab s.heap.size) s s.heap ∧ va_T .int t 6 (fun j => .int (mkB j)) (Ab s.heap.size) s s.heap := by
  have hs := flat_of_before _ hgv
  have hA : ∀ a : Nat, a < s.heap.size → ¬ Ab s.heap.size a := fun a h => Nat.not_le.mpr h
  have harr : (Cond.arrayOf (Jvm.Term.static "SleepingJudge$Asking" "MARK_BODIES" "[I") .int).before #[Value.ref b] s = true := hs _ (by decide +kernel)
  have hlen : (Cond.eq (.length (Jvm.Term.static "SleepingJudge$Asking" "MARK_BODIES" "[I")) (.int 6)).before #[Value.ref b] s = true := hs _ (by decide +kernel)
  have e0 : (Cond.eq (.elem (Jvm.Term.static "SleepingJudge$Asking" "MARK_BODIES" "[I") (.int 0)) (.int 20)).before #[Value.ref b] s = true := hs _ (by decide +kernel)
  have e1 : (Cond.eq (.elem (Jvm.Term.static "SleepingJudge$Asking" "MARK_BODIES" "[I") (.int 1)) (.int 21)).before #[Value.ref b] s = true := hs _ (by decide +kernel)
  have e2 : (Cond.eq (.elem (Jvm.Term.static "SleepingJudge$Asking" "MARK_BODIES" "[I") (.int 2)) (.int 24)).before #[Value.ref b] s = true := hs _ (by decide +kernel)
  have e3 : (Cond.eq (.elem (Jvm.Term.static "SleepingJudge$Asking" "MARK_BODIES" "[I") (.int 3)) (.int 22)).before #[Value.ref b] s = true := hs _ (by decide +kernel)
  have e4 : (Cond.eq (.elem (Jvm.Term.static "SleepingJudge$Asking" "MARK_BODIES" "[I") (.int 4)) (.int 23)).before #[Value.ref b] s = true := hs _ (by decide +kernel)
  have e5 : (Cond.eq (.elem (Jvm.Term.static "SleepingJudge$Asking" "MARK_BODIES" "[I") (.int 5)) (.int 23)).before #[Value.ref b] s = true := hs _ (by decide +kernel)
  obtain ⟨t, h1, h2⟩ := va_Tof (N := 6) (f := fun j => .int (mkB j)) (by decide) harr (va_eqt hlen) (fun j hj => by
    rcases (show j = 0 ∨ j = 1 ∨ j = 2 ∨ j = 3 ∨ j = 4 ∨ j = 5 by omega) with rfl | rfl | rfl | rfl | rfl | rfl
    · exact va_eqt e0
    · exact va_eqt e1
    · exact va_eqt e2
    · exact va_eqt e3
    · exact va_eqt e4
    · exact va_eqt e5
    ) hA
  exact ⟨t, va_Zref (hts _ lt_s2) (hts _ lt_i1) h1 hA, h2⟩
def mkE (dC : Nat → ClassId) (dI : Nat → Nat → Nat) (h0 t1 t2 b : Nat) (cI cB cO cR : ClassId) : En := (dC, dI, fun j => if j < 85 then h0 + j else if j = 85 then t1 else if j = 86 then t2 else b, fun t => if t = 0 then cI else if t = 1 then cB else if t = 2 then cO else cR)
theorem ex_E {b : Nat} {s : State} (hgv : (Jvm.Cond.and given_1 narrow_1).before #[Value.ref b] s = true) (hts : ∀ w ∈ lw_tbl, w.before #[Value.ref b] s = true) : ∃ E : En, Li E s.heap.size ∧ va_K (E.1, E.2.1) classes (tysE E) s ∧ Stat E s s.heap ∧ E.2.2.1 87 = b := by
  have htg : ∀ w ∈ gw_tbl, w.before #[Value.ref b] s = true := fun w h => hts w (List.mem_filter.mp h).1
  obtain ⟨c0, i0, k0⟩ := u_known (C := RX0) (T := TX0) (N := 3) (n := 3) htg inX0 (htg _ in_X0)
  obtain ⟨c1, i1, k1⟩ := u_known (C := RX1) (T := TX1) (N := 3) (n := 3) htg inX1 (htg _ in_X1)
  obtain ⟨c2, i2, k2⟩ := u_known (C := RX2) (T := TX2) (N := 15) (n := 15) htg inX2 (htg _ in_X2)
  obtain ⟨c3, i3, k3⟩ := u_known (C := RX3) (T := TX3) (N := 7) (n := 7) htg inX3 (htg _ in_X3)
  obtain ⟨c4, i4, k4⟩ := u_known (C := RX4) (T := TX4) (N := 4) (n := 4) htg inX4 (htg _ in_X4)
  obtain ⟨c5, i5, k5⟩ := u_known (C := RX5) (T := TX5) (N := 3) (n := 3) htg inX5 (htg _ in_X5)
  obtain ⟨c6, i6, k6⟩ := u_known (C := RX6) (T := TX6) (N := 2) (n := 2) htg inX6 (htg _ in_X6)
  obtain ⟨c7, i7, k7⟩ := u_known (C := RX7) (T := TX7) (N := 4) (n := 4) htg inX7 (htg _ in_X7)
  obtain ⟨c8, i8, k8⟩ := u_known (C := RX8) (T := TX8) (N := 8) (n := 8) htg inX8 (htg _ in_X8)
  obtain ⟨c9, i9, k9⟩ := u_known (C := RX9) (T := TX9) (N := 13) (n := 13) htg inX9 (htg _ in_X9)
  obtain ⟨c10, i10, k10⟩ := u_known (C := RX10) (T := TX10) (N := 31) (n := 31) htg inX10 (htg _ in_X10)
  obtain ⟨dC, dI, hKc⟩ : ∃ (dC : Nat → ClassId) (dI : Nat → Nat → Nat), ∀ (k : Nat) (q : vw_C), classes[k]? = some q → u_Kn s q.1 q.2.1 q.2.2 (dC k) (dI k) := by
    refine ⟨fun k => match k with | 0 => c0 | 1 => c1 | 2 => c2 | 3 => c3 | 4 => c4 | 5 => c5 | 6 => c6 | 7 => c7 | 8 => c8 | 9 => c9 | _ => c10, fun k => match k with | 0 => i0 | 1 => i1 | 2 => i2 | 3 => i3 | 4 => i4 | 5 => i5 | 6 => i6 | 7 => i7 | 8 => i8 | 9 => i9 | _ => i10, ?_⟩
    intro k q hq
    match k, hq with
    | 0, hq => cases hq; exact k0
    | 1, hq => cases hq; exact k1
    | 2, hq => cases hq; exact k2
    | 3, hq => cases hq; exact k3
    | 4, hq => cases hq; exact k4
    | 5, hq => cases hq; exact k5
    | 6, hq => cases hq; exact k6
    | 7, hq => cases hq; exact k7
    | 8, hq => cases hq; exact k8
    | 9, hq => cases hq; exact k9
    | 10, hq => cases hq; exact k10
    | k + 11, hq => simp [classes] at hq
  obtain ⟨cI, a1, a2⟩ := ac_f (htg _ ac_int)
  obtain ⟨cB, b1, b2⟩ := ac_f (htg _ ac_bool)
  obtain ⟨cO, o1, o2⟩ := ao_f (va_AO.of (hts _ lt_AO))
  obtain ⟨cR, r1, r2⟩ := ar_f (aoA (hts _ lt_AOr))
  obtain ⟨t1, z1, z2⟩ := st_size hgv hts
  obtain ⟨t2, y1, y2⟩ := st_mark hgv hts
  have hAd : ∀ q, Ad (mkE dC dI s.heap.size t1 t2 b cI cB cO cR) q → Ab s.heap.size q := fun q ⟨j, hj, e⟩ => by
    have e : q = if j < 85 then s.heap.size + j else if j = 85 then t1 else if j = 86 then t2 else b := e
    rw [if_pos hj] at e
    show s.heap.size ≤ q
    omega
  refine ⟨mkE dC dI s.heap.size t1 t2 b cI cB cO cR, fun j hj => if_pos hj, ⟨hKc, fun k q hq => ?_⟩, ⟨⟨z1.narrow hAd, z2.narrow hAd⟩, ⟨y1.narrow hAd, y2.narrow hAd⟩⟩, rfl⟩
  match k, hq with
  | 0, hq => cases hq; exact ⟨a1, a2⟩
  | 1, hq => cases hq; exact ⟨b1, b2⟩
  | 2, hq => cases hq; exact ⟨o1, o2⟩
  | 3, hq => cases hq; exact ⟨r1, r2⟩
  | k + 4, hq => simp [tysE] at hq
/-- both objects are made -/
theorem law_make {C : Cz} {E : En} {h0 : Nat} {w : Nat → va_E} (hG : GN C E h0 RL code 4 12 85 5274) (hL : Li E h0) (k : N C E h0 16 [(0, vR 87), (1, vR 0), (2, vR 67)] [] 85 (W0 E w) 85 5274) : N C E h0 0 [(0, vR 87)] [] 0 w 0 0 := by
  refine N_new (n := 0) (pc := 0) hG (dk dd_L_law_0 0 rfl) (ci := 9) (fs := [.null, .null, .null, .null, .null, .null, .null, .null, .null, .null, .null, .int 0, .int 0]) rfl tyX9_ok cl_L_7 in_X9 ini_X9 (fun j hj => by rcases (show j = 0 ∨ j = 1 ∨ j = 2 ∨ j = 3 ∨ j = 4 ∨ j = 5 ∨ j = 6 ∨ j = 7 ∨ j = 8 ∨ j = 9 ∨ j = 10 ∨ j = 11 ∨ j = 12 by omega) with rfl | rfl | rfl | rfl | rfl | rfl | rfl | rfl | rfl | rfl | rfl | rfl | rfl <;> rfl) (by decide) (Nat.le_of_ble_eq_true rfl) (Nat.le_of_ble_eq_true rfl) ?_
  refine N_dup (pc := 3) hG (dk dd_L_law_0 1 rfl) rfl ?_
  refine N_call (n := 1) (pc := 4) hG (dk dd_L_law_0 2 rfl) ml_L_9 mo_X9_init rfl (n_X9_init hL uw_s) (by decide) (by decide) rfl rfl rfl (Nat.le_of_ble_eq_true rfl) (Nat.le_of_ble_eq_true rfl) ?_
  refine N_astore_n (pc := 7) hG (dk dd_L_law_0 3 rfl) (by decide) (lv' := [(0, vR 87), (1, vR 0)]) rfl ?_
  refine N_new (n := 67) (pc := 8) hG (dk dd_L_law_0 4 rfl) (ci := 10) (fs := [.int 0, .int 0, .null, .null, .null, .null, .null, .null, .null, .int 0, .null, .int 0, .int 0, .int 0, .int 0, .int 0, .int 0, .int 0, .int 0, .null, .null, .null, .null, .null, .int 0, .int 0, .null, .null, .null, .null, .int 0]) rfl tyX10_ok cl_L_10 in_X10 ini_X10 (fun j hj => by rcases (show j = 0 ∨ j = 1 ∨ j = 2 ∨ j = 3 ∨ j = 4 ∨ j = 5 ∨ j = 6 ∨ j = 7 ∨ j = 8 ∨ j = 9 ∨ j = 10 ∨ j = 11 ∨ j = 12 ∨ j = 13 ∨ j = 14 ∨ j = 15 ∨ j = 16 ∨ j = 17 ∨ j = 18 ∨ j = 19 ∨ j = 20 ∨ j = 21 ∨ j = 22 ∨ j = 23 ∨ j = 24 ∨ j = 25 ∨ j = 26 ∨ j = 27 ∨ j = 28 ∨ j = 29 ∨ j = 30 by omega) with rfl | rfl | rfl | rfl | rfl | rfl | rfl | rfl | rfl | rfl | rfl | rfl | rfl | rfl | rfl | rfl | rfl | rfl | rfl | rfl | rfl | rfl | rfl | rfl | rfl | rfl | rfl | rfl | rfl | rfl | rfl <;> rfl) (by decide) (Nat.le_of_ble_eq_true rfl) (Nat.le_of_ble_eq_true rfl) ?_
  refine N_dup (pc := 11) hG (dk dd_L_law_0 5 rfl) rfl ?_
  refine N_call (n := 68) (pc := 12) hG (dk dd_L_law_0 6 rfl) ml_L_12 mo_X10_init rfl (n_X10_init (b := 67) hL (by decide) uw_s) (by decide) (by decide) rfl rfl rfl (Nat.le_of_ble_eq_true rfl) (Nat.le_of_ble_eq_true rfl) ?_
  refine N_astore_n (pc := 15) hG (dk dd_L_law_0 7 rfl) (by decide) (lv' := [(0, vR 87), (1, vR 0), (2, vR 67)]) rfl ?_
  exact k
set_option maxHeartbeats 4000000 in
set_option maxRecDepth 100000 in
theorem whole_start {p : Program} {e : Env} {s : State} {m : MethodId} {below : List Frame} {meth : Method} {c : Code} (l : Launch) (hflags : l.flags = flags0) {b L : Nat} {xs : Nat → Int32} (hL : L ≤ 512) (C0 : lw_At p s m meth c b L xs) : W p l e room_1 s m #[Value.ref b] below meth c s.heap [] 0 0 (lw_Z below #[Value.ref b] s) (entryFrame m ([Value.ref b] : List Value).toArray 4) := by
  obtain ⟨hx, hb, hr, hml, hown, hts, hX, hbl, hlocks, hgv⟩ := id C0
  have htg : ∀ w ∈ gw_tbl, w.before #[Value.ref b] s = true := fun w h => hts w (List.mem_filter.mp h).1
  obtain ⟨E, hLi, hK, hSt, h87⟩ := ex_E hgv hts
  have hInj : Inj E := fun i j hi hj h => by rw [hLi i hi, hLi j hj] at h; omega
  have hAd : ∀ q, Ad E q → s.heap.size ≤ q := fun q ⟨j, hj, e⟩ => by rw [e, hLi j hj]; omega
  have hNI : NwI s := ⟨⟨aoA (hts _ lt_AOr), va_AO.of (hts _ lt_AO)⟩, va_Nw.of rfl (hts _ lt_n9), va_Nw.of rfl (hts _ lt_n18), va_Nw.of rfl (hts _ lt_n25), va_Nw.of rfl (hts _ lt_n44)⟩
  have hNP : NwP s := va_Nw.of rfl (hts _ lt_n108)
  have hl := lv_entry ([.ref b]) (n := 4) (Nat.le_of_ble_eq_true rfl)
  rw [lg_entry_eq]
  generalize (lg_sl ([.ref b]) ++ List.replicate (4 - (lg_sl ([.ref b])).length) Slot.unset).toArray = ls at hl ⊢
  have hl : lv_has ls 4 [(0, .ref b)] := hl
  have hG : GN (p, l, e, room_1, s, m, #[Value.ref b], below, meth, c, lw_Z below #[Value.ref b] s) E s.heap.size RL code 4 12 85 5274 := ⟨hx, hb, hml, hown, htg, hK, hLi, hNI, ⟨(Nat.le_of_ble_eq_true rfl), (Nat.le_of_ble_eq_true rfl)⟩, ⟨(Nat.le_of_ble_eq_true rfl), (Nat.le_of_ble_eq_true rfl)⟩, hlocks, fun h => absurd rfl h⟩
  have hG' : G (p, l, e, room_1, s, m, #[Value.ref b], below, meth, c, lw_Z below #[Value.ref b] s, (85, 5274), E) RL code 4 12 := ⟨hx, hb, hml, hown, htg, hK, hInj, hSt, hNP, ⟨(Nat.le_of_ble_eq_true rfl), (Nat.le_of_ble_eq_true rfl)⟩, ⟨(Nat.le_of_ble_eq_true rfl), (Nat.le_of_ble_eq_true rfl)⟩, hlocks⟩
  have hSc : Scr (p, l, e, room_1, s, m, #[Value.ref b], below, meth, c, lw_Z below #[Value.ref b] s, (85, 5274), E) L xs := ⟨by rw [h87]; exact hX, by rw [h87]; exact hbl, fun h => absurd (hAd _ h) (by rw [h87]; exact Nat.not_le.mpr hbl)⟩
  have hE : ∀ (i : Nat) (μ : Mem), V (p, l, e, room_1, s, m, #[Value.ref b], below, meth, c, lw_Z below #[Value.ref b] s, (85, 5274), E) 1434 [(0, vR 87), (1, vR 0), (2, vR 67), (3, vI (nI i))] [] μ := by
    intro i μ H locs ls hP hS hl
    refine lv_iconst (v := 1) hx hb (dk dd_L_law_25 8 rfl) (by decide) ?_
    refine va_forget (fun q hq => hAd _ (hS.2.2 q hq)) ?_
    refine W.widen (k := 600000) (n := 7302250) (Nat.le_of_ble_eq_true rfl) (Nat.le_of_ble_eq_true rfl) ?_
    exact lw_ret hx hb hr hlocks (dk dd_L_law_25 9 rfl)
  have hV : V (p, l, e, room_1, s, m, #[Value.ref b], below, meth, c, lw_Z below #[Value.ref b] s, (85, 5274), E) 16 [(0, vR 87), (1, vR 0), (2, vR 67)] [] mu0 := by
    refine V_iconst (pc := 16) hG' (dk dd_L_law_0 8 rfl) (v := nI 0) (by decide) ?_
    refine V_istore_n (pc := 17) hG' (dk dd_L_law_0 9 rfl) (by decide) (lv' := [(0, vR 87), (1, vR 0), (2, vR 67), (3, vI (nI 0))]) rfl ?_
    exact law_loop hG' hSc hL hE L 0 mu0 (by omega) (by omega) Inv_0
  have hN : N (p, l, e, room_1, s, m, #[Value.ref b], below, meth, c, lw_Z below #[Value.ref b] s) E s.heap.size 16 [(0, vR 87), (1, vR 0), (2, vR 67)] [] 85 (W0 E (fun _ => .inr (0, []))) 85 5274 := by
    intro H locs ls hP hS hl
    refine va_forget (fun q hq => hS.2.2 q hq) ?_
    exact hV H [] ls (mk_cells hLi hP) ⟨hS.1, fun q h1 h2 => hS.2.1 q h1 (Nat.not_le.mpr h1), fun q hq => absurd hq List.not_mem_nil⟩ hl
  exact law_make hG hLi hN s.heap [] ls ⟨rfl, fun k hk => absurd hk (Nat.not_lt_zero k)⟩ va_S.rf (by rw [hml]; show lv_has ls 4 [(0, Value.ref (E.2.2.1 87))]; rw [h87]; exact hl)
