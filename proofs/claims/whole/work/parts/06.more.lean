/-- a switch: the cases, then the rest -/
def swk (x : Int32) (P : Nat → Prop) (td : Nat) : List (Int32 × Nat) → Prop
  | [] => P td
  | q :: r => (x = q.1 → P q.2) ∧ (¬ x = q.1 → swk x P td r)
theorem swk_use {x : Int32} {P : Nat → Prop} {td : Nat} : ∀ {cs : List (Int32 × Nat)}, swk x P td cs → (∃ q ∈ cs, x = q.1 ∧ P q.2) ∨ ((∀ q ∈ cs, ¬ x = q.1) ∧ P td)
  | [], h => Or.inr ⟨fun _ h => absurd h List.not_mem_nil, h⟩
  | q :: r, h => by
    by_cases e : x = q.1
    · exact Or.inl ⟨q, List.mem_cons_self, e, h.1 e⟩
    · rcases swk_use (h.2 e) with ⟨q', h1, h2⟩ | ⟨h1, h2⟩
      · exact Or.inl ⟨q', List.mem_cons_of_mem _ h1, h2⟩
      · exact Or.inr ⟨fun q' hq' => (List.mem_cons.mp hq').elim (fun z => z ▸ e) (h1 q'), h2⟩
/-- the cases are the table's: each value in lo .. hi has its case, and its offset there -/
def tswOk (pc : Nat) (dflt lo hi : Int) (offs : Array Int) (cs : List (Int32 × Nat)) (td : Nat) : Bool :=
  decide ((pc : Int) + dflt = (td : Int)) && (cs.all (fun q => decide (lo ≤ q.1.toInt ∧ q.1.toInt ≤ hi) && (match offs[(q.1.toInt - lo).toNat]? with | some o => decide ((pc : Int) + o = (q.2 : Int)) | none => false))) && ((List.range ((hi - lo).toNat + 1)).all (fun k => cs.any (fun q => decide (q.1.toInt = lo + (k : Int)))))
theorem V_tsw {C : Cx} {own : String} {b : ByteArray} {nL d pc : Nat} {lv : List (Nat × Vl)} {st : List Vl} {μ : Mem} {dflt lo hi : Int} {offs : Array Int} {len td : Nat} {x : Int32} {cs : List (Int32 × Nat)} (g : G C own b nL d) (hd : decode b pc = .ok (.tableswitch dflt lo hi offs, len)) (hc : tswOk pc dflt lo hi offs cs td = true) (k : swk x (fun t => V C t lv st μ) td cs) : V C pc lv (vI x :: st) μ := by
  unfold tswOk at hc
  simp only [Bool.and_eq_true, decide_eq_true_eq, List.all_eq_true, List.any_eq_true] at hc
  obtain ⟨⟨h1, h2⟩, h3⟩ := hc
  rcases swk_use k with ⟨q, hq, rfl, hV⟩ | ⟨hno, hV⟩
  · obtain ⟨⟨a1, a2⟩, a3⟩ := h2 q hq
    cases ho : offs[(q.1.toInt - lo).toNat]? with
    | none => rw [ho] at a3; cases a3
    | some o =>
      rw [ho] at a3
      exact V_tableIn g hd (by omega) (by omega) ho (of_decide_eq_true a3) hV
  · refine V_tableOut g hd ?_ h1 hV
    by_cases e : x.toInt < lo ∨ hi < x.toInt
    · exact e
    · exfalso
      have hr : (x.toInt - lo).toNat ∈ List.range ((hi - lo).toNat + 1) := List.mem_range.mpr (by omega)
      obtain ⟨q, hq, he⟩ := h3 _ hr
      exact hno q hq (Int32.toInt_inj.mp (by omega))
theorem lsw_in {d : Int} {v : Int} : ∀ {ps : List (Int × Int)} {o : Int}, (ps.map (·.1)).Nodup → (v, o) ∈ ps → Op.lookupswitch.offset ps d v = o
  | [], _, _, h => absurd h List.not_mem_nil
  | q :: r, o, hn, h => by
    unfold Op.lookupswitch.offset
    rcases List.mem_cons.mp h with rfl | h
    · simp
    · have hne : ¬ q.1 = v := by
        intro e
        have h1 : q.1 ∉ r.map (·.1) := (List.nodup_cons.mp hn).1
        exact h1 (e ▸ List.mem_map.mpr ⟨(v, o), h, rfl⟩)
      have := lsw_in (d := d) (List.nodup_cons.mp hn).2 h
      simp [hne, this]
theorem lsw_out {d : Int} {v : Int} : ∀ {ps : List (Int × Int)}, (∀ q ∈ ps, ¬ q.1 = v) → Op.lookupswitch.offset ps d v = d
  | [], _ => rfl
  | q :: r, h => by
    unfold Op.lookupswitch.offset
    have := lsw_out (d := d) (v := v) (ps := r) (fun q hq => h q (List.mem_cons_of_mem _ hq))
    simp [h q List.mem_cons_self, this]
def lswOk (pc : Nat) (dflt : Int) (ps : Array (Int × Int)) (cs : List (Int32 × Nat)) (td : Nat) : Bool :=
  decide ((pc : Int) + dflt = (td : Int)) && decide (((ps.toList).map (·.1)).Nodup) && ((ps.toList.zip (ps.toList.drop 1)).all (fun (a, next) => a.1 < next.1)) && decide (ps.toList.map (fun q => (q.1, (pc : Int) + q.2)) = cs.map (fun q => (q.1.toInt, (q.2 : Int))))
theorem V_lsw {C : Cx} {own : String} {b : ByteArray} {nL d pc : Nat} {lv : List (Nat × Vl)} {st : List Vl} {μ : Mem} {dflt : Int} {ps : Array (Int × Int)} {len td : Nat} {x : Int32} {cs : List (Int32 × Nat)} (g : G C own b nL d) (hd : decode b pc = .ok (.lookupswitch dflt ps, len)) (hc : lswOk pc dflt ps cs td = true) (k : swk x (fun t => V C t lv st μ) td cs) : V C pc lv (vI x :: st) μ := by
  unfold lswOk at hc
  simp only [Bool.and_eq_true, decide_eq_true_eq] at hc
  obtain ⟨⟨⟨h1, h2⟩, h3⟩, h4⟩ := hc
  rcases swk_use k with ⟨q, hq, rfl, hV⟩ | ⟨hno, hV⟩
  · have hm : (q.1.toInt, (q.2 : Int)) ∈ ps.toList.map (fun q => (q.1, (pc : Int) + q.2)) := by rw [h4]; exact List.mem_map.mpr ⟨q, hq, rfl⟩
    obtain ⟨q0, hq0, he⟩ := List.mem_map.mp hm
    have e1 : q0.1 = q.1.toInt := congrArg Prod.fst he
    have e2 : (pc : Int) + q0.2 = (q.2 : Int) := congrArg Prod.snd he
    exact V_lookup g hd h3 (lsw_in h2 (o := q0.2) (by rw [← e1]; exact hq0)) e2 hV
  · refine V_lookup g hd h3 (lsw_out (fun q hq e => ?_)) h1 hV
    have hm : (q.1, (pc : Int) + q.2) ∈ cs.map (fun q => (q.1.toInt, (q.2 : Int))) := by rw [← h4]; exact List.mem_map.mpr ⟨q, hq, rfl⟩
    obtain ⟨q1, hq1, he⟩ := List.mem_map.mp hm
    have e1 : q1.1.toInt = q.1 := congrArg Prod.fst he
    exact hno q1 hq1 (Int32.toInt_inj.mp (by rw [e1, e]))
theorem V_callVi {C : Cx} {own : String} {b : ByteArray} {nL d pc : Nat} {lv : List (Nat × Vl)} {st : List Vl} {μ : Mem} {y : MethodName} {b' : ByteArray} {n' d' np idx j ci : Nat} {ret : Option FieldType} {as : List Vl} {x : Int32} {μ' : Mem} {st0 : List Vl} {fds : List (Option Nat)} (g : G C own b nL d) (hd : decode b pc = .ok (.invokevirtual idx, 3)) (hm : Cond.methodLink own idx y ∈ gw_tbl) (mo : Mi y b' n' ret np) (hs : Sh[j]? = some (.inl (ci, fds))) (hcl : (classes[ci]?).map (fun q => q.1) = some y.cls) (hct : Ct y b' n' ret d' (vR j :: as) μ (some (vI x)) μ') (hdd : d' < d) (hn' : n' ≤ 200) (hnp : as.length = np) (h0 : st0 = as.reverse ++ vR j :: st) (hw : Nat.ble (st.map cat).sum 8 = true) (k : V C (pc + 3) lv (vI x :: st) μ') : V C pc lv st0 μ := V_callV g hd hm mo hs hcl hct hdd hn' hnp h0 hw k
theorem V_callSi {C : Cx} {own : String} {b : ByteArray} {nL d pc : Nat} {lv : List (Nat × Vl)} {st : List Vl} {μ : Mem} {y : MethodName} {b' : ByteArray} {n' d' np idx : Nat} {ret : Option FieldType} {as : List Vl} {x : Int32} {μ' : Mem} {st0 : List Vl} (g : G C own b nL d) (hd : decode b pc = .ok (.invokestatic idx, 3)) (hm : Cond.methodLink own idx y ∈ gw_tbl) (mo : Ms y b' n' ret np) (hct : Ct y b' n' ret d' as μ (some (vI x)) μ') (hdd : d' < d) (hn' : n' ≤ 200) (hnp : as.length = np) (h0 : st0 = as.reverse ++ st) (hw : Nat.ble (st.map cat).sum 8 = true) (k : V C (pc + 3) lv (vI x :: st) μ') : V C pc lv st0 μ := V_callS g hd hm mo hct hdd hn' hnp h0 hw k
theorem V_callVl {C : Cx} {own : String} {b : ByteArray} {nL d pc : Nat} {lv : List (Nat × Vl)} {st : List Vl} {μ : Mem} {y : MethodName} {b' : ByteArray} {n' d' np idx j ci : Nat} {ret : Option FieldType} {as : List Vl} {x : Int64} {μ' : Mem} {st0 : List Vl} {fds : List (Option Nat)} (g : G C own b nL d) (hd : decode b pc = .ok (.invokevirtual idx, 3)) (hm : Cond.methodLink own idx y ∈ gw_tbl) (mo : Mi y b' n' ret np) (hs : Sh[j]? = some (.inl (ci, fds))) (hcl : (classes[ci]?).map (fun q => q.1) = some y.cls) (hct : Ct y b' n' ret d' (vR j :: as) μ (some (vL x)) μ') (hdd : d' < d) (hn' : n' ≤ 200) (hnp : as.length = np) (h0 : st0 = as.reverse ++ vR j :: st) (hw : Nat.ble (st.map cat).sum 8 = true) (k : V C (pc + 3) lv (vL x :: st) μ') : V C pc lv st0 μ := V_callV g hd hm mo hs hcl hct hdd hn' hnp h0 hw k
theorem V_callSl {C : Cx} {own : String} {b : ByteArray} {nL d pc : Nat} {lv : List (Nat × Vl)} {st : List Vl} {μ : Mem} {y : MethodName} {b' : ByteArray} {n' d' np idx : Nat} {ret : Option FieldType} {as : List Vl} {x : Int64} {μ' : Mem} {st0 : List Vl} (g : G C own b nL d) (hd : decode b pc = .ok (.invokestatic idx, 3)) (hm : Cond.methodLink own idx y ∈ gw_tbl) (mo : Ms y b' n' ret np) (hct : Ct y b' n' ret d' as μ (some (vL x)) μ') (hdd : d' < d) (hn' : n' ≤ 200) (hnp : as.length = np) (h0 : st0 = as.reverse ++ st) (hw : Nat.ble (st.map cat).sum 8 = true) (k : V C (pc + 3) lv (vL x :: st) μ') : V C pc lv st0 μ := V_callS g hd hm mo hct hdd hn' hnp h0 hw k
theorem V_callVv {C : Cx} {own : String} {b : ByteArray} {nL d pc : Nat} {lv : List (Nat × Vl)} {st : List Vl} {μ : Mem} {y : MethodName} {b' : ByteArray} {n' d' np idx j ci : Nat} {ret : Option FieldType} {as : List Vl}  {μ' : Mem} {st0 : List Vl} {fds : List (Option Nat)} (g : G C own b nL d) (hd : decode b pc = .ok (.invokevirtual idx, 3)) (hm : Cond.methodLink own idx y ∈ gw_tbl) (mo : Mi y b' n' ret np) (hs : Sh[j]? = some (.inl (ci, fds))) (hcl : (classes[ci]?).map (fun q => q.1) = some y.cls) (hct : Ct y b' n' ret d' (vR j :: as) μ (none) μ') (hdd : d' < d) (hn' : n' ≤ 200) (hnp : as.length = np) (h0 : st0 = as.reverse ++ vR j :: st) (hw : Nat.ble (st.map cat).sum 8 = true) (k : V C (pc + 3) lv (st) μ') : V C pc lv st0 μ := V_callV g hd hm mo hs hcl hct hdd hn' hnp h0 hw k
theorem V_callSv {C : Cx} {own : String} {b : ByteArray} {nL d pc : Nat} {lv : List (Nat × Vl)} {st : List Vl} {μ : Mem} {y : MethodName} {b' : ByteArray} {n' d' np idx : Nat} {ret : Option FieldType} {as : List Vl}  {μ' : Mem} {st0 : List Vl} (g : G C own b nL d) (hd : decode b pc = .ok (.invokestatic idx, 3)) (hm : Cond.methodLink own idx y ∈ gw_tbl) (mo : Ms y b' n' ret np) (hct : Ct y b' n' ret d' as μ (none) μ') (hdd : d' < d) (hn' : n' ≤ 200) (hnp : as.length = np) (h0 : st0 = as.reverse ++ st) (hw : Nat.ble (st.map cat).sum 8 = true) (k : V C (pc + 3) lv (st) μ') : V C pc lv st0 μ := V_callS g hd hm mo hct hdd hn' hnp h0 hw k
theorem Rt.eq {C : Cx} {ret : Option FieldType} {r r' : Option Vl} {μ μ' : Mem} (h : Rt C ret r μ) (e : r' = r) (e2 : μ' = μ) : Rt C ret r' μ' := by rw [e, e2]; exact h
theorem Rt.i {C : Cx} {ret : Option FieldType} {x x' : Int32} {μ μ' : Mem} (h : Rt C ret (some (vI x)) μ) (e : x' = x) (e2 : μ' = μ) : Rt C ret (some (vI x')) μ' := by rw [e, e2]; exact h
theorem Rt.l {C : Cx} {ret : Option FieldType} {x x' : Int64} {μ μ' : Mem} (h : Rt C ret (some (vL x)) μ) (e : x' = x) (e2 : μ' = μ) : Rt C ret (some (vL x')) μ' := by rw [e, e2]; exact h
theorem Ct.eq {y : MethodName} {b : ByteArray} {n : Nat} {ret : Option FieldType} {d : Nat} {as : List Vl} {μ μ' μ'' : Mem} {r r' : Option Vl} (h : Ct y b n ret d as μ r μ') (e : r = r') (e2 : μ' = μ'') : Ct y b n ret d as μ r' μ'' := by rw [← e, ← e2]; exact h
/-- a contract's start, by the class's name -/
theorem Ct.go {y : MethodName} {b : ByteArray} {n : Nat} {ret : Option FieldType} {d : Nat} {as : List Vl} {μ : Mem} {r : Option Vl} {μ' : Mem} (own : String) (ho : y.cls = own) (hy : plainName own = true) (hn : (as.map cat).sum ≤ n)
    (body : ∀ C : Cx, G C own b n d → Rt C ret r μ' → V C 0 (largs 0 as) [] μ) : Ct y b n ret d as μ r μ' := by
  subst ho
  exact Ct.intro hy hn body
theorem sh_0 : Sh[0]? = some (.inl (9, [some 1, some 13, some 15, some 23, some 31, some 32, some 34, some 51, some 58, some 62, some 65, none, none])) := rfl
theorem sh_1 : Sh[1]? = some (.inl (5, [some 2, some 11, some 12])) := rfl
theorem sh_2 : Sh[2]? = some (.inr (3, 8, [3, 4, 5, 6, 7, 8, 9, 10])) := rfl
theorem sh_3 : Sh[3]? = some (.inr (0, 40, [])) := rfl
theorem sh_4 : Sh[4]? = some (.inr (0, 40, [])) := rfl
theorem sh_5 : Sh[5]? = some (.inr (0, 40, [])) := rfl
theorem sh_6 : Sh[6]? = some (.inr (0, 40, [])) := rfl
theorem sh_7 : Sh[7]? = some (.inr (0, 40, [])) := rfl
theorem sh_8 : Sh[8]? = some (.inr (0, 40, [])) := rfl
theorem sh_9 : Sh[9]? = some (.inr (0, 40, [])) := rfl
theorem sh_10 : Sh[10]? = some (.inr (0, 40, [])) := rfl
theorem sh_11 : Sh[11]? = some (.inr (0, 8, [])) := rfl
theorem sh_12 : Sh[12]? = some (.inr (0, 8, [])) := rfl
theorem sh_13 : Sh[13]? = some (.inl (6, [some 14, none])) := rfl
theorem sh_14 : Sh[14]? = some (.inr (0, 120, [])) := rfl
theorem sh_15 : Sh[15]? = some (.inl (2, [none, none, none, none, none, none, none, none, some 16, some 17, some 18, some 19, some 20, some 21, some 22])) := rfl
theorem sh_16 : Sh[16]? = some (.inr (0, 6, [])) := rfl
theorem sh_17 : Sh[17]? = some (.inr (0, 6, [])) := rfl
theorem sh_18 : Sh[18]? = some (.inr (0, 6, [])) := rfl
theorem sh_19 : Sh[19]? = some (.inr (0, 5, [])) := rfl
theorem sh_20 : Sh[20]? = some (.inr (0, 5, [])) := rfl
theorem sh_21 : Sh[21]? = some (.inr (0, 5, [])) := rfl
theorem sh_22 : Sh[22]? = some (.inr (0, 5, [])) := rfl
theorem sh_23 : Sh[23]? = some (.inl (2, [none, none, none, none, none, none, none, none, some 24, some 25, some 26, some 27, some 28, some 29, some 30])) := rfl
theorem sh_24 : Sh[24]? = some (.inr (0, 6, [])) := rfl
theorem sh_25 : Sh[25]? = some (.inr (0, 6, [])) := rfl
theorem sh_26 : Sh[26]? = some (.inr (0, 6, [])) := rfl
theorem sh_27 : Sh[27]? = some (.inr (0, 5, [])) := rfl
theorem sh_28 : Sh[28]? = some (.inr (0, 5, [])) := rfl
theorem sh_29 : Sh[29]? = some (.inr (0, 5, [])) := rfl
theorem sh_30 : Sh[30]? = some (.inr (0, 5, [])) := rfl
theorem sh_31 : Sh[31]? = some (.inl (4, [some 13, some 23, none, none])) := rfl
theorem sh_32 : Sh[32]? = some (.inl (0, [some 33, none, none])) := rfl
theorem sh_33 : Sh[33]? = some (.inr (0, 336, [])) := rfl
theorem sh_34 : Sh[34]? = some (.inr (2, 2, [35, 43])) := rfl
theorem sh_35 : Sh[35]? = some (.inl (2, [none, none, none, none, none, none, none, none, some 36, some 37, some 38, some 39, some 40, some 41, some 42])) := rfl
theorem sh_36 : Sh[36]? = some (.inr (0, 6, [])) := rfl
theorem sh_37 : Sh[37]? = some (.inr (0, 6, [])) := rfl
theorem sh_38 : Sh[38]? = some (.inr (0, 6, [])) := rfl
theorem sh_39 : Sh[39]? = some (.inr (0, 5, [])) := rfl
theorem sh_40 : Sh[40]? = some (.inr (0, 5, [])) := rfl
theorem sh_41 : Sh[41]? = some (.inr (0, 5, [])) := rfl
theorem sh_42 : Sh[42]? = some (.inr (0, 5, [])) := rfl
theorem sh_43 : Sh[43]? = some (.inl (2, [none, none, none, none, none, none, none, none, some 44, some 45, some 46, some 47, some 48, some 49, some 50])) := rfl
theorem sh_44 : Sh[44]? = some (.inr (0, 6, [])) := rfl
theorem sh_45 : Sh[45]? = some (.inr (0, 6, [])) := rfl
theorem sh_46 : Sh[46]? = some (.inr (0, 6, [])) := rfl
theorem sh_47 : Sh[47]? = some (.inr (0, 5, [])) := rfl
theorem sh_48 : Sh[48]? = some (.inr (0, 5, [])) := rfl
theorem sh_49 : Sh[49]? = some (.inr (0, 5, [])) := rfl
theorem sh_50 : Sh[50]? = some (.inr (0, 5, [])) := rfl
theorem sh_51 : Sh[51]? = some (.inl (8, [some 15, some 52, some 53, some 54, some 55, some 56, some 57, none])) := rfl
theorem sh_52 : Sh[52]? = some (.inr (0, 256, [])) := rfl
theorem sh_53 : Sh[53]? = some (.inr (0, 256, [])) := rfl
theorem sh_54 : Sh[54]? = some (.inr (0, 256, [])) := rfl
theorem sh_55 : Sh[55]? = some (.inr (0, 256, [])) := rfl
theorem sh_56 : Sh[56]? = some (.inr (0, 256, [])) := rfl
theorem sh_57 : Sh[57]? = some (.inr (0, 256, [])) := rfl
theorem sh_58 : Sh[58]? = some (.inl (3, [some 15, some 59, some 60, some 61, none, none, none])) := rfl
theorem sh_59 : Sh[59]? = some (.inr (0, 5, [])) := rfl
theorem sh_60 : Sh[60]? = some (.inr (0, 5, [])) := rfl
theorem sh_61 : Sh[61]? = some (.inr (0, 5, [])) := rfl
theorem sh_62 : Sh[62]? = some (.inl (7, [some 15, some 63, some 64, none])) := rfl
theorem sh_63 : Sh[63]? = some (.inr (0, 12, [])) := rfl
theorem sh_64 : Sh[64]? = some (.inr (0, 12, [])) := rfl
theorem sh_65 : Sh[65]? = some (.inl (1, [some 15, some 66, none])) := rfl
theorem sh_66 : Sh[66]? = some (.inr (0, 16, [])) := rfl
theorem sh_67 : Sh[67]? = some (.inl (10, [none, none, some 68, some 69, some 70, some 71, some 72, some 73, some 74, none, some 75, none, none, none, none, none, none, none, none, some 76, some 77, some 78, some 79, some 80, none, none, some 81, some 82, some 83, some 84, none])) := rfl
theorem sh_68 : Sh[68]? = some (.inr (0, 8, [])) := rfl
theorem sh_69 : Sh[69]? = some (.inr (0, 8, [])) := rfl
theorem sh_70 : Sh[70]? = some (.inr (0, 320, [])) := rfl
theorem sh_71 : Sh[71]? = some (.inr (0, 46, [])) := rfl
theorem sh_72 : Sh[72]? = some (.inr (0, 46, [])) := rfl
theorem sh_73 : Sh[73]? = some (.inr (0, 46, [])) := rfl
theorem sh_74 : Sh[74]? = some (.inr (0, 1104, [])) := rfl
theorem sh_75 : Sh[75]? = some (.inr (0, 120, [])) := rfl
theorem sh_76 : Sh[76]? = some (.inr (1, 256, [])) := rfl
theorem sh_77 : Sh[77]? = some (.inr (1, 256, [])) := rfl
theorem sh_78 : Sh[78]? = some (.inr (0, 256, [])) := rfl
theorem sh_79 : Sh[79]? = some (.inr (0, 5, [])) := rfl
theorem sh_80 : Sh[80]? = some (.inr (0, 5, [])) := rfl
theorem sh_81 : Sh[81]? = some (.inr (0, 5, [])) := rfl
theorem sh_82 : Sh[82]? = some (.inr (1, 2, [])) := rfl
theorem sh_83 : Sh[83]? = some (.inr (0, 92, [])) := rfl
theorem sh_84 : Sh[84]? = some (.inr (0, 16, [])) := rfl
/-- the four courts -/
def IsCo (b : Nat) : Prop := b = 15 ∨ b = 23 ∨ b = 35 ∨ b = 43
theorem IsCo.s0 {b : Nat} (h : IsCo b) : Sh[b]? = some (.inl (2, [none, none, none, none, none, none, none, none, some (b + 1), some (b + 2), some (b + 3), some (b + 4), some (b + 5), some (b + 6), some (b + 7)])) := by rcases h with rfl | rfl | rfl | rfl <;> rfl
theorem IsCo.s1 {b : Nat} (h : IsCo b) : Sh[b + 1]? = some (.inr (0, 6, [])) := by rcases h with rfl | rfl | rfl | rfl <;> rfl
theorem IsCo.s2 {b : Nat} (h : IsCo b) : Sh[b + 2]? = some (.inr (0, 6, [])) := by rcases h with rfl | rfl | rfl | rfl <;> rfl
theorem IsCo.s3 {b : Nat} (h : IsCo b) : Sh[b + 3]? = some (.inr (0, 6, [])) := by rcases h with rfl | rfl | rfl | rfl <;> rfl
theorem IsCo.s4 {b : Nat} (h : IsCo b) : Sh[b + 4]? = some (.inr (0, 5, [])) := by rcases h with rfl | rfl | rfl | rfl <;> rfl
theorem IsCo.s5 {b : Nat} (h : IsCo b) : Sh[b + 5]? = some (.inr (0, 5, [])) := by rcases h with rfl | rfl | rfl | rfl <;> rfl
theorem IsCo.s6 {b : Nat} (h : IsCo b) : Sh[b + 6]? = some (.inr (0, 5, [])) := by rcases h with rfl | rfl | rfl | rfl <;> rfl
theorem IsCo.s7 {b : Nat} (h : IsCo b) : Sh[b + 7]? = some (.inr (0, 5, [])) := by rcases h with rfl | rfl | rfl | rfl <;> rfl
theorem co_now : IsCo 15 := Or.inl rfl
theorem co_dra : IsCo 23 := Or.inr (Or.inl rfl)
theorem co_im0 : IsCo 35 := Or.inr (Or.inr (Or.inl rfl))
theorem co_im1 : IsCo 43 := Or.inr (Or.inr (Or.inr rfl))
