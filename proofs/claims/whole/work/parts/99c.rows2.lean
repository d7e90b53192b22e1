theorem uwM_n {E : En} {w : Nat → va_E} {n j : Nat} (h : j < n) : uwM E w n j = w j := by
  unfold uwM
  rw [if_neg (by omega), if_neg (by omega)]
theorem cl_X5_11 : Cond.classLink RX5 11 ("[" ++ (FieldType.array .int).toString) ∈ gw_tbl := tb 30 (by decide +kernel)
def wX5_init (E : En) (b : Nat) (w : Nat → va_E) : Nat → va_E := uw (uw (uw (uw (uw (uw (uw (uw (uw (uw (uw (uw (uw (uwM E (w) (b + 1)) b (.inr (5, (List.set [.null, .null, .null] 0 (.ref (E.2.2.1 (b + 1))))))) (b + 10) (.inl (E.2.2.2 0, 8, .inl (fun _ => 0)))) (b + 10) (.inl (E.2.2.2 0, 8, .inl (upd (fun _ => 0) (0 : Int32).toNatClampNeg (-1))))) (b + 10) (.inl (E.2.2.2 0, 8, .inl (upd (upd (fun _ => 0) (0 : Int32).toNatClampNeg (-1)) (1 : Int32).toNatClampNeg (-1))))) (b + 10) (.inl (E.2.2.2 0, 8, .inl (upd (upd (upd (fun _ => 0) (0 : Int32).toNatClampNeg (-1)) (1 : Int32).toNatClampNeg (-1)) (2 : Int32).toNatClampNeg (-1))))) (b + 10) (.inl (E.2.2.2 0, 8, .inl (upd (upd (upd (upd (fun _ => 0) (0 : Int32).toNatClampNeg (-1)) (1 : Int32).toNatClampNeg (-1)) (2 : Int32).toNatClampNeg (-1)) (3 : Int32).toNatClampNeg (-1))))) (b + 10) (.inl (E.2.2.2 0, 8, .inl (upd (upd (upd (upd (upd (fun _ => 0) (0 : Int32).toNatClampNeg (-1)) (1 : Int32).toNatClampNeg (-1)) (2 : Int32).toNatClampNeg (-1)) (3 : Int32).toNatClampNeg (-1)) (4 : Int32).toNatClampNeg (-1))))) (b + 10) (.inl (E.2.2.2 0, 8, .inl (upd (upd (upd (upd (upd (upd (fun _ => 0) (0 : Int32).toNatClampNeg (-1)) (1 : Int32).toNatClampNeg (-1)) (2 : Int32).toNatClampNeg (-1)) (3 : Int32).toNatClampNeg (-1)) (4 : Int32).toNatClampNeg (-1)) (5 : Int32).toNatClampNeg (-1))))) (b + 10) (.inl (E.2.2.2 0, 8, .inl (upd (upd (upd (upd (upd (upd (upd (fun _ => 0) (0 : Int32).toNatClampNeg (-1)) (1 : Int32).toNatClampNeg (-1)) (2 : Int32).toNatClampNeg (-1)) (3 : Int32).toNatClampNeg (-1)) (4 : Int32).toNatClampNeg (-1)) (5 : Int32).toNatClampNeg (-1)) (6 : Int32).toNatClampNeg (-1))))) (b + 10) (.inl (E.2.2.2 0, 8, .inl (upd (upd (upd (upd (upd (upd (upd (upd (fun _ => 0) (0 : Int32).toNatClampNeg (-1)) (1 : Int32).toNatClampNeg (-1)) (2 : Int32).toNatClampNeg (-1)) (3 : Int32).toNatClampNeg (-1)) (4 : Int32).toNatClampNeg (-1)) (5 : Int32).toNatClampNeg (-1)) (6 : Int32).toNatClampNeg (-1)) (7 : Int32).toNatClampNeg (-1))))) b (.inr (5, (List.set (List.set [.null, .null, .null] 0 (.ref (E.2.2.1 (b + 1)))) 1 (.ref (E.2.2.1 (b + 10))))))) (b + 11) (.inl (E.2.2.2 0, 8, .inl (fun _ => 0)))) b (.inr (5, (List.set (List.set (List.set [.null, .null, .null] 0 (.ref (E.2.2.1 (b + 1)))) 1 (.ref (E.2.2.1 (b + 10)))) 2 (.ref (E.2.2.1 (b + 11))))))
theorem n_X5_init {E : En} {h0 b : Nat} {w : Nat → va_E} (hL : Li E h0) (hb : b + 12 ≤ 85) (hw : w b = .inr (5, [.null, .null, .null])) : CtN E h0 yX5_init cX5_init 1 0 11 344 [vR b] (b + 1) w (b + 12) (wX5_init E b  w) := by
  refine CtN.go RX5 rfl pn_X5 rfl (Nat.le_of_ble_eq_true rfl) hL (fun C hG hR => ?_)
  unfold wX5_init at hR
  refine N_aload_n (pc := 0) hG (dk dd_X5_init 0 rfl) rfl ?_
  refine N_obj (pc := 1) hG (dk dd_X5_init 1 rfl) ml_X5_3 rfl ?_
  refine N_aload_n (pc := 4) hG (dk dd_X5_init 2 rfl) rfl ?_
  refine N_bipush (pc := 5) hG (dk dd_X5_init 3 rfl) (v := 8) (by decide) ?_
  refine N_bipush (pc := 7) hG (dk dd_X5_init 4 rfl) (v := 40) (by decide) ?_
  refine N_multi (pc := 9) hG (dk dd_X5_init 5 rfl) cl_X5_11 (by omega) (Nat.le_of_ble_eq_true rfl) (Nat.le_of_ble_eq_true rfl) ?_
  refine N_putF (pc := 13) hG (by decide +kernel) (dk dd_X5_init 6 rfl) fl_X5_13 (by decide +kernel) (by omega) (by omega) ((uwM_n (by omega)).trans (hw)) (by simp) ?_
  refine N_aload_n (pc := 16) hG (dk dd_X5_init 7 rfl) rfl ?_
  refine N_bipush (pc := 17) hG (dk dd_X5_init 8 rfl) (v := 8) (by decide) ?_
  refine N_newi (pc := 19) hG (dk dd_X5_init 9 rfl) (len := 8) (by omega) (by decide) (by decide) rfl (Nat.le_of_ble_eq_true rfl) (Nat.le_of_ble_eq_true rfl) ?_
  refine N_dup (pc := 21) hG (dk dd_X5_init 10 rfl) rfl ?_
  refine N_iconst (pc := 22) hG (dk dd_X5_init 11 rfl) (v := 0) (by decide) ?_
  refine N_iconst (pc := 23) hG (dk dd_X5_init 12 rfl) (v := (-1)) (by decide) ?_
  refine N_iast (pc := 24) hG (dk dd_X5_init 13 rfl) (by omega) (by omega) (uw_s) (by unfold vp_in; decide) ?_
  refine N_dup (pc := 25) hG (dk dd_X5_init 14 rfl) rfl ?_
  refine N_iconst (pc := 26) hG (dk dd_X5_init 15 rfl) (v := 1) (by decide) ?_
  refine N_iconst (pc := 27) hG (dk dd_X5_init 16 rfl) (v := (-1)) (by decide) ?_
  refine N_iast (pc := 28) hG (dk dd_X5_init 17 rfl) (by omega) (by omega) (uw_s) (by unfold vp_in; decide) ?_
  refine N_dup (pc := 29) hG (dk dd_X5_init 18 rfl) rfl ?_
  refine N_iconst (pc := 30) hG (dk dd_X5_init 19 rfl) (v := 2) (by decide) ?_
  refine N_iconst (pc := 31) hG (dk dd_X5_init 20 rfl) (v := (-1)) (by decide) ?_
  refine N_iast (pc := 32) hG (dk dd_X5_init 21 rfl) (by omega) (by omega) (uw_s) (by unfold vp_in; decide) ?_
  refine N_dup (pc := 33) hG (dk dd_X5_init 22 rfl) rfl ?_
  refine N_iconst (pc := 34) hG (dk dd_X5_init 23 rfl) (v := 3) (by decide) ?_
  refine N_iconst (pc := 35) hG (dk dd_X5_init 24 rfl) (v := (-1)) (by decide) ?_
  refine N_iast (pc := 36) hG (dk dd_X5_init 25 rfl) (by omega) (by omega) (uw_s) (by unfold vp_in; decide) ?_
  refine N_dup (pc := 37) hG (dk dd_X5_init 26 rfl) rfl ?_
  refine N_iconst (pc := 38) hG (dk dd_X5_init 27 rfl) (v := 4) (by decide) ?_
  refine N_iconst (pc := 39) hG (dk dd_X5_init 28 rfl) (v := (-1)) (by decide) ?_
  refine N_iast (pc := 40) hG (dk dd_X5_init 29 rfl) (by omega) (by omega) (uw_s) (by unfold vp_in; decide) ?_
  refine N_dup (pc := 41) hG (dk dd_X5_init 30 rfl) rfl ?_
  refine N_iconst (pc := 42) hG (dk dd_X5_init 31 rfl) (v := 5) (by decide) ?_
  refine N_iconst (pc := 43) hG (dk dd_X5_init 32 rfl) (v := (-1)) (by decide) ?_
  refine N_iast (pc := 44) hG (dk dd_X5_init 33 rfl) (by omega) (by omega) (uw_s) (by unfold vp_in; decide) ?_
  refine N_dup (pc := 45) hG (dk dd_X5_init 34 rfl) rfl ?_
  refine N_bipush (pc := 46) hG (dk dd_X5_init 35 rfl) (v := 6) (by decide) ?_
  refine N_iconst (pc := 48) hG (dk dd_X5_init 36 rfl) (v := (-1)) (by decide) ?_
  refine N_iast (pc := 49) hG (dk dd_X5_init 37 rfl) (by omega) (by omega) (uw_s) (by unfold vp_in; decide) ?_
  refine N_dup (pc := 50) hG (dk dd_X5_init 38 rfl) rfl ?_
  refine N_bipush (pc := 51) hG (dk dd_X5_init 39 rfl) (v := 7) (by decide) ?_
  refine N_iconst (pc := 53) hG (dk dd_X5_init 40 rfl) (v := (-1)) (by decide) ?_
  refine N_iast (pc := 54) hG (dk dd_X5_init 41 rfl) (by omega) (by omega) (uw_s) (by unfold vp_in; decide) ?_
  refine N_putF (pc := 55) hG (by decide +kernel) (dk dd_X5_init 42 rfl) fl_X5_16 (by decide +kernel) (by omega) (by omega) ((uw_n (by omega)).trans ((uw_n (by omega)).trans ((uw_n (by omega)).trans ((uw_n (by omega)).trans ((uw_n (by omega)).trans ((uw_n (by omega)).trans ((uw_n (by omega)).trans ((uw_n (by omega)).trans ((uw_n (by omega)).trans (uw_s)))))))))) (by simp) ?_
  refine N_aload_n (pc := 58) hG (dk dd_X5_init 43 rfl) rfl ?_
  refine N_bipush (pc := 59) hG (dk dd_X5_init 44 rfl) (v := 8) (by decide) ?_
  refine N_newi (pc := 61) hG (dk dd_X5_init 45 rfl) (len := 8) (by omega) (by decide) (by decide) rfl (Nat.le_of_ble_eq_true rfl) (Nat.le_of_ble_eq_true rfl) ?_
  refine N_putF (pc := 63) hG (by decide +kernel) (dk dd_X5_init 46 rfl) fl_X5_20 (by decide +kernel) (by omega) (by omega) ((uw_n (by omega)).trans (uw_s)) (by simp) ?_
  exact N_ret (pc := 66) hG (dk dd_X5_init 47 rfl) hR
section NR
variable {C : Cz} {E : En} {h0 : Nat} {own : String} {b : ByteArray} {nL d mc ms pc : Nat} {lv : List (Nat × Vl)} {st : List Vl} {n : Nat} {w : Nat → va_E} {kc ks : Nat}
theorem N_newq {idx : Nat} {x : Int32} {len : Nat} (g : GN C E h0 own b nL d mc ms) (hd : decode b pc = .ok (.anewarray idx, 3)) (hk : Cond.classLink own idx "SleepingJudge$Court" ∈ gw_tbl) (hn : n < 85) (hx0 : ¬ x < 0) (hxl : x.toNatClampNeg = len) (hlen : Nat.ble len 100000 = true) (hc : kc + 1 ≤ mc) (hs : ks + len ≤ ms)
    (k : N C E h0 (pc + 3) lv (vR n :: st) (n + 1) (uw w n (.inl (E.2.2.2 2, len, eqv (fun _ => none)))) (kc + 1) (ks + len)) : N C E h0 pc lv (vI x :: st) n w kc ks := by
  obtain ⟨p, l, e, R, s, m, args, below, meth, c, Q⟩ := C
  obtain ⟨hx, hb, hml, hown, hts, hK, hi, hnw, hrm, hcs, hlk, hin⟩ := id g
  intro H locs ls hP hS hl
  have hlen' := Nat.le_of_ble_eq_true hlen
  subst hxl
  refine W.anew hx hb hown (hts _ hk) (va_AO.use hnw.1.2) rfl hd rfl hx0 (by omega) (by omega) (by omega) fun cA kA comp f1 f2 f3 f4 => ?_
  obtain ⟨kA', comp', g1, g2, g3, g4⟩ := (hK.2 2 _ rfl).2
  have ec : cA = E.2.2.2 2 := Option.some.inj (f1.symm.trans g4)
  subst ec
  have o1 : ∀ q : Nat, q < H.size → (H.push ({ cls := E.2.2.2 2, slots := Array.replicate x.toNatClampNeg .null, vm := .none } : Cell))[q]? = H[q]? := fun q hq => by rw [Array.getElem?_push, if_neg (Nat.ne_of_lt hq)]
  have q := k _ locs ls (hP.push (by rw [Array.size_push]) o1 (by show (H.push _)[h0 + n]? = some (vp_cell _ _); rw [eqv, vp_cell_q, ← hP.1, Array.getElem?_push_size, arrV_new]; rfl)) (S_push hS (by rw [Array.size_push]) o1) hl
  have q : W p l e R s m args below meth c (H.push ({ cls := E.2.2.2 2, slots := Array.replicate x.toNatClampNeg .null, vm := .none } : Cell)) locs (kc + 1) (ks + x.toNatClampNeg) Q (F0 m (pc + 3) ls (Value.ref (E.2.2.1 n) :: st.map (dv E))) := q
  rw [hi n hn, ← hP.1] at q
  exact q
theorem N_astq {i r len : Nat} {f : Nat → Option Nat} {fs : List Value} {j : Int32} (g : GN C E h0 own b nL d mc ms) (hd : decode b pc = .ok (.aastore, 1)) (hi' : i < n) (hr' : r < n) (hn : n ≤ 85) (hw : w i = .inl (E.2.2.2 2, len, eqv f)) (hwr : w r = .inr (2, fs)) (hin' : vp_in j len) (k : N C E h0 (pc + 1) lv st n (uw w i (.inl (E.2.2.2 2, len, eqv (va_up f j.toNatClampNeg (some (E.2.2.1 r)))))) kc ks) : N C E h0 pc lv (vR r :: vI j :: vR i :: st) n w kc ks := by
  obtain ⟨p, l, e, R, s, m, args, below, meth, c, Q⟩ := C
  obtain ⟨hx, hb, hml, hown, hts, hK, hi, hnw, hrm, hcs, hlk, hin⟩ := id g
  intro H locs ls hP hS hl
  have hlt : j.toNatClampNeg < len := Nat.not_le.mp fun q => hin' (Or.inr q)
  have hj0 : ¬ j < 0 := fun q => hin' (Or.inl q)
  have hat := hP.2 i hi'
  rw [hw] at hat
  have hat : H[h0 + i]? = some (vp_cell (E.2.2.2 2) (len, eqv f)) := hat
  have hatr := hP.2 r hr'
  rw [hwr] at hatr
  obtain ⟨r', hcr, cellV, g1, g2, g3, -⟩ := hatr
  have hcls := (hK.1 2 (RX2, TX2, 15) rfl).2
  obtain ⟨kA, comp, k1, k2, k3, -⟩ := (hK.2 2 _ rfl).2
  have hcomp : comp = E.1 2 := Option.some.inj (k3.symm.trans hcls.1)
  subst hcomp
  obtain ⟨kC, hkC, -⟩ := hcls.2
  show W p l e R s m args below meth c H locs kc ks Q (F0 m pc ls (Value.ref (E.2.2.1 r) :: Value.int j :: Value.ref (E.2.2.1 i) :: st.map (dv E)))
  rw [hi i (by omega), hi r (by omega)]
  refine W.aast hx hb hat (fun q h => by cases h) (fun h => by cases h) k1 k2 rfl hkC ⟨hj0, by show _ < (arrV _ _ _).slots.size; rw [arrV_size]; exact hlt⟩ g1 (fun q h => by rw [g3] at h; cases h) (by rw [g2]; exact hkC) (by rw [g2]; exact va_assign hcls) rfl rfl hd fun H1 e z oq => ?_
  refine k H1 _ ls (hP.set z oq ?_) (hS.put z oq (by show h0 ≤ h0 + i; omega)) hl
  show H1[h0 + i]? = some (vp_cell _ _)
  rw [e, eqv, eqv, vp_cell_q, vp_cell_q, arrV_store, hi r (by omega)]
  congr 2
  funext q
  by_cases hq : q = j.toNatClampNeg
  · subst hq
    simp [updV, va_up, va_rf]
  · simp [updV, va_up, hq]
end NR
