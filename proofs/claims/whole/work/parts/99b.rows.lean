/-! ===== the rows' constructor ===== -/
def eqv (f : Nat → Option Nat) : (Nat → Int32) ⊕ (Nat → Int64) ⊕ (Nat → UInt32) ⊕ (Nat → UInt64) ⊕ (Nat → Option Nat) := .inr (.inr (.inr (.inr f)))
def uwM (E : En) (w : Nat → va_E) (n : Nat) : Nat → va_E := fun j => if j = n then .inl (E.2.2.2 3, 8, eqv (fun i => if i < 8 then some (E.2.2.1 (n + 1 + i)) else none)) else if n < j ∧ j < n + 9 then .inl (E.2.2.2 0, 40, .inl (fun _ => 0)) else w j
theorem orow_V {cA : ClassId} {a : Nat} {f : Nat → Option Nat} (hf : ∀ j, j < 8 → f j = some (a + 1 + j)) : orow cA a 8 = vp_cell cA (8, eqv f) := by
  rw [eqv, vp_cell_q]
  have e : (orow cA a 8).slots = (arrV cA 8 (fun j => va_rf (f j))).slots := by
    apply Array.ext_getElem?
    intro j
    by_cases y : j < 8
    · rw [arrV_read _ _ y, hf j y]
      unfold orow
      dsimp only
      rw [Array.getElem?_ofFn, dif_pos y, if_pos (show (⟨j, y⟩ : Fin 8).val < 8 from y)]
      rfl
    · rw [Array.getElem?_eq_none (show (orow cA a 8).slots.size ≤ j by simp [orow]; omega), Array.getElem?_eq_none (show (arrV cA 8 (fun j => va_rf (f j))).slots.size ≤ j by rw [arrV_size]; omega)]
  show ({ cls := cA, slots := (orow cA a 8).slots, vm := .none } : Cell) = _
  rw [e]
  rfl
section NR
variable {C : Cz} {E : En} {h0 : Nat} {own : String} {b : ByteArray} {nL d mc ms pc : Nat} {lv : List (Nat × Vl)} {st : List Vl} {n : Nat} {w : Nat → va_E} {kc ks : Nat}
theorem N_multi {idx : Nat} (g : GN C E h0 own b nL d mc ms) (hd : decode b pc = .ok (.multianewarray idx 2, 4)) (hk : Cond.classLink own idx ("[" ++ (FieldType.array .int).toString) ∈ gw_tbl) (hn : n + 9 ≤ 85) (hc : kc + 9 ≤ mc) (hs : ks + 328 ≤ ms)
    (k : N C E h0 (pc + 4) lv (vR n :: st) (n + 9) (uwM E w n) (kc + 9) (ks + 328)) : N C E h0 pc lv (vI 40 :: vI 8 :: st) n w kc ks := by
  obtain ⟨p, l, e, R, s, m, args, below, meth, c, Q⟩ := C
  obtain ⟨hx, hb, hml, hown, hts, hK, hi, hnw, hrm, hcs, hlk, hin⟩ := id g
  intro H locs ls hP hS hl
  refine W_multi hx hb hown (hts _ hk) hnw.1.1 (hts _ ac_int) hd (by omega) (by omega) fun H1 cA cC L f1 f2 z1 e1 e2 o1 hL => ?_
  have ec : cA = E.2.2.2 3 := Option.some.inj (f1.symm.trans (hK.2 3 _ rfl).2)
  have ei : cC = E.2.2.2 0 := Option.some.inj (f2.symm.trans (hK.2 0 _ rfl).2)
  subst ec; subst ei
  have hP1 : Pw E h0 (n + 9) (uwM E w n) H1 := by
    refine ⟨by rw [z1, hP.1]; omega, fun j hj => ?_⟩
    unfold uwM
    by_cases q : j = n
    · rw [if_pos q, q]
      show H1[h0 + n]? = some (vp_cell _ _)
      rw [← hP.1, e1, orow_V (f := fun i => if i < 8 then some (E.2.2.1 (n + 1 + i)) else none) (fun i hi8 => by rw [if_pos hi8, hi _ (by omega), hP.1]; congr 1; omega)]
    · rw [if_neg q]
      by_cases q2 : n < j ∧ j < n + 9
      · rw [if_pos q2]
        show H1[h0 + j]? = some (vp_cell _ _)
        have e3 := e2 (j - n - 1) (by omega)
        rw [hP.1, show h0 + n + 1 + (j - n - 1) = h0 + j by omega] at e3
        rw [e3, vp_cell_i, ← arrV_new]
        rfl
      · rw [if_neg q2]
        exact at_kept (o1 _ (by show h0 + j < H.size; rw [hP.1]; omega)) (hP.2 j (by omega))
  have q := k H1 (locs ++ L) ls hP1 ⟨Nat.le_trans hS.1 (by omega), fun x h1 h2 => (o1 x (Nat.lt_of_lt_of_le h1 hS.1)).trans (hS.2.1 x h1 h2), fun x hx => by
    rcases List.mem_append.mp hx with h | h
    · exact hS.2.2 x h
    · show h0 ≤ x.base
      rw [hL x h, hP.1]; omega⟩ hl
  have q : W p l e R s m args below meth c H1 (locs ++ L) (kc + 9) (ks + 328) Q (F0 m (pc + 4) ls (Value.ref (E.2.2.1 n) :: st.map (dv E))) := q
  rw [hi n (by omega), ← hP.1] at q
  exact q
end NR
