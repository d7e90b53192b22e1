/-- the script -/
def Scr (C : Cx) (L : Nat) (xs : Nat → Int32) : Prop :=
  match C with
  | (_, _, _, _, s, _, _, _, _, _, _, _, E) => va_X (E.2.2.1 87) L xs s s.heap ∧ E.2.2.1 87 < s.heap.size ∧ ¬ Ad E (E.2.2.1 87)
theorem V_sld {C : Cx} {own : String} {b : ByteArray} {nL d pc : Nat} {lv : List (Nat × Vl)} {st : List Vl} {μ : Mem} {L : Nat} {xs : Nat → Int32} {i : Int32} (g : G C own b nL d) (hd : decode b pc = .ok (.iaload, 1)) (hs : Scr C L xs) (hin : vp_in i L) (k : V C (pc + 1) lv (vI (xs i.toNatClampNeg) :: st) μ) : V C pc lv (vI i :: vR 87 :: st) μ := by
  obtain ⟨p, l, e, R, s, m, args, below, meth, c, Q, kn, E⟩ := C
  obtain ⟨hx, hb, hml, hown, hts, hK, hi, hst, hnw, hrm, hcs, hlk⟩ := id g
  obtain ⟨s1, s2, s3⟩ := hs
  intro H locs ls hP hS hl
  exact va_sld hx hb s1 s2 s3 hS hin hd (k H locs ls hP hS hl)
theorem V_slen {C : Cx} {own : String} {b : ByteArray} {nL d pc : Nat} {lv : List (Nat × Vl)} {st : List Vl} {μ : Mem} {L : Nat} {xs : Nat → Int32} (g : G C own b nL d) (hd : decode b pc = .ok (.arraylength, 1)) (hs : Scr C L xs) (k : V C (pc + 1) lv (vI (nI L) :: st) μ) : V C pc lv (vR 87 :: st) μ := by
  obtain ⟨p, l, e, R, s, m, args, below, meth, c, Q, kn, E⟩ := C
  obtain ⟨hx, hb, hml, hown, hts, hK, hi, hst, hnw, hrm, hcs, hlk⟩ := id g
  obtain ⟨s1, s2, s3⟩ := hs
  intro H locs ls hP hS hl
  exact va_slen hx hb s1 s2 s3 hS hd (k H locs ls hP hS hl)
theorem lrg {i L : Nat} (h : i + 8 ≤ L) (hL : L ≤ 512) {c : Int32} (k : Nat) (hc : c = nI k) (hk : k < 8) : vp_in (nI i + c) L := by
  rw [hc, nI_add]
  rintro (q | q)
  · exact absurd q (Int32.not_lt.mpr (nI_pos' (by omega)))
  · rw [nI_clamp (by omega)] at q; omega
theorem lrg0 {i L : Nat} (h : i + 8 ≤ L) (hL : L ≤ 512) : vp_in (nI i) L := by
  rintro (q | q)
  · exact absurd q (Int32.not_lt.mpr (nI_pos' (by omega)))
  · rw [nI_clamp (by omega)] at q; omega
