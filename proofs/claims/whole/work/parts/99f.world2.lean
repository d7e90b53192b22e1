set_option maxRecDepth 200000 in
theorem wc_2 {E : En} {w : Nat → va_E} : En2 E w 2 := fun d h => by
  cases h
  have e : (fun i => if i < 8 then some (E.2.2.1 (1 + 1 + 1 + i)) else none) = (fun i => ([3, 4, 5, 6, 7, 8, 9, 10][i]?).map E.2.2.1) := by
    funext i
    match i with
    | 0 | 1 | 2 | 3 | 4 | 5 | 6 | 7 => rfl
    | n + 8 => rw [if_neg (by omega)]; rfl
  show (Sum.inl (E.2.2.2 3, 8, eqv (fun i => if i < 8 then some (E.2.2.1 (1 + 1 + 1 + i)) else none)) : va_E) = Sum.inl (E.2.2.2 3, 8, eqv (fun i => ([3, 4, 5, 6, 7, 8, 9, 10][i]?).map E.2.2.1))
  rw [e]
set_option maxRecDepth 200000 in
theorem wc_34 {E : En} {w : Nat → va_E} : En2 E w 34 := fun d h => by
  cases h
  have e : va_up (va_up (fun _ => none) (0 : Int32).toNatClampNeg (some (E.2.2.1 35))) (1 : Int32).toNatClampNeg (some (E.2.2.1 43)) = (fun i => ([35, 43][i]?).map E.2.2.1) := by
    funext i
    match i with
    | 0 | 1 => rfl
    | n + 2 => rfl
  show (Sum.inl (E.2.2.2 2, 2, eqv (va_up (va_up (fun _ => none) (0 : Int32).toNatClampNeg (some (E.2.2.1 35))) (1 : Int32).toNatClampNeg (some (E.2.2.1 43)))) : va_E) = Sum.inl (E.2.2.2 2, 2, eqv (fun i => ([35, 43][i]?).map E.2.2.1))
  rw [e]
