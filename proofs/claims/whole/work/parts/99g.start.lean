/-! ===== the law's start: every cell, and both sides alike ===== -/
theorem wX10_b {E : En} {b : Nat} {w : Nat → va_E} : wX10_init E b w b = .inr (10, (List.set (List.set (List.set (List.set (List.set (List.set (List.set (List.set (List.set (List.set (List.set (List.set (List.set (List.set (List.set (List.set (List.set [.int 0, .int 0, .null, .null, .null, .null, .null, .null, .null, .int 0, .null, .int 0, .int 0, .int 0, .int 0, .int 0, .int 0, .int 0, .int 0, .null, .null, .null, .null, .null, .int 0, .int 0, .null, .null, .null, .null, .int 0] 2 (.ref (E.2.2.1 (b + 1)))) 3 (.ref (E.2.2.1 (b + 2)))) 4 (.ref (E.2.2.1 (b + 3)))) 5 (.ref (E.2.2.1 (b + 4)))) 6 (.ref (E.2.2.1 (b + 5)))) 7 (.ref (E.2.2.1 (b + 6)))) 8 (.ref (E.2.2.1 (b + 7)))) 10 (.ref (E.2.2.1 (b + 8)))) 19 (.ref (E.2.2.1 (b + 9)))) 20 (.ref (E.2.2.1 (b + 10)))) 21 (.ref (E.2.2.1 (b + 11)))) 22 (.ref (E.2.2.1 (b + 12)))) 23 (.ref (E.2.2.1 (b + 13)))) 26 (.ref (E.2.2.1 (b + 14)))) 27 (.ref (E.2.2.1 (b + 15)))) 28 (.ref (E.2.2.1 (b + 16)))) 29 (.ref (E.2.2.1 (b + 17))))) := by
  unfold wX10_init
  exact uw_s
theorem fs_67 {E : En} {b : Nat} (hb : b = 67) : ((List.set (List.set (List.set (List.set (List.set (List.set (List.set (List.set (List.set (List.set (List.set (List.set (List.set (List.set (List.set (List.set (List.set [.int 0, .int 0, .null, .null, .null, .null, .null, .null, .null, .int 0, .null, .int 0, .int 0, .int 0, .int 0, .int 0, .int 0, .int 0, .int 0, .null, .null, .null, .null, .null, .int 0, .int 0, .null, .null, .null, .null, .int 0] 2 (.ref (E.2.2.1 (b + 1)))) 3 (.ref (E.2.2.1 (b + 2)))) 4 (.ref (E.2.2.1 (b + 3)))) 5 (.ref (E.2.2.1 (b + 4)))) 6 (.ref (E.2.2.1 (b + 5)))) 7 (.ref (E.2.2.1 (b + 6)))) 8 (.ref (E.2.2.1 (b + 7)))) 10 (.ref (E.2.2.1 (b + 8)))) 19 (.ref (E.2.2.1 (b + 9)))) 20 (.ref (E.2.2.1 (b + 10)))) 21 (.ref (E.2.2.1 (b + 11)))) 22 (.ref (E.2.2.1 (b + 12)))) 23 (.ref (E.2.2.1 (b + 13)))) 26 (.ref (E.2.2.1 (b + 14)))) 27 (.ref (E.2.2.1 (b + 15)))) 28 (.ref (E.2.2.1 (b + 16)))) 29 (.ref (E.2.2.1 (b + 17)))) : List Value) = [.int 0, .int 0, .ref (E.2.2.1 68), .ref (E.2.2.1 69), .ref (E.2.2.1 70), .ref (E.2.2.1 71), .ref (E.2.2.1 72), .ref (E.2.2.1 73), .ref (E.2.2.1 74), .int 0, .ref (E.2.2.1 75), .int 0, .int 0, .int 0, .int 0, .int 0, .int 0, .int 0, .int 0, .ref (E.2.2.1 76), .ref (E.2.2.1 77), .ref (E.2.2.1 78), .ref (E.2.2.1 79), .ref (E.2.2.1 80), .int 0, .int 0, .ref (E.2.2.1 81), .ref (E.2.2.1 82), .ref (E.2.2.1 83), .ref (E.2.2.1 84), .int 0] := by
  subst hb
  rfl
theorem fdv_0 {E : En} {j : Nat} : fdv E mu0 67 j none = .int 0 := rfl
theorem fdv_1 {E : En} {j r : Nat} : fdv E mu0 67 j (some r) = .ref (E.2.2.1 r) := rfl
theorem ent_67 {E : En} : ent E mu0 67 (.inl (10, [none, none, some 68, some 69, some 70, some 71, some 72, some 73, some 74, none, some 75, none, none, none, none, none, none, none, none, some 76, some 77, some 78, some 79, some 80, none, none, some 81, some 82, some 83, some 84, none])) = .inr (10, [.int 0, .int 0, .ref (E.2.2.1 68), .ref (E.2.2.1 69), .ref (E.2.2.1 70), .ref (E.2.2.1 71), .ref (E.2.2.1 72), .ref (E.2.2.1 73), .ref (E.2.2.1 74), .int 0, .ref (E.2.2.1 75), .int 0, .int 0, .int 0, .int 0, .int 0, .int 0, .int 0, .int 0, .ref (E.2.2.1 76), .ref (E.2.2.1 77), .ref (E.2.2.1 78), .ref (E.2.2.1 79), .ref (E.2.2.1 80), .int 0, .int 0, .ref (E.2.2.1 81), .ref (E.2.2.1 82), .ref (E.2.2.1 83), .ref (E.2.2.1 84), .int 0]) := by
  show (Sum.inr (10, List.mapIdx (fun k o => fdv E mu0 67 k o) _) : va_E) = _
  simp only [List.mapIdx_cons, List.mapIdx_nil, fdv_0, fdv_1]
theorem Sh_67 : Sh[67]? = some (.inl (10, [none, none, some 68, some 69, some 70, some 71, some 72, some 73, some 74, none, some 75, none, none, none, none, none, none, none, none, some 76, some 77, some 78, some 79, some 80, none, none, some 81, some 82, some 83, some 84, none])) := by rfl
theorem wc_67 {E : En} {w : Nat → va_E} : En2 E w 67 := fun d h => by
  have e := Option.some.inj (h.symm.trans Sh_67)
  subst e
  rw [ent_67]
  unfold W0
  rw [wX10_b, fs_67 rfl]
theorem stp {P : Nat → Prop} {n : Nat} (h : ∀ k, k < n → P k) (p : P n) : ∀ k, k < n + 1 → P k := fun k hk => by
  rcases Nat.lt_or_ge k n with q | q
  · exact h k q
  · rw [show k = n by omega]; exact p
theorem wc_all {E : En} {w : Nat → va_E} : ∀ k, k < 85 → En2 E w k := by
  refine stp (n := 84) ?_ wc_84
  refine stp (n := 83) ?_ wc_83
  refine stp (n := 82) ?_ wc_82
  refine stp (n := 81) ?_ wc_81
  refine stp (n := 80) ?_ wc_80
  refine stp (n := 79) ?_ wc_79
  refine stp (n := 78) ?_ wc_78
  refine stp (n := 77) ?_ wc_77
  refine stp (n := 76) ?_ wc_76
  refine stp (n := 75) ?_ wc_75
  refine stp (n := 74) ?_ wc_74
  refine stp (n := 73) ?_ wc_73
  refine stp (n := 72) ?_ wc_72
  refine stp (n := 71) ?_ wc_71
  refine stp (n := 70) ?_ wc_70
  refine stp (n := 69) ?_ wc_69
  refine stp (n := 68) ?_ wc_68
  refine stp (n := 67) ?_ wc_67
  refine stp (n := 66) ?_ wc_66
  refine stp (n := 65) ?_ wc_65
  refine stp (n := 64) ?_ wc_64
  refine stp (n := 63) ?_ wc_63
  refine stp (n := 62) ?_ wc_62
  refine stp (n := 61) ?_ wc_61
  refine stp (n := 60) ?_ wc_60
  refine stp (n := 59) ?_ wc_59
  refine stp (n := 58) ?_ wc_58
  refine stp (n := 57) ?_ wc_57
  refine stp (n := 56) ?_ wc_56
  refine stp (n := 55) ?_ wc_55
  refine stp (n := 54) ?_ wc_54
  refine stp (n := 53) ?_ wc_53
  refine stp (n := 52) ?_ wc_52
  refine stp (n := 51) ?_ wc_51
  refine stp (n := 50) ?_ wc_50
  refine stp (n := 49) ?_ wc_49
  refine stp (n := 48) ?_ wc_48
  refine stp (n := 47) ?_ wc_47
  refine stp (n := 46) ?_ wc_46
  refine stp (n := 45) ?_ wc_45
  refine stp (n := 44) ?_ wc_44
  refine stp (n := 43) ?_ wc_43
  refine stp (n := 42) ?_ wc_42
  refine stp (n := 41) ?_ wc_41
  refine stp (n := 40) ?_ wc_40
  refine stp (n := 39) ?_ wc_39
  refine stp (n := 38) ?_ wc_38
  refine stp (n := 37) ?_ wc_37
  refine stp (n := 36) ?_ wc_36
  refine stp (n := 35) ?_ wc_35
  refine stp (n := 34) ?_ wc_34
  refine stp (n := 33) ?_ wc_33
  refine stp (n := 32) ?_ wc_32
  refine stp (n := 31) ?_ wc_31
  refine stp (n := 30) ?_ wc_30
  refine stp (n := 29) ?_ wc_29
  refine stp (n := 28) ?_ wc_28
  refine stp (n := 27) ?_ wc_27
  refine stp (n := 26) ?_ wc_26
  refine stp (n := 25) ?_ wc_25
  refine stp (n := 24) ?_ wc_24
  refine stp (n := 23) ?_ wc_23
  refine stp (n := 22) ?_ wc_22
  refine stp (n := 21) ?_ wc_21
  refine stp (n := 20) ?_ wc_20
  refine stp (n := 19) ?_ wc_19
  refine stp (n := 18) ?_ wc_18
  refine stp (n := 17) ?_ wc_17
  refine stp (n := 16) ?_ wc_16
  refine stp (n := 15) ?_ wc_15
  refine stp (n := 14) ?_ wc_14
  refine stp (n := 13) ?_ wc_13
  refine stp (n := 12) ?_ wc_12
  refine stp (n := 11) ?_ wc_11
  refine stp (n := 10) ?_ wc_10
  refine stp (n := 9) ?_ wc_9
  refine stp (n := 8) ?_ wc_8
  refine stp (n := 7) ?_ wc_7
  refine stp (n := 6) ?_ wc_6
  refine stp (n := 5) ?_ wc_5
  refine stp (n := 4) ?_ wc_4
  refine stp (n := 3) ?_ wc_3
  refine stp (n := 2) ?_ wc_2
  refine stp (n := 1) ?_ wc_1
  refine stp (n := 0) ?_ wc_0
  exact fun k hk => absurd hk (Nat.not_lt_zero k)
theorem mk_cells {E : En} {h0 : Nat} {w : Nat → va_E} {H : Heap} (hL : Li E h0) (h : Pw E h0 85 (W0 E w) H) : va_P (E.1, E.2.1) classes (cells E mu0) H := by
  intro k q hq
  obtain ⟨hk, -⟩ := cells_of hq
  obtain ⟨d, hd⟩ : ∃ d, Sh[k]? = some d := by
    cases e : Sh[k]? with
    | none => exact absurd (List.getElem?_eq_none_iff.mp e) (by rw [Sh_len]; omega)
    | some d => exact ⟨d, rfl⟩
  have e := (cells_at (E := E) (μ := mu0) hd).symm.trans hq
  have e := Option.some.inj e
  subst e
  have z := h.2 k hk
  rw [wc_all k hk d hd, ← hL k hk] at z
  exact z
theorem mu0_z {a j : Nat} (h1 : a ≠ 11) (h2 : a ≠ 68) : mu0 a j = 0 := by
  unfold mu0
  rw [if_neg h1, if_neg h2]
theorem mu0_n {a j : Nat} (h1 : a ≠ 11) (h2 : a ≠ 68) : mu0 a j = nI 0 := by rw [mu0_z h1 h2, nI_0]
def al0 : Al := fun _ _ => 0
theorem al0_Vz : Vz al0 := Or.inr (fun _ _ => rfl)
theorem al0_nV : ¬ Val al0 := fun h => absurd h.1.1 (by show ¬ 3 ≤ 0; decide)
theorem Abs_z {κ : Nat → Nat → Int32} (h : ∀ i, i < 8 → κ 0 i = 0) : Abs κ al0 := ⟨fun i hi => by rw [h i hi]; exact nI_0.symm, fun x j _ _ q => absurd q (Nat.not_lt_zero j), fun x j _ _ q => absurd q (Nat.not_lt_zero j)⟩
theorem la0_m : ∀ n, n < 8 → la0 n = -1 := by
  intro n hn
  rcases (show n = 0 ∨ n = 1 ∨ n = 2 ∨ n = 3 ∨ n = 4 ∨ n = 5 ∨ n = 6 ∨ n = 7 by omega) with rfl | rfl | rfl | rfl | rfl | rfl | rfl | rfl <;> decide +kernel
theorem InR_0 : InR mu0 := ⟨rfl, rfl, fun n hn k hk => by rw [mu0_z (by omega) (by omega), mu0_z (by decide) (by decide)], fun n hn => ⟨Or.inl (la0_m n hn), by rw [mu0_z (by decide) (by decide)]; exact ⟨by decide, by decide⟩⟩⟩
theorem InT_0 : InT mu0 := ⟨fun _ => 0, 0, ⟨mu0_n (by decide) (by decide), by decide, fun k hk => absurd hk (Nat.not_lt_zero k)⟩, ⟨mu0_n (by decide) (by decide), by decide, fun k hk => absurd hk (Nat.not_lt_zero k)⟩⟩
theorem InC_0 : InC mu0 := ⟨al0, fun _ => al0, 0, 0, al0_Vz, Abs_z (fun i hi => mu0_z (by decide) (by decide)), Abs_z (fun i hi => mu0_z (a := 71) (j := pmN i) (by decide) (by decide)), ⟨mu0_n (by decide) (by decide), by decide, mu0_n (by decide) (by decide), by decide, fun i hi => absurd hi (Nat.not_lt_zero i)⟩, ⟨mu0_n (by decide) (by decide), by decide, fun i hi => absurd hi (Nat.not_lt_zero i)⟩, fun i hi => absurd hi (Nat.not_lt_zero i)⟩
theorem InI_0 : InI mu0 := ⟨fun _ => al0, fun K hK => ⟨al0_Vz, Abs_z (fun i hi => mu0_z (a := 35 + 8 * K + 0) (by omega) (by omega)), Or.inr ⟨al0_nV, mu0_z (by decide) (by decide)⟩⟩⟩
theorem InX_0 : InX mu0 := ⟨[], by decide, ⟨mu0_n (by decide) (by decide), fun k hk => absurd hk (Nat.not_lt_zero k)⟩, ⟨mu0_n (by decide) (by decide), fun k hk => absurd hk (Nat.not_lt_zero k)⟩⟩
theorem Inv_0 : Inv mu0 := ⟨InR_0, rfl, rfl, InT_0, InC_0, InI_0, InX_0⟩
