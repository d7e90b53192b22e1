theorem wX5_n {E : En} {b j : Nat} {w : Nat → va_E} (h : j < b) : wX5_init E b  w j = w j := by
  unfold wX5_init
  exact (uw_n (by omega)).trans ((uw_n (by omega)).trans ((uw_n (by omega)).trans ((uw_n (by omega)).trans ((uw_n (by omega)).trans ((uw_n (by omega)).trans ((uw_n (by omega)).trans ((uw_n (by omega)).trans ((uw_n (by omega)).trans ((uw_n (by omega)).trans ((uw_n (by omega)).trans ((uw_n (by omega)).trans ((uw_n (by omega)).trans ((uwM_n (by omega)).trans (rfl))))))))))))))
theorem wX5_b {E : En} {b : Nat} {w : Nat → va_E} : wX5_init E b  w b = .inr (5, (List.set (List.set (List.set [.null, .null, .null] 0 (.ref (E.2.2.1 (b + 1)))) 1 (.ref (E.2.2.1 (b + 10)))) 2 (.ref (E.2.2.1 (b + 11))))) := by
  unfold wX5_init
  exact uw_s
theorem wX6_n {E : En} {b j : Nat} {w : Nat → va_E} (h : j < b) : wX6_init E b  w j = w j := by
  unfold wX6_init
  exact (uw_n (by omega)).trans ((uw_n (by omega)).trans (rfl))
theorem wX6_b {E : En} {b : Nat} {w : Nat → va_E} : wX6_init E b  w b = .inr (6, (List.set [.null, .int 0] 0 (.ref (E.2.2.1 (b + 1))))) := by
  unfold wX6_init
  exact uw_s
theorem wX2_n {E : En} {b j : Nat} {w : Nat → va_E} (h : j < b) : wX2_init E b  w j = w j := by
  unfold wX2_init
  exact (uw_n (by omega)).trans ((uw_n (by omega)).trans ((uw_n (by omega)).trans ((uw_n (by omega)).trans ((uw_n (by omega)).trans ((uw_n (by omega)).trans ((uw_n (by omega)).trans ((uw_n (by omega)).trans ((uw_n (by omega)).trans ((uw_n (by omega)).trans ((uw_n (by omega)).trans ((uw_n (by omega)).trans ((uw_n (by omega)).trans ((uw_n (by omega)).trans (rfl))))))))))))))
theorem wX2_b {E : En} {b : Nat} {w : Nat → va_E} : wX2_init E b  w b = .inr (2, (List.set (List.set (List.set (List.set (List.set (List.set (List.set [.int 0, .int 0, .int 0, .int 0, .int 0, .int 0, .int 0, .int 0, .null, .null, .null, .null, .null, .null, .null] 8 (.ref (E.2.2.1 (b + 1)))) 9 (.ref (E.2.2.1 (b + 2)))) 10 (.ref (E.2.2.1 (b + 3)))) 11 (.ref (E.2.2.1 (b + 4)))) 12 (.ref (E.2.2.1 (b + 5)))) 13 (.ref (E.2.2.1 (b + 6)))) 14 (.ref (E.2.2.1 (b + 7))))) := by
  unfold wX2_init
  exact uw_s
theorem wX4_n {E : En} {b j : Nat} {r1 r2 : Nat} {w : Nat → va_E} (h : j < b) : wX4_init E b r1 r2 w j = w j := by
  unfold wX4_init
  exact (uw_n (by omega)).trans ((uw_n (by omega)).trans (rfl))
theorem wX4_b {E : En} {b : Nat} {r1 r2 : Nat} {w : Nat → va_E} : wX4_init E b r1 r2 w b = .inr (4, (List.set (List.set [.null, .null, .int 0, .int 0] 0 (.ref (E.2.2.1 r1))) 1 (.ref (E.2.2.1 r2)))) := by
  unfold wX4_init
  exact uw_s
theorem wX0_n {E : En} {b j : Nat} {w : Nat → va_E} (h : j < b) : wX0_init E b  w j = w j := by
  unfold wX0_init
  exact (uw_n (by omega)).trans ((uw_n (by omega)).trans (rfl))
theorem wX0_b {E : En} {b : Nat} {w : Nat → va_E} : wX0_init E b  w b = .inr (0, (List.set [.null, .int 0, .int 0] 0 (.ref (E.2.2.1 (b + 1))))) := by
  unfold wX0_init
  exact uw_s
theorem wX8_n {E : En} {b j : Nat} {r1 : Nat} {w : Nat → va_E} (h : j < b) : wX8_init E b r1 w j = w j := by
  unfold wX8_init
  exact (uw_n (by omega)).trans ((uw_n (by omega)).trans ((uw_n (by omega)).trans ((uw_n (by omega)).trans ((uw_n (by omega)).trans ((uw_n (by omega)).trans ((uw_n (by omega)).trans ((uw_n (by omega)).trans ((uw_n (by omega)).trans ((uw_n (by omega)).trans ((uw_n (by omega)).trans ((uw_n (by omega)).trans ((uw_n (by omega)).trans (rfl)))))))))))))
theorem wX8_b {E : En} {b : Nat} {r1 : Nat} {w : Nat → va_E} : wX8_init E b r1 w b = .inr (8, (List.set (List.set (List.set (List.set (List.set (List.set (List.set [.null, .null, .null, .null, .null, .null, .null, .int 0] 1 (.ref (E.2.2.1 (b + 1)))) 2 (.ref (E.2.2.1 (b + 2)))) 3 (.ref (E.2.2.1 (b + 3)))) 4 (.ref (E.2.2.1 (b + 4)))) 5 (.ref (E.2.2.1 (b + 5)))) 6 (.ref (E.2.2.1 (b + 6)))) 0 (.ref (E.2.2.1 r1)))) := by
  unfold wX8_init
  exact uw_s
theorem wX3_n {E : En} {b j : Nat} {r1 : Nat} {w : Nat → va_E} (h : j < b) : wX3_init E b r1 w j = w j := by
  unfold wX3_init
  exact (uw_n (by omega)).trans ((uw_n (by omega)).trans ((uw_n (by omega)).trans ((uw_n (by omega)).trans ((uw_n (by omega)).trans ((uw_n (by omega)).trans ((uw_n (by omega)).trans (rfl)))))))
theorem wX3_b {E : En} {b : Nat} {r1 : Nat} {w : Nat → va_E} : wX3_init E b r1 w b = .inr (3, (List.set (List.set (List.set (List.set [.null, .null, .null, .null, .int 0, .int 0, .int 0] 1 (.ref (E.2.2.1 (b + 1)))) 2 (.ref (E.2.2.1 (b + 2)))) 3 (.ref (E.2.2.1 (b + 3)))) 0 (.ref (E.2.2.1 r1)))) := by
  unfold wX3_init
  exact uw_s
theorem wX7_n {E : En} {b j : Nat} {r1 : Nat} {w : Nat → va_E} (h : j < b) : wX7_init E b r1 w j = w j := by
  unfold wX7_init
  exact (uw_n (by omega)).trans ((uw_n (by omega)).trans ((uw_n (by omega)).trans ((uw_n (by omega)).trans ((uw_n (by omega)).trans (rfl)))))
theorem wX7_b {E : En} {b : Nat} {r1 : Nat} {w : Nat → va_E} : wX7_init E b r1 w b = .inr (7, (List.set (List.set (List.set [.null, .null, .null, .int 0] 1 (.ref (E.2.2.1 (b + 1)))) 2 (.ref (E.2.2.1 (b + 2)))) 0 (.ref (E.2.2.1 r1)))) := by
  unfold wX7_init
  exact uw_s
theorem wX1_n {E : En} {b j : Nat} {r1 : Nat} {w : Nat → va_E} (h : j < b) : wX1_init E b r1 w j = w j := by
  unfold wX1_init
  exact (uw_n (by omega)).trans ((uw_n (by omega)).trans ((uw_n (by omega)).trans (rfl)))
theorem wX1_b {E : En} {b : Nat} {r1 : Nat} {w : Nat → va_E} : wX1_init E b r1 w b = .inr (1, (List.set (List.set [.null, .null, .int 0] 1 (.ref (E.2.2.1 (b + 1)))) 0 (.ref (E.2.2.1 r1)))) := by
  unfold wX1_init
  exact uw_s
theorem cl_X9_7 : Cond.classLink RX9 7 RX5 ∈ gw_tbl := tb 24 (by decide +kernel)
theorem in_X5 : Cond.instantiable RX5 3 ∈ gw_tbl := tb 25 (by decide +kernel)
theorem cl_X9_16 : Cond.classLink RX9 16 RX6 ∈ gw_tbl := tb 44 (by decide +kernel)
theorem in_X6 : Cond.instantiable RX6 2 ∈ gw_tbl := tb 45 (by decide +kernel)
theorem cl_X9_23 : Cond.classLink RX9 23 RX2 ∈ gw_tbl := tb 59 (by decide +kernel)
theorem in_X2 : Cond.instantiable RX2 15 ∈ gw_tbl := tb 60 (by decide +kernel)
theorem cl_X9_33 : Cond.classLink RX9 33 RX4 ∈ gw_tbl := tb 149 (by decide +kernel)
theorem in_X4 : Cond.instantiable RX4 4 ∈ gw_tbl := tb 150 (by decide +kernel)
theorem cl_X9_42 : Cond.classLink RX9 42 RX0 ∈ gw_tbl := tb 170 (by decide +kernel)
theorem in_X0 : Cond.instantiable RX0 3 ∈ gw_tbl := tb 171 (by decide +kernel)
theorem cl_X9_53 : Cond.classLink RX9 53 RX8 ∈ gw_tbl := tb 188 (by decide +kernel)
theorem in_X8 : Cond.instantiable RX8 8 ∈ gw_tbl := tb 189 (by decide +kernel)
theorem cl_X9_62 : Cond.classLink RX9 62 RX3 ∈ gw_tbl := tb 219 (by decide +kernel)
theorem in_X3 : Cond.instantiable RX3 7 ∈ gw_tbl := tb 220 (by decide +kernel)
theorem cl_X9_69 : Cond.classLink RX9 69 RX7 ∈ gw_tbl := tb 251 (by decide +kernel)
theorem in_X7 : Cond.instantiable RX7 4 ∈ gw_tbl := tb 252 (by decide +kernel)
theorem cl_X9_76 : Cond.classLink RX9 76 RX1 ∈ gw_tbl := tb 270 (by decide +kernel)
theorem in_X1 : Cond.instantiable RX1 3 ∈ gw_tbl := tb 271 (by decide +kernel)
def wX9_init (E : En) (w : Nat → va_E) : Nat → va_E := uw (wX1_init E 65 15 (uw (uw (wX7_init E 62 15 (uw (uw (wX3_init E 58 15 (uw (uw (wX8_init E 51 15 (uw (uw (uw (wX2_init E 43  (uw (uw (wX2_init E 35  (uw (uw (uw (wX0_init E 32  (uw (uw (wX4_init E 31 13 23 (uw (uw (wX2_init E 23  (uw (uw (wX2_init E 15  (uw (uw (wX6_init E 13  (uw (uw (wX5_init E 1  (uw (w) 1 (.inr (5, [.null, .null, .null])))) 0 (.inr (9, (List.set [.null, .null, .null, .null, .null, .null, .null, .null, .null, .null, .null, .int 0, .int 0] 0 (.ref (E.2.2.1 1)))))) 13 (.inr (6, [.null, .int 0])))) 0 (.inr (9, (List.set (List.set [.null, .null, .null, .null, .null, .null, .null, .null, .null, .null, .null, .int 0, .int 0] 0 (.ref (E.2.2.1 1))) 1 (.ref (E.2.2.1 13)))))) 15 (.inr (2, [.int 0, .int 0, .int 0, .int 0, .int 0, .int 0, .int 0, .int 0, .null, .null, .null, .null, .null, .null, .null])))) 0 (.inr (9, (List.set (List.set (List.set [.null, .null, .null, .null, .null, .null, .null, .null, .null, .null, .null, .int 0, .int 0] 0 (.ref (E.2.2.1 1))) 1 (.ref (E.2.2.1 13))) 2 (.ref (E.2.2.1 15)))))) 23 (.inr (2, [.int 0, .int 0, .int 0, .int 0, .int 0, .int 0, .int 0, .int 0, .null, .null, .null, .null, .null, .null, .null])))) 0 (.inr (9, (List.set (List.set (List.set (List.set [.null, .null, .null, .null, .null, .null, .null, .null, .null, .null, .null, .int 0, .int 0] 0 (.ref (E.2.2.1 1))) 1 (.ref (E.2.2.1 13))) 2 (.ref (E.2.2.1 15))) 3 (.ref (E.2.2.1 23)))))) 31 (.inr (4, [.null, .null, .int 0, .int 0])))) 0 (.inr (9, (List.set (List.set (List.set (List.set (List.set [.null, .null, .null, .null, .null, .null, .null, .null, .null, .null, .null, .int 0, .int 0] 0 (.ref (E.2.2.1 1))) 1 (.ref (E.2.2.1 13))) 2 (.ref (E.2.2.1 15))) 3 (.ref (E.2.2.1 23))) 4 (.ref (E.2.2.1 31)))))) 32 (.inr (0, [.null, .int 0, .int 0])))) 0 (.inr (9, (List.set (List.set (List.set (List.set (List.set (List.set [.null, .null, .null, .null, .null, .null, .null, .null, .null, .null, .null, .int 0, .int 0] 0 (.ref (E.2.2.1 1))) 1 (.ref (E.2.2.1 13))) 2 (.ref (E.2.2.1 15))) 3 (.ref (E.2.2.1 23))) 4 (.ref (E.2.2.1 31))) 5 (.ref (E.2.2.1 32)))))) 34 (.inl (E.2.2.2 2, 2, eqv (fun _ => none)))) 35 (.inr (2, [.int 0, .int 0, .int 0, .int 0, .int 0, .int 0, .int 0, .int 0, .null, .null, .null, .null, .null, .null, .null])))) 34 (.inl (E.2.2.2 2, 2, eqv (va_up (fun _ => none) (0 : Int32).toNatClampNeg (some (E.2.2.1 35)))))) 43 (.inr (2, [.int 0, .int 0, .int 0, .int 0, .int 0, .int 0, .int 0, .int 0, .null, .null, .null, .null, .null, .null, .null])))) 34 (.inl (E.2.2.2 2, 2, eqv (va_up (va_up (fun _ => none) (0 : Int32).toNatClampNeg (some (E.2.2.1 35))) (1 : Int32).toNatClampNeg (some (E.2.2.1 43)))))) 0 (.inr (9, (List.set (List.set (List.set (List.set (List.set (List.set (List.set [.null, .null, .null, .null, .null, .null, .null, .null, .null, .null, .null, .int 0, .int 0] 0 (.ref (E.2.2.1 1))) 1 (.ref (E.2.2.1 13))) 2 (.ref (E.2.2.1 15))) 3 (.ref (E.2.2.1 23))) 4 (.ref (E.2.2.1 31))) 5 (.ref (E.2.2.1 32))) 6 (.ref (E.2.2.1 34)))))) 51 (.inr (8, [.null, .null, .null, .null, .null, .null, .null, .int 0])))) 0 (.inr (9, (List.set (List.set (List.set (List.set (List.set (List.set (List.set (List.set [.null, .null, .null, .null, .null, .null, .null, .null, .null, .null, .null, .int 0, .int 0] 0 (.ref (E.2.2.1 1))) 1 (.ref (E.2.2.1 13))) 2 (.ref (E.2.2.1 15))) 3 (.ref (E.2.2.1 23))) 4 (.ref (E.2.2.1 31))) 5 (.ref (E.2.2.1 32))) 6 (.ref (E.2.2.1 34))) 7 (.ref (E.2.2.1 51)))))) 58 (.inr (3, [.null, .null, .null, .null, .int 0, .int 0, .int 0])))) 0 (.inr (9, (List.set (List.set (List.set (List.set (List.set (List.set (List.set (List.set (List.set [.null, .null, .null, .null, .null, .null, .null, .null, .null, .null, .null, .int 0, .int 0] 0 (.ref (E.2.2.1 1))) 1 (.ref (E.2.2.1 13))) 2 (.ref (E.2.2.1 15))) 3 (.ref (E.2.2.1 23))) 4 (.ref (E.2.2.1 31))) 5 (.ref (E.2.2.1 32))) 6 (.ref (E.2.2.1 34))) 7 (.ref (E.2.2.1 51))) 8 (.ref (E.2.2.1 58)))))) 62 (.inr (7, [.null, .null, .null, .int 0])))) 0 (.inr (9, (List.set (List.set (List.set (List.set (List.set (List.set (List.set (List.set (List.set (List.set [.null, .null, .null, .null, .null, .null, .null, .null, .null, .null, .null, .int 0, .int 0] 0 (.ref (E.2.2.1 1))) 1 (.ref (E.2.2.1 13))) 2 (.ref (E.2.2.1 15))) 3 (.ref (E.2.2.1 23))) 4 (.ref (E.2.2.1 31))) 5 (.ref (E.2.2.1 32))) 6 (.ref (E.2.2.1 34))) 7 (.ref (E.2.2.1 51))) 8 (.ref (E.2.2.1 58))) 9 (.ref (E.2.2.1 62)))))) 65 (.inr (1, [.null, .null, .int 0])))) 0 (.inr (9, (List.set (List.set (List.set (List.set (List.set (List.set (List.set (List.set (List.set (List.set (List.set [.null, .null, .null, .null, .null, .null, .null, .null, .null, .null, .null, .int 0, .int 0] 0 (.ref (E.2.2.1 1))) 1 (.ref (E.2.2.1 13))) 2 (.ref (E.2.2.1 15))) 3 (.ref (E.2.2.1 23))) 4 (.ref (E.2.2.1 31))) 5 (.ref (E.2.2.1 32))) 6 (.ref (E.2.2.1 34))) 7 (.ref (E.2.2.1 51))) 8 (.ref (E.2.2.1 58))) 9 (.ref (E.2.2.1 62))) 10 (.ref (E.2.2.1 65)))))
theorem n_X9_init {E : En} {h0 : Nat} {w : Nat → va_E} (hL : Li E h0) (hw : w 0 = .inr (9, [.null, .null, .null, .null, .null, .null, .null, .null, .null, .null, .null, .int 0, .int 0])) : CtN E h0 yX9_init cX9_init 1 1 66 2639 [vR 0] 1 w 67 (wX9_init E w) := by
  refine CtN.go RX9 rfl pn_X9 rfl (Nat.le_of_ble_eq_true rfl) hL (fun C hG hR => ?_)
  unfold wX9_init at hR
  refine N_aload_n (pc := 0) hG (dk dd_X9_init 0 rfl) rfl ?_
  refine N_obj (pc := 1) hG (dk dd_X9_init 1 rfl) ml_X9_1 rfl ?_
  refine N_aload_n (pc := 4) hG (dk dd_X9_init 2 rfl) rfl ?_
  refine N_new (n := 1) (pc := 5) hG (dk dd_X9_init 3 rfl) (ci := 5) (fs := [.null, .null, .null]) rfl tyX5_ok cl_X9_7 in_X5 ini_X5 (fun j hj => by rcases (show j = 0 ∨ j = 1 ∨ j = 2 by omega) with rfl | rfl | rfl <;> rfl) (by decide) (Nat.le_of_ble_eq_true rfl) (Nat.le_of_ble_eq_true rfl) ?_
  refine N_dup (pc := 8) hG (dk dd_X9_init 4 rfl) rfl ?_
  refine N_callN (n := 2) (pc := 9) hG (dk dd_X9_init 5 rfl) (fun s h => h.2.1) mo_X5_init rfl (n_X5_init (b := 1) hL (by decide) (uw_s)) (by decide) (by decide) rfl rfl rfl (Nat.le_of_ble_eq_true rfl) (Nat.le_of_ble_eq_true rfl) ?_
  refine N_putF (n := 13) (pc := 12) hG (by decide +kernel) (dk dd_X9_init 6 rfl) fl_X9_10 (by decide +kernel) (by decide) (by decide) ((wX5_n (by decide)).trans ((uw_n (by decide)).trans (hw))) (by simp) ?_
  refine N_aload_n (pc := 15) hG (dk dd_X9_init 7 rfl) rfl ?_
  refine N_new (n := 13) (pc := 16) hG (dk dd_X9_init 8 rfl) (ci := 6) (fs := [.null, .int 0]) rfl tyX6_ok cl_X9_16 in_X6 ini_X6 (fun j hj => by rcases (show j = 0 ∨ j = 1 by omega) with rfl | rfl <;> rfl) (by decide) (Nat.le_of_ble_eq_true rfl) (Nat.le_of_ble_eq_true rfl) ?_
  refine N_dup (pc := 19) hG (dk dd_X9_init 9 rfl) rfl ?_
  refine N_callN (n := 14) (pc := 20) hG (dk dd_X9_init 10 rfl) (fun s h => h.2.2.1) mo_X6_init rfl (n_X6_init (b := 13) hL (by decide) (uw_s)) (by decide) (by decide) rfl rfl rfl (Nat.le_of_ble_eq_true rfl) (Nat.le_of_ble_eq_true rfl) ?_
  refine N_putF (n := 15) (pc := 23) hG (by decide +kernel) (dk dd_X9_init 11 rfl) fl_X9_19 (by decide +kernel) (by decide) (by decide) ((wX6_n (by decide)).trans ((uw_n (by decide)).trans (uw_s))) (by simp) ?_
  refine N_aload_n (pc := 26) hG (dk dd_X9_init 12 rfl) rfl ?_
  refine N_new (n := 15) (pc := 27) hG (dk dd_X9_init 13 rfl) (ci := 2) (fs := [.int 0, .int 0, .int 0, .int 0, .int 0, .int 0, .int 0, .int 0, .null, .null, .null, .null, .null, .null, .null]) rfl tyX2_ok cl_X9_23 in_X2 ini_X2 (fun j hj => by rcases (show j = 0 ∨ j = 1 ∨ j = 2 ∨ j = 3 ∨ j = 4 ∨ j = 5 ∨ j = 6 ∨ j = 7 ∨ j = 8 ∨ j = 9 ∨ j = 10 ∨ j = 11 ∨ j = 12 ∨ j = 13 ∨ j = 14 by omega) with rfl | rfl | rfl | rfl | rfl | rfl | rfl | rfl | rfl | rfl | rfl | rfl | rfl | rfl | rfl <;> rfl) (by decide) (Nat.le_of_ble_eq_true rfl) (Nat.le_of_ble_eq_true rfl) ?_
  refine N_dup (pc := 30) hG (dk dd_X9_init 14 rfl) rfl ?_
  refine N_callN (n := 16) (pc := 31) hG (dk dd_X9_init 15 rfl) (fun s h => h.2.2.2.1) mo_X2_init rfl (n_X2_init (b := 15) hL (by decide) (uw_s)) (by decide) (by decide) rfl rfl rfl (Nat.le_of_ble_eq_true rfl) (Nat.le_of_ble_eq_true rfl) ?_
  refine N_putF (n := 23) (pc := 34) hG (by decide +kernel) (dk dd_X9_init 16 rfl) fl_X9_26 (by decide +kernel) (by decide) (by decide) ((wX2_n (by decide)).trans ((uw_n (by decide)).trans (uw_s))) (by simp) ?_
  refine N_aload_n (pc := 37) hG (dk dd_X9_init 17 rfl) rfl ?_
  refine N_new (n := 23) (pc := 38) hG (dk dd_X9_init 18 rfl) (ci := 2) (fs := [.int 0, .int 0, .int 0, .int 0, .int 0, .int 0, .int 0, .int 0, .null, .null, .null, .null, .null, .null, .null]) rfl tyX2_ok cl_X9_23 in_X2 ini_X2 (fun j hj => by rcases (show j = 0 ∨ j = 1 ∨ j = 2 ∨ j = 3 ∨ j = 4 ∨ j = 5 ∨ j = 6 ∨ j = 7 ∨ j = 8 ∨ j = 9 ∨ j = 10 ∨ j = 11 ∨ j = 12 ∨ j = 13 ∨ j = 14 by omega) with rfl | rfl | rfl | rfl | rfl | rfl | rfl | rfl | rfl | rfl | rfl | rfl | rfl | rfl | rfl <;> rfl) (by decide) (Nat.le_of_ble_eq_true rfl) (Nat.le_of_ble_eq_true rfl) ?_
  refine N_dup (pc := 41) hG (dk dd_X9_init 19 rfl) rfl ?_
  refine N_callN (n := 24) (pc := 42) hG (dk dd_X9_init 20 rfl) (fun s h => h.2.2.2.1) mo_X2_init rfl (n_X2_init (b := 23) hL (by decide) (uw_s)) (by decide) (by decide) rfl rfl rfl (Nat.le_of_ble_eq_true rfl) (Nat.le_of_ble_eq_true rfl) ?_
  refine N_putF (n := 31) (pc := 45) hG (by decide +kernel) (dk dd_X9_init 21 rfl) fl_X9_30 (by decide +kernel) (by decide) (by decide) ((wX2_n (by decide)).trans ((uw_n (by decide)).trans (uw_s))) (by simp) ?_
  refine N_aload_n (pc := 48) hG (dk dd_X9_init 22 rfl) rfl ?_
  refine N_new (n := 31) (pc := 49) hG (dk dd_X9_init 23 rfl) (ci := 4) (fs := [.null, .null, .int 0, .int 0]) rfl tyX4_ok cl_X9_33 in_X4 ini_X4 (fun j hj => by rcases (show j = 0 ∨ j = 1 ∨ j = 2 ∨ j = 3 by omega) with rfl | rfl | rfl | rfl <;> rfl) (by decide) (Nat.le_of_ble_eq_true rfl) (Nat.le_of_ble_eq_true rfl) ?_
  refine N_dup (pc := 52) hG (dk dd_X9_init 24 rfl) rfl ?_
  refine N_aload_n (pc := 53) hG (dk dd_X9_init 25 rfl) rfl ?_
  refine N_getR (n := 32) (r := 13) (pc := 54) hG (dk dd_X9_init 26 rfl) fl_X9_19 (by decide) (by decide) ((uw_n (by decide)).trans (uw_s)) rfl ?_
  refine N_aload_n (pc := 57) hG (dk dd_X9_init 27 rfl) rfl ?_
  refine N_getR (n := 32) (r := 23) (pc := 58) hG (dk dd_X9_init 28 rfl) fl_X9_30 (by decide) (by decide) ((uw_n (by decide)).trans (uw_s)) rfl ?_
  refine N_call (n := 32) (pc := 61) hG (dk dd_X9_init 29 rfl) ml_X9_35 mo_X4_init rfl (n_X4_init (b := 31) (r1 := 13) (r2 := 23) hL (by decide) (uw_s)) (by decide) (by decide) rfl rfl rfl (Nat.le_of_ble_eq_true rfl) (Nat.le_of_ble_eq_true rfl) ?_
  refine N_putF (n := 32) (pc := 64) hG (by decide +kernel) (dk dd_X9_init 30 rfl) fl_X9_38 (by decide +kernel) (by decide) (by decide) ((wX4_n (by decide)).trans ((uw_n (by decide)).trans (uw_s))) (by simp) ?_
  refine N_aload_n (pc := 67) hG (dk dd_X9_init 31 rfl) rfl ?_
  refine N_new (n := 32) (pc := 68) hG (dk dd_X9_init 32 rfl) (ci := 0) (fs := [.null, .int 0, .int 0]) rfl tyX0_ok cl_X9_42 in_X0 ini_X0 (fun j hj => by rcases (show j = 0 ∨ j = 1 ∨ j = 2 by omega) with rfl | rfl | rfl <;> rfl) (by decide) (Nat.le_of_ble_eq_true rfl) (Nat.le_of_ble_eq_true rfl) ?_
  refine N_dup (pc := 71) hG (dk dd_X9_init 33 rfl) rfl ?_
  refine N_callN (n := 33) (pc := 72) hG (dk dd_X9_init 34 rfl) (fun s h => h.2.2.2.2) mo_X0_init rfl (n_X0_init (b := 32) hL (by decide) (uw_s)) (by decide) (by decide) rfl rfl rfl (Nat.le_of_ble_eq_true rfl) (Nat.le_of_ble_eq_true rfl) ?_
  refine N_putF (n := 34) (pc := 75) hG (by decide +kernel) (dk dd_X9_init 35 rfl) fl_X9_45 (by decide +kernel) (by decide) (by decide) ((wX0_n (by decide)).trans ((uw_n (by decide)).trans (uw_s))) (by simp) ?_
  refine N_aload_n (pc := 78) hG (dk dd_X9_init 36 rfl) rfl ?_
  refine N_iconst (pc := 79) hG (dk dd_X9_init 37 rfl) (v := 2) (by decide) ?_
  refine N_newq (n := 34) (pc := 80) hG (dk dd_X9_init 38 rfl) cl_X9_23 (by decide) (by decide) (len := 2) (by decide) rfl (Nat.le_of_ble_eq_true rfl) (Nat.le_of_ble_eq_true rfl) ?_
  refine N_dup (pc := 83) hG (dk dd_X9_init 39 rfl) rfl ?_
  refine N_iconst (pc := 84) hG (dk dd_X9_init 40 rfl) (v := 0) (by decide) ?_
  refine N_new (n := 35) (pc := 85) hG (dk dd_X9_init 41 rfl) (ci := 2) (fs := [.int 0, .int 0, .int 0, .int 0, .int 0, .int 0, .int 0, .int 0, .null, .null, .null, .null, .null, .null, .null]) rfl tyX2_ok cl_X9_23 in_X2 ini_X2 (fun j hj => by rcases (show j = 0 ∨ j = 1 ∨ j = 2 ∨ j = 3 ∨ j = 4 ∨ j = 5 ∨ j = 6 ∨ j = 7 ∨ j = 8 ∨ j = 9 ∨ j = 10 ∨ j = 11 ∨ j = 12 ∨ j = 13 ∨ j = 14 by omega) with rfl | rfl | rfl | rfl | rfl | rfl | rfl | rfl | rfl | rfl | rfl | rfl | rfl | rfl | rfl <;> rfl) (by decide) (Nat.le_of_ble_eq_true rfl) (Nat.le_of_ble_eq_true rfl) ?_
  refine N_dup (pc := 88) hG (dk dd_X9_init 42 rfl) rfl ?_
  refine N_callN (n := 36) (pc := 89) hG (dk dd_X9_init 43 rfl) (fun s h => h.2.2.2.1) mo_X2_init rfl (n_X2_init (b := 35) hL (by decide) (uw_s)) (by decide) (by decide) rfl rfl rfl (Nat.le_of_ble_eq_true rfl) (Nat.le_of_ble_eq_true rfl) ?_
  refine N_astq (n := 43) (pc := 92) hG (dk dd_X9_init 44 rfl) (by decide) (by decide) (by decide) ((wX2_n (by decide)).trans ((uw_n (by decide)).trans (uw_s))) (wX2_b) (by unfold vp_in; decide) ?_
  refine N_dup (pc := 93) hG (dk dd_X9_init 45 rfl) rfl ?_
  refine N_iconst (pc := 94) hG (dk dd_X9_init 46 rfl) (v := 1) (by decide) ?_
  refine N_new (n := 43) (pc := 95) hG (dk dd_X9_init 47 rfl) (ci := 2) (fs := [.int 0, .int 0, .int 0, .int 0, .int 0, .int 0, .int 0, .int 0, .null, .null, .null, .null, .null, .null, .null]) rfl tyX2_ok cl_X9_23 in_X2 ini_X2 (fun j hj => by rcases (show j = 0 ∨ j = 1 ∨ j = 2 ∨ j = 3 ∨ j = 4 ∨ j = 5 ∨ j = 6 ∨ j = 7 ∨ j = 8 ∨ j = 9 ∨ j = 10 ∨ j = 11 ∨ j = 12 ∨ j = 13 ∨ j = 14 by omega) with rfl | rfl | rfl | rfl | rfl | rfl | rfl | rfl | rfl | rfl | rfl | rfl | rfl | rfl | rfl <;> rfl) (by decide) (Nat.le_of_ble_eq_true rfl) (Nat.le_of_ble_eq_true rfl) ?_
  refine N_dup (pc := 98) hG (dk dd_X9_init 48 rfl) rfl ?_
  refine N_callN (n := 44) (pc := 99) hG (dk dd_X9_init 49 rfl) (fun s h => h.2.2.2.1) mo_X2_init rfl (n_X2_init (b := 43) hL (by decide) (uw_s)) (by decide) (by decide) rfl rfl rfl (Nat.le_of_ble_eq_true rfl) (Nat.le_of_ble_eq_true rfl) ?_
  refine N_astq (n := 51) (pc := 102) hG (dk dd_X9_init 50 rfl) (by decide) (by decide) (by decide) ((wX2_n (by decide)).trans ((uw_n (by decide)).trans (uw_s))) (wX2_b) (by unfold vp_in; decide) ?_
  refine N_putF (n := 51) (pc := 103) hG (by decide +kernel) (dk dd_X9_init 51 rfl) fl_X9_49 (by decide +kernel) (by decide) (by decide) ((uw_n (by decide)).trans ((wX2_n (by decide)).trans ((uw_n (by decide)).trans ((uw_n (by decide)).trans ((wX2_n (by decide)).trans ((uw_n (by decide)).trans ((uw_n (by decide)).trans (uw_s)))))))) (by simp) ?_
  refine N_aload_n (pc := 106) hG (dk dd_X9_init 52 rfl) rfl ?_
  refine N_new (n := 51) (pc := 107) hG (dk dd_X9_init 53 rfl) (ci := 8) (fs := [.null, .null, .null, .null, .null, .null, .null, .int 0]) rfl tyX8_ok cl_X9_53 in_X8 ini_X8 (fun j hj => by rcases (show j = 0 ∨ j = 1 ∨ j = 2 ∨ j = 3 ∨ j = 4 ∨ j = 5 ∨ j = 6 ∨ j = 7 by omega) with rfl | rfl | rfl | rfl | rfl | rfl | rfl | rfl <;> rfl) (by decide) (Nat.le_of_ble_eq_true rfl) (Nat.le_of_ble_eq_true rfl) ?_
  refine N_dup (pc := 110) hG (dk dd_X9_init 54 rfl) rfl ?_
  refine N_aload_n (pc := 111) hG (dk dd_X9_init 55 rfl) rfl ?_
  refine N_getR (n := 52) (r := 15) (pc := 112) hG (dk dd_X9_init 56 rfl) fl_X9_26 (by decide) (by decide) ((uw_n (by decide)).trans (uw_s)) rfl ?_
  refine N_call (n := 52) (pc := 115) hG (dk dd_X9_init 57 rfl) ml_X9_55 mo_X8_init rfl (n_X8_init (b := 51) (r1 := 15) hL (by decide) (uw_s)) (by decide) (by decide) rfl rfl rfl (Nat.le_of_ble_eq_true rfl) (Nat.le_of_ble_eq_true rfl) ?_
  refine N_putF (n := 58) (pc := 118) hG (by decide +kernel) (dk dd_X9_init 58 rfl) fl_X9_58 (by decide +kernel) (by decide) (by decide) ((wX8_n (by decide)).trans ((uw_n (by decide)).trans (uw_s))) (by simp) ?_
  refine N_aload_n (pc := 121) hG (dk dd_X9_init 59 rfl) rfl ?_
  refine N_new (n := 58) (pc := 122) hG (dk dd_X9_init 60 rfl) (ci := 3) (fs := [.null, .null, .null, .null, .int 0, .int 0, .int 0]) rfl tyX3_ok cl_X9_62 in_X3 ini_X3 (fun j hj => by rcases (show j = 0 ∨ j = 1 ∨ j = 2 ∨ j = 3 ∨ j = 4 ∨ j = 5 ∨ j = 6 by omega) with rfl | rfl | rfl | rfl | rfl | rfl | rfl <;> rfl) (by decide) (Nat.le_of_ble_eq_true rfl) (Nat.le_of_ble_eq_true rfl) ?_
  refine N_dup (pc := 125) hG (dk dd_X9_init 61 rfl) rfl ?_
  refine N_aload_n (pc := 126) hG (dk dd_X9_init 62 rfl) rfl ?_
  refine N_getR (n := 59) (r := 15) (pc := 127) hG (dk dd_X9_init 63 rfl) fl_X9_26 (by decide) (by decide) ((uw_n (by decide)).trans (uw_s)) rfl ?_
  refine N_call (n := 59) (pc := 130) hG (dk dd_X9_init 64 rfl) ml_X9_64 mo_X3_init rfl (n_X3_init (b := 58) (r1 := 15) hL (by decide) (uw_s)) (by decide) (by decide) rfl rfl rfl (Nat.le_of_ble_eq_true rfl) (Nat.le_of_ble_eq_true rfl) ?_
  refine N_putF (n := 62) (pc := 133) hG (by decide +kernel) (dk dd_X9_init 65 rfl) fl_X9_65 (by decide +kernel) (by decide) (by decide) ((wX3_n (by decide)).trans ((uw_n (by decide)).trans (uw_s))) (by simp) ?_
  refine N_aload_n (pc := 136) hG (dk dd_X9_init 66 rfl) rfl ?_
  refine N_new (n := 62) (pc := 137) hG (dk dd_X9_init 67 rfl) (ci := 7) (fs := [.null, .null, .null, .int 0]) rfl tyX7_ok cl_X9_69 in_X7 ini_X7 (fun j hj => by rcases (show j = 0 ∨ j = 1 ∨ j = 2 ∨ j = 3 by omega) with rfl | rfl | rfl | rfl <;> rfl) (by decide) (Nat.le_of_ble_eq_true rfl) (Nat.le_of_ble_eq_true rfl) ?_
  refine N_dup (pc := 140) hG (dk dd_X9_init 68 rfl) rfl ?_
  refine N_aload_n (pc := 141) hG (dk dd_X9_init 69 rfl) rfl ?_
  refine N_getR (n := 63) (r := 15) (pc := 142) hG (dk dd_X9_init 70 rfl) fl_X9_26 (by decide) (by decide) ((uw_n (by decide)).trans (uw_s)) rfl ?_
  refine N_call (n := 63) (pc := 145) hG (dk dd_X9_init 71 rfl) ml_X9_71 mo_X7_init rfl (n_X7_init (b := 62) (r1 := 15) hL (by decide) (uw_s)) (by decide) (by decide) rfl rfl rfl (Nat.le_of_ble_eq_true rfl) (Nat.le_of_ble_eq_true rfl) ?_
  refine N_putF (n := 65) (pc := 148) hG (by decide +kernel) (dk dd_X9_init 72 rfl) fl_X9_72 (by decide +kernel) (by decide) (by decide) ((wX7_n (by decide)).trans ((uw_n (by decide)).trans (uw_s))) (by simp) ?_
  refine N_aload_n (pc := 151) hG (dk dd_X9_init 73 rfl) rfl ?_
  refine N_new (n := 65) (pc := 152) hG (dk dd_X9_init 74 rfl) (ci := 1) (fs := [.null, .null, .int 0]) rfl tyX1_ok cl_X9_76 in_X1 ini_X1 (fun j hj => by rcases (show j = 0 ∨ j = 1 ∨ j = 2 by omega) with rfl | rfl | rfl <;> rfl) (by decide) (Nat.le_of_ble_eq_true rfl) (Nat.le_of_ble_eq_true rfl) ?_
  refine N_dup (pc := 155) hG (dk dd_X9_init 75 rfl) rfl ?_
  refine N_aload_n (pc := 156) hG (dk dd_X9_init 76 rfl) rfl ?_
  refine N_getR (n := 66) (r := 15) (pc := 157) hG (dk dd_X9_init 77 rfl) fl_X9_26 (by decide) (by decide) ((uw_n (by decide)).trans (uw_s)) rfl ?_
  refine N_call (n := 66) (pc := 160) hG (dk dd_X9_init 78 rfl) ml_X9_78 mo_X1_init rfl (n_X1_init (b := 65) (r1 := 15) hL (by decide) (uw_s)) (by decide) (by decide) rfl rfl rfl (Nat.le_of_ble_eq_true rfl) (Nat.le_of_ble_eq_true rfl) ?_
  refine N_putF (n := 67) (pc := 163) hG (by decide +kernel) (dk dd_X9_init 79 rfl) fl_X9_79 (by decide +kernel) (by decide) (by decide) ((wX1_n (by decide)).trans ((uw_n (by decide)).trans (uw_s))) (by simp) ?_
  exact N_ret (pc := 166) hG (dk dd_X9_init 80 rfl) hR
