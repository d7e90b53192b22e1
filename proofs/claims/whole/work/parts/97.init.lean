/-! ===== the small constructors ===== -/
theorem uw_s {w : Nat → va_E} {k : Nat} {e : va_E} : uw w k e k = e := if_pos rfl
theorem uw_n {w : Nat → va_E} {k j : Nat} {e : va_E} (h : j ≠ k) : uw w k e j = w j := if_neg h
def wX6_init (E : En) (b : Nat) (w : Nat → va_E) : Nat → va_E := uw (uw (w) (b + 1) (.inl (E.2.2.2 0, 120, .inl (fun _ => 0)))) b (.inr (6, (List.set [.null, .int 0] 0 (.ref (E.2.2.1 (b + 1))))))
theorem n_X6_init {E : En} {h0 b : Nat} {w : Nat → va_E} (hL : Li E h0) (hb : b + 2 ≤ 85) (hw : w b = .inr (6, [.null, .int 0])) : CtN E h0 yX6_init cX6_init 1 0 1 120 [vR b] (b + 1) w (b + 2) (wX6_init E b  w) := by
  refine CtN.go RX6 rfl pn_X6 rfl (Nat.le_of_ble_eq_true rfl) hL (fun C hG hR => ?_)
  unfold wX6_init at hR
  refine N_aload_n (pc := 0) hG (dk dd_X6_init 0 rfl) rfl ?_
  refine N_obj (pc := 1) hG (dk dd_X6_init 1 rfl) ml_X6_1 rfl ?_
  refine N_aload_n (pc := 4) hG (dk dd_X6_init 2 rfl) rfl ?_
  refine N_bipush (pc := 5) hG (dk dd_X6_init 3 rfl) (v := 120) (by decide) ?_
  refine N_newi (pc := 7) hG (dk dd_X6_init 4 rfl) (len := 120) (by omega) (by decide) (by decide) rfl (Nat.le_of_ble_eq_true rfl) (Nat.le_of_ble_eq_true rfl) ?_
  refine N_putF (pc := 9) hG (by decide +kernel) (dk dd_X6_init 5 rfl) fl_X6_9 (by decide +kernel) (by omega) (by omega) ((uw_n (by omega)).trans (hw)) (by simp) ?_
  exact N_ret (pc := 12) hG (dk dd_X6_init 6 rfl) hR
def wX2_init (E : En) (b : Nat) (w : Nat → va_E) : Nat → va_E := uw (uw (uw (uw (uw (uw (uw (uw (uw (uw (uw (uw (uw (uw (w) (b + 1) (.inl (E.2.2.2 0, 6, .inl (fun _ => 0)))) b (.inr (2, (List.set [.int 0, .int 0, .int 0, .int 0, .int 0, .int 0, .int 0, .int 0, .null, .null, .null, .null, .null, .null, .null] 8 (.ref (E.2.2.1 (b + 1))))))) (b + 2) (.inl (E.2.2.2 0, 6, .inl (fun _ => 0)))) b (.inr (2, (List.set (List.set [.int 0, .int 0, .int 0, .int 0, .int 0, .int 0, .int 0, .int 0, .null, .null, .null, .null, .null, .null, .null] 8 (.ref (E.2.2.1 (b + 1)))) 9 (.ref (E.2.2.1 (b + 2))))))) (b + 3) (.inl (E.2.2.2 0, 6, .inl (fun _ => 0)))) b (.inr (2, (List.set (List.set (List.set [.int 0, .int 0, .int 0, .int 0, .int 0, .int 0, .int 0, .int 0, .null, .null, .null, .null, .null, .null, .null] 8 (.ref (E.2.2.1 (b + 1)))) 9 (.ref (E.2.2.1 (b + 2)))) 10 (.ref (E.2.2.1 (b + 3))))))) (b + 4) (.inl (E.2.2.2 0, 5, .inl (fun _ => 0)))) b (.inr (2, (List.set (List.set (List.set (List.set [.int 0, .int 0, .int 0, .int 0, .int 0, .int 0, .int 0, .int 0, .null, .null, .null, .null, .null, .null, .null] 8 (.ref (E.2.2.1 (b + 1)))) 9 (.ref (E.2.2.1 (b + 2)))) 10 (.ref (E.2.2.1 (b + 3)))) 11 (.ref (E.2.2.1 (b + 4))))))) (b + 5) (.inl (E.2.2.2 0, 5, .inl (fun _ => 0)))) b (.inr (2, (List.set (List.set (List.set (List.set (List.set [.int 0, .int 0, .int 0, .int 0, .int 0, .int 0, .int 0, .int 0, .null, .null, .null, .null, .null, .null, .null] 8 (.ref (E.2.2.1 (b + 1)))) 9 (.ref (E.2.2.1 (b + 2)))) 10 (.ref (E.2.2.1 (b + 3)))) 11 (.ref (E.2.2.1 (b + 4)))) 12 (.ref (E.2.2.1 (b + 5))))))) (b + 6) (.inl (E.2.2.2 0, 5, .inl (fun _ => 0)))) b (.inr (2, (List.set (List.set (List.set (List.set (List.set (List.set [.int 0, .int 0, .int 0, .int 0, .int 0, .int 0, .int 0, .int 0, .null, .null, .null, .null, .null, .null, .null] 8 (.ref (E.2.2.1 (b + 1)))) 9 (.ref (E.2.2.1 (b + 2)))) 10 (.ref (E.2.2.1 (b + 3)))) 11 (.ref (E.2.2.1 (b + 4)))) 12 (.ref (E.2.2.1 (b + 5)))) 13 (.ref (E.2.2.1 (b + 6))))))) (b + 7) (.inl (E.2.2.2 0, 5, .inl (fun _ => 0)))) b (.inr (2, (List.set (List.set (List.set (List.set (List.set (List.set (List.set [.int 0, .int 0, .int 0, .int 0, .int 0, .int 0, .int 0, .int 0, .null, .null, .null, .null, .null, .null, .null] 8 (.ref (E.2.2.1 (b + 1)))) 9 (.ref (E.2.2.1 (b + 2)))) 10 (.ref (E.2.2.1 (b + 3)))) 11 (.ref (E.2.2.1 (b + 4)))) 12 (.ref (E.2.2.1 (b + 5)))) 13 (.ref (E.2.2.1 (b + 6)))) 14 (.ref (E.2.2.1 (b + 7))))))
theorem n_X2_init {E : En} {h0 b : Nat} {w : Nat → va_E} (hL : Li E h0) (hb : b + 8 ≤ 85) (hw : w b = .inr (2, [.int 0, .int 0, .int 0, .int 0, .int 0, .int 0, .int 0, .int 0, .null, .null, .null, .null, .null, .null, .null])) : CtN E h0 yX2_init cX2_init 1 0 7 38 [vR b] (b + 1) w (b + 8) (wX2_init E b  w) := by
  refine CtN.go RX2 rfl pn_X2 rfl (Nat.le_of_ble_eq_true rfl) hL (fun C hG hR => ?_)
  unfold wX2_init at hR
  refine N_aload_n (pc := 0) hG (dk dd_X2_init 0 rfl) rfl ?_
  refine N_obj (pc := 1) hG (dk dd_X2_init 1 rfl) ml_X2_3 rfl ?_
  refine N_aload_n (pc := 4) hG (dk dd_X2_init 2 rfl) rfl ?_
  refine N_bipush (pc := 5) hG (dk dd_X2_init 3 rfl) (v := 6) (by decide) ?_
  refine N_newi (pc := 7) hG (dk dd_X2_init 4 rfl) (len := 6) (by omega) (by decide) (by decide) rfl (Nat.le_of_ble_eq_true rfl) (Nat.le_of_ble_eq_true rfl) ?_
  refine N_putF (pc := 9) hG (by decide +kernel) (dk dd_X2_init 5 rfl) fl_X2_9 (by decide +kernel) (by omega) (by omega) ((uw_n (by omega)).trans (hw)) (by simp) ?_
  refine N_aload_n (pc := 12) hG (dk dd_X2_init 6 rfl) rfl ?_
  refine N_bipush (pc := 13) hG (dk dd_X2_init 7 rfl) (v := 6) (by decide) ?_
  refine N_newi (pc := 15) hG (dk dd_X2_init 8 rfl) (len := 6) (by omega) (by decide) (by decide) rfl (Nat.le_of_ble_eq_true rfl) (Nat.le_of_ble_eq_true rfl) ?_
  refine N_putF (pc := 17) hG (by decide +kernel) (dk dd_X2_init 9 rfl) fl_X2_15 (by decide +kernel) (by omega) (by omega) ((uw_n (by omega)).trans (uw_s)) (by simp) ?_
  refine N_aload_n (pc := 20) hG (dk dd_X2_init 10 rfl) rfl ?_
  refine N_bipush (pc := 21) hG (dk dd_X2_init 11 rfl) (v := 6) (by decide) ?_
  refine N_newi (pc := 23) hG (dk dd_X2_init 12 rfl) (len := 6) (by omega) (by decide) (by decide) rfl (Nat.le_of_ble_eq_true rfl) (Nat.le_of_ble_eq_true rfl) ?_
  refine N_putF (pc := 25) hG (by decide +kernel) (dk dd_X2_init 13 rfl) fl_X2_18 (by decide +kernel) (by omega) (by omega) ((uw_n (by omega)).trans (uw_s)) (by simp) ?_
  refine N_aload_n (pc := 28) hG (dk dd_X2_init 14 rfl) rfl ?_
  refine N_iconst (pc := 29) hG (dk dd_X2_init 15 rfl) (v := 5) (by decide) ?_
  refine N_newi (pc := 30) hG (dk dd_X2_init 16 rfl) (len := 5) (by omega) (by decide) (by decide) rfl (Nat.le_of_ble_eq_true rfl) (Nat.le_of_ble_eq_true rfl) ?_
  refine N_putF (pc := 32) hG (by decide +kernel) (dk dd_X2_init 17 rfl) fl_X2_21 (by decide +kernel) (by omega) (by omega) ((uw_n (by omega)).trans (uw_s)) (by simp) ?_
  refine N_aload_n (pc := 35) hG (dk dd_X2_init 18 rfl) rfl ?_
  refine N_iconst (pc := 36) hG (dk dd_X2_init 19 rfl) (v := 5) (by decide) ?_
  refine N_newi (pc := 37) hG (dk dd_X2_init 20 rfl) (len := 5) (by omega) (by decide) (by decide) rfl (Nat.le_of_ble_eq_true rfl) (Nat.le_of_ble_eq_true rfl) ?_
  refine N_putF (pc := 39) hG (by decide +kernel) (dk dd_X2_init 21 rfl) fl_X2_24 (by decide +kernel) (by omega) (by omega) ((uw_n (by omega)).trans (uw_s)) (by simp) ?_
  refine N_aload_n (pc := 42) hG (dk dd_X2_init 22 rfl) rfl ?_
  refine N_iconst (pc := 43) hG (dk dd_X2_init 23 rfl) (v := 5) (by decide) ?_
  refine N_newi (pc := 44) hG (dk dd_X2_init 24 rfl) (len := 5) (by omega) (by decide) (by decide) rfl (Nat.le_of_ble_eq_true rfl) (Nat.le_of_ble_eq_true rfl) ?_
  refine N_putF (pc := 46) hG (by decide +kernel) (dk dd_X2_init 25 rfl) fl_X2_27 (by decide +kernel) (by omega) (by omega) ((uw_n (by omega)).trans (uw_s)) (by simp) ?_
  refine N_aload_n (pc := 49) hG (dk dd_X2_init 26 rfl) rfl ?_
  refine N_iconst (pc := 50) hG (dk dd_X2_init 27 rfl) (v := 5) (by decide) ?_
  refine N_newi (pc := 51) hG (dk dd_X2_init 28 rfl) (len := 5) (by omega) (by decide) (by decide) rfl (Nat.le_of_ble_eq_true rfl) (Nat.le_of_ble_eq_true rfl) ?_
  refine N_putF (pc := 53) hG (by decide +kernel) (dk dd_X2_init 29 rfl) fl_X2_30 (by decide +kernel) (by omega) (by omega) ((uw_n (by omega)).trans (uw_s)) (by simp) ?_
  exact N_ret (pc := 56) hG (dk dd_X2_init 30 rfl) hR
def wX0_init (E : En) (b : Nat) (w : Nat → va_E) : Nat → va_E := uw (uw (w) (b + 1) (.inl (E.2.2.2 0, 336, .inl (fun _ => 0)))) b (.inr (0, (List.set [.null, .int 0, .int 0] 0 (.ref (E.2.2.1 (b + 1))))))
theorem n_X0_init {E : En} {h0 b : Nat} {w : Nat → va_E} (hL : Li E h0) (hb : b + 2 ≤ 85) (hw : w b = .inr (0, [.null, .int 0, .int 0])) : CtN E h0 yX0_init cX0_init 1 0 1 336 [vR b] (b + 1) w (b + 2) (wX0_init E b  w) := by
  refine CtN.go RX0 rfl pn_X0 rfl (Nat.le_of_ble_eq_true rfl) hL (fun C hG hR => ?_)
  unfold wX0_init at hR
  refine N_aload_n (pc := 0) hG (dk dd_X0_init 0 rfl) rfl ?_
  refine N_obj (pc := 1) hG (dk dd_X0_init 1 rfl) ml_X0_1 rfl ?_
  refine N_aload_n (pc := 4) hG (dk dd_X0_init 2 rfl) rfl ?_
  refine N_sipush (pc := 5) hG (dk dd_X0_init 3 rfl) (v := 336) (by decide) ?_
  refine N_newi (pc := 8) hG (dk dd_X0_init 4 rfl) (len := 336) (by omega) (by decide) (by decide) rfl (Nat.le_of_ble_eq_true rfl) (Nat.le_of_ble_eq_true rfl) ?_
  refine N_putF (pc := 10) hG (by decide +kernel) (dk dd_X0_init 5 rfl) fl_X0_11 (by decide +kernel) (by omega) (by omega) ((uw_n (by omega)).trans (hw)) (by simp) ?_
  exact N_ret (pc := 13) hG (dk dd_X0_init 6 rfl) hR
def wX4_init (E : En) (b : Nat) (r1 r2 : Nat) (w : Nat → va_E) : Nat → va_E := uw (uw (w) b (.inr (4, (List.set [.null, .null, .int 0, .int 0] 0 (.ref (E.2.2.1 r1)))))) b (.inr (4, (List.set (List.set [.null, .null, .int 0, .int 0] 0 (.ref (E.2.2.1 r1))) 1 (.ref (E.2.2.1 r2)))))
theorem n_X4_init {E : En} {h0 b : Nat} {r1 r2 : Nat} {w : Nat → va_E} (hL : Li E h0) (hb : b + 1 ≤ 85) (hw : w b = .inr (4, [.null, .null, .int 0, .int 0])) : CtN E h0 yX4_init cX4_init 3 0 0 0 [vR b, vR r1, vR r2] (b + 1) w (b + 1) (wX4_init E b r1 r2 w) := by
  refine CtN.go RX4 rfl pn_X4 rfl (Nat.le_of_ble_eq_true rfl) hL (fun C hG hR => ?_)
  unfold wX4_init at hR
  refine N_aload_n (pc := 0) hG (dk dd_X4_init 0 rfl) rfl ?_
  refine N_obj (pc := 1) hG (dk dd_X4_init 1 rfl) ml_X4_3 rfl ?_
  refine N_aload_n (pc := 4) hG (dk dd_X4_init 2 rfl) rfl ?_
  refine N_aload_n (pc := 5) hG (dk dd_X4_init 3 rfl) rfl ?_
  refine N_putF (pc := 6) hG (by decide +kernel) (dk dd_X4_init 4 rfl) fl_X4_9 (by decide +kernel) (by omega) (by omega) (hw) (by simp) ?_
  refine N_aload_n (pc := 9) hG (dk dd_X4_init 5 rfl) rfl ?_
  refine N_aload_n (pc := 10) hG (dk dd_X4_init 6 rfl) rfl ?_
  refine N_putF (pc := 11) hG (by decide +kernel) (dk dd_X4_init 7 rfl) fl_X4_15 (by decide +kernel) (by omega) (by omega) (uw_s) (by simp) ?_
  exact N_ret (pc := 14) hG (dk dd_X4_init 8 rfl) hR
def wX8_init (E : En) (b : Nat) (r1 : Nat) (w : Nat → va_E) : Nat → va_E := uw (uw (uw (uw (uw (uw (uw (uw (uw (uw (uw (uw (uw (w) (b + 1) (.inl (E.2.2.2 0, 256, .inl (fun _ => 0)))) b (.inr (8, (List.set [.null, .null, .null, .null, .null, .null, .null, .int 0] 1 (.ref (E.2.2.1 (b + 1))))))) (b + 2) (.inl (E.2.2.2 0, 256, .inl (fun _ => 0)))) b (.inr (8, (List.set (List.set [.null, .null, .null, .null, .null, .null, .null, .int 0] 1 (.ref (E.2.2.1 (b + 1)))) 2 (.ref (E.2.2.1 (b + 2))))))) (b + 3) (.inl (E.2.2.2 0, 256, .inl (fun _ => 0)))) b (.inr (8, (List.set (List.set (List.set [.null, .null, .null, .null, .null, .null, .null, .int 0] 1 (.ref (E.2.2.1 (b + 1)))) 2 (.ref (E.2.2.1 (b + 2)))) 3 (.ref (E.2.2.1 (b + 3))))))) (b + 4) (.inl (E.2.2.2 0, 256, .inl (fun _ => 0)))) b (.inr (8, (List.set (List.set (List.set (List.set [.null, .null, .null, .null, .null, .null, .null, .int 0] 1 (.ref (E.2.2.1 (b + 1)))) 2 (.ref (E.2.2.1 (b + 2)))) 3 (.ref (E.2.2.1 (b + 3)))) 4 (.ref (E.2.2.1 (b + 4))))))) (b + 5) (.inl (E.2.2.2 0, 256, .inl (fun _ => 0)))) b (.inr (8, (List.set (List.set (List.set (List.set (List.set [.null, .null, .null, .null, .null, .null, .null, .int 0] 1 (.ref (E.2.2.1 (b + 1)))) 2 (.ref (E.2.2.1 (b + 2)))) 3 (.ref (E.2.2.1 (b + 3)))) 4 (.ref (E.2.2.1 (b + 4)))) 5 (.ref (E.2.2.1 (b + 5))))))) (b + 6) (.inl (E.2.2.2 0, 256, .inl (fun _ => 0)))) b (.inr (8, (List.set (List.set (List.set (List.set (List.set (List.set [.null, .null, .null, .null, .null, .null, .null, .int 0] 1 (.ref (E.2.2.1 (b + 1)))) 2 (.ref (E.2.2.1 (b + 2)))) 3 (.ref (E.2.2.1 (b + 3)))) 4 (.ref (E.2.2.1 (b + 4)))) 5 (.ref (E.2.2.1 (b + 5)))) 6 (.ref (E.2.2.1 (b + 6))))))) b (.inr (8, (List.set (List.set (List.set (List.set (List.set (List.set (List.set [.null, .null, .null, .null, .null, .null, .null, .int 0] 1 (.ref (E.2.2.1 (b + 1)))) 2 (.ref (E.2.2.1 (b + 2)))) 3 (.ref (E.2.2.1 (b + 3)))) 4 (.ref (E.2.2.1 (b + 4)))) 5 (.ref (E.2.2.1 (b + 5)))) 6 (.ref (E.2.2.1 (b + 6)))) 0 (.ref (E.2.2.1 r1)))))
theorem n_X8_init {E : En} {h0 b : Nat} {r1 : Nat} {w : Nat → va_E} (hL : Li E h0) (hb : b + 7 ≤ 85) (hw : w b = .inr (8, [.null, .null, .null, .null, .null, .null, .null, .int 0])) : CtN E h0 yX8_init cX8_init 2 0 6 1536 [vR b, vR r1] (b + 1) w (b + 7) (wX8_init E b r1 w) := by
  refine CtN.go RX8 rfl pn_X8 rfl (Nat.le_of_ble_eq_true rfl) hL (fun C hG hR => ?_)
  unfold wX8_init at hR
  refine N_aload_n (pc := 0) hG (dk dd_X8_init 0 rfl) rfl ?_
  refine N_obj (pc := 1) hG (dk dd_X8_init 1 rfl) ml_X8_3 rfl ?_
  refine N_aload_n (pc := 4) hG (dk dd_X8_init 2 rfl) rfl ?_
  refine N_sipush (pc := 5) hG (dk dd_X8_init 3 rfl) (v := 256) (by decide) ?_
  refine N_newi (pc := 8) hG (dk dd_X8_init 4 rfl) (len := 256) (by omega) (by decide) (by decide) rfl (Nat.le_of_ble_eq_true rfl) (Nat.le_of_ble_eq_true rfl) ?_
  refine N_putF (pc := 10) hG (by decide +kernel) (dk dd_X8_init 5 rfl) fl_X8_9 (by decide +kernel) (by omega) (by omega) ((uw_n (by omega)).trans (hw)) (by simp) ?_
  refine N_aload_n (pc := 13) hG (dk dd_X8_init 6 rfl) rfl ?_
  refine N_sipush (pc := 14) hG (dk dd_X8_init 7 rfl) (v := 256) (by decide) ?_
  refine N_newi (pc := 17) hG (dk dd_X8_init 8 rfl) (len := 256) (by omega) (by decide) (by decide) rfl (Nat.le_of_ble_eq_true rfl) (Nat.le_of_ble_eq_true rfl) ?_
  refine N_putF (pc := 19) hG (by decide +kernel) (dk dd_X8_init 9 rfl) fl_X8_15 (by decide +kernel) (by omega) (by omega) ((uw_n (by omega)).trans (uw_s)) (by simp) ?_
  refine N_aload_n (pc := 22) hG (dk dd_X8_init 10 rfl) rfl ?_
  refine N_sipush (pc := 23) hG (dk dd_X8_init 11 rfl) (v := 256) (by decide) ?_
  refine N_newi (pc := 26) hG (dk dd_X8_init 12 rfl) (len := 256) (by omega) (by decide) (by decide) rfl (Nat.le_of_ble_eq_true rfl) (Nat.le_of_ble_eq_true rfl) ?_
  refine N_putF (pc := 28) hG (by decide +kernel) (dk dd_X8_init 13 rfl) fl_X8_18 (by decide +kernel) (by omega) (by omega) ((uw_n (by omega)).trans (uw_s)) (by simp) ?_
  refine N_aload_n (pc := 31) hG (dk dd_X8_init 14 rfl) rfl ?_
  refine N_sipush (pc := 32) hG (dk dd_X8_init 15 rfl) (v := 256) (by decide) ?_
  refine N_newi (pc := 35) hG (dk dd_X8_init 16 rfl) (len := 256) (by omega) (by decide) (by decide) rfl (Nat.le_of_ble_eq_true rfl) (Nat.le_of_ble_eq_true rfl) ?_
  refine N_putF (pc := 37) hG (by decide +kernel) (dk dd_X8_init 17 rfl) fl_X8_21 (by decide +kernel) (by omega) (by omega) ((uw_n (by omega)).trans (uw_s)) (by simp) ?_
  refine N_aload_n (pc := 40) hG (dk dd_X8_init 18 rfl) rfl ?_
  refine N_sipush (pc := 41) hG (dk dd_X8_init 19 rfl) (v := 256) (by decide) ?_
  refine N_newi (pc := 44) hG (dk dd_X8_init 20 rfl) (len := 256) (by omega) (by decide) (by decide) rfl (Nat.le_of_ble_eq_true rfl) (Nat.le_of_ble_eq_true rfl) ?_
  refine N_putF (pc := 46) hG (by decide +kernel) (dk dd_X8_init 21 rfl) fl_X8_24 (by decide +kernel) (by omega) (by omega) ((uw_n (by omega)).trans (uw_s)) (by simp) ?_
  refine N_aload_n (pc := 49) hG (dk dd_X8_init 22 rfl) rfl ?_
  refine N_sipush (pc := 50) hG (dk dd_X8_init 23 rfl) (v := 256) (by decide) ?_
  refine N_newi (pc := 53) hG (dk dd_X8_init 24 rfl) (len := 256) (by omega) (by decide) (by decide) rfl (Nat.le_of_ble_eq_true rfl) (Nat.le_of_ble_eq_true rfl) ?_
  refine N_putF (pc := 55) hG (by decide +kernel) (dk dd_X8_init 25 rfl) fl_X8_27 (by decide +kernel) (by omega) (by omega) ((uw_n (by omega)).trans (uw_s)) (by simp) ?_
  refine N_aload_n (pc := 58) hG (dk dd_X8_init 26 rfl) rfl ?_
  refine N_aload_n (pc := 59) hG (dk dd_X8_init 27 rfl) rfl ?_
  refine N_putF (pc := 60) hG (by decide +kernel) (dk dd_X8_init 28 rfl) fl_X8_30 (by decide +kernel) (by omega) (by omega) (uw_s) (by simp) ?_
  exact N_ret (pc := 63) hG (dk dd_X8_init 29 rfl) hR
def wX3_init (E : En) (b : Nat) (r1 : Nat) (w : Nat → va_E) : Nat → va_E := uw (uw (uw (uw (uw (uw (uw (w) (b + 1) (.inl (E.2.2.2 0, 5, .inl (fun _ => 0)))) b (.inr (3, (List.set [.null, .null, .null, .null, .int 0, .int 0, .int 0] 1 (.ref (E.2.2.1 (b + 1))))))) (b + 2) (.inl (E.2.2.2 0, 5, .inl (fun _ => 0)))) b (.inr (3, (List.set (List.set [.null, .null, .null, .null, .int 0, .int 0, .int 0] 1 (.ref (E.2.2.1 (b + 1)))) 2 (.ref (E.2.2.1 (b + 2))))))) (b + 3) (.inl (E.2.2.2 0, 5, .inl (fun _ => 0)))) b (.inr (3, (List.set (List.set (List.set [.null, .null, .null, .null, .int 0, .int 0, .int 0] 1 (.ref (E.2.2.1 (b + 1)))) 2 (.ref (E.2.2.1 (b + 2)))) 3 (.ref (E.2.2.1 (b + 3))))))) b (.inr (3, (List.set (List.set (List.set (List.set [.null, .null, .null, .null, .int 0, .int 0, .int 0] 1 (.ref (E.2.2.1 (b + 1)))) 2 (.ref (E.2.2.1 (b + 2)))) 3 (.ref (E.2.2.1 (b + 3)))) 0 (.ref (E.2.2.1 r1)))))
theorem n_X3_init {E : En} {h0 b : Nat} {r1 : Nat} {w : Nat → va_E} (hL : Li E h0) (hb : b + 4 ≤ 85) (hw : w b = .inr (3, [.null, .null, .null, .null, .int 0, .int 0, .int 0])) : CtN E h0 yX3_init cX3_init 2 0 3 15 [vR b, vR r1] (b + 1) w (b + 4) (wX3_init E b r1 w) := by
  refine CtN.go RX3 rfl pn_X3 rfl (Nat.le_of_ble_eq_true rfl) hL (fun C hG hR => ?_)
  unfold wX3_init at hR
  refine N_aload_n (pc := 0) hG (dk dd_X3_init 0 rfl) rfl ?_
  refine N_obj (pc := 1) hG (dk dd_X3_init 1 rfl) ml_X3_3 rfl ?_
  refine N_aload_n (pc := 4) hG (dk dd_X3_init 2 rfl) rfl ?_
  refine N_iconst (pc := 5) hG (dk dd_X3_init 3 rfl) (v := 5) (by decide) ?_
  refine N_newi (pc := 6) hG (dk dd_X3_init 4 rfl) (len := 5) (by omega) (by decide) (by decide) rfl (Nat.le_of_ble_eq_true rfl) (Nat.le_of_ble_eq_true rfl) ?_
  refine N_putF (pc := 8) hG (by decide +kernel) (dk dd_X3_init 5 rfl) fl_X3_9 (by decide +kernel) (by omega) (by omega) ((uw_n (by omega)).trans (hw)) (by simp) ?_
  refine N_aload_n (pc := 11) hG (dk dd_X3_init 6 rfl) rfl ?_
  refine N_iconst (pc := 12) hG (dk dd_X3_init 7 rfl) (v := 5) (by decide) ?_
  refine N_newi (pc := 13) hG (dk dd_X3_init 8 rfl) (len := 5) (by omega) (by decide) (by decide) rfl (Nat.le_of_ble_eq_true rfl) (Nat.le_of_ble_eq_true rfl) ?_
  refine N_putF (pc := 15) hG (by decide +kernel) (dk dd_X3_init 9 rfl) fl_X3_15 (by decide +kernel) (by omega) (by omega) ((uw_n (by omega)).trans (uw_s)) (by simp) ?_
  refine N_aload_n (pc := 18) hG (dk dd_X3_init 10 rfl) rfl ?_
  refine N_iconst (pc := 19) hG (dk dd_X3_init 11 rfl) (v := 5) (by decide) ?_
  refine N_newi (pc := 20) hG (dk dd_X3_init 12 rfl) (len := 5) (by omega) (by decide) (by decide) rfl (Nat.le_of_ble_eq_true rfl) (Nat.le_of_ble_eq_true rfl) ?_
  refine N_putF (pc := 22) hG (by decide +kernel) (dk dd_X3_init 13 rfl) fl_X3_18 (by decide +kernel) (by omega) (by omega) ((uw_n (by omega)).trans (uw_s)) (by simp) ?_
  refine N_aload_n (pc := 25) hG (dk dd_X3_init 14 rfl) rfl ?_
  refine N_aload_n (pc := 26) hG (dk dd_X3_init 15 rfl) rfl ?_
  refine N_putF (pc := 27) hG (by decide +kernel) (dk dd_X3_init 16 rfl) fl_X3_21 (by decide +kernel) (by omega) (by omega) (uw_s) (by simp) ?_
  exact N_ret (pc := 30) hG (dk dd_X3_init 17 rfl) hR
def wX7_init (E : En) (b : Nat) (r1 : Nat) (w : Nat → va_E) : Nat → va_E := uw (uw (uw (uw (uw (w) (b + 1) (.inl (E.2.2.2 0, 12, .inl (fun _ => 0)))) b (.inr (7, (List.set [.null, .null, .null, .int 0] 1 (.ref (E.2.2.1 (b + 1))))))) (b + 2) (.inl (E.2.2.2 0, 12, .inl (fun _ => 0)))) b (.inr (7, (List.set (List.set [.null, .null, .null, .int 0] 1 (.ref (E.2.2.1 (b + 1)))) 2 (.ref (E.2.2.1 (b + 2))))))) b (.inr (7, (List.set (List.set (List.set [.null, .null, .null, .int 0] 1 (.ref (E.2.2.1 (b + 1)))) 2 (.ref (E.2.2.1 (b + 2)))) 0 (.ref (E.2.2.1 r1)))))
theorem n_X7_init {E : En} {h0 b : Nat} {r1 : Nat} {w : Nat → va_E} (hL : Li E h0) (hb : b + 3 ≤ 85) (hw : w b = .inr (7, [.null, .null, .null, .int 0])) : CtN E h0 yX7_init cX7_init 2 0 2 24 [vR b, vR r1] (b + 1) w (b + 3) (wX7_init E b r1 w) := by
  refine CtN.go RX7 rfl pn_X7 rfl (Nat.le_of_ble_eq_true rfl) hL (fun C hG hR => ?_)
  unfold wX7_init at hR
  refine N_aload_n (pc := 0) hG (dk dd_X7_init 0 rfl) rfl ?_
  refine N_obj (pc := 1) hG (dk dd_X7_init 1 rfl) ml_X7_3 rfl ?_
  refine N_aload_n (pc := 4) hG (dk dd_X7_init 2 rfl) rfl ?_
  refine N_bipush (pc := 5) hG (dk dd_X7_init 3 rfl) (v := 12) (by decide) ?_
  refine N_newi (pc := 7) hG (dk dd_X7_init 4 rfl) (len := 12) (by omega) (by decide) (by decide) rfl (Nat.le_of_ble_eq_true rfl) (Nat.le_of_ble_eq_true rfl) ?_
  refine N_putF (pc := 9) hG (by decide +kernel) (dk dd_X7_init 5 rfl) fl_X7_9 (by decide +kernel) (by omega) (by omega) ((uw_n (by omega)).trans (hw)) (by simp) ?_
  refine N_aload_n (pc := 12) hG (dk dd_X7_init 6 rfl) rfl ?_
  refine N_bipush (pc := 13) hG (dk dd_X7_init 7 rfl) (v := 12) (by decide) ?_
  refine N_newi (pc := 15) hG (dk dd_X7_init 8 rfl) (len := 12) (by omega) (by decide) (by decide) rfl (Nat.le_of_ble_eq_true rfl) (Nat.le_of_ble_eq_true rfl) ?_
  refine N_putF (pc := 17) hG (by decide +kernel) (dk dd_X7_init 9 rfl) fl_X7_15 (by decide +kernel) (by omega) (by omega) ((uw_n (by omega)).trans (uw_s)) (by simp) ?_
  refine N_aload_n (pc := 20) hG (dk dd_X7_init 10 rfl) rfl ?_
  refine N_aload_n (pc := 21) hG (dk dd_X7_init 11 rfl) rfl ?_
  refine N_putF (pc := 22) hG (by decide +kernel) (dk dd_X7_init 12 rfl) fl_X7_18 (by decide +kernel) (by omega) (by omega) (uw_s) (by simp) ?_
  exact N_ret (pc := 25) hG (dk dd_X7_init 13 rfl) hR
def wX1_init (E : En) (b : Nat) (r1 : Nat) (w : Nat → va_E) : Nat → va_E := uw (uw (uw (w) (b + 1) (.inl (E.2.2.2 0, 16, .inl (fun _ => 0)))) b (.inr (1, (List.set [.null, .null, .int 0] 1 (.ref (E.2.2.1 (b + 1))))))) b (.inr (1, (List.set (List.set [.null, .null, .int 0] 1 (.ref (E.2.2.1 (b + 1)))) 0 (.ref (E.2.2.1 r1)))))
theorem n_X1_init {E : En} {h0 b : Nat} {r1 : Nat} {w : Nat → va_E} (hL : Li E h0) (hb : b + 2 ≤ 85) (hw : w b = .inr (1, [.null, .null, .int 0])) : CtN E h0 yX1_init cX1_init 2 0 1 16 [vR b, vR r1] (b + 1) w (b + 2) (wX1_init E b r1 w) := by
  refine CtN.go RX1 rfl pn_X1 rfl (Nat.le_of_ble_eq_true rfl) hL (fun C hG hR => ?_)
  unfold wX1_init at hR
  refine N_aload_n (pc := 0) hG (dk dd_X1_init 0 rfl) rfl ?_
  refine N_obj (pc := 1) hG (dk dd_X1_init 1 rfl) ml_X1_1 rfl ?_
  refine N_aload_n (pc := 4) hG (dk dd_X1_init 2 rfl) rfl ?_
  refine N_bipush (pc := 5) hG (dk dd_X1_init 3 rfl) (v := 16) (by decide) ?_
  refine N_newi (pc := 7) hG (dk dd_X1_init 4 rfl) (len := 16) (by omega) (by decide) (by decide) rfl (Nat.le_of_ble_eq_true rfl) (Nat.le_of_ble_eq_true rfl) ?_
  refine N_putF (pc := 9) hG (by decide +kernel) (dk dd_X1_init 5 rfl) fl_X1_9 (by decide +kernel) (by omega) (by omega) ((uw_n (by omega)).trans (hw)) (by simp) ?_
  refine N_aload_n (pc := 12) hG (dk dd_X1_init 6 rfl) rfl ?_
  refine N_aload_n (pc := 13) hG (dk dd_X1_init 7 rfl) rfl ?_
  refine N_putF (pc := 14) hG (by decide +kernel) (dk dd_X1_init 8 rfl) fl_X1_13 (by decide +kernel) (by omega) (by omega) (uw_s) (by simp) ?_
  exact N_ret (pc := 17) hG (dk dd_X1_init 9 rfl) hR
def wX10_init (E : En) (b : Nat) (w : Nat → va_E) : Nat → va_E := uw (uw (uw (uw (uw (uw (uw (uw (uw (uw (uw (uw (uw (uw (uw (uw (uw (uw (uw (uw (uw (uw (uw (uw (uw (uw (uw (uw (uw (uw (uw (uw (uw (uw (uw (uw (uw (uw (uw (uw (uw (uw (w) (b + 1) (.inl (E.2.2.2 0, 8, .inl (fun _ => 0)))) (b + 1) (.inl (E.2.2.2 0, 8, .inl (upd (fun _ => 0) (0 : Int32).toNatClampNeg (-1))))) (b + 1) (.inl (E.2.2.2 0, 8, .inl (upd (upd (fun _ => 0) (0 : Int32).toNatClampNeg (-1)) (1 : Int32).toNatClampNeg (-1))))) (b + 1) (.inl (E.2.2.2 0, 8, .inl (upd (upd (upd (fun _ => 0) (0 : Int32).toNatClampNeg (-1)) (1 : Int32).toNatClampNeg (-1)) (2 : Int32).toNatClampNeg (-1))))) (b + 1) (.inl (E.2.2.2 0, 8, .inl (upd (upd (upd (upd (fun _ => 0) (0 : Int32).toNatClampNeg (-1)) (1 : Int32).toNatClampNeg (-1)) (2 : Int32).toNatClampNeg (-1)) (3 : Int32).toNatClampNeg (-1))))) (b + 1) (.inl (E.2.2.2 0, 8, .inl (upd (upd (upd (upd (upd (fun _ => 0) (0 : Int32).toNatClampNeg (-1)) (1 : Int32).toNatClampNeg (-1)) (2 : Int32).toNatClampNeg (-1)) (3 : Int32).toNatClampNeg (-1)) (4 : Int32).toNatClampNeg (-1))))) (b + 1) (.inl (E.2.2.2 0, 8, .inl (upd (upd (upd (upd (upd (upd (fun _ => 0) (0 : Int32).toNatClampNeg (-1)) (1 : Int32).toNatClampNeg (-1)) (2 : Int32).toNatClampNeg (-1)) (3 : Int32).toNatClampNeg (-1)) (4 : Int32).toNatClampNeg (-1)) (5 : Int32).toNatClampNeg (-1))))) (b + 1) (.inl (E.2.2.2 0, 8, .inl (upd (upd (upd (upd (upd (upd (upd (fun _ => 0) (0 : Int32).toNatClampNeg (-1)) (1 : Int32).toNatClampNeg (-1)) (2 : Int32).toNatClampNeg (-1)) (3 : Int32).toNatClampNeg (-1)) (4 : Int32).toNatClampNeg (-1)) (5 : Int32).toNatClampNeg (-1)) (6 : Int32).toNatClampNeg (-1))))) (b + 1) (.inl (E.2.2.2 0, 8, .inl (upd (upd (upd (upd (upd (upd (upd (upd (fun _ => 0) (0 : Int32).toNatClampNeg (-1)) (1 : Int32).toNatClampNeg (-1)) (2 : Int32).toNatClampNeg (-1)) (3 : Int32).toNatClampNeg (-1)) (4 : Int32).toNatClampNeg (-1)) (5 : Int32).toNatClampNeg (-1)) (6 : Int32).toNatClampNeg (-1)) (7 : Int32).toNatClampNeg (-1))))) b (.inr (10, (List.set [.int 0, .int 0, .null, .null, .null, .null, .null, .null, .null, .int 0, .null, .int 0, .int 0, .int 0, .int 0, .int 0, .int 0, .int 0, .int 0, .null, .null, .null, .null, .null, .int 0, .int 0, .null, .null, .null, .null, .int 0] 2 (.ref (E.2.2.1 (b + 1))))))) (b + 2) (.inl (E.2.2.2 0, 8, .inl (fun _ => 0)))) b (.inr (10, (List.set (List.set [.int 0, .int 0, .null, .null, .null, .null, .null, .null, .null, .int 0, .null, .int 0, .int 0, .int 0, .int 0, .int 0, .int 0, .int 0, .int 0, .null, .null, .null, .null, .null, .int 0, .int 0, .null, .null, .null, .null, .int 0] 2 (.ref (E.2.2.1 (b + 1)))) 3 (.ref (E.2.2.1 (b + 2))))))) (b + 3) (.inl (E.2.2.2 0, 320, .inl (fun _ => 0)))) b (.inr (10, (List.set (List.set (List.set [.int 0, .int 0, .null, .null, .null, .null, .null, .null, .null, .int 0, .null, .int 0, .int 0, .int 0, .int 0, .int 0, .int 0, .int 0, .int 0, .null, .null, .null, .null, .null, .int 0, .int 0, .null, .null, .null, .null, .int 0] 2 (.ref (E.2.2.1 (b + 1)))) 3 (.ref (E.2.2.1 (b + 2)))) 4 (.ref (E.2.2.1 (b + 3))))))) (b + 4) (.inl (E.2.2.2 0, 46, .inl (fun _ => 0)))) b (.inr (10, (List.set (List.set (List.set (List.set [.int 0, .int 0, .null, .null, .null, .null, .null, .null, .null, .int 0, .null, .int 0, .int 0, .int 0, .int 0, .int 0, .int 0, .int 0, .int 0, .null, .null, .null, .null, .null, .int 0, .int 0, .null, .null, .null, .null, .int 0] 2 (.ref (E.2.2.1 (b + 1)))) 3 (.ref (E.2.2.1 (b + 2)))) 4 (.ref (E.2.2.1 (b + 3)))) 5 (.ref (E.2.2.1 (b + 4))))))) (b + 5) (.inl (E.2.2.2 0, 46, .inl (fun _ => 0)))) b (.inr (10, (List.set (List.set (List.set (List.set (List.set [.int 0, .int 0, .null, .null, .null, .null, .null, .null, .null, .int 0, .null, .int 0, .int 0, .int 0, .int 0, .int 0, .int 0, .int 0, .int 0, .null, .null, .null, .null, .null, .int 0, .int 0, .null, .null, .null, .null, .int 0] 2 (.ref (E.2.2.1 (b + 1)))) 3 (.ref (E.2.2.1 (b + 2)))) 4 (.ref (E.2.2.1 (b + 3)))) 5 (.ref (E.2.2.1 (b + 4)))) 6 (.ref (E.2.2.1 (b + 5))))))) (b + 6) (.inl (E.2.2.2 0, 46, .inl (fun _ => 0)))) b (.inr (10, (List.set (List.set (List.set (List.set (List.set (List.set [.int 0, .int 0, .null, .null, .null, .null, .null, .null, .null, .int 0, .null, .int 0, .int 0, .int 0, .int 0, .int 0, .int 0, .int 0, .int 0, .null, .null, .null, .null, .null, .int 0, .int 0, .null, .null, .null, .null, .int 0] 2 (.ref (E.2.2.1 (b + 1)))) 3 (.ref (E.2.2.1 (b + 2)))) 4 (.ref (E.2.2.1 (b + 3)))) 5 (.ref (E.2.2.1 (b + 4)))) 6 (.ref (E.2.2.1 (b + 5)))) 7 (.ref (E.2.2.1 (b + 6))))))) (b + 7) (.inl (E.2.2.2 0, 1104, .inl (fun _ => 0)))) b (.inr (10, (List.set (List.set (List.set (List.set (List.set (List.set (List.set [.int 0, .int 0, .null, .null, .null, .null, .null, .null, .null, .int 0, .null, .int 0, .int 0, .int 0, .int 0, .int 0, .int 0, .int 0, .int 0, .null, .null, .null, .null, .null, .int 0, .int 0, .null, .null, .null, .null, .int 0] 2 (.ref (E.2.2.1 (b + 1)))) 3 (.ref (E.2.2.1 (b + 2)))) 4 (.ref (E.2.2.1 (b + 3)))) 5 (.ref (E.2.2.1 (b + 4)))) 6 (.ref (E.2.2.1 (b + 5)))) 7 (.ref (E.2.2.1 (b + 6)))) 8 (.ref (E.2.2.1 (b + 7))))))) (b + 8) (.inl (E.2.2.2 0, 120, .inl (fun _ => 0)))) b (.inr (10, (List.set (List.set (List.set (List.set (List.set (List.set (List.set (List.set [.int 0, .int 0, .null, .null, .null, .null, .null, .null, .null, .int 0, .null, .int 0, .int 0, .int 0, .int 0, .int 0, .int 0, .int 0, .int 0, .null, .null, .null, .null, .null, .int 0, .int 0, .null, .null, .null, .null, .int 0] 2 (.ref (E.2.2.1 (b + 1)))) 3 (.ref (E.2.2.1 (b + 2)))) 4 (.ref (E.2.2.1 (b + 3)))) 5 (.ref (E.2.2.1 (b + 4)))) 6 (.ref (E.2.2.1 (b + 5)))) 7 (.ref (E.2.2.1 (b + 6)))) 8 (.ref (E.2.2.1 (b + 7)))) 10 (.ref (E.2.2.1 (b + 8))))))) (b + 9) (.inl (E.2.2.2 1, 256, .inl (fun _ => 0)))) b (.inr (10, (List.set (List.set (List.set (List.set (List.set (List.set (List.set (List.set (List.set [.int 0, .int 0, .null, .null, .null, .null, .null, .null, .null, .int 0, .null, .int 0, .int 0, .int 0, .int 0, .int 0, .int 0, .int 0, .int 0, .null, .null, .null, .null, .null, .int 0, .int 0, .null, .null, .null, .null, .int 0] 2 (.ref (E.2.2.1 (b + 1)))) 3 (.ref (E.2.2.1 (b + 2)))) 4 (.ref (E.2.2.1 (b + 3)))) 5 (.ref (E.2.2.1 (b + 4)))) 6 (.ref (E.2.2.1 (b + 5)))) 7 (.ref (E.2.2.1 (b + 6)))) 8 (.ref (E.2.2.1 (b + 7)))) 10 (.ref (E.2.2.1 (b + 8)))) 19 (.ref (E.2.2.1 (b + 9))))))) (b + 10) (.inl (E.2.2.2 1, 256, .inl (fun _ => 0)))) b (.inr (10, (List.set (List.set (List.set (List.set (List.set (List.set (List.set (List.set (List.set (List.set [.int 0, .int 0, .null, .null, .null, .null, .null, .null, .null, .int 0, .null, .int 0, .int 0, .int 0, .int 0, .int 0, .int 0, .int 0, .int 0, .null, .null, .null, .null, .null, .int 0, .int 0, .null, .null, .null, .null, .int 0] 2 (.ref (E.2.2.1 (b + 1)))) 3 (.ref (E.2.2.1 (b + 2)))) 4 (.ref (E.2.2.1 (b + 3)))) 5 (.ref (E.2.2.1 (b + 4)))) 6 (.ref (E.2.2.1 (b + 5)))) 7 (.ref (E.2.2.1 (b + 6)))) 8 (.ref (E.2.2.1 (b + 7)))) 10 (.ref (E.2.2.1 (b + 8)))) 19 (.ref (E.2.2.1 (b + 9)))) 20 (.ref (E.2.2.1 (b + 10))))))) (b + 11) (.inl (E.2.2.2 0, 256, .inl (fun _ => 0)))) b (.inr (10, (List.set (List.set (List.set (List.set (List.set (List.set (List.set (List.set (List.set (List.set (List.set [.int 0, .int 0, .null, .null, .null, .null, .null, .null, .null, .int 0, .null, .int 0, .int 0, .int 0, .int 0, .int 0, .int 0, .int 0, .int 0, .null, .null, .null, .null, .null, .int 0, .int 0, .null, .null, .null, .null, .int 0] 2 (.ref (E.2.2.1 (b + 1)))) 3 (.ref (E.2.2.1 (b + 2)))) 4 (.ref (E.2.2.1 (b + 3)))) 5 (.ref (E.2.2.1 (b + 4)))) 6 (.ref (E.2.2.1 (b + 5)))) 7 (.ref (E.2.2.1 (b + 6)))) 8 (.ref (E.2.2.1 (b + 7)))) 10 (.ref (E.2.2.1 (b + 8)))) 19 (.ref (E.2.2.1 (b + 9)))) 20 (.ref (E.2.2.1 (b + 10)))) 21 (.ref (E.2.2.1 (b + 11))))))) (b + 12) (.inl (E.2.2.2 0, 5, .inl (fun _ => 0)))) b (.inr (10, (List.set (List.set (List.set (List.set (List.set (List.set (List.set (List.set (List.set (List.set (List.set (List.set [.int 0, .int 0, .null, .null, .null, .null, .null, .null, .null, .int 0, .null, .int 0, .int 0, .int 0, .int 0, .int 0, .int 0, .int 0, .int 0, .null, .null, .null, .null, .null, .int 0, .int 0, .null, .null, .null, .null, .int 0] 2 (.ref (E.2.2.1 (b + 1)))) 3 (.ref (E.2.2.1 (b + 2)))) 4 (.ref (E.2.2.1 (b + 3)))) 5 (.ref (E.2.2.1 (b + 4)))) 6 (.ref (E.2.2.1 (b + 5)))) 7 (.ref (E.2.2.1 (b + 6)))) 8 (.ref (E.2.2.1 (b + 7)))) 10 (.ref (E.2.2.1 (b + 8)))) 19 (.ref (E.2.2.1 (b + 9)))) 20 (.ref (E.2.2.1 (b + 10)))) 21 (.ref (E.2.2.1 (b + 11)))) 22 (.ref (E.2.2.1 (b + 12))))))) (b + 13) (.inl (E.2.2.2 0, 5, .inl (fun _ => 0)))) b (.inr (10, (List.set (List.set (List.set (List.set (List.set (List.set (List.set (List.set (List.set (List.set (List.set (List.set (List.set [.int 0, .int 0, .null, .null, .null, .null, .null, .null, .null, .int 0, .null, .int 0, .int 0, .int 0, .int 0, .int 0, .int 0, .int 0, .int 0, .null, .null, .null, .null, .null, .int 0, .int 0, .null, .null, .null, .null, .int 0] 2 (.ref (E.2.2.1 (b + 1)))) 3 (.ref (E.2.2.1 (b + 2)))) 4 (.ref (E.2.2.1 (b + 3)))) 5 (.ref (E.2.2.1 (b + 4)))) 6 (.ref (E.2.2.1 (b + 5)))) 7 (.ref (E.2.2.1 (b + 6)))) 8 (.ref (E.2.2.1 (b + 7)))) 10 (.ref (E.2.2.1 (b + 8)))) 19 (.ref (E.2.2.1 (b + 9)))) 20 (.ref (E.2.2.1 (b + 10)))) 21 (.ref (E.2.2.1 (b + 11)))) 22 (.ref (E.2.2.1 (b + 12)))) 23 (.ref (E.2.2.1 (b + 13))))))) (b + 14) (.inl (E.2.2.2 0, 5, .inl (fun _ => 0)))) b (.inr (10, (List.set (List.set (List.set (List.set (List.set (List.set (List.set (List.set (List.set (List.set (List.set (List.set (List.set (List.set [.int 0, .int 0, .null, .null, .null, .null, .null, .null, .null, .int 0, .null, .int 0, .int 0, .int 0, .int 0, .int 0, .int 0, .int 0, .int 0, .null, .null, .null, .null, .null, .int 0, .int 0, .null, .null, .null, .null, .int 0] 2 (.ref (E.2.2.1 (b + 1)))) 3 (.ref (E.2.2.1 (b + 2)))) 4 (.ref (E.2.2.1 (b + 3)))) 5 (.ref (E.2.2.1 (b + 4)))) 6 (.ref (E.2.2.1 (b + 5)))) 7 (.ref (E.2.2.1 (b + 6)))) 8 (.ref (E.2.2.1 (b + 7)))) 10 (.ref (E.2.2.1 (b + 8)))) 19 (.ref (E.2.2.1 (b + 9)))) 20 (.ref (E.2.2.1 (b + 10)))) 21 (.ref (E.2.2.1 (b + 11)))) 22 (.ref (E.2.2.1 (b + 12)))) 23 (.ref (E.2.2.1 (b + 13)))) 26 (.ref (E.2.2.1 (b + 14))))))) (b + 15) (.inl (E.2.2.2 1, 2, .inl (fun _ => 0)))) b (.inr (10, (List.set (List.set (List.set (List.set (List.set (List.set (List.set (List.set (List.set (List.set (List.set (List.set (List.set (List.set (List.set [.int 0, .int 0, .null, .null, .null, .null, .null, .null, .null, .int 0, .null, .int 0, .int 0, .int 0, .int 0, .int 0, .int 0, .int 0, .int 0, .null, .null, .null, .null, .null, .int 0, .int 0, .null, .null, .null, .null, .int 0] 2 (.ref (E.2.2.1 (b + 1)))) 3 (.ref (E.2.2.1 (b + 2)))) 4 (.ref (E.2.2.1 (b + 3)))) 5 (.ref (E.2.2.1 (b + 4)))) 6 (.ref (E.2.2.1 (b + 5)))) 7 (.ref (E.2.2.1 (b + 6)))) 8 (.ref (E.2.2.1 (b + 7)))) 10 (.ref (E.2.2.1 (b + 8)))) 19 (.ref (E.2.2.1 (b + 9)))) 20 (.ref (E.2.2.1 (b + 10)))) 21 (.ref (E.2.2.1 (b + 11)))) 22 (.ref (E.2.2.1 (b + 12)))) 23 (.ref (E.2.2.1 (b + 13)))) 26 (.ref (E.2.2.1 (b + 14)))) 27 (.ref (E.2.2.1 (b + 15))))))) (b + 16) (.inl (E.2.2.2 0, 92, .inl (fun _ => 0)))) b (.inr (10, (List.set (List.set (List.set (List.set (List.set (List.set (List.set (List.set (List.set (List.set (List.set (List.set (List.set (List.set (List.set (List.set [.int 0, .int 0, .null, .null, .null, .null, .null, .null, .null, .int 0, .null, .int 0, .int 0, .int 0, .int 0, .int 0, .int 0, .int 0, .int 0, .null, .null, .null, .null, .null, .int 0, .int 0, .null, .null, .null, .null, .int 0] 2 (.ref (E.2.2.1 (b + 1)))) 3 (.ref (E.2.2.1 (b + 2)))) 4 (.ref (E.2.2.1 (b + 3)))) 5 (.ref (E.2.2.1 (b + 4)))) 6 (.ref (E.2.2.1 (b + 5)))) 7 (.ref (E.2.2.1 (b + 6)))) 8 (.ref (E.2.2.1 (b + 7)))) 10 (.ref (E.2.2.1 (b + 8)))) 19 (.ref (E.2.2.1 (b + 9)))) 20 (.ref (E.2.2.1 (b + 10)))) 21 (.ref (E.2.2.1 (b + 11)))) 22 (.ref (E.2.2.1 (b + 12)))) 23 (.ref (E.2.2.1 (b + 13)))) 26 (.ref (E.2.2.1 (b + 14)))) 27 (.ref (E.2.2.1 (b + 15)))) 28 (.ref (E.2.2.1 (b + 16))))))) (b + 17) (.inl (E.2.2.2 0, 16, .inl (fun _ => 0)))) b (.inr (10, (List.set (List.set (List.set (List.set (List.set (List.set (List.set (List.set (List.set (List.set (List.set (List.set (List.set (List.set (List.set (List.set (List.set [.int 0, .int 0, .null, .null, .null, .null, .null, .null, .null, .int 0, .null, .int 0, .int 0, .int 0, .int 0, .int 0, .int 0, .int 0, .int 0, .null, .null, .null, .null, .null, .int 0, .int 0, .null, .null, .null, .null, .int 0] 2 (.ref (E.2.2.1 (b + 1)))) 3 (.ref (E.2.2.1 (b + 2)))) 4 (.ref (E.2.2.1 (b + 3)))) 5 (.ref (E.2.2.1 (b + 4)))) 6 (.ref (E.2.2.1 (b + 5)))) 7 (.ref (E.2.2.1 (b + 6)))) 8 (.ref (E.2.2.1 (b + 7)))) 10 (.ref (E.2.2.1 (b + 8)))) 19 (.ref (E.2.2.1 (b + 9)))) 20 (.ref (E.2.2.1 (b + 10)))) 21 (.ref (E.2.2.1 (b + 11)))) 22 (.ref (E.2.2.1 (b + 12)))) 23 (.ref (E.2.2.1 (b + 13)))) 26 (.ref (E.2.2.1 (b + 14)))) 27 (.ref (E.2.2.1 (b + 15)))) 28 (.ref (E.2.2.1 (b + 16)))) 29 (.ref (E.2.2.1 (b + 17))))))
theorem n_X10_init {E : En} {h0 b : Nat} {w : Nat → va_E} (hL : Li E h0) (hb : b + 18 ≤ 85) (hw : w b = .inr (10, [.int 0, .int 0, .null, .null, .null, .null, .null, .null, .null, .int 0, .null, .int 0, .int 0, .int 0, .int 0, .int 0, .int 0, .int 0, .int 0, .null, .null, .null, .null, .null, .int 0, .int 0, .null, .null, .null, .null, .int 0])) : CtN E h0 yX10_init cX10_init 1 0 17 2591 [vR b] (b + 1) w (b + 18) (wX10_init E b  w) := by
  refine CtN.go RX10 rfl pn_X10 rfl (Nat.le_of_ble_eq_true rfl) hL (fun C hG hR => ?_)
  unfold wX10_init at hR
  refine N_aload_n (pc := 0) hG (dk dd_X10_init 0 rfl) rfl ?_
  refine N_obj (pc := 1) hG (dk dd_X10_init 1 rfl) ml_X10_1 rfl ?_
  refine N_aload_n (pc := 4) hG (dk dd_X10_init 2 rfl) rfl ?_
  refine N_bipush (pc := 5) hG (dk dd_X10_init 3 rfl) (v := 8) (by decide) ?_
  refine N_newi (pc := 7) hG (dk dd_X10_init 4 rfl) (len := 8) (by omega) (by decide) (by decide) rfl (Nat.le_of_ble_eq_true rfl) (Nat.le_of_ble_eq_true rfl) ?_
  refine N_dup (pc := 9) hG (dk dd_X10_init 5 rfl) rfl ?_
  refine N_iconst (pc := 10) hG (dk dd_X10_init 6 rfl) (v := 0) (by decide) ?_
  refine N_iconst (pc := 11) hG (dk dd_X10_init 7 rfl) (v := (-1)) (by decide) ?_
  refine N_iast (pc := 12) hG (dk dd_X10_init 8 rfl) (by omega) (by omega) (uw_s) (by unfold vp_in; decide) ?_
  refine N_dup (pc := 13) hG (dk dd_X10_init 9 rfl) rfl ?_
  refine N_iconst (pc := 14) hG (dk dd_X10_init 10 rfl) (v := 1) (by decide) ?_
  refine N_iconst (pc := 15) hG (dk dd_X10_init 11 rfl) (v := (-1)) (by decide) ?_
  refine N_iast (pc := 16) hG (dk dd_X10_init 12 rfl) (by omega) (by omega) (uw_s) (by unfold vp_in; decide) ?_
  refine N_dup (pc := 17) hG (dk dd_X10_init 13 rfl) rfl ?_
  refine N_iconst (pc := 18) hG (dk dd_X10_init 14 rfl) (v := 2) (by decide) ?_
  refine N_iconst (pc := 19) hG (dk dd_X10_init 15 rfl) (v := (-1)) (by decide) ?_
  refine N_iast (pc := 20) hG (dk dd_X10_init 16 rfl) (by omega) (by omega) (uw_s) (by unfold vp_in; decide) ?_
  refine N_dup (pc := 21) hG (dk dd_X10_init 17 rfl) rfl ?_
  refine N_iconst (pc := 22) hG (dk dd_X10_init 18 rfl) (v := 3) (by decide) ?_
  refine N_iconst (pc := 23) hG (dk dd_X10_init 19 rfl) (v := (-1)) (by decide) ?_
  refine N_iast (pc := 24) hG (dk dd_X10_init 20 rfl) (by omega) (by omega) (uw_s) (by unfold vp_in; decide) ?_
  refine N_dup (pc := 25) hG (dk dd_X10_init 21 rfl) rfl ?_
  refine N_iconst (pc := 26) hG (dk dd_X10_init 22 rfl) (v := 4) (by decide) ?_
  refine N_iconst (pc := 27) hG (dk dd_X10_init 23 rfl) (v := (-1)) (by decide) ?_
  refine N_iast (pc := 28) hG (dk dd_X10_init 24 rfl) (by omega) (by omega) (uw_s) (by unfold vp_in; decide) ?_
  refine N_dup (pc := 29) hG (dk dd_X10_init 25 rfl) rfl ?_
  refine N_iconst (pc := 30) hG (dk dd_X10_init 26 rfl) (v := 5) (by decide) ?_
  refine N_iconst (pc := 31) hG (dk dd_X10_init 27 rfl) (v := (-1)) (by decide) ?_
  refine N_iast (pc := 32) hG (dk dd_X10_init 28 rfl) (by omega) (by omega) (uw_s) (by unfold vp_in; decide) ?_
  refine N_dup (pc := 33) hG (dk dd_X10_init 29 rfl) rfl ?_
  refine N_bipush (pc := 34) hG (dk dd_X10_init 30 rfl) (v := 6) (by decide) ?_
  refine N_iconst (pc := 36) hG (dk dd_X10_init 31 rfl) (v := (-1)) (by decide) ?_
  refine N_iast (pc := 37) hG (dk dd_X10_init 32 rfl) (by omega) (by omega) (uw_s) (by unfold vp_in; decide) ?_
  refine N_dup (pc := 38) hG (dk dd_X10_init 33 rfl) rfl ?_
  refine N_bipush (pc := 39) hG (dk dd_X10_init 34 rfl) (v := 7) (by decide) ?_
  refine N_iconst (pc := 41) hG (dk dd_X10_init 35 rfl) (v := (-1)) (by decide) ?_
  refine N_iast (pc := 42) hG (dk dd_X10_init 36 rfl) (by omega) (by omega) (uw_s) (by unfold vp_in; decide) ?_
  refine N_putF (pc := 43) hG (by decide +kernel) (dk dd_X10_init 37 rfl) fl_X10_7 (by decide +kernel) (by omega) (by omega) ((uw_n (by omega)).trans ((uw_n (by omega)).trans ((uw_n (by omega)).trans ((uw_n (by omega)).trans ((uw_n (by omega)).trans ((uw_n (by omega)).trans ((uw_n (by omega)).trans ((uw_n (by omega)).trans ((uw_n (by omega)).trans (hw)))))))))) (by simp) ?_
  refine N_aload_n (pc := 46) hG (dk dd_X10_init 38 rfl) rfl ?_
  refine N_bipush (pc := 47) hG (dk dd_X10_init 39 rfl) (v := 8) (by decide) ?_
  refine N_newi (pc := 49) hG (dk dd_X10_init 40 rfl) (len := 8) (by omega) (by decide) (by decide) rfl (Nat.le_of_ble_eq_true rfl) (Nat.le_of_ble_eq_true rfl) ?_
  refine N_putF (pc := 51) hG (by decide +kernel) (dk dd_X10_init 41 rfl) fl_X10_13 (by decide +kernel) (by omega) (by omega) ((uw_n (by omega)).trans (uw_s)) (by simp) ?_
  refine N_aload_n (pc := 54) hG (dk dd_X10_init 42 rfl) rfl ?_
  refine N_sipush (pc := 55) hG (dk dd_X10_init 43 rfl) (v := 320) (by decide) ?_
  refine N_newi (pc := 58) hG (dk dd_X10_init 44 rfl) (len := 320) (by omega) (by decide) (by decide) rfl (Nat.le_of_ble_eq_true rfl) (Nat.le_of_ble_eq_true rfl) ?_
  refine N_putF (pc := 60) hG (by decide +kernel) (dk dd_X10_init 45 rfl) fl_X10_16 (by decide +kernel) (by omega) (by omega) ((uw_n (by omega)).trans (uw_s)) (by simp) ?_
  refine N_aload_n (pc := 63) hG (dk dd_X10_init 46 rfl) rfl ?_
  refine N_bipush (pc := 64) hG (dk dd_X10_init 47 rfl) (v := 46) (by decide) ?_
  refine N_newi (pc := 66) hG (dk dd_X10_init 48 rfl) (len := 46) (by omega) (by decide) (by decide) rfl (Nat.le_of_ble_eq_true rfl) (Nat.le_of_ble_eq_true rfl) ?_
  refine N_putF (pc := 68) hG (by decide +kernel) (dk dd_X10_init 49 rfl) fl_X10_19 (by decide +kernel) (by omega) (by omega) ((uw_n (by omega)).trans (uw_s)) (by simp) ?_
  refine N_aload_n (pc := 71) hG (dk dd_X10_init 50 rfl) rfl ?_
  refine N_bipush (pc := 72) hG (dk dd_X10_init 51 rfl) (v := 46) (by decide) ?_
  refine N_newi (pc := 74) hG (dk dd_X10_init 52 rfl) (len := 46) (by omega) (by decide) (by decide) rfl (Nat.le_of_ble_eq_true rfl) (Nat.le_of_ble_eq_true rfl) ?_
  refine N_putF (pc := 76) hG (by decide +kernel) (dk dd_X10_init 53 rfl) fl_X10_22 (by decide +kernel) (by omega) (by omega) ((uw_n (by omega)).trans (uw_s)) (by simp) ?_
  refine N_aload_n (pc := 79) hG (dk dd_X10_init 54 rfl) rfl ?_
  refine N_bipush (pc := 80) hG (dk dd_X10_init 55 rfl) (v := 46) (by decide) ?_
  refine N_newi (pc := 82) hG (dk dd_X10_init 56 rfl) (len := 46) (by omega) (by decide) (by decide) rfl (Nat.le_of_ble_eq_true rfl) (Nat.le_of_ble_eq_true rfl) ?_
  refine N_putF (pc := 84) hG (by decide +kernel) (dk dd_X10_init 57 rfl) fl_X10_25 (by decide +kernel) (by omega) (by omega) ((uw_n (by omega)).trans (uw_s)) (by simp) ?_
  refine N_aload_n (pc := 87) hG (dk dd_X10_init 58 rfl) rfl ?_
  refine N_sipush (pc := 88) hG (dk dd_X10_init 59 rfl) (v := 1104) (by decide) ?_
  refine N_newi (pc := 91) hG (dk dd_X10_init 60 rfl) (len := 1104) (by omega) (by decide) (by decide) rfl (Nat.le_of_ble_eq_true rfl) (Nat.le_of_ble_eq_true rfl) ?_
  refine N_putF (pc := 93) hG (by decide +kernel) (dk dd_X10_init 61 rfl) fl_X10_28 (by decide +kernel) (by omega) (by omega) ((uw_n (by omega)).trans (uw_s)) (by simp) ?_
  refine N_aload_n (pc := 96) hG (dk dd_X10_init 62 rfl) rfl ?_
  refine N_bipush (pc := 97) hG (dk dd_X10_init 63 rfl) (v := 120) (by decide) ?_
  refine N_newi (pc := 99) hG (dk dd_X10_init 64 rfl) (len := 120) (by omega) (by decide) (by decide) rfl (Nat.le_of_ble_eq_true rfl) (Nat.le_of_ble_eq_true rfl) ?_
  refine N_putF (pc := 101) hG (by decide +kernel) (dk dd_X10_init 65 rfl) fl_X10_31 (by decide +kernel) (by omega) (by omega) ((uw_n (by omega)).trans (uw_s)) (by simp) ?_
  refine N_aload_n (pc := 104) hG (dk dd_X10_init 66 rfl) rfl ?_
  refine N_sipush (pc := 105) hG (dk dd_X10_init 67 rfl) (v := 256) (by decide) ?_
  refine N_newb (pc := 108) hG (dk dd_X10_init 68 rfl) (len := 256) (by omega) (by decide) (by decide) rfl (Nat.le_of_ble_eq_true rfl) (Nat.le_of_ble_eq_true rfl) ?_
  refine N_putF (pc := 110) hG (by decide +kernel) (dk dd_X10_init 69 rfl) fl_X10_34 (by decide +kernel) (by omega) (by omega) ((uw_n (by omega)).trans (uw_s)) (by simp) ?_
  refine N_aload_n (pc := 113) hG (dk dd_X10_init 70 rfl) rfl ?_
  refine N_sipush (pc := 114) hG (dk dd_X10_init 71 rfl) (v := 256) (by decide) ?_
  refine N_newb (pc := 117) hG (dk dd_X10_init 72 rfl) (len := 256) (by omega) (by decide) (by decide) rfl (Nat.le_of_ble_eq_true rfl) (Nat.le_of_ble_eq_true rfl) ?_
  refine N_putF (pc := 119) hG (by decide +kernel) (dk dd_X10_init 73 rfl) fl_X10_38 (by decide +kernel) (by omega) (by omega) ((uw_n (by omega)).trans (uw_s)) (by simp) ?_
  refine N_aload_n (pc := 122) hG (dk dd_X10_init 74 rfl) rfl ?_
  refine N_sipush (pc := 123) hG (dk dd_X10_init 75 rfl) (v := 256) (by decide) ?_
  refine N_newi (pc := 126) hG (dk dd_X10_init 76 rfl) (len := 256) (by omega) (by decide) (by decide) rfl (Nat.le_of_ble_eq_true rfl) (Nat.le_of_ble_eq_true rfl) ?_
  refine N_putF (pc := 128) hG (by decide +kernel) (dk dd_X10_init 77 rfl) fl_X10_41 (by decide +kernel) (by omega) (by omega) ((uw_n (by omega)).trans (uw_s)) (by simp) ?_
  refine N_aload_n (pc := 131) hG (dk dd_X10_init 78 rfl) rfl ?_
  refine N_iconst (pc := 132) hG (dk dd_X10_init 79 rfl) (v := 5) (by decide) ?_
  refine N_newi (pc := 133) hG (dk dd_X10_init 80 rfl) (len := 5) (by omega) (by decide) (by decide) rfl (Nat.le_of_ble_eq_true rfl) (Nat.le_of_ble_eq_true rfl) ?_
  refine N_putF (pc := 135) hG (by decide +kernel) (dk dd_X10_init 81 rfl) fl_X10_44 (by decide +kernel) (by omega) (by omega) ((uw_n (by omega)).trans (uw_s)) (by simp) ?_
  refine N_aload_n (pc := 138) hG (dk dd_X10_init 82 rfl) rfl ?_
  refine N_iconst (pc := 139) hG (dk dd_X10_init 83 rfl) (v := 5) (by decide) ?_
  refine N_newi (pc := 140) hG (dk dd_X10_init 84 rfl) (len := 5) (by omega) (by decide) (by decide) rfl (Nat.le_of_ble_eq_true rfl) (Nat.le_of_ble_eq_true rfl) ?_
  refine N_putF (pc := 142) hG (by decide +kernel) (dk dd_X10_init 85 rfl) fl_X10_47 (by decide +kernel) (by omega) (by omega) ((uw_n (by omega)).trans (uw_s)) (by simp) ?_
  refine N_aload_n (pc := 145) hG (dk dd_X10_init 86 rfl) rfl ?_
  refine N_iconst (pc := 146) hG (dk dd_X10_init 87 rfl) (v := 5) (by decide) ?_
  refine N_newi (pc := 147) hG (dk dd_X10_init 88 rfl) (len := 5) (by omega) (by decide) (by decide) rfl (Nat.le_of_ble_eq_true rfl) (Nat.le_of_ble_eq_true rfl) ?_
  refine N_putF (pc := 149) hG (by decide +kernel) (dk dd_X10_init 89 rfl) fl_X10_50 (by decide +kernel) (by omega) (by omega) ((uw_n (by omega)).trans (uw_s)) (by simp) ?_
  refine N_aload_n (pc := 152) hG (dk dd_X10_init 90 rfl) rfl ?_
  refine N_iconst (pc := 153) hG (dk dd_X10_init 91 rfl) (v := 2) (by decide) ?_
  refine N_newb (pc := 154) hG (dk dd_X10_init 92 rfl) (len := 2) (by omega) (by decide) (by decide) rfl (Nat.le_of_ble_eq_true rfl) (Nat.le_of_ble_eq_true rfl) ?_
  refine N_putF (pc := 156) hG (by decide +kernel) (dk dd_X10_init 93 rfl) fl_X10_53 (by decide +kernel) (by omega) (by omega) ((uw_n (by omega)).trans (uw_s)) (by simp) ?_
  refine N_aload_n (pc := 159) hG (dk dd_X10_init 94 rfl) rfl ?_
  refine N_bipush (pc := 160) hG (dk dd_X10_init 95 rfl) (v := 92) (by decide) ?_
  refine N_newi (pc := 162) hG (dk dd_X10_init 96 rfl) (len := 92) (by omega) (by decide) (by decide) rfl (Nat.le_of_ble_eq_true rfl) (Nat.le_of_ble_eq_true rfl) ?_
  refine N_putF (pc := 164) hG (by decide +kernel) (dk dd_X10_init 97 rfl) fl_X10_56 (by decide +kernel) (by omega) (by omega) ((uw_n (by omega)).trans (uw_s)) (by simp) ?_
  refine N_aload_n (pc := 167) hG (dk dd_X10_init 98 rfl) rfl ?_
  refine N_bipush (pc := 168) hG (dk dd_X10_init 99 rfl) (v := 16) (by decide) ?_
  refine N_newi (pc := 170) hG (dk dd_X10_init 100 rfl) (len := 16) (by omega) (by decide) (by decide) rfl (Nat.le_of_ble_eq_true rfl) (Nat.le_of_ble_eq_true rfl) ?_
  refine N_putF (pc := 172) hG (by decide +kernel) (dk dd_X10_init 101 rfl) fl_X10_59 (by decide +kernel) (by omega) (by omega) ((uw_n (by omega)).trans (uw_s)) (by simp) ?_
  exact N_ret (pc := 175) hG (dk dd_X10_init 102 rfl) hR
