/-! ===== SleepingJudge: rows, tape, court ===== -/
def RwC (x l c : Int32) (μ : Mem) (r : Int32) (μ' : Mem) : Prop :=
  (¬ (isR x ∧ (0 ≤ l ∧ l ≤ 2) ∧ c ≤ 40) ∧ r = -1000001 ∧ μ' = μ) ∨ ((isR x ∧ (0 ≤ l ∧ l ≤ 2) ∧ c ≤ 40) ∧ c < 0 ∧ r = -1000010 - 4 ∧ μ' = setc μ 0 (upd (μ 0) 12 4)) ∨
  (∃ n, x = nI n ∧ n < 8 ∧ (0 ≤ l ∧ l ≤ 2) ∧ (0 ≤ c ∧ c ≤ 40) ∧ r = c ∧ μ' 0 = upd (μ 0) 12 0 ∧ μ' 11 = upd (μ 11) n l ∧ μ' 12 = upd (μ 12) n c ∧ (∀ q, q < 40 → μ' (3 + n) q = 0) ∧ ∀ j, j ≠ 0 → j ≠ 3 + n → j ≠ 11 → j ≠ 12 → μ' j = μ j)
theorem isR_8 {x : Int32} : (0 ≤ x ∧ x < 8) ↔ isR x := by unfold isR; constructor <;> (intro h; exact ⟨h.1, by have := h.2; grind⟩)
theorem lane_3 {l : Int32} : (0 ≤ l ∧ l < 3) ↔ (0 ≤ l ∧ l ≤ 2) := by constructor <;> (intro h; exact ⟨h.1, by have := h.2; grind⟩)
theorem j_row {μ : Mem} {x l c : Int32} : CtP yX9_row cX9_row 4 (some .int) 2 [vR 0, vI x, vI l, vI c] μ (Pi (RwC x l c μ)) := by
  refine CtP.go RX9 rfl pn_X9 (Nat.le_of_ble_eq_true rfl) (fun C hG hR => ?_)
  by_cases hr : isR x
  · obtain ⟨n, hx, hn⟩ := hr.n
    refine V_aload_n (pc := 0) hG (dk dd_X9_row 0 rfl) rfl ?_
    refine V_getR (pc := 1) hG (dk dd_X9_row 1 rfl) fl_X9_10 sh_0 rfl ?_
    refine V_iload_n (pc := 4) hG (dk dd_X9_row 2 rfl) rfl ?_
    refine V_callVip (pc := 5) hG (dk dd_X9_row 3 rfl) ml_X9_83 mo_X5_isRow sh_1 rfl (c_isRow) (by decide) (by decide) rfl rfl rfl (fun x5 m5 p5 => ?_)
    refine V_if_eq (pc := 8) hG (dk dd_X9_row 4 rfl) (tgt := 28) (by decide) (fun h8 => ?_) (fun h8 => ?_)
    refine V_ldc (pc := 28) hG (dk dd_X9_row 13 rfl) kk_X9_90 ?_
    refine V_iretP (pc := 30) hG (dk dd_X9_row 14 rfl) hR (Pi.mk ?_)
    rotate_left
    refine V_aload_n (pc := 11) hG (dk dd_X9_row 5 rfl) rfl ?_
    refine V_getR (pc := 12) hG (dk dd_X9_row 6 rfl) fl_X9_10 sh_0 rfl ?_
    refine V_iload_n (pc := 15) hG (dk dd_X9_row 7 rfl) rfl ?_
    refine V_callVip (pc := 16) hG (dk dd_X9_row 8 rfl) ml_X9_87 mo_X5_isLane sh_1 rfl (c_isLane) (by decide) (by decide) rfl rfl rfl (fun x16 m16 p16 => ?_)
    refine V_if_eq (pc := 19) hG (dk dd_X9_row 9 rfl) (tgt := 28) (by decide) (fun h19 => ?_) (fun h19 => ?_)
    refine V_ldc (pc := 28) hG (dk dd_X9_row 13 rfl) kk_X9_90 ?_
    refine V_iretP (pc := 30) hG (dk dd_X9_row 14 rfl) hR (Pi.mk ?_)
    rotate_left
    refine V_iload_n (pc := 22) hG (dk dd_X9_row 10 rfl) rfl ?_
    refine V_bipush (pc := 23) hG (dk dd_X9_row 11 rfl) (v := 40) (by decide) ?_
    refine V_icmp_le (pc := 25) hG (dk dd_X9_row 12 rfl) (tgt := 31) (by decide) (fun h25 => ?_) (fun h25 => ?_)
    refine V_iload_n (pc := 31) hG (dk dd_X9_row 15 rfl) rfl ?_
    refine V_if_ge (pc := 32) hG (dk dd_X9_row 16 rfl) (tgt := 41) (by decide) (fun h32 => ?_) (fun h32 => ?_)
    refine V_aload_n (pc := 41) hG (dk dd_X9_row 21 rfl) rfl ?_
    refine V_getR (pc := 42) hG (dk dd_X9_row 22 rfl) fl_X9_10 sh_0 rfl ?_
    refine V_iload_n (pc := 45) hG (dk dd_X9_row 23 rfl) rfl ?_
    refine V_iload_n (pc := 46) hG (dk dd_X9_row 24 rfl) rfl ?_
    refine V_iload_n (pc := 47) hG (dk dd_X9_row 25 rfl) rfl ?_
    refine V_callVvp (pc := 48) hG (dk dd_X9_row 26 rfl) ml_X9_95 mo_X5_make sh_1 rfl (c_make hx hn) (by decide) (by decide) rfl rfl rfl (fun m48 p48 => ?_)
    refine V_aload_n (pc := 51) hG (dk dd_X9_row 27 rfl) rfl ?_
    refine V_iload_n (pc := 52) hG (dk dd_X9_row 28 rfl) rfl ?_
    refine V_callVip (pc := 53) hG (dk dd_X9_row 29 rfl) ml_X9_99 mo_X9_fine sh_0 rfl (c_fine) (by decide) (by decide) rfl rfl rfl (fun x53 m53 p53 => ?_)
    refine V_iretP (pc := 56) hG (dk dd_X9_row 30 rfl) hR (Pi.mk ?_)
    rotate_left
    refine V_aload_n (pc := 35) hG (dk dd_X9_row 17 rfl) rfl ?_
    refine V_iconst (pc := 36) hG (dk dd_X9_row 18 rfl) (v := 4) (by decide) ?_
    refine V_callVip (pc := 37) hG (dk dd_X9_row 19 rfl) ml_X9_91 mo_X9_found sh_0 rfl (c_found) (by decide) (by decide) rfl rfl rfl (fun x37 m37 p37 => ?_)
    refine V_iretP (pc := 40) hG (dk dd_X9_row 20 rfl) hR (Pi.mk ?_)
    rotate_left
    refine V_ldc (pc := 28) hG (dk dd_X9_row 13 rfl) kk_X9_90 ?_
    refine V_iretP (pc := 30) hG (dk dd_X9_row 14 rfl) hR (Pi.mk ?_)
    rotate_left
    -- leaves: return@30; return@30; return@56; return@40; return@30
    · exact absurd (isR_8.mpr hr) (p5.2.no h8)
    · exact Or.inl ⟨fun q => p16.2.no h19 (lane_3.mpr q.2.1), rfl, p16.1.trans p5.1⟩
    · have em : m16 = μ := p16.1.trans p5.1
      rw [em] at p48
      obtain ⟨f, e1, e2⟩ := p48
      obtain ⟨g1, g2⟩ := p53
      refine Or.inr (Or.inr ⟨n, hx, hn, lane_3.mp (p16.2.yes h19), ⟨h32, h25⟩, g2, ?_, ?_, ?_, fun q hq => ?_, fun j a b c d => ?_⟩)
      · rw [g1, setc_s, e1, setc_n (by decide), setc_n (by decide), setc_n (by omega)]
      · rw [g1, setc_n (by decide), e1, setc_n (by decide), setc_s]
      · rw [g1, setc_n (by decide), e1, setc_s]
      · rw [g1, setc_n (by omega), e1, setc_n (by omega), setc_n (by omega), setc_s]; exact e2 q hq
      · rw [g1, setc_n a, e1, setc_n d, setc_n c, setc_n b]
    · have em : m16 = μ := p16.1.trans p5.1
      rw [em] at p37
      exact Or.inr (Or.inl ⟨⟨hr, lane_3.mp (p16.2.yes h19), h25⟩, Int32.not_le.mp h32, p37.2, p37.1⟩)
    · exact Or.inl ⟨fun q => h25 q.2.2, rfl, p16.1.trans p5.1⟩
  · skip
    refine V_aload_n (pc := 0) hG (dk dd_X9_row 0 rfl) rfl ?_
    refine V_getR (pc := 1) hG (dk dd_X9_row 1 rfl) fl_X9_10 sh_0 rfl ?_
    refine V_iload_n (pc := 4) hG (dk dd_X9_row 2 rfl) rfl ?_
    refine V_callVip (pc := 5) hG (dk dd_X9_row 3 rfl) ml_X9_83 mo_X5_isRow sh_1 rfl (c_isRow) (by decide) (by decide) rfl rfl rfl (fun x5 m5 p5 => ?_)
    refine V_if_eq (pc := 8) hG (dk dd_X9_row 4 rfl) (tgt := 28) (by decide) (fun h8 => ?_) (fun h8 => ?_)
    refine V_ldc (pc := 28) hG (dk dd_X9_row 13 rfl) kk_X9_90 ?_
    refine V_iretP (pc := 30) hG (dk dd_X9_row 14 rfl) hR (Pi.mk ?_)
    rotate_left
    rotate_left
    -- leaves: return@30; stop 11
    · exact Or.inl ⟨fun q => hr q.1, rfl, p5.1⟩
    · exact absurd (isR_8.mp (p5.2.yes h8)) hr
def StC (x i v : Int32) (μ : Mem) (r : Int32) (μ' : Mem) : Prop :=
  (¬ isR x ∧ r = -1000001 ∧ μ' = μ) ∨ (∃ n, x = nI n ∧ n < 8 ∧ ((lookS (μ 11) (μ 12) n i 1 ≠ 0 ∧ r = -1000010 - lookS (μ 11) (μ 12) n i 1 ∧ μ' = setc μ 0 (upd (μ 0) 12 (lookS (μ 11) (μ 12) n i 1))) ∨
    (lookS (μ 11) (μ 12) n i 1 = 0 ∧ ∃ k, i = nI k ∧ k < 40 ∧ r = lanV (μ 11 n) v ∧ μ' = setc (setc μ (3 + n) (upd (μ (3 + n)) k (lanV (μ 11 n) v))) 0 (upd (μ 0) 12 0))))
theorem j_set {μ : Mem} (hk : Rok (μ 11) (μ 12)) {x i v : Int32} : CtP yX9_set cX9_set 5 (some .int) 2 [vR 0, vI x, vI i, vI v] μ (Pi (StC x i v μ)) := by
  refine CtP.go RX9 rfl pn_X9 (Nat.le_of_ble_eq_true rfl) (fun C hG hR => ?_)
  by_cases hr : isR x
  · obtain ⟨n, hx, hn⟩ := hr.n
    by_cases z : lookS (μ 11) (μ 12) n i 1 = 0
    · obtain ⟨k, hi, hk40⟩ := lookS_0 (m := 1) (hk n hn).2 rfl (by decide) z
      refine V_aload_n (pc := 0) hG (dk dd_X9_set 0 rfl) rfl ?_
      refine V_getR (pc := 1) hG (dk dd_X9_set 1 rfl) fl_X9_10 sh_0 rfl ?_
      refine V_iload_n (pc := 4) hG (dk dd_X9_set 2 rfl) rfl ?_
      refine V_callVip (pc := 5) hG (dk dd_X9_set 3 rfl) ml_X9_83 mo_X5_isRow sh_1 rfl (c_isRow) (by decide) (by decide) rfl rfl rfl (fun x5 m5 p5 => ?_)
      refine V_if_ne (pc := 8) hG (dk dd_X9_set 4 rfl) (tgt := 14) (by decide) (fun h8 => ?_) (fun h8 => ?_)
      refine V_aload_n (pc := 14) hG (dk dd_X9_set 7 rfl) rfl ?_
      refine V_getR (pc := 15) hG (dk dd_X9_set 8 rfl) fl_X9_10 sh_0 rfl ?_
      refine V_iload_n (pc := 18) hG (dk dd_X9_set 9 rfl) rfl ?_
      refine V_iload_n (pc := 19) hG (dk dd_X9_set 10 rfl) rfl ?_
      refine V_iconst (pc := 20) hG (dk dd_X9_set 11 rfl) (v := 1) (by decide) ?_
      refine V_callVip (pc := 21) hG (dk dd_X9_set 12 rfl) ml_X9_102 mo_X5_lookedAt sh_1 rfl (c_lookedAt (μ := m5) hx hn) (by decide) (by decide) rfl rfl rfl (fun x21 m21 p21 => ?_)
      refine V_istore (pc := 24) hG (dk dd_X9_set 13 rfl) (by decide) (lv' := [(0, _), (1, _), (2, _), (3, _), (4, _)]) rfl ?_
      refine V_iload (pc := 26) hG (dk dd_X9_set 14 rfl) rfl ?_
      refine V_if_eq (pc := 28) hG (dk dd_X9_set 15 rfl) (tgt := 40) (by decide) (fun h28 => ?_) (fun h28 => ?_)
      refine V_aload_n (pc := 40) hG (dk dd_X9_set 20 rfl) rfl ?_
      refine V_aload_n (pc := 41) hG (dk dd_X9_set 21 rfl) rfl ?_
      refine V_getR (pc := 42) hG (dk dd_X9_set 22 rfl) fl_X9_10 sh_0 rfl ?_
      refine V_iload_n (pc := 45) hG (dk dd_X9_set 23 rfl) rfl ?_
      refine V_iload_n (pc := 46) hG (dk dd_X9_set 24 rfl) rfl ?_
      refine V_iload_n (pc := 47) hG (dk dd_X9_set 25 rfl) rfl ?_
      refine V_callVip (pc := 48) hG (dk dd_X9_set 26 rfl) ml_X9_106 mo_X5_put sh_1 rfl (c_put hx hn hi (by omega)) (by decide) (by decide) rfl rfl rfl (fun x48 m48 p48 => ?_)
      refine V_callVip (pc := 51) hG (dk dd_X9_set 27 rfl) ml_X9_99 mo_X9_fine sh_0 rfl (c_fine) (by decide) (by decide) rfl rfl rfl (fun x51 m51 p51 => ?_)
      refine V_iretP (pc := 54) hG (dk dd_X9_set 28 rfl) hR (Pi.mk ?_)
      rotate_left
      rotate_left
      rotate_left
      -- leaves: return@54; stop 31; stop 11
      · have em : m21 = μ := p21.1.trans p5.1
        rw [em] at p48
        obtain ⟨e1, e2⟩ := p48
        obtain ⟨g1, g2⟩ := p51
        refine Or.inr ⟨n, hx, hn, Or.inr ⟨z, k, hi, by omega, by rw [g2, e2], ?_⟩⟩
        rw [g1, e1, setc_n (by omega)]
      · have := p21.2; rw [p5.1] at this; exact absurd (this.trans z) h28
      · exact absurd (isR_8.mpr hr) (p5.2.no h8)
    · skip
      refine V_aload_n (pc := 0) hG (dk dd_X9_set 0 rfl) rfl ?_
      refine V_getR (pc := 1) hG (dk dd_X9_set 1 rfl) fl_X9_10 sh_0 rfl ?_
      refine V_iload_n (pc := 4) hG (dk dd_X9_set 2 rfl) rfl ?_
      refine V_callVip (pc := 5) hG (dk dd_X9_set 3 rfl) ml_X9_83 mo_X5_isRow sh_1 rfl (c_isRow) (by decide) (by decide) rfl rfl rfl (fun x5 m5 p5 => ?_)
      refine V_if_ne (pc := 8) hG (dk dd_X9_set 4 rfl) (tgt := 14) (by decide) (fun h8 => ?_) (fun h8 => ?_)
      refine V_aload_n (pc := 14) hG (dk dd_X9_set 7 rfl) rfl ?_
      refine V_getR (pc := 15) hG (dk dd_X9_set 8 rfl) fl_X9_10 sh_0 rfl ?_
      refine V_iload_n (pc := 18) hG (dk dd_X9_set 9 rfl) rfl ?_
      refine V_iload_n (pc := 19) hG (dk dd_X9_set 10 rfl) rfl ?_
      refine V_iconst (pc := 20) hG (dk dd_X9_set 11 rfl) (v := 1) (by decide) ?_
      refine V_callVip (pc := 21) hG (dk dd_X9_set 12 rfl) ml_X9_102 mo_X5_lookedAt sh_1 rfl (c_lookedAt (μ := m5) hx hn) (by decide) (by decide) rfl rfl rfl (fun x21 m21 p21 => ?_)
      refine V_istore (pc := 24) hG (dk dd_X9_set 13 rfl) (by decide) (lv' := [(0, _), (1, _), (2, _), (3, _), (4, _)]) rfl ?_
      refine V_iload (pc := 26) hG (dk dd_X9_set 14 rfl) rfl ?_
      refine V_if_eq (pc := 28) hG (dk dd_X9_set 15 rfl) (tgt := 40) (by decide) (fun h28 => ?_) (fun h28 => ?_)
      rotate_left
      refine V_aload_n (pc := 31) hG (dk dd_X9_set 16 rfl) rfl ?_
      refine V_iload (pc := 32) hG (dk dd_X9_set 17 rfl) rfl ?_
      refine V_callVip (pc := 34) hG (dk dd_X9_set 18 rfl) ml_X9_91 mo_X9_found sh_0 rfl (c_found) (by decide) (by decide) rfl rfl rfl (fun x34 m34 p34 => ?_)
      refine V_goto (pc := 37) hG (dk dd_X9_set 19 rfl) (tgt := 54) (by decide) ?_
      refine V_iretP (pc := 54) hG (dk dd_X9_set 28 rfl) hR (Pi.mk ?_)
      rotate_left
      rotate_left
      -- leaves: stop 40; return@54; stop 11
      · have := p21.2; rw [p5.1] at this; exact absurd (this.symm.trans h28) z
      · have e := p21.2
        rw [p5.1] at e
        have em : m21 = μ := p21.1.trans p5.1
        rw [em, e] at p34
        exact Or.inr ⟨n, hx, hn, Or.inl ⟨z, p34.2, p34.1⟩⟩
      · exact absurd (isR_8.mpr hr) (p5.2.no h8)
  · skip
    refine V_aload_n (pc := 0) hG (dk dd_X9_set 0 rfl) rfl ?_
    refine V_getR (pc := 1) hG (dk dd_X9_set 1 rfl) fl_X9_10 sh_0 rfl ?_
    refine V_iload_n (pc := 4) hG (dk dd_X9_set 2 rfl) rfl ?_
    refine V_callVip (pc := 5) hG (dk dd_X9_set 3 rfl) ml_X9_83 mo_X5_isRow sh_1 rfl (c_isRow) (by decide) (by decide) rfl rfl rfl (fun x5 m5 p5 => ?_)
    refine V_if_ne (pc := 8) hG (dk dd_X9_set 4 rfl) (tgt := 14) (by decide) (fun h8 => ?_) (fun h8 => ?_)
    rotate_left
    refine V_ldc (pc := 11) hG (dk dd_X9_set 5 rfl) kk_X9_90 ?_
    refine V_iretP (pc := 13) hG (dk dd_X9_set 6 rfl) hR (Pi.mk ?_)
    rotate_left
    -- leaves: stop 14; return@13
    · exact absurd (isR_8.mp (p5.2.yes h8)) hr
    · exact Or.inl ⟨hr, rfl, p5.1⟩
def DpC (x : Int32) (μ : Mem) (r : Int32) (μ' : Mem) : Prop :=
  (¬ isR x ∧ r = -1000001 ∧ μ' = μ) ∨ (∃ n, x = nI n ∧ n < 8 ∧ ((μ 11 n = -1 ∧ r = -1000010 - 1 ∧ μ' = setc μ 0 (upd (μ 0) 12 1)) ∨ (¬ μ 11 n = -1 ∧ r = μ 12 n ∧ μ' = setc (setc μ 11 (upd (μ 11) n (-1))) 0 (upd (μ 0) 12 0))))
theorem j_drop {μ : Mem} {x : Int32} : CtP yX9_drop cX9_drop 2 (some .int) 1 [vR 0, vI x] μ (Pi (DpC x μ)) := by
  refine CtP.go RX9 rfl pn_X9 (Nat.le_of_ble_eq_true rfl) (fun C hG hR => ?_)
  by_cases hr : isR x
  · obtain ⟨n, hx, hn⟩ := hr.n
    refine V_aload_n (pc := 0) hG (dk dd_X9_drop 0 rfl) rfl ?_
    refine V_getR (pc := 1) hG (dk dd_X9_drop 1 rfl) fl_X9_10 sh_0 rfl ?_
    refine V_iload_n (pc := 4) hG (dk dd_X9_drop 2 rfl) rfl ?_
    refine V_callVip (pc := 5) hG (dk dd_X9_drop 3 rfl) ml_X9_83 mo_X5_isRow sh_1 rfl (c_isRow) (by decide) (by decide) rfl rfl rfl (fun x5 m5 p5 => ?_)
    refine V_if_ne (pc := 8) hG (dk dd_X9_drop 4 rfl) (tgt := 14) (by decide) (fun h8 => ?_) (fun h8 => ?_)
    refine V_aload_n (pc := 14) hG (dk dd_X9_drop 7 rfl) rfl ?_
    refine V_getR (pc := 15) hG (dk dd_X9_drop 8 rfl) fl_X9_10 sh_0 rfl ?_
    refine V_iload_n (pc := 18) hG (dk dd_X9_drop 9 rfl) rfl ?_
    refine V_callVip (pc := 19) hG (dk dd_X9_drop 10 rfl) ml_X9_109 mo_X5_isMissing sh_1 rfl (c_isMissing hx hn) (by decide) (by decide) rfl rfl rfl (fun x19 m19 p19 => ?_)
    refine V_if_eq (pc := 22) hG (dk dd_X9_drop 11 rfl) (tgt := 33) (by decide) (fun h22 => ?_) (fun h22 => ?_)
    refine V_aload_n (pc := 33) hG (dk dd_X9_drop 16 rfl) rfl ?_
    refine V_aload_n (pc := 34) hG (dk dd_X9_drop 17 rfl) rfl ?_
    refine V_getR (pc := 35) hG (dk dd_X9_drop 18 rfl) fl_X9_10 sh_0 rfl ?_
    refine V_iload_n (pc := 38) hG (dk dd_X9_drop 19 rfl) rfl ?_
    refine V_callVip (pc := 39) hG (dk dd_X9_drop 20 rfl) ml_X9_120 mo_X5_remove sh_1 rfl (c_remove hx hn) (by decide) (by decide) rfl rfl rfl (fun x39 m39 p39 => ?_)
    refine V_callVip (pc := 42) hG (dk dd_X9_drop 21 rfl) ml_X9_99 mo_X9_fine sh_0 rfl (c_fine) (by decide) (by decide) rfl rfl rfl (fun x42 m42 p42 => ?_)
    refine V_iretP (pc := 45) hG (dk dd_X9_drop 22 rfl) hR (Pi.mk ?_)
    rotate_left
    refine V_aload_n (pc := 25) hG (dk dd_X9_drop 12 rfl) rfl ?_
    refine V_iconst (pc := 26) hG (dk dd_X9_drop 13 rfl) (v := 1) (by decide) ?_
    refine V_callVip (pc := 27) hG (dk dd_X9_drop 14 rfl) ml_X9_91 mo_X9_found sh_0 rfl (c_found) (by decide) (by decide) rfl rfl rfl (fun x27 m27 p27 => ?_)
    refine V_goto (pc := 30) hG (dk dd_X9_drop 15 rfl) (tgt := 45) (by decide) ?_
    refine V_iretP (pc := 45) hG (dk dd_X9_drop 22 rfl) hR (Pi.mk ?_)
    rotate_left
    rotate_left
    -- leaves: return@45; return@45; stop 11
    · have em : m19 = μ := p19.1.trans p5.1
      have z := p19.2.no h22
      rw [p5.1] at z
      rw [em] at p39
      obtain ⟨e1, e2⟩ := p39
      obtain ⟨g1, g2⟩ := p42
      exact Or.inr ⟨n, hx, hn, Or.inr ⟨z, by rw [g2, e2], by rw [g1, e1, setc_n (by decide)]⟩⟩
    · have em : m19 = μ := p19.1.trans p5.1
      have z := p19.2.yes h22
      rw [p5.1] at z
      rw [em] at p27
      exact Or.inr ⟨n, hx, hn, Or.inl ⟨z, p27.2, p27.1⟩⟩
    · exact absurd (isR_8.mpr hr) (p5.2.no h8)
  · skip
    refine V_aload_n (pc := 0) hG (dk dd_X9_drop 0 rfl) rfl ?_
    refine V_getR (pc := 1) hG (dk dd_X9_drop 1 rfl) fl_X9_10 sh_0 rfl ?_
    refine V_iload_n (pc := 4) hG (dk dd_X9_drop 2 rfl) rfl ?_
    refine V_callVip (pc := 5) hG (dk dd_X9_drop 3 rfl) ml_X9_83 mo_X5_isRow sh_1 rfl (c_isRow) (by decide) (by decide) rfl rfl rfl (fun x5 m5 p5 => ?_)
    refine V_if_ne (pc := 8) hG (dk dd_X9_drop 4 rfl) (tgt := 14) (by decide) (fun h8 => ?_) (fun h8 => ?_)
    rotate_left
    refine V_ldc (pc := 11) hG (dk dd_X9_drop 5 rfl) kk_X9_90 ?_
    refine V_iretP (pc := 13) hG (dk dd_X9_drop 6 rfl) hR (Pi.mk ?_)
    rotate_left
    -- leaves: stop 14; return@13
    · exact absurd (isR_8.mp (p5.2.yes h8)) hr
    · exact Or.inl ⟨hr, rfl, p5.1⟩
def CpC (x i y j c : Int32) (μ : Mem) (r : Int32) (μ' : Mem) : Prop :=
  (¬ (isR x ∧ isR y) ∧ r = -1000001 ∧ μ' = μ) ∨ (∃ n m, x = nI n ∧ n < 8 ∧ y = nI m ∧ m < 8 ∧
    (((μ 11 n = -1 ∨ μ 11 m = -1) ∧ r = -1000010 - 1 ∧ μ' = setc μ 0 (upd (μ 0) 12 1)) ∨ (¬ (μ 11 n = -1 ∨ μ 11 m = -1) ∧ ¬ μ 11 n = μ 11 m ∧ r = -1000010 - 5 ∧ μ' = setc μ 0 (upd (μ 0) 12 5)) ∨
     (¬ (μ 11 n = -1 ∨ μ 11 m = -1) ∧ μ 11 n = μ 11 m ∧ ¬ (lookS (μ 11) (μ 12) n i c = 0 ∧ lookS (μ 11) (μ 12) m j c = 0) ∧ r = -1000010 - 2 ∧ μ' = setc μ 0 (upd (μ 0) 12 2)) ∨
     (¬ (μ 11 n = -1 ∨ μ 11 m = -1) ∧ μ 11 n = μ 11 m ∧ (lookS (μ 11) (μ 12) n i c = 0 ∧ lookS (μ 11) (μ 12) m j c = 0) ∧ r = c ∧ ∃ a b k, i = nI a ∧ j = nI b ∧ c = nI k ∧ a + k ≤ 40 ∧ b + k ≤ 40 ∧ μ' = setc (setc μ (3 + m) (va_cpy (μ (3 + n)) (μ (3 + m)) a b k)) 0 (upd (μ 0) 12 0))))
theorem j_copy {μ : Mem} (hk : Rok (μ 11) (μ 12)) {x i y j c : Int32} : CtP yX9_copy cX9_copy 6 (some .int) 2 [vR 0, vI x, vI i, vI y, vI j, vI c] μ (Pi (CpC x i y j c μ)) := by
  refine CtP.go RX9 rfl pn_X9 (Nat.le_of_ble_eq_true rfl) (fun C hG hR => ?_)
  by_cases hr : isR x ∧ isR y
  · obtain ⟨n, hx, hn⟩ := hr.1.n
    obtain ⟨m, hy, hm⟩ := hr.2.n
    have move : ¬ (μ 11 n = -1 ∨ μ 11 m = -1) → μ 11 n = μ 11 m → (lookS (μ 11) (μ 12) n i c = 0 ∧ lookS (μ 11) (μ 12) m j c = 0) → V C 106 [(0, vR 0), (1, vI x), (2, vI i), (3, vI y), (4, vI j), (5, vI c)] [] μ := by
      intro g1 g2 g3
      have c0 : ¬ c < 0 ∧ c ≤ μ 12 n := by
        have := g3.1
        unfold lookS at this
        rw [if_neg (fun q => g1 (Or.inl q))] at this
        split at this
        · rename_i q; exact ⟨Int32.not_lt.mpr q.2.1, q.2.2.1⟩
        · exact absurd this (by decide)
      obtain ⟨k, hkl, hck⟩ := nI_of c0.1
      have k40 : k ≤ 40 := by
        have : nI k ≤ nI 40 := by rw [← hck]; exact Int32.le_trans c0.2 (hk n hn).2.2
        exact le_i this hkl (by decide)
      obtain ⟨a, hi, ha⟩ := lookS_0 (hk n hn).2 hck k40 g3.1
      obtain ⟨b, hj, hb⟩ := lookS_0 (hk m hm).2 hck k40 g3.2
      refine V_aload_n (pc := 106) hG (dk dd_X9_copy 54 rfl) rfl ?_
      refine V_getR (pc := 107) hG (dk dd_X9_copy 55 rfl) fl_X9_10 sh_0 rfl ?_
      refine V_iload_n (pc := 110) hG (dk dd_X9_copy 56 rfl) rfl ?_
      refine V_iload_n (pc := 111) hG (dk dd_X9_copy 57 rfl) rfl ?_
      refine V_iload_n (pc := 112) hG (dk dd_X9_copy 58 rfl) rfl ?_
      refine V_iload (pc := 113) hG (dk dd_X9_copy 59 rfl) rfl ?_
      refine V_iload (pc := 115) hG (dk dd_X9_copy 60 rfl) rfl ?_
      refine V_callVvp (pc := 117) hG (dk dd_X9_copy 61 rfl) ml_X9_116 mo_X5_move sh_1 rfl (c_move hx hn hy hm hi hj hck ha hb) (by decide) (by decide) rfl rfl rfl (fun m117 p117 => ?_)
      refine V_aload_n (pc := 120) hG (dk dd_X9_copy 62 rfl) rfl ?_
      refine V_iload (pc := 121) hG (dk dd_X9_copy 63 rfl) rfl ?_
      refine V_callVip (pc := 123) hG (dk dd_X9_copy 64 rfl) ml_X9_99 mo_X9_fine sh_0 rfl (c_fine) (by decide) (by decide) rfl rfl rfl (fun x123 m123 p123 => ?_)
      refine V_iretP (pc := 126) hG (dk dd_X9_copy 65 rfl) hR (Pi.mk ?_)
      rotate_left
      -- leaves: return@126
      · obtain ⟨e1, e2⟩ := p123
        rw [p117] at e1
        exact Or.inr ⟨n, m, hx, hn, hy, hm, Or.inr (Or.inr (Or.inr ⟨g1, g2, g3, e2, a, b, k, hi, hj, hck, ha, hb, by rw [e1, setc_n (by omega)]⟩))⟩
    have fnd47 : (μ 11 n = -1 ∨ μ 11 m = -1) → V C 47 [(0, vR 0), (1, vI x), (2, vI i), (3, vI y), (4, vI j), (5, vI c)] [] μ := by
      intro g
      refine V_aload_n (pc := 47) hG (dk dd_X9_copy 22 rfl) rfl ?_
      refine V_iconst (pc := 48) hG (dk dd_X9_copy 23 rfl) (v := 1) (by decide) ?_
      refine V_callVip (pc := 49) hG (dk dd_X9_copy 24 rfl) ml_X9_91 mo_X9_found sh_0 rfl (c_found) (by decide) (by decide) rfl rfl rfl (fun x49 m49 p49 => ?_)
      refine V_iretP (pc := 52) hG (dk dd_X9_copy 25 rfl) hR (Pi.mk ?_)
      rotate_left
      -- leaves: return@52
      · exact Or.inr ⟨n, m, hx, hn, hy, hm, Or.inl ⟨g, p49.2, p49.1⟩⟩
    have fnd100 : ¬ (μ 11 n = -1 ∨ μ 11 m = -1) → μ 11 n = μ 11 m → ¬ (lookS (μ 11) (μ 12) n i c = 0 ∧ lookS (μ 11) (μ 12) m j c = 0) → V C 100 [(0, vR 0), (1, vI x), (2, vI i), (3, vI y), (4, vI j), (5, vI c)] [] μ := by
      intro g1 g2 g3
      refine V_aload_n (pc := 100) hG (dk dd_X9_copy 50 rfl) rfl ?_
      refine V_iconst (pc := 101) hG (dk dd_X9_copy 51 rfl) (v := 2) (by decide) ?_
      refine V_callVip (pc := 102) hG (dk dd_X9_copy 52 rfl) ml_X9_91 mo_X9_found sh_0 rfl (c_found) (by decide) (by decide) rfl rfl rfl (fun x102 m102 p102 => ?_)
      refine V_iretP (pc := 105) hG (dk dd_X9_copy 53 rfl) hR (Pi.mk ?_)
      rotate_left
      -- leaves: return@105
      · exact Or.inr ⟨n, m, hx, hn, hy, hm, Or.inr (Or.inr (Or.inl ⟨g1, g2, g3, p102.2, p102.1⟩))⟩
    have fnd65 : ¬ (μ 11 n = -1 ∨ μ 11 m = -1) → ¬ μ 11 n = μ 11 m → V C 65 [(0, vR 0), (1, vI x), (2, vI i), (3, vI y), (4, vI j), (5, vI c)] [] μ := by
      intro g1 g2
      refine V_aload_n (pc := 65) hG (dk dd_X9_copy 32 rfl) rfl ?_
      refine V_iconst (pc := 66) hG (dk dd_X9_copy 33 rfl) (v := 5) (by decide) ?_
      refine V_callVip (pc := 67) hG (dk dd_X9_copy 34 rfl) ml_X9_91 mo_X9_found sh_0 rfl (c_found) (by decide) (by decide) rfl rfl rfl (fun x67 m67 p67 => ?_)
      refine V_iretP (pc := 70) hG (dk dd_X9_copy 35 rfl) hR (Pi.mk ?_)
      rotate_left
      -- leaves: return@70
      · exact Or.inr ⟨n, m, hx, hn, hy, hm, Or.inr (Or.inl ⟨g1, g2, p67.2, p67.1⟩)⟩
    have L71 : ¬ (μ 11 n = -1 ∨ μ 11 m = -1) → μ 11 n = μ 11 m → V C 71 [(0, vR 0), (1, vI x), (2, vI i), (3, vI y), (4, vI j), (5, vI c)] [] μ := by
      intro g1 g2
      refine V_aload_n (pc := 71) hG (dk dd_X9_copy 36 rfl) rfl ?_
      refine V_getR (pc := 72) hG (dk dd_X9_copy 37 rfl) fl_X9_10 sh_0 rfl ?_
      refine V_iload_n (pc := 75) hG (dk dd_X9_copy 38 rfl) rfl ?_
      refine V_iload_n (pc := 76) hG (dk dd_X9_copy 39 rfl) rfl ?_
      refine V_iload (pc := 77) hG (dk dd_X9_copy 40 rfl) rfl ?_
      refine V_callVip (pc := 79) hG (dk dd_X9_copy 41 rfl) ml_X9_102 mo_X5_lookedAt sh_1 rfl (c_lookedAt (μ := μ) hx hn) (by decide) (by decide) rfl rfl rfl (fun x79 m79 p79 => ?_)
      refine V_if_ne (pc := 82) hG (dk dd_X9_copy 42 rfl) (tgt := 100) (by decide) (fun h82 => ?_) (fun h82 => ?_)
      rotate_left
      refine V_aload_n (pc := 85) hG (dk dd_X9_copy 43 rfl) rfl ?_
      refine V_getR (pc := 86) hG (dk dd_X9_copy 44 rfl) fl_X9_10 sh_0 rfl ?_
      refine V_iload_n (pc := 89) hG (dk dd_X9_copy 45 rfl) rfl ?_
      refine V_iload (pc := 90) hG (dk dd_X9_copy 46 rfl) rfl ?_
      refine V_iload (pc := 92) hG (dk dd_X9_copy 47 rfl) rfl ?_
      refine V_callVip (pc := 94) hG (dk dd_X9_copy 48 rfl) ml_X9_102 mo_X5_lookedAt sh_1 rfl (c_lookedAt (μ := m79) hy hm) (by decide) (by decide) rfl rfl rfl (fun x94 m94 p94 => ?_)
      refine V_if_eq (pc := 97) hG (dk dd_X9_copy 49 rfl) (tgt := 106) (by decide) (fun h97 => ?_) (fun h97 => ?_)
      rotate_left
      rotate_left
      -- leaves: stop 100; stop 106; stop 100
      · rw [p79.1]; exact fnd100 g1 g2 (fun q => h82 (p79.2.trans q.1))
      · have e := p94.2
        rw [p79.1] at e
        rw [p94.1, p79.1]
        exact move g1 g2 ⟨p79.2.symm.trans h82, e.symm.trans h97⟩
      · have e := p94.2
        rw [p79.1] at e
        rw [p94.1, p79.1]
        exact fnd100 g1 g2 (fun q => h97 (e.trans q.2))
    refine V_aload_n (pc := 0) hG (dk dd_X9_copy 0 rfl) rfl ?_
    refine V_getR (pc := 1) hG (dk dd_X9_copy 1 rfl) fl_X9_10 sh_0 rfl ?_
    refine V_iload_n (pc := 4) hG (dk dd_X9_copy 2 rfl) rfl ?_
    refine V_callVip (pc := 5) hG (dk dd_X9_copy 3 rfl) ml_X9_83 mo_X5_isRow sh_1 rfl (c_isRow) (by decide) (by decide) rfl rfl rfl (fun x5 m5 p5 => ?_)
    refine V_if_eq (pc := 8) hG (dk dd_X9_copy 4 rfl) (tgt := 22) (by decide) (fun h8 => ?_) (fun h8 => ?_)
    rotate_left
    refine V_aload_n (pc := 11) hG (dk dd_X9_copy 5 rfl) rfl ?_
    refine V_getR (pc := 12) hG (dk dd_X9_copy 6 rfl) fl_X9_10 sh_0 rfl ?_
    refine V_iload_n (pc := 15) hG (dk dd_X9_copy 7 rfl) rfl ?_
    refine V_callVip (pc := 16) hG (dk dd_X9_copy 8 rfl) ml_X9_83 mo_X5_isRow sh_1 rfl (c_isRow) (by decide) (by decide) rfl rfl rfl (fun x16 m16 p16 => ?_)
    refine V_if_ne (pc := 19) hG (dk dd_X9_copy 9 rfl) (tgt := 25) (by decide) (fun h19 => ?_) (fun h19 => ?_)
    refine V_aload_n (pc := 25) hG (dk dd_X9_copy 12 rfl) rfl ?_
    refine V_getR (pc := 26) hG (dk dd_X9_copy 13 rfl) fl_X9_10 sh_0 rfl ?_
    refine V_iload_n (pc := 29) hG (dk dd_X9_copy 14 rfl) rfl ?_
    refine V_callVip (pc := 30) hG (dk dd_X9_copy 15 rfl) ml_X9_109 mo_X5_isMissing sh_1 rfl (c_isMissing (μ := m16) hx hn) (by decide) (by decide) rfl rfl rfl (fun x30 m30 p30 => ?_)
    refine V_if_ne (pc := 33) hG (dk dd_X9_copy 16 rfl) (tgt := 47) (by decide) (fun h33 => ?_) (fun h33 => ?_)
    rotate_left
    refine V_aload_n (pc := 36) hG (dk dd_X9_copy 17 rfl) rfl ?_
    refine V_getR (pc := 37) hG (dk dd_X9_copy 18 rfl) fl_X9_10 sh_0 rfl ?_
    refine V_iload_n (pc := 40) hG (dk dd_X9_copy 19 rfl) rfl ?_
    refine V_callVip (pc := 41) hG (dk dd_X9_copy 20 rfl) ml_X9_109 mo_X5_isMissing sh_1 rfl (c_isMissing (μ := m30) hy hm) (by decide) (by decide) rfl rfl rfl (fun x41 m41 p41 => ?_)
    refine V_if_eq (pc := 44) hG (dk dd_X9_copy 21 rfl) (tgt := 53) (by decide) (fun h44 => ?_) (fun h44 => ?_)
    rotate_left
    rotate_left
    rotate_left
    -- leaves: stop 22; stop 47; stop 53; stop 47; stop 22
    all_goals (first | exact absurd (isR_8.mpr hr.1) (p5.2.no h8) | exact absurd (isR_8.mpr hr.2) (p16.2.no h19) | skip)
    all_goals (have em : m16 = μ := p16.1.trans p5.1; rw [em] at p30)
    · rw [p30.1]; exact fnd47 (Or.inl (p30.2.yes h33))
    · rw [p30.1] at p41
      rw [p41.1]
      have g1 : ¬ (μ 11 n = -1 ∨ μ 11 m = -1) := fun q => q.elim (p30.2.no h33) (p41.2.no h44)
      refine V_aload_n (pc := 53) hG (dk dd_X9_copy 26 rfl) rfl ?_
      refine V_getR (pc := 54) hG (dk dd_X9_copy 27 rfl) fl_X9_10 sh_0 rfl ?_
      refine V_iload_n (pc := 57) hG (dk dd_X9_copy 28 rfl) rfl ?_
      refine V_iload_n (pc := 58) hG (dk dd_X9_copy 29 rfl) rfl ?_
      refine V_callVip (pc := 59) hG (dk dd_X9_copy 30 rfl) ml_X9_112 mo_X5_areAlike sh_1 rfl (c_areAlike (μ := μ) hx hn hy hm) (by decide) (by decide) rfl rfl rfl (fun x59 m59 p59 => ?_)
      refine V_if_ne (pc := 62) hG (dk dd_X9_copy 31 rfl) (tgt := 71) (by decide) (fun h62 => ?_) (fun h62 => ?_)
      rotate_left
      rotate_left
      -- leaves: stop 71; stop 65
      · rw [p59.1]; exact L71 g1 (p59.2.yes h62)
      · rw [p59.1]; exact fnd65 g1 (p59.2.no h62)
    · rw [p30.1] at p41
      rw [p41.1]; exact fnd47 (Or.inr (p41.2.yes h44))
  · skip
    refine V_aload_n (pc := 0) hG (dk dd_X9_copy 0 rfl) rfl ?_
    refine V_getR (pc := 1) hG (dk dd_X9_copy 1 rfl) fl_X9_10 sh_0 rfl ?_
    refine V_iload_n (pc := 4) hG (dk dd_X9_copy 2 rfl) rfl ?_
    refine V_callVip (pc := 5) hG (dk dd_X9_copy 3 rfl) ml_X9_83 mo_X5_isRow sh_1 rfl (c_isRow) (by decide) (by decide) rfl rfl rfl (fun x5 m5 p5 => ?_)
    refine V_if_eq (pc := 8) hG (dk dd_X9_copy 4 rfl) (tgt := 22) (by decide) (fun h8 => ?_) (fun h8 => ?_)
    refine V_ldc (pc := 22) hG (dk dd_X9_copy 10 rfl) kk_X9_90 ?_
    refine V_iretP (pc := 24) hG (dk dd_X9_copy 11 rfl) hR (Pi.mk ?_)
    rotate_left
    refine V_aload_n (pc := 11) hG (dk dd_X9_copy 5 rfl) rfl ?_
    refine V_getR (pc := 12) hG (dk dd_X9_copy 6 rfl) fl_X9_10 sh_0 rfl ?_
    refine V_iload_n (pc := 15) hG (dk dd_X9_copy 7 rfl) rfl ?_
    refine V_callVip (pc := 16) hG (dk dd_X9_copy 8 rfl) ml_X9_83 mo_X5_isRow sh_1 rfl (c_isRow) (by decide) (by decide) rfl rfl rfl (fun x16 m16 p16 => ?_)
    refine V_if_ne (pc := 19) hG (dk dd_X9_copy 9 rfl) (tgt := 25) (by decide) (fun h19 => ?_) (fun h19 => ?_)
    rotate_left
    refine V_ldc (pc := 22) hG (dk dd_X9_copy 10 rfl) kk_X9_90 ?_
    refine V_iretP (pc := 24) hG (dk dd_X9_copy 11 rfl) hR (Pi.mk ?_)
    rotate_left
    -- leaves: return@24; stop 25; return@24
    · exact Or.inl ⟨hr, rfl, p5.1⟩
    · exact absurd ⟨isR_8.mp (p5.2.yes h8), isR_8.mp (p16.2.yes h19)⟩ hr
    · exact Or.inl ⟨hr, rfl, p16.1.trans p5.1⟩
def FdC (n : Nat) (x : Int32) (μ : Mem) (r : Int32) (μ' : Mem) : Prop :=
  (¬ (0 ≤ x ∧ x ≤ 255) ∧ r = -1000001 ∧ μ' = μ) ∨ ((0 ≤ x ∧ x ≤ 255) ∧ n = 120 ∧ r = -1000003 ∧ μ' = μ) ∨
  ((0 ≤ x ∧ x ≤ 255) ∧ n < 120 ∧ r = nI (n + 1) ∧ μ' = setc (setc μ 14 (upd (μ 14) n x)) 13 (upd (μ 13) 1 (nI (n + 1))))
theorem j_feed {μ : Mem} {n : Nat} (hn : n ≤ 120) (e : μ 13 1 = nI n) {x : Int32} : CtP yX9_feed cX9_feed 2 (some .int) 1 [vR 0, vI x] μ (Pi (FdC n x μ)) := by
  refine CtP.go RX9 rfl pn_X9 (Nat.le_of_ble_eq_true rfl) (fun C hG hR => ?_)
  have full : 120 ≤ μ 13 1 ↔ n = 120 := by
    rw [e, show (120 : Int32) = nI 120 from rfl, nI_leI (by decide) (by omega)]; omega
  by_cases hx : 0 ≤ x ∧ x ≤ 255
  · by_cases h20 : n = 120
    · skip
      refine V_iload_n (pc := 0) hG (dk dd_X9_feed 0 rfl) rfl ?_
      refine V_if_lt (pc := 1) hG (dk dd_X9_feed 1 rfl) (tgt := 11) (by decide) (fun h1 => ?_) (fun h1 => ?_)
      rotate_left
      refine V_iload_n (pc := 4) hG (dk dd_X9_feed 2 rfl) rfl ?_
      refine V_sipush (pc := 5) hG (dk dd_X9_feed 3 rfl) (v := 255) (by decide) ?_
      refine V_icmp_le (pc := 8) hG (dk dd_X9_feed 4 rfl) (tgt := 14) (by decide) (fun h8 => ?_) (fun h8 => ?_)
      refine V_aload_n (pc := 14) hG (dk dd_X9_feed 7 rfl) rfl ?_
      refine V_getR (pc := 15) hG (dk dd_X9_feed 8 rfl) fl_X9_19 sh_0 rfl ?_
      refine V_callVip (pc := 18) hG (dk dd_X9_feed 9 rfl) ml_X9_123 mo_X6_isFull sh_13 rfl (c_isFull) (by decide) (by decide) rfl rfl rfl (fun x18 m18 p18 => ?_)
      refine V_if_eq (pc := 21) hG (dk dd_X9_feed 10 rfl) (tgt := 29) (by decide) (fun h21 => ?_) (fun h21 => ?_)
      rotate_left
      refine V_ldc (pc := 24) hG (dk dd_X9_feed 11 rfl) kk_X9_127 ?_
      refine V_goto (pc := 26) hG (dk dd_X9_feed 12 rfl) (tgt := 37) (by decide) ?_
      refine V_iretP (pc := 37) hG (dk dd_X9_feed 17 rfl) hR (Pi.mk ?_)
      rotate_left
      rotate_left
      -- leaves: stop 11; stop 29; return@37; stop 11
      · exact absurd h1 (Int32.not_lt.mpr hx.1)
      · exact absurd (full.mpr h20) (p18.2.no h21)
      · exact Or.inr (Or.inl ⟨hx, h20, rfl, p18.1⟩)
      · exact absurd hx.2 h8
    · skip
      refine V_iload_n (pc := 0) hG (dk dd_X9_feed 0 rfl) rfl ?_
      refine V_if_lt (pc := 1) hG (dk dd_X9_feed 1 rfl) (tgt := 11) (by decide) (fun h1 => ?_) (fun h1 => ?_)
      rotate_left
      refine V_iload_n (pc := 4) hG (dk dd_X9_feed 2 rfl) rfl ?_
      refine V_sipush (pc := 5) hG (dk dd_X9_feed 3 rfl) (v := 255) (by decide) ?_
      refine V_icmp_le (pc := 8) hG (dk dd_X9_feed 4 rfl) (tgt := 14) (by decide) (fun h8 => ?_) (fun h8 => ?_)
      refine V_aload_n (pc := 14) hG (dk dd_X9_feed 7 rfl) rfl ?_
      refine V_getR (pc := 15) hG (dk dd_X9_feed 8 rfl) fl_X9_19 sh_0 rfl ?_
      refine V_callVip (pc := 18) hG (dk dd_X9_feed 9 rfl) ml_X9_123 mo_X6_isFull sh_13 rfl (c_isFull) (by decide) (by decide) rfl rfl rfl (fun x18 m18 p18 => ?_)
      refine V_if_eq (pc := 21) hG (dk dd_X9_feed 10 rfl) (tgt := 29) (by decide) (fun h21 => ?_) (fun h21 => ?_)
      refine V_aload_n (pc := 29) hG (dk dd_X9_feed 13 rfl) rfl ?_
      refine V_getR (pc := 30) hG (dk dd_X9_feed 14 rfl) fl_X9_19 sh_0 rfl ?_
      refine V_iload_n (pc := 33) hG (dk dd_X9_feed 15 rfl) rfl ?_
      refine V_callVip (pc := 34) hG (dk dd_X9_feed 16 rfl) ml_X9_128 mo_X6_add sh_13 rfl (c_tadd (n := n) (by rw [p18.1]; exact e) (by omega)) (by decide) (by decide) rfl rfl rfl (fun x34 m34 p34 => ?_)
      refine V_iretP (pc := 37) hG (dk dd_X9_feed 17 rfl) hR (Pi.mk ?_)
      rotate_left
      rotate_left
      rotate_left
      -- leaves: stop 11; return@37; stop 24; stop 11
      · exact absurd h1 (Int32.not_lt.mpr hx.1)
      · rw [p18.1] at p34
        exact Or.inr (Or.inr ⟨hx, by omega, p34.2, p34.1⟩)
      · exact absurd (full.mp (p18.2.yes h21)) h20
      · exact absurd hx.2 h8
  · skip
    refine V_iload_n (pc := 0) hG (dk dd_X9_feed 0 rfl) rfl ?_
    refine V_if_lt (pc := 1) hG (dk dd_X9_feed 1 rfl) (tgt := 11) (by decide) (fun h1 => ?_) (fun h1 => ?_)
    refine V_ldc (pc := 11) hG (dk dd_X9_feed 5 rfl) kk_X9_90 ?_
    refine V_iretP (pc := 13) hG (dk dd_X9_feed 6 rfl) hR (Pi.mk ?_)
    rotate_left
    refine V_iload_n (pc := 4) hG (dk dd_X9_feed 2 rfl) rfl ?_
    refine V_sipush (pc := 5) hG (dk dd_X9_feed 3 rfl) (v := 255) (by decide) ?_
    refine V_icmp_le (pc := 8) hG (dk dd_X9_feed 4 rfl) (tgt := 14) (by decide) (fun h8 => ?_) (fun h8 => ?_)
    rotate_left
    refine V_ldc (pc := 11) hG (dk dd_X9_feed 5 rfl) kk_X9_90 ?_
    refine V_iretP (pc := 13) hG (dk dd_X9_feed 6 rfl) hR (Pi.mk ?_)
    rotate_left
    -- leaves: return@13; stop 14; return@13
    · exact Or.inl ⟨hx, rfl, rfl⟩
    · exact absurd ⟨Int32.not_lt.mp h1, h8⟩ hx
    · exact Or.inl ⟨hx, rfl, rfl⟩
