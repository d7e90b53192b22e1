/-! ===== rows, tape: small methods ===== -/
theorem c_isRow {μ : Mem} {x : Int32} : CtP yX5_isRow cX5_isRow 2 (some .boolean) 0 [vR 1, vI x] μ (Pi (fun r μ' => μ' = μ ∧ is1 r (0 ≤ x ∧ x < 8))) := by
  refine CtP.go RX5 rfl pn_X5 (Nat.le_of_ble_eq_true rfl) (fun C hG hR => ?_)
  refine V_iload_n (pc := 0) hG (dk dd_X5_isRow 0 rfl) rfl ?_
  refine V_if_lt (pc := 1) hG (dk dd_X5_isRow 1 rfl) (tgt := 14) (by decide) (fun h1 => ?_) (fun h1 => ?_)
  refine V_iconst (pc := 14) hG (dk dd_X5_isRow 7 rfl) (v := 0) (by decide) ?_
  refine V_zretP (pc := 15) hG (dk dd_X5_isRow 8 rfl) (by decide) hR (Pi.mk ?_)
  rotate_left
  refine V_iload_n (pc := 4) hG (dk dd_X5_isRow 2 rfl) rfl ?_
  refine V_bipush (pc := 5) hG (dk dd_X5_isRow 3 rfl) (v := 8) (by decide) ?_
  refine V_icmp_ge (pc := 7) hG (dk dd_X5_isRow 4 rfl) (tgt := 14) (by decide) (fun h7 => ?_) (fun h7 => ?_)
  refine V_iconst (pc := 14) hG (dk dd_X5_isRow 7 rfl) (v := 0) (by decide) ?_
  refine V_zretP (pc := 15) hG (dk dd_X5_isRow 8 rfl) (by decide) hR (Pi.mk ?_)
  rotate_left
  refine V_iconst (pc := 10) hG (dk dd_X5_isRow 5 rfl) (v := 1) (by decide) ?_
  refine V_goto (pc := 11) hG (dk dd_X5_isRow 6 rfl) (tgt := 15) (by decide) ?_
  refine V_zretP (pc := 15) hG (dk dd_X5_isRow 8 rfl) (by decide) hR (Pi.mk ?_)
  rotate_left
  -- leaves: return@15; return@15; return@15
  · first | exact ⟨rfl, is1.t (by clear hG hR; grind)⟩ | exact ⟨rfl, is1.f (by clear hG hR; grind)⟩
  · first | exact ⟨rfl, is1.t (by clear hG hR; grind)⟩ | exact ⟨rfl, is1.f (by clear hG hR; grind)⟩
  · first | exact ⟨rfl, is1.t (by clear hG hR; grind)⟩ | exact ⟨rfl, is1.f (by clear hG hR; grind)⟩
theorem c_isLane {μ : Mem} {x : Int32} : CtP yX5_isLane cX5_isLane 2 (some .boolean) 0 [vR 1, vI x] μ (Pi (fun r μ' => μ' = μ ∧ is1 r (0 ≤ x ∧ x < 3))) := by
  refine CtP.go RX5 rfl pn_X5 (Nat.le_of_ble_eq_true rfl) (fun C hG hR => ?_)
  refine V_iload_n (pc := 0) hG (dk dd_X5_isLane 0 rfl) rfl ?_
  refine V_if_lt (pc := 1) hG (dk dd_X5_isLane 1 rfl) (tgt := 13) (by decide) (fun h1 => ?_) (fun h1 => ?_)
  refine V_iconst (pc := 13) hG (dk dd_X5_isLane 7 rfl) (v := 0) (by decide) ?_
  refine V_zretP (pc := 14) hG (dk dd_X5_isLane 8 rfl) (by decide) hR (Pi.mk ?_)
  rotate_left
  refine V_iload_n (pc := 4) hG (dk dd_X5_isLane 2 rfl) rfl ?_
  refine V_iconst (pc := 5) hG (dk dd_X5_isLane 3 rfl) (v := 3) (by decide) ?_
  refine V_icmp_ge (pc := 6) hG (dk dd_X5_isLane 4 rfl) (tgt := 13) (by decide) (fun h6 => ?_) (fun h6 => ?_)
  refine V_iconst (pc := 13) hG (dk dd_X5_isLane 7 rfl) (v := 0) (by decide) ?_
  refine V_zretP (pc := 14) hG (dk dd_X5_isLane 8 rfl) (by decide) hR (Pi.mk ?_)
  rotate_left
  refine V_iconst (pc := 9) hG (dk dd_X5_isLane 5 rfl) (v := 1) (by decide) ?_
  refine V_goto (pc := 10) hG (dk dd_X5_isLane 6 rfl) (tgt := 14) (by decide) ?_
  refine V_zretP (pc := 14) hG (dk dd_X5_isLane 8 rfl) (by decide) hR (Pi.mk ?_)
  rotate_left
  -- leaves: return@14; return@14; return@14
  · first | exact ⟨rfl, is1.t (by clear hG hR; grind)⟩ | exact ⟨rfl, is1.f (by clear hG hR; grind)⟩
  · first | exact ⟨rfl, is1.t (by clear hG hR; grind)⟩ | exact ⟨rfl, is1.f (by clear hG hR; grind)⟩
  · first | exact ⟨rfl, is1.t (by clear hG hR; grind)⟩ | exact ⟨rfl, is1.f (by clear hG hR; grind)⟩
theorem c_isMissing {μ : Mem} {x : Int32} {n : Nat} (hx : x = nI n) (hn : n < 8) : CtP yX5_isMissing cX5_isMissing 2 (some .boolean) 0 [vR 1, vI x] μ (Pi (fun r μ' => μ' = μ ∧ is1 r (μ 11 n = -1))) := by
  refine CtP.go RX5 rfl pn_X5 (Nat.le_of_ble_eq_true rfl) (fun C hG hR => ?_)
  have hr : vp_in x 8 := in_nI hx hn (by decide)
  have hc : x.toNatClampNeg = n := nI_cl hx (by omega)
  refine V_aload_n (pc := 0) hG (dk dd_X5_isMissing 0 rfl) rfl ?_
  refine V_getR (pc := 1) hG (dk dd_X5_isMissing 1 rfl) fl_X5_16 sh_1 rfl ?_
  refine V_iload_n (pc := 4) hG (dk dd_X5_isMissing 2 rfl) rfl ?_
  refine V_iald (pc := 5) hG (dk dd_X5_isMissing 3 rfl) sh_11 hr ?_
  refine V_iconst (pc := 6) hG (dk dd_X5_isMissing 4 rfl) (v := -1) (by decide) ?_
  refine V_icmp_ne (pc := 7) hG (dk dd_X5_isMissing 5 rfl) (tgt := 14) (by decide) (fun h7 => ?_) (fun h7 => ?_)
  refine V_iconst (pc := 14) hG (dk dd_X5_isMissing 8 rfl) (v := 0) (by decide) ?_
  refine V_zretP (pc := 15) hG (dk dd_X5_isMissing 9 rfl) (by decide) hR (Pi.mk ?_)
  rotate_left
  refine V_iconst (pc := 10) hG (dk dd_X5_isMissing 6 rfl) (v := 1) (by decide) ?_
  refine V_goto (pc := 11) hG (dk dd_X5_isMissing 7 rfl) (tgt := 15) (by decide) ?_
  refine V_zretP (pc := 15) hG (dk dd_X5_isMissing 9 rfl) (by decide) hR (Pi.mk ?_)
  rotate_left
  -- leaves: return@15; return@15
  · rw [hc] at h7; first | exact ⟨rfl, is1.t h7⟩ | exact ⟨rfl, is1.f h7⟩
  · rw [hc] at h7; first | exact ⟨rfl, is1.t h7⟩ | exact ⟨rfl, is1.f h7⟩
theorem c_areAlike {μ : Mem} {x y : Int32} {n m : Nat} (hx : x = nI n) (hn : n < 8) (hy : y = nI m) (hm : m < 8) : CtP yX5_areAlike cX5_areAlike 3 (some .boolean) 0 [vR 1, vI x, vI y] μ (Pi (fun r μ' => μ' = μ ∧ is1 r (μ 11 n = μ 11 m))) := by
  refine CtP.go RX5 rfl pn_X5 (Nat.le_of_ble_eq_true rfl) (fun C hG hR => ?_)
  have hr : vp_in x 8 := in_nI hx hn (by decide)
  have hc : x.toNatClampNeg = n := nI_cl hx (by omega)
  have hq : vp_in y 8 := in_nI hy hm (by decide)
  have hd : y.toNatClampNeg = m := nI_cl hy (by omega)
  refine V_aload_n (pc := 0) hG (dk dd_X5_areAlike 0 rfl) rfl ?_
  refine V_getR (pc := 1) hG (dk dd_X5_areAlike 1 rfl) fl_X5_16 sh_1 rfl ?_
  refine V_iload_n (pc := 4) hG (dk dd_X5_areAlike 2 rfl) rfl ?_
  refine V_iald (pc := 5) hG (dk dd_X5_areAlike 3 rfl) sh_11 hr ?_
  refine V_aload_n (pc := 6) hG (dk dd_X5_areAlike 4 rfl) rfl ?_
  refine V_getR (pc := 7) hG (dk dd_X5_areAlike 5 rfl) fl_X5_16 sh_1 rfl ?_
  refine V_iload_n (pc := 10) hG (dk dd_X5_areAlike 6 rfl) rfl ?_
  refine V_iald (pc := 11) hG (dk dd_X5_areAlike 7 rfl) sh_11 hq ?_
  refine V_icmp_ne (pc := 12) hG (dk dd_X5_areAlike 8 rfl) (tgt := 19) (by decide) (fun h12 => ?_) (fun h12 => ?_)
  refine V_iconst (pc := 19) hG (dk dd_X5_areAlike 11 rfl) (v := 0) (by decide) ?_
  refine V_zretP (pc := 20) hG (dk dd_X5_areAlike 12 rfl) (by decide) hR (Pi.mk ?_)
  rotate_left
  refine V_iconst (pc := 15) hG (dk dd_X5_areAlike 9 rfl) (v := 1) (by decide) ?_
  refine V_goto (pc := 16) hG (dk dd_X5_areAlike 10 rfl) (tgt := 20) (by decide) ?_
  refine V_zretP (pc := 20) hG (dk dd_X5_areAlike 12 rfl) (by decide) hR (Pi.mk ?_)
  rotate_left
  -- leaves: return@20; return@20
  · rw [hc, hd] at h12; first | exact ⟨rfl, is1.t h12⟩ | exact ⟨rfl, is1.f h12⟩
  · rw [hc, hd] at h12; first | exact ⟨rfl, is1.t h12⟩ | exact ⟨rfl, is1.f h12⟩
/-- what is found at a row: 1 missing, 2 no such place, 0 nothing -/
def lookN (μ : Mem) (n : Nat) (i k : Int32) : Int32 := if μ 11 n = -1 then 1 else if 0 ≤ i ∧ 0 ≤ k ∧ k ≤ μ 12 n ∧ i ≤ μ 12 n - k then 0 else 2
theorem c_lookedAt {μ : Mem} {x i k : Int32} {n : Nat} (hx : x = nI n) (hn : n < 8) : CtP yX5_lookedAt cX5_lookedAt 4 (some .int) 1 [vR 1, vI x, vI i, vI k] μ (Pi (fun r μ' => μ' = μ ∧ r = lookN μ n i k)) := by
  refine CtP.go RX5 rfl pn_X5 (Nat.le_of_ble_eq_true rfl) (fun C hG hR => ?_)
  have hr : vp_in x 8 := in_nI hx hn (by decide)
  have hc : x.toNatClampNeg = n := nI_cl hx (by omega)
  refine V_aload_n (pc := 0) hG (dk dd_X5_lookedAt 0 rfl) rfl ?_
  refine V_iload_n (pc := 1) hG (dk dd_X5_lookedAt 1 rfl) rfl ?_
  refine V_callVip (pc := 2) hG (dk dd_X5_lookedAt 2 rfl) ml_X5_23 mo_X5_isMissing sh_1 rfl (c_isMissing hx hn) (by decide) (by decide) rfl rfl rfl (fun x2 m2 p2 => ?_)
  refine V_if_eq (pc := 5) hG (dk dd_X5_lookedAt 3 rfl) (tgt := 10) (by decide) (fun h5 => ?_) (fun h5 => ?_)
  refine V_iload_n (pc := 10) hG (dk dd_X5_lookedAt 6 rfl) rfl ?_
  refine V_if_lt (pc := 11) hG (dk dd_X5_lookedAt 7 rfl) (tgt := 40) (by decide) (fun h11 => ?_) (fun h11 => ?_)
  refine V_iconst (pc := 40) hG (dk dd_X5_lookedAt 24 rfl) (v := 2) (by decide) ?_
  refine V_goto (pc := 41) hG (dk dd_X5_lookedAt 25 rfl) (tgt := 45) (by decide) ?_
  refine V_iretP (pc := 45) hG (dk dd_X5_lookedAt 27 rfl) hR (Pi.mk ?_)
  rotate_left
  refine V_iload_n (pc := 14) hG (dk dd_X5_lookedAt 8 rfl) rfl ?_
  refine V_if_lt (pc := 15) hG (dk dd_X5_lookedAt 9 rfl) (tgt := 40) (by decide) (fun h15 => ?_) (fun h15 => ?_)
  refine V_iconst (pc := 40) hG (dk dd_X5_lookedAt 24 rfl) (v := 2) (by decide) ?_
  refine V_goto (pc := 41) hG (dk dd_X5_lookedAt 25 rfl) (tgt := 45) (by decide) ?_
  refine V_iretP (pc := 45) hG (dk dd_X5_lookedAt 27 rfl) hR (Pi.mk ?_)
  rotate_left
  refine V_iload_n (pc := 18) hG (dk dd_X5_lookedAt 10 rfl) rfl ?_
  refine V_aload_n (pc := 19) hG (dk dd_X5_lookedAt 11 rfl) rfl ?_
  refine V_getR (pc := 20) hG (dk dd_X5_lookedAt 12 rfl) fl_X5_20 sh_1 rfl ?_
  refine V_iload_n (pc := 23) hG (dk dd_X5_lookedAt 13 rfl) rfl ?_
  refine V_iald (pc := 24) hG (dk dd_X5_lookedAt 14 rfl) sh_12 hr ?_
  refine V_icmp_gt (pc := 25) hG (dk dd_X5_lookedAt 15 rfl) (tgt := 40) (by decide) (fun h25 => ?_) (fun h25 => ?_)
  refine V_iconst (pc := 40) hG (dk dd_X5_lookedAt 24 rfl) (v := 2) (by decide) ?_
  refine V_goto (pc := 41) hG (dk dd_X5_lookedAt 25 rfl) (tgt := 45) (by decide) ?_
  refine V_iretP (pc := 45) hG (dk dd_X5_lookedAt 27 rfl) hR (Pi.mk ?_)
  rotate_left
  refine V_iload_n (pc := 28) hG (dk dd_X5_lookedAt 16 rfl) rfl ?_
  refine V_aload_n (pc := 29) hG (dk dd_X5_lookedAt 17 rfl) rfl ?_
  refine V_getR (pc := 30) hG (dk dd_X5_lookedAt 18 rfl) fl_X5_20 sh_1 rfl ?_
  refine V_iload_n (pc := 33) hG (dk dd_X5_lookedAt 19 rfl) rfl ?_
  refine V_iald (pc := 34) hG (dk dd_X5_lookedAt 20 rfl) sh_12 hr ?_
  refine V_iload_n (pc := 35) hG (dk dd_X5_lookedAt 21 rfl) rfl ?_
  refine V_isub (pc := 36) hG (dk dd_X5_lookedAt 22 rfl) ?_
  refine V_icmp_le (pc := 37) hG (dk dd_X5_lookedAt 23 rfl) (tgt := 44) (by decide) (fun h37 => ?_) (fun h37 => ?_)
  refine V_iconst (pc := 44) hG (dk dd_X5_lookedAt 26 rfl) (v := 0) (by decide) ?_
  refine V_iretP (pc := 45) hG (dk dd_X5_lookedAt 27 rfl) hR (Pi.mk ?_)
  rotate_left
  refine V_iconst (pc := 40) hG (dk dd_X5_lookedAt 24 rfl) (v := 2) (by decide) ?_
  refine V_goto (pc := 41) hG (dk dd_X5_lookedAt 25 rfl) (tgt := 45) (by decide) ?_
  refine V_iretP (pc := 45) hG (dk dd_X5_lookedAt 27 rfl) hR (Pi.mk ?_)
  rotate_left
  refine V_iconst (pc := 8) hG (dk dd_X5_lookedAt 4 rfl) (v := 1) (by decide) ?_
  refine V_iretP (pc := 9) hG (dk dd_X5_lookedAt 5 rfl) hR (Pi.mk ?_)
  rotate_left
  -- leaves: return@45; return@45; return@45; return@45; return@45; return@9
  · obtain ⟨rfl, p2⟩ := p2; have q := p2.no h5; refine ⟨rfl, ?_⟩; unfold lookN; clear hG hR; grind
  · obtain ⟨rfl, p2⟩ := p2; have q := p2.no h5; refine ⟨rfl, ?_⟩; unfold lookN; clear hG hR; grind
  · obtain ⟨rfl, p2⟩ := p2; have q := p2.no h5; refine ⟨rfl, ?_⟩; unfold lookN; rw [hc] at h25; clear hG hR; grind
  · obtain ⟨rfl, p2⟩ := p2; have q := p2.no h5; refine ⟨rfl, ?_⟩; unfold lookN; rw [hc] at h25 h37; clear hG hR; grind
  · obtain ⟨rfl, p2⟩ := p2; have q := p2.no h5; refine ⟨rfl, ?_⟩; unfold lookN; rw [hc] at h25 h37; clear hG hR; grind
  · obtain ⟨rfl, p2⟩ := p2; exact ⟨rfl, (if_pos (p2.yes h5)).symm⟩
theorem c_isFull {μ : Mem} : CtP yX6_isFull cX6_isFull 1 (some .boolean) 0 [vR 13] μ (Pi (fun r μ' => μ' = μ ∧ is1 r (120 ≤ μ 13 1))) := by
  refine CtP.go RX6 rfl pn_X6 (Nat.le_of_ble_eq_true rfl) (fun C hG hR => ?_)
  refine V_aload_n (pc := 0) hG (dk dd_X6_isFull 0 rfl) rfl ?_
  refine V_getI (pc := 1) hG (dk dd_X6_isFull 1 rfl) fl_X6_13 sh_13 rfl ?_
  refine V_bipush (pc := 4) hG (dk dd_X6_isFull 2 rfl) (v := 120) (by decide) ?_
  refine V_icmp_lt (pc := 6) hG (dk dd_X6_isFull 3 rfl) (tgt := 13) (by decide) (fun h6 => ?_) (fun h6 => ?_)
  refine V_iconst (pc := 13) hG (dk dd_X6_isFull 6 rfl) (v := 0) (by decide) ?_
  refine V_zretP (pc := 14) hG (dk dd_X6_isFull 7 rfl) (by decide) hR (Pi.mk ?_)
  rotate_left
  refine V_iconst (pc := 9) hG (dk dd_X6_isFull 4 rfl) (v := 1) (by decide) ?_
  refine V_goto (pc := 10) hG (dk dd_X6_isFull 5 rfl) (tgt := 14) (by decide) ?_
  refine V_zretP (pc := 14) hG (dk dd_X6_isFull 7 rfl) (by decide) hR (Pi.mk ?_)
  rotate_left
  -- leaves: return@14; return@14
  · first | exact ⟨rfl, is1.t (by clear hG hR; grind)⟩ | exact ⟨rfl, is1.f (by clear hG hR; grind)⟩
  · first | exact ⟨rfl, is1.t (by clear hG hR; grind)⟩ | exact ⟨rfl, is1.f (by clear hG hR; grind)⟩
theorem c_found {μ : Mem} {x : Int32} : CtP yX9_found cX9_found 2 (some .int) 0 [vR 0, vI x] μ (Pi (fun r μ' => μ' = setc μ 0 (upd (μ 0) 12 x) ∧ r = -1000010 - x)) := by
  refine CtP.go RX9 rfl pn_X9 (Nat.le_of_ble_eq_true rfl) (fun C hG hR => ?_)
  refine V_aload_n (pc := 0) hG (dk dd_X9_found 0 rfl) rfl ?_
  refine V_iload_n (pc := 1) hG (dk dd_X9_found 1 rfl) rfl ?_
  refine V_putI (pc := 2) hG (dk dd_X9_found 2 rfl) fl_X9_371 sh_0 rfl rfl ?_
  refine V_ldc_w (pc := 5) hG (dk dd_X9_found 3 rfl) kk_X9_374 ?_
  refine V_iload_n (pc := 8) hG (dk dd_X9_found 4 rfl) rfl ?_
  refine V_isub (pc := 9) hG (dk dd_X9_found 5 rfl) ?_
  refine V_iretP (pc := 10) hG (dk dd_X9_found 6 rfl) hR (Pi.mk ?_)
  rotate_left
  -- leaves: return@10
  · exact ⟨rfl, rfl⟩
theorem c_fine {μ : Mem} {x : Int32} : CtP yX9_fine cX9_fine 2 (some .int) 0 [vR 0, vI x] μ (Pi (fun r μ' => μ' = setc μ 0 (upd (μ 0) 12 0) ∧ r = x)) := by
  refine CtP.go RX9 rfl pn_X9 (Nat.le_of_ble_eq_true rfl) (fun C hG hR => ?_)
  refine V_aload_n (pc := 0) hG (dk dd_X9_fine 0 rfl) rfl ?_
  refine V_iconst (pc := 1) hG (dk dd_X9_fine 1 rfl) (v := 0) (by decide) ?_
  refine V_putI (pc := 2) hG (dk dd_X9_fine 2 rfl) fl_X9_371 sh_0 rfl rfl ?_
  refine V_iload_n (pc := 5) hG (dk dd_X9_fine 3 rfl) rfl ?_
  refine V_iretP (pc := 6) hG (dk dd_X9_fine 4 rfl) hR (Pi.mk ?_)
  rotate_left
  -- leaves: return@6
  · exact ⟨rfl, rfl⟩
theorem c_isToldLength {μ : Mem} {x : Int32} : CtP yX9_isToldLength cX9_isToldLength 1 (some .boolean) 0 [vI x] μ (Pi (fun r μ' => μ' = μ ∧ is1 r (1 ≤ x ∧ x ≤ 12))) := by
  refine CtP.go RX9 rfl pn_X9 (Nat.le_of_ble_eq_true rfl) (fun C hG hR => ?_)
  refine V_iload_n (pc := 0) hG (dk dd_X9_isToldLength 0 rfl) rfl ?_
  refine V_iconst (pc := 1) hG (dk dd_X9_isToldLength 1 rfl) (v := 1) (by decide) ?_
  refine V_icmp_lt (pc := 2) hG (dk dd_X9_isToldLength 2 rfl) (tgt := 15) (by decide) (fun h2 => ?_) (fun h2 => ?_)
  refine V_iconst (pc := 15) hG (dk dd_X9_isToldLength 8 rfl) (v := 0) (by decide) ?_
  refine V_zretP (pc := 16) hG (dk dd_X9_isToldLength 9 rfl) (by decide) hR (Pi.mk ?_)
  rotate_left
  refine V_iload_n (pc := 5) hG (dk dd_X9_isToldLength 3 rfl) rfl ?_
  refine V_bipush (pc := 6) hG (dk dd_X9_isToldLength 4 rfl) (v := 12) (by decide) ?_
  refine V_icmp_gt (pc := 8) hG (dk dd_X9_isToldLength 5 rfl) (tgt := 15) (by decide) (fun h8 => ?_) (fun h8 => ?_)
  refine V_iconst (pc := 15) hG (dk dd_X9_isToldLength 8 rfl) (v := 0) (by decide) ?_
  refine V_zretP (pc := 16) hG (dk dd_X9_isToldLength 9 rfl) (by decide) hR (Pi.mk ?_)
  rotate_left
  refine V_iconst (pc := 11) hG (dk dd_X9_isToldLength 6 rfl) (v := 1) (by decide) ?_
  refine V_goto (pc := 12) hG (dk dd_X9_isToldLength 7 rfl) (tgt := 16) (by decide) ?_
  refine V_zretP (pc := 16) hG (dk dd_X9_isToldLength 9 rfl) (by decide) hR (Pi.mk ?_)
  rotate_left
  -- leaves: return@16; return@16; return@16
  · first | exact ⟨rfl, is1.t (by clear hG hR; grind)⟩ | exact ⟨rfl, is1.f (by clear hG hR; grind)⟩
  · first | exact ⟨rfl, is1.t (by clear hG hR; grind)⟩ | exact ⟨rfl, is1.f (by clear hG hR; grind)⟩
  · first | exact ⟨rfl, is1.t (by clear hG hR; grind)⟩ | exact ⟨rfl, is1.f (by clear hG hR; grind)⟩
theorem c_isBehind {μ : Mem} {x : Int32} : CtP yX9_isBehind cX9_isBehind 1 (some .boolean) 0 [vI x] μ (Pi (fun r μ' => μ' = μ ∧ is1 r (0 ≤ x ∧ x ≤ 8))) := by
  refine CtP.go RX9 rfl pn_X9 (Nat.le_of_ble_eq_true rfl) (fun C hG hR => ?_)
  refine V_iload_n (pc := 0) hG (dk dd_X9_isBehind 0 rfl) rfl ?_
  refine V_if_lt (pc := 1) hG (dk dd_X9_isBehind 1 rfl) (tgt := 14) (by decide) (fun h1 => ?_) (fun h1 => ?_)
  refine V_iconst (pc := 14) hG (dk dd_X9_isBehind 7 rfl) (v := 0) (by decide) ?_
  refine V_zretP (pc := 15) hG (dk dd_X9_isBehind 8 rfl) (by decide) hR (Pi.mk ?_)
  rotate_left
  refine V_iload_n (pc := 4) hG (dk dd_X9_isBehind 2 rfl) rfl ?_
  refine V_bipush (pc := 5) hG (dk dd_X9_isBehind 3 rfl) (v := 8) (by decide) ?_
  refine V_icmp_gt (pc := 7) hG (dk dd_X9_isBehind 4 rfl) (tgt := 14) (by decide) (fun h7 => ?_) (fun h7 => ?_)
  refine V_iconst (pc := 14) hG (dk dd_X9_isBehind 7 rfl) (v := 0) (by decide) ?_
  refine V_zretP (pc := 15) hG (dk dd_X9_isBehind 8 rfl) (by decide) hR (Pi.mk ?_)
  rotate_left
  refine V_iconst (pc := 10) hG (dk dd_X9_isBehind 5 rfl) (v := 1) (by decide) ?_
  refine V_goto (pc := 11) hG (dk dd_X9_isBehind 6 rfl) (tgt := 15) (by decide) ?_
  refine V_zretP (pc := 15) hG (dk dd_X9_isBehind 8 rfl) (by decide) hR (Pi.mk ?_)
  rotate_left
  -- leaves: return@15; return@15; return@15
  · first | exact ⟨rfl, is1.t (by clear hG hR; grind)⟩ | exact ⟨rfl, is1.f (by clear hG hR; grind)⟩
  · first | exact ⟨rfl, is1.t (by clear hG hR; grind)⟩ | exact ⟨rfl, is1.f (by clear hG hR; grind)⟩
  · first | exact ⟨rfl, is1.t (by clear hG hR; grind)⟩ | exact ⟨rfl, is1.f (by clear hG hR; grind)⟩
theorem c_isOneOfTwo {μ : Mem} {x : Int32} : CtP yX9_isOneOfTwo cX9_isOneOfTwo 1 (some .boolean) 0 [vI x] μ (Pi (fun r μ' => μ' = μ ∧ is1 r (x = 0 ∨ x = 1))) := by
  refine CtP.go RX9 rfl pn_X9 (Nat.le_of_ble_eq_true rfl) (fun C hG hR => ?_)
  refine V_iload_n (pc := 0) hG (dk dd_X9_isOneOfTwo 0 rfl) rfl ?_
  refine V_if_eq (pc := 1) hG (dk dd_X9_isOneOfTwo 1 rfl) (tgt := 9) (by decide) (fun h1 => ?_) (fun h1 => ?_)
  refine V_iconst (pc := 9) hG (dk dd_X9_isOneOfTwo 5 rfl) (v := 1) (by decide) ?_
  refine V_goto (pc := 10) hG (dk dd_X9_isOneOfTwo 6 rfl) (tgt := 14) (by decide) ?_
  refine V_zretP (pc := 14) hG (dk dd_X9_isOneOfTwo 8 rfl) (by decide) hR (Pi.mk ?_)
  rotate_left
  refine V_iload_n (pc := 4) hG (dk dd_X9_isOneOfTwo 2 rfl) rfl ?_
  refine V_iconst (pc := 5) hG (dk dd_X9_isOneOfTwo 3 rfl) (v := 1) (by decide) ?_
  refine V_icmp_ne (pc := 6) hG (dk dd_X9_isOneOfTwo 4 rfl) (tgt := 13) (by decide) (fun h6 => ?_) (fun h6 => ?_)
  refine V_iconst (pc := 13) hG (dk dd_X9_isOneOfTwo 7 rfl) (v := 0) (by decide) ?_
  refine V_zretP (pc := 14) hG (dk dd_X9_isOneOfTwo 8 rfl) (by decide) hR (Pi.mk ?_)
  rotate_left
  refine V_iconst (pc := 9) hG (dk dd_X9_isOneOfTwo 5 rfl) (v := 1) (by decide) ?_
  refine V_goto (pc := 10) hG (dk dd_X9_isOneOfTwo 6 rfl) (tgt := 14) (by decide) ?_
  refine V_zretP (pc := 14) hG (dk dd_X9_isOneOfTwo 8 rfl) (by decide) hR (Pi.mk ?_)
  rotate_left
  -- leaves: return@14; return@14; return@14
  · first | exact ⟨rfl, is1.t (by clear hG hR; grind)⟩ | exact ⟨rfl, is1.f (by clear hG hR; grind)⟩
  · first | exact ⟨rfl, is1.t (by clear hG hR; grind)⟩ | exact ⟨rfl, is1.f (by clear hG hR; grind)⟩
  · first | exact ⟨rfl, is1.t (by clear hG hR; grind)⟩ | exact ⟨rfl, is1.f (by clear hG hR; grind)⟩
theorem c_isImage {μ : Mem} {x : Int32} : CtP yX9_isImage cX9_isImage 1 (some .boolean) 0 [vI x] μ (Pi (fun r μ' => μ' = μ ∧ is1 r (0 ≤ x ∧ x < 2))) := by
  refine CtP.go RX9 rfl pn_X9 (Nat.le_of_ble_eq_true rfl) (fun C hG hR => ?_)
  refine V_iload_n (pc := 0) hG (dk dd_X9_isImage 0 rfl) rfl ?_
  refine V_if_lt (pc := 1) hG (dk dd_X9_isImage 1 rfl) (tgt := 13) (by decide) (fun h1 => ?_) (fun h1 => ?_)
  refine V_iconst (pc := 13) hG (dk dd_X9_isImage 7 rfl) (v := 0) (by decide) ?_
  refine V_zretP (pc := 14) hG (dk dd_X9_isImage 8 rfl) (by decide) hR (Pi.mk ?_)
  rotate_left
  refine V_iload_n (pc := 4) hG (dk dd_X9_isImage 2 rfl) rfl ?_
  refine V_iconst (pc := 5) hG (dk dd_X9_isImage 3 rfl) (v := 2) (by decide) ?_
  refine V_icmp_ge (pc := 6) hG (dk dd_X9_isImage 4 rfl) (tgt := 13) (by decide) (fun h6 => ?_) (fun h6 => ?_)
  refine V_iconst (pc := 13) hG (dk dd_X9_isImage 7 rfl) (v := 0) (by decide) ?_
  refine V_zretP (pc := 14) hG (dk dd_X9_isImage 8 rfl) (by decide) hR (Pi.mk ?_)
  rotate_left
  refine V_iconst (pc := 9) hG (dk dd_X9_isImage 5 rfl) (v := 1) (by decide) ?_
  refine V_goto (pc := 10) hG (dk dd_X9_isImage 6 rfl) (tgt := 14) (by decide) ?_
  refine V_zretP (pc := 14) hG (dk dd_X9_isImage 8 rfl) (by decide) hR (Pi.mk ?_)
  rotate_left
  -- leaves: return@14; return@14; return@14
  · first | exact ⟨rfl, is1.t (by clear hG hR; grind)⟩ | exact ⟨rfl, is1.f (by clear hG hR; grind)⟩
  · first | exact ⟨rfl, is1.t (by clear hG hR; grind)⟩ | exact ⟨rfl, is1.f (by clear hG hR; grind)⟩
  · first | exact ⟨rfl, is1.t (by clear hG hR; grind)⟩ | exact ⟨rfl, is1.f (by clear hG hR; grind)⟩
theorem c_kindAbove {μ : Mem} {x : Int32} : CtP yX9_kindAbove cX9_kindAbove 1 (some .int) 0 [vI x] μ (Pi (fun r μ' => μ' = μ ∧ r = (if x = 2 ∨ x = 3 then 1 else if x = 5 then 4 else 0))) := by
  refine CtP.go RX9 rfl pn_X9 (Nat.le_of_ble_eq_true rfl) (fun C hG hR => ?_)
  refine V_iload_n (pc := 0) hG (dk dd_X9_kindAbove 0 rfl) rfl ?_
  refine V_tsw (pc := 1) hG (dk dd_X9_kindAbove 1 rfl) (cs := [(2, 32), (3, 34), (4, 38), (5, 36)]) (td := 38) (by decide +kernel) ?_
  refine And.intro (fun h1_2 => ?_) (fun h1_2 => ?_)
  refine V_iconst (pc := 32) hG (dk dd_X9_kindAbove 2 rfl) (v := 1) (by decide) ?_
  refine V_iretP (pc := 33) hG (dk dd_X9_kindAbove 3 rfl) hR (Pi.mk ?_)
  rotate_left
  refine And.intro (fun h1_3 => ?_) (fun h1_3 => ?_)
  refine V_iconst (pc := 34) hG (dk dd_X9_kindAbove 4 rfl) (v := 1) (by decide) ?_
  refine V_iretP (pc := 35) hG (dk dd_X9_kindAbove 5 rfl) hR (Pi.mk ?_)
  rotate_left
  refine And.intro (fun h1_4 => ?_) (fun h1_4 => ?_)
  refine V_iconst (pc := 38) hG (dk dd_X9_kindAbove 8 rfl) (v := 0) (by decide) ?_
  refine V_iretP (pc := 39) hG (dk dd_X9_kindAbove 9 rfl) hR (Pi.mk ?_)
  rotate_left
  refine And.intro (fun h1_5 => ?_) (fun h1_5 => ?_)
  refine V_iconst (pc := 36) hG (dk dd_X9_kindAbove 6 rfl) (v := 4) (by decide) ?_
  refine V_iretP (pc := 37) hG (dk dd_X9_kindAbove 7 rfl) hR (Pi.mk ?_)
  rotate_left
  show V _ _ _ _ _
  refine V_iconst (pc := 38) hG (dk dd_X9_kindAbove 8 rfl) (v := 0) (by decide) ?_
  refine V_iretP (pc := 39) hG (dk dd_X9_kindAbove 9 rfl) hR (Pi.mk ?_)
  rotate_left
  -- leaves: return@33; return@35; return@39; return@37; return@39
  · exact ⟨rfl, by clear hG hR; grind⟩
  · exact ⟨rfl, by clear hG hR; grind⟩
  · exact ⟨rfl, by clear hG hR; grind⟩
  · exact ⟨rfl, by clear hG hR; grind⟩
  · exact ⟨rfl, by clear hG hR; grind⟩
theorem c_isAlso {μ : Mem} {k w : Int32} : CtP yX9_isAlso cX9_isAlso 2 (some .boolean) 1 [vI k, vI w] μ (Pi (fun r μ' => μ' = μ ∧ is1 r (w = 0 ∨ w = k ∨ w = (if k = 2 ∨ k = 3 then 1 else if k = 5 then 4 else 0)))) := by
  refine CtP.go RX9 rfl pn_X9 (Nat.le_of_ble_eq_true rfl) (fun C hG hR => ?_)
  refine V_iload_n (pc := 0) hG (dk dd_X9_isAlso 0 rfl) rfl ?_
  refine V_if_eq (pc := 1) hG (dk dd_X9_isAlso 1 rfl) (tgt := 17) (by decide) (fun h1 => ?_) (fun h1 => ?_)
  refine V_iconst (pc := 17) hG (dk dd_X9_isAlso 9 rfl) (v := 1) (by decide) ?_
  refine V_goto (pc := 18) hG (dk dd_X9_isAlso 10 rfl) (tgt := 22) (by decide) ?_
  refine V_zretP (pc := 22) hG (dk dd_X9_isAlso 12 rfl) (by decide) hR (Pi.mk ?_)
  rotate_left
  refine V_iload_n (pc := 4) hG (dk dd_X9_isAlso 2 rfl) rfl ?_
  refine V_iload_n (pc := 5) hG (dk dd_X9_isAlso 3 rfl) rfl ?_
  refine V_icmp_eq (pc := 6) hG (dk dd_X9_isAlso 4 rfl) (tgt := 17) (by decide) (fun h6 => ?_) (fun h6 => ?_)
  refine V_iconst (pc := 17) hG (dk dd_X9_isAlso 9 rfl) (v := 1) (by decide) ?_
  refine V_goto (pc := 18) hG (dk dd_X9_isAlso 10 rfl) (tgt := 22) (by decide) ?_
  refine V_zretP (pc := 22) hG (dk dd_X9_isAlso 12 rfl) (by decide) hR (Pi.mk ?_)
  rotate_left
  refine V_iload_n (pc := 9) hG (dk dd_X9_isAlso 5 rfl) rfl ?_
  refine V_iload_n (pc := 10) hG (dk dd_X9_isAlso 6 rfl) rfl ?_
  refine V_callSip (pc := 11) hG (dk dd_X9_isAlso 7 rfl) ml_X9_378 mo_X9_kindAbove c_kindAbove (by decide) (by decide) rfl rfl rfl (fun x11 m11 p11 => ?_)
  refine V_icmp_ne (pc := 14) hG (dk dd_X9_isAlso 8 rfl) (tgt := 21) (by decide) (fun h14 => ?_) (fun h14 => ?_)
  refine V_iconst (pc := 21) hG (dk dd_X9_isAlso 11 rfl) (v := 0) (by decide) ?_
  refine V_zretP (pc := 22) hG (dk dd_X9_isAlso 12 rfl) (by decide) hR (Pi.mk ?_)
  rotate_left
  refine V_iconst (pc := 17) hG (dk dd_X9_isAlso 9 rfl) (v := 1) (by decide) ?_
  refine V_goto (pc := 18) hG (dk dd_X9_isAlso 10 rfl) (tgt := 22) (by decide) ?_
  refine V_zretP (pc := 22) hG (dk dd_X9_isAlso 12 rfl) (by decide) hR (Pi.mk ?_)
  rotate_left
  -- leaves: return@22; return@22; return@22; return@22
  · exact ⟨rfl, is1.t (Or.inl h1)⟩
  · exact ⟨rfl, is1.t (Or.inr (Or.inl h6))⟩
  · obtain ⟨rfl, rfl⟩ := p11; exact ⟨rfl, is1.f (fun q => q.elim h1 (fun q => q.elim h6 h14))⟩
  · obtain ⟨rfl, rfl⟩ := p11; exact ⟨rfl, is1.t (Or.inr (Or.inr h14))⟩
