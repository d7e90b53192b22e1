/-! ===== the model: its small functions ===== -/
theorem lg_lt0 (x y : Int64) : (lg_cmp x y < 0) ↔ x < y := by
  have := lg_cmp_ge x y
  constructor
  · intro h; exact Int64.not_le.mp (fun q => by have := this.mpr q; clear this; grind)
  · intro h; exact Int32.not_le.mp (fun q => Int64.not_le.mpr h (this.mp q))
theorem lg_gt0 (x y : Int64) : (0 < lg_cmp x y) ↔ y < x := by
  unfold lg_cmp
  by_cases h : x > y
  · rw [if_pos h]; exact ⟨fun _ => h, fun _ => by decide⟩
  · rw [if_neg h]
    refine ⟨fun z => ?_, fun z => absurd z h⟩
    split at z <;> exact absurd z (by decide)
theorem i64_le {x y : Int32} : x.toInt64 ≤ y.toInt64 ↔ x ≤ y := by
  rw [Int64.le_iff_toInt_le, Int32.le_iff_toInt_le, Int32.toInt_toInt64, Int32.toInt_toInt64]
theorem m_in {μ : Mem} {v lo hi : Int64} : CtP yX10_in cX10_in 6 (some .boolean) 0 [vL v, vL lo, vL hi] μ (Pi (fun r μ' => μ' = μ ∧ is1 r (lo ≤ v ∧ v ≤ hi))) := by
  refine CtP.go RX10 rfl pn_X10 (Nat.le_of_ble_eq_true rfl) (fun C hG hR => ?_)
  refine V_lload_n (pc := 0) hG (dk dd_X10_in 0 rfl) rfl ?_
  refine V_lload_n (pc := 1) hG (dk dd_X10_in 1 rfl) rfl ?_
  refine V_lcmp (pc := 2) hG (dk dd_X10_in 2 rfl) ?_
  refine V_if_lt (pc := 3) hG (dk dd_X10_in 3 rfl) (tgt := 17) (by decide) (fun h3 => ?_) (fun h3 => ?_)
  refine V_iconst (pc := 17) hG (dk dd_X10_in 10 rfl) (v := 0) (by decide) ?_
  refine V_zretP (pc := 18) hG (dk dd_X10_in 11 rfl) (by decide) hR (Pi.mk ?_)
  rotate_left
  refine V_lload_n (pc := 6) hG (dk dd_X10_in 4 rfl) rfl ?_
  refine V_lload (pc := 7) hG (dk dd_X10_in 5 rfl) rfl ?_
  refine V_lcmp (pc := 9) hG (dk dd_X10_in 6 rfl) ?_
  refine V_if_gt (pc := 10) hG (dk dd_X10_in 7 rfl) (tgt := 17) (by decide) (fun h10 => ?_) (fun h10 => ?_)
  refine V_iconst (pc := 17) hG (dk dd_X10_in 10 rfl) (v := 0) (by decide) ?_
  refine V_zretP (pc := 18) hG (dk dd_X10_in 11 rfl) (by decide) hR (Pi.mk ?_)
  rotate_left
  refine V_iconst (pc := 13) hG (dk dd_X10_in 8 rfl) (v := 1) (by decide) ?_
  refine V_goto (pc := 14) hG (dk dd_X10_in 9 rfl) (tgt := 18) (by decide) ?_
  refine V_zretP (pc := 18) hG (dk dd_X10_in 11 rfl) (by decide) hR (Pi.mk ?_)
  rotate_left
  -- leaves: return@18; return@18; return@18
  · exact ⟨rfl, is1.f (fun q => Int64.not_le.mpr ((lg_lt0 _ _).mp h3) q.1)⟩
  · exact ⟨rfl, is1.f (fun q => Int64.not_le.mpr ((lg_gt0 _ _).mp h10) q.2)⟩
  · exact ⟨rfl, is1.t ⟨Int64.not_lt.mp (fun q => h3 ((lg_lt0 _ _).mpr q)), Int64.not_lt.mp (fun q => h10 ((lg_gt0 _ _).mpr q))⟩⟩
/-- between two ints -/
theorem m_inI {μ : Mem} {v lo hi : Int32} {a b c : Int64} (h1 : a = v.toInt64) (h2 : b = lo.toInt64) (h3 : c = hi.toInt64) : CtP yX10_in cX10_in 6 (some .boolean) 0 [vL a, vL b, vL c] μ (Pi (fun r μ' => μ' = μ ∧ is1 r (lo ≤ v ∧ v ≤ hi))) := by
  have := m_in (μ := μ) (v := a) (lo := b) (hi := c)
  rw [h1, h2, h3, i64_le, i64_le] at this
  rw [h1, h2, h3]; exact this
theorem m_isRow {μ : Mem} {x : Int32} : CtP yX10_isRow cX10_isRow 1 (some .boolean) 1 [vI x] μ (Pi (fun r μ' => μ' = μ ∧ is1 r (0 ≤ x ∧ x ≤ 7))) := by
  refine CtP.go RX10 rfl pn_X10 (Nat.le_of_ble_eq_true rfl) (fun C hG hR => ?_)
  refine V_iload_n (pc := 0) hG (dk dd_X10_isRow 0 rfl) rfl ?_
  refine V_i2l (pc := 1) hG (dk dd_X10_isRow 1 rfl) ?_
  refine V_lconst (pc := 2) hG (dk dd_X10_isRow 2 rfl) (v := 0) (by decide) ?_
  refine V_ldc2_w (pc := 3) hG (dk dd_X10_isRow 3 rfl) kk_X10_70 ?_
  refine V_callSip (pc := 6) hG (dk dd_X10_isRow 4 rfl) ml_X10_72 mo_X10_in (m_inI (v := x) (lo := 0) (hi := 7) rfl rfl rfl) (by decide) (by decide) rfl rfl rfl (fun x6 m6 p6 => ?_)
  refine V_zretP (pc := 9) hG (dk dd_X10_isRow 5 rfl) p6.2.bool hR (Pi.mk ?_)
  rotate_left
  -- leaves: return@9
  · exact p6
theorem m_finding {μ : Mem} {x : Int32} : CtP yX10_finding cX10_finding 2 (some .int) 0 [vR 67, vI x] μ (Pi (fun r μ' => μ' = setc μ 67 (upd (μ 67) 1 x) ∧ r = -1000010 - x)) := by
  refine CtP.go RX10 rfl pn_X10 (Nat.le_of_ble_eq_true rfl) (fun C hG hR => ?_)
  refine V_aload_n (pc := 0) hG (dk dd_X10_finding 0 rfl) rfl ?_
  refine V_iload_n (pc := 1) hG (dk dd_X10_finding 1 rfl) rfl ?_
  refine V_putI (pc := 2) hG (dk dd_X10_finding 2 rfl) fl_X10_66 sh_67 rfl rfl ?_
  refine V_ldc (pc := 5) hG (dk dd_X10_finding 3 rfl) kk_X10_69 ?_
  refine V_iload_n (pc := 7) hG (dk dd_X10_finding 4 rfl) rfl ?_
  refine V_isub (pc := 8) hG (dk dd_X10_finding 5 rfl) ?_
  refine V_iretP (pc := 9) hG (dk dd_X10_finding 6 rfl) hR (Pi.mk ?_)
  rotate_left
  -- leaves: return@9
  · exact ⟨rfl, rfl⟩
theorem ix3 {h v : Nat} : (8 : Int32) + 3 * nI h + nI v = nI (8 + 3 * h + v) := by rw [show (3 : Int32) = nI 3 from rfl, show (8 : Int32) = nI 8 from rfl, pk_mul, nI_add, nI_add]
theorem ix4 {h v : Nat} : (26 : Int32) + 4 * nI h + nI v = nI (26 + 4 * h + v) := by rw [show (4 : Int32) = nI 4 from rfl, show (26 : Int32) = nI 26 from rfl, pk_mul, nI_add, nI_add]
theorem m_of {μ : Mem} {a : Nat} (ha : Sh[a]? = some (.inr (0, 46, []))) {x y : Int32} {h v : Nat} (hx : x = nI h) (hh : h < 6) (hy : y = nI v) (hv : v < 3) : CtP yX10_of cX10_of 3 (some .int) 0 [vR a, vI x, vI y] μ (Pi (fun r μ' => μ' = μ ∧ r = μ a (8 + 3 * h + v))) := by
  refine CtP.go RX10 rfl pn_X10 (Nat.le_of_ble_eq_true rfl) (fun C hG hR => ?_)
  refine V_aload_n (pc := 0) hG (dk dd_X10_of 0 rfl) rfl ?_
  refine V_bipush (pc := 1) hG (dk dd_X10_of 1 rfl) (v := 8) (by decide) ?_
  refine V_iconst (pc := 3) hG (dk dd_X10_of 2 rfl) (v := 3) (by decide) ?_
  refine V_iload_n (pc := 4) hG (dk dd_X10_of 3 rfl) rfl ?_
  refine V_imul (pc := 5) hG (dk dd_X10_of 4 rfl) ?_
  refine V_iadd (pc := 6) hG (dk dd_X10_of 5 rfl) ?_
  refine V_iload_n (pc := 7) hG (dk dd_X10_of 6 rfl) rfl ?_
  refine V_iadd (pc := 8) hG (dk dd_X10_of 7 rfl) ?_
  refine V_iald (pc := 9) hG (dk dd_X10_of 8 rfl) ha (by rw [hx, hy, ix3]; exact vp_in_nI (by omega) (by decide)) ?_
  refine V_iretP (pc := 10) hG (dk dd_X10_of 9 rfl) hR (Pi.mk ?_)
  rotate_left
  -- leaves: return@10
  · exact ⟨rfl, by rw [hx, hy, ix3, nI_clamp (by omega)]⟩
theorem m_its {μ : Mem} {a : Nat} (ha : Sh[a]? = some (.inr (0, 46, []))) {x y : Int32} {h v : Nat} (hx : x = nI h) (hh : h < 5) (hy : y = nI v) (hv : v < 4) : CtP yX10_its cX10_its 3 (some .int) 0 [vR a, vI x, vI y] μ (Pi (fun r μ' => μ' = μ ∧ r = μ a (26 + 4 * h + v))) := by
  refine CtP.go RX10 rfl pn_X10 (Nat.le_of_ble_eq_true rfl) (fun C hG hR => ?_)
  refine V_aload_n (pc := 0) hG (dk dd_X10_its 0 rfl) rfl ?_
  refine V_bipush (pc := 1) hG (dk dd_X10_its 1 rfl) (v := 26) (by decide) ?_
  refine V_iconst (pc := 3) hG (dk dd_X10_its 2 rfl) (v := 4) (by decide) ?_
  refine V_iload_n (pc := 4) hG (dk dd_X10_its 3 rfl) rfl ?_
  refine V_imul (pc := 5) hG (dk dd_X10_its 4 rfl) ?_
  refine V_iadd (pc := 6) hG (dk dd_X10_its 5 rfl) ?_
  refine V_iload_n (pc := 7) hG (dk dd_X10_its 6 rfl) rfl ?_
  refine V_iadd (pc := 8) hG (dk dd_X10_its 7 rfl) ?_
  refine V_iald (pc := 9) hG (dk dd_X10_its 8 rfl) ha (by rw [hx, hy, ix4]; exact vp_in_nI (by omega) (by decide)) ?_
  refine V_iretP (pc := 10) hG (dk dd_X10_its 9 rfl) hR (Pi.mk ?_)
  rotate_left
  -- leaves: return@10
  · exact ⟨rfl, by rw [hx, hy, ix4, nI_clamp (by omega)]⟩
theorem m_has {μ : Mem} {x y : Int32} {D K : Nat} (hx : x = nI D) (hD : D < 256) (hy : y = nI K) (hK : K < 8) : CtP yX10_has cX10_has 2 (some .boolean) 0 [vI x, vI y] μ (Pi (fun r μ' => μ' = μ ∧ is1 r (D.testBit K = true))) := by
  refine CtP.go RX10 rfl pn_X10 (Nat.le_of_ble_eq_true rfl) (fun C hG hR => ?_)
  refine V_iload_n (pc := 0) hG (dk dd_X10_has 0 rfl) rfl ?_
  refine V_iload_n (pc := 1) hG (dk dd_X10_has 1 rfl) rfl ?_
  refine V_ishr (pc := 2) hG (dk dd_X10_has 2 rfl) ?_
  refine V_iconst (pc := 3) hG (dk dd_X10_has 3 rfl) (v := 1) (by decide) ?_
  refine V_iand (pc := 4) hG (dk dd_X10_has 4 rfl) ?_
  refine V_iconst (pc := 5) hG (dk dd_X10_has 5 rfl) (v := 1) (by decide) ?_
  refine V_icmp_ne (pc := 6) hG (dk dd_X10_has 6 rfl) (tgt := 13) (by decide) (fun h6 => ?_) (fun h6 => ?_)
  refine V_iconst (pc := 13) hG (dk dd_X10_has 9 rfl) (v := 0) (by decide) ?_
  refine V_zretP (pc := 14) hG (dk dd_X10_has 10 rfl) (by decide) hR (Pi.mk ?_)
  rotate_left
  refine V_iconst (pc := 9) hG (dk dd_X10_has 7 rfl) (v := 1) (by decide) ?_
  refine V_goto (pc := 10) hG (dk dd_X10_has 8 rfl) (tgt := 14) (by decide) ?_
  refine V_zretP (pc := 14) hG (dk dd_X10_has 10 rfl) (by decide) hR (Pi.mk ?_)
  rotate_left
  -- leaves: return@14; return@14
  · rw [hx, hy] at h6; first | exact ⟨rfl, is1.t ((q_t2 hD hK).mp h6)⟩ | exact ⟨rfl, is1.f (fun q => h6 ((q_t2 hD hK).mpr q))⟩
  · rw [hx, hy] at h6; first | exact ⟨rfl, is1.t ((q_t2 hD hK).mp h6)⟩ | exact ⟨rfl, is1.f (fun q => h6 ((q_t2 hD hK).mpr q))⟩
theorem m_bits {μ : Mem} {x : Int32} {D : Nat} (hx : x = nI D) (hD : D < 256) : CtP yX10_bits cX10_bits 3 (some .int) 0 [vI x] μ (Pi (fun r μ' => μ' = μ ∧ r = nI (bitsN D))) := by
  refine CtP.go RX10 rfl pn_X10 (Nat.le_of_ble_eq_true rfl) (fun C hG hR => ?_)
  have loop : ∀ k i, i + k = 8 → V C 4 [(0, vI x), (1, vI (nI (bitN D i))), (2, vI (nI i))] [] μ := by
    intro k
    induction k with
    | zero =>
      intro i hi
      refine V_iload_n (pc := 4) hG (dk dd_X10_bits 4 rfl) rfl ?_
      refine V_bipush (pc := 5) hG (dk dd_X10_bits 5 rfl) (v := 8) (by decide) ?_
      refine V_icmp_ge (pc := 7) hG (dk dd_X10_bits 6 rfl) (tgt := 24) (by decide) (fun h7 => ?_) (fun h7 => ?_)
      refine V_iload_n (pc := 24) hG (dk dd_X10_bits 17 rfl) rfl ?_
      refine V_iretP (pc := 25) hG (dk dd_X10_bits 18 rfl) hR (Pi.mk ?_)
      rotate_left
      rotate_left
      -- leaves: return@25; stop 10
      · exact ⟨rfl, by rw [show i = 8 by omega]; rfl⟩
      · exfalso; have := nle_i (a := 8) h7 (by omega) (by omega); omega
    | succ k ih =>
      intro i hi
      have hI := ih (i + 1) (by omega)
      rw [nI_succ, bitN_s, ← nI_add, ← q_has D hD i (by omega), ← hx] at hI
      refine V_iload_n (pc := 4) hG (dk dd_X10_bits 4 rfl) rfl ?_
      refine V_bipush (pc := 5) hG (dk dd_X10_bits 5 rfl) (v := 8) (by decide) ?_
      refine V_icmp_ge (pc := 7) hG (dk dd_X10_bits 6 rfl) (tgt := 24) (by decide) (fun h7 => ?_) (fun h7 => ?_)
      rotate_left
      refine V_iload_n (pc := 10) hG (dk dd_X10_bits 7 rfl) rfl ?_
      refine V_iload_n (pc := 11) hG (dk dd_X10_bits 8 rfl) rfl ?_
      refine V_iload_n (pc := 12) hG (dk dd_X10_bits 9 rfl) rfl ?_
      refine V_ishr (pc := 13) hG (dk dd_X10_bits 10 rfl) ?_
      refine V_iconst (pc := 14) hG (dk dd_X10_bits 11 rfl) (v := 1) (by decide) ?_
      refine V_iand (pc := 15) hG (dk dd_X10_bits 12 rfl) ?_
      refine V_iadd (pc := 16) hG (dk dd_X10_bits 13 rfl) ?_
      refine V_istore_n (pc := 17) hG (dk dd_X10_bits 14 rfl) (by decide) (lv' := [(0, _), (1, _), (2, _)]) rfl ?_
      refine V_iinc (pc := 18) hG (dk dd_X10_bits 15 rfl) rfl (v := _ + 1) rfl (by decide) (lv' := [(0, _), (1, _), (2, _)]) rfl ?_
      refine V_goto (pc := 21) hG (dk dd_X10_bits 16 rfl) (tgt := 4) (by decide) ?_
      rotate_left
      -- leaves: stop 24; stop 4
      · exfalso; have := le_i (a := 8) h7 (by omega) (by omega); omega
      · exact hI
  refine V_iconst (pc := 0) hG (dk dd_X10_bits 0 rfl) (v := 0) (by decide) ?_
  refine V_istore_n (pc := 1) hG (dk dd_X10_bits 1 rfl) (by decide) (lv' := [(0, _), (1, _)]) rfl ?_
  refine V_iconst (pc := 2) hG (dk dd_X10_bits 2 rfl) (v := 0) (by decide) ?_
  refine V_istore_n (pc := 3) hG (dk dd_X10_bits 3 rfl) (by decide) (lv' := [(0, _), (1, _), (2, _)]) rfl ?_
  rotate_left
  -- leaves: stop 4
  · exact loop 8 0 (by omega)
theorem kap_h {f : Nat → Int32} {x i : Nat} (h1 : 1 ≤ x) (h3 : x ≤ 3) : kap f x i = f (7 + 3 * i + x) := by unfold kap; rw [if_neg (by omega), if_pos (by omega)]
theorem kap_c {f : Nat → Int32} {x i : Nat} (h4 : 4 ≤ x) : kap f x i = f (22 + 4 * i + x) := by unfold kap; rw [if_neg (by omega), if_neg (by omega)]
theorem kap_0 {f : Nat → Int32} {i : Nat} : kap f 0 i = f (pmN i) := by unfold kap; rw [if_pos rfl]
set_option maxHeartbeats 1000000 in
theorem m_hummed {μ : Mem} {a : Nat} (ha : Sh[a]? = some (.inr (0, 46, []))) {α : Al} (hA : Abs (kap (μ a)) α) (hv : Val α) {x d : Int32} {h D : Nat} (hx : x = nI h) (hh : h < α 0 6) (hd : d = nI D) (hD : D < 2 ^ α 0 0) :
    CtP yX10_hummed cX10_hummed 5 (some .int) 1 [vR a, vI x, vI d] μ (Pi (fun r μ' => μ' = μ ∧ r = nI (humN α h D))) := by
  refine CtP.go RX10 rfl pn_X10 (Nat.le_of_ble_eq_true rfl) (fun C hG hR => ?_)
  have hH := hv.H
  have ht := hv.t
  have hk := hv.h hh
  obtain ⟨k1, k5, kK, kO⟩ := hk
  have hD8 := hv.lt hD
  have h6 : h < 6 := by omega
  have e0 : μ a 0 = nI (α 0 0) := hA.1 0 (by decide)
  have e1 : μ a (8 + 3 * h + 0) = nI (α 1 h) := by have := hA.2.1 1 h (by decide) (by decide) hh; rw [kap_h (by decide) (by decide)] at this; rw [show 8 + 3 * h + 0 = 7 + 3 * h + 1 by omega]; exact this
  have e2 : μ a (8 + 3 * h + 1) = nI (α 2 h) := by have := hA.2.1 2 h (by decide) (by decide) hh; rw [kap_h (by decide) (by decide)] at this; rw [show 8 + 3 * h + 1 = 7 + 3 * h + 2 by omega]; exact this
  have e3 : μ a (8 + 3 * h + 2) = nI (α 3 h) := by have := hA.2.1 3 h (by decide) (by decide) hh; rw [kap_h (by decide) (by decide)] at this; rw [show 8 + 3 * h + 2 = 7 + 3 * h + 3 by omega]; exact this
  have hKK : α 2 h < 8 := by omega
  have hOO : α 3 h < 8 := by omega
  have hor : D ||| 2 ^ α 2 h < 256 := or_lt (t := 8) hD8 hKK
  have hcl : clr D (α 3 h) < 256 := Nat.lt_of_le_of_lt (clr_le _ _) hD8
  have hbb : bhN (α 0 0) (α 2 h) < 8 := by have := bhN_lt kK; omega
  have r0 : vp_in (0 : Int32) 46 := vp_in_nI (n := 0) (by decide) (by decide)
  subst hd
  refine V_iconst (pc := 0) hG (dk dd_X10_hummed 0 rfl) (v := 1) (by decide) ?_
  refine V_aload_n (pc := 1) hG (dk dd_X10_hummed 1 rfl) rfl ?_
  refine V_iload_n (pc := 2) hG (dk dd_X10_hummed 2 rfl) rfl ?_
  refine V_iconst (pc := 3) hG (dk dd_X10_hummed 3 rfl) (v := 1) (by decide) ?_
  refine V_callSip (pc := 4) hG (dk dd_X10_hummed 4 rfl) ml_X10_177 mo_X10_of (m_of ha hx h6 (v := 1) rfl (by decide)) (by decide) (by decide) rfl rfl rfl (fun x4 m4 p4 => ?_)
  refine V_ishl (pc := 7) hG (dk dd_X10_hummed 5 rfl) ?_
  refine V_istore_n (pc := 8) hG (dk dd_X10_hummed 6 rfl) (by decide) (lv' := [(0, _), (1, _), (2, _), (3, _)]) rfl ?_
  refine V_aload_n (pc := 9) hG (dk dd_X10_hummed 7 rfl) rfl ?_
  refine V_iload_n (pc := 10) hG (dk dd_X10_hummed 8 rfl) rfl ?_
  refine V_iconst (pc := 11) hG (dk dd_X10_hummed 9 rfl) (v := 2) (by decide) ?_
  refine V_callSip (pc := 12) hG (dk dd_X10_hummed 10 rfl) ml_X10_177 mo_X10_of (m_of ha hx h6 (v := 2) rfl (by decide)) (by decide) (by decide) rfl rfl rfl (fun x12 m12 p12 => ?_)
  refine V_istore (pc := 15) hG (dk dd_X10_hummed 11 rfl) (by decide) (lv' := [(0, _), (1, _), (2, _), (3, _), (4, _)]) rfl ?_
  refine V_aload_n (pc := 17) hG (dk dd_X10_hummed 12 rfl) rfl ?_
  refine V_iload_n (pc := 18) hG (dk dd_X10_hummed 13 rfl) rfl ?_
  refine V_iconst (pc := 19) hG (dk dd_X10_hummed 14 rfl) (v := 0) (by decide) ?_
  refine V_callSip (pc := 20) hG (dk dd_X10_hummed 15 rfl) ml_X10_177 mo_X10_of (m_of ha hx h6 (v := 0) rfl (by decide)) (by decide) (by decide) rfl rfl rfl (fun x20 m20 p20 => ?_)
  refine V_tsw (pc := 23) hG (dk dd_X10_hummed 16 rfl) (cs := [(1, 52), (2, 56), (3, 75), (4, 92)]) (td := 101) (by decide +kernel) ?_
  refine And.intro (fun h23_1 => ?_) (fun h23_1 => ?_)
  refine V_iload_n (pc := 52) hG (dk dd_X10_hummed 17 rfl) rfl ?_
  refine V_iload_n (pc := 53) hG (dk dd_X10_hummed 18 rfl) rfl ?_
  refine V_ior (pc := 54) hG (dk dd_X10_hummed 19 rfl) ?_
  refine V_iretP (pc := 55) hG (dk dd_X10_hummed 20 rfl) hR (Pi.mk ?_)
  rotate_left
  refine And.intro (fun h23_2 => ?_) (fun h23_2 => ?_)
  refine V_iload_n (pc := 56) hG (dk dd_X10_hummed 21 rfl) rfl ?_
  refine V_iload_n (pc := 57) hG (dk dd_X10_hummed 22 rfl) rfl ?_
  refine V_ior (pc := 58) hG (dk dd_X10_hummed 23 rfl) ?_
  refine V_iconst (pc := 59) hG (dk dd_X10_hummed 24 rfl) (v := 1) (by decide) ?_
  refine V_aload_n (pc := 60) hG (dk dd_X10_hummed 25 rfl) rfl ?_
  refine V_iload_n (pc := 61) hG (dk dd_X10_hummed 26 rfl) rfl ?_
  refine V_iconst (pc := 62) hG (dk dd_X10_hummed 27 rfl) (v := 1) (by decide) ?_
  refine V_callSip (pc := 63) hG (dk dd_X10_hummed 28 rfl) ml_X10_177 mo_X10_of (m_of ha hx h6 (v := 1) rfl (by decide)) (by decide) (by decide) rfl rfl rfl (fun x63 m63 p63 => ?_)
  refine V_iconst (pc := 66) hG (dk dd_X10_hummed 29 rfl) (v := 1) (by decide) ?_
  refine V_iadd (pc := 67) hG (dk dd_X10_hummed 30 rfl) ?_
  refine V_aload_n (pc := 68) hG (dk dd_X10_hummed 31 rfl) rfl ?_
  refine V_iconst (pc := 69) hG (dk dd_X10_hummed 32 rfl) (v := 0) (by decide) ?_
  refine V_iald (pc := 70) hG (dk dd_X10_hummed 33 rfl) ha r0 ?_
  refine V_irem (pc := 71) hG (dk dd_X10_hummed 34 rfl) ?_ ?_
  rotate_left
  refine V_ishl (pc := 72) hG (dk dd_X10_hummed 35 rfl) ?_
  refine V_ior (pc := 73) hG (dk dd_X10_hummed 36 rfl) ?_
  refine V_iretP (pc := 74) hG (dk dd_X10_hummed 37 rfl) hR (Pi.mk ?_)
  rotate_left
  refine And.intro (fun h23_3 => ?_) (fun h23_3 => ?_)
  refine V_iload_n (pc := 75) hG (dk dd_X10_hummed 38 rfl) rfl ?_
  refine V_iload (pc := 76) hG (dk dd_X10_hummed 39 rfl) rfl ?_
  refine V_callSip (pc := 78) hG (dk dd_X10_hummed 40 rfl) ml_X10_181 mo_X10_has (m_has (K := α 3 h) rfl hD8 ?_ hOO) (by decide) (by decide) rfl rfl rfl (fun x78 m78 p78 => ?_)
  rotate_left
  refine V_if_eq (pc := 81) hG (dk dd_X10_hummed 41 rfl) (tgt := 90) (by decide) (fun h81 => ?_) (fun h81 => ?_)
  refine V_iload_n (pc := 90) hG (dk dd_X10_hummed 46 rfl) rfl ?_
  refine V_iretP (pc := 91) hG (dk dd_X10_hummed 47 rfl) hR (Pi.mk ?_)
  rotate_left
  refine V_iload_n (pc := 84) hG (dk dd_X10_hummed 42 rfl) rfl ?_
  refine V_iload_n (pc := 85) hG (dk dd_X10_hummed 43 rfl) rfl ?_
  refine V_ior (pc := 86) hG (dk dd_X10_hummed 44 rfl) ?_
  refine V_goto (pc := 87) hG (dk dd_X10_hummed 45 rfl) (tgt := 91) (by decide) ?_
  refine V_iretP (pc := 91) hG (dk dd_X10_hummed 47 rfl) hR (Pi.mk ?_)
  rotate_left
  refine And.intro (fun h23_4 => ?_) (fun h23_4 => ?_)
  refine V_iload_n (pc := 92) hG (dk dd_X10_hummed 48 rfl) rfl ?_
  refine V_iconst (pc := 93) hG (dk dd_X10_hummed 49 rfl) (v := 1) (by decide) ?_
  refine V_iload (pc := 94) hG (dk dd_X10_hummed 50 rfl) rfl ?_
  refine V_ishl (pc := 96) hG (dk dd_X10_hummed 51 rfl) ?_
  refine V_iconst (pc := 97) hG (dk dd_X10_hummed 52 rfl) (v := -1) (by decide) ?_
  refine V_ixor (pc := 98) hG (dk dd_X10_hummed 53 rfl) ?_
  refine V_iand (pc := 99) hG (dk dd_X10_hummed 54 rfl) ?_
  refine V_iretP (pc := 100) hG (dk dd_X10_hummed 55 rfl) hR (Pi.mk ?_)
  rotate_left
  show V _ _ _ _ _
  refine V_iload_n (pc := 101) hG (dk dd_X10_hummed 56 rfl) rfl ?_
  refine V_iload (pc := 102) hG (dk dd_X10_hummed 57 rfl) rfl ?_
  refine V_callSip (pc := 104) hG (dk dd_X10_hummed 58 rfl) ml_X10_181 mo_X10_has (m_has (K := α 3 h) rfl hD8 ?_ hOO) (by decide) (by decide) rfl rfl rfl (fun x104 m104 p104 => ?_)
  rotate_left
  refine V_if_eq (pc := 107) hG (dk dd_X10_hummed 59 rfl) (tgt := 123) (by decide) (fun h107 => ?_) (fun h107 => ?_)
  refine V_iload_n (pc := 123) hG (dk dd_X10_hummed 70 rfl) rfl ?_
  refine V_iretP (pc := 124) hG (dk dd_X10_hummed 71 rfl) hR (Pi.mk ?_)
  rotate_left
  refine V_iload_n (pc := 110) hG (dk dd_X10_hummed 60 rfl) rfl ?_
  refine V_iconst (pc := 111) hG (dk dd_X10_hummed 61 rfl) (v := 1) (by decide) ?_
  refine V_iload (pc := 112) hG (dk dd_X10_hummed 62 rfl) rfl ?_
  refine V_ishl (pc := 114) hG (dk dd_X10_hummed 63 rfl) ?_
  refine V_iconst (pc := 115) hG (dk dd_X10_hummed 64 rfl) (v := -1) (by decide) ?_
  refine V_ixor (pc := 116) hG (dk dd_X10_hummed 65 rfl) ?_
  refine V_iand (pc := 117) hG (dk dd_X10_hummed 66 rfl) ?_
  refine V_iload_n (pc := 118) hG (dk dd_X10_hummed 67 rfl) rfl ?_
  refine V_ior (pc := 119) hG (dk dd_X10_hummed 68 rfl) ?_
  refine V_goto (pc := 120) hG (dk dd_X10_hummed 69 rfl) (tgt := 124) (by decide) ?_
  refine V_iretP (pc := 124) hG (dk dd_X10_hummed 71 rfl) hR (Pi.mk ?_)
  rotate_left
  -- leaves: return@55; irem@71 ≠ 0; return@74; call has@78 0; return@91; return@91; return@100; call has@104 0; return@124; return@124
  all_goals (obtain ⟨rfl, rfl⟩ := p4; obtain ⟨rfl, rfl⟩ := p12; obtain ⟨rfl, rfl⟩ := p20)
  · have q : α 1 h = 1 := (nI_eq (a := α 1 h) (b := 1) (by omega) (by decide)).mp (e1.symm.trans h23_1)
    refine ⟨rfl, ?_⟩
    unfold humN humB
    rw [if_pos q, e2]; exact q_or D hD8 _ hKK
  · rw [show Int32.toNatClampNeg 0 = 0 from rfl, p63.1, e0]; intro z; have := (nI_eq (a := α 0 0) (b := 0) (by omega) (by decide)).mp z; omega
  · have q : α 1 h = 2 := (nI_eq (a := α 1 h) (b := 2) (by omega) (by decide)).mp (e1.symm.trans h23_2)
    obtain ⟨rfl, rfl⟩ := p63
    refine ⟨rfl, ?_⟩
    unfold humN humB
    rw [if_neg (by omega), if_pos q]; rw [show Int32.toNatClampNeg 0 = 0 from rfl, bI_eq, bI_eq, e0, e2, q_beh _ (by omega) _ kK, q_or D hD8 _ hKK]; exact q_or _ hor _ hbb
  · exact e3
  · have q : α 1 h = 3 := (nI_eq (a := α 1 h) (b := 3) (by omega) (by decide)).mp (e1.symm.trans h23_3)
    obtain ⟨rfl, z⟩ := p78
    refine ⟨rfl, ?_⟩
    unfold humN humB
    rw [if_neg (by omega), if_neg (by omega), if_pos q]; rw [if_neg (z.no h81)]
  · have q : α 1 h = 3 := (nI_eq (a := α 1 h) (b := 3) (by omega) (by decide)).mp (e1.symm.trans h23_3)
    obtain ⟨rfl, z⟩ := p78
    refine ⟨rfl, ?_⟩
    unfold humN humB
    rw [if_neg (by omega), if_neg (by omega), if_pos q]; rw [if_pos (z.yes h81), e2]; exact q_or D hD8 _ hKK
  · have q : α 1 h = 4 := (nI_eq (a := α 1 h) (b := 4) (by omega) (by decide)).mp (e1.symm.trans h23_4)
    refine ⟨rfl, ?_⟩
    unfold humN humB
    rw [if_neg (by omega), if_neg (by omega), if_neg (by omega), if_pos q, e3]; exact q_clr D hD8 _ hOO
  · exact e3
  · have q1 : ¬ α 1 h = 1 := fun q => h23_1 (by rw [e1, q]; rfl)
    have q2 : ¬ α 1 h = 2 := fun q => h23_2 (by rw [e1, q]; rfl)
    have q3 : ¬ α 1 h = 3 := fun q => h23_3 (by rw [e1, q]; rfl)
    have q4 : ¬ α 1 h = 4 := fun q => h23_4 (by rw [e1, q]; rfl)
    obtain ⟨rfl, z⟩ := p104
    refine ⟨rfl, ?_⟩
    unfold humN humB
    rw [if_neg q1, if_neg q2, if_neg q3, if_neg q4]; rw [if_neg (z.no h107)]
  · have q1 : ¬ α 1 h = 1 := fun q => h23_1 (by rw [e1, q]; rfl)
    have q2 : ¬ α 1 h = 2 := fun q => h23_2 (by rw [e1, q]; rfl)
    have q3 : ¬ α 1 h = 3 := fun q => h23_3 (by rw [e1, q]; rfl)
    have q4 : ¬ α 1 h = 4 := fun q => h23_4 (by rw [e1, q]; rfl)
    obtain ⟨rfl, z⟩ := p104
    refine ⟨rfl, ?_⟩
    unfold humN humB
    rw [if_neg q1, if_neg q2, if_neg q3, if_neg q4]; rw [if_pos (z.yes h107), bI_eq, bI_eq, e2, e3, q_clr D hD8 _ hOO]; exact q_or _ hcl _ hKK
theorem q_w1 : ∀ n, n < 8 → ∀ x, x < 2 ^ n → x ||| 2 ^ n < 2 ^ (n + 1) := by decide +kernel
theorem q_ws {w D : Nat} : ∀ n, n ≤ 8 → wset w D n < 2 ^ n ∧ bitsN (wset w D n) = wcnt w D n ∧ wcnt w D n ≤ n
  | 0, _ => ⟨Nat.zero_lt_one, bits0, Nat.le_refl 0⟩
  | n + 1, h => by
    obtain ⟨h1, h2, h3⟩ := q_ws (w := w) (D := D) n (by omega)
    rw [wset_s, wcnt_s]
    split
    · exact ⟨q_w1 n (by omega) _ h1, by rw [q_bits1 n (by omega) _ h1, h2], by omega⟩
    · exact ⟨Nat.lt_trans h1 (Nat.pow_lt_pow_right (by decide) (by omega)), h2, by omega⟩
theorem m_worn {μ : Mem} {a : Nat} (ha : Sh[a]? = some (.inr (0, 46, []))) {w : Nat} (hw : μ a 1 = nI w) (hw8 : w < 256) {x : Int32} {D : Nat} (hx : x = nI D) (hD : D < 256) :
    CtP yX10_worn cX10_worn 4 (some .int) 1 [vR a, vI x] μ (Pi (fun r μ' => μ' = μ ∧ r = nI (wornN w D))) := by
  refine CtP.go RX10 rfl pn_X10 (Nat.le_of_ble_eq_true rfl) (fun C hG hR => ?_)
  have r1 : vp_in (1 : Int32) 46 := vp_in_nI (n := 1) (by decide) (by decide)
  have loop : ∀ k i, i + k = 8 → V C 4 [(0, vR a), (1, vI x), (2, vI (nI (wset w D i))), (3, vI (nI i))] [] μ := by
    intro k
    induction k with
    | zero =>
      intro i hi
      refine V_iload_n (pc := 4) hG (dk dd_X10_worn 4 rfl) rfl ?_
      refine V_bipush (pc := 5) hG (dk dd_X10_worn 5 rfl) (v := 8) (by decide) ?_
      refine V_icmp_ge (pc := 7) hG (dk dd_X10_worn 6 rfl) (tgt := 44) (by decide) (fun h7 => ?_) (fun h7 => ?_)
      refine V_iload_n (pc := 44) hG (dk dd_X10_worn 27 rfl) rfl ?_
      refine V_iretP (pc := 45) hG (dk dd_X10_worn 28 rfl) hR (Pi.mk ?_)
      rotate_left
      rotate_left
      -- leaves: return@45; stop 10
      · exact ⟨rfl, by rw [show i = 8 by omega]; rfl⟩
      · exfalso; have := nle_i (a := 8) h7 (by omega) (by omega); omega
    | succ k ih =>
      intro i hi
      have hI := ih (i + 1) (by omega)
      obtain ⟨w1, w2, w4⟩ := q_ws (w := w) (D := D) i (by omega)
      have w3 : wset w D i < 256 := Nat.lt_of_lt_of_le w1 (Nat.pow_le_pow_right (n := 2) (by decide) (show i ≤ 8 by omega))
      rw [nI_succ] at hI
      refine V_iload_n (pc := 4) hG (dk dd_X10_worn 4 rfl) rfl ?_
      refine V_bipush (pc := 5) hG (dk dd_X10_worn 5 rfl) (v := 8) (by decide) ?_
      refine V_icmp_ge (pc := 7) hG (dk dd_X10_worn 6 rfl) (tgt := 44) (by decide) (fun h7 => ?_) (fun h7 => ?_)
      rotate_left
      refine V_iload_n (pc := 10) hG (dk dd_X10_worn 7 rfl) rfl ?_
      refine V_iload_n (pc := 11) hG (dk dd_X10_worn 8 rfl) rfl ?_
      refine V_iload_n (pc := 12) hG (dk dd_X10_worn 9 rfl) rfl ?_
      refine V_callSip (pc := 13) hG (dk dd_X10_worn 10 rfl) ml_X10_181 mo_X10_has (m_has hx hD (K := i) rfl (by omega)) (by decide) (by decide) rfl rfl rfl (fun x13 m13 p13 => ?_)
      refine V_if_eq (pc := 16) hG (dk dd_X10_worn 11 rfl) (tgt := 35) (by decide) (fun h16 => ?_) (fun h16 => ?_)
      refine V_iconst (pc := 35) hG (dk dd_X10_worn 22 rfl) (v := 0) (by decide) ?_
      refine V_ior (pc := 36) hG (dk dd_X10_worn 23 rfl) ?_
      refine V_istore_n (pc := 37) hG (dk dd_X10_worn 24 rfl) (by decide) (lv' := [(0, _), (1, _), (2, _), (3, _)]) rfl ?_
      refine V_iinc (pc := 38) hG (dk dd_X10_worn 25 rfl) rfl (v := _ + 1) rfl (by decide) (lv' := [(0, _), (1, _), (2, _), (3, _)]) rfl ?_
      refine V_goto (pc := 41) hG (dk dd_X10_worn 26 rfl) (tgt := 4) (by decide) ?_
      rotate_left
      refine V_iload_n (pc := 19) hG (dk dd_X10_worn 12 rfl) rfl ?_
      refine V_callSip (pc := 20) hG (dk dd_X10_worn 13 rfl) ml_X10_185 mo_X10_bits (m_bits (D := wset w D i) rfl w3) (by decide) (by decide) rfl rfl rfl (fun x20 m20 p20 => ?_)
      refine V_aload_n (pc := 23) hG (dk dd_X10_worn 14 rfl) rfl ?_
      refine V_iconst (pc := 24) hG (dk dd_X10_worn 15 rfl) (v := 1) (by decide) ?_
      refine V_iald (pc := 25) hG (dk dd_X10_worn 16 rfl) ha r1 ?_
      refine V_icmp_ge (pc := 26) hG (dk dd_X10_worn 17 rfl) (tgt := 35) (by decide) (fun h26 => ?_) (fun h26 => ?_)
      refine V_iconst (pc := 35) hG (dk dd_X10_worn 22 rfl) (v := 0) (by decide) ?_
      refine V_ior (pc := 36) hG (dk dd_X10_worn 23 rfl) ?_
      refine V_istore_n (pc := 37) hG (dk dd_X10_worn 24 rfl) (by decide) (lv' := [(0, _), (1, _), (2, _), (3, _)]) rfl ?_
      refine V_iinc (pc := 38) hG (dk dd_X10_worn 25 rfl) rfl (v := _ + 1) rfl (by decide) (lv' := [(0, _), (1, _), (2, _), (3, _)]) rfl ?_
      refine V_goto (pc := 41) hG (dk dd_X10_worn 26 rfl) (tgt := 4) (by decide) ?_
      rotate_left
      refine V_iconst (pc := 29) hG (dk dd_X10_worn 18 rfl) (v := 1) (by decide) ?_
      refine V_iload_n (pc := 30) hG (dk dd_X10_worn 19 rfl) rfl ?_
      refine V_ishl (pc := 31) hG (dk dd_X10_worn 20 rfl) ?_
      refine V_goto (pc := 32) hG (dk dd_X10_worn 21 rfl) (tgt := 36) (by decide) ?_
      refine V_ior (pc := 36) hG (dk dd_X10_worn 23 rfl) ?_
      refine V_istore_n (pc := 37) hG (dk dd_X10_worn 24 rfl) (by decide) (lv' := [(0, _), (1, _), (2, _), (3, _)]) rfl ?_
      refine V_iinc (pc := 38) hG (dk dd_X10_worn 25 rfl) rfl (v := _ + 1) rfl (by decide) (lv' := [(0, _), (1, _), (2, _), (3, _)]) rfl ?_
      refine V_goto (pc := 41) hG (dk dd_X10_worn 26 rfl) (tgt := 4) (by decide) ?_
      rotate_left
      -- leaves: stop 44; stop 4; stop 4; stop 4
      · exfalso; have := le_i (a := 8) h7 (by omega) (by omega); omega
      · obtain ⟨rfl, z⟩ := p13
        rw [wset_s, if_neg (fun q => z.no h16 q.1)] at hI
        rw [Int32.or_zero]; exact hI
      · obtain ⟨rfl, z⟩ := p13
        obtain ⟨rfl, rfl⟩ := p20
        rw [wset_s, if_neg (fun q => by have := le_i (a := w) (hw ▸ h26) (by omega) (by omega); omega)] at hI
        rw [Int32.or_zero]; exact hI
      · obtain ⟨rfl, z⟩ := p13
        obtain ⟨rfl, rfl⟩ := p20
        rw [wset_s, if_pos ⟨z.yes h16, by have := nle_i (a := w) (hw ▸ h26) (by omega) (by omega); omega⟩, ← q_or _ w3 _ (by omega)] at hI
        exact hI
  refine V_iconst (pc := 0) hG (dk dd_X10_worn 0 rfl) (v := 0) (by decide) ?_
  refine V_istore_n (pc := 1) hG (dk dd_X10_worn 1 rfl) (by decide) (lv' := [(0, _), (1, _), (2, _)]) rfl ?_
  refine V_iconst (pc := 2) hG (dk dd_X10_worn 2 rfl) (v := 0) (by decide) ?_
  refine V_istore_n (pc := 3) hG (dk dd_X10_worn 3 rfl) (by decide) (lv' := [(0, _), (1, _), (2, _), (3, _)]) rfl ?_
  rotate_left
  -- leaves: stop 4
  · exact loop 8 0 (by omega)
theorem m_e4 {μ : Mem} {a : Nat} {α : Al} (hA : Abs (kap (μ a)) α) {c : Nat} (hc : c < α 0 7) {v : Nat} (hv : v < 4) : μ a (26 + 4 * c + v) = nI (α (4 + v) c) := by
  have := hA.2.2 (4 + v) c (by omega) (by omega) hc
  rw [kap_c (by omega)] at this
  rw [show 26 + 4 * c + v = 22 + 4 * c + (4 + v) by omega]; exact this
theorem m_verdict {μ : Mem} {a : Nat} (ha : Sh[a]? = some (.inr (0, 46, []))) {α : Al} (hA : Abs (kap (μ a)) α) (hv : Val α) {x d : Int32} {c D : Nat} (hx : x = nI c) (hc : c < α 0 7) (hd : d = nI D) (hD : D < 2 ^ α 0 0) :
    CtP yX10_verdict cX10_verdict 4 (some .int) 2 [vR a, vI x, vI d] μ (Pi (fun r μ' => μ' = μ ∧ r = nI (verN α c D))) := by
  refine CtP.go RX10 rfl pn_X10 (Nat.le_of_ble_eq_true rfl) (fun C hG hR => ?_)
  have hC := hv.C
  have ht := hv.t
  obtain ⟨k4, k5, k6, k7⟩ := hv.c hc
  have e4 : μ a (26 + 4 * c + 0) = nI (α 4 c) := m_e4 hA hc (by decide)
  have e5 : μ a (26 + 4 * c + 1) = nI (α 5 c) := m_e4 hA hc (by decide)
  have e6 : μ a (26 + 4 * c + 2) = nI (α 6 c) := m_e4 hA hc (by decide)
  have hE := hv.lt (humN_lt hv k4 hD)
  refine V_aload_n (pc := 0) hG (dk dd_X10_verdict 0 rfl) rfl ?_
  refine V_aload_n (pc := 1) hG (dk dd_X10_verdict 1 rfl) rfl ?_
  refine V_iload_n (pc := 2) hG (dk dd_X10_verdict 2 rfl) rfl ?_
  refine V_iconst (pc := 3) hG (dk dd_X10_verdict 3 rfl) (v := 0) (by decide) ?_
  refine V_callSip (pc := 4) hG (dk dd_X10_verdict 4 rfl) ml_X10_188 mo_X10_its (m_its ha hx (by omega) (v := 0) rfl (by decide)) (by decide) (by decide) rfl rfl rfl (fun x4 m4 p4 => ?_)
  refine V_iload_n (pc := 7) hG (dk dd_X10_verdict 5 rfl) rfl ?_
  refine V_callSip (pc := 8) hG (dk dd_X10_verdict 6 rfl) ml_X10_191 mo_X10_hummed (m_hummed ha (α := α) (by rw [p4.1]; exact hA) hv (p4.2.trans e4) k4 hd hD) (by decide) (by decide) rfl rfl rfl (fun x8 m8 p8 => ?_)
  refine V_istore_n (pc := 11) hG (dk dd_X10_verdict 7 rfl) (by decide) (lv' := [(0, _), (1, _), (2, _), (3, _)]) rfl ?_
  refine V_iload_n (pc := 12) hG (dk dd_X10_verdict 8 rfl) rfl ?_
  refine V_aload_n (pc := 13) hG (dk dd_X10_verdict 9 rfl) rfl ?_
  refine V_iload_n (pc := 14) hG (dk dd_X10_verdict 10 rfl) rfl ?_
  refine V_iconst (pc := 15) hG (dk dd_X10_verdict 11 rfl) (v := 1) (by decide) ?_
  refine V_callSip (pc := 16) hG (dk dd_X10_verdict 12 rfl) ml_X10_188 mo_X10_its (m_its ha hx (by omega) (v := 1) rfl (by decide)) (by decide) (by decide) rfl rfl rfl (fun x16 m16 p16 => ?_)
  refine V_callSip (pc := 19) hG (dk dd_X10_verdict 13 rfl) ml_X10_181 mo_X10_has (m_has p8.2 hE (K := α 5 c) (by rw [p16.2, p8.1, p4.1]; exact e5) (by omega)) (by decide) (by decide) rfl rfl rfl (fun x19 m19 p19 => ?_)
  refine V_if_eq (pc := 22) hG (dk dd_X10_verdict 14 rfl) (tgt := 29) (by decide) (fun h22 => ?_) (fun h22 => ?_)
  refine V_iload_n (pc := 29) hG (dk dd_X10_verdict 17 rfl) rfl ?_
  refine V_aload_n (pc := 30) hG (dk dd_X10_verdict 18 rfl) rfl ?_
  refine V_iload_n (pc := 31) hG (dk dd_X10_verdict 19 rfl) rfl ?_
  refine V_iconst (pc := 32) hG (dk dd_X10_verdict 20 rfl) (v := 2) (by decide) ?_
  refine V_callSip (pc := 33) hG (dk dd_X10_verdict 21 rfl) ml_X10_188 mo_X10_its (m_its ha hx (by omega) (v := 2) rfl (by decide)) (by decide) (by decide) rfl rfl rfl (fun x33 m33 p33 => ?_)
  refine V_callSip (pc := 36) hG (dk dd_X10_verdict 22 rfl) ml_X10_181 mo_X10_has (m_has p8.2 hE (K := α 6 c) (by rw [p33.2, p19.1, p16.1, p8.1, p4.1]; exact e6) (by omega)) (by decide) (by decide) rfl rfl rfl (fun x36 m36 p36 => ?_)
  refine V_if_eq (pc := 39) hG (dk dd_X10_verdict 23 rfl) (tgt := 46) (by decide) (fun h39 => ?_) (fun h39 => ?_)
  refine V_iconst (pc := 46) hG (dk dd_X10_verdict 26 rfl) (v := 0) (by decide) ?_
  refine V_iretP (pc := 47) hG (dk dd_X10_verdict 27 rfl) hR (Pi.mk ?_)
  rotate_left
  refine V_iconst (pc := 42) hG (dk dd_X10_verdict 24 rfl) (v := 1) (by decide) ?_
  refine V_goto (pc := 43) hG (dk dd_X10_verdict 25 rfl) (tgt := 47) (by decide) ?_
  refine V_iretP (pc := 47) hG (dk dd_X10_verdict 27 rfl) hR (Pi.mk ?_)
  rotate_left
  refine V_iconst (pc := 25) hG (dk dd_X10_verdict 15 rfl) (v := 2) (by decide) ?_
  refine V_goto (pc := 26) hG (dk dd_X10_verdict 16 rfl) (tgt := 47) (by decide) ?_
  refine V_iretP (pc := 47) hG (dk dd_X10_verdict 27 rfl) hR (Pi.mk ?_)
  rotate_left
  -- leaves: return@47; return@47; return@47
  · refine ⟨by rw [p36.1, p33.1, p19.1, p16.1, p8.1, p4.1], ?_⟩
    unfold verN judN
    rw [if_neg (p19.2.no h22), if_neg (p36.2.no h39)]; rfl
  · refine ⟨by rw [p36.1, p33.1, p19.1, p16.1, p8.1, p4.1], ?_⟩
    unfold verN judN
    rw [if_neg (p19.2.no h22), if_pos (p36.2.yes h39)]; rfl
  · refine ⟨by rw [p19.1, p16.1, p8.1, p4.1], ?_⟩
    unfold verN judN
    rw [if_pos (p19.2.yes h22)]; rfl
theorem m_those {μ : Mem} {a : Nat} (ha : Sh[a]? = some (.inr (0, 46, []))) {α : Al} (hA : Abs (kap (μ a)) α) (hC : α 0 7 ≤ 5) (h4 : ∀ c, c < α 0 7 → α 7 c < 4) {x : Int32} {w : Nat} (hx : x = nI w) (hw : w < 4) :
    CtP yX10_those cX10_those 4 (some .int) 1 [vR a, vI x] μ (Pi (fun r μ' => μ' = μ ∧ r = nI (thoN α w (α 0 7)))) := by
  refine CtP.go RX10 rfl pn_X10 (Nat.le_of_ble_eq_true rfl) (fun C hG hR => ?_)
  have r4 : vp_in (4 : Int32) 46 := vp_in_nI (n := 4) (by decide) (by decide)
  have e : μ a (Int32.toNatClampNeg 4) = nI (α 0 7) := by have := hA.1 7 (by decide); rw [kap_0] at this; exact this
  have loop : ∀ k i, i + k = α 0 7 → V C 4 [(0, vR a), (1, vI x), (2, vI (nI (thoN α w i))), (3, vI (nI i))] [] μ := by
    intro k
    induction k with
    | zero =>
      intro i hi
      refine V_iload_n (pc := 4) hG (dk dd_X10_those 4 rfl) rfl ?_
      refine V_aload_n (pc := 5) hG (dk dd_X10_those 5 rfl) rfl ?_
      refine V_iconst (pc := 6) hG (dk dd_X10_those 6 rfl) (v := 4) (by decide) ?_
      refine V_iald (pc := 7) hG (dk dd_X10_those 7 rfl) ha r4 ?_
      refine V_icmp_ge (pc := 8) hG (dk dd_X10_those 8 rfl) (tgt := 37) (by decide) (fun h8 => ?_) (fun h8 => ?_)
      refine V_iload_n (pc := 37) hG (dk dd_X10_those 25 rfl) rfl ?_
      refine V_iretP (pc := 38) hG (dk dd_X10_those 26 rfl) hR (Pi.mk ?_)
      rotate_left
      rotate_left
      -- leaves: return@38; stop 11
      · exact ⟨rfl, by rw [show i = α 0 7 by omega]⟩
      · exfalso; rw [e] at h8; have := nle_i h8 (by omega) (by omega); omega
    | succ k ih =>
      intro i hi
      have hI := ih (i + 1) (by omega)
      have hic : i < α 0 7 := by omega
      rw [nI_succ] at hI
      refine V_iload_n (pc := 4) hG (dk dd_X10_those 4 rfl) rfl ?_
      refine V_aload_n (pc := 5) hG (dk dd_X10_those 5 rfl) rfl ?_
      refine V_iconst (pc := 6) hG (dk dd_X10_those 6 rfl) (v := 4) (by decide) ?_
      refine V_iald (pc := 7) hG (dk dd_X10_those 7 rfl) ha r4 ?_
      refine V_icmp_ge (pc := 8) hG (dk dd_X10_those 8 rfl) (tgt := 37) (by decide) (fun h8 => ?_) (fun h8 => ?_)
      rotate_left
      refine V_iload_n (pc := 11) hG (dk dd_X10_those 9 rfl) rfl ?_
      refine V_aload_n (pc := 12) hG (dk dd_X10_those 10 rfl) rfl ?_
      refine V_iload_n (pc := 13) hG (dk dd_X10_those 11 rfl) rfl ?_
      refine V_iconst (pc := 14) hG (dk dd_X10_those 12 rfl) (v := 3) (by decide) ?_
      refine V_callSip (pc := 15) hG (dk dd_X10_those 13 rfl) ml_X10_188 mo_X10_its (m_its ha (h := i) rfl (by omega) (v := 3) rfl (by decide)) (by decide) (by decide) rfl rfl rfl (fun x15 m15 p15 => ?_)
      refine V_iload_n (pc := 18) hG (dk dd_X10_those 14 rfl) rfl ?_
      refine V_icmp_ne (pc := 19) hG (dk dd_X10_those 15 rfl) (tgt := 28) (by decide) (fun h19 => ?_) (fun h19 => ?_)
      refine V_iconst (pc := 28) hG (dk dd_X10_those 20 rfl) (v := 0) (by decide) ?_
      refine V_ior (pc := 29) hG (dk dd_X10_those 21 rfl) ?_
      refine V_istore_n (pc := 30) hG (dk dd_X10_those 22 rfl) (by decide) (lv' := [(0, _), (1, _), (2, _), (3, _)]) rfl ?_
      refine V_iinc (pc := 31) hG (dk dd_X10_those 23 rfl) rfl (v := _ + 1) rfl (by decide) (lv' := [(0, _), (1, _), (2, _), (3, _)]) rfl ?_
      refine V_goto (pc := 34) hG (dk dd_X10_those 24 rfl) (tgt := 4) (by decide) ?_
      rotate_left
      refine V_iconst (pc := 22) hG (dk dd_X10_those 16 rfl) (v := 1) (by decide) ?_
      refine V_iload_n (pc := 23) hG (dk dd_X10_those 17 rfl) rfl ?_
      refine V_ishl (pc := 24) hG (dk dd_X10_those 18 rfl) ?_
      refine V_goto (pc := 25) hG (dk dd_X10_those 19 rfl) (tgt := 29) (by decide) ?_
      refine V_ior (pc := 29) hG (dk dd_X10_those 21 rfl) ?_
      refine V_istore_n (pc := 30) hG (dk dd_X10_those 22 rfl) (by decide) (lv' := [(0, _), (1, _), (2, _), (3, _)]) rfl ?_
      refine V_iinc (pc := 31) hG (dk dd_X10_those 23 rfl) rfl (v := _ + 1) rfl (by decide) (lv' := [(0, _), (1, _), (2, _), (3, _)]) rfl ?_
      refine V_goto (pc := 34) hG (dk dd_X10_those 24 rfl) (tgt := 4) (by decide) ?_
      rotate_left
      -- leaves: stop 37; stop 4; stop 4
      · exfalso; rw [e] at h8; have := le_i h8 (by omega) (by omega); omega
      · obtain ⟨rfl, rfl⟩ := p15
        rw [m_e4 hA hic (by decide), hx] at h19
        rw [thoN_s, if_neg (fun q => h19 (by rw [← q])), Nat.or_zero] at hI
        rw [Int32.or_zero]; exact hI
      · obtain ⟨rfl, rfl⟩ := p15
        rw [m_e4 hA hic (by decide), hx] at h19
        have hlt : thoN α w i < 256 := Nat.lt_of_lt_of_le (thoN_lt α w i) (pow8 (by omega))
        have h4n := h4 i (by omega)
        rw [thoN_s, if_pos ((nI_eq (a := α 7 i) (by omega) (by omega)).mp h19), ← q_or _ hlt _ (by omega)] at hI
        exact hI
  refine V_iconst (pc := 0) hG (dk dd_X10_those 0 rfl) (v := 0) (by decide) ?_
  refine V_istore_n (pc := 1) hG (dk dd_X10_those 1 rfl) (by decide) (lv' := [(0, _), (1, _), (2, _)]) rfl ?_
  refine V_iconst (pc := 2) hG (dk dd_X10_those 2 rfl) (v := 0) (by decide) ?_
  refine V_istore_n (pc := 3) hG (dk dd_X10_those 3 rfl) (by decide) (lv' := [(0, _), (1, _), (2, _), (3, _)]) rfl ?_
  rotate_left
  -- leaves: stop 4
  · exact loop (α 0 7) 0 (by omega)
/-- the court after case c was heard -/
def hrdA (α : Al) (c : Nat) : Al := fun x i => if x = 0 then (if i = 3 then heaN α c (α 0 3) else if i = 4 then 0 else if i = 5 then α 0 5 + 1 else α 0 i) else if x = 7 ∧ i = c then verN α c (α 0 3) else α x i
theorem q_pm : ∀ i, i < 8 → pmN i < 8 := by decide
theorem upd_at (f : Nat → Int32) (i : Nat) (v : Int32) (j : Nat) : upd f i v j = if j = i then v else f j := rfl
theorem hrd_abs {f : Nat → Int32} {α : Al} (hA : Abs (kap f) α) (hH : α 0 6 ≤ 6) (hC : α 0 7 ≤ 5) {c : Nat} (hc : c < α 0 7) :
    Abs (kap (upd (upd (upd (upd f 6 (nI (heaN α c (α 0 3)))) (26 + 4 * c + 3) (nI (verN α c (α 0 3)))) 5 (f 5 + 1)) 7 0)) (hrdA α c) := by
  have h6 : hrdA α c 0 6 = α 0 6 := rfl
  have h7 : hrdA α c 0 7 = α 0 7 := rfl
  refine ⟨fun i hi => ?_, fun x h q1 q2 q3 => ?_, fun x h q1 q2 q3 => ?_⟩
  · have hi' : i = 0 ∨ i = 1 ∨ i = 2 ∨ i = 3 ∨ i = 4 ∨ i = 5 ∨ i = 6 ∨ i = 7 := by omega
    have b := hA.1 i hi
    rw [kap_0] at b ⊢
    have hne : pmN i ≠ 26 + 4 * c + 3 := by have := q_pm i hi; omega
    rw [upd_at, upd_at, upd_at, upd_at, if_neg hne]
    rcases hi' with rfl | rfl | rfl | rfl | rfl | rfl | rfl | rfl
    · exact b
    · exact b
    · exact b
    · rfl
    · rfl
    · show f 5 + 1 = nI (α 0 5 + 1)
      rw [nI_succ]; exact congrArg (· + 1) b
    · exact b
    · exact b
  · have b := hA.2.1 x h q1 q2 q3
    rw [h6] at q3
    rw [kap_h q1 q2] at b ⊢
    rw [upd_at, upd_at, upd_at, upd_at]
    unfold hrdA
    rw [if_neg (by omega), if_neg (by omega), if_neg (by omega), if_neg (by omega), if_neg (by omega), if_neg (by omega)]; exact b
  · have b := hA.2.2 x h q1 q2 q3
    rw [h7] at q3
    rw [kap_c q1] at b ⊢
    rw [upd_at, upd_at, upd_at, upd_at]
    unfold hrdA
    rw [if_neg (show ¬ 22 + 4 * h + x = 7 by omega), if_neg (show ¬ 22 + 4 * h + x = 5 by omega), if_neg (show ¬ x = 0 by omega)]
    by_cases z : x = 7 ∧ h = c
    · rw [if_pos (by omega), if_pos z]
    · rw [if_neg (by omega), if_neg (by omega), if_neg z]; exact b
theorem m_heard {μ : Mem} {a : Nat} (ha : Sh[a]? = some (.inr (0, 46, []))) {α : Al} (hA : Abs (kap (μ a)) α) (hv : Val α) {x : Int32} {c : Nat} (hx : x = nI c) (hc : c < α 0 7) :
    CtP yX10_heard cX10_heard 3 (some .int) 3 [vR a, vI x] μ (Pi (fun r μ' => (Abs (kap (μ' a)) (hrdA α c) ∧ ∀ j, j ≠ a → μ' j = μ j) ∧ r = nI (verN α c (α 0 3)))) := by
  refine CtP.go RX10 rfl pn_X10 (Nat.le_of_ble_eq_true rfl) (fun C hG hR => ?_)
  have hC := hv.C
  have ht := hv.t
  obtain ⟨k4, k5, k6, k7⟩ := hv.c hc
  have e4 : μ a (26 + 4 * c + 0) = nI (α 4 c) := m_e4 hA hc (by decide)
  have e6 : μ a (Int32.toNatClampNeg 6) = nI (α 0 3) := by have := hA.1 3 (by decide); rw [kap_0] at this; exact this
  have e1 : μ a 1 = nI (α 0 1) := by have := hA.1 1 (by decide); rw [kap_0] at this; exact this
  have hw := hv.w
  have hE := hv.lt (humN_lt hv k4 hv.D)
  have r6 : vp_in (6 : Int32) 46 := vp_in_nI (n := 6) (by decide) (by decide)
  have r5 : vp_in (5 : Int32) 46 := vp_in_nI (n := 5) (by decide) (by decide)
  have r7 : vp_in (7 : Int32) 46 := vp_in_nI (n := 7) (by decide) (by decide)
  have i3 : (26 : Int32) + 4 * x + 3 = nI (26 + 4 * c + 3) := by rw [hx]; exact ix4 (v := 3)
  have rc : vp_in ((26 : Int32) + 4 * x + 3) 46 := by rw [i3]; exact vp_in_nI (by omega) (by decide)
  refine V_aload_n (pc := 0) hG (dk dd_X10_heard 0 rfl) rfl ?_
  refine V_iload_n (pc := 1) hG (dk dd_X10_heard 1 rfl) rfl ?_
  refine V_aload_n (pc := 2) hG (dk dd_X10_heard 2 rfl) rfl ?_
  refine V_bipush (pc := 3) hG (dk dd_X10_heard 3 rfl) (v := 6) (by decide) ?_
  refine V_iald (pc := 5) hG (dk dd_X10_heard 4 rfl) ha r6 ?_
  refine V_callSip (pc := 6) hG (dk dd_X10_heard 5 rfl) ml_X10_194 mo_X10_verdict (m_verdict ha hA hv hx hc e6 hv.D) (by decide) (by decide) rfl rfl rfl (fun x6 m6 p6 => ?_)
  refine V_istore_n (pc := 9) hG (dk dd_X10_heard 6 rfl) (by decide) (lv' := [(0, _), (1, _), (2, _)]) rfl ?_
  refine V_aload_n (pc := 10) hG (dk dd_X10_heard 7 rfl) rfl ?_
  refine V_bipush (pc := 11) hG (dk dd_X10_heard 8 rfl) (v := 6) (by decide) ?_
  refine V_aload_n (pc := 13) hG (dk dd_X10_heard 9 rfl) rfl ?_
  refine V_aload_n (pc := 14) hG (dk dd_X10_heard 10 rfl) rfl ?_
  refine V_aload_n (pc := 15) hG (dk dd_X10_heard 11 rfl) rfl ?_
  refine V_iload_n (pc := 16) hG (dk dd_X10_heard 12 rfl) rfl ?_
  refine V_iconst (pc := 17) hG (dk dd_X10_heard 13 rfl) (v := 0) (by decide) ?_
  refine V_callSip (pc := 18) hG (dk dd_X10_heard 14 rfl) ml_X10_188 mo_X10_its (m_its ha hx (by omega) (v := 0) rfl (by decide)) (by decide) (by decide) rfl rfl rfl (fun x18 m18 p18 => ?_)
  refine V_aload_n (pc := 21) hG (dk dd_X10_heard 15 rfl) rfl ?_
  refine V_bipush (pc := 22) hG (dk dd_X10_heard 16 rfl) (v := 6) (by decide) ?_
  refine V_iald (pc := 24) hG (dk dd_X10_heard 17 rfl) ha r6 ?_
  refine V_callSip (pc := 25) hG (dk dd_X10_heard 18 rfl) ml_X10_191 mo_X10_hummed (m_hummed ha (α := α) (by rw [p18.1, p6.1]; exact hA) hv (by rw [p18.2, p6.1]; exact e4) k4 (D := α 0 3) (by rw [p18.1, p6.1]; exact e6) hv.D) (by decide) (by decide) rfl rfl rfl (fun x25 m25 p25 => ?_)
  refine V_callSip (pc := 28) hG (dk dd_X10_heard 19 rfl) ml_X10_197 mo_X10_worn (m_worn ha (w := α 0 1) (by rw [p25.1, p18.1, p6.1]; exact e1) (by omega) p25.2 hE) (by decide) (by decide) rfl rfl rfl (fun x28 m28 p28 => ?_)
  refine V_iast (pc := 31) hG (dk dd_X10_heard 20 rfl) ha r6 ?_
  refine V_aload_n (pc := 32) hG (dk dd_X10_heard 21 rfl) rfl ?_
  refine V_bipush (pc := 33) hG (dk dd_X10_heard 22 rfl) (v := 26) (by decide) ?_
  refine V_iconst (pc := 35) hG (dk dd_X10_heard 23 rfl) (v := 4) (by decide) ?_
  refine V_iload_n (pc := 36) hG (dk dd_X10_heard 24 rfl) rfl ?_
  refine V_imul (pc := 37) hG (dk dd_X10_heard 25 rfl) ?_
  refine V_iadd (pc := 38) hG (dk dd_X10_heard 26 rfl) ?_
  refine V_iconst (pc := 39) hG (dk dd_X10_heard 27 rfl) (v := 3) (by decide) ?_
  refine V_iadd (pc := 40) hG (dk dd_X10_heard 28 rfl) ?_
  refine V_iload_n (pc := 41) hG (dk dd_X10_heard 29 rfl) rfl ?_
  refine V_iast (pc := 42) hG (dk dd_X10_heard 30 rfl) ha rc ?_
  refine V_aload_n (pc := 43) hG (dk dd_X10_heard 31 rfl) rfl ?_
  refine V_iconst (pc := 44) hG (dk dd_X10_heard 32 rfl) (v := 5) (by decide) ?_
  refine V_dup2 (pc := 45) hG (dk dd_X10_heard 33 rfl) rfl rfl ?_
  refine V_iald (pc := 46) hG (dk dd_X10_heard 34 rfl) ha r5 ?_
  refine V_iconst (pc := 47) hG (dk dd_X10_heard 35 rfl) (v := 1) (by decide) ?_
  refine V_iadd (pc := 48) hG (dk dd_X10_heard 36 rfl) ?_
  refine V_iast (pc := 49) hG (dk dd_X10_heard 37 rfl) ha r5 ?_
  refine V_aload_n (pc := 50) hG (dk dd_X10_heard 38 rfl) rfl ?_
  refine V_bipush (pc := 51) hG (dk dd_X10_heard 39 rfl) (v := 7) (by decide) ?_
  refine V_iconst (pc := 53) hG (dk dd_X10_heard 40 rfl) (v := 0) (by decide) ?_
  refine V_iast (pc := 54) hG (dk dd_X10_heard 41 rfl) ha r7 ?_
  refine V_iload_n (pc := 55) hG (dk dd_X10_heard 42 rfl) rfl ?_
  refine V_iretP (pc := 56) hG (dk dd_X10_heard 43 rfl) hR (Pi.mk ?_)
  rotate_left
  -- leaves: return@56
  · refine ⟨⟨?_, ?_⟩, p6.2⟩
    · simp only [setc_s]
      rw [p28.2, p6.2, i3, nI_clamp (by omega), p28.1, p25.1, p18.1, p6.1]
      have u : upd (upd (μ a) (Int32.toNatClampNeg 6) (nI (wornN (α 0 1) (humN α (α 4 c) (α 0 3))))) (26 + 4 * c + 3) (nI (verN α c (α 0 3))) (Int32.toNatClampNeg 5) = μ a 5 := by
        show (if 5 = 26 + 4 * c + 3 then _ else _) = _
        rw [if_neg (by omega)]; rfl
      rw [u]
      exact hrd_abs hA hv.H hv.C hc
    · intro j hj
      rw [setc_n hj, setc_n hj, setc_n hj, setc_n hj, p28.1, p25.1, p18.1, p6.1]
