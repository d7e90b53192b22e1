/-! ===== SleepingJudge: what is asked ===== -/
/-- what a question leaves of the class -/
def FrC (μ : Mem) (o : Option Int32) (μ' : Mem) : Prop := (∀ a, a ≠ 0 → (a < 23 ∨ 31 < a) → (a < 51 ∨ 64 < a) → μ' a = μ a) ∧ (∀ q, q ≠ 12 → μ' 0 q = μ 0 q) ∧ μ' 0 12 = o.getD (μ 0 12)
theorem FrC.rf (μ : Mem) : FrC μ none μ := ⟨fun _ _ _ _ => rfl, fun _ _ => rfl, rfl⟩
theorem FrC.st {μ μ1 : Mem} (h : FrC μ none μ1) (s : Int32) : FrC μ (some s) (setc μ1 0 (upd (μ1 0) 12 s)) := ⟨fun a b c d => by rw [setc_n b]; exact h.1 a b c d, fun q hq => by rw [setc_s, upd_n hq]; exact h.2.1 q hq, by rw [setc_s, upd_s]; rfl⟩
theorem FrC.tr {μ μ1 μ2 : Mem} {o : Option Int32} (h : FrC μ o μ1) (k : ∀ a, (a < 23 ∨ 31 < a) → (a < 51 ∨ 64 < a) → μ2 a = μ1 a) : FrC μ o μ2 := ⟨fun a b c d => (k a c d).trans (h.1 a b c d), fun q hq => by rw [k 0 (by decide) (by decide)]; exact h.2.1 q hq, by rw [k 0 (by decide) (by decide)]; exact h.2.2⟩
theorem is1_ite {P Q : Prop} [Decidable P] (h : P ↔ Q) : is1 (if P then (1 : Int32) else 0) Q := by
  by_cases z : P
  · rw [if_pos z]; exact is1.t (h.mp z)
  · rw [if_neg z]; exact is1.f (fun w => z (h.mpr w))
theorem e_c {μ : Mem} {α : Al} (hA : Abs (kac μ 15) α) {i : Nat} (hi : i < 8) : μ 15 i = nI (α 0 i) := hA.1 i hi
theorem k_isHum {μ : Mem} {α : Al} (hA : Abs (kac μ 15) α) {x : Int32} : CtP yX2_isHum cX2_isHum 2 (some .boolean) 0 [vR 15, vI x] μ (Pi (fun r μ' => μ' = μ ∧ is1 r (inN x (α 0 6)))) := CtP.ct (c_isHum co_now) (Pi.mk ⟨rfl, is1_ite (by rw [e_c hA (i := 6) (by decide)])⟩)
theorem k_isCase {μ : Mem} {α : Al} (hA : Abs (kac μ 15) α) {x : Int32} : CtP yX2_isCase cX2_isCase 2 (some .boolean) 0 [vR 15, vI x] μ (Pi (fun r μ' => μ' = μ ∧ is1 r (inN x (α 0 7)))) := CtP.ct (c_isCase co_now) (Pi.mk ⟨rfl, is1_ite (by rw [e_c hA (i := 7) (by decide)])⟩)
theorem k_isThing {μ : Mem} {α : Al} (hA : Abs (kac μ 15) α) {x : Int32} : CtP yX2_isThing cX2_isThing 2 (some .boolean) 0 [vR 15, vI x] μ (Pi (fun r μ' => μ' = μ ∧ is1 r (inN x (α 0 0)))) := CtP.ct (c_isThing co_now) (Pi.mk ⟨rfl, is1_ite (by rw [e_c hA (i := 0) (by decide)])⟩)
theorem k_isTold {μ : Mem} {α : Al} (hA : Abs (kac μ 15) α) (hz : Vz α) : CtP yX2_isTold cX2_isTold 1 (some .boolean) 0 [vR 15] μ (Pi (fun r μ' => μ' = μ ∧ is1 r (Val α))) := CtP.ct (c_isTold co_now) (Pi.mk ⟨rfl, is1_ite (hz.there (e_c hA (i := 0) (by decide)))⟩)
theorem k_isDream {μ : Mem} {α : Al} (hA : Abs (kac μ 15) α) (ht : α 0 0 ≤ 8) {x : Int32} : CtP yX2_isDream cX2_isDream 2 (some .boolean) 1 [vR 15, vI x] μ (Pi (fun r μ' => μ' = μ ∧ is1 r (inN x (2 ^ α 0 0)))) := CtP.ct (c_isDream co_now) (Pi.mk ⟨rfl, is1_ite (by rw [e_c hA (i := 0) (by decide), q_pow _ (by omega)])⟩)
theorem Val.p0 {α : Al} (h : Val α) : 0 < α 0 0 := by have := h.t3; omega
theorem Vz.n0 {α : Al} (hz : Vz α) (h : ¬ Val α) : ¬ 0 < α 0 0 := fun q => h (hz.vt q)
theorem e_h {μ : Mem} {α : Al} (hA : Abs (kac μ 15) α) {x : Int32} {y : Nat} (h1 : 1 ≤ y) (h3 : y ≤ 3) (hh : x.toNatClampNeg < α 0 6) : μ (15 + y) x.toNatClampNeg = nI (α y x.toNatClampNeg) := hA.2.1 y _ h1 h3 hh
theorem e_cs {μ : Mem} {α : Al} (hA : Abs (kac μ 15) α) {x : Int32} {y : Nat} (h1 : 4 ≤ y) (h3 : y ≤ 7) (hh : x.toNatClampNeg < α 0 7) : μ (15 + y) x.toNatClampNeg = nI (α y x.toNatClampNeg) := hA.2.2 y _ h1 h3 hh
theorem j_ofHum {μ : Mem} {α : Al} (hA : Abs (kac μ 15) α) (hz : Vz α) {x w : Int32} : CtP yX9_ofHum cX9_ofHum 3 (some .int) 3 [vR 0, vI x, vI w] μ (Pi (fun r μ' => r = ofhF α x w ∧ μ' = μ)) := by
  refine CtP.go RX9 rfl pn_X9 (Nat.le_of_ble_eq_true rfl) (fun C hG hR => ?_)
  have hH := hz.H
  by_cases hi : inN x (α 0 6)
  · obtain ⟨hx, hh⟩ := hi.n (by omega)
    have hv := hz.vh hh
    have rx : vp_in x 6 := in_nI hx (by omega) (by decide)
    refine V_aload_n (pc := 0) hG (dk dd_X9_ofHum 0 rfl) rfl ?_
    refine V_getR (pc := 1) hG (dk dd_X9_ofHum 1 rfl) fl_X9_26 sh_0 rfl ?_
    refine V_iload_n (pc := 4) hG (dk dd_X9_ofHum 2 rfl) rfl ?_
    refine V_callVip (pc := 5) hG (dk dd_X9_ofHum 3 rfl) ml_X9_163 mo_X2_isHum sh_15 rfl (k_isHum hA) (by decide) (by decide) rfl rfl rfl (fun x5 m5 p5 => ?_)
    refine V_if_ne (pc := 8) hG (dk dd_X9_ofHum 4 rfl) (tgt := 14) (by decide) (fun h8 => ?_) (fun h8 => ?_)
    refine V_iload_n (pc := 14) hG (dk dd_X9_ofHum 7 rfl) rfl ?_
    refine V_tsw (pc := 15) hG (dk dd_X9_ofHum 8 rfl) (cs := [(0, 40), (1, 50), (2, 60)]) (td := 76) (by decide +kernel) ?_
    refine And.intro (fun h15_0 => ?_) (fun h15_0 => ?_)
    refine V_aload_n (pc := 40) hG (dk dd_X9_ofHum 9 rfl) rfl ?_
    refine V_getR (pc := 41) hG (dk dd_X9_ofHum 10 rfl) fl_X9_26 sh_0 rfl ?_
    refine V_getR (pc := 44) hG (dk dd_X9_ofHum 11 rfl) fl_X9_204 sh_15 rfl ?_
    refine V_iload_n (pc := 47) hG (dk dd_X9_ofHum 12 rfl) rfl ?_
    refine V_iald (pc := 48) hG (dk dd_X9_ofHum 13 rfl) sh_17 rx ?_
    refine V_iretP (pc := 49) hG (dk dd_X9_ofHum 14 rfl) hR (Pi.mk ?_)
    rotate_left
    refine And.intro (fun h15_1 => ?_) (fun h15_1 => ?_)
    refine V_aload_n (pc := 50) hG (dk dd_X9_ofHum 15 rfl) rfl ?_
    refine V_getR (pc := 51) hG (dk dd_X9_ofHum 16 rfl) fl_X9_26 sh_0 rfl ?_
    refine V_getR (pc := 54) hG (dk dd_X9_ofHum 17 rfl) fl_X9_207 sh_15 rfl ?_
    refine V_iload_n (pc := 57) hG (dk dd_X9_ofHum 18 rfl) rfl ?_
    refine V_iald (pc := 58) hG (dk dd_X9_ofHum 19 rfl) sh_18 rx ?_
    refine V_iretP (pc := 59) hG (dk dd_X9_ofHum 20 rfl) hR (Pi.mk ?_)
    rotate_left
    refine And.intro (fun h15_2 => ?_) (fun h15_2 => ?_)
    refine V_aload_n (pc := 60) hG (dk dd_X9_ofHum 21 rfl) rfl ?_
    refine V_getR (pc := 61) hG (dk dd_X9_ofHum 22 rfl) fl_X9_26 sh_0 rfl ?_
    refine V_iload_n (pc := 64) hG (dk dd_X9_ofHum 23 rfl) rfl ?_
    refine V_aload_n (pc := 65) hG (dk dd_X9_ofHum 24 rfl) rfl ?_
    refine V_getR (pc := 66) hG (dk dd_X9_ofHum 25 rfl) fl_X9_26 sh_0 rfl ?_
    refine V_getI (pc := 69) hG (dk dd_X9_ofHum 26 rfl) fl_X9_175 sh_15 rfl ?_
    refine V_callVi (pc := 72) hG (dk dd_X9_ofHum 27 rfl) ml_X9_178 mo_X2_by sh_15 rfl (c_by (α := α) co_now (by rw [p5.1]; exact hA) hv hx hh (by rw [p5.1]; exact e_c hA (i := 3) (by decide)) hv.D) (by decide) (by decide) rfl rfl rfl ?_
    refine V_iretP (pc := 75) hG (dk dd_X9_ofHum 28 rfl) hR (Pi.mk ?_)
    rotate_left
    show V _ _ _ _ _
    refine V_ldc (pc := 76) hG (dk dd_X9_ofHum 29 rfl) kk_X9_90 ?_
    refine V_iretP (pc := 78) hG (dk dd_X9_ofHum 30 rfl) hR (Pi.mk ?_)
    rotate_left
    rotate_left
    -- leaves: return@49; return@59; return@75; return@78; stop 11
    · refine ⟨?_, p5.1⟩
      rw [p5.1]; unfold ofhF; rw [if_pos hi, if_pos h15_0]; exact e_h (y := 2) hA (by decide) (by decide) hh
    · refine ⟨?_, p5.1⟩
      rw [p5.1]; unfold ofhF; rw [if_pos hi, if_neg h15_0, if_pos h15_1]; exact e_h (y := 3) hA (by decide) (by decide) hh
    · refine ⟨?_, p5.1⟩
      unfold ofhF; rw [if_pos hi, if_neg h15_0, if_neg h15_1, if_pos h15_2]
    · refine ⟨?_, p5.1⟩
      unfold ofhF; rw [if_pos hi, if_neg h15_0, if_neg h15_1, if_neg h15_2]
    · exact absurd hi (p5.2.no h8)
  · skip
    refine V_aload_n (pc := 0) hG (dk dd_X9_ofHum 0 rfl) rfl ?_
    refine V_getR (pc := 1) hG (dk dd_X9_ofHum 1 rfl) fl_X9_26 sh_0 rfl ?_
    refine V_iload_n (pc := 4) hG (dk dd_X9_ofHum 2 rfl) rfl ?_
    refine V_callVip (pc := 5) hG (dk dd_X9_ofHum 3 rfl) ml_X9_163 mo_X2_isHum sh_15 rfl (k_isHum hA) (by decide) (by decide) rfl rfl rfl (fun x5 m5 p5 => ?_)
    refine V_if_ne (pc := 8) hG (dk dd_X9_ofHum 4 rfl) (tgt := 14) (by decide) (fun h8 => ?_) (fun h8 => ?_)
    rotate_left
    refine V_ldc (pc := 11) hG (dk dd_X9_ofHum 5 rfl) kk_X9_90 ?_
    refine V_iretP (pc := 13) hG (dk dd_X9_ofHum 6 rfl) hR (Pi.mk ?_)
    rotate_left
    -- leaves: stop 14; return@13
    · exact absurd (p5.2.yes h8) hi
    · exact ⟨by unfold ofhF; rw [if_neg hi], p5.1⟩
theorem j_ofCase {μ : Mem} {α : Al} (hA : Abs (kac μ 15) α) (hz : Vz α) {x w : Int32} : CtP yX9_ofCase cX9_ofCase 3 (some .int) 4 [vR 0, vI x, vI w] μ (Pi (fun r μ' => r = ofcF α x w ∧ μ' = μ)) := by
  refine CtP.go RX9 rfl pn_X9 (Nat.le_of_ble_eq_true rfl) (fun C hG hR => ?_)
  have hC := hz.C
  by_cases hi : inN x (α 0 7)
  · obtain ⟨hx, hh⟩ := hi.n (by omega)
    have hv := hz.vc hh
    have rx : vp_in x 5 := in_nI hx (by omega) (by decide)
    refine V_aload_n (pc := 0) hG (dk dd_X9_ofCase 0 rfl) rfl ?_
    refine V_getR (pc := 1) hG (dk dd_X9_ofCase 1 rfl) fl_X9_26 sh_0 rfl ?_
    refine V_iload_n (pc := 4) hG (dk dd_X9_ofCase 2 rfl) rfl ?_
    refine V_callVip (pc := 5) hG (dk dd_X9_ofCase 3 rfl) ml_X9_182 mo_X2_isCase sh_15 rfl (k_isCase hA) (by decide) (by decide) rfl rfl rfl (fun x5 m5 p5 => ?_)
    refine V_if_ne (pc := 8) hG (dk dd_X9_ofCase 4 rfl) (tgt := 14) (by decide) (fun h8 => ?_) (fun h8 => ?_)
    refine V_iload_n (pc := 14) hG (dk dd_X9_ofCase 7 rfl) rfl ?_
    refine V_tsw (pc := 15) hG (dk dd_X9_ofCase 8 rfl) (cs := [(0, 48), (1, 58), (2, 68), (3, 78), (4, 88)]) (td := 104) (by decide +kernel) ?_
    refine And.intro (fun h15_0 => ?_) (fun h15_0 => ?_)
    refine V_aload_n (pc := 48) hG (dk dd_X9_ofCase 9 rfl) rfl ?_
    refine V_getR (pc := 49) hG (dk dd_X9_ofCase 10 rfl) fl_X9_26 sh_0 rfl ?_
    refine V_getR (pc := 52) hG (dk dd_X9_ofCase 11 rfl) fl_X9_210 sh_15 rfl ?_
    refine V_iload_n (pc := 55) hG (dk dd_X9_ofCase 12 rfl) rfl ?_
    refine V_iald (pc := 56) hG (dk dd_X9_ofCase 13 rfl) sh_19 rx ?_
    refine V_iretP (pc := 57) hG (dk dd_X9_ofCase 14 rfl) hR (Pi.mk ?_)
    rotate_left
    refine And.intro (fun h15_1 => ?_) (fun h15_1 => ?_)
    refine V_aload_n (pc := 58) hG (dk dd_X9_ofCase 15 rfl) rfl ?_
    refine V_getR (pc := 59) hG (dk dd_X9_ofCase 16 rfl) fl_X9_26 sh_0 rfl ?_
    refine V_getR (pc := 62) hG (dk dd_X9_ofCase 17 rfl) fl_X9_213 sh_15 rfl ?_
    refine V_iload_n (pc := 65) hG (dk dd_X9_ofCase 18 rfl) rfl ?_
    refine V_iald (pc := 66) hG (dk dd_X9_ofCase 19 rfl) sh_20 rx ?_
    refine V_iretP (pc := 67) hG (dk dd_X9_ofCase 20 rfl) hR (Pi.mk ?_)
    rotate_left
    refine And.intro (fun h15_2 => ?_) (fun h15_2 => ?_)
    refine V_aload_n (pc := 68) hG (dk dd_X9_ofCase 21 rfl) rfl ?_
    refine V_getR (pc := 69) hG (dk dd_X9_ofCase 22 rfl) fl_X9_26 sh_0 rfl ?_
    refine V_getR (pc := 72) hG (dk dd_X9_ofCase 23 rfl) fl_X9_216 sh_15 rfl ?_
    refine V_iload_n (pc := 75) hG (dk dd_X9_ofCase 24 rfl) rfl ?_
    refine V_iald (pc := 76) hG (dk dd_X9_ofCase 25 rfl) sh_21 rx ?_
    refine V_iretP (pc := 77) hG (dk dd_X9_ofCase 26 rfl) hR (Pi.mk ?_)
    rotate_left
    refine And.intro (fun h15_3 => ?_) (fun h15_3 => ?_)
    refine V_aload_n (pc := 78) hG (dk dd_X9_ofCase 27 rfl) rfl ?_
    refine V_getR (pc := 79) hG (dk dd_X9_ofCase 28 rfl) fl_X9_26 sh_0 rfl ?_
    refine V_getR (pc := 82) hG (dk dd_X9_ofCase 29 rfl) fl_X9_185 sh_15 rfl ?_
    refine V_iload_n (pc := 85) hG (dk dd_X9_ofCase 30 rfl) rfl ?_
    refine V_iald (pc := 86) hG (dk dd_X9_ofCase 31 rfl) sh_22 rx ?_
    refine V_iretP (pc := 87) hG (dk dd_X9_ofCase 32 rfl) hR (Pi.mk ?_)
    rotate_left
    refine And.intro (fun h15_4 => ?_) (fun h15_4 => ?_)
    refine V_aload_n (pc := 88) hG (dk dd_X9_ofCase 33 rfl) rfl ?_
    refine V_getR (pc := 89) hG (dk dd_X9_ofCase 34 rfl) fl_X9_26 sh_0 rfl ?_
    refine V_iload_n (pc := 92) hG (dk dd_X9_ofCase 35 rfl) rfl ?_
    refine V_aload_n (pc := 93) hG (dk dd_X9_ofCase 36 rfl) rfl ?_
    refine V_getR (pc := 94) hG (dk dd_X9_ofCase 37 rfl) fl_X9_26 sh_0 rfl ?_
    refine V_getI (pc := 97) hG (dk dd_X9_ofCase 38 rfl) fl_X9_175 sh_15 rfl ?_
    refine V_callVi (pc := 100) hG (dk dd_X9_ofCase 39 rfl) ml_X9_189 mo_X2_verdict sh_15 rfl (c_verdict (α := α) co_now (by rw [p5.1]; exact hA) hv hx hh (by rw [p5.1]; exact e_c hA (i := 3) (by decide)) hv.D) (by decide) (by decide) rfl rfl rfl ?_
    refine V_iretP (pc := 103) hG (dk dd_X9_ofCase 40 rfl) hR (Pi.mk ?_)
    rotate_left
    show V _ _ _ _ _
    refine V_ldc (pc := 104) hG (dk dd_X9_ofCase 41 rfl) kk_X9_90 ?_
    refine V_iretP (pc := 106) hG (dk dd_X9_ofCase 42 rfl) hR (Pi.mk ?_)
    rotate_left
    rotate_left
    -- leaves: return@57; return@67; return@77; return@87; return@103; return@106; stop 11
    · refine ⟨?_, p5.1⟩
      rw [p5.1]; unfold ofcF; rw [if_pos hi, h15_0, if_pos (by decide)]; exact e_cs (y := 4) hA (by decide) (by decide) hh
    · refine ⟨?_, p5.1⟩
      rw [p5.1]; unfold ofcF; rw [if_pos hi, h15_1, if_pos (by decide)]; exact e_cs (y := 5) hA (by decide) (by decide) hh
    · refine ⟨?_, p5.1⟩
      rw [p5.1]; unfold ofcF; rw [if_pos hi, h15_2, if_pos (by decide)]; exact e_cs (y := 6) hA (by decide) (by decide) hh
    · refine ⟨?_, p5.1⟩
      rw [p5.1]; unfold ofcF; rw [if_pos hi, h15_3, if_pos (by decide)]; exact e_cs (y := 7) hA (by decide) (by decide) hh
    · refine ⟨?_, p5.1⟩
      unfold ofcF; rw [if_pos hi, if_neg (by rw [h15_4]; decide), if_pos h15_4]
    · refine ⟨?_, p5.1⟩
      unfold ofcF; rw [if_pos hi, if_neg ?_, if_neg h15_4]
      intro q
      have : 0 ≤ w ∧ w ≤ 4 := ⟨q.1, by have := q.2; clear hG hR; grind⟩
      rcases i5c this with z | z | z | z | z
      · exact h15_0 z
      · exact h15_1 z
      · exact h15_2 z
      · exact h15_3 z
      · exact h15_4 z
    · exact absurd hi (p5.2.no h8)
  · skip
    refine V_aload_n (pc := 0) hG (dk dd_X9_ofCase 0 rfl) rfl ?_
    refine V_getR (pc := 1) hG (dk dd_X9_ofCase 1 rfl) fl_X9_26 sh_0 rfl ?_
    refine V_iload_n (pc := 4) hG (dk dd_X9_ofCase 2 rfl) rfl ?_
    refine V_callVip (pc := 5) hG (dk dd_X9_ofCase 3 rfl) ml_X9_182 mo_X2_isCase sh_15 rfl (k_isCase hA) (by decide) (by decide) rfl rfl rfl (fun x5 m5 p5 => ?_)
    refine V_if_ne (pc := 8) hG (dk dd_X9_ofCase 4 rfl) (tgt := 14) (by decide) (fun h8 => ?_) (fun h8 => ?_)
    rotate_left
    refine V_ldc (pc := 11) hG (dk dd_X9_ofCase 5 rfl) kk_X9_90 ?_
    refine V_iretP (pc := 13) hG (dk dd_X9_ofCase 6 rfl) hR (Pi.mk ?_)
    rotate_left
    -- leaves: stop 14; return@13
    · exact absurd (p5.2.yes h8) hi
    · exact ⟨by unfold ofcF; rw [if_neg hi], p5.1⟩
theorem j_stand {μ : Mem} {α : Al} (hA : Abs (kac μ 15) α) (hz : Vz α) {w : Int32} : CtP yX9_stand cX9_stand 2 (some .int) 1 [vR 0, vI w] μ (Pi (fun r μ' => r = staF α w ∧ μ' = μ)) := by
  refine CtP.go RX9 rfl pn_X9 (Nat.le_of_ble_eq_true rfl) (fun C hG hR => ?_)
  by_cases hv : Val α
  · have h0 := hv.p0
    have hC := hv.C
    have w4 := hv.w4
    refine V_aload_n (pc := 0) hG (dk dd_X9_stand 0 rfl) rfl ?_
    refine V_getR (pc := 1) hG (dk dd_X9_stand 1 rfl) fl_X9_26 sh_0 rfl ?_
    refine V_callVip (pc := 4) hG (dk dd_X9_stand 2 rfl) ml_X9_219 mo_X2_isTold sh_15 rfl (k_isTold hA hz) (by decide) (by decide) rfl rfl rfl (fun x4 m4 p4 => ?_)
    refine V_if_ne (pc := 7) hG (dk dd_X9_stand 3 rfl) (tgt := 13) (by decide) (fun h7 => ?_) (fun h7 => ?_)
    refine V_iload_n (pc := 13) hG (dk dd_X9_stand 6 rfl) rfl ?_
    refine V_tsw (pc := 14) hG (dk dd_X9_stand 7 rfl) (cs := [(0, 48), (1, 56), (2, 64), (3, 73), (4, 82)]) (td := 100) (by decide +kernel) ?_
    refine And.intro (fun h14_0 => ?_) (fun h14_0 => ?_)
    refine V_aload_n (pc := 48) hG (dk dd_X9_stand 8 rfl) rfl ?_
    refine V_getR (pc := 49) hG (dk dd_X9_stand 9 rfl) fl_X9_26 sh_0 rfl ?_
    refine V_getI (pc := 52) hG (dk dd_X9_stand 10 rfl) fl_X9_175 sh_15 rfl ?_
    refine V_iretP (pc := 55) hG (dk dd_X9_stand 11 rfl) hR (Pi.mk ?_)
    rotate_left
    refine And.intro (fun h14_1 => ?_) (fun h14_1 => ?_)
    refine V_aload_n (pc := 56) hG (dk dd_X9_stand 12 rfl) rfl ?_
    refine V_getR (pc := 57) hG (dk dd_X9_stand 13 rfl) fl_X9_26 sh_0 rfl ?_
    refine V_getI (pc := 60) hG (dk dd_X9_stand 14 rfl) fl_X9_166 sh_15 rfl ?_
    refine V_iretP (pc := 63) hG (dk dd_X9_stand 15 rfl) hR (Pi.mk ?_)
    rotate_left
    refine And.intro (fun h14_2 => ?_) (fun h14_2 => ?_)
    refine V_aload_n (pc := 64) hG (dk dd_X9_stand 16 rfl) rfl ?_
    refine V_getR (pc := 65) hG (dk dd_X9_stand 17 rfl) fl_X9_26 sh_0 rfl ?_
    refine V_iconst (pc := 68) hG (dk dd_X9_stand 18 rfl) (v := 0) (by decide) ?_
    refine V_callVi (pc := 69) hG (dk dd_X9_stand 19 rfl) ml_X9_222 mo_X2_casesThatAre sh_15 rfl (c_casesThatAre (α := α) co_now (by rw [p4.1]; exact hA) hC w4 (w := 0) rfl (by decide)) (by decide) (by decide) rfl rfl rfl ?_
    refine V_iretP (pc := 72) hG (dk dd_X9_stand 20 rfl) hR (Pi.mk ?_)
    rotate_left
    refine And.intro (fun h14_3 => ?_) (fun h14_3 => ?_)
    refine V_aload_n (pc := 73) hG (dk dd_X9_stand 21 rfl) rfl ?_
    refine V_getR (pc := 74) hG (dk dd_X9_stand 22 rfl) fl_X9_26 sh_0 rfl ?_
    refine V_iconst (pc := 77) hG (dk dd_X9_stand 23 rfl) (v := 1) (by decide) ?_
    refine V_callVi (pc := 78) hG (dk dd_X9_stand 24 rfl) ml_X9_222 mo_X2_casesThatAre sh_15 rfl (c_casesThatAre (α := α) co_now (by rw [p4.1]; exact hA) hC w4 (w := 1) rfl (by decide)) (by decide) (by decide) rfl rfl rfl ?_
    refine V_iretP (pc := 81) hG (dk dd_X9_stand 25 rfl) hR (Pi.mk ?_)
    rotate_left
    refine And.intro (fun h14_4 => ?_) (fun h14_4 => ?_)
    refine V_aload_n (pc := 82) hG (dk dd_X9_stand 26 rfl) rfl ?_
    refine V_getR (pc := 83) hG (dk dd_X9_stand 27 rfl) fl_X9_26 sh_0 rfl ?_
    refine V_iconst (pc := 86) hG (dk dd_X9_stand 28 rfl) (v := 2) (by decide) ?_
    refine V_callVi (pc := 87) hG (dk dd_X9_stand 29 rfl) ml_X9_222 mo_X2_casesThatAre sh_15 rfl (c_casesThatAre (α := α) co_now (by rw [p4.1]; exact hA) hC w4 (w := 2) rfl (by decide)) (by decide) (by decide) rfl rfl rfl ?_
    refine V_aload_n (pc := 90) hG (dk dd_X9_stand 30 rfl) rfl ?_
    refine V_getR (pc := 91) hG (dk dd_X9_stand 31 rfl) fl_X9_26 sh_0 rfl ?_
    refine V_iconst (pc := 94) hG (dk dd_X9_stand 32 rfl) (v := 3) (by decide) ?_
    refine V_callVi (pc := 95) hG (dk dd_X9_stand 33 rfl) ml_X9_222 mo_X2_casesThatAre sh_15 rfl (c_casesThatAre (α := α) co_now (by rw [p4.1]; exact hA) hC w4 (w := 3) rfl (by decide)) (by decide) (by decide) rfl rfl rfl ?_
    refine V_ior (pc := 98) hG (dk dd_X9_stand 34 rfl) ?_
    refine V_iretP (pc := 99) hG (dk dd_X9_stand 35 rfl) hR (Pi.mk ?_)
    rotate_left
    show V _ _ _ _ _
    refine V_ldc (pc := 100) hG (dk dd_X9_stand 36 rfl) kk_X9_90 ?_
    refine V_iretP (pc := 102) hG (dk dd_X9_stand 37 rfl) hR (Pi.mk ?_)
    rotate_left
    rotate_left
    -- leaves: return@55; return@63; return@72; return@81; return@99; return@102; stop 10
    · exact ⟨by rw [p4.1]; unfold staF; rw [if_pos h0, if_pos h14_0]; exact e_c hA (by decide), p4.1⟩
    · exact ⟨by rw [p4.1]; unfold staF; rw [if_pos h0, if_neg h14_0, if_pos h14_1]; exact e_c hA (by decide), p4.1⟩
    · exact ⟨by unfold staF; rw [if_pos h0, if_neg h14_0, if_neg h14_1, if_pos h14_2], p4.1⟩
    · exact ⟨by unfold staF; rw [if_pos h0, if_neg h14_0, if_neg h14_1, if_neg h14_2, if_pos h14_3], p4.1⟩
    · exact ⟨by unfold staF; rw [if_pos h0, if_neg h14_0, if_neg h14_1, if_neg h14_2, if_neg h14_3, if_pos h14_4], p4.1⟩
    · exact ⟨by unfold staF; rw [if_pos h0, if_neg h14_0, if_neg h14_1, if_neg h14_2, if_neg h14_3, if_neg h14_4], p4.1⟩
    · exact absurd hv (p4.2.no h7)
  · skip
    refine V_aload_n (pc := 0) hG (dk dd_X9_stand 0 rfl) rfl ?_
    refine V_getR (pc := 1) hG (dk dd_X9_stand 1 rfl) fl_X9_26 sh_0 rfl ?_
    refine V_callVip (pc := 4) hG (dk dd_X9_stand 2 rfl) ml_X9_219 mo_X2_isTold sh_15 rfl (k_isTold hA hz) (by decide) (by decide) rfl rfl rfl (fun x4 m4 p4 => ?_)
    refine V_if_ne (pc := 7) hG (dk dd_X9_stand 3 rfl) (tgt := 13) (by decide) (fun h7 => ?_) (fun h7 => ?_)
    rotate_left
    refine V_ldc (pc := 10) hG (dk dd_X9_stand 4 rfl) kk_X9_158 ?_
    refine V_iretP (pc := 12) hG (dk dd_X9_stand 5 rfl) hR (Pi.mk ?_)
    rotate_left
    -- leaves: stop 13; return@12
    · exact absurd (p4.2.yes h7) hv
    · exact ⟨by unfold staF; rw [if_neg (hz.n0 hv)], p4.1⟩
theorem j_deaf {μ : Mem} {α : Al} (hA : Abs (kac μ 15) α) (hz : Vz α) : CtP yX9_deaf cX9_deaf 1 (some .int) 4 [vR 0] μ (Pi (fun r μ' => r = deaF α ∧ μ' = μ)) := by
  refine CtP.go RX9 rfl pn_X9 (Nat.le_of_ble_eq_true rfl) (fun C hG hR => ?_)
  by_cases hv : Val α
  · skip
    refine V_aload_n (pc := 0) hG (dk dd_X9_deaf 0 rfl) rfl ?_
    refine V_getR (pc := 1) hG (dk dd_X9_deaf 1 rfl) fl_X9_26 sh_0 rfl ?_
    refine V_callVip (pc := 4) hG (dk dd_X9_deaf 2 rfl) ml_X9_219 mo_X2_isTold sh_15 rfl (k_isTold hA hz) (by decide) (by decide) rfl rfl rfl (fun x4 m4 p4 => ?_)
    refine V_if_eq (pc := 7) hG (dk dd_X9_deaf 3 rfl) (tgt := 20) (by decide) (fun h7 => ?_) (fun h7 => ?_)
    rotate_left
    refine V_aload_n (pc := 10) hG (dk dd_X9_deaf 4 rfl) rfl ?_
    refine V_getR (pc := 11) hG (dk dd_X9_deaf 5 rfl) fl_X9_26 sh_0 rfl ?_
    refine V_callVi (pc := 14) hG (dk dd_X9_deaf 6 rfl) ml_X9_297 mo_X2_deafHums sh_15 rfl (c_deafHums (α := α) co_now (by rw [p4.1]; exact hA) hv) (by decide) (by decide) rfl rfl rfl ?_
    refine V_goto (pc := 17) hG (dk dd_X9_deaf 7 rfl) (tgt := 22) (by decide) ?_
    refine V_iretP (pc := 22) hG (dk dd_X9_deaf 9 rfl) hR (Pi.mk ?_)
    rotate_left
    -- leaves: stop 20; return@22
    · exact absurd hv (p4.2.no h7)
    · exact ⟨by unfold deaF; rw [if_pos hv.p0], p4.1⟩
  · skip
    refine V_aload_n (pc := 0) hG (dk dd_X9_deaf 0 rfl) rfl ?_
    refine V_getR (pc := 1) hG (dk dd_X9_deaf 1 rfl) fl_X9_26 sh_0 rfl ?_
    refine V_callVip (pc := 4) hG (dk dd_X9_deaf 2 rfl) ml_X9_219 mo_X2_isTold sh_15 rfl (k_isTold hA hz) (by decide) (by decide) rfl rfl rfl (fun x4 m4 p4 => ?_)
    refine V_if_eq (pc := 7) hG (dk dd_X9_deaf 3 rfl) (tgt := 20) (by decide) (fun h7 => ?_) (fun h7 => ?_)
    refine V_ldc (pc := 20) hG (dk dd_X9_deaf 8 rfl) kk_X9_158 ?_
    refine V_iretP (pc := 22) hG (dk dd_X9_deaf 9 rfl) hR (Pi.mk ?_)
    rotate_left
    rotate_left
    -- leaves: return@22; stop 10
    · exact ⟨by unfold deaF; rw [if_neg (hz.n0 hv)], p4.1⟩
    · exact absurd (p4.2.yes h7) hv
theorem j_clashes {μ : Mem} {α : Al} (hA : Abs (kac μ 15) α) (hz : Vz α) {w : Int32} : CtP yX9_clashes cX9_clashes 2 (some .int) 5 [vR 0, vI w] μ (Pi (fun r μ' => PrR (claB α) α (α 0 7) w r ∧ μ' = μ)) := by
  refine CtP.go RX9 rfl pn_X9 (Nat.le_of_ble_eq_true rfl) (fun C hG hR => ?_)
  by_cases hv : Val α
  · skip
    refine V_aload_n (pc := 0) hG (dk dd_X9_clashes 0 rfl) rfl ?_
    refine V_getR (pc := 1) hG (dk dd_X9_clashes 1 rfl) fl_X9_26 sh_0 rfl ?_
    refine V_callVip (pc := 4) hG (dk dd_X9_clashes 2 rfl) ml_X9_219 mo_X2_isTold sh_15 rfl (k_isTold hA hz) (by decide) (by decide) rfl rfl rfl (fun x4 m4 p4 => ?_)
    refine V_if_ne (pc := 7) hG (dk dd_X9_clashes 3 rfl) (tgt := 13) (by decide) (fun h7 => ?_) (fun h7 => ?_)
    refine V_iload_n (pc := 13) hG (dk dd_X9_clashes 6 rfl) rfl ?_
    refine V_callSip (pc := 14) hG (dk dd_X9_clashes 7 rfl) ml_X9_290 mo_X9_isOneOfTwo (c_isOneOfTwo) (by decide) (by decide) rfl rfl rfl (fun x14 m14 p14 => ?_)
    refine V_if_ne (pc := 17) hG (dk dd_X9_clashes 8 rfl) (tgt := 23) (by decide) (fun h17 => ?_) (fun h17 => ?_)
    rotate_left
    refine V_ldc (pc := 20) hG (dk dd_X9_clashes 9 rfl) kk_X9_90 ?_
    refine V_iretP (pc := 22) hG (dk dd_X9_clashes 10 rfl) hR (Pi.mk ?_)
    rotate_left
    rotate_left
    -- leaves: stop 23; return@22; stop 10
    · have hw := p14.2.yes h17
      have em : m14 = μ := p14.1.trans p4.1
      rw [em]
      refine V_aload_n (pc := 23) hG (dk dd_X9_clashes 11 rfl) rfl ?_
      refine V_getR (pc := 24) hG (dk dd_X9_clashes 12 rfl) fl_X9_26 sh_0 rfl ?_
      refine V_iconst (pc := 27) hG (dk dd_X9_clashes 13 rfl) (v := 0) (by decide) ?_
      refine V_iload_n (pc := 28) hG (dk dd_X9_clashes 14 rfl) rfl ?_
      refine V_callVip (pc := 29) hG (dk dd_X9_clashes 15 rfl) ml_X9_293 mo_X2_pairs sh_15 rfl (c_pairs co_now hA hv (Or.inr ⟨rfl, rfl, rfl⟩) hw) (by decide) (by decide) rfl rfl rfl (fun x29 m29 p29 => ?_)
      refine V_iretP (pc := 32) hG (dk dd_X9_clashes 16 rfl) hR (Pi.mk ?_)
      rotate_left
      -- leaves: return@32
      · obtain ⟨a, b, c⟩ := p29
        exact ⟨Or.inr (Or.inr ⟨hv.p0, hw.elim (fun z => Or.inl ⟨z, b z⟩) (fun z => Or.inr ⟨z, c z⟩)⟩), a⟩
    · exact ⟨Or.inr (Or.inl ⟨hv.p0, p14.2.no h17, rfl⟩), p14.1.trans p4.1⟩
    · exact absurd hv (p4.2.no h7)
  · skip
    refine V_aload_n (pc := 0) hG (dk dd_X9_clashes 0 rfl) rfl ?_
    refine V_getR (pc := 1) hG (dk dd_X9_clashes 1 rfl) fl_X9_26 sh_0 rfl ?_
    refine V_callVip (pc := 4) hG (dk dd_X9_clashes 2 rfl) ml_X9_219 mo_X2_isTold sh_15 rfl (k_isTold hA hz) (by decide) (by decide) rfl rfl rfl (fun x4 m4 p4 => ?_)
    refine V_if_ne (pc := 7) hG (dk dd_X9_clashes 3 rfl) (tgt := 13) (by decide) (fun h7 => ?_) (fun h7 => ?_)
    rotate_left
    refine V_ldc (pc := 10) hG (dk dd_X9_clashes 4 rfl) kk_X9_158 ?_
    refine V_iretP (pc := 12) hG (dk dd_X9_clashes 5 rfl) hR (Pi.mk ?_)
    rotate_left
    -- leaves: stop 13; return@12
    · exact absurd (p4.2.yes h7) hv
    · exact ⟨Or.inl ⟨hz.n0 hv, rfl⟩, p4.1⟩
theorem j_same {μ : Mem} {α : Al} (hA : Abs (kac μ 15) α) (hz : Vz α) {w : Int32} : CtP yX9_same cX9_same 2 (some .int) 5 [vR 0, vI w] μ (Pi (fun r μ' => PrR (samB α) α (α 0 6) w r ∧ μ' = μ)) := by
  refine CtP.go RX9 rfl pn_X9 (Nat.le_of_ble_eq_true rfl) (fun C hG hR => ?_)
  by_cases hv : Val α
  · skip
    refine V_aload_n (pc := 0) hG (dk dd_X9_same 0 rfl) rfl ?_
    refine V_getR (pc := 1) hG (dk dd_X9_same 1 rfl) fl_X9_26 sh_0 rfl ?_
    refine V_callVip (pc := 4) hG (dk dd_X9_same 2 rfl) ml_X9_219 mo_X2_isTold sh_15 rfl (k_isTold hA hz) (by decide) (by decide) rfl rfl rfl (fun x4 m4 p4 => ?_)
    refine V_if_ne (pc := 7) hG (dk dd_X9_same 3 rfl) (tgt := 13) (by decide) (fun h7 => ?_) (fun h7 => ?_)
    refine V_iload_n (pc := 13) hG (dk dd_X9_same 6 rfl) rfl ?_
    refine V_callSip (pc := 14) hG (dk dd_X9_same 7 rfl) ml_X9_290 mo_X9_isOneOfTwo (c_isOneOfTwo) (by decide) (by decide) rfl rfl rfl (fun x14 m14 p14 => ?_)
    refine V_if_ne (pc := 17) hG (dk dd_X9_same 8 rfl) (tgt := 23) (by decide) (fun h17 => ?_) (fun h17 => ?_)
    rotate_left
    refine V_ldc (pc := 20) hG (dk dd_X9_same 9 rfl) kk_X9_90 ?_
    refine V_iretP (pc := 22) hG (dk dd_X9_same 10 rfl) hR (Pi.mk ?_)
    rotate_left
    rotate_left
    -- leaves: stop 23; return@22; stop 10
    · have hw := p14.2.yes h17
      have em : m14 = μ := p14.1.trans p4.1
      rw [em]
      refine V_aload_n (pc := 23) hG (dk dd_X9_same 11 rfl) rfl ?_
      refine V_getR (pc := 24) hG (dk dd_X9_same 12 rfl) fl_X9_26 sh_0 rfl ?_
      refine V_iconst (pc := 27) hG (dk dd_X9_same 13 rfl) (v := 1) (by decide) ?_
      refine V_iload_n (pc := 28) hG (dk dd_X9_same 14 rfl) rfl ?_
      refine V_callVip (pc := 29) hG (dk dd_X9_same 15 rfl) ml_X9_293 mo_X2_pairs sh_15 rfl (c_pairs co_now hA hv (Or.inl ⟨rfl, rfl, rfl⟩) hw) (by decide) (by decide) rfl rfl rfl (fun x29 m29 p29 => ?_)
      refine V_iretP (pc := 32) hG (dk dd_X9_same 16 rfl) hR (Pi.mk ?_)
      rotate_left
      -- leaves: return@32
      · obtain ⟨a, b, c⟩ := p29
        exact ⟨Or.inr (Or.inr ⟨hv.p0, hw.elim (fun z => Or.inl ⟨z, b z⟩) (fun z => Or.inr ⟨z, c z⟩)⟩), a⟩
    · exact ⟨Or.inr (Or.inl ⟨hv.p0, p14.2.no h17, rfl⟩), p14.1.trans p4.1⟩
    · exact absurd hv (p4.2.no h7)
  · skip
    refine V_aload_n (pc := 0) hG (dk dd_X9_same 0 rfl) rfl ?_
    refine V_getR (pc := 1) hG (dk dd_X9_same 1 rfl) fl_X9_26 sh_0 rfl ?_
    refine V_callVip (pc := 4) hG (dk dd_X9_same 2 rfl) ml_X9_219 mo_X2_isTold sh_15 rfl (k_isTold hA hz) (by decide) (by decide) rfl rfl rfl (fun x4 m4 p4 => ?_)
    refine V_if_ne (pc := 7) hG (dk dd_X9_same 3 rfl) (tgt := 13) (by decide) (fun h7 => ?_) (fun h7 => ?_)
    rotate_left
    refine V_ldc (pc := 10) hG (dk dd_X9_same 4 rfl) kk_X9_158 ?_
    refine V_iretP (pc := 12) hG (dk dd_X9_same 5 rfl) hR (Pi.mk ?_)
    rotate_left
    -- leaves: stop 13; return@12
    · exact absurd (p4.2.yes h7) hv
    · exact ⟨Or.inl ⟨hz.n0 hv, rfl⟩, p4.1⟩
theorem j_kind {μ : Mem} {α : Al} (hA : Abs (kac μ 15) α) (hz : Vz α) {x : Int32} : CtP yX9_kind cX9_kind 2 (some .int) 1 [vR 0, vI x] μ (Pi (fun r μ' => r = kinF α x ∧ μ' = μ)) := by
  refine CtP.go RX9 rfl pn_X9 (Nat.le_of_ble_eq_true rfl) (fun C hG hR => ?_)
  have hH := hz.H
  by_cases hi : inN x (α 0 6)
  · obtain ⟨hx, hh⟩ := hi.n (by omega)
    have rx : vp_in x 6 := in_nI hx (by omega) (by decide)
    refine V_aload_n (pc := 0) hG (dk dd_X9_kind 0 rfl) rfl ?_
    refine V_getR (pc := 1) hG (dk dd_X9_kind 1 rfl) fl_X9_26 sh_0 rfl ?_
    refine V_iload_n (pc := 4) hG (dk dd_X9_kind 2 rfl) rfl ?_
    refine V_callVip (pc := 5) hG (dk dd_X9_kind 3 rfl) ml_X9_163 mo_X2_isHum sh_15 rfl (k_isHum hA) (by decide) (by decide) rfl rfl rfl (fun x5 m5 p5 => ?_)
    refine V_if_eq (pc := 8) hG (dk dd_X9_kind 4 rfl) (tgt := 23) (by decide) (fun h8 => ?_) (fun h8 => ?_)
    rotate_left
    refine V_aload_n (pc := 11) hG (dk dd_X9_kind 5 rfl) rfl ?_
    refine V_getR (pc := 12) hG (dk dd_X9_kind 6 rfl) fl_X9_26 sh_0 rfl ?_
    refine V_getR (pc := 15) hG (dk dd_X9_kind 7 rfl) fl_X9_348 sh_15 rfl ?_
    refine V_iload_n (pc := 18) hG (dk dd_X9_kind 8 rfl) rfl ?_
    refine V_iald (pc := 19) hG (dk dd_X9_kind 9 rfl) sh_16 rx ?_
    refine V_goto (pc := 20) hG (dk dd_X9_kind 10 rfl) (tgt := 25) (by decide) ?_
    refine V_iretP (pc := 25) hG (dk dd_X9_kind 12 rfl) hR (Pi.mk ?_)
    rotate_left
    -- leaves: stop 23; return@25
    · exact absurd hi (p5.2.no h8)
    · exact ⟨by rw [p5.1]; unfold kinF; rw [if_pos hi]; exact e_h (y := 1) hA (by decide) (by decide) hh, p5.1⟩
  · skip
    refine V_aload_n (pc := 0) hG (dk dd_X9_kind 0 rfl) rfl ?_
    refine V_getR (pc := 1) hG (dk dd_X9_kind 1 rfl) fl_X9_26 sh_0 rfl ?_
    refine V_iload_n (pc := 4) hG (dk dd_X9_kind 2 rfl) rfl ?_
    refine V_callVip (pc := 5) hG (dk dd_X9_kind 3 rfl) ml_X9_163 mo_X2_isHum sh_15 rfl (k_isHum hA) (by decide) (by decide) rfl rfl rfl (fun x5 m5 p5 => ?_)
    refine V_if_eq (pc := 8) hG (dk dd_X9_kind 4 rfl) (tgt := 23) (by decide) (fun h8 => ?_) (fun h8 => ?_)
    refine V_ldc (pc := 23) hG (dk dd_X9_kind 11 rfl) kk_X9_90 ?_
    refine V_iretP (pc := 25) hG (dk dd_X9_kind 12 rfl) hR (Pi.mk ?_)
    rotate_left
    rotate_left
    -- leaves: return@25; stop 11
    · exact ⟨by unfold kinF; rw [if_neg hi], p5.1⟩
    · exact absurd (p5.2.yes h8) hi
theorem j_trace {μ : Mem} {l : List Nat} (hT : Tr μ l) (hl : l.length ≤ 16) {x : Int32} : CtP yX9_trace cX9_trace 2 (some .int) 0 [vR 0, vI x] μ (Pi (fun r μ' => r = traF l x ∧ μ' = μ)) := by
  refine CtP.go RX9 rfl pn_X9 (Nat.le_of_ble_eq_true rfl) (fun C hG hR => ?_)
  by_cases hi : inN x l.length
  · obtain ⟨hx, hh⟩ := hi.n (by omega)
    have rx : vp_in x 16 := in_nI hx (by omega) (by decide)
    refine V_iload_n (pc := 0) hG (dk dd_X9_trace 0 rfl) rfl ?_
    refine V_if_lt (pc := 1) hG (dk dd_X9_trace 1 rfl) (tgt := 27) (by decide) (fun h1 => ?_) (fun h1 => ?_)
    rotate_left
    refine V_iload_n (pc := 4) hG (dk dd_X9_trace 2 rfl) rfl ?_
    refine V_aload_n (pc := 5) hG (dk dd_X9_trace 3 rfl) rfl ?_
    refine V_getR (pc := 6) hG (dk dd_X9_trace 4 rfl) fl_X9_79 sh_0 rfl ?_
    refine V_getI (pc := 9) hG (dk dd_X9_trace 5 rfl) fl_X9_357 sh_65 rfl ?_
    refine V_icmp_ge (pc := 12) hG (dk dd_X9_trace 6 rfl) (tgt := 27) (by decide) (fun h12 => ?_) (fun h12 => ?_)
    rotate_left
    refine V_aload_n (pc := 15) hG (dk dd_X9_trace 7 rfl) rfl ?_
    refine V_getR (pc := 16) hG (dk dd_X9_trace 8 rfl) fl_X9_79 sh_0 rfl ?_
    refine V_getR (pc := 19) hG (dk dd_X9_trace 9 rfl) fl_X9_358 sh_65 rfl ?_
    refine V_iload_n (pc := 22) hG (dk dd_X9_trace 10 rfl) rfl ?_
    refine V_iald (pc := 23) hG (dk dd_X9_trace 11 rfl) sh_66 rx ?_
    refine V_goto (pc := 24) hG (dk dd_X9_trace 12 rfl) (tgt := 30) (by decide) ?_
    refine V_iretP (pc := 30) hG (dk dd_X9_trace 14 rfl) hR (Pi.mk ?_)
    rotate_left
    -- leaves: stop 27; stop 27; return@30
    · exact absurd h1 (Int32.not_lt.mpr hi.1)
    · rw [hT.1] at h12; exact absurd hi.2 (Int32.not_lt.mpr h12)
    · exact ⟨by unfold traF; rw [if_pos hi]; exact hT.2 _ hh, rfl⟩
  · skip
    refine V_iload_n (pc := 0) hG (dk dd_X9_trace 0 rfl) rfl ?_
    refine V_if_lt (pc := 1) hG (dk dd_X9_trace 1 rfl) (tgt := 27) (by decide) (fun h1 => ?_) (fun h1 => ?_)
    refine V_ldc_w (pc := 27) hG (dk dd_X9_trace 13 rfl) kk_X9_285 ?_
    refine V_iretP (pc := 30) hG (dk dd_X9_trace 14 rfl) hR (Pi.mk ?_)
    rotate_left
    refine V_iload_n (pc := 4) hG (dk dd_X9_trace 2 rfl) rfl ?_
    refine V_aload_n (pc := 5) hG (dk dd_X9_trace 3 rfl) rfl ?_
    refine V_getR (pc := 6) hG (dk dd_X9_trace 4 rfl) fl_X9_79 sh_0 rfl ?_
    refine V_getI (pc := 9) hG (dk dd_X9_trace 5 rfl) fl_X9_357 sh_65 rfl ?_
    refine V_icmp_ge (pc := 12) hG (dk dd_X9_trace 6 rfl) (tgt := 27) (by decide) (fun h12 => ?_) (fun h12 => ?_)
    refine V_ldc_w (pc := 27) hG (dk dd_X9_trace 13 rfl) kk_X9_285 ?_
    refine V_iretP (pc := 30) hG (dk dd_X9_trace 14 rfl) hR (Pi.mk ?_)
    rotate_left
    rotate_left
    -- leaves: return@30; return@30; stop 15
    · exact ⟨by unfold traF; rw [if_neg hi], rfl⟩
    · exact ⟨by unfold traF; rw [if_neg hi], rfl⟩
    · rw [hT.1] at h12; exact absurd ⟨Int32.not_lt.mp h1, Int32.not_le.mp h12⟩ hi
theorem j_status {μ : Mem} : CtP yX9_status cX9_status 1 (some .int) 0 [vR 0] μ (Pi (fun r μ' => r = μ 0 12 ∧ μ' = μ)) := by
  refine CtP.go RX9 rfl pn_X9 (Nat.le_of_ble_eq_true rfl) (fun C hG hR => ?_)
  refine V_aload_n (pc := 0) hG (dk dd_X9_status 0 rfl) rfl ?_
  refine V_getI (pc := 1) hG (dk dd_X9_status 1 rfl) fl_X9_371 sh_0 rfl ?_
  refine V_iretP (pc := 4) hG (dk dd_X9_status 2 rfl) hR (Pi.mk ?_)
  rotate_left
  -- leaves: return@4
  · exact ⟨rfl, rfl⟩
theorem j_fault {μ : Mem} : CtP yX9_fault cX9_fault 1 (some .int) 0 [vR 0] μ (Pi (fun r μ' => r = μ 0 11 ∧ μ' = μ)) := by
  refine CtP.go RX9 rfl pn_X9 (Nat.le_of_ble_eq_true rfl) (fun C hG hR => ?_)
  refine V_aload_n (pc := 0) hG (dk dd_X9_fault 0 rfl) rfl ?_
  refine V_getI (pc := 1) hG (dk dd_X9_fault 1 rfl) fl_X9_141 sh_0 rfl ?_
  refine V_iretP (pc := 4) hG (dk dd_X9_fault 2 rfl) hR (Pi.mk ?_)
  rotate_left
  -- leaves: return@4
  · exact ⟨rfl, rfl⟩
theorem j_count {μ : Mem} {α : Al} (hA : Abs (kac μ 15) α) {L n : Nat} (hL : μ 32 2 = nI L) (hn : μ 13 1 = nI n) {w : Int32} : CtP yX9_count cX9_count 2 (some .int) 2 [vR 0, vI w] μ (Pi (fun r μ' => r = couF (hmN μ 11 8) α L n w ∧ μ' = μ)) := by
  refine CtP.go RX9 rfl pn_X9 (Nat.le_of_ble_eq_true rfl) (fun C hG hR => ?_)
  refine V_iload_n (pc := 0) hG (dk dd_X9_count 0 rfl) rfl ?_
  refine V_tsw (pc := 1) hG (dk dd_X9_count 1 rfl) (cs := [(0, 48), (1, 56), (2, 64), (3, 72), (4, 80), (5, 88), (6, 96), (7, 104)]) (td := 112) (by decide +kernel) ?_
  refine And.intro (fun h1_0 => ?_) (fun h1_0 => ?_)
  refine V_aload_n (pc := 48) hG (dk dd_X9_count 2 rfl) rfl ?_
  refine V_getR (pc := 49) hG (dk dd_X9_count 3 rfl) fl_X9_10 sh_0 rfl ?_
  refine V_callVip (pc := 52) hG (dk dd_X9_count 4 rfl) ml_X9_361 mo_X5_howMany sh_1 rfl (c_howMany) (by decide) (by decide) rfl rfl rfl (fun x52 m52 p52 => ?_)
  refine V_iretP (pc := 55) hG (dk dd_X9_count 5 rfl) hR (Pi.mk ?_)
  rotate_left
  refine And.intro (fun h1_1 => ?_) (fun h1_1 => ?_)
  refine V_aload_n (pc := 56) hG (dk dd_X9_count 6 rfl) rfl ?_
  refine V_getR (pc := 57) hG (dk dd_X9_count 7 rfl) fl_X9_26 sh_0 rfl ?_
  refine V_getI (pc := 60) hG (dk dd_X9_count 8 rfl) fl_X9_364 sh_15 rfl ?_
  refine V_iretP (pc := 63) hG (dk dd_X9_count 9 rfl) hR (Pi.mk ?_)
  rotate_left
  refine And.intro (fun h1_2 => ?_) (fun h1_2 => ?_)
  refine V_aload_n (pc := 64) hG (dk dd_X9_count 10 rfl) rfl ?_
  refine V_getR (pc := 65) hG (dk dd_X9_count 11 rfl) fl_X9_26 sh_0 rfl ?_
  refine V_getI (pc := 68) hG (dk dd_X9_count 12 rfl) fl_X9_152 sh_15 rfl ?_
  refine V_iretP (pc := 71) hG (dk dd_X9_count 13 rfl) hR (Pi.mk ?_)
  rotate_left
  refine And.intro (fun h1_3 => ?_) (fun h1_3 => ?_)
  refine V_aload_n (pc := 72) hG (dk dd_X9_count 14 rfl) rfl ?_
  refine V_getR (pc := 73) hG (dk dd_X9_count 15 rfl) fl_X9_26 sh_0 rfl ?_
  refine V_getI (pc := 76) hG (dk dd_X9_count 16 rfl) fl_X9_367 sh_15 rfl ?_
  refine V_iretP (pc := 79) hG (dk dd_X9_count 17 rfl) hR (Pi.mk ?_)
  rotate_left
  refine And.intro (fun h1_4 => ?_) (fun h1_4 => ?_)
  refine V_aload_n (pc := 80) hG (dk dd_X9_count 18 rfl) rfl ?_
  refine V_getR (pc := 81) hG (dk dd_X9_count 19 rfl) fl_X9_26 sh_0 rfl ?_
  refine V_getI (pc := 84) hG (dk dd_X9_count 20 rfl) fl_X9_195 sh_15 rfl ?_
  refine V_iretP (pc := 87) hG (dk dd_X9_count 21 rfl) hR (Pi.mk ?_)
  rotate_left
  refine And.intro (fun h1_5 => ?_) (fun h1_5 => ?_)
  refine V_aload_n (pc := 88) hG (dk dd_X9_count 22 rfl) rfl ?_
  refine V_getR (pc := 89) hG (dk dd_X9_count 23 rfl) fl_X9_26 sh_0 rfl ?_
  refine V_getI (pc := 92) hG (dk dd_X9_count 24 rfl) fl_X9_175 sh_15 rfl ?_
  refine V_iretP (pc := 95) hG (dk dd_X9_count 25 rfl) hR (Pi.mk ?_)
  rotate_left
  refine And.intro (fun h1_6 => ?_) (fun h1_6 => ?_)
  refine V_aload_n (pc := 96) hG (dk dd_X9_count 26 rfl) rfl ?_
  refine V_getR (pc := 97) hG (dk dd_X9_count 27 rfl) fl_X9_45 sh_0 rfl ?_
  refine V_getI (pc := 100) hG (dk dd_X9_count 28 rfl) fl_X9_155 sh_32 rfl ?_
  refine V_iretP (pc := 103) hG (dk dd_X9_count 29 rfl) hR (Pi.mk ?_)
  rotate_left
  refine And.intro (fun h1_7 => ?_) (fun h1_7 => ?_)
  refine V_aload_n (pc := 104) hG (dk dd_X9_count 30 rfl) rfl ?_
  refine V_getR (pc := 105) hG (dk dd_X9_count 31 rfl) fl_X9_19 sh_0 rfl ?_
  refine V_getI (pc := 108) hG (dk dd_X9_count 32 rfl) fl_X9_370 sh_13 rfl ?_
  refine V_iretP (pc := 111) hG (dk dd_X9_count 33 rfl) hR (Pi.mk ?_)
  rotate_left
  show V _ _ _ _ _
  refine V_ldc (pc := 112) hG (dk dd_X9_count 34 rfl) kk_X9_90 ?_
  refine V_iretP (pc := 114) hG (dk dd_X9_count 35 rfl) hR (Pi.mk ?_)
  rotate_left
  -- leaves: return@55; return@63; return@71; return@79; return@87; return@95; return@103; return@111; return@114
  · exact ⟨by rw [p52.2]; unfold couF; rw [if_pos h1_0], p52.1⟩
  · exact ⟨by unfold couF; rw [if_neg h1_0, if_pos h1_1]; exact e_c hA (by decide), rfl⟩
  · exact ⟨by unfold couF; rw [if_neg h1_0, if_neg h1_1, if_pos h1_2]; exact e_c hA (by decide), rfl⟩
  · exact ⟨by unfold couF; rw [if_neg h1_0, if_neg h1_1, if_neg h1_2, if_pos h1_3]; exact e_c hA (by decide), rfl⟩
  · exact ⟨by unfold couF; rw [if_neg h1_0, if_neg h1_1, if_neg h1_2, if_neg h1_3, if_pos h1_4]; exact e_c hA (by decide), rfl⟩
  · exact ⟨by unfold couF; rw [if_neg h1_0, if_neg h1_1, if_neg h1_2, if_neg h1_3, if_neg h1_4, if_pos h1_5]; exact e_c hA (by decide), rfl⟩
  · exact ⟨by unfold couF; rw [if_neg h1_0, if_neg h1_1, if_neg h1_2, if_neg h1_3, if_neg h1_4, if_neg h1_5, if_pos h1_6]; exact hL, rfl⟩
  · exact ⟨by unfold couF; rw [if_neg h1_0, if_neg h1_1, if_neg h1_2, if_neg h1_3, if_neg h1_4, if_neg h1_5, if_neg h1_6, if_pos h1_7]; exact hn, rfl⟩
  · exact ⟨by unfold couF; rw [if_neg h1_0, if_neg h1_1, if_neg h1_2, if_neg h1_3, if_neg h1_4, if_neg h1_5, if_neg h1_6, if_neg h1_7], rfl⟩
