/-! ===== SleepingJudge: acts ===== -/
theorem kac_put {μ : Mem} {b : Nat} {α : Al} {i v : Nat} {x : Int32} (h : Abs (kac μ b) α) (hi : i < 6) (hx : x = nI v) : Abs (kac (setc μ b (upd (μ b) i x)) b) (updA α 0 i v) := by
  refine ⟨fun j hj => ?_, fun y k q1 q2 q3 => ?_, fun y k q1 q2 q3 => ?_⟩
  · show setc μ b (upd (μ b) i x) (b + 0) j = _
    rw [Nat.add_zero, setc_s]
    by_cases z : j = i
    · rw [z, upd_s, updA_s]; exact hx
    · rw [upd_n z, updA_n (by omega)]; exact h.1 j hj
  · rw [updA_n (by omega)] at q3
    show setc μ b (upd (μ b) i x) (b + y) k = _
    rw [setc_n (by omega), updA_n (by omega)]; exact h.2.1 y k q1 q2 q3
  · rw [updA_n (by omega)] at q3
    show setc μ b (upd (μ b) i x) (b + y) k = _
    rw [setc_n (by omega), updA_n (by omega)]; exact h.2.2 y k q1 q2 q3
theorem kac_arr {μ : Mem} {b y0 : Nat} {α : Al} {i v : Nat} {x : Int32} (h : Abs (kac μ b) α) (hy : 1 ≤ y0) (hy7 : y0 ≤ 7) (hx : x = nI v) : Abs (kac (setc μ (b + y0) (upd (μ (b + y0)) i x)) b) (updA α y0 i v) := by
  refine ⟨fun j hj => ?_, fun y k q1 q2 q3 => ?_, fun y k q1 q2 q3 => ?_⟩
  · show setc μ (b + y0) _ (b + 0) j = _
    rw [setc_n (by omega), updA_n (by omega)]; exact h.1 j hj
  · rw [updA_n (by omega)] at q3
    show setc μ (b + y0) _ (b + y) k = _
    by_cases z : y = y0
    · rw [z, setc_s]
      by_cases w : k = i
      · rw [w, upd_s, updA_s]; exact hx
      · rw [upd_n w, updA_n (by omega)]; rw [← z]; exact h.2.1 y k q1 q2 q3
    · rw [setc_n (by omega), updA_n (by omega)]; exact h.2.1 y k q1 q2 q3
  · rw [updA_n (by omega)] at q3
    show setc μ (b + y0) _ (b + y) k = _
    by_cases z : y = y0
    · rw [z, setc_s]
      by_cases w : k = i
      · rw [w, upd_s, updA_s]; exact hx
      · rw [upd_n w, updA_n (by omega)]; rw [← z]; exact h.2.2 y k q1 q2 q3
    · rw [setc_n (by omega), updA_n (by omega)]; exact h.2.2 y k q1 q2 q3
def ActC (μ : Mem) (As : Nat → Al) (L : Nat) (α β : Al) (μ' : Mem) : Prop := (∀ a, (a < 15 ∨ 22 < a) → a ≠ 32 → a ≠ 33 → μ' a = μ a) ∧ Abs (kac μ' 15) β ∧ ∃ nx, Ring μ' (pushA α As) (min (L + 1) 24) nx
def OutC (μ : Mem) (As : Nat → Al) (L : Nat) (α : Al) (o : Option Al) (μ' : Mem) : Prop := (o = none ∧ μ' = μ) ∨ (∃ β, o = some β ∧ ActC μ As L α β μ')
theorem ActC.of {μ m μ' : Mem} {As : Nat → Al} {L nx : Nat} {α β : Al} (hk : Ring m (pushA α As) (min (L + 1) 24) nx ∧ ∀ a, a ≠ 32 → a ≠ 33 → m a = μ a) (hj : ∀ a, (a < 15 ∨ 22 < a) → μ' a = m a) (hB : Abs (kac μ' 15) β) : ActC μ As L α β μ' := by
  obtain ⟨⟨r1, r2, r3, r4, r5⟩, k⟩ := hk
  exact ⟨fun a x y z => by rw [hj a x]; exact k a y z, hB, nx, by rw [hj 32 (by decide)]; exact r1, r2, by rw [hj 32 (by decide)]; exact r3, r4, fun i hi => by rw [hj 33 (by decide)]; exact r5 i hi⟩
theorem abs_keep {μ m : Mem} {α : Al} (hA : Abs (kac μ 15) α) (h : ∀ a, a ≠ 32 → a ≠ 33 → m a = μ a) : Abs (kac m 15) α := hA.off (fun x hx => h _ (by omega) (by omega))
theorem j_hum {μ : Mem} {α : Al} {As : Nat → Al} {L nx : Nat} (hA : Abs (kac μ 15) α) (hz : Vz α) (h42 : α 0 4 ≤ α 0 2) (h2 : α 0 2 < 100) (hR0 : Ring μ As L nx) (hO : AsO As L) {x : Int32} : CtP yX9_hum cX9_hum 2 (some .int) 3 [vR 0, vI x] μ (Pi (fun r μ' => r = (humF α x).1 ∧ OutC μ As L α (humF α x).2 μ')) := by
  refine CtP.go RX9 rfl pn_X9 (Nat.le_of_ble_eq_true rfl) (fun C hG hR => ?_)
  have hH := hz.H
  have e4 := e_c hA (i := 4) (by decide)
  have e2 := e_c hA (i := 2) (by decide)
  by_cases hi : inN x (α 0 6)
  · obtain ⟨hx, hh⟩ := hi.n (by omega)
    have hv := hz.vh hh
    refine V_aload_n (pc := 0) hG (dk dd_X9_hum 0 rfl) rfl ?_
    refine V_getR (pc := 1) hG (dk dd_X9_hum 1 rfl) fl_X9_26 sh_0 rfl ?_
    refine V_iload_n (pc := 4) hG (dk dd_X9_hum 2 rfl) rfl ?_
    refine V_callVip (pc := 5) hG (dk dd_X9_hum 3 rfl) ml_X9_163 mo_X2_isHum sh_15 rfl (k_isHum hA) (by decide) (by decide) rfl rfl rfl (fun x5 m5 p5 => ?_)
    refine V_if_ne (pc := 8) hG (dk dd_X9_hum 4 rfl) (tgt := 14) (by decide) (fun h8 => ?_) (fun h8 => ?_)
    refine V_aload_n (pc := 14) hG (dk dd_X9_hum 7 rfl) rfl ?_
    refine V_getR (pc := 15) hG (dk dd_X9_hum 8 rfl) fl_X9_26 sh_0 rfl ?_
    refine V_getI (pc := 18) hG (dk dd_X9_hum 9 rfl) fl_X9_166 sh_15 rfl ?_
    refine V_aload_n (pc := 21) hG (dk dd_X9_hum 10 rfl) rfl ?_
    refine V_getR (pc := 22) hG (dk dd_X9_hum 11 rfl) fl_X9_26 sh_0 rfl ?_
    refine V_getI (pc := 25) hG (dk dd_X9_hum 12 rfl) fl_X9_169 sh_15 rfl ?_
    refine V_icmp_lt (pc := 28) hG (dk dd_X9_hum 13 rfl) (tgt := 34) (by decide) (fun h28 => ?_) (fun h28 => ?_)
    refine V_aload_n (pc := 34) hG (dk dd_X9_hum 16 rfl) rfl ?_
    refine V_getR (pc := 35) hG (dk dd_X9_hum 17 rfl) fl_X9_45 sh_0 rfl ?_
    refine V_aload_n (pc := 38) hG (dk dd_X9_hum 18 rfl) rfl ?_
    refine V_getR (pc := 39) hG (dk dd_X9_hum 19 rfl) fl_X9_26 sh_0 rfl ?_
    refine V_callVvp (pc := 42) hG (dk dd_X9_hum 20 rfl) ml_X9_172 mo_X0_keep sh_32 rfl (c_keep (α := α) (As := As) (L := L) (nx := nx) (by rw [p5.1]; exact hA) hH hz.C (by rw [p5.1]; exact hR0) hO) (by decide) (by decide) rfl rfl rfl (fun m42 p42 => ?_)
    refine V_aload_n (pc := 45) hG (dk dd_X9_hum 21 rfl) rfl ?_
    refine V_getR (pc := 46) hG (dk dd_X9_hum 22 rfl) fl_X9_26 sh_0 rfl ?_
    refine V_aload_n (pc := 49) hG (dk dd_X9_hum 23 rfl) rfl ?_
    refine V_getR (pc := 50) hG (dk dd_X9_hum 24 rfl) fl_X9_26 sh_0 rfl ?_
    refine V_iload_n (pc := 53) hG (dk dd_X9_hum 25 rfl) rfl ?_
    refine V_aload_n (pc := 54) hG (dk dd_X9_hum 26 rfl) rfl ?_
    refine V_getR (pc := 55) hG (dk dd_X9_hum 27 rfl) fl_X9_26 sh_0 rfl ?_
    refine V_getI (pc := 58) hG (dk dd_X9_hum 28 rfl) fl_X9_175 sh_15 rfl ?_
    refine V_callVi (pc := 61) hG (dk dd_X9_hum 29 rfl) ml_X9_178 mo_X2_by sh_15 rfl (c_by (α := α) co_now (abs_keep (μ := μ) hA (p5.1 ▸ p42.2)) hv hx hh (D := α 0 3) (e_c (abs_keep (μ := μ) hA (p5.1 ▸ p42.2)) (by decide)) hv.D) (by decide) (by decide) rfl rfl rfl ?_
    refine V_putI (pc := 64) hG (dk dd_X9_hum 30 rfl) fl_X9_175 sh_15 rfl rfl ?_
    refine V_aload_n (pc := 67) hG (dk dd_X9_hum 31 rfl) rfl ?_
    refine V_getR (pc := 68) hG (dk dd_X9_hum 32 rfl) fl_X9_26 sh_0 rfl ?_
    refine V_dup (pc := 71) hG (dk dd_X9_hum 33 rfl) rfl ?_
    refine V_getI (pc := 72) hG (dk dd_X9_hum 34 rfl) fl_X9_166 sh_15 rfl ?_
    refine V_iconst (pc := 75) hG (dk dd_X9_hum 35 rfl) (v := 1) (by decide) ?_
    refine V_iadd (pc := 76) hG (dk dd_X9_hum 36 rfl) ?_
    refine V_putI (pc := 77) hG (dk dd_X9_hum 37 rfl) fl_X9_166 sh_15 rfl rfl ?_
    refine V_aload_n (pc := 80) hG (dk dd_X9_hum 38 rfl) rfl ?_
    refine V_getR (pc := 81) hG (dk dd_X9_hum 39 rfl) fl_X9_26 sh_0 rfl ?_
    refine V_getI (pc := 84) hG (dk dd_X9_hum 40 rfl) fl_X9_175 sh_15 rfl ?_
    refine V_iretP (pc := 87) hG (dk dd_X9_hum 41 rfl) hR (Pi.mk ?_)
    rotate_left
    refine V_ldc (pc := 31) hG (dk dd_X9_hum 14 rfl) kk_X9_127 ?_
    refine V_iretP (pc := 33) hG (dk dd_X9_hum 15 rfl) hR (Pi.mk ?_)
    rotate_left
    rotate_left
    -- leaves: return@87; return@33; stop 11
    · rw [p5.1] at h28 p42
      have hA2 := abs_keep hA p42.2
      have e4' := e_c hA2 (i := 4) (by decide)
      rw [e4, e2] at h28
      have lt := (nI_ltI (by omega) (by omega)).mp h28
      have ef : humF α x = (nI (humN α x.toNatClampNeg (α 0 3)), some (humA α x.toNatClampNeg)) := by unfold humF; rw [if_pos hi, if_neg (by omega)]
      rw [ef]
      simp only [setc_s, setc_c]
      refine ⟨by rw [upd_n (by decide), upd_s], Or.inr ⟨_, rfl, ActC.of p42 (fun a ha => setc_n (by omega)) ?_⟩⟩
      rw [upd_n (by decide)]
      have h3 := kac_put (b := 15) (i := 4) (x := m42 15 4 + 1) (v := α 0 4 + 1) (kac_put (b := 15) (i := 3) (v := humN α x.toNatClampNeg (α 0 3)) hA2 (by decide) rfl) (by decide) (by rw [e4', nI_1])
      rw [setc_c, setc_s] at h3
      exact h3
    · rw [p5.1, e4, e2] at h28
      have ge : ¬ α 0 4 < α 0 2 := fun q => h28 ((nI_ltI (by omega) (by omega)).mpr q)
      have ef : humF α x = (-1000003, none) := by unfold humF; rw [if_pos hi, if_pos (by omega)]
      rw [ef]; exact ⟨rfl, Or.inl ⟨rfl, p5.1⟩⟩
    · exact absurd hi (p5.2.no h8)
  · have ef : humF α x = (-1000001, none) := by unfold humF; rw [if_neg hi]
    refine V_aload_n (pc := 0) hG (dk dd_X9_hum 0 rfl) rfl ?_
    refine V_getR (pc := 1) hG (dk dd_X9_hum 1 rfl) fl_X9_26 sh_0 rfl ?_
    refine V_iload_n (pc := 4) hG (dk dd_X9_hum 2 rfl) rfl ?_
    refine V_callVip (pc := 5) hG (dk dd_X9_hum 3 rfl) ml_X9_163 mo_X2_isHum sh_15 rfl (k_isHum hA) (by decide) (by decide) rfl rfl rfl (fun x5 m5 p5 => ?_)
    refine V_if_ne (pc := 8) hG (dk dd_X9_hum 4 rfl) (tgt := 14) (by decide) (fun h8 => ?_) (fun h8 => ?_)
    rotate_left
    refine V_ldc (pc := 11) hG (dk dd_X9_hum 5 rfl) kk_X9_90 ?_
    refine V_iretP (pc := 13) hG (dk dd_X9_hum 6 rfl) hR (Pi.mk ?_)
    rotate_left
    -- leaves: stop 14; return@13
    · exact absurd (p5.2.yes h8) hi
    · rw [ef]; exact ⟨rfl, Or.inl ⟨rfl, p5.1⟩⟩
theorem hrd_eq (α : Al) (c : Nat) : updA (updA (updA (updA α 7 c (verN α c (α 0 3))) 0 3 (heaN α c (α 0 3))) 0 5 (α 0 5 + 1)) 0 4 0 = hrdA α c := by
  funext y i
  unfold updA hrdA
  by_cases h0 : y = 0
  · subst h0
    by_cases h4 : i = 4
    · subst h4; simp
    · by_cases h5 : i = 5
      · subst h5; simp
      · by_cases h3 : i = 3
        · subst h3; simp
        · simp [h3, h4, h5]
  · by_cases h7 : y = 7 ∧ i = c
    · obtain ⟨rfl, rfl⟩ := h7; simp
    · simp [h0, h7]
theorem judN_sw (α : Al) (c v D : Nat) (d : Nat) : verN (updA α 7 c v) d D = verN α d D := rfl
theorem val_way {α : Al} (hv : Val α) {c v : Nat} (h4 : v < 4) : Val (updA α 7 c v) := by
  obtain ⟨a1, a2, a3, a4, a5, a6, a7, a8, a9⟩ := hv
  refine ⟨a1, a2, a3, a4, a5, a6, a7, a8, fun d hd => ?_⟩
  obtain ⟨b1, b2, b3, b4⟩ := a9 d hd
  refine ⟨b1, b2, b3, ?_⟩
  unfold updA; split
  · exact h4
  · exact b4
theorem j_hear {μ : Mem} {α : Al} {As : Nat → Al} {L nx : Nat} (hA : Abs (kac μ 15) α) (hz : Vz α) (hR0 : Ring μ As L nx) (hO : AsO As L) {x : Int32} : CtP yX9_hear cX9_hear 3 (some .int) 5 [vR 0, vI x] μ (Pi (fun r μ' => r = (heaF α x).1 ∧ OutC μ As L α (heaF α x).2 μ')) := by
  refine CtP.go RX9 rfl pn_X9 (Nat.le_of_ble_eq_true rfl) (fun C hG hR => ?_)
  have hC := hz.C
  by_cases hi : inN x (α 0 7)
  · obtain ⟨hx, hh⟩ := hi.n (by omega)
    have hv := hz.vc hh
    have k7 := (hv.c hh).2.2.2
    have rx : vp_in x 5 := in_nI hx (by omega) (by decide)
    have e7 : μ 22 x.toNatClampNeg = nI (α 7 x.toNatClampNeg) := e_cs (y := 7) hA (by decide) (by decide) hh
    have vl := verN_lt α x.toNatClampNeg (α 0 3)
    have way : ∀ m, Abs (kac m 15) α → Abs (kac (setc m 22 (upd (m 22) x.toNatClampNeg (nI (verN α x.toNatClampNeg (α 0 3))))) 15) (updA α 7 x.toNatClampNeg (verN α x.toNatClampNeg (α 0 3))) := fun m h => kac_arr (b := 15) (y0 := 7) h (by decide) (by decide) rfl
    refine V_aload_n (pc := 0) hG (dk dd_X9_hear 0 rfl) rfl ?_
    refine V_getR (pc := 1) hG (dk dd_X9_hear 1 rfl) fl_X9_26 sh_0 rfl ?_
    refine V_iload_n (pc := 4) hG (dk dd_X9_hear 2 rfl) rfl ?_
    refine V_callVip (pc := 5) hG (dk dd_X9_hear 3 rfl) ml_X9_182 mo_X2_isCase sh_15 rfl (k_isCase hA) (by decide) (by decide) rfl rfl rfl (fun x5 m5 p5 => ?_)
    refine V_if_ne (pc := 8) hG (dk dd_X9_hear 4 rfl) (tgt := 14) (by decide) (fun h8 => ?_) (fun h8 => ?_)
    refine V_aload_n (pc := 14) hG (dk dd_X9_hear 7 rfl) rfl ?_
    refine V_getR (pc := 15) hG (dk dd_X9_hear 8 rfl) fl_X9_26 sh_0 rfl ?_
    refine V_getR (pc := 18) hG (dk dd_X9_hear 9 rfl) fl_X9_185 sh_15 rfl ?_
    refine V_iload_n (pc := 21) hG (dk dd_X9_hear 10 rfl) rfl ?_
    refine V_iald (pc := 22) hG (dk dd_X9_hear 11 rfl) sh_22 rx ?_
    refine V_if_eq (pc := 23) hG (dk dd_X9_hear 12 rfl) (tgt := 29) (by decide) (fun h23 => ?_) (fun h23 => ?_)
    refine V_aload_n (pc := 29) hG (dk dd_X9_hear 15 rfl) rfl ?_
    refine V_getR (pc := 30) hG (dk dd_X9_hear 16 rfl) fl_X9_45 sh_0 rfl ?_
    refine V_aload_n (pc := 33) hG (dk dd_X9_hear 17 rfl) rfl ?_
    refine V_getR (pc := 34) hG (dk dd_X9_hear 18 rfl) fl_X9_26 sh_0 rfl ?_
    refine V_callVvp (pc := 37) hG (dk dd_X9_hear 19 rfl) ml_X9_172 mo_X0_keep sh_32 rfl (c_keep (α := α) (As := As) (L := L) (nx := nx) (by rw [p5.1]; exact hA) hz.H hC (by rw [p5.1]; exact hR0) hO) (by decide) (by decide) rfl rfl rfl (fun m37 p37 => ?_)
    refine V_aload_n (pc := 40) hG (dk dd_X9_hear 20 rfl) rfl ?_
    refine V_getR (pc := 41) hG (dk dd_X9_hear 21 rfl) fl_X9_26 sh_0 rfl ?_
    refine V_iload_n (pc := 44) hG (dk dd_X9_hear 22 rfl) rfl ?_
    refine V_aload_n (pc := 45) hG (dk dd_X9_hear 23 rfl) rfl ?_
    refine V_getR (pc := 46) hG (dk dd_X9_hear 24 rfl) fl_X9_26 sh_0 rfl ?_
    refine V_getI (pc := 49) hG (dk dd_X9_hear 25 rfl) fl_X9_175 sh_15 rfl ?_
    refine V_callVi (pc := 52) hG (dk dd_X9_hear 26 rfl) ml_X9_189 mo_X2_verdict sh_15 rfl (c_verdict (α := α) co_now (abs_keep (μ := μ) hA (p5.1 ▸ p37.2)) hv hx hh (D := α 0 3) (e_c (abs_keep (μ := μ) hA (p5.1 ▸ p37.2)) (by decide)) hv.D) (by decide) (by decide) rfl rfl rfl ?_
    refine V_istore_n (pc := 55) hG (dk dd_X9_hear 27 rfl) (by decide) (lv' := [(0, _), (1, _), (2, _)]) rfl ?_
    refine V_aload_n (pc := 56) hG (dk dd_X9_hear 28 rfl) rfl ?_
    refine V_getR (pc := 57) hG (dk dd_X9_hear 29 rfl) fl_X9_26 sh_0 rfl ?_
    refine V_getR (pc := 60) hG (dk dd_X9_hear 30 rfl) fl_X9_185 sh_15 rfl ?_
    refine V_iload_n (pc := 63) hG (dk dd_X9_hear 31 rfl) rfl ?_
    refine V_iload_n (pc := 64) hG (dk dd_X9_hear 32 rfl) rfl ?_
    refine V_iast (pc := 65) hG (dk dd_X9_hear 33 rfl) sh_22 rx ?_
    refine V_aload_n (pc := 66) hG (dk dd_X9_hear 34 rfl) rfl ?_
    refine V_getR (pc := 67) hG (dk dd_X9_hear 35 rfl) fl_X9_26 sh_0 rfl ?_
    refine V_aload_n (pc := 70) hG (dk dd_X9_hear 36 rfl) rfl ?_
    refine V_getR (pc := 71) hG (dk dd_X9_hear 37 rfl) fl_X9_26 sh_0 rfl ?_
    refine V_iload_n (pc := 74) hG (dk dd_X9_hear 38 rfl) rfl ?_
    refine V_aload_n (pc := 75) hG (dk dd_X9_hear 39 rfl) rfl ?_
    refine V_getR (pc := 76) hG (dk dd_X9_hear 40 rfl) fl_X9_26 sh_0 rfl ?_
    refine V_getI (pc := 79) hG (dk dd_X9_hear 41 rfl) fl_X9_175 sh_15 rfl ?_
    refine V_callVi (pc := 82) hG (dk dd_X9_hear 42 rfl) ml_X9_192 mo_X2_dreamHeard sh_15 rfl (c_dreamHeard (α := updA α 7 x.toNatClampNeg (verN α x.toNatClampNeg (α 0 3))) co_now (way _ (abs_keep (μ := μ) hA (p5.1 ▸ p37.2))) (val_way hv (by omega)) hx hh (D := α 0 3) (e_c (way _ (abs_keep (μ := μ) hA (p5.1 ▸ p37.2))) (i := 3) (by decide)) hv.D) (by decide) (by decide) rfl rfl rfl ?_
    refine V_putI (pc := 85) hG (dk dd_X9_hear 43 rfl) fl_X9_175 sh_15 rfl rfl ?_
    refine V_aload_n (pc := 88) hG (dk dd_X9_hear 44 rfl) rfl ?_
    refine V_getR (pc := 89) hG (dk dd_X9_hear 45 rfl) fl_X9_26 sh_0 rfl ?_
    refine V_dup (pc := 92) hG (dk dd_X9_hear 46 rfl) rfl ?_
    refine V_getI (pc := 93) hG (dk dd_X9_hear 47 rfl) fl_X9_195 sh_15 rfl ?_
    refine V_iconst (pc := 96) hG (dk dd_X9_hear 48 rfl) (v := 1) (by decide) ?_
    refine V_iadd (pc := 97) hG (dk dd_X9_hear 49 rfl) ?_
    refine V_putI (pc := 98) hG (dk dd_X9_hear 50 rfl) fl_X9_195 sh_15 rfl rfl ?_
    refine V_aload_n (pc := 101) hG (dk dd_X9_hear 51 rfl) rfl ?_
    refine V_getR (pc := 102) hG (dk dd_X9_hear 52 rfl) fl_X9_26 sh_0 rfl ?_
    refine V_iconst (pc := 105) hG (dk dd_X9_hear 53 rfl) (v := 0) (by decide) ?_
    refine V_putI (pc := 106) hG (dk dd_X9_hear 54 rfl) fl_X9_166 sh_15 rfl rfl ?_
    refine V_iload_n (pc := 109) hG (dk dd_X9_hear 55 rfl) rfl ?_
    refine V_iretP (pc := 110) hG (dk dd_X9_hear 56 rfl) hR (Pi.mk ?_)
    rotate_left
    refine V_ldc (pc := 26) hG (dk dd_X9_hear 13 rfl) kk_X9_158 ?_
    refine V_iretP (pc := 28) hG (dk dd_X9_hear 14 rfl) hR (Pi.mk ?_)
    rotate_left
    rotate_left
    -- leaves: return@110; return@28; stop 11
    · rw [p5.1] at h23 p37
      have hA2 := abs_keep hA p37.2
      rw [e7] at h23
      have z0 := (nI_eq (b := 0) (by omega) (by decide)).mp h23
      have ef : heaF α x = (nI (verN α x.toNatClampNeg (α 0 3)), some (hrdA α x.toNatClampNeg)) := by unfold heaF; rw [if_pos hi, if_pos z0]
      rw [ef]
      simp only [setc_s, setc_c]
      refine ⟨trivial, Or.inr ⟨_, rfl, ActC.of p37 (fun a ha => by rw [setc_n (by omega), setc_n (by omega)]) ?_⟩⟩
      have h1 := way m37 hA2
      have h2 := kac_put (b := 15) (i := 3) (v := heaN α x.toNatClampNeg (α 0 3)) h1 (by decide) rfl
      have h3 := kac_put (b := 15) (i := 5) (v := α 0 5 + 1) (x := m37 15 5 + 1) h2 (by decide) (by rw [e_c hA2 (i := 5) (by decide), nI_1])
      have h4 := kac_put (b := 15) (i := 4) (v := 0) (x := 0) h3 (by decide) rfl
      rw [hrd_eq] at h4
      simp only [setc_s, setc_c] at h4
      exact h4
    · rw [p5.1, e7] at h23
      have z0 : α 7 x.toNatClampNeg ≠ 0 := fun q => h23 (by rw [q]; rfl)
      have ef : heaF α x = (-1000002, none) := by unfold heaF; rw [if_pos hi, if_neg z0]
      rw [ef]; exact ⟨rfl, Or.inl ⟨rfl, p5.1⟩⟩
    · exact absurd hi (p5.2.no h8)
  · have ef : heaF α x = (-1000001, none) := by unfold heaF; rw [if_neg hi]
    refine V_aload_n (pc := 0) hG (dk dd_X9_hear 0 rfl) rfl ?_
    refine V_getR (pc := 1) hG (dk dd_X9_hear 1 rfl) fl_X9_26 sh_0 rfl ?_
    refine V_iload_n (pc := 4) hG (dk dd_X9_hear 2 rfl) rfl ?_
    refine V_callVip (pc := 5) hG (dk dd_X9_hear 3 rfl) ml_X9_182 mo_X2_isCase sh_15 rfl (k_isCase hA) (by decide) (by decide) rfl rfl rfl (fun x5 m5 p5 => ?_)
    refine V_if_ne (pc := 8) hG (dk dd_X9_hear 4 rfl) (tgt := 14) (by decide) (fun h8 => ?_) (fun h8 => ?_)
    rotate_left
    refine V_ldc (pc := 11) hG (dk dd_X9_hear 5 rfl) kk_X9_90 ?_
    refine V_iretP (pc := 13) hG (dk dd_X9_hear 6 rfl) hR (Pi.mk ?_)
    rotate_left
    -- leaves: stop 14; return@13
    · exact absurd (p5.2.yes h8) hi
    · rw [ef]; exact ⟨rfl, Or.inl ⟨rfl, p5.1⟩⟩
theorem j_appeal {μ : Mem} {α : Al} {As : Nat → Al} {L nx : Nat} (hA : Abs (kac μ 15) α) (hz : Vz α) (hR0 : Ring μ As L nx) (hO : AsO As L) {x : Int32} : CtP yX9_appeal cX9_appeal 3 (some .int) 2 [vR 0, vI x] μ (Pi (fun r μ' => r = (appF α x).1 ∧ OutC μ As L α (appF α x).2 μ')) := by
  refine CtP.go RX9 rfl pn_X9 (Nat.le_of_ble_eq_true rfl) (fun C hG hR => ?_)
  have hC := hz.C
  by_cases hi : inN x (α 0 7)
  · obtain ⟨hx, hh⟩ := hi.n (by omega)
    have hv := hz.vc hh
    have k7 := (hv.c hh).2.2.2
    have rx : vp_in x 5 := in_nI hx (by omega) (by decide)
    have e7 : μ 22 x.toNatClampNeg = nI (α 7 x.toNatClampNeg) := e_cs (y := 7) hA (by decide) (by decide) hh
    have jl : judN α x.toNatClampNeg (α 0 3) < 3 := by unfold judN; split; decide; split <;> decide
    refine V_aload_n (pc := 0) hG (dk dd_X9_appeal 0 rfl) rfl ?_
    refine V_getR (pc := 1) hG (dk dd_X9_appeal 1 rfl) fl_X9_26 sh_0 rfl ?_
    refine V_iload_n (pc := 4) hG (dk dd_X9_appeal 2 rfl) rfl ?_
    refine V_callVip (pc := 5) hG (dk dd_X9_appeal 3 rfl) ml_X9_182 mo_X2_isCase sh_15 rfl (k_isCase hA) (by decide) (by decide) rfl rfl rfl (fun x5 m5 p5 => ?_)
    refine V_if_ne (pc := 8) hG (dk dd_X9_appeal 4 rfl) (tgt := 14) (by decide) (fun h8 => ?_) (fun h8 => ?_)
    refine V_aload_n (pc := 14) hG (dk dd_X9_appeal 7 rfl) rfl ?_
    refine V_getR (pc := 15) hG (dk dd_X9_appeal 8 rfl) fl_X9_26 sh_0 rfl ?_
    refine V_getR (pc := 18) hG (dk dd_X9_appeal 9 rfl) fl_X9_185 sh_15 rfl ?_
    refine V_iload_n (pc := 21) hG (dk dd_X9_appeal 10 rfl) rfl ?_
    refine V_iald (pc := 22) hG (dk dd_X9_appeal 11 rfl) sh_22 rx ?_
    refine V_iconst (pc := 23) hG (dk dd_X9_appeal 12 rfl) (v := 2) (by decide) ?_
    refine V_icmp_eq (pc := 24) hG (dk dd_X9_appeal 13 rfl) (tgt := 30) (by decide) (fun h24 => ?_) (fun h24 => ?_)
    refine V_aload_n (pc := 30) hG (dk dd_X9_appeal 16 rfl) rfl ?_
    refine V_getR (pc := 31) hG (dk dd_X9_appeal 17 rfl) fl_X9_45 sh_0 rfl ?_
    refine V_aload_n (pc := 34) hG (dk dd_X9_appeal 18 rfl) rfl ?_
    refine V_getR (pc := 35) hG (dk dd_X9_appeal 19 rfl) fl_X9_26 sh_0 rfl ?_
    refine V_callVvp (pc := 38) hG (dk dd_X9_appeal 20 rfl) ml_X9_172 mo_X0_keep sh_32 rfl (c_keep (α := α) (As := As) (L := L) (nx := nx) (by rw [p5.1]; exact hA) hz.H hC (by rw [p5.1]; exact hR0) hO) (by decide) (by decide) rfl rfl rfl (fun m38 p38 => ?_)
    refine V_aload_n (pc := 41) hG (dk dd_X9_appeal 21 rfl) rfl ?_
    refine V_getR (pc := 42) hG (dk dd_X9_appeal 22 rfl) fl_X9_26 sh_0 rfl ?_
    refine V_iload_n (pc := 45) hG (dk dd_X9_appeal 23 rfl) rfl ?_
    refine V_aload_n (pc := 46) hG (dk dd_X9_appeal 24 rfl) rfl ?_
    refine V_getR (pc := 47) hG (dk dd_X9_appeal 25 rfl) fl_X9_26 sh_0 rfl ?_
    refine V_getI (pc := 50) hG (dk dd_X9_appeal 26 rfl) fl_X9_175 sh_15 rfl ?_
    refine V_callVi (pc := 53) hG (dk dd_X9_appeal 27 rfl) ml_X9_198 mo_X2_judged sh_15 rfl (c_judged (α := α) co_now (abs_keep (μ := μ) hA (p5.1 ▸ p38.2)) hv hx hh (D := α 0 3) (e_c (abs_keep (μ := μ) hA (p5.1 ▸ p38.2)) (by decide)) hv.D) (by decide) (by decide) rfl rfl rfl ?_
    refine V_iconst (pc := 56) hG (dk dd_X9_appeal 28 rfl) (v := 1) (by decide) ?_
    refine V_icmp_ne (pc := 57) hG (dk dd_X9_appeal 29 rfl) (tgt := 64) (by decide) (fun h57 => ?_) (fun h57 => ?_)
    refine V_iconst (pc := 64) hG (dk dd_X9_appeal 32 rfl) (v := 0) (by decide) ?_
    refine V_istore_n (pc := 65) hG (dk dd_X9_appeal 33 rfl) (by decide) (lv' := [(0, _), (1, _), (2, _)]) rfl ?_
    refine V_aload_n (pc := 66) hG (dk dd_X9_appeal 34 rfl) rfl ?_
    refine V_getR (pc := 67) hG (dk dd_X9_appeal 35 rfl) fl_X9_26 sh_0 rfl ?_
    refine V_getR (pc := 70) hG (dk dd_X9_appeal 36 rfl) fl_X9_185 sh_15 rfl ?_
    refine V_iload_n (pc := 73) hG (dk dd_X9_appeal 37 rfl) rfl ?_
    refine V_iload_n (pc := 74) hG (dk dd_X9_appeal 38 rfl) rfl ?_
    refine V_if_eq (pc := 75) hG (dk dd_X9_appeal 39 rfl) (tgt := 82) (by decide) (fun h75 => ?_) (fun h75 => ?_)
    refine V_iconst (pc := 82) hG (dk dd_X9_appeal 42 rfl) (v := 3) (by decide) ?_
    refine V_iast (pc := 83) hG (dk dd_X9_appeal 43 rfl) sh_22 rx ?_
    refine V_iload_n (pc := 84) hG (dk dd_X9_appeal 44 rfl) rfl ?_
    refine V_if_eq (pc := 85) hG (dk dd_X9_appeal 45 rfl) (tgt := 92) (by decide) (fun h85 => ?_) (fun h85 => ?_)
    refine V_iconst (pc := 92) hG (dk dd_X9_appeal 48 rfl) (v := 0) (by decide) ?_
    refine V_iretP (pc := 93) hG (dk dd_X9_appeal 49 rfl) hR (Pi.mk ?_)
    rotate_left
    refine V_iconst (pc := 88) hG (dk dd_X9_appeal 46 rfl) (v := 1) (by decide) ?_
    refine V_goto (pc := 89) hG (dk dd_X9_appeal 47 rfl) (tgt := 93) (by decide) ?_
    refine V_iretP (pc := 93) hG (dk dd_X9_appeal 49 rfl) hR (Pi.mk ?_)
    rotate_left
    refine V_iconst (pc := 78) hG (dk dd_X9_appeal 40 rfl) (v := 0) (by decide) ?_
    refine V_goto (pc := 79) hG (dk dd_X9_appeal 41 rfl) (tgt := 83) (by decide) ?_
    refine V_iast (pc := 83) hG (dk dd_X9_appeal 43 rfl) sh_22 rx ?_
    refine V_iload_n (pc := 84) hG (dk dd_X9_appeal 44 rfl) rfl ?_
    refine V_if_eq (pc := 85) hG (dk dd_X9_appeal 45 rfl) (tgt := 92) (by decide) (fun h85 => ?_) (fun h85 => ?_)
    refine V_iconst (pc := 92) hG (dk dd_X9_appeal 48 rfl) (v := 0) (by decide) ?_
    refine V_iretP (pc := 93) hG (dk dd_X9_appeal 49 rfl) hR (Pi.mk ?_)
    rotate_left
    refine V_iconst (pc := 88) hG (dk dd_X9_appeal 46 rfl) (v := 1) (by decide) ?_
    refine V_goto (pc := 89) hG (dk dd_X9_appeal 47 rfl) (tgt := 93) (by decide) ?_
    refine V_iretP (pc := 93) hG (dk dd_X9_appeal 49 rfl) hR (Pi.mk ?_)
    rotate_left
    refine V_iconst (pc := 60) hG (dk dd_X9_appeal 30 rfl) (v := 1) (by decide) ?_
    refine V_goto (pc := 61) hG (dk dd_X9_appeal 31 rfl) (tgt := 65) (by decide) ?_
    refine V_istore_n (pc := 65) hG (dk dd_X9_appeal 33 rfl) (by decide) (lv' := [(0, _), (1, _), (2, _)]) rfl ?_
    refine V_aload_n (pc := 66) hG (dk dd_X9_appeal 34 rfl) rfl ?_
    refine V_getR (pc := 67) hG (dk dd_X9_appeal 35 rfl) fl_X9_26 sh_0 rfl ?_
    refine V_getR (pc := 70) hG (dk dd_X9_appeal 36 rfl) fl_X9_185 sh_15 rfl ?_
    refine V_iload_n (pc := 73) hG (dk dd_X9_appeal 37 rfl) rfl ?_
    refine V_iload_n (pc := 74) hG (dk dd_X9_appeal 38 rfl) rfl ?_
    refine V_if_eq (pc := 75) hG (dk dd_X9_appeal 39 rfl) (tgt := 82) (by decide) (fun h75 => ?_) (fun h75 => ?_)
    refine V_iconst (pc := 82) hG (dk dd_X9_appeal 42 rfl) (v := 3) (by decide) ?_
    refine V_iast (pc := 83) hG (dk dd_X9_appeal 43 rfl) sh_22 rx ?_
    refine V_iload_n (pc := 84) hG (dk dd_X9_appeal 44 rfl) rfl ?_
    refine V_if_eq (pc := 85) hG (dk dd_X9_appeal 45 rfl) (tgt := 92) (by decide) (fun h85 => ?_) (fun h85 => ?_)
    refine V_iconst (pc := 92) hG (dk dd_X9_appeal 48 rfl) (v := 0) (by decide) ?_
    refine V_iretP (pc := 93) hG (dk dd_X9_appeal 49 rfl) hR (Pi.mk ?_)
    rotate_left
    refine V_iconst (pc := 88) hG (dk dd_X9_appeal 46 rfl) (v := 1) (by decide) ?_
    refine V_goto (pc := 89) hG (dk dd_X9_appeal 47 rfl) (tgt := 93) (by decide) ?_
    refine V_iretP (pc := 93) hG (dk dd_X9_appeal 49 rfl) hR (Pi.mk ?_)
    rotate_left
    refine V_iconst (pc := 78) hG (dk dd_X9_appeal 40 rfl) (v := 0) (by decide) ?_
    refine V_goto (pc := 79) hG (dk dd_X9_appeal 41 rfl) (tgt := 83) (by decide) ?_
    refine V_iast (pc := 83) hG (dk dd_X9_appeal 43 rfl) sh_22 rx ?_
    refine V_iload_n (pc := 84) hG (dk dd_X9_appeal 44 rfl) rfl ?_
    refine V_if_eq (pc := 85) hG (dk dd_X9_appeal 45 rfl) (tgt := 92) (by decide) (fun h85 => ?_) (fun h85 => ?_)
    refine V_iconst (pc := 92) hG (dk dd_X9_appeal 48 rfl) (v := 0) (by decide) ?_
    refine V_iretP (pc := 93) hG (dk dd_X9_appeal 49 rfl) hR (Pi.mk ?_)
    rotate_left
    refine V_iconst (pc := 88) hG (dk dd_X9_appeal 46 rfl) (v := 1) (by decide) ?_
    refine V_goto (pc := 89) hG (dk dd_X9_appeal 47 rfl) (tgt := 93) (by decide) ?_
    refine V_iretP (pc := 93) hG (dk dd_X9_appeal 49 rfl) hR (Pi.mk ?_)
    rotate_left
    refine V_ldc (pc := 27) hG (dk dd_X9_appeal 14 rfl) kk_X9_158 ?_
    refine V_iretP (pc := 29) hG (dk dd_X9_appeal 15 rfl) hR (Pi.mk ?_)
    rotate_left
    rotate_left
    -- leaves: return@93; return@93; return@93; return@93; return@93; return@93; return@93; return@93; return@29; stop 11
    all_goals (first | exact absurd hi (p5.2.no h8) | skip)
    all_goals (rw [p5.1, e7] at h24)
    · have z0 := (nI_eq (b := 2) (by omega) (by decide)).mp h24
      rw [p5.1] at p38
      have hA2 := abs_keep hA p38.2
      have ef : appF α x = (0, some (updA α 7 x.toNatClampNeg 3)) := by unfold appF; rw [if_pos hi, if_pos z0, if_neg (fun q => h57 (by rw [q]; rfl))]
      rw [ef]
      exact ⟨rfl, Or.inr ⟨_, rfl, ActC.of p38 (fun a ha => setc_n (by omega)) (kac_arr (b := 15) (y0 := 7) (v := 3) hA2 (by decide) (by decide) rfl)⟩⟩
    all_goals (first | exact absurd rfl h75 | exact absurd rfl h85 | exact absurd h75 (by decide) | exact absurd h85 (by decide) | skip)
    · have z0 := (nI_eq (b := 2) (by omega) (by decide)).mp h24
      rw [p5.1] at p38
      have hA2 := abs_keep hA p38.2
      have ef : appF α x = (1, some (updA α 7 x.toNatClampNeg 0)) := by unfold appF; rw [if_pos hi, if_pos z0, if_pos ((nI_eq (b := 1) (by omega) (by decide)).mp h57)]
      rw [ef]
      exact ⟨rfl, Or.inr ⟨_, rfl, ActC.of p38 (fun a ha => setc_n (by omega)) (kac_arr (b := 15) (y0 := 7) (v := 0) hA2 (by decide) (by decide) rfl)⟩⟩
    · have z0 : α 7 x.toNatClampNeg ≠ 2 := fun q => h24 (by rw [q]; rfl)
      have ef : appF α x = (-1000002, none) := by unfold appF; rw [if_pos hi, if_neg z0]
      rw [ef]; exact ⟨rfl, Or.inl ⟨rfl, p5.1⟩⟩
  · have ef : appF α x = (-1000001, none) := by unfold appF; rw [if_neg hi]
    refine V_aload_n (pc := 0) hG (dk dd_X9_appeal 0 rfl) rfl ?_
    refine V_getR (pc := 1) hG (dk dd_X9_appeal 1 rfl) fl_X9_26 sh_0 rfl ?_
    refine V_iload_n (pc := 4) hG (dk dd_X9_appeal 2 rfl) rfl ?_
    refine V_callVip (pc := 5) hG (dk dd_X9_appeal 3 rfl) ml_X9_182 mo_X2_isCase sh_15 rfl (k_isCase hA) (by decide) (by decide) rfl rfl rfl (fun x5 m5 p5 => ?_)
    refine V_if_ne (pc := 8) hG (dk dd_X9_appeal 4 rfl) (tgt := 14) (by decide) (fun h8 => ?_) (fun h8 => ?_)
    rotate_left
    refine V_ldc (pc := 11) hG (dk dd_X9_appeal 5 rfl) kk_X9_90 ?_
    refine V_iretP (pc := 13) hG (dk dd_X9_appeal 6 rfl) hR (Pi.mk ?_)
    rotate_left
    -- leaves: stop 14; return@13
    · exact absurd (p5.2.yes h8) hi
    · rw [ef]; exact ⟨rfl, Or.inl ⟨rfl, p5.1⟩⟩
theorem j_forget {μ : Mem} {α : Al} {As : Nat → Al} {L nx : Nat} (hA : Abs (kac μ 15) α) (hz : Vz α) (hR0 : Ring μ As L nx) (hO : AsO As L) {x : Int32} : CtP yX9_forget cX9_forget 2 (some .int) 2 [vR 0, vI x] μ (Pi (fun r μ' => r = (fogF α x).1 ∧ OutC μ As L α (fogF α x).2 μ')) := by
  refine CtP.go RX9 rfl pn_X9 (Nat.le_of_ble_eq_true rfl) (fun C hG hR => ?_)
  have ht := hz.t
  by_cases hi : inN x (α 0 0)
  · obtain ⟨hx, hh⟩ := hi.n (by omega)
    have hv := hz.vt hh
    have hD := hv.lt hv.D
    have e3 := e_c hA (i := 3) (by decide)
    have tb : (nI (α 0 3) >>> (x &&& 31)) &&& 1 = 0 ↔ (α 0 3).testBit x.toNatClampNeg = false := by
      have := q_t1 (D := α 0 3) (K := x.toNatClampNeg) hD (by omega)
      rw [← hx] at this; exact this
    refine V_aload_n (pc := 0) hG (dk dd_X9_forget 0 rfl) rfl ?_
    refine V_getR (pc := 1) hG (dk dd_X9_forget 1 rfl) fl_X9_26 sh_0 rfl ?_
    refine V_iload_n (pc := 4) hG (dk dd_X9_forget 2 rfl) rfl ?_
    refine V_callVip (pc := 5) hG (dk dd_X9_forget 3 rfl) ml_X9_201 mo_X2_isThing sh_15 rfl (k_isThing hA) (by decide) (by decide) rfl rfl rfl (fun x5 m5 p5 => ?_)
    refine V_if_ne (pc := 8) hG (dk dd_X9_forget 4 rfl) (tgt := 14) (by decide) (fun h8 => ?_) (fun h8 => ?_)
    refine V_aload_n (pc := 14) hG (dk dd_X9_forget 7 rfl) rfl ?_
    refine V_getR (pc := 15) hG (dk dd_X9_forget 8 rfl) fl_X9_26 sh_0 rfl ?_
    refine V_getI (pc := 18) hG (dk dd_X9_forget 9 rfl) fl_X9_175 sh_15 rfl ?_
    refine V_iload_n (pc := 21) hG (dk dd_X9_forget 10 rfl) rfl ?_
    refine V_ishr (pc := 22) hG (dk dd_X9_forget 11 rfl) ?_
    refine V_iconst (pc := 23) hG (dk dd_X9_forget 12 rfl) (v := 1) (by decide) ?_
    refine V_iand (pc := 24) hG (dk dd_X9_forget 13 rfl) ?_
    refine V_if_ne (pc := 25) hG (dk dd_X9_forget 14 rfl) (tgt := 31) (by decide) (fun h25 => ?_) (fun h25 => ?_)
    refine V_aload_n (pc := 31) hG (dk dd_X9_forget 17 rfl) rfl ?_
    refine V_getR (pc := 32) hG (dk dd_X9_forget 18 rfl) fl_X9_45 sh_0 rfl ?_
    refine V_aload_n (pc := 35) hG (dk dd_X9_forget 19 rfl) rfl ?_
    refine V_getR (pc := 36) hG (dk dd_X9_forget 20 rfl) fl_X9_26 sh_0 rfl ?_
    refine V_callVvp (pc := 39) hG (dk dd_X9_forget 21 rfl) ml_X9_172 mo_X0_keep sh_32 rfl (c_keep (α := α) (As := As) (L := L) (nx := nx) (by rw [p5.1]; exact hA) hz.H hz.C (by rw [p5.1]; exact hR0) hO) (by decide) (by decide) rfl rfl rfl (fun m39 p39 => ?_)
    refine V_aload_n (pc := 42) hG (dk dd_X9_forget 22 rfl) rfl ?_
    refine V_getR (pc := 43) hG (dk dd_X9_forget 23 rfl) fl_X9_26 sh_0 rfl ?_
    refine V_dup (pc := 46) hG (dk dd_X9_forget 24 rfl) rfl ?_
    refine V_getI (pc := 47) hG (dk dd_X9_forget 25 rfl) fl_X9_175 sh_15 rfl ?_
    refine V_iconst (pc := 50) hG (dk dd_X9_forget 26 rfl) (v := 1) (by decide) ?_
    refine V_iload_n (pc := 51) hG (dk dd_X9_forget 27 rfl) rfl ?_
    refine V_ishl (pc := 52) hG (dk dd_X9_forget 28 rfl) ?_
    refine V_iconst (pc := 53) hG (dk dd_X9_forget 29 rfl) (v := -1) (by decide) ?_
    refine V_ixor (pc := 54) hG (dk dd_X9_forget 30 rfl) ?_
    refine V_iand (pc := 55) hG (dk dd_X9_forget 31 rfl) ?_
    refine V_putI (pc := 56) hG (dk dd_X9_forget 32 rfl) fl_X9_175 sh_15 rfl rfl ?_
    refine V_aload_n (pc := 59) hG (dk dd_X9_forget 33 rfl) rfl ?_
    refine V_getR (pc := 60) hG (dk dd_X9_forget 34 rfl) fl_X9_26 sh_0 rfl ?_
    refine V_getI (pc := 63) hG (dk dd_X9_forget 35 rfl) fl_X9_175 sh_15 rfl ?_
    refine V_iretP (pc := 66) hG (dk dd_X9_forget 36 rfl) hR (Pi.mk ?_)
    rotate_left
    refine V_ldc (pc := 28) hG (dk dd_X9_forget 15 rfl) kk_X9_158 ?_
    refine V_iretP (pc := 30) hG (dk dd_X9_forget 16 rfl) hR (Pi.mk ?_)
    rotate_left
    rotate_left
    -- leaves: return@66; return@30; stop 11
    · rw [p5.1, e3] at h25
      rw [p5.1] at p39
      have hA2 := abs_keep hA p39.2
      have z0 : (α 0 3).testBit x.toNatClampNeg = true := by
        cases q : (α 0 3).testBit x.toNatClampNeg with
        | true => rfl
        | false => exact absurd (tb.mpr q) h25
      have ef : fogF α x = (nI (clr (α 0 3) x.toNatClampNeg), some (updA α 0 3 (clr (α 0 3) x.toNatClampNeg))) := by unfold fogF; rw [if_pos hi, if_pos z0]
      have ev : nI (α 0 3) &&& (bI x ^^^ (-1)) = nI (clr (α 0 3) x.toNatClampNeg) := by
        have := q_clr _ hD x.toNatClampNeg (by omega)
        rw [← hx] at this; exact this
      rw [ef, setc_s, upd_s, e_c hA2 (i := 3) (by decide), bI_eq, ev]
      exact ⟨rfl, Or.inr ⟨_, rfl, ActC.of p39 (fun a ha => setc_n (by omega)) (kac_put (b := 15) (i := 3) hA2 (by decide) rfl)⟩⟩
    · rw [p5.1, e3] at h25
      have z0 := tb.mp h25
      have ef : fogF α x = (-1000002, none) := by unfold fogF; rw [if_pos hi, if_neg (by rw [z0]; decide)]
      rw [ef]; exact ⟨rfl, Or.inl ⟨rfl, p5.1⟩⟩
    · exact absurd hi (p5.2.no h8)
  · have ef : fogF α x = (-1000001, none) := by unfold fogF; rw [if_neg hi]
    refine V_aload_n (pc := 0) hG (dk dd_X9_forget 0 rfl) rfl ?_
    refine V_getR (pc := 1) hG (dk dd_X9_forget 1 rfl) fl_X9_26 sh_0 rfl ?_
    refine V_iload_n (pc := 4) hG (dk dd_X9_forget 2 rfl) rfl ?_
    refine V_callVip (pc := 5) hG (dk dd_X9_forget 3 rfl) ml_X9_201 mo_X2_isThing sh_15 rfl (k_isThing hA) (by decide) (by decide) rfl rfl rfl (fun x5 m5 p5 => ?_)
    refine V_if_ne (pc := 8) hG (dk dd_X9_forget 4 rfl) (tgt := 14) (by decide) (fun h8 => ?_) (fun h8 => ?_)
    rotate_left
    refine V_ldc (pc := 11) hG (dk dd_X9_forget 5 rfl) kk_X9_90 ?_
    refine V_iretP (pc := 13) hG (dk dd_X9_forget 6 rfl) hR (Pi.mk ?_)
    rotate_left
    -- leaves: stop 14; return@13
    · exact absurd (p5.2.yes h8) hi
    · rw [ef]; exact ⟨rfl, Or.inl ⟨rfl, p5.1⟩⟩
theorem j_learn {μ : Mem} {α : Al} {As : Nat → Al} {L nx : Nat} (hA : Abs (kac μ 15) α) (hz : Vz α) (hR0 : Ring μ As L nx) (hO : AsO As L) {x y : Int32} : CtP yX9_learn cX9_learn 4 (some .int) 2 [vR 0, vI x, vI y] μ (Pi (fun r μ' => r = (leaF α x y).1 ∧ OutC μ As L α (leaF α x y).2 μ')) := by
  refine CtP.go RX9 rfl pn_X9 (Nat.le_of_ble_eq_true rfl) (fun C hG hR => ?_)
  have ht := hz.t
  have hH := hz.H
  by_cases hi : inN x (α 0 6) ∧ inN y (α 0 0)
  · obtain ⟨hx, hh⟩ := hi.1.n (by omega)
    obtain ⟨hy, hk⟩ := hi.2.n (by omega)
    have rx : vp_in x 6 := in_nI hx (by omega) (by decide)
    refine V_aload_n (pc := 0) hG (dk dd_X9_learn 0 rfl) rfl ?_
    refine V_getR (pc := 1) hG (dk dd_X9_learn 1 rfl) fl_X9_26 sh_0 rfl ?_
    refine V_iload_n (pc := 4) hG (dk dd_X9_learn 2 rfl) rfl ?_
    refine V_callVip (pc := 5) hG (dk dd_X9_learn 3 rfl) ml_X9_163 mo_X2_isHum sh_15 rfl (k_isHum hA) (by decide) (by decide) rfl rfl rfl (fun x5 m5 p5 => ?_)
    refine V_if_eq (pc := 8) hG (dk dd_X9_learn 4 rfl) (tgt := 22) (by decide) (fun h8 => ?_) (fun h8 => ?_)
    rotate_left
    refine V_aload_n (pc := 11) hG (dk dd_X9_learn 5 rfl) rfl ?_
    refine V_getR (pc := 12) hG (dk dd_X9_learn 6 rfl) fl_X9_26 sh_0 rfl ?_
    refine V_iload_n (pc := 15) hG (dk dd_X9_learn 7 rfl) rfl ?_
    refine V_callVip (pc := 16) hG (dk dd_X9_learn 8 rfl) ml_X9_201 mo_X2_isThing sh_15 rfl (k_isThing (α := α) (by rw [p5.1]; exact hA)) (by decide) (by decide) rfl rfl rfl (fun x16 m16 p16 => ?_)
    refine V_if_ne (pc := 19) hG (dk dd_X9_learn 9 rfl) (tgt := 25) (by decide) (fun h19 => ?_) (fun h19 => ?_)
    refine V_aload_n (pc := 25) hG (dk dd_X9_learn 12 rfl) rfl ?_
    refine V_getR (pc := 26) hG (dk dd_X9_learn 13 rfl) fl_X9_45 sh_0 rfl ?_
    refine V_aload_n (pc := 29) hG (dk dd_X9_learn 14 rfl) rfl ?_
    refine V_getR (pc := 30) hG (dk dd_X9_learn 15 rfl) fl_X9_26 sh_0 rfl ?_
    refine V_callVvp (pc := 33) hG (dk dd_X9_learn 16 rfl) ml_X9_172 mo_X0_keep sh_32 rfl (c_keep (α := α) (As := As) (L := L) (nx := nx) (by rw [p16.1, p5.1]; exact hA) hH hz.C (by rw [p16.1, p5.1]; exact hR0) hO) (by decide) (by decide) rfl rfl rfl (fun m33 p33 => ?_)
    refine V_aload_n (pc := 36) hG (dk dd_X9_learn 17 rfl) rfl ?_
    refine V_getR (pc := 37) hG (dk dd_X9_learn 18 rfl) fl_X9_26 sh_0 rfl ?_
    refine V_getR (pc := 40) hG (dk dd_X9_learn 19 rfl) fl_X9_204 sh_15 rfl ?_
    refine V_iload_n (pc := 43) hG (dk dd_X9_learn 20 rfl) rfl ?_
    refine V_iald (pc := 44) hG (dk dd_X9_learn 21 rfl) sh_17 rx ?_
    refine V_istore_n (pc := 45) hG (dk dd_X9_learn 22 rfl) (by decide) (lv' := [(0, _), (1, _), (2, _), (3, _)]) rfl ?_
    refine V_aload_n (pc := 46) hG (dk dd_X9_learn 23 rfl) rfl ?_
    refine V_getR (pc := 47) hG (dk dd_X9_learn 24 rfl) fl_X9_26 sh_0 rfl ?_
    refine V_getR (pc := 50) hG (dk dd_X9_learn 25 rfl) fl_X9_204 sh_15 rfl ?_
    refine V_iload_n (pc := 53) hG (dk dd_X9_learn 26 rfl) rfl ?_
    refine V_iload_n (pc := 54) hG (dk dd_X9_learn 27 rfl) rfl ?_
    refine V_iast (pc := 55) hG (dk dd_X9_learn 28 rfl) sh_17 rx ?_
    refine V_iload_n (pc := 56) hG (dk dd_X9_learn 29 rfl) rfl ?_
    refine V_iretP (pc := 57) hG (dk dd_X9_learn 30 rfl) hR (Pi.mk ?_)
    rotate_left
    rotate_left
    -- leaves: stop 22; return@57; stop 22
    · exact absurd hi.1 (p5.2.no h8)
    · rw [p16.1, p5.1] at p33
      have hA2 := abs_keep hA p33.2
      have ef : leaF α x y = (nI (α 2 x.toNatClampNeg), some (updA α 2 x.toNatClampNeg y.toNatClampNeg)) := by unfold leaF; rw [if_pos hi]
      rw [ef]
      exact ⟨e_h (y := 2) hA2 (by decide) (by decide) hh, Or.inr ⟨_, rfl, ActC.of p33 (fun a ha => setc_n (by omega)) (kac_arr (b := 15) (y0 := 2) hA2 (by decide) (by decide) hy)⟩⟩
    · exact absurd hi.2 (p16.2.no h19)
  · have ef : leaF α x y = (-1000001, none) := by unfold leaF; rw [if_neg hi]
    refine V_aload_n (pc := 0) hG (dk dd_X9_learn 0 rfl) rfl ?_
    refine V_getR (pc := 1) hG (dk dd_X9_learn 1 rfl) fl_X9_26 sh_0 rfl ?_
    refine V_iload_n (pc := 4) hG (dk dd_X9_learn 2 rfl) rfl ?_
    refine V_callVip (pc := 5) hG (dk dd_X9_learn 3 rfl) ml_X9_163 mo_X2_isHum sh_15 rfl (k_isHum hA) (by decide) (by decide) rfl rfl rfl (fun x5 m5 p5 => ?_)
    refine V_if_eq (pc := 8) hG (dk dd_X9_learn 4 rfl) (tgt := 22) (by decide) (fun h8 => ?_) (fun h8 => ?_)
    refine V_ldc (pc := 22) hG (dk dd_X9_learn 10 rfl) kk_X9_90 ?_
    refine V_iretP (pc := 24) hG (dk dd_X9_learn 11 rfl) hR (Pi.mk ?_)
    rotate_left
    refine V_aload_n (pc := 11) hG (dk dd_X9_learn 5 rfl) rfl ?_
    refine V_getR (pc := 12) hG (dk dd_X9_learn 6 rfl) fl_X9_26 sh_0 rfl ?_
    refine V_iload_n (pc := 15) hG (dk dd_X9_learn 7 rfl) rfl ?_
    refine V_callVip (pc := 16) hG (dk dd_X9_learn 8 rfl) ml_X9_201 mo_X2_isThing sh_15 rfl (k_isThing (α := α) (by rw [p5.1]; exact hA)) (by decide) (by decide) rfl rfl rfl (fun x16 m16 p16 => ?_)
    refine V_if_ne (pc := 19) hG (dk dd_X9_learn 9 rfl) (tgt := 25) (by decide) (fun h19 => ?_) (fun h19 => ?_)
    rotate_left
    refine V_ldc (pc := 22) hG (dk dd_X9_learn 10 rfl) kk_X9_90 ?_
    refine V_iretP (pc := 24) hG (dk dd_X9_learn 11 rfl) hR (Pi.mk ?_)
    rotate_left
    -- leaves: return@24; stop 25; return@24
    · rw [ef]; exact ⟨rfl, Or.inl ⟨rfl, p5.1⟩⟩
    · exact absurd ⟨p5.2.yes h8, p16.2.yes h19⟩ hi
    · rw [ef]; exact ⟨rfl, Or.inl ⟨rfl, p16.1.trans p5.1⟩⟩
def UnC (As : Nat → Al) (L : Nat) (μ : Mem) (r : Int32) (μ' : Mem) : Prop := (L = 0 ∧ r = -1000002 ∧ μ' = μ) ∨ (0 < L ∧ r = nI (L - 1) ∧ (∀ a, a ≠ 32 → (a < 15 ∨ 22 < a) → μ' a = μ a) ∧ Abs (kac μ' 15) (As 0) ∧ ∃ nx, Ring μ' (fun i => As (i + 1)) (L - 1) nx)
theorem j_undo {μ : Mem} {α : Al} {As : Nat → Al} {L nx : Nat} (hA : Abs (kac μ 15) α) (hz : Vz α) (hR0 : Ring μ As L nx) (hs : 0 < L → Sta α (As 0)) : CtP yX9_undo cX9_undo 1 (some .int) 2 [vR 0] μ (Pi (UnC As L μ)) := by
  refine CtP.go RX9 rfl pn_X9 (Nat.le_of_ble_eq_true rfl) (fun C hG hR => ?_)
  obtain ⟨r1, r2, r3, r4, r5⟩ := id hR0
  by_cases hL : 0 < L
  · skip
    refine V_aload_n (pc := 0) hG (dk dd_X9_undo 0 rfl) rfl ?_
    refine V_getR (pc := 1) hG (dk dd_X9_undo 1 rfl) fl_X9_45 sh_0 rfl ?_
    refine V_getI (pc := 4) hG (dk dd_X9_undo 2 rfl) fl_X9_155 sh_32 rfl ?_
    refine V_if_ne (pc := 7) hG (dk dd_X9_undo 3 rfl) (tgt := 15) (by decide) (fun h7 => ?_) (fun h7 => ?_)
    refine V_aload_n (pc := 15) hG (dk dd_X9_undo 6 rfl) rfl ?_
    refine V_getR (pc := 16) hG (dk dd_X9_undo 7 rfl) fl_X9_45 sh_0 rfl ?_
    refine V_aload_n (pc := 19) hG (dk dd_X9_undo 8 rfl) rfl ?_
    refine V_getR (pc := 20) hG (dk dd_X9_undo 9 rfl) fl_X9_26 sh_0 rfl ?_
    refine V_callVip (pc := 23) hG (dk dd_X9_undo 10 rfl) ml_X9_159 mo_X0_takeBack sh_32 rfl (c_takeBack hA hz.H hz.C hR0 hL (hs hL)) (by decide) (by decide) rfl rfl rfl (fun x23 m23 p23 => ?_)
    refine V_iretP (pc := 26) hG (dk dd_X9_undo 11 rfl) hR (Pi.mk ?_)
    rotate_left
    rotate_left
    -- leaves: return@26; stop 10
    · obtain ⟨b1, b2, b3, b4⟩ := p23
      exact Or.inr ⟨hL, b1, b4, b2, _, b3⟩
    · exfalso; rw [r3] at h7; have := (nI_eq (b := 0) (by omega) (by decide)).mp h7; omega
  · skip
    refine V_aload_n (pc := 0) hG (dk dd_X9_undo 0 rfl) rfl ?_
    refine V_getR (pc := 1) hG (dk dd_X9_undo 1 rfl) fl_X9_45 sh_0 rfl ?_
    refine V_getI (pc := 4) hG (dk dd_X9_undo 2 rfl) fl_X9_155 sh_32 rfl ?_
    refine V_if_ne (pc := 7) hG (dk dd_X9_undo 3 rfl) (tgt := 15) (by decide) (fun h7 => ?_) (fun h7 => ?_)
    rotate_left
    refine V_ldc (pc := 10) hG (dk dd_X9_undo 4 rfl) kk_X9_158 ?_
    refine V_goto (pc := 12) hG (dk dd_X9_undo 5 rfl) (tgt := 26) (by decide) ?_
    refine V_iretP (pc := 26) hG (dk dd_X9_undo 11 rfl) hR (Pi.mk ?_)
    rotate_left
    -- leaves: stop 15; return@26
    · exfalso; exact h7 (by rw [r3, show L = 0 by omega]; rfl)
    · exact Or.inl ⟨by omega, rfl, rfl⟩
