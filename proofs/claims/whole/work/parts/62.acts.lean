/-! ===== the model: acts ===== -/
/-- a court, or none -/
def Vz (α : Al) : Prop := Val α ∨ ∀ i, i < 8 → α 0 i = 0
theorem Vz.H {α : Al} (h : Vz α) : α 0 6 ≤ 6 := h.elim (fun v => v.H) (fun z => by rw [z 6 (by decide)]; decide)
theorem Vz.C {α : Al} (h : Vz α) : α 0 7 ≤ 5 := h.elim (fun v => v.C) (fun z => by rw [z 7 (by decide)]; decide)
theorem Vz.t {α : Al} (h : Vz α) : α 0 0 ≤ 8 := h.elim (fun v => v.t) (fun z => by rw [z 0 (by decide)]; decide)
theorem Vz.vh {α : Al} (h : Vz α) {k : Nat} (hk : k < α 0 6) : Val α := h.resolve_right (fun z => by rw [z 6 (by decide)] at hk; omega)
theorem Vz.vc {α : Al} (h : Vz α) {k : Nat} (hk : k < α 0 7) : Val α := h.resolve_right (fun z => by rw [z 7 (by decide)] at hk; omega)
theorem Vz.vt {α : Al} (h : Vz α) {k : Nat} (hk : k < α 0 0) : Val α := h.resolve_right (fun z => by rw [z 0 (by decide)] at hk; omega)
theorem Val.t3 {α : Al} (h : Val α) : 3 ≤ α 0 0 := h.1.1
theorem kap_cg {f g : Nat → Int32} {α : Al} (h : Abs (kap f) α) (hH : α 0 6 ≤ 6) (hC : α 0 7 ≤ 5) (hg : ∀ i, i < 46 → g i = f i) : Abs (kap g) α := by
  refine ⟨fun i hi => ?_, fun x k q1 q2 q3 => ?_, fun x k q1 q2 q3 => ?_⟩
  · have := h.1 i hi; rw [kap_0] at this ⊢; rw [hg _ (by have := q_pm i hi; omega)]; exact this
  · have := h.2.1 x k q1 q2 q3; rw [kap_h q1 q2] at this ⊢; rw [hg _ (by omega)]; exact this
  · have := h.2.2 x k q1 q2 q3; rw [kap_c q1] at this ⊢; rw [hg _ (by omega)]; exact this
/-- the model's kept courts, the latest first -/
def RgM (μ : Mem) (As : Nat → Al) (L : Nat) : Prop := μ 67 9 = nI L ∧ L ≤ 24 ∧ ∀ i, i < L → Abs (kap (fun q => μ 74 (46 * (L - 1 - i) + q))) (As i)
def AsO (As : Nat → Al) (L : Nat) : Prop := ∀ i, i < L → As i 0 6 ≤ 6 ∧ As i 0 7 ≤ 5
theorem RgM.keep {μ μ' : Mem} {As : Nat → Al} {L : Nat} {α : Al} (h : RgM μ As L) (hO : AsO As L) (hA : Abs (kap (μ 71)) α) (hH : α 0 6 ≤ 6) (hC : α 0 7 ≤ 5) (hk : KpM L μ μ') : RgM μ' (pushA α As) (min (L + 1) 24) := by
  obtain ⟨n', s, k1, k2, k3, k4, k5, k6⟩ := hk
  obtain ⟨g1, g2, g3⟩ := h
  have e : min (L + 1) 24 = n' + 1 := by omega
  refine ⟨by rw [k5, upd_s, e], by omega, fun i hi => ?_⟩
  rw [e] at hi ⊢
  unfold pushA
  by_cases z : i = 0
  · rw [if_pos z]
    refine kap_cg hA hH hC (fun q hq => ?_)
    rw [show 46 * (n' + 1 - 1 - i) + q = 46 * n' + q by rw [z]; omega]; exact k4 q hq
  · rw [if_neg z]
    refine kap_cg (g3 (i - 1) (by omega)) (hO (i - 1) (by omega)).1 (hO (i - 1) (by omega)).2 (fun q hq => ?_)
    rw [k3 _ (by omega)]
    congr 1
    rcases k2 with ⟨a, b, c⟩ | ⟨a, b, c⟩ <;> omega
theorem kap_way {f : Nat → Int32} {α : Al} {c v : Nat} (h : Abs (kap f) α) (hc : c < α 0 7) (hC : α 0 7 ≤ 5) (hH : α 0 6 ≤ 6) : Abs (kap (upd f (26 + 4 * c + 3) (nI v))) (updA α 7 c v) := by
  refine ⟨fun j hj => ?_, fun x k q1 q2 q3 => ?_, fun x k q1 q2 q3 => ?_⟩
  · have := h.1 j hj; rw [kap_0] at this ⊢; rw [upd_n (by have := q_pm j hj; omega), updA_n (by omega)]; exact this
  · rw [updA_n (by omega)] at q3
    have := h.2.1 x k q1 q2 q3; rw [kap_h q1 q2] at this ⊢; rw [upd_n (by omega), updA_n (by omega)]; exact this
  · rw [updA_n (by omega)] at q3
    by_cases z : x = 7 ∧ k = c
    · obtain ⟨rfl, rfl⟩ := z
      rw [kap_c q1, show 22 + 4 * k + 7 = 26 + 4 * k + 3 by omega, upd_s, updA_s]
    · have := h.2.2 x k q1 q2 q3; rw [kap_c q1] at this ⊢; rw [upd_n (by omega), updA_n z]; exact this
theorem kap_thg {f : Nat → Int32} {α : Al} {h0 v : Nat} (h : Abs (kap f) α) (hh : h0 < α 0 6) (hH : α 0 6 ≤ 6) : Abs (kap (upd f (8 + 3 * h0 + 1) (nI v))) (updA α 2 h0 v) := by
  refine ⟨fun j hj => ?_, fun x k q1 q2 q3 => ?_, fun x k q1 q2 q3 => ?_⟩
  · have := h.1 j hj; rw [kap_0] at this ⊢; rw [upd_n (by have := q_pm j hj; omega), updA_n (by omega)]; exact this
  · rw [updA_n (by omega)] at q3
    by_cases z : x = 2 ∧ k = h0
    · obtain ⟨rfl, rfl⟩ := z
      rw [kap_h q1 q2, show 7 + 3 * k + 2 = 8 + 3 * k + 1 by omega, upd_s, updA_s]
    · have := h.2.1 x k q1 q2 q3; rw [kap_h q1 q2] at this ⊢; rw [upd_n (by omega), updA_n z]; exact this
  · rw [updA_n (by omega)] at q3
    have := h.2.2 x k q1 q2 q3; rw [kap_c q1] at this ⊢; rw [upd_n (by omega), updA_n (by omega)]; exact this
/-! what acts do, as numbers -/
abbrev inN (x : Int32) (n : Nat) : Prop := 0 ≤ x ∧ x < nI n
theorem inN.n {x : Int32} {n : Nat} (h : inN x n) (hn : n < 2 ^ 31) : x = nI x.toNatClampNeg ∧ x.toNatClampNeg < n := by
  obtain ⟨j, hj, rfl⟩ := chk rfl hn h.1 h.2
  rw [nI_clamp (by omega)]; exact ⟨rfl, hj⟩
def humA (α : Al) (h : Nat) : Al := updA (updA α 0 3 (humN α h (α 0 3))) 0 4 (α 0 4 + 1)
def humF (α : Al) (x : Int32) : Int32 × Option Al := if inN x (α 0 6) then (if α 0 4 = α 0 2 then (-1000003, none) else (nI (humN α x.toNatClampNeg (α 0 3)), some (humA α x.toNatClampNeg))) else (-1000001, none)
def heaF (α : Al) (x : Int32) : Int32 × Option Al := if inN x (α 0 7) then (if α 7 x.toNatClampNeg = 0 then (nI (verN α x.toNatClampNeg (α 0 3)), some (hrdA α x.toNatClampNeg)) else (-1000002, none)) else (-1000001, none)
def appF (α : Al) (x : Int32) : Int32 × Option Al := if inN x (α 0 7) then (if α 7 x.toNatClampNeg = 2 then (if judN α x.toNatClampNeg (α 0 3) = 1 then (1, some (updA α 7 x.toNatClampNeg 0)) else (0, some (updA α 7 x.toNatClampNeg 3))) else (-1000002, none)) else (-1000001, none)
def fogF (α : Al) (x : Int32) : Int32 × Option Al := if inN x (α 0 0) then (if (α 0 3).testBit x.toNatClampNeg = true then (nI (clr (α 0 3) x.toNatClampNeg), some (updA α 0 3 (clr (α 0 3) x.toNatClampNeg))) else (-1000002, none)) else (-1000001, none)
def leaF (α : Al) (x y : Int32) : Int32 × Option Al := if inN x (α 0 6) ∧ inN y (α 0 0) then (nI (α 2 x.toNatClampNeg), some (updA α 2 x.toNatClampNeg y.toNatClampNeg)) else (-1000001, none)
def ActM (μ : Mem) (As : Nat → Al) (L : Nat) (α β : Al) (μ' : Mem) : Prop := (∀ j, j ≠ 67 → j ≠ 71 → j ≠ 74 → μ' j = μ j) ∧ (∀ q, 1 ≤ q → q ≠ 9 → μ' 67 q = μ 67 q) ∧ Abs (kap (μ' 71)) β ∧ RgM μ' (pushA α As) (min (L + 1) 24)
def OutM (μ : Mem) (As : Nat → Al) (L : Nat) (α : Al) (o : Option Al) (μ' : Mem) : Prop := (o = none ∧ μ' = th0 μ) ∨ (∃ β, o = some β ∧ ActM μ As L α β μ')
theorem th0_s {μ : Mem} {q : Nat} (h : 1 ≤ q) : th0 μ 67 q = μ 67 q := by unfold th0; rw [setc_s, upd_n (by omega)]
theorem th0_n {μ : Mem} {j : Nat} (h : j ≠ 67) : th0 μ j = μ j := by unfold th0; rw [setc_n h]
/-- behind keep(): the court's row is written -/
theorem ActM.of {μ m : Mem} {As : Nat → Al} {L : Nat} {α β : Al} (h : RgM μ As L) (hO : AsO As L) (hA : Abs (kap (μ 71)) α) (hH : α 0 6 ≤ 6) (hC : α 0 7 ≤ 5) (hk : KpM L (th0 μ) m) {μ' : Mem} (hj : ∀ j, j ≠ 71 → μ' j = m j) (hB : Abs (kap (μ' 71)) β) : ActM μ As L α β μ' := by
  have h0 : RgM (th0 μ) As L := ⟨by rw [th0_s (by decide)]; exact h.1, h.2.1, fun i hi => h.2.2 i hi⟩
  have g := RgM.keep h0 hO (α := α) hA hH hC hk
  obtain ⟨n', s, k1, k2, k3, k4, k5, k6⟩ := hk
  refine ⟨fun j a b c => by rw [hj j b, k6 j a c]; exact th0_n a, fun q a b => by rw [hj 67 (by decide), k5, upd_n b]; exact th0_s a, hB, ⟨by rw [hj 67 (by decide)]; exact g.1, g.2.1, fun i hi => ?_⟩⟩
  rw [hj 74 (by decide)]; exact g.2.2 i hi
theorem e_sc {μ : Mem} {α : Al} (hA : Abs (kap (μ 71)) α) {i : Nat} (hi : i < 8) : μ 71 (pmN i) = nI (α 0 i) := by have := hA.1 i hi; rw [kap_0] at this; exact this
theorem KpM.c71 {n : Nat} {μ μ' : Mem} (h : KpM n μ μ') : μ' 71 = μ 71 := by obtain ⟨n', s, k1, k2, k3, k4, k5, k6⟩ := h; exact k6 71 (by decide) (by decide)
theorem rr {n : Nat} (h : n < 46) : vp_in (nI n) 46 := vp_in_nI h (by decide)
theorem m_hum {μ : Mem} {α : Al} {As : Nat → Al} {L : Nat} (hA : Abs (kap (μ 71)) α) (hz : Vz α) (h4 : α 0 4 < 100) (h2 : α 0 2 < 100) (hG0 : RgM μ As L) (hO : AsO As L) {x : Int32} : CtP yX10_hum cX10_hum 2 (some .int) 2 [vR 67, vI x] μ (Pi (fun r μ' => r = (humF α x).1 ∧ OutM μ As L α (humF α x).2 μ')) := by
  refine CtP.go RX10 rfl pn_X10 (Nat.le_of_ble_eq_true rfl) (fun C hG hR => ?_)
  have r6 : vp_in (6 : Int32) 46 := rr (n := 6) (by decide)
  have r7 : vp_in (7 : Int32) 46 := rr (n := 7) (by decide)
  have r2 : vp_in (2 : Int32) 46 := rr (n := 2) (by decide)
  have hH := hz.H
  have e7 : th0 μ 71 7 = nI (α 0 4) := e_sc hA (i := 4) (by decide)
  have e2 : th0 μ 71 2 = nI (α 0 2) := e_sc hA (i := 2) (by decide)
  have hA' : Abs (kap (th0 μ 71)) α := hA
  by_cases hi : inN x (α 0 6)
  · obtain ⟨hx, hh⟩ := hi.n (by omega)
    have hv := hz.vh hh
    refine V_aload_n (pc := 0) hG (dk dd_X10_hum 0 rfl) rfl ?_
    refine V_iconst (pc := 1) hG (dk dd_X10_hum 1 rfl) (v := 0) (by decide) ?_
    refine V_putI (pc := 2) hG (dk dd_X10_hum 2 rfl) fl_X10_62 sh_67 rfl rfl ?_
    refine V_aload_n (pc := 5) hG (dk dd_X10_hum 3 rfl) rfl ?_
    refine V_iload_n (pc := 6) hG (dk dd_X10_hum 4 rfl) rfl ?_
    refine V_callVip (pc := 7) hG (dk dd_X10_hum 5 rfl) ml_X10_201 mo_X10_isHum sh_67 rfl (m_isHum (n := α 0 6) (by omega) (e_sc hA' (i := 6) (by decide))) (by decide) (by decide) rfl rfl rfl (fun x7 m7 p7 => ?_)
    refine V_if_ne (pc := 10) hG (dk dd_X10_hum 6 rfl) (tgt := 16) (by decide) (fun h10 => ?_) (fun h10 => ?_)
    refine V_aload_n (pc := 16) hG (dk dd_X10_hum 9 rfl) rfl ?_
    refine V_getR (pc := 17) hG (dk dd_X10_hum 10 rfl) fl_X10_19 sh_67 rfl ?_
    refine V_bipush (pc := 20) hG (dk dd_X10_hum 11 rfl) (v := 7) (by decide) ?_
    refine V_iald (pc := 22) hG (dk dd_X10_hum 12 rfl) sh_71 r7 ?_
    refine V_aload_n (pc := 23) hG (dk dd_X10_hum 13 rfl) rfl ?_
    refine V_getR (pc := 24) hG (dk dd_X10_hum 14 rfl) fl_X10_19 sh_67 rfl ?_
    refine V_iconst (pc := 27) hG (dk dd_X10_hum 15 rfl) (v := 2) (by decide) ?_
    refine V_iald (pc := 28) hG (dk dd_X10_hum 16 rfl) sh_71 r2 ?_
    refine V_icmp_ne (pc := 29) hG (dk dd_X10_hum 17 rfl) (tgt := 35) (by decide) (fun h29 => ?_) (fun h29 => ?_)
    refine V_aload_n (pc := 35) hG (dk dd_X10_hum 20 rfl) rfl ?_
    refine V_callVvp (pc := 36) hG (dk dd_X10_hum 21 rfl) ml_X10_204 mo_X10_keep sh_67 rfl (m_keep (n := L) hG0.2.1 (by rw [p7.1]; exact (th0_s (by decide)).trans hG0.1)) (by decide) (by decide) rfl rfl rfl (fun m36 p36 => ?_)
    refine V_aload_n (pc := 39) hG (dk dd_X10_hum 22 rfl) rfl ?_
    refine V_getR (pc := 40) hG (dk dd_X10_hum 23 rfl) fl_X10_19 sh_67 rfl ?_
    refine V_bipush (pc := 43) hG (dk dd_X10_hum 24 rfl) (v := 6) (by decide) ?_
    refine V_aload_n (pc := 45) hG (dk dd_X10_hum 25 rfl) rfl ?_
    refine V_getR (pc := 46) hG (dk dd_X10_hum 26 rfl) fl_X10_19 sh_67 rfl ?_
    refine V_iload_n (pc := 49) hG (dk dd_X10_hum 27 rfl) rfl ?_
    refine V_aload_n (pc := 50) hG (dk dd_X10_hum 28 rfl) rfl ?_
    refine V_getR (pc := 51) hG (dk dd_X10_hum 29 rfl) fl_X10_19 sh_67 rfl ?_
    refine V_bipush (pc := 54) hG (dk dd_X10_hum 30 rfl) (v := 6) (by decide) ?_
    refine V_iald (pc := 56) hG (dk dd_X10_hum 31 rfl) sh_71 r6 ?_
    refine V_callSip (pc := 57) hG (dk dd_X10_hum 32 rfl) ml_X10_191 mo_X10_hummed (m_hummed sh_71 (α := α) (by rw [p36.c71, p7.1]; exact hA) hv hx hh (D := α 0 3) (by rw [p36.c71, p7.1]; exact e_sc hA (i := 3) (by decide)) hv.D) (by decide) (by decide) rfl rfl rfl (fun x57 m57 p57 => ?_)
    refine V_iast (pc := 60) hG (dk dd_X10_hum 33 rfl) sh_71 r6 ?_
    refine V_aload_n (pc := 61) hG (dk dd_X10_hum 34 rfl) rfl ?_
    refine V_getR (pc := 62) hG (dk dd_X10_hum 35 rfl) fl_X10_19 sh_67 rfl ?_
    refine V_bipush (pc := 65) hG (dk dd_X10_hum 36 rfl) (v := 7) (by decide) ?_
    refine V_dup2 (pc := 67) hG (dk dd_X10_hum 37 rfl) rfl rfl ?_
    refine V_iald (pc := 68) hG (dk dd_X10_hum 38 rfl) sh_71 r7 ?_
    refine V_iconst (pc := 69) hG (dk dd_X10_hum 39 rfl) (v := 1) (by decide) ?_
    refine V_iadd (pc := 70) hG (dk dd_X10_hum 40 rfl) ?_
    refine V_iast (pc := 71) hG (dk dd_X10_hum 41 rfl) sh_71 r7 ?_
    refine V_aload_n (pc := 72) hG (dk dd_X10_hum 42 rfl) rfl ?_
    refine V_getR (pc := 73) hG (dk dd_X10_hum 43 rfl) fl_X10_19 sh_67 rfl ?_
    refine V_bipush (pc := 76) hG (dk dd_X10_hum 44 rfl) (v := 6) (by decide) ?_
    refine V_iald (pc := 78) hG (dk dd_X10_hum 45 rfl) sh_71 r6 ?_
    refine V_iretP (pc := 79) hG (dk dd_X10_hum 46 rfl) hR (Pi.mk ?_)
    rotate_left
    refine V_ldc (pc := 32) hG (dk dd_X10_hum 18 rfl) kk_X10_92 ?_
    refine V_iretP (pc := 34) hG (dk dd_X10_hum 19 rfl) hR (Pi.mk ?_)
    rotate_left
    refine V_ldc (pc := 13) hG (dk dd_X10_hum 7 rfl) kk_X10_82 ?_
    refine V_iretP (pc := 15) hG (dk dd_X10_hum 8 rfl) hR (Pi.mk ?_)
    rotate_left
    -- leaves: return@79; return@34; return@15
    · obtain ⟨rfl, z⟩ := p7
      obtain ⟨rfl, rfl⟩ := p57
      have hne : α 0 4 ≠ α 0 2 := fun w => h29 (by
        show th0 μ 71 7 = th0 μ 71 2
        rw [e7, e2, w])
      have c71 := p36.c71
      have ef : humF α x = (nI (humN α x.toNatClampNeg (α 0 3)), some (humA α x.toNatClampNeg)) := by unfold humF; rw [if_pos hi, if_neg hne]
      rw [ef]
      simp only [setc_s, setc_c]
      have e6 : Int32.toNatClampNeg 6 = 6 := rfl
      have e7' : Int32.toNatClampNeg 7 = 7 := rfl
      rw [e6, e7']
      have m7 : m57 71 7 = nI (α 0 4) := by rw [c71]; exact e7
      refine ⟨by rw [upd_n (by decide), upd_s], Or.inr ⟨_, rfl, ActM.of hG0 hO hA hz.H hz.C p36 (fun j hj => setc_n hj) ?_⟩⟩
      rw [setc_s, upd_n (by decide), m7, nI_1, c71]
      exact kap_put (i := 4) (v := α 0 4 + 1) (kap_put (i := 3) (v := humN α x.toNatClampNeg (α 0 3)) hA (by decide)) (by decide)
    · have he : α 0 4 = α 0 2 := by
        rw [p7.1] at h29
        have h29 : th0 μ 71 7 = th0 μ 71 2 := h29
        rw [e7, e2] at h29
        exact (nI_eq (by omega) (by omega)).mp h29
      have ef : humF α x = (-1000003, none) := by unfold humF; rw [if_pos hi, if_pos he]
      rw [ef]; exact ⟨rfl, Or.inl ⟨rfl, p7.1⟩⟩
    · exact absurd hi (p7.2.no h10)
  · have ef : humF α x = (-1000001, none) := by unfold humF; rw [if_neg hi]
    refine V_aload_n (pc := 0) hG (dk dd_X10_hum 0 rfl) rfl ?_
    refine V_iconst (pc := 1) hG (dk dd_X10_hum 1 rfl) (v := 0) (by decide) ?_
    refine V_putI (pc := 2) hG (dk dd_X10_hum 2 rfl) fl_X10_62 sh_67 rfl rfl ?_
    refine V_aload_n (pc := 5) hG (dk dd_X10_hum 3 rfl) rfl ?_
    refine V_iload_n (pc := 6) hG (dk dd_X10_hum 4 rfl) rfl ?_
    refine V_callVip (pc := 7) hG (dk dd_X10_hum 5 rfl) ml_X10_201 mo_X10_isHum sh_67 rfl (m_isHum (n := α 0 6) (by omega) (e_sc hA' (i := 6) (by decide))) (by decide) (by decide) rfl rfl rfl (fun x7 m7 p7 => ?_)
    refine V_if_ne (pc := 10) hG (dk dd_X10_hum 6 rfl) (tgt := 16) (by decide) (fun h10 => ?_) (fun h10 => ?_)
    rotate_left
    refine V_ldc (pc := 13) hG (dk dd_X10_hum 7 rfl) kk_X10_82 ?_
    refine V_iretP (pc := 15) hG (dk dd_X10_hum 8 rfl) hR (Pi.mk ?_)
    rotate_left
    -- leaves: stop 16; return@15
    · exact absurd (p7.2.yes h10) hi
    · rw [ef]; exact ⟨rfl, Or.inl ⟨rfl, p7.1⟩⟩
theorem m_hear {μ : Mem} {α : Al} {As : Nat → Al} {L : Nat} (hA : Abs (kap (μ 71)) α) (hz : Vz α) (hG0 : RgM μ As L) (hO : AsO As L) {x : Int32} : CtP yX10_hear cX10_hear 2 (some .int) 4 [vR 67, vI x] μ (Pi (fun r μ' => r = (heaF α x).1 ∧ OutM μ As L α (heaF α x).2 μ')) := by
  refine CtP.go RX10 rfl pn_X10 (Nat.le_of_ble_eq_true rfl) (fun C hG hR => ?_)
  have hC := hz.C
  have hA' : Abs (kap (th0 μ 71)) α := hA
  by_cases hi : inN x (α 0 7)
  · obtain ⟨hx, hh⟩ := hi.n (by omega)
    have hv := hz.vc hh
    have k7 := (hv.c hh).2.2.2
    have e7 : μ 71 (26 + 4 * x.toNatClampNeg + 3) = nI (α 7 x.toNatClampNeg) := m_e4 hA hh (by decide)
    refine V_aload_n (pc := 0) hG (dk dd_X10_hear 0 rfl) rfl ?_
    refine V_iconst (pc := 1) hG (dk dd_X10_hear 1 rfl) (v := 0) (by decide) ?_
    refine V_putI (pc := 2) hG (dk dd_X10_hear 2 rfl) fl_X10_62 sh_67 rfl rfl ?_
    refine V_aload_n (pc := 5) hG (dk dd_X10_hear 3 rfl) rfl ?_
    refine V_iload_n (pc := 6) hG (dk dd_X10_hear 4 rfl) rfl ?_
    refine V_callVip (pc := 7) hG (dk dd_X10_hear 5 rfl) ml_X10_207 mo_X10_isCase sh_67 rfl (m_isCase (n := α 0 7) (by omega) (e_sc hA' (i := 7) (by decide))) (by decide) (by decide) rfl rfl rfl (fun x7 m7 p7 => ?_)
    refine V_if_ne (pc := 10) hG (dk dd_X10_hear 6 rfl) (tgt := 16) (by decide) (fun h10 => ?_) (fun h10 => ?_)
    refine V_aload_n (pc := 16) hG (dk dd_X10_hear 9 rfl) rfl ?_
    refine V_getR (pc := 17) hG (dk dd_X10_hear 10 rfl) fl_X10_19 sh_67 rfl ?_
    refine V_iload_n (pc := 20) hG (dk dd_X10_hear 11 rfl) rfl ?_
    refine V_iconst (pc := 21) hG (dk dd_X10_hear 12 rfl) (v := 3) (by decide) ?_
    refine V_callSip (pc := 22) hG (dk dd_X10_hear 13 rfl) ml_X10_188 mo_X10_its (m_its sh_71 hx (by omega) (v := 3) rfl (by decide)) (by decide) (by decide) rfl rfl rfl (fun x22 m22 p22 => ?_)
    refine V_if_eq (pc := 25) hG (dk dd_X10_hear 14 rfl) (tgt := 31) (by decide) (fun h25 => ?_) (fun h25 => ?_)
    refine V_aload_n (pc := 31) hG (dk dd_X10_hear 17 rfl) rfl ?_
    refine V_callVvp (pc := 32) hG (dk dd_X10_hear 18 rfl) ml_X10_204 mo_X10_keep sh_67 rfl (m_keep (n := L) hG0.2.1 (by rw [p22.1, p7.1]; exact (th0_s (by decide)).trans hG0.1)) (by decide) (by decide) rfl rfl rfl (fun m32 p32 => ?_)
    refine V_aload_n (pc := 35) hG (dk dd_X10_hear 19 rfl) rfl ?_
    refine V_getR (pc := 36) hG (dk dd_X10_hear 20 rfl) fl_X10_19 sh_67 rfl ?_
    refine V_iload_n (pc := 39) hG (dk dd_X10_hear 21 rfl) rfl ?_
    refine V_callSip (pc := 40) hG (dk dd_X10_hear 22 rfl) ml_X10_211 mo_X10_heard (m_heard sh_71 (α := α) (by rw [p32.c71, p22.1, p7.1]; exact hA) hv hx hh) (by decide) (by decide) rfl rfl rfl (fun x40 m40 p40 => ?_)
    refine V_iretP (pc := 43) hG (dk dd_X10_hear 23 rfl) hR (Pi.mk ?_)
    rotate_left
    refine V_ldc (pc := 28) hG (dk dd_X10_hear 15 rfl) kk_X10_210 ?_
    refine V_iretP (pc := 30) hG (dk dd_X10_hear 16 rfl) hR (Pi.mk ?_)
    rotate_left
    refine V_ldc (pc := 13) hG (dk dd_X10_hear 7 rfl) kk_X10_82 ?_
    refine V_iretP (pc := 15) hG (dk dd_X10_hear 8 rfl) hR (Pi.mk ?_)
    rotate_left
    -- leaves: return@43; return@30; return@15
    · obtain ⟨rfl, z⟩ := p7
      obtain ⟨rfl, q⟩ := p22
      have h0 : α 7 x.toNatClampNeg = 0 := by
        rw [q] at h25
        have h25 : μ 71 (26 + 4 * x.toNatClampNeg + 3) = 0 := h25
        rw [e7] at h25
        exact (nI_eq (b := 0) (by omega) (by decide)).mp h25
      have ef : heaF α x = (nI (verN α x.toNatClampNeg (α 0 3)), some (hrdA α x.toNatClampNeg)) := by unfold heaF; rw [if_pos hi, if_pos h0]
      rw [ef]
      obtain ⟨⟨b1, b2⟩, b3⟩ := p40
      exact ⟨b3, Or.inr ⟨_, rfl, ActM.of hG0 hO hA hz.H hz.C p32 b2 b1⟩⟩
    · obtain ⟨rfl, z⟩ := p7
      obtain ⟨rfl, q⟩ := p22
      have h0 : α 7 x.toNatClampNeg ≠ 0 := fun w => h25 (by
        rw [q]
        show μ 71 (26 + 4 * x.toNatClampNeg + 3) = 0
        rw [e7, w]; rfl)
      have ef : heaF α x = (-1000002, none) := by unfold heaF; rw [if_pos hi, if_neg h0]
      rw [ef]; exact ⟨rfl, Or.inl ⟨rfl, rfl⟩⟩
    · exact absurd hi (p7.2.no h10)
  · have ef : heaF α x = (-1000001, none) := by unfold heaF; rw [if_neg hi]
    refine V_aload_n (pc := 0) hG (dk dd_X10_hear 0 rfl) rfl ?_
    refine V_iconst (pc := 1) hG (dk dd_X10_hear 1 rfl) (v := 0) (by decide) ?_
    refine V_putI (pc := 2) hG (dk dd_X10_hear 2 rfl) fl_X10_62 sh_67 rfl rfl ?_
    refine V_aload_n (pc := 5) hG (dk dd_X10_hear 3 rfl) rfl ?_
    refine V_iload_n (pc := 6) hG (dk dd_X10_hear 4 rfl) rfl ?_
    refine V_callVip (pc := 7) hG (dk dd_X10_hear 5 rfl) ml_X10_207 mo_X10_isCase sh_67 rfl (m_isCase (n := α 0 7) (by omega) (e_sc hA' (i := 7) (by decide))) (by decide) (by decide) rfl rfl rfl (fun x7 m7 p7 => ?_)
    refine V_if_ne (pc := 10) hG (dk dd_X10_hear 6 rfl) (tgt := 16) (by decide) (fun h10 => ?_) (fun h10 => ?_)
    rotate_left
    refine V_ldc (pc := 13) hG (dk dd_X10_hear 7 rfl) kk_X10_82 ?_
    refine V_iretP (pc := 15) hG (dk dd_X10_hear 8 rfl) hR (Pi.mk ?_)
    rotate_left
    -- leaves: stop 16; return@15
    · exact absurd (p7.2.yes h10) hi
    · rw [ef]; exact ⟨rfl, Or.inl ⟨rfl, p7.1⟩⟩
theorem m_forget {μ : Mem} {α : Al} {As : Nat → Al} {L : Nat} (hA : Abs (kap (μ 71)) α) (hz : Vz α) (hG0 : RgM μ As L) (hO : AsO As L) {x : Int32} : CtP yX10_forget cX10_forget 2 (some .int) 2 [vR 67, vI x] μ (Pi (fun r μ' => r = (fogF α x).1 ∧ OutM μ As L α (fogF α x).2 μ')) := by
  refine CtP.go RX10 rfl pn_X10 (Nat.le_of_ble_eq_true rfl) (fun C hG hR => ?_)
  have r6 : vp_in (6 : Int32) 46 := rr (n := 6) (by decide)
  have ht := hz.t
  have hA' : Abs (kap (th0 μ 71)) α := hA
  by_cases hi : inN x (α 0 0)
  · obtain ⟨hx, hh⟩ := hi.n (by omega)
    have hv := hz.vt hh
    have hD := hv.lt hv.D
    have e6 : th0 μ 71 6 = nI (α 0 3) := e_sc hA (i := 3) (by decide)
    refine V_aload_n (pc := 0) hG (dk dd_X10_forget 0 rfl) rfl ?_
    refine V_iconst (pc := 1) hG (dk dd_X10_forget 1 rfl) (v := 0) (by decide) ?_
    refine V_putI (pc := 2) hG (dk dd_X10_forget 2 rfl) fl_X10_62 sh_67 rfl rfl ?_
    refine V_aload_n (pc := 5) hG (dk dd_X10_forget 3 rfl) rfl ?_
    refine V_iload_n (pc := 6) hG (dk dd_X10_forget 4 rfl) rfl ?_
    refine V_callVip (pc := 7) hG (dk dd_X10_forget 5 rfl) ml_X10_214 mo_X10_isThing sh_67 rfl (m_isThing (n := α 0 0) (by omega) (e_sc hA' (i := 0) (by decide))) (by decide) (by decide) rfl rfl rfl (fun x7 m7 p7 => ?_)
    refine V_if_ne (pc := 10) hG (dk dd_X10_forget 6 rfl) (tgt := 16) (by decide) (fun h10 => ?_) (fun h10 => ?_)
    refine V_aload_n (pc := 16) hG (dk dd_X10_forget 9 rfl) rfl ?_
    refine V_getR (pc := 17) hG (dk dd_X10_forget 10 rfl) fl_X10_19 sh_67 rfl ?_
    refine V_bipush (pc := 20) hG (dk dd_X10_forget 11 rfl) (v := 6) (by decide) ?_
    refine V_iald (pc := 22) hG (dk dd_X10_forget 12 rfl) sh_71 r6 ?_
    refine V_iload_n (pc := 23) hG (dk dd_X10_forget 13 rfl) rfl ?_
    refine V_callSip (pc := 24) hG (dk dd_X10_forget 14 rfl) ml_X10_181 mo_X10_has (m_has (D := α 0 3) (by rw [p7.1]; exact e6) hD hx (by omega)) (by decide) (by decide) rfl rfl rfl (fun x24 m24 p24 => ?_)
    refine V_if_ne (pc := 27) hG (dk dd_X10_forget 15 rfl) (tgt := 33) (by decide) (fun h27 => ?_) (fun h27 => ?_)
    refine V_aload_n (pc := 33) hG (dk dd_X10_forget 18 rfl) rfl ?_
    refine V_callVvp (pc := 34) hG (dk dd_X10_forget 19 rfl) ml_X10_204 mo_X10_keep sh_67 rfl (m_keep (n := L) hG0.2.1 (by rw [p24.1, p7.1]; exact (th0_s (by decide)).trans hG0.1)) (by decide) (by decide) rfl rfl rfl (fun m34 p34 => ?_)
    refine V_aload_n (pc := 37) hG (dk dd_X10_forget 20 rfl) rfl ?_
    refine V_getR (pc := 38) hG (dk dd_X10_forget 21 rfl) fl_X10_19 sh_67 rfl ?_
    refine V_bipush (pc := 41) hG (dk dd_X10_forget 22 rfl) (v := 6) (by decide) ?_
    refine V_dup2 (pc := 43) hG (dk dd_X10_forget 23 rfl) rfl rfl ?_
    refine V_iald (pc := 44) hG (dk dd_X10_forget 24 rfl) sh_71 r6 ?_
    refine V_iconst (pc := 45) hG (dk dd_X10_forget 25 rfl) (v := 1) (by decide) ?_
    refine V_iload_n (pc := 46) hG (dk dd_X10_forget 26 rfl) rfl ?_
    refine V_ishl (pc := 47) hG (dk dd_X10_forget 27 rfl) ?_
    refine V_iconst (pc := 48) hG (dk dd_X10_forget 28 rfl) (v := -1) (by decide) ?_
    refine V_ixor (pc := 49) hG (dk dd_X10_forget 29 rfl) ?_
    refine V_iand (pc := 50) hG (dk dd_X10_forget 30 rfl) ?_
    refine V_iast (pc := 51) hG (dk dd_X10_forget 31 rfl) sh_71 r6 ?_
    refine V_aload_n (pc := 52) hG (dk dd_X10_forget 32 rfl) rfl ?_
    refine V_getR (pc := 53) hG (dk dd_X10_forget 33 rfl) fl_X10_19 sh_67 rfl ?_
    refine V_bipush (pc := 56) hG (dk dd_X10_forget 34 rfl) (v := 6) (by decide) ?_
    refine V_iald (pc := 58) hG (dk dd_X10_forget 35 rfl) sh_71 r6 ?_
    refine V_iretP (pc := 59) hG (dk dd_X10_forget 36 rfl) hR (Pi.mk ?_)
    rotate_left
    refine V_ldc (pc := 30) hG (dk dd_X10_forget 16 rfl) kk_X10_210 ?_
    refine V_iretP (pc := 32) hG (dk dd_X10_forget 17 rfl) hR (Pi.mk ?_)
    rotate_left
    refine V_ldc (pc := 13) hG (dk dd_X10_forget 7 rfl) kk_X10_82 ?_
    refine V_iretP (pc := 15) hG (dk dd_X10_forget 8 rfl) hR (Pi.mk ?_)
    rotate_left
    -- leaves: return@59; return@32; return@15
    · obtain ⟨rfl, z⟩ := p7
      obtain ⟨rfl, q⟩ := p24
      have h0 := q.yes h27
      have ef : fogF α x = (nI (clr (α 0 3) x.toNatClampNeg), some (updA α 0 3 (clr (α 0 3) x.toNatClampNeg))) := by unfold fogF; rw [if_pos hi, if_pos h0]
      rw [ef]
      have c71 := p34.c71
      have m6 : m34 71 (Int32.toNatClampNeg 6) = nI (α 0 3) := by rw [c71]; exact e6
      have ev : nI (α 0 3) &&& (bI x ^^^ (-1)) = nI (clr (α 0 3) x.toNatClampNeg) := by
        have := q_clr _ hD x.toNatClampNeg (by omega)
        rw [← hx] at this; exact this
      rw [setc_s, upd_s, m6, bI_eq, ev]
      refine ⟨rfl, Or.inr ⟨_, rfl, ActM.of hG0 hO hA hz.H hz.C p34 (fun j hj => setc_n hj) ?_⟩⟩
      rw [setc_s, c71]
      exact kap_put (i := 3) hA (by decide)
    · have h0 := p24.2.no h27
      have ef : fogF α x = (-1000002, none) := by unfold fogF; rw [if_pos hi, if_neg h0]
      rw [ef]; exact ⟨rfl, Or.inl ⟨rfl, p24.1.trans p7.1⟩⟩
    · exact absurd hi (p7.2.no h10)
  · have ef : fogF α x = (-1000001, none) := by unfold fogF; rw [if_neg hi]
    refine V_aload_n (pc := 0) hG (dk dd_X10_forget 0 rfl) rfl ?_
    refine V_iconst (pc := 1) hG (dk dd_X10_forget 1 rfl) (v := 0) (by decide) ?_
    refine V_putI (pc := 2) hG (dk dd_X10_forget 2 rfl) fl_X10_62 sh_67 rfl rfl ?_
    refine V_aload_n (pc := 5) hG (dk dd_X10_forget 3 rfl) rfl ?_
    refine V_iload_n (pc := 6) hG (dk dd_X10_forget 4 rfl) rfl ?_
    refine V_callVip (pc := 7) hG (dk dd_X10_forget 5 rfl) ml_X10_214 mo_X10_isThing sh_67 rfl (m_isThing (n := α 0 0) (by omega) (e_sc hA' (i := 0) (by decide))) (by decide) (by decide) rfl rfl rfl (fun x7 m7 p7 => ?_)
    refine V_if_ne (pc := 10) hG (dk dd_X10_forget 6 rfl) (tgt := 16) (by decide) (fun h10 => ?_) (fun h10 => ?_)
    rotate_left
    refine V_ldc (pc := 13) hG (dk dd_X10_forget 7 rfl) kk_X10_82 ?_
    refine V_iretP (pc := 15) hG (dk dd_X10_forget 8 rfl) hR (Pi.mk ?_)
    rotate_left
    -- leaves: stop 16; return@15
    · exact absurd (p7.2.yes h10) hi
    · rw [ef]; exact ⟨rfl, Or.inl ⟨rfl, p7.1⟩⟩
theorem m_learn {μ : Mem} {α : Al} {As : Nat → Al} {L : Nat} (hA : Abs (kap (μ 71)) α) (hz : Vz α) (hG0 : RgM μ As L) (hO : AsO As L) {x y : Int32} : CtP yX10_learn cX10_learn 4 (some .int) 2 [vR 67, vI x, vI y] μ (Pi (fun r μ' => r = (leaF α x y).1 ∧ OutM μ As L α (leaF α x y).2 μ')) := by
  refine CtP.go RX10 rfl pn_X10 (Nat.le_of_ble_eq_true rfl) (fun C hG hR => ?_)
  have ht := hz.t
  have hH := hz.H
  have hA' : Abs (kap (th0 μ 71)) α := hA
  by_cases hi : inN x (α 0 6) ∧ inN y (α 0 0)
  · obtain ⟨hx, hh⟩ := hi.1.n (by omega)
    obtain ⟨hy, hk⟩ := hi.2.n (by omega)
    have e2 : μ 71 (8 + 3 * x.toNatClampNeg + 1) = nI (α 2 x.toNatClampNeg) := by have := hA.2.1 2 _ (by decide) (by decide) hh; rw [kap_h (by decide) (by decide)] at this; rw [show 8 + 3 * x.toNatClampNeg + 1 = 7 + 3 * x.toNatClampNeg + 2 by omega]; exact this
    have i3 : (8 : Int32) + 3 * x + 1 = nI (8 + 3 * x.toNatClampNeg + 1) := by
      have := ix3 (h := x.toNatClampNeg) (v := 1)
      rw [← hx] at this; exact this
    have rx : vp_in ((8 : Int32) + 3 * x + 1) 46 := by rw [i3]; exact rr (by omega)
    refine V_aload_n (pc := 0) hG (dk dd_X10_learn 0 rfl) rfl ?_
    refine V_iconst (pc := 1) hG (dk dd_X10_learn 1 rfl) (v := 0) (by decide) ?_
    refine V_putI (pc := 2) hG (dk dd_X10_learn 2 rfl) fl_X10_62 sh_67 rfl rfl ?_
    refine V_aload_n (pc := 5) hG (dk dd_X10_learn 3 rfl) rfl ?_
    refine V_iload_n (pc := 6) hG (dk dd_X10_learn 4 rfl) rfl ?_
    refine V_callVip (pc := 7) hG (dk dd_X10_learn 5 rfl) ml_X10_201 mo_X10_isHum sh_67 rfl (m_isHum (n := α 0 6) (by omega) (e_sc hA' (i := 6) (by decide))) (by decide) (by decide) rfl rfl rfl (fun x7 m7 p7 => ?_)
    refine V_if_eq (pc := 10) hG (dk dd_X10_learn 6 rfl) (tgt := 21) (by decide) (fun h10 => ?_) (fun h10 => ?_)
    refine V_ldc (pc := 21) hG (dk dd_X10_learn 11 rfl) kk_X10_82 ?_
    refine V_iretP (pc := 23) hG (dk dd_X10_learn 12 rfl) hR (Pi.mk ?_)
    rotate_left
    refine V_aload_n (pc := 13) hG (dk dd_X10_learn 7 rfl) rfl ?_
    refine V_iload_n (pc := 14) hG (dk dd_X10_learn 8 rfl) rfl ?_
    refine V_callVip (pc := 15) hG (dk dd_X10_learn 9 rfl) ml_X10_214 mo_X10_isThing sh_67 rfl (m_isThing (n := α 0 0) (by omega) (by rw [p7.1]; exact e_sc hA' (i := 0) (by decide))) (by decide) (by decide) rfl rfl rfl (fun x15 m15 p15 => ?_)
    refine V_if_ne (pc := 18) hG (dk dd_X10_learn 10 rfl) (tgt := 24) (by decide) (fun h18 => ?_) (fun h18 => ?_)
    refine V_aload_n (pc := 24) hG (dk dd_X10_learn 13 rfl) rfl ?_
    refine V_callVvp (pc := 25) hG (dk dd_X10_learn 14 rfl) ml_X10_204 mo_X10_keep sh_67 rfl (m_keep (n := L) hG0.2.1 (by rw [p15.1, p7.1]; exact (th0_s (by decide)).trans hG0.1)) (by decide) (by decide) rfl rfl rfl (fun m25 p25 => ?_)
    refine V_aload_n (pc := 28) hG (dk dd_X10_learn 15 rfl) rfl ?_
    refine V_getR (pc := 29) hG (dk dd_X10_learn 16 rfl) fl_X10_19 sh_67 rfl ?_
    refine V_iload_n (pc := 32) hG (dk dd_X10_learn 17 rfl) rfl ?_
    refine V_iconst (pc := 33) hG (dk dd_X10_learn 18 rfl) (v := 1) (by decide) ?_
    refine V_callSip (pc := 34) hG (dk dd_X10_learn 19 rfl) ml_X10_177 mo_X10_of (m_of sh_71 hx (by omega) (v := 1) rfl (by decide)) (by decide) (by decide) rfl rfl rfl (fun x34 m34 p34 => ?_)
    refine V_istore_n (pc := 37) hG (dk dd_X10_learn 20 rfl) (by decide) (lv' := [(0, _), (1, _), (2, _), (3, _)]) rfl ?_
    refine V_aload_n (pc := 38) hG (dk dd_X10_learn 21 rfl) rfl ?_
    refine V_getR (pc := 39) hG (dk dd_X10_learn 22 rfl) fl_X10_19 sh_67 rfl ?_
    refine V_bipush (pc := 42) hG (dk dd_X10_learn 23 rfl) (v := 8) (by decide) ?_
    refine V_iconst (pc := 44) hG (dk dd_X10_learn 24 rfl) (v := 3) (by decide) ?_
    refine V_iload_n (pc := 45) hG (dk dd_X10_learn 25 rfl) rfl ?_
    refine V_imul (pc := 46) hG (dk dd_X10_learn 26 rfl) ?_
    refine V_iadd (pc := 47) hG (dk dd_X10_learn 27 rfl) ?_
    refine V_iconst (pc := 48) hG (dk dd_X10_learn 28 rfl) (v := 1) (by decide) ?_
    refine V_iadd (pc := 49) hG (dk dd_X10_learn 29 rfl) ?_
    refine V_iload_n (pc := 50) hG (dk dd_X10_learn 30 rfl) rfl ?_
    refine V_iast (pc := 51) hG (dk dd_X10_learn 31 rfl) sh_71 rx ?_
    refine V_iload_n (pc := 52) hG (dk dd_X10_learn 32 rfl) rfl ?_
    refine V_iretP (pc := 53) hG (dk dd_X10_learn 33 rfl) hR (Pi.mk ?_)
    rotate_left
    refine V_ldc (pc := 21) hG (dk dd_X10_learn 11 rfl) kk_X10_82 ?_
    refine V_iretP (pc := 23) hG (dk dd_X10_learn 12 rfl) hR (Pi.mk ?_)
    rotate_left
    -- leaves: return@23; return@53; return@23
    · exact absurd hi.1 (p7.2.no h10)
    · obtain ⟨rfl, z⟩ := p7
      obtain ⟨rfl, q⟩ := p15
      obtain ⟨rfl, w⟩ := p34
      have ef : leaF α x y = (nI (α 2 x.toNatClampNeg), some (updA α 2 x.toNatClampNeg y.toNatClampNeg)) := by unfold leaF; rw [if_pos hi]
      rw [ef]
      have c71 := p25.c71
      rw [w, c71]
      refine ⟨e2, Or.inr ⟨_, rfl, ActM.of hG0 hO hA hz.H hz.C p25 (fun j hj => setc_n hj) ?_⟩⟩
      rw [setc_s, i3, nI_clamp (by omega), hy, nI_clamp (by omega)]
      exact kap_thg hA hh hH
    · exact absurd hi.2 (p15.2.no h18)
  · have ef : leaF α x y = (-1000001, none) := by unfold leaF; rw [if_neg hi]
    refine V_aload_n (pc := 0) hG (dk dd_X10_learn 0 rfl) rfl ?_
    refine V_iconst (pc := 1) hG (dk dd_X10_learn 1 rfl) (v := 0) (by decide) ?_
    refine V_putI (pc := 2) hG (dk dd_X10_learn 2 rfl) fl_X10_62 sh_67 rfl rfl ?_
    refine V_aload_n (pc := 5) hG (dk dd_X10_learn 3 rfl) rfl ?_
    refine V_iload_n (pc := 6) hG (dk dd_X10_learn 4 rfl) rfl ?_
    refine V_callVip (pc := 7) hG (dk dd_X10_learn 5 rfl) ml_X10_201 mo_X10_isHum sh_67 rfl (m_isHum (n := α 0 6) (by omega) (e_sc hA' (i := 6) (by decide))) (by decide) (by decide) rfl rfl rfl (fun x7 m7 p7 => ?_)
    refine V_if_eq (pc := 10) hG (dk dd_X10_learn 6 rfl) (tgt := 21) (by decide) (fun h10 => ?_) (fun h10 => ?_)
    refine V_ldc (pc := 21) hG (dk dd_X10_learn 11 rfl) kk_X10_82 ?_
    refine V_iretP (pc := 23) hG (dk dd_X10_learn 12 rfl) hR (Pi.mk ?_)
    rotate_left
    refine V_aload_n (pc := 13) hG (dk dd_X10_learn 7 rfl) rfl ?_
    refine V_iload_n (pc := 14) hG (dk dd_X10_learn 8 rfl) rfl ?_
    refine V_callVip (pc := 15) hG (dk dd_X10_learn 9 rfl) ml_X10_214 mo_X10_isThing sh_67 rfl (m_isThing (n := α 0 0) (by omega) (by rw [p7.1]; exact e_sc hA' (i := 0) (by decide))) (by decide) (by decide) rfl rfl rfl (fun x15 m15 p15 => ?_)
    refine V_if_ne (pc := 18) hG (dk dd_X10_learn 10 rfl) (tgt := 24) (by decide) (fun h18 => ?_) (fun h18 => ?_)
    rotate_left
    refine V_ldc (pc := 21) hG (dk dd_X10_learn 11 rfl) kk_X10_82 ?_
    refine V_iretP (pc := 23) hG (dk dd_X10_learn 12 rfl) hR (Pi.mk ?_)
    rotate_left
    -- leaves: return@23; stop 24; return@23
    · rw [ef]; exact ⟨rfl, Or.inl ⟨rfl, p7.1⟩⟩
    · exact absurd ⟨p7.2.yes h10, p15.2.yes h18⟩ hi
    · rw [ef]; exact ⟨rfl, Or.inl ⟨rfl, p15.1.trans p7.1⟩⟩
