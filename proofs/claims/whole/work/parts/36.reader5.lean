def hmlS (τ : Nat → Nat) (n : Nat) : Nat → Rd → Rd
  | 0, q => q
  | k + 1, q => if kdS τ n q.1 = 0 then q else if q.2 0 6 = 6 then hmlS τ n k (markS 3 q.1, q.2) else hmlS τ n k (humS τ n q)
theorem hmlS_s (τ : Nat → Nat) (n k : Nat) (q : Rd) : hmlS τ n (k + 1) q = if kdS τ n q.1 = 0 then q else if q.2 0 6 = 6 then hmlS τ n k (markS 3 q.1, q.2) else hmlS τ n k (humS τ n q) := rfl
def hmsS (τ : Nat → Nat) (n : Nat) (q : Rd) : Rd := hmlS τ n 120 (if kdS τ n q.1 = 0 then markS 1 q.1 else q.1, q.2)
theorem humS_6 (τ : Nat → Nat) (n : Nat) (q : Rd) : (humS τ n q).2 0 6 = q.2 0 6 + 1 := by unfold humS; dsimp only; rw [updA_s]
theorem humS_n (τ : Nat → Nat) (n : Nat) (q : Rd) {i : Nat} (hi : i ≠ 6) : (humS τ n q).2 0 i = q.2 0 i := by unfold humS; dsimp only; rw [updA_n (by omega), updA_n (by omega), updA_n (by omega), updA_n (by omega)]
theorem c_readHums {μ : Mem} {τ : Nat → Nat} {n : Nat} {q : Rd} (hs : RdS μ τ n q.1) (hD : DrS μ q.2) (h0 : q.1.2 = 0 → 1 ≤ q.2 0 0) (h8 : q.2 0 0 ≤ 8) (h6 : q.2 0 6 = 0) (h5 : q.2 0 7 ≤ 5) :
    CtP yX4_readHums cX4_readHums 2 none 4 [vR 31] μ (Pv (fun μ' => RdS μ' τ n (hmsS τ n q).1 ∧ DrS μ' (hmsS τ n q).2 ∧ OffD μ μ')) := by
  refine CtP.go RX4 rfl pn_X4 (Nat.le_of_ble_eq_true rfl) (fun C hG hR => ?_)
  have loop : ∀ k i μ1 (u : Rd), i + k = 120 → RdS μ1 τ n u.1 → DrS μ1 u.2 → OffD μ μ1 → u.2 0 0 = q.2 0 0 → u.2 0 7 = q.2 0 7 → u.2 0 6 ≤ 6 → hmlS τ n k u = hmsS τ n q → (u.1.2 = 0 → q.1.2 = 0) → V C 14 [(0, vR 31), (1, vI (nI i))] [] μ1 := by
    intro k
    induction k with
    | zero =>
      intro i μ1 u hi f1 f2 f3 f4 f5 f6 f7 f8
      refine V_iload_n (pc := 14) hG (dk dd_X4_readHums 8 rfl) rfl ?_
      refine V_bipush (pc := 15) hG (dk dd_X4_readHums 9 rfl) (v := 120) (by decide) ?_
      refine V_icmp_ge (pc := 17) hG (dk dd_X4_readHums 10 rfl) (tgt := 57) (by decide) (fun h17 => ?_) (fun h17 => ?_)
      refine V_vretP (pc := 57) hG (dk dd_X4_readHums 27 rfl) hR (Pv.mk ?_)
      rotate_left
      rotate_left
      -- leaves: return@57; stop 20
      · rw [← f7]; exact ⟨f1, f2, f3⟩
      · exfalso; have := nle_i (a := 120) h17 (by omega) (by omega); omega
    | succ k ih =>
      intro i μ1 u hi f1 f2 f3 f4 f5 f6 f7 f8
      rw [hmlS_s] at f7
      have e6 : μ1 23 6 = nI (u.2 0 6) := f2.1.1 6 (by decide)
      have hk5 := kdS_le τ n u.1
      refine V_iload_n (pc := 14) hG (dk dd_X4_readHums 8 rfl) rfl ?_
      refine V_bipush (pc := 15) hG (dk dd_X4_readHums 9 rfl) (v := 120) (by decide) ?_
      refine V_icmp_ge (pc := 17) hG (dk dd_X4_readHums 10 rfl) (tgt := 57) (by decide) (fun h17 => ?_) (fun h17 => ?_)
      refine V_vretP (pc := 57) hG (dk dd_X4_readHums 27 rfl) hR (Pv.mk ?_)
      rotate_left
      refine V_aload_n (pc := 20) hG (dk dd_X4_readHums 11 rfl) rfl ?_
      refine V_callVip (pc := 21) hG (dk dd_X4_readHums 12 rfl) ml_X4_76 mo_X4_kindNext sh_31 rfl (c_kindNext f1) (by decide) (by decide) rfl rfl rfl (fun x21 m21 p21 => ?_)
      refine V_if_eq (pc := 24) hG (dk dd_X4_readHums 13 rfl) (tgt := 57) (by decide) (fun h24 => ?_) (fun h24 => ?_)
      refine V_vretP (pc := 57) hG (dk dd_X4_readHums 27 rfl) hR (Pv.mk ?_)
      rotate_left
      refine V_aload_n (pc := 27) hG (dk dd_X4_readHums 14 rfl) rfl ?_
      refine V_getR (pc := 28) hG (dk dd_X4_readHums 15 rfl) fl_X4_15 sh_31 rfl ?_
      refine V_getI (pc := 31) hG (dk dd_X4_readHums 16 rfl) fl_X4_82 sh_23 rfl ?_
      refine V_bipush (pc := 34) hG (dk dd_X4_readHums 17 rfl) (v := 6) (by decide) ?_
      refine V_icmp_ne (pc := 36) hG (dk dd_X4_readHums 18 rfl) (tgt := 47) (by decide) (fun h36 => ?_) (fun h36 => ?_)
      refine V_aload_n (pc := 47) hG (dk dd_X4_readHums 23 rfl) rfl ?_
      refine V_callVvp (pc := 48) hG (dk dd_X4_readHums 24 rfl) ml_X4_85 mo_X4_readHum sh_31 rfl (c_readHum (p21.1 ▸ f1) (p21.1 ▸ f2) (fun z => by rw [f4]; exact h0 (f8 z)) (by rw [f4]; exact h8) ?_ ?_ (by rw [f5]; exact h5)) (by decide) (by decide) rfl rfl rfl (fun m48 p48 => ?_)
      rotate_left
      rotate_left
      refine V_iinc (pc := 51) hG (dk dd_X4_readHums 25 rfl) rfl (v := _ + 1) rfl (by decide) (lv' := [(0, _), (1, _)]) rfl ?_
      refine V_goto (pc := 54) hG (dk dd_X4_readHums 26 rfl) (tgt := 14) (by decide) ?_
      rotate_left
      refine V_aload_n (pc := 39) hG (dk dd_X4_readHums 19 rfl) rfl ?_
      refine V_iconst (pc := 40) hG (dk dd_X4_readHums 20 rfl) (v := 3) (by decide) ?_
      refine V_callVvp (pc := 41) hG (dk dd_X4_readHums 21 rfl) ml_X4_79 mo_X4_mark sh_31 rfl (c_mark (p21.1 ▸ f1) (k := 3) rfl (by decide)) (by decide) (by decide) rfl rfl rfl (fun m41 p41 => ?_)
      refine V_goto (pc := 44) hG (dk dd_X4_readHums 22 rfl) (tgt := 51) (by decide) ?_
      refine V_iinc (pc := 51) hG (dk dd_X4_readHums 25 rfl) rfl (v := _ + 1) rfl (by decide) (lv' := [(0, _), (1, _)]) rfl ?_
      refine V_goto (pc := 54) hG (dk dd_X4_readHums 26 rfl) (tgt := 14) (by decide) ?_
      rotate_left
      -- leaves: return@57; return@57; call readHum@48 0; call readHum@48 1; stop 14; stop 14
      · exfalso; have := le_i (a := 120) h17 (by omega) (by omega); omega
      · obtain ⟨rfl, rfl⟩ := p21
        rw [if_pos ((nI_eq (b := 0) (by omega) (by decide)).mp h24)] at f7
        rw [← f7]; exact ⟨f1, f2, f3⟩
      · obtain ⟨rfl, rfl⟩ := p21
        exact fun z => h24 (by rw [z]; rfl)
      · obtain ⟨rfl, rfl⟩ := p21
        rw [e6] at h36
        exact Nat.lt_of_le_of_ne f6 (fun z => h36 (by rw [z]; rfl))
      · obtain ⟨rfl, rfl⟩ := p21
        rw [e6] at h36
        have hne : ¬ u.2 0 6 = 6 := fun z => h36 (by rw [z]; rfl)
        rw [if_neg (fun z => h24 (by rw [z]; rfl)), if_neg hne] at f7
        have hI := ih (i + 1) m48 (humS τ n u) (by omega) p48.1 p48.2.1 (f3.tr p48.2.2) (by rw [humS_n τ n u (by decide)]; exact f4) (by rw [humS_n τ n u (by decide)]; exact f5) (by rw [humS_6]; omega) f7 (fun _ => f8 (kdS_0 (fun z => h24 (by rw [z]; rfl))).1)
        rw [nI_succ] at hI
        exact hI
      · obtain ⟨rfl, rfl⟩ := p21
        rw [e6] at h36
        rw [if_neg (fun z => h24 (by rw [z]; rfl)), if_pos ((nI_eq (b := 6) (by omega) (by decide)).mp h36)] at f7
        have hI := ih (i + 1) m41 (markS 3 u.1, u.2) (by omega) p41.1 (f2.off p41.2) (f3.tr p41.2.d) f4 f5 f6 f7 (fun z => absurd z (fun w => markS_0 (by decide) w))
        rw [nI_succ] at hI
        exact hI
  refine V_aload_n (pc := 0) hG (dk dd_X4_readHums 0 rfl) rfl ?_
  refine V_callVip (pc := 1) hG (dk dd_X4_readHums 1 rfl) ml_X4_76 mo_X4_kindNext sh_31 rfl (c_kindNext hs) (by decide) (by decide) rfl rfl rfl (fun x1 m1 p1 => ?_)
  refine V_if_ne (pc := 4) hG (dk dd_X4_readHums 2 rfl) (tgt := 12) (by decide) (fun h4 => ?_) (fun h4 => ?_)
  refine V_iconst (pc := 12) hG (dk dd_X4_readHums 6 rfl) (v := 0) (by decide) ?_
  refine V_istore_n (pc := 13) hG (dk dd_X4_readHums 7 rfl) (by decide) (lv' := [(0, _), (1, _)]) rfl ?_
  rotate_left
  refine V_aload_n (pc := 7) hG (dk dd_X4_readHums 3 rfl) rfl ?_
  refine V_iconst (pc := 8) hG (dk dd_X4_readHums 4 rfl) (v := 1) (by decide) ?_
  refine V_callVvp (pc := 9) hG (dk dd_X4_readHums 5 rfl) ml_X4_79 mo_X4_mark sh_31 rfl (c_mark (p1.1 ▸ hs) (k := 1) rfl (by decide)) (by decide) (by decide) rfl rfl rfl (fun m9 p9 => ?_)
  refine V_iconst (pc := 12) hG (dk dd_X4_readHums 6 rfl) (v := 0) (by decide) ?_
  refine V_istore_n (pc := 13) hG (dk dd_X4_readHums 7 rfl) (by decide) (lv' := [(0, _), (1, _)]) rfl ?_
  rotate_left
  -- leaves: stop 14; stop 14
  · obtain ⟨rfl, rfl⟩ := p1
    exact loop 120 0 m1 q (by omega) hs hD (fun _ _ => rfl) rfl rfl (by omega) (by unfold hmsS; rw [if_neg (fun z => h4 (by rw [z]; rfl))]) id
  · obtain ⟨rfl, rfl⟩ := p1
    have hk5 := kdS_le τ n q.1
    exact loop 120 0 m9 (markS 1 q.1, q.2) (by omega) p9.1 (hD.off p9.2) p9.2.d rfl rfl (by dsimp only; omega) (by unfold hmsS; rw [if_pos ((nI_eq (b := 0) (by omega) (by decide)).mp h4)]) (fun z => absurd z (fun w => markS_0 (by decide) w))
def casS (τ : Nat → Nat) (n : Nat) (q : Rd) : Rd :=
  let a := numS τ n 0 (q.2 0 6 - 1) (pasS τ n 118 q.1)
  let b := thiS τ n q.2 (pasS τ n 44 a.2)
  let d := thiS τ n q.2 (pasS τ n 44 b.2)
  (pasS τ n 59 (if d.2.2 = 0 ∧ d.1 = b.1 then ((pasS τ n 44 b.2).1, 2) else d.2), updA (updA (updA (updA q.2 4 (q.2 0 7) a.1) 5 (q.2 0 7) b.1) 6 (q.2 0 7) d.1) 0 7 (q.2 0 7 + 1))
set_option maxHeartbeats 2000000 in
theorem c_readCase {μ : Mem} {τ : Nat → Nat} {n : Nat} {q : Rd} (hs : RdS μ τ n q.1) (hD : DrS μ q.2) (h0 : 1 ≤ q.2 0 0) (h8 : q.2 0 0 ≤ 8) (h1 : 1 ≤ q.2 0 6) (h6 : q.2 0 6 ≤ 6) (h5 : q.2 0 7 < 5) (h7 : ∀ c, q.2 7 c = 0) :
    CtP yX4_readCase cX4_readCase 3 none 3 [vR 31] μ (Pv (fun μ' => RdS μ' τ n (casS τ n q).1 ∧ DrS μ' (casS τ n q).2 ∧ OffD μ μ')) := by
  refine CtP.go RX4 rfl pn_X4 (Nat.le_of_ble_eq_true rfl) (fun C hG hR => ?_)
  have e7 : μ 23 7 = nI (q.2 0 7) := hD.1.1 7 (by decide)
  have e6 : μ 23 6 = nI (q.2 0 6) := hD.1.1 6 (by decide)
  have e0 : μ 23 0 = nI (q.2 0 0) := hD.1.1 0 (by decide)
  have hr : vp_in (μ 23 7) 5 := in_nI e7 h5 (by decide)
  have cr : (μ 23 7).toNatClampNeg = q.2 0 7 := nI_cl e7 (by omega)
  have drs : ∀ μ1 : Mem, μ1 23 = μ 23 → ∀ s, RdS μ1 τ n s → CtP yX4_thing cX4_thing 1 (some .int) 2 [vR 31] μ1 (Pi (fun r μ' => r = nI (thiS τ n q.2 s).1 ∧ RdS μ' τ n (thiS τ n q.2 s).2 ∧ Off31 μ1 μ')) := by
    intro μ1 hm s hs1
    refine CtP.go RX4 rfl pn_X4 (Nat.le_of_ble_eq_true rfl) (fun C hG hR => ?_)
    refine V_aload_n (pc := 0) hG (dk dd_X4_thing 0 rfl) rfl ?_
    refine V_iconst (pc := 1) hG (dk dd_X4_thing 1 rfl) (v := 0) (by decide) ?_
    refine V_aload_n (pc := 2) hG (dk dd_X4_thing 2 rfl) rfl ?_
    refine V_getR (pc := 3) hG (dk dd_X4_thing 3 rfl) fl_X4_15 sh_31 rfl ?_
    refine V_getI (pc := 6) hG (dk dd_X4_thing 4 rfl) fl_X4_56 sh_23 rfl ?_
    refine V_iconst (pc := 9) hG (dk dd_X4_thing 5 rfl) (v := 1) (by decide) ?_
    refine V_isub (pc := 10) hG (dk dd_X4_thing 6 rfl) ?_
    refine V_callVip (pc := 11) hG (dk dd_X4_thing 7 rfl) ml_X4_52 mo_X4_number sh_31 rfl (c_number hs1 (lo := 0) (hi := q.2 0 0 - 1) rfl (by decide) (fun _ => by rw [hm, e0, show (1 : Int32) = nI 1 from rfl, pk_sub h0]) (by omega)) (by decide) (by decide) rfl rfl rfl (fun x11 m11 p11 => ?_)
    refine V_iretP (pc := 14) hG (dk dd_X4_thing 8 rfl) hR (Pi.mk ?_)
    rotate_left
    -- leaves: return@14
    · exact p11
  have fin : ∀ (μ1 : Mem) (s7 : Pf) (z : Int32), RdS μ1 τ n s7 → (∀ a, a ≠ 31 → a ≠ 27 → a ≠ 28 → a ≠ 29 → μ1 a = μ a) → μ1 27 = upd (μ 27) (q.2 0 7) (nI (numS τ n 0 (q.2 0 6 - 1) (pasS τ n 118 q.1)).1) →
      μ1 28 = upd (μ 28) (q.2 0 7) (nI (thiS τ n q.2 (pasS τ n 44 (numS τ n 0 (q.2 0 6 - 1) (pasS τ n 118 q.1)).2)).1) → μ1 29 = upd (μ 29) (q.2 0 7) (nI (thiS τ n q.2 (pasS τ n 44 (thiS τ n q.2 (pasS τ n 44 (numS τ n 0 (q.2 0 6 - 1) (pasS τ n 118 q.1)).2)).2)).1) → (casS τ n q).1 = pasS τ n 59 s7 →
      V C 118 [(0, vR 31), (1, vI (μ 23 7)), (2, vI z)] [] μ1 := by
    intro μ1 s7 z g1 g2 g3 g4 g5 g6
    refine V_aload_n (pc := 118) hG (dk dd_X4_readCase 63 rfl) rfl ?_
    refine V_bipush (pc := 119) hG (dk dd_X4_readCase 64 rfl) (v := 59) (by decide) ?_
    refine V_callVvp (pc := 121) hG (dk dd_X4_readCase 65 rfl) ml_X4_48 mo_X4_pass sh_31 rfl (c_pass g1 (c := 59) rfl (by decide)) (by decide) (by decide) rfl rfl rfl (fun m121 p121 => ?_)
    refine V_aload_n (pc := 124) hG (dk dd_X4_readCase 66 rfl) rfl ?_
    refine V_getR (pc := 125) hG (dk dd_X4_readCase 67 rfl) fl_X4_15 sh_31 rfl ?_
    refine V_dup (pc := 128) hG (dk dd_X4_readCase 68 rfl) rfl ?_
    refine V_getI (pc := 129) hG (dk dd_X4_readCase 69 rfl) fl_X4_98 sh_23 rfl ?_
    refine V_iconst (pc := 132) hG (dk dd_X4_readCase 70 rfl) (v := 1) (by decide) ?_
    refine V_iadd (pc := 133) hG (dk dd_X4_readCase 71 rfl) ?_
    refine V_putI (pc := 134) hG (dk dd_X4_readCase 72 rfl) fl_X4_98 sh_23 rfl rfl ?_
    refine V_vretP (pc := 137) hG (dk dd_X4_readCase 73 rfl) hR (Pv.mk ?_)
    rotate_left
    -- leaves: return@137
    · obtain ⟨d1, d2⟩ := p121
      have ch : ∀ a, a ≠ 31 → a ≠ 27 → a ≠ 28 → a ≠ 29 → m121 a = μ a := fun a n1 n2 n3 n4 => by rw [d2 a n1]; exact g2 a n1 n2 n3 n4
      have e23 : m121 23 = μ 23 := ch 23 (by decide) (by decide) (by decide) (by decide)
      rw [e23, e7, nI_1, g6]
      refine ⟨d1.set (by decide), ⟨⟨fun i hi => ?_, fun y h a1 a2 a3 => ?_, fun y c a1 a2 a3 => ?_⟩, fun c hc => by rw [setc_n (by decide), ch 30 (by decide) (by decide) (by decide) (by decide)]; exact hD.2 c hc⟩, fun a ha => by rw [setc_n (by omega)]; exact ch a (by omega) (by omega) (by omega) (by omega)⟩
      · show setc m121 23 (upd (μ 23) 7 _) 23 i = nI ((casS τ n q).2 0 i)
        unfold casS; dsimp only
        rw [setc_s]
        by_cases e : i = 7
        · subst e; rw [pk_us, updA_s]
        · rw [pk_un e, updA_n (by omega), updA_n (by omega), updA_n (by omega), updA_n (by omega)]; exact hD.1.1 i hi
      · have a3 : h < q.2 0 6 := by unfold casS at a3; dsimp only at a3; rw [updA_n (by omega), updA_n (by omega), updA_n (by omega), updA_n (by omega)] at a3; exact a3
        show setc m121 23 (upd (μ 23) 7 _) (23 + y) h = nI ((casS τ n q).2 y h)
        unfold casS; dsimp only
        rw [setc_n (by omega), ch _ (by omega) (by omega) (by omega) (by omega), updA_n (by omega), updA_n (by omega), updA_n (by omega), updA_n (by omega)]
        exact hD.1.2.1 y h a1 a2 a3
      · have a3 : c < q.2 0 7 + 1 := by unfold casS at a3; dsimp only at a3; rw [updA_s] at a3; exact a3
        show setc m121 23 (upd (μ 23) 7 _) (23 + y) c = nI ((casS τ n q).2 y c)
        unfold casS; dsimp only
        rw [setc_n (by omega)]
        rcases (show y = 4 ∨ y = 5 ∨ y = 6 ∨ y = 7 by omega) with rfl | rfl | rfl | rfl
        · rw [show 23 + 4 = 27 from rfl, d2 27 (by decide), g3, updA_n (by omega), updA_n (by omega), updA_n (by omega)]
          by_cases e : c = q.2 0 7
          · subst e; rw [pk_us, updA_s]
          · rw [pk_un e, updA_n (by omega)]; exact hD.1.2.2 4 c (by decide) (by decide) (by omega)
        · rw [show 23 + 5 = 28 from rfl, d2 28 (by decide), g4, updA_n (by omega), updA_n (by omega)]
          by_cases e : c = q.2 0 7
          · subst e; rw [pk_us, updA_s]
          · rw [pk_un e, updA_n (by omega), updA_n (by omega)]; exact hD.1.2.2 5 c (by decide) (by decide) (by omega)
        · rw [show 23 + 6 = 29 from rfl, d2 29 (by decide), g5, updA_n (by omega)]
          by_cases e : c = q.2 0 7
          · subst e; rw [pk_us, updA_s]
          · rw [pk_un e, updA_n (by omega), updA_n (by omega), updA_n (by omega)]; exact hD.1.2.2 6 c (by decide) (by decide) (by omega)
        · rw [show 23 + 7 = 30 from rfl, ch 30 (by decide) (by decide) (by decide) (by decide), hD.2 c (by omega), updA_n (by omega), updA_n (by omega), updA_n (by omega), updA_n (by omega)]
          rw [h7]; rfl
  have eqc : ∀ (m : Mem), (∀ a, a ≠ 31 → a ≠ 27 → a ≠ 28 → a ≠ 29 → m a = μ a) → m 23 = μ 23 := fun m h => h 23 (by decide) (by decide) (by decide) (by decide)
  refine V_aload_n (pc := 0) hG (dk dd_X4_readCase 0 rfl) rfl ?_
  refine V_getR (pc := 1) hG (dk dd_X4_readCase 1 rfl) fl_X4_15 sh_31 rfl ?_
  refine V_getI (pc := 4) hG (dk dd_X4_readCase 2 rfl) fl_X4_98 sh_23 rfl ?_
  refine V_istore_n (pc := 7) hG (dk dd_X4_readCase 3 rfl) (by decide) (lv' := [(0, _), (1, _)]) rfl ?_
  refine V_aload_n (pc := 8) hG (dk dd_X4_readCase 4 rfl) rfl ?_
  refine V_bipush (pc := 9) hG (dk dd_X4_readCase 5 rfl) (v := 118) (by decide) ?_
  refine V_callVvp (pc := 11) hG (dk dd_X4_readCase 6 rfl) ml_X4_48 mo_X4_pass sh_31 rfl (c_pass hs (c := 118) rfl (by decide)) (by decide) (by decide) rfl rfl rfl (fun m11 p11 => ?_)
  refine V_aload_n (pc := 14) hG (dk dd_X4_readCase 7 rfl) rfl ?_
  refine V_getR (pc := 15) hG (dk dd_X4_readCase 8 rfl) fl_X4_15 sh_31 rfl ?_
  refine V_getR (pc := 18) hG (dk dd_X4_readCase 9 rfl) fl_X4_104 sh_23 rfl ?_
  refine V_iload_n (pc := 21) hG (dk dd_X4_readCase 10 rfl) rfl ?_
  refine V_aload_n (pc := 22) hG (dk dd_X4_readCase 11 rfl) rfl ?_
  refine V_iconst (pc := 23) hG (dk dd_X4_readCase 12 rfl) (v := 0) (by decide) ?_
  refine V_aload_n (pc := 24) hG (dk dd_X4_readCase 13 rfl) rfl ?_
  refine V_getR (pc := 25) hG (dk dd_X4_readCase 14 rfl) fl_X4_15 sh_31 rfl ?_
  refine V_getI (pc := 28) hG (dk dd_X4_readCase 15 rfl) fl_X4_82 sh_23 rfl ?_
  refine V_iconst (pc := 31) hG (dk dd_X4_readCase 16 rfl) (v := 1) (by decide) ?_
  refine V_isub (pc := 32) hG (dk dd_X4_readCase 17 rfl) ?_
  refine V_callVip (pc := 33) hG (dk dd_X4_readCase 18 rfl) ml_X4_52 mo_X4_number sh_31 rfl (c_number p11.1 (lo := 0) (hi := q.2 0 6 - 1) rfl (by decide) (fun _ => by rw [p11.2 23 (by decide), e6, show (1 : Int32) = nI 1 from rfl, pk_sub h1]) (by omega)) (by decide) (by decide) rfl rfl rfl (fun x33 m33 p33 => ?_)
  refine V_iast (pc := 36) hG (dk dd_X4_readCase 19 rfl) sh_27 hr ?_
  refine V_aload_n (pc := 37) hG (dk dd_X4_readCase 20 rfl) rfl ?_
  refine V_bipush (pc := 38) hG (dk dd_X4_readCase 21 rfl) (v := 44) (by decide) ?_
  refine V_callVvp (pc := 40) hG (dk dd_X4_readCase 22 rfl) ml_X4_48 mo_X4_pass sh_31 rfl (c_pass (p33.2.1.set (by decide)) (c := 44) rfl (by decide)) (by decide) (by decide) rfl rfl rfl (fun m40 p40 => ?_)
  refine V_aload_n (pc := 43) hG (dk dd_X4_readCase 23 rfl) rfl ?_
  refine V_getR (pc := 44) hG (dk dd_X4_readCase 24 rfl) fl_X4_15 sh_31 rfl ?_
  refine V_getR (pc := 47) hG (dk dd_X4_readCase 25 rfl) fl_X4_107 sh_23 rfl ?_
  refine V_iload_n (pc := 50) hG (dk dd_X4_readCase 26 rfl) rfl ?_
  refine V_aload_n (pc := 51) hG (dk dd_X4_readCase 27 rfl) rfl ?_
  refine V_callVip (pc := 52) hG (dk dd_X4_readCase 28 rfl) ml_X4_65 mo_X4_thing sh_31 rfl (drs _ (by rw [p40.2 23 (by decide), setc_n (by decide), p33.2.2 23 (by decide), p11.2 23 (by decide)]) _ p40.1) (by decide) (by decide) rfl rfl rfl (fun x52 m52 p52 => ?_)
  refine V_iast (pc := 55) hG (dk dd_X4_readCase 29 rfl) sh_28 hr ?_
  refine V_aload_n (pc := 56) hG (dk dd_X4_readCase 30 rfl) rfl ?_
  refine V_bipush (pc := 57) hG (dk dd_X4_readCase 31 rfl) (v := 44) (by decide) ?_
  refine V_callVvp (pc := 59) hG (dk dd_X4_readCase 32 rfl) ml_X4_48 mo_X4_pass sh_31 rfl (c_pass (p52.2.1.set (by decide)) (c := 44) rfl (by decide)) (by decide) (by decide) rfl rfl rfl (fun m59 p59 => ?_)
  refine V_aload_n (pc := 62) hG (dk dd_X4_readCase 33 rfl) rfl ?_
  refine V_getI (pc := 63) hG (dk dd_X4_readCase 34 rfl) fl_X4_19 sh_31 rfl ?_
  refine V_istore_n (pc := 66) hG (dk dd_X4_readCase 35 rfl) (by decide) (lv' := [(0, _), (1, _), (2, _)]) rfl ?_
  refine V_aload_n (pc := 67) hG (dk dd_X4_readCase 36 rfl) rfl ?_
  refine V_getR (pc := 68) hG (dk dd_X4_readCase 37 rfl) fl_X4_15 sh_31 rfl ?_
  refine V_getR (pc := 71) hG (dk dd_X4_readCase 38 rfl) fl_X4_110 sh_23 rfl ?_
  refine V_iload_n (pc := 74) hG (dk dd_X4_readCase 39 rfl) rfl ?_
  refine V_aload_n (pc := 75) hG (dk dd_X4_readCase 40 rfl) rfl ?_
  refine V_callVip (pc := 76) hG (dk dd_X4_readCase 41 rfl) ml_X4_65 mo_X4_thing sh_31 rfl (drs _ (by rw [p59.2 23 (by decide), setc_n (by decide), p52.2.2 23 (by decide), p40.2 23 (by decide), setc_n (by decide), p33.2.2 23 (by decide), p11.2 23 (by decide)]) _ p59.1) (by decide) (by decide) rfl rfl rfl (fun x76 m76 p76 => ?_)
  refine V_iast (pc := 79) hG (dk dd_X4_readCase 42 rfl) sh_29 hr ?_
  refine V_aload_n (pc := 80) hG (dk dd_X4_readCase 43 rfl) rfl ?_
  refine V_getI (pc := 81) hG (dk dd_X4_readCase 44 rfl) fl_X4_23 sh_31 rfl ?_
  refine V_if_ne (pc := 84) hG (dk dd_X4_readCase 45 rfl) (tgt := 118) (by decide) (fun h84 => ?_) (fun h84 => ?_)
  rotate_left
  refine V_aload_n (pc := 87) hG (dk dd_X4_readCase 46 rfl) rfl ?_
  refine V_getR (pc := 88) hG (dk dd_X4_readCase 47 rfl) fl_X4_15 sh_31 rfl ?_
  refine V_getR (pc := 91) hG (dk dd_X4_readCase 48 rfl) fl_X4_110 sh_23 rfl ?_
  refine V_iload_n (pc := 94) hG (dk dd_X4_readCase 49 rfl) rfl ?_
  refine V_iald (pc := 95) hG (dk dd_X4_readCase 50 rfl) sh_29 hr ?_
  refine V_aload_n (pc := 96) hG (dk dd_X4_readCase 51 rfl) rfl ?_
  refine V_getR (pc := 97) hG (dk dd_X4_readCase 52 rfl) fl_X4_15 sh_31 rfl ?_
  refine V_getR (pc := 100) hG (dk dd_X4_readCase 53 rfl) fl_X4_107 sh_23 rfl ?_
  refine V_iload_n (pc := 103) hG (dk dd_X4_readCase 54 rfl) rfl ?_
  refine V_iald (pc := 104) hG (dk dd_X4_readCase 55 rfl) sh_28 hr ?_
  refine V_icmp_ne (pc := 105) hG (dk dd_X4_readCase 56 rfl) (tgt := 118) (by decide) (fun h105 => ?_) (fun h105 => ?_)
  rotate_left
  refine V_aload_n (pc := 108) hG (dk dd_X4_readCase 57 rfl) rfl ?_
  refine V_iload_n (pc := 109) hG (dk dd_X4_readCase 58 rfl) rfl ?_
  refine V_putI (pc := 110) hG (dk dd_X4_readCase 59 rfl) fl_X4_19 sh_31 rfl rfl ?_
  refine V_aload_n (pc := 113) hG (dk dd_X4_readCase 60 rfl) rfl ?_
  refine V_iconst (pc := 114) hG (dk dd_X4_readCase 61 rfl) (v := 2) (by decide) ?_
  refine V_callVvp (pc := 115) hG (dk dd_X4_readCase 62 rfl) ml_X4_79 mo_X4_mark sh_31 rfl (c_mark (τ := τ) (n := n) (s := ((pasS τ n 44 (thiS τ n q.2 (pasS τ n 44 (numS τ n 0 (q.2 0 6 - 1) (pasS τ n 118 q.1)).2)).2).1, 0)) ?_ (k := 2) rfl (by decide)) (by decide) (by decide) rfl rfl rfl (fun m115 p115 => ?_)
  rotate_left
  rotate_left
  -- leaves: stop 118; stop 118; call mark@115 0; stop 118
  all_goals (obtain ⟨a1, a2⟩ := p11; obtain ⟨rfl, b1, b2⟩ := p33; obtain ⟨c1, c2⟩ := p40; obtain ⟨rfl, d1, d2⟩ := p52; obtain ⟨g1, g2⟩ := p59; obtain ⟨rfl, k1, k2⟩ := p76)
  all_goals (have ch : ∀ a, a ≠ 31 → a ≠ 27 → a ≠ 28 → a ≠ 29 → (setc m76 29 (upd (m76 29) (μ 23 7).toNatClampNeg (nI (thiS τ n q.2 (pasS τ n 44 (thiS τ n q.2 (pasS τ n 44 (numS τ n 0 (q.2 0 6 - 1) (pasS τ n 118 q.1)).2)).2)).1))) a = μ a := (fun a n1 n2 n3 n4 => by rw [setc_n n4, k2 a n1, g2 a n1, setc_n n3, d2 a n1, c2 a n1, setc_n n2, b2 a n1, a2 a n1]))
  all_goals (have e27 : (setc m76 29 (upd (m76 29) (μ 23 7).toNatClampNeg (nI (thiS τ n q.2 (pasS τ n 44 (thiS τ n q.2 (pasS τ n 44 (numS τ n 0 (q.2 0 6 - 1) (pasS τ n 118 q.1)).2)).2)).1))) 27 = upd (μ 27) (q.2 0 7) (nI (numS τ n 0 (q.2 0 6 - 1) (pasS τ n 118 q.1)).1) := (by rw [setc_n (by decide), k2 27 (by decide), g2 27 (by decide), setc_n (by decide), d2 27 (by decide), c2 27 (by decide), setc_s, b2 27 (by decide), a2 27 (by decide), cr]))
  all_goals (have e28 : (setc m76 29 (upd (m76 29) (μ 23 7).toNatClampNeg (nI (thiS τ n q.2 (pasS τ n 44 (thiS τ n q.2 (pasS τ n 44 (numS τ n 0 (q.2 0 6 - 1) (pasS τ n 118 q.1)).2)).2)).1))) 28 = upd (μ 28) (q.2 0 7) (nI (thiS τ n q.2 (pasS τ n 44 (numS τ n 0 (q.2 0 6 - 1) (pasS τ n 118 q.1)).2)).1) := (by rw [setc_n (by decide), k2 28 (by decide), g2 28 (by decide), setc_s, d2 28 (by decide), c2 28 (by decide), setc_n (by decide), b2 28 (by decide), a2 28 (by decide), cr]))
  all_goals (have e29 : (setc m76 29 (upd (m76 29) (μ 23 7).toNatClampNeg (nI (thiS τ n q.2 (pasS τ n 44 (thiS τ n q.2 (pasS τ n 44 (numS τ n 0 (q.2 0 6 - 1) (pasS τ n 118 q.1)).2)).2)).1))) 29 = upd (μ 29) (q.2 0 7) (nI (thiS τ n q.2 (pasS τ n 44 (thiS τ n q.2 (pasS τ n 44 (numS τ n 0 (q.2 0 6 - 1) (pasS τ n 118 q.1)).2)).2)).1) := (by rw [setc_s, k2 29 (by decide), g2 29 (by decide), setc_n (by decide), d2 29 (by decide), c2 29 (by decide), setc_n (by decide), b2 29 (by decide), a2 29 (by decide), cr]))
  all_goals (have k3 := k1.set (a := 29) (f := upd (m76 29) (μ 23 7).toNatClampNeg (nI (thiS τ n q.2 (pasS τ n 44 (thiS τ n q.2 (pasS τ n 44 (numS τ n 0 (q.2 0 6 - 1) (pasS τ n 118 q.1)).2)).2)).1)) (by decide))
  all_goals (have l1 := thiS_lt (τ := τ) (n := n) (α := q.2) (s := pasS τ n 44 (thiS τ n q.2 (pasS τ n 44 (numS τ n 0 (q.2 0 6 - 1) (pasS τ n 118 q.1)).2)).2) h8; have l2 := thiS_lt (τ := τ) (n := n) (α := q.2) (s := pasS τ n 44 (numS τ n 0 (q.2 0 6 - 1) (pasS τ n 118 q.1)).2) h8)
  · exact fin _ _ _ k3 ch e27 e28 e29 (by unfold casS; dsimp only; rw [if_neg (fun z => h84 (k3.f0.mpr z.1))])
  · rw [e28, e29, cr, pk_us, pk_us] at h105
    exact fin _ _ _ k3 ch e27 e28 e29 (by unfold casS; dsimp only; rw [if_neg (fun z => h105 (by rw [z.2]))])
  · refine ⟨k3.1.off (setc_n (by decide)) (setc_n (by decide)), by rw [setc_s, pk_us, g1.2.1], by rw [setc_s, pk_un (by decide)]; exact h84, g1.2.2.2.1, Nat.zero_le 3⟩
  · rw [e28, e29, cr, pk_us, pk_us] at h105
    obtain ⟨w1, w2⟩ := p115
    refine fin _ _ _ w1 (fun a n1 n2 n3 n4 => by rw [w2 a n1, setc_n n1]; exact ch a n1 n2 n3 n4) (by rw [w2 27 (by decide), setc_n (by decide)]; exact e27) (by rw [w2 28 (by decide), setc_n (by decide)]; exact e28) (by rw [w2 29 (by decide), setc_n (by decide)]; exact e29) ?_
    unfold casS; dsimp only
    rw [if_pos ⟨k3.f0.mp h84, (nI_eq (by omega) (by omega)).mp h105⟩]; rfl
