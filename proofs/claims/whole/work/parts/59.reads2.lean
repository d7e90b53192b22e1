/-! ===== the model: hums and cases are read ===== -/
theorem thiS_f {τ : Nat → Nat} {n : Nat} {α : Al} {s : Pf} (h : s.2 ≠ 0) : thiS τ n α s = (0, s) := by unfold thiS numS; rw [if_neg h]
theorem numS_f {τ : Nat → Nat} {n lo hi : Nat} {s : Pf} (h : s.2 ≠ 0) : numS τ n lo hi s = (0, s) := by unfold numS; rw [if_neg h]
set_option maxHeartbeats 1000000 in
theorem m_readHum {μ : Mem} {τ : Nat → Nat} {n : Nat} {q : Rd} (hF : FrS μ τ n q) (hk : kdS τ n q.1 ≠ 0) (h0 : 1 ≤ q.2 0 0) (h8 : q.2 0 0 ≤ 8) (h6 : q.2 0 6 ≤ 6) :
    CtP yX10_readHum cX10_readHum 5 none 4 [vR 67] μ (Pv (fun μ' => FrS μ' τ n (if q.2 0 6 = 6 then (markS 3 q.1, q.2) else humS τ n q) ∧ OffF μ μ')) := by
  refine CtP.go RX10 rfl pn_X10 (Nat.le_of_ble_eq_true rfl) (fun C hG hR => ?_)
  have r0 : vp_in (0 : Int32) 46 := vp_in_nI (n := 0) (by decide) (by decide)
  have r3 : vp_in (3 : Int32) 46 := vp_in_nI (n := 3) (by decide) (by decide)
  obtain ⟨k1, k2⟩ := kdS_0 hk
  have hkd : kdS τ n q.1 = kdC (τ q.1.1) := by unfold kdS; rw [if_pos ⟨k1, k2⟩]
  have hlet := kdC_lt (by rw [← hkd]; exact hk)
  have tk := tk2.mpr ⟨k2, hlet⟩
  obtain ⟨v1, v2⟩ := (hF.1.2.2.2.1 k1).2.2.2.2.1 (Or.inl tk)
  have hA := (hF.2 k1).1
  have e0 : μ 72 (Int32.toNatClampNeg 0) = nI (q.2 0 0) := by have := hA.1 0 (by decide); rw [kap_0] at this; exact this
  have e3 : μ 72 (Int32.toNatClampNeg 3) = nI (q.2 0 6) := by have := hA.1 6 (by decide); rw [kap_0] at this; exact this
  have t1 : is1 (1 : Int32) True := is1.t trivial
  have tail : ∀ (m : Mem) (s : Pf) (u : Rd), u = (if q.2 0 6 = 6 then (markS 3 q.1, q.2) else humS τ n q) → PsS m τ n s → OffT μ m → (s.2 = 0 → q.2 0 6 < 6 ∧ s = (q.1.1 + 1, 0) ∧ u = humS τ n q) → (s.2 ≠ 0 → u.1 = s) → V C 29 [(0, vR 67), (1, vI (nI (kdS τ n q.1)))] [] m := by
    intro m s u hu g1 g2 g3 g4
    have em : m 72 = μ 72 := g2.1 72 (by decide)
    have y1 : m 72 (Int32.toNatClampNeg 0) - 1 = nI (q.2 0 0 - 1) := by rw [em, e0, nm1 h0]
    refine V_aload_n (pc := 29) hG (dk dd_X10_readHum 16 rfl) rfl ?_
    refine V_iconst (pc := 30) hG (dk dd_X10_readHum 17 rfl) (v := 0) (by decide) ?_
    refine V_aload_n (pc := 31) hG (dk dd_X10_readHum 18 rfl) rfl ?_
    refine V_getR (pc := 32) hG (dk dd_X10_readHum 19 rfl) fl_X10_22 sh_67 rfl ?_
    refine V_iconst (pc := 35) hG (dk dd_X10_readHum 20 rfl) (v := 0) (by decide) ?_
    refine V_iald (pc := 36) hG (dk dd_X10_readHum 21 rfl) sh_72 r0 ?_
    refine V_iconst (pc := 37) hG (dk dd_X10_readHum 22 rfl) (v := 1) (by decide) ?_
    refine V_isub (pc := 38) hG (dk dd_X10_readHum 23 rfl) ?_
    refine V_callVip (pc := 39) hG (dk dd_X10_readHum 24 rfl) ml_X10_140 mo_X10_number sh_67 rfl (m_number g1 (lo := 0) (hi := q.2 0 0 - 1) rfl (by decide) (fun _ => y1) (by omega)) (by decide) (by decide) rfl rfl rfl (fun x39 m39 p39 => ?_)
    refine V_istore_n (pc := 42) hG (dk dd_X10_readHum 25 rfl) (by decide) (lv' := [(0, _), (1, _), (2, _)]) rfl ?_
    refine V_aload_n (pc := 43) hG (dk dd_X10_readHum 26 rfl) rfl ?_
    refine V_bipush (pc := 44) hG (dk dd_X10_readHum 27 rfl) (v := 44) (by decide) ?_
    refine V_callVvp (pc := 46) hG (dk dd_X10_readHum 28 rfl) ml_X10_147 mo_X10_mustSign sh_67 rfl (m_mustSign p39.2.1 (c := 44) rfl (by decide)) (by decide) (by decide) rfl rfl rfl (fun m46 p46 => ?_)
    refine V_aload_n (pc := 49) hG (dk dd_X10_readHum 29 rfl) rfl ?_
    refine V_iconst (pc := 50) hG (dk dd_X10_readHum 30 rfl) (v := 0) (by decide) ?_
    refine V_aload_n (pc := 51) hG (dk dd_X10_readHum 31 rfl) rfl ?_
    refine V_getR (pc := 52) hG (dk dd_X10_readHum 32 rfl) fl_X10_22 sh_67 rfl ?_
    refine V_iconst (pc := 55) hG (dk dd_X10_readHum 33 rfl) (v := 0) (by decide) ?_
    refine V_iald (pc := 56) hG (dk dd_X10_readHum 34 rfl) sh_72 r0 ?_
    refine V_iconst (pc := 57) hG (dk dd_X10_readHum 35 rfl) (v := 1) (by decide) ?_
    refine V_isub (pc := 58) hG (dk dd_X10_readHum 36 rfl) ?_
    refine V_callVip (pc := 59) hG (dk dd_X10_readHum 37 rfl) ml_X10_140 mo_X10_number sh_67 rfl (m_number p46.1 (lo := 0) (hi := q.2 0 0 - 1) rfl (by decide) (fun _ => by rw [p46.2.1 72 (by decide), p39.2.2.1 72 (by decide)]; exact y1) (by omega)) (by decide) (by decide) rfl rfl rfl (fun x59 m59 p59 => ?_)
    refine V_istore_n (pc := 62) hG (dk dd_X10_readHum 38 rfl) (by decide) (lv' := [(0, _), (1, _), (2, _), (3, _)]) rfl ?_
    refine V_aload_n (pc := 63) hG (dk dd_X10_readHum 39 rfl) rfl ?_
    refine V_bipush (pc := 64) hG (dk dd_X10_readHum 40 rfl) (v := 59) (by decide) ?_
    refine V_callVvp (pc := 66) hG (dk dd_X10_readHum 41 rfl) ml_X10_147 mo_X10_mustSign sh_67 rfl (m_mustSign p59.2.1 (c := 59) rfl (by decide)) (by decide) (by decide) rfl rfl rfl (fun m66 p66 => ?_)
    refine V_aload_n (pc := 69) hG (dk dd_X10_readHum 42 rfl) rfl ?_
    refine V_getI (pc := 70) hG (dk dd_X10_readHum 43 rfl) fl_X10_93 sh_67 rfl ?_
    refine V_if_ne (pc := 73) hG (dk dd_X10_readHum 44 rfl) (tgt := 127) (by decide) (fun h73 => ?_) (fun h73 => ?_)
    refine V_vretP (pc := 127) hG (dk dd_X10_readHum 81 rfl) hR (Pv.mk ?_)
    rotate_left
    refine V_bipush (pc := 76) hG (dk dd_X10_readHum 45 rfl) (v := 8) (by decide) ?_
    refine V_iconst (pc := 78) hG (dk dd_X10_readHum 46 rfl) (v := 3) (by decide) ?_
    refine V_aload_n (pc := 79) hG (dk dd_X10_readHum 47 rfl) rfl ?_
    refine V_getR (pc := 80) hG (dk dd_X10_readHum 48 rfl) fl_X10_22 sh_67 rfl ?_
    refine V_iconst (pc := 83) hG (dk dd_X10_readHum 49 rfl) (v := 3) (by decide) ?_
    refine V_iald (pc := 84) hG (dk dd_X10_readHum 50 rfl) sh_72 r3 ?_
    refine V_imul (pc := 85) hG (dk dd_X10_readHum 51 rfl) ?_
    refine V_iadd (pc := 86) hG (dk dd_X10_readHum 52 rfl) ?_
    refine V_istore (pc := 87) hG (dk dd_X10_readHum 53 rfl) (by decide) (lv' := [(0, _), (1, _), (2, _), (3, _), (4, _)]) rfl ?_
    refine V_aload_n (pc := 89) hG (dk dd_X10_readHum 54 rfl) rfl ?_
    refine V_getR (pc := 90) hG (dk dd_X10_readHum 55 rfl) fl_X10_22 sh_67 rfl ?_
    refine V_iload (pc := 93) hG (dk dd_X10_readHum 56 rfl) rfl ?_
    refine V_iload_n (pc := 95) hG (dk dd_X10_readHum 57 rfl) rfl ?_
    refine V_iast (pc := 96) hG (dk dd_X10_readHum 58 rfl) sh_72 ?_ ?_
    rotate_left
    refine V_aload_n (pc := 97) hG (dk dd_X10_readHum 59 rfl) rfl ?_
    refine V_getR (pc := 98) hG (dk dd_X10_readHum 60 rfl) fl_X10_22 sh_67 rfl ?_
    refine V_iload (pc := 101) hG (dk dd_X10_readHum 61 rfl) rfl ?_
    refine V_iconst (pc := 103) hG (dk dd_X10_readHum 62 rfl) (v := 1) (by decide) ?_
    refine V_iadd (pc := 104) hG (dk dd_X10_readHum 63 rfl) ?_
    refine V_iload_n (pc := 105) hG (dk dd_X10_readHum 64 rfl) rfl ?_
    refine V_iast (pc := 106) hG (dk dd_X10_readHum 65 rfl) sh_72 ?_ ?_
    rotate_left
    refine V_aload_n (pc := 107) hG (dk dd_X10_readHum 66 rfl) rfl ?_
    refine V_getR (pc := 108) hG (dk dd_X10_readHum 67 rfl) fl_X10_22 sh_67 rfl ?_
    refine V_iload (pc := 111) hG (dk dd_X10_readHum 68 rfl) rfl ?_
    refine V_iconst (pc := 113) hG (dk dd_X10_readHum 69 rfl) (v := 2) (by decide) ?_
    refine V_iadd (pc := 114) hG (dk dd_X10_readHum 70 rfl) ?_
    refine V_iload_n (pc := 115) hG (dk dd_X10_readHum 71 rfl) rfl ?_
    refine V_iast (pc := 116) hG (dk dd_X10_readHum 72 rfl) sh_72 ?_ ?_
    rotate_left
    refine V_aload_n (pc := 117) hG (dk dd_X10_readHum 73 rfl) rfl ?_
    refine V_getR (pc := 118) hG (dk dd_X10_readHum 74 rfl) fl_X10_22 sh_67 rfl ?_
    refine V_iconst (pc := 121) hG (dk dd_X10_readHum 75 rfl) (v := 3) (by decide) ?_
    refine V_dup2 (pc := 122) hG (dk dd_X10_readHum 76 rfl) rfl rfl ?_
    refine V_iald (pc := 123) hG (dk dd_X10_readHum 77 rfl) sh_72 r3 ?_
    refine V_iconst (pc := 124) hG (dk dd_X10_readHum 78 rfl) (v := 1) (by decide) ?_
    refine V_iadd (pc := 125) hG (dk dd_X10_readHum 79 rfl) ?_
    refine V_iast (pc := 126) hG (dk dd_X10_readHum 80 rfl) sh_72 r3 ?_
    refine V_vretP (pc := 127) hG (dk dd_X10_readHum 81 rfl) hR (Pv.mk ?_)
    rotate_left
    -- leaves: return@127; iastore@96 in; iastore@106 in; iastore@116 in; return@127
    · obtain ⟨_, b2, b3⟩ := p39
      obtain ⟨_, d2, d3⟩ := p59
      have nz : (pasS τ n 59 (numS τ n 0 (q.2 0 0 - 1) (pasS τ n 44 (numS τ n 0 (q.2 0 0 - 1) s).2)).2).2 ≠ 0 := fun z => h73 (p66.1.f0.mpr z)
      have ho := (((g2.tr b3).tr p46.2).tr d3).tr p66.2
      rw [← hu]
      by_cases z : s.2 = 0
      · obtain ⟨w1, w2, w3⟩ := g3 z
        rw [w3]
        rw [w2] at p66 nz
        have e : (humS τ n q).1 = pasS τ n 59 (numS τ n 0 (q.2 0 0 - 1) (pasS τ n 44 (numS τ n 0 (q.2 0 0 - 1) (q.1.1 + 1, 0)).2)).2 := by unfold humS thiS; rw [k1]
        exact ⟨⟨by rw [e]; exact p66.1, fun w => absurd (e ▸ w) nz⟩, ho.f⟩
      · have e : pasS τ n 59 (numS τ n 0 (q.2 0 0 - 1) (pasS τ n 44 (numS τ n 0 (q.2 0 0 - 1) s).2)).2 = u.1 := by rw [g4 z, numS_f z, pas_hf z, numS_f z, pas_hf z]
        rw [e] at p66 nz
        exact ⟨⟨p66.1, fun w => absurd w nz⟩, ho.f⟩
    all_goals (have zz := p66.1.f0.mp h73)
    all_goals (obtain ⟨b1, b2, b3⟩ := p39; obtain ⟨d1, d2, d3⟩ := p59)
    all_goals (have z3 := pasS_0 zz; have z2 := (numS_ge z3).2; have z1 := pasS_0 z2; have z0 := (numS_ge z1).2)
    all_goals (obtain ⟨w1, w2, w3⟩ := g3 z0; have ho := (((g2.tr b3).tr p46.2).tr d3).tr p66.2; have e72 : m66 72 = μ 72 := ho.1 72 (by decide))
    all_goals (have ix : (8 : Int32) + 3 * m66 72 (Int32.toNatClampNeg 3) = nI (8 + 3 * q.2 0 6) := by rw [e72, e3, show (3 : Int32) = nI 3 from rfl, show (8 : Int32) = nI 8 from rfl, pk_mul, nI_add])
    · rw [ix]; exact vp_in_nI (by omega) (by decide)
    · rw [ix, show (1 : Int32) = nI 1 from rfl, nI_add]; exact vp_in_nI (by omega) (by decide)
    · rw [ix, show (2 : Int32) = nI 2 from rfl, nI_add]; exact vp_in_nI (by omega) (by decide)
    · have i1 : nI (8 + 3 * q.2 0 6) + 1 = nI (8 + 3 * q.2 0 6 + 1) := nI_1 _
      have i2 : nI (8 + 3 * q.2 0 6) + 2 = nI (8 + 3 * q.2 0 6 + 2) := by rw [show (2 : Int32) = nI 2 from rfl, nI_add]
      simp only [setc_s, setc_c]
      rw [ix, i1, i2, nI_clamp (by omega), nI_clamp (by omega), nI_clamp (by omega), upd_n (by have : Int32.toNatClampNeg 3 = 3 := rfl; omega), upd_n (by have : Int32.toNatClampNeg 3 = 3 := rfl; omega), upd_n (by have : Int32.toNatClampNeg 3 = 3 := rfl; omega), e72, e3, b1 z1, d1 z3, nI_1, ← hu, w3]
      have e : (humS τ n q).1 = pasS τ n 59 (numS τ n 0 (q.2 0 0 - 1) (pasS τ n 44 (numS τ n 0 (q.2 0 0 - 1) s).2)).2 := by rw [w2]; unfold humS thiS; rw [k1]
      refine ⟨⟨by rw [e]; exact p66.1.set (by decide) (by decide), fun _ => ?_⟩, ho.f.tr (OffF.set _ _)⟩
      rw [setc_s]
      have hh := (hF.2 k1).hum (k := kdS τ n q.1) (a := (numS τ n 0 (q.2 0 0 - 1) s).1) (b := (numS τ n 0 (q.2 0 0 - 1) (pasS τ n 44 (numS τ n 0 (q.2 0 0 - 1) s).2)).1) w1
      have e2 : (humS τ n q).2 = updA (updA (updA (updA q.2 1 (q.2 0 6) (kdS τ n q.1)) 2 (q.2 0 6) (numS τ n 0 (q.2 0 0 - 1) s).1) 3 (q.2 0 6) (numS τ n 0 (q.2 0 0 - 1) (pasS τ n 44 (numS τ n 0 (q.2 0 0 - 1) s).2)).1) 0 6 (q.2 0 6 + 1) := by rw [w2]; unfold humS thiS; rw [k1]
      rw [e2]; exact hh
  have s3 : markS 3 q.1 = (q.1.1, 3) := by unfold markS; rw [if_pos k1]
  refine V_aload_n (pc := 0) hG (dk dd_X10_readHum 0 rfl) rfl ?_
  refine V_getI (pc := 1) hG (dk dd_X10_readHum 1 rfl) fl_X10_106 sh_67 rfl ?_
  refine V_callSip (pc := 4) hG (dk dd_X10_readHum 2 rfl) ml_X10_134 mo_X10_kindBy (m_kindBy v1 (by omega)) (by decide) (by decide) rfl rfl rfl (fun x4 m4 p4 => ?_)
  refine V_istore_n (pc := 7) hG (dk dd_X10_readHum 3 rfl) (by decide) (lv' := [(0, _), (1, _)]) rfl ?_
  refine V_aload_n (pc := 8) hG (dk dd_X10_readHum 4 rfl) rfl ?_
  refine V_getR (pc := 9) hG (dk dd_X10_readHum 5 rfl) fl_X10_22 sh_67 rfl ?_
  refine V_iconst (pc := 12) hG (dk dd_X10_readHum 6 rfl) (v := 3) (by decide) ?_
  refine V_iald (pc := 13) hG (dk dd_X10_readHum 7 rfl) sh_72 r3 ?_
  refine V_bipush (pc := 14) hG (dk dd_X10_readHum 8 rfl) (v := 6) (by decide) ?_
  refine V_icmp_ne (pc := 16) hG (dk dd_X10_readHum 9 rfl) (tgt := 24) (by decide) (fun h16 => ?_) (fun h16 => ?_)
  rotate_left
  refine V_aload_n (pc := 19) hG (dk dd_X10_readHum 10 rfl) rfl ?_
  refine V_iconst (pc := 20) hG (dk dd_X10_readHum 11 rfl) (v := 3) (by decide) ?_
  refine V_callVvp (pc := 21) hG (dk dd_X10_readHum 12 rfl) ml_X10_120 mo_X10_bad sh_67 rfl (m_bad (p4.1 ▸ hF.1) (k := 3) rfl (by decide) (by decide)) (by decide) (by decide) rfl rfl rfl (fun m21 p21 => ?_)
  rotate_left
  -- leaves: stop 24; stop 24
  · obtain ⟨rfl, e4⟩ := p4
    have hn6 : q.2 0 6 < 6 := by
      have : q.2 0 6 ≠ 6 := fun z => h16 (by rw [e3, z]; rfl)
      omega
    rw [e4, if_neg (by rw [← hkd]; exact hk), ← hkd]
    refine V_aload_n (pc := 24) hG (dk dd_X10_readHum 13 rfl) rfl ?_
    refine V_iconst (pc := 25) hG (dk dd_X10_readHum 14 rfl) (v := 1) (by decide) ?_
    refine V_callVvp (pc := 26) hG (dk dd_X10_readHum 15 rfl) ml_X10_127 mo_X10_must sh_67 rfl (m_must (u := (q.1.1 + 1, 0)) hF.1 t1 (fun _ _ => ⟨v2, k2, rfl⟩) (fun _ w => absurd trivial w) (fun w => absurd k1 w)) (by decide) (by decide) rfl rfl rfl (fun m26 p26 => ?_)
    rotate_left
    -- leaves: stop 29
    · exact tail m26 _ _ rfl p26.1 p26.2 (fun _ => ⟨hn6, rfl, if_neg (by omega)⟩) (fun w => absurd rfl w)
  · obtain ⟨rfl, e4⟩ := p4
    have hn6 : q.2 0 6 = 6 := by rw [e3] at h16; exact (nI_eq (b := 6) (by omega) (by decide)).mp h16
    rw [e4, if_neg (by rw [← hkd]; exact hk), ← hkd]
    rw [s3] at p21
    refine V_aload_n (pc := 24) hG (dk dd_X10_readHum 13 rfl) rfl ?_
    refine V_iconst (pc := 25) hG (dk dd_X10_readHum 14 rfl) (v := 1) (by decide) ?_
    refine V_callVvp (pc := 26) hG (dk dd_X10_readHum 15 rfl) ml_X10_127 mo_X10_must sh_67 rfl (m_must (p := 0) (u := (q.1.1, 3)) p21.1 t1 (fun w => absurd w (show (3 : Nat) ≠ 0 by decide)) (fun w => absurd w (show (3 : Nat) ≠ 0 by decide)) (fun _ => rfl)) (by decide) (by decide) rfl rfl rfl (fun m26 p26 => ?_)
    rotate_left
    -- leaves: stop 29
    · exact tail m26 _ _ rfl p26.1 (p21.2.tr p26.2) (fun w => absurd w (show (3 : Nat) ≠ 0 by decide)) (fun _ => by rw [if_pos hn6, s3])
