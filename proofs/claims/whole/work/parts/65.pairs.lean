/-! ===== the model: deaf, clashes, same ===== -/
theorem m1e (x : Int32) : x + (-1) = x - 1 := by rw [Int32.sub_eq_add_neg]
def deaF (α : Al) : Int32 := if 0 < α 0 0 then nI (deaN α (α 0 3) (α 0 6)) else -1000002
theorem m_deaf {μ : Mem} {α : Al} (hA : Abs (kap (μ 71)) α) (hz : Vz α) : CtP yX10_deaf cX10_deaf 3 (some .int) 2 [vR 67] μ (Pi (fun r μ' => r = deaF α ∧ μ' = th0 μ)) := by
  refine CtP.go RX10 rfl pn_X10 (Nat.le_of_ble_eq_true rfl) (fun C hG hR => ?_)
  have e0 : μ 71 0 = nI (α 0 0) := e_sc hA (i := 0) (by decide)
  by_cases hv : Val α
  · have h0 : 0 < α 0 0 := by have := hv.t3; omega
    have r3 : vp_in (3 : Int32) 46 := rr (n := 3) (by decide)
    have r6 : vp_in (6 : Int32) 46 := rr (n := 6) (by decide)
    have e3 : th0 μ 71 (Int32.toNatClampNeg 3) = nI (α 0 6) := e_sc hA (i := 6) (by decide)
    have e6 : th0 μ 71 (Int32.toNatClampNeg 6) = nI (α 0 3) := e_sc hA (i := 3) (by decide)
    have hA2 : Abs (kap (th0 μ 71)) α := hA
    have hH := hv.H
    have hD := hv.lt hv.D
    have loop : ∀ k i, i + k = α 0 6 → V C 19 [(0, vR 67), (1, vI (nI (deaN α (α 0 3) i))), (2, vI (nI i))] [] (th0 μ) := by
      intro k
      induction k with
      | zero =>
        intro i hi
        refine V_iload_n (pc := 19) hG (dk dd_X10_deaf 12 rfl) rfl ?_
        refine V_aload_n (pc := 20) hG (dk dd_X10_deaf 13 rfl) rfl ?_
        refine V_getR (pc := 21) hG (dk dd_X10_deaf 14 rfl) fl_X10_19 sh_67 rfl ?_
        refine V_iconst (pc := 24) hG (dk dd_X10_deaf 15 rfl) (v := 3) (by decide) ?_
        refine V_iald (pc := 25) hG (dk dd_X10_deaf 16 rfl) sh_71 r3 ?_
        refine V_icmp_ge (pc := 26) hG (dk dd_X10_deaf 17 rfl) (tgt := 70) (by decide) (fun h26 => ?_) (fun h26 => ?_)
        refine V_iload_n (pc := 70) hG (dk dd_X10_deaf 41 rfl) rfl ?_
        refine V_iretP (pc := 71) hG (dk dd_X10_deaf 42 rfl) hR (Pi.mk ?_)
        rotate_left
        rotate_left
        -- leaves: return@71; stop 29
        · refine ⟨?_, rfl⟩
          unfold deaF; rw [if_pos h0, show i = α 0 6 by omega]
        · exfalso; rw [e3] at h26; have := nle_i h26 (by omega) (by omega); omega
      | succ k ih =>
        intro i hi
        have hI := ih (i + 1) (by omega)
        rw [nI_succ] at hI
        have hlt : deaN α (α 0 3) i < 256 := Nat.lt_of_lt_of_le (deaN_lt α (α 0 3) i) (pow8 (by omega))
        have hN := hv.lt (humN_lt hv (h := i) (by omega) hv.D)
        refine V_iload_n (pc := 19) hG (dk dd_X10_deaf 12 rfl) rfl ?_
        refine V_aload_n (pc := 20) hG (dk dd_X10_deaf 13 rfl) rfl ?_
        refine V_getR (pc := 21) hG (dk dd_X10_deaf 14 rfl) fl_X10_19 sh_67 rfl ?_
        refine V_iconst (pc := 24) hG (dk dd_X10_deaf 15 rfl) (v := 3) (by decide) ?_
        refine V_iald (pc := 25) hG (dk dd_X10_deaf 16 rfl) sh_71 r3 ?_
        refine V_icmp_ge (pc := 26) hG (dk dd_X10_deaf 17 rfl) (tgt := 70) (by decide) (fun h26 => ?_) (fun h26 => ?_)
        rotate_left
        refine V_iload_n (pc := 29) hG (dk dd_X10_deaf 18 rfl) rfl ?_
        refine V_aload_n (pc := 30) hG (dk dd_X10_deaf 19 rfl) rfl ?_
        refine V_getR (pc := 31) hG (dk dd_X10_deaf 20 rfl) fl_X10_19 sh_67 rfl ?_
        refine V_iload_n (pc := 34) hG (dk dd_X10_deaf 21 rfl) rfl ?_
        refine V_aload_n (pc := 35) hG (dk dd_X10_deaf 22 rfl) rfl ?_
        refine V_getR (pc := 36) hG (dk dd_X10_deaf 23 rfl) fl_X10_19 sh_67 rfl ?_
        refine V_bipush (pc := 39) hG (dk dd_X10_deaf 24 rfl) (v := 6) (by decide) ?_
        refine V_iald (pc := 41) hG (dk dd_X10_deaf 25 rfl) sh_71 r6 ?_
        refine V_callSip (pc := 42) hG (dk dd_X10_deaf 26 rfl) ml_X10_191 mo_X10_hummed (m_hummed (μ := th0 μ) sh_71 (α := α) hA2 hv (h := i) rfl (by omega) (D := α 0 3) e6 hv.D) (by decide) (by decide) rfl rfl rfl (fun x42 m42 p42 => ?_)
        refine V_aload_n (pc := 45) hG (dk dd_X10_deaf 27 rfl) rfl ?_
        refine V_getR (pc := 46) hG (dk dd_X10_deaf 28 rfl) fl_X10_19 sh_67 rfl ?_
        refine V_bipush (pc := 49) hG (dk dd_X10_deaf 29 rfl) (v := 6) (by decide) ?_
        refine V_iald (pc := 51) hG (dk dd_X10_deaf 30 rfl) sh_71 r6 ?_
        refine V_icmp_ne (pc := 52) hG (dk dd_X10_deaf 31 rfl) (tgt := 61) (by decide) (fun h52 => ?_) (fun h52 => ?_)
        refine V_iconst (pc := 61) hG (dk dd_X10_deaf 36 rfl) (v := 0) (by decide) ?_
        refine V_ior (pc := 62) hG (dk dd_X10_deaf 37 rfl) ?_
        refine V_istore_n (pc := 63) hG (dk dd_X10_deaf 38 rfl) (by decide) (lv' := [(0, _), (1, _), (2, _)]) rfl ?_
        refine V_iinc (pc := 64) hG (dk dd_X10_deaf 39 rfl) rfl (v := _ + 1) rfl (by decide) (lv' := [(0, _), (1, _), (2, _)]) rfl ?_
        refine V_goto (pc := 67) hG (dk dd_X10_deaf 40 rfl) (tgt := 19) (by decide) ?_
        rotate_left
        refine V_iconst (pc := 55) hG (dk dd_X10_deaf 32 rfl) (v := 1) (by decide) ?_
        refine V_iload_n (pc := 56) hG (dk dd_X10_deaf 33 rfl) rfl ?_
        refine V_ishl (pc := 57) hG (dk dd_X10_deaf 34 rfl) ?_
        refine V_goto (pc := 58) hG (dk dd_X10_deaf 35 rfl) (tgt := 62) (by decide) ?_
        refine V_ior (pc := 62) hG (dk dd_X10_deaf 37 rfl) ?_
        refine V_istore_n (pc := 63) hG (dk dd_X10_deaf 38 rfl) (by decide) (lv' := [(0, _), (1, _), (2, _)]) rfl ?_
        refine V_iinc (pc := 64) hG (dk dd_X10_deaf 39 rfl) rfl (v := _ + 1) rfl (by decide) (lv' := [(0, _), (1, _), (2, _)]) rfl ?_
        refine V_goto (pc := 67) hG (dk dd_X10_deaf 40 rfl) (tgt := 19) (by decide) ?_
        rotate_left
        -- leaves: stop 70; stop 19; stop 19
        · exfalso; rw [e3] at h26; have := le_i h26 (by omega) (by omega); omega
        · obtain ⟨rfl, rfl⟩ := p42
          rw [e6] at h52
          rw [deaN_s, if_neg (fun q => h52 (by rw [q])), Nat.or_zero] at hI
          rw [Int32.or_zero]; exact hI
        · obtain ⟨rfl, rfl⟩ := p42
          rw [e6] at h52
          rw [deaN_s, if_pos ((nI_eq (by omega) (by omega)).mp h52), ← q_or _ hlt _ (by omega)] at hI
          exact hI
    refine V_aload_n (pc := 0) hG (dk dd_X10_deaf 0 rfl) rfl ?_
    refine V_iconst (pc := 1) hG (dk dd_X10_deaf 1 rfl) (v := 0) (by decide) ?_
    refine V_putI (pc := 2) hG (dk dd_X10_deaf 2 rfl) fl_X10_62 sh_67 rfl rfl ?_
    refine V_aload_n (pc := 5) hG (dk dd_X10_deaf 3 rfl) rfl ?_
    refine V_callVip (pc := 6) hG (dk dd_X10_deaf 4 rfl) ml_X10_219 mo_X10_isThere sh_67 rfl (m_isThere) (by decide) (by decide) rfl rfl rfl (fun x6 m6 p6 => ?_)
    refine V_if_ne (pc := 9) hG (dk dd_X10_deaf 5 rfl) (tgt := 15) (by decide) (fun h9 => ?_) (fun h9 => ?_)
    refine V_iconst (pc := 15) hG (dk dd_X10_deaf 8 rfl) (v := 0) (by decide) ?_
    refine V_istore_n (pc := 16) hG (dk dd_X10_deaf 9 rfl) (by decide) (lv' := [(0, _), (1, _)]) rfl ?_
    refine V_iconst (pc := 17) hG (dk dd_X10_deaf 10 rfl) (v := 0) (by decide) ?_
    refine V_istore_n (pc := 18) hG (dk dd_X10_deaf 11 rfl) (by decide) (lv' := [(0, _), (1, _), (2, _)]) rfl ?_
    rotate_left
    rotate_left
    -- leaves: stop 19; stop 12
    · rw [p6.1]; exact loop (α 0 6) 0 (by omega)
    · exact absurd ((hz.there e0).mpr hv) (p6.2.no h9)
  · skip
    refine V_aload_n (pc := 0) hG (dk dd_X10_deaf 0 rfl) rfl ?_
    refine V_iconst (pc := 1) hG (dk dd_X10_deaf 1 rfl) (v := 0) (by decide) ?_
    refine V_putI (pc := 2) hG (dk dd_X10_deaf 2 rfl) fl_X10_62 sh_67 rfl rfl ?_
    refine V_aload_n (pc := 5) hG (dk dd_X10_deaf 3 rfl) rfl ?_
    refine V_callVip (pc := 6) hG (dk dd_X10_deaf 4 rfl) ml_X10_219 mo_X10_isThere sh_67 rfl (m_isThere) (by decide) (by decide) rfl rfl rfl (fun x6 m6 p6 => ?_)
    refine V_if_ne (pc := 9) hG (dk dd_X10_deaf 5 rfl) (tgt := 15) (by decide) (fun h9 => ?_) (fun h9 => ?_)
    rotate_left
    refine V_ldc (pc := 12) hG (dk dd_X10_deaf 6 rfl) kk_X10_210 ?_
    refine V_iretP (pc := 14) hG (dk dd_X10_deaf 7 rfl) hR (Pi.mk ?_)
    rotate_left
    -- leaves: stop 15; return@14
    · exact absurd ((hz.there e0).mp (p6.2.yes h9)) hv
    · refine ⟨?_, p6.1⟩
      unfold deaF; rw [if_neg (fun q => hv (hz.vt q))]
theorem m_doClash {μ : Mem} {α : Al} (hA : Abs (kap (μ 71)) α) (hv : Val α) {x y : Int32} {a b : Nat} (hx : x = nI a) (ha : a < α 0 7) (hy : y = nI b) (hb : b < α 0 7) : CtP yX10_doClash cX10_doClash 3 (some .boolean) 1 [vR 67, vI x, vI y] μ (Pi (fun r μ' => μ' = μ ∧ is1 r (claB α a b))) := by
  refine CtP.go RX10 rfl pn_X10 (Nat.le_of_ble_eq_true rfl) (fun C hG hR => ?_)
  have hC := hv.C
  have ht := hv.t
  obtain ⟨a4, a5, a6, a7⟩ := hv.c ha
  obtain ⟨b4, b5, b6, b7⟩ := hv.c hb
  have x5 : μ 71 (26 + 4 * a + 1) = nI (α 5 a) := m_e4 hA ha (by decide)
  have x6 : μ 71 (26 + 4 * a + 2) = nI (α 6 a) := m_e4 hA ha (by decide)
  have y5 : μ 71 (26 + 4 * b + 1) = nI (α 5 b) := m_e4 hA hb (by decide)
  have y6 : μ 71 (26 + 4 * b + 2) = nI (α 6 b) := m_e4 hA hb (by decide)
  refine V_aload_n (pc := 0) hG (dk dd_X10_doClash 0 rfl) rfl ?_
  refine V_getR (pc := 1) hG (dk dd_X10_doClash 1 rfl) fl_X10_19 sh_67 rfl ?_
  refine V_iload_n (pc := 4) hG (dk dd_X10_doClash 2 rfl) rfl ?_
  refine V_iconst (pc := 5) hG (dk dd_X10_doClash 3 rfl) (v := 2) (by decide) ?_
  refine V_callSip (pc := 6) hG (dk dd_X10_doClash 4 rfl) ml_X10_188 mo_X10_its (m_its sh_71 hx (by omega) (v := 2) rfl (by decide)) (by decide) (by decide) rfl rfl rfl (fun x6 m6 p6 => ?_)
  refine V_aload_n (pc := 9) hG (dk dd_X10_doClash 5 rfl) rfl ?_
  refine V_getR (pc := 10) hG (dk dd_X10_doClash 6 rfl) fl_X10_19 sh_67 rfl ?_
  refine V_iload_n (pc := 13) hG (dk dd_X10_doClash 7 rfl) rfl ?_
  refine V_iconst (pc := 14) hG (dk dd_X10_doClash 8 rfl) (v := 1) (by decide) ?_
  refine V_callSip (pc := 15) hG (dk dd_X10_doClash 9 rfl) ml_X10_188 mo_X10_its (m_its sh_71 hy (by omega) (v := 1) rfl (by decide)) (by decide) (by decide) rfl rfl rfl (fun x15 m15 p15 => ?_)
  refine V_icmp_eq (pc := 18) hG (dk dd_X10_doClash 10 rfl) (tgt := 42) (by decide) (fun h18 => ?_) (fun h18 => ?_)
  refine V_iconst (pc := 42) hG (dk dd_X10_doClash 22 rfl) (v := 1) (by decide) ?_
  refine V_goto (pc := 43) hG (dk dd_X10_doClash 23 rfl) (tgt := 47) (by decide) ?_
  refine V_zretP (pc := 47) hG (dk dd_X10_doClash 25 rfl) (by decide) hR (Pi.mk ?_)
  rotate_left
  refine V_aload_n (pc := 21) hG (dk dd_X10_doClash 11 rfl) rfl ?_
  refine V_getR (pc := 22) hG (dk dd_X10_doClash 12 rfl) fl_X10_19 sh_67 rfl ?_
  refine V_iload_n (pc := 25) hG (dk dd_X10_doClash 13 rfl) rfl ?_
  refine V_iconst (pc := 26) hG (dk dd_X10_doClash 14 rfl) (v := 2) (by decide) ?_
  refine V_callSip (pc := 27) hG (dk dd_X10_doClash 15 rfl) ml_X10_188 mo_X10_its (m_its sh_71 hy (by omega) (v := 2) rfl (by decide)) (by decide) (by decide) rfl rfl rfl (fun x27 m27 p27 => ?_)
  refine V_aload_n (pc := 30) hG (dk dd_X10_doClash 16 rfl) rfl ?_
  refine V_getR (pc := 31) hG (dk dd_X10_doClash 17 rfl) fl_X10_19 sh_67 rfl ?_
  refine V_iload_n (pc := 34) hG (dk dd_X10_doClash 18 rfl) rfl ?_
  refine V_iconst (pc := 35) hG (dk dd_X10_doClash 19 rfl) (v := 1) (by decide) ?_
  refine V_callSip (pc := 36) hG (dk dd_X10_doClash 20 rfl) ml_X10_188 mo_X10_its (m_its sh_71 hx (by omega) (v := 1) rfl (by decide)) (by decide) (by decide) rfl rfl rfl (fun x36 m36 p36 => ?_)
  refine V_icmp_ne (pc := 39) hG (dk dd_X10_doClash 21 rfl) (tgt := 46) (by decide) (fun h39 => ?_) (fun h39 => ?_)
  refine V_iconst (pc := 46) hG (dk dd_X10_doClash 24 rfl) (v := 0) (by decide) ?_
  refine V_zretP (pc := 47) hG (dk dd_X10_doClash 25 rfl) (by decide) hR (Pi.mk ?_)
  rotate_left
  refine V_iconst (pc := 42) hG (dk dd_X10_doClash 22 rfl) (v := 1) (by decide) ?_
  refine V_goto (pc := 43) hG (dk dd_X10_doClash 23 rfl) (tgt := 47) (by decide) ?_
  refine V_zretP (pc := 47) hG (dk dd_X10_doClash 25 rfl) (by decide) hR (Pi.mk ?_)
  rotate_left
  -- leaves: return@47; return@47; return@47
  all_goals (obtain ⟨rfl, rfl⟩ := p6; obtain ⟨rfl, rfl⟩ := p15; rw [x6, y5] at h18)
  · exact ⟨rfl, is1.t (Or.inl ((nI_eq (by omega) (by omega)).mp h18))⟩
  · obtain ⟨rfl, rfl⟩ := p27
    obtain ⟨rfl, rfl⟩ := p36
    rw [y6, x5] at h39
    exact ⟨rfl, is1.f (fun q => q.elim (fun w => h18 (by rw [w])) (fun w => h39 (by rw [w])))⟩
  · obtain ⟨rfl, rfl⟩ := p27
    obtain ⟨rfl, rfl⟩ := p36
    rw [y6, x5] at h39
    exact ⟨rfl, is1.t (Or.inr ((nI_eq (by omega) (by omega)).mp h39))⟩
theorem m_areSame {μ : Mem} {α : Al} (hA : Abs (kap (μ 71)) α) (hv : Val α) {x y : Int32} {a b : Nat} (hx : x = nI a) (ha : a < α 0 6) (hy : y = nI b) (hb : b < α 0 6) : CtP yX10_areSame cX10_areSame 5 (some .boolean) 2 [vR 67, vI x, vI y] μ (Pi (fun r μ' => μ' = μ ∧ is1 r (samB α a b))) := by
  refine CtP.go RX10 rfl pn_X10 (Nat.le_of_ble_eq_true rfl) (fun C hG hR => ?_)
  have ht := hv.t
  have hp := pow8 ht
  have e0 : μ 71 0 = nI (α 0 0) := e_sc hA (i := 0) (by decide)
  have loop : ∀ k d v, d + k = 2 ^ α 0 0 → is1 v (∀ E, E < d → humN α a E = humN α b E) → V C 5 [(0, vR 67), (1, vI x), (2, vI y), (3, vI v), (4, vI (nI d))] [] μ := by
    intro k
    induction k with
    | zero =>
      intro d v hd hI
      refine V_iload (pc := 5) hG (dk dd_X10_areSame 4 rfl) rfl ?_
      refine V_aload_n (pc := 7) hG (dk dd_X10_areSame 5 rfl) rfl ?_
      refine V_callVip (pc := 8) hG (dk dd_X10_areSame 6 rfl) ml_X10_173 mo_X10_allDreams sh_67 rfl (m_allDreams e0 (by omega)) (by decide) (by decide) rfl rfl rfl (fun x8 m8 p8 => ?_)
      refine V_icmp_ge (pc := 11) hG (dk dd_X10_areSame 7 rfl) (tgt := 53) (by decide) (fun h11 => ?_) (fun h11 => ?_)
      refine V_iload_n (pc := 53) hG (dk dd_X10_areSame 27 rfl) rfl ?_
      refine V_zretP (pc := 54) hG (dk dd_X10_areSame 28 rfl) hI.bool hR (Pi.mk ?_)
      rotate_left
      rotate_left
      -- leaves: return@54; stop 14
      · refine ⟨p8.1, ?_⟩
        rw [show d = 2 ^ α 0 0 by omega] at hI; exact hI
      · exfalso; rw [p8.2] at h11; have := nle_i h11 (by omega) (by omega); omega
    | succ k ih =>
      intro d v hd hI
      have hd2 : d < 2 ^ α 0 0 := by omega
      have la := hv.lt (humN_lt hv ha hd2)
      have lb := hv.lt (humN_lt hv hb hd2)
      refine V_iload (pc := 5) hG (dk dd_X10_areSame 4 rfl) rfl ?_
      refine V_aload_n (pc := 7) hG (dk dd_X10_areSame 5 rfl) rfl ?_
      refine V_callVip (pc := 8) hG (dk dd_X10_areSame 6 rfl) ml_X10_173 mo_X10_allDreams sh_67 rfl (m_allDreams e0 (by omega)) (by decide) (by decide) rfl rfl rfl (fun x8 m8 p8 => ?_)
      refine V_icmp_ge (pc := 11) hG (dk dd_X10_areSame 7 rfl) (tgt := 53) (by decide) (fun h11 => ?_) (fun h11 => ?_)
      rotate_left
      refine V_iload_n (pc := 14) hG (dk dd_X10_areSame 8 rfl) rfl ?_
      refine V_if_eq (pc := 15) hG (dk dd_X10_areSame 9 rfl) (tgt := 45) (by decide) (fun h15 => ?_) (fun h15 => ?_)
      refine V_iconst (pc := 45) hG (dk dd_X10_areSame 23 rfl) (v := 0) (by decide) ?_
      refine V_istore_n (pc := 46) hG (dk dd_X10_areSame 24 rfl) (by decide) (lv' := [(0, _), (1, _), (2, _), (3, _), (4, _)]) rfl ?_
      refine V_iinc (pc := 47) hG (dk dd_X10_areSame 25 rfl) rfl (v := _ + 1) rfl (by decide) (lv' := [(0, _), (1, _), (2, _), (3, _), (4, _)]) rfl ?_
      refine V_goto (pc := 50) hG (dk dd_X10_areSame 26 rfl) (tgt := 5) (by decide) ?_
      rotate_left
      refine V_aload_n (pc := 18) hG (dk dd_X10_areSame 10 rfl) rfl ?_
      refine V_getR (pc := 19) hG (dk dd_X10_areSame 11 rfl) fl_X10_19 sh_67 rfl ?_
      refine V_iload_n (pc := 22) hG (dk dd_X10_areSame 12 rfl) rfl ?_
      refine V_iload (pc := 23) hG (dk dd_X10_areSame 13 rfl) rfl ?_
      refine V_callSip (pc := 25) hG (dk dd_X10_areSame 14 rfl) ml_X10_191 mo_X10_hummed (m_hummed sh_71 (α := α) (by rw [p8.1]; exact hA) hv hx ha (D := d) rfl hd2) (by decide) (by decide) rfl rfl rfl (fun x25 m25 p25 => ?_)
      refine V_aload_n (pc := 28) hG (dk dd_X10_areSame 15 rfl) rfl ?_
      refine V_getR (pc := 29) hG (dk dd_X10_areSame 16 rfl) fl_X10_19 sh_67 rfl ?_
      refine V_iload_n (pc := 32) hG (dk dd_X10_areSame 17 rfl) rfl ?_
      refine V_iload (pc := 33) hG (dk dd_X10_areSame 18 rfl) rfl ?_
      refine V_callSip (pc := 35) hG (dk dd_X10_areSame 19 rfl) ml_X10_191 mo_X10_hummed (m_hummed sh_71 (α := α) (by rw [p25.1, p8.1]; exact hA) hv hy hb (D := d) rfl hd2) (by decide) (by decide) rfl rfl rfl (fun x35 m35 p35 => ?_)
      refine V_icmp_ne (pc := 38) hG (dk dd_X10_areSame 20 rfl) (tgt := 45) (by decide) (fun h38 => ?_) (fun h38 => ?_)
      refine V_iconst (pc := 45) hG (dk dd_X10_areSame 23 rfl) (v := 0) (by decide) ?_
      refine V_istore_n (pc := 46) hG (dk dd_X10_areSame 24 rfl) (by decide) (lv' := [(0, _), (1, _), (2, _), (3, _), (4, _)]) rfl ?_
      refine V_iinc (pc := 47) hG (dk dd_X10_areSame 25 rfl) rfl (v := _ + 1) rfl (by decide) (lv' := [(0, _), (1, _), (2, _), (3, _), (4, _)]) rfl ?_
      refine V_goto (pc := 50) hG (dk dd_X10_areSame 26 rfl) (tgt := 5) (by decide) ?_
      rotate_left
      refine V_iconst (pc := 41) hG (dk dd_X10_areSame 21 rfl) (v := 1) (by decide) ?_
      refine V_goto (pc := 42) hG (dk dd_X10_areSame 22 rfl) (tgt := 46) (by decide) ?_
      refine V_istore_n (pc := 46) hG (dk dd_X10_areSame 24 rfl) (by decide) (lv' := [(0, _), (1, _), (2, _), (3, _), (4, _)]) rfl ?_
      refine V_iinc (pc := 47) hG (dk dd_X10_areSame 25 rfl) rfl (v := _ + 1) rfl (by decide) (lv' := [(0, _), (1, _), (2, _), (3, _), (4, _)]) rfl ?_
      refine V_goto (pc := 50) hG (dk dd_X10_areSame 26 rfl) (tgt := 5) (by decide) ?_
      rotate_left
      -- leaves: stop 53; stop 5; stop 5; stop 5
      · exfalso; rw [p8.2] at h11; have := le_i h11 (by omega) (by omega); omega
      · rw [← nI_succ, p8.1]
        exact ih (d + 1) 0 (by omega) (is1.f (fun q => hI.no h15 (fun E hE => q E (by omega))))
      · rw [← nI_succ, p35.1, p25.1, p8.1]
        rw [p25.2, p35.2] at h38
        exact ih (d + 1) 0 (by omega) (is1.f (fun q => h38 (by rw [q d (by omega)])))
      · rw [← nI_succ, p35.1, p25.1, p8.1]
        rw [p25.2, p35.2] at h38
        have e := (nI_eq (by omega) (by omega)).mp h38
        exact ih (d + 1) 1 (by omega) (is1.t (fun E hE => if w : E = d then w ▸ e else hI.yes h15 E (by omega)))
  refine V_iconst (pc := 0) hG (dk dd_X10_areSame 0 rfl) (v := 1) (by decide) ?_
  refine V_istore_n (pc := 1) hG (dk dd_X10_areSame 1 rfl) (by decide) (lv' := [(0, _), (1, _), (2, _), (3, _)]) rfl ?_
  refine V_iconst (pc := 2) hG (dk dd_X10_areSame 2 rfl) (v := 0) (by decide) ?_
  refine V_istore (pc := 3) hG (dk dd_X10_areSame 3 rfl) (by decide) (lv' := [(0, _), (1, _), (2, _), (3, _), (4, _)]) rfl ?_
  rotate_left
  -- leaves: stop 5
  · exact loop (2 ^ α 0 0) 0 1 (by omega) (is1.t (fun E hE => by omega))
/-- the first of the pairs with Q -/
def IsQ (Q : Nat → Nat → Prop) (r : Int32) : Prop := (∃ i j, Q i j ∧ r = nI (10 * i + j) ∧ ∀ i' j', Q i' j' → i < i' ∨ (i = i' ∧ j ≤ j')) ∨ ((∀ i j, ¬ Q i j) ∧ r = -1000000)
theorem IsQ.cg {Q R : Nat → Nat → Prop} {r : Int32} (h : IsQ Q r) (e : ∀ i j, Q i j ↔ R i j) : IsQ R r := by
  have : Q = R := by funext i j; exact propext (e i j)
  rw [← this]; exact h
theorem IsQ.add {Q : Nat → Nat → Prop} {a b : Nat} (h : ∀ i j, Q i j → a < i ∨ (a = i ∧ b ≤ j)) : IsQ (fun i j => Q i j ∨ (i = a ∧ j = b)) (nI (10 * a + b)) :=
  Or.inl ⟨a, b, Or.inr ⟨rfl, rfl⟩, rfl, fun i j q => q.elim (h i j) (fun w => Or.inr ⟨w.1.symm, by omega⟩)⟩
theorem IsQ.f {P : Nat → Nat → Prop} {N : Nat} {r : Int32} (h : IsQ (fun i j => i < j ∧ j < N ∧ P i j) r) : IsF P N r := by
  rcases h with ⟨i, j, q, e, m⟩ | ⟨n, e⟩
  · exact Or.inl ⟨i, j, q.1, q.2.1, q.2.2, e, fun i' j' a b c => m i' j' ⟨a, b, c⟩⟩
  · exact Or.inr ⟨fun i j a b c => n i j ⟨a, b, c⟩, e⟩
/-- pairs gone through: a whole row above a, in the row a those from b on -/
def Gn (P : Nat → Nat → Prop) (N a b : Nat) (i j : Nat) : Prop := (i < j ∧ j < N ∧ P i j) ∧ (a < i ∨ (i = a ∧ b ≤ j))
def PrR (P : Nat → Nat → Prop) (α : Al) (N : Nat) (w r : Int32) : Prop := (¬ 0 < α 0 0 ∧ r = -1000002) ∨ (0 < α 0 0 ∧ ¬ (w = 0 ∨ w = 1) ∧ r = -1000001) ∨ (0 < α 0 0 ∧ ((w = 0 ∧ r = nI (cnt2 P N N)) ∨ (w = 1 ∧ IsF P N r)))
theorem i2c {w : Int32} : (0 ≤ w ∧ w ≤ 1) ↔ (w = 0 ∨ w = 1) := by
  constructor
  · intro h
    obtain ⟨k, hk, rfl⟩ := nI_of (Int32.not_lt.mpr h.1)
    have := le_i (b := 1) h.2 hk (by decide)
    rcases (show k = 0 ∨ k = 1 by omega) with rfl | rfl
    · exact Or.inl rfl
    · exact Or.inr rfl
  · rintro (rfl | rfl) <;> decide
theorem g2_0 {P : Nat → Nat → Prop} {a : Nat} : sumT (g2 P a) (a + 1) = 0 := sumT_0 (fun j hj => by unfold g2; exact p1_f (fun q => by omega))
set_option maxHeartbeats 1000000 in
theorem m_clashes {μ : Mem} {α : Al} (hA : Abs (kap (μ 71)) α) (hz : Vz α) {w : Int32} : CtP yX10_clashes cX10_clashes 6 (some .int) 3 [vR 67, vI w] μ (Pi (fun r μ' => PrR (claB α) α (α 0 7) w r ∧ μ' = th0 μ)) := by
  refine CtP.go RX10 rfl pn_X10 (Nat.le_of_ble_eq_true rfl) (fun C hG hR => ?_)
  have e0 : μ 71 0 = nI (α 0 0) := e_sc hA (i := 0) (by decide)
  by_cases hv : Val α
  · have h0 : 0 < α 0 0 := by have := hv.t3; omega
    by_cases hw : w = 0 ∨ w = 1
    · have rs : vp_in (4 : Int32) 46 := rr (n := 4) (by decide)
      have es : th0 μ 71 (Int32.toNatClampNeg 4) = nI (α 0 7) := e_sc hA (i := 7) (by decide)
      have hA2 : Abs (kap (th0 μ 71)) α := hA
      have hN : α 0 7 ≤ 6 := by have := hv.H; have := hv.C; omega
      generalize hNN : α 0 7 = N at *
      have hcl := cnt2_le (claB α) N N
      have hcl2 : N * N ≤ 6 * 6 := Nat.mul_le_mul hN hN
      have outer : ∀ a c f, c + sumT (fun i => sumT (g2 (claB α) i) N) a = cnt2 (claB α) N N → a ≤ N → IsQ (fun i j => (i < j ∧ j < N ∧ claB α i j) ∧ a ≤ i) f → ∀ lv, lv = [(0, vR 67), (1, vI w), (2, vI (nI c)), (3, vI f), (4, vI (nI a - 1))] → V C 43 lv [] (th0 μ) := by
        intro a
        induction a with
        | zero =>
          intro c f h1 h2 h3 lv hl
          subst hl
          have h1 : c = cnt2 (claB α) N N := h1
          refine V_iload (pc := 43) hG (dk dd_X10_clashes 27 rfl) rfl ?_
          refine V_if_lt (pc := 45) hG (dk dd_X10_clashes 28 rfl) (tgt := 120) (by decide) (fun h45 => ?_) (fun h45 => ?_)
          refine V_iload_n (pc := 120) hG (dk dd_X10_clashes 67 rfl) rfl ?_
          refine V_if_ne (pc := 121) hG (dk dd_X10_clashes 68 rfl) (tgt := 128) (by decide) (fun h121 => ?_) (fun h121 => ?_)
          refine V_iload_n (pc := 128) hG (dk dd_X10_clashes 71 rfl) rfl ?_
          refine V_iretP (pc := 129) hG (dk dd_X10_clashes 72 rfl) hR (Pi.mk ?_)
          rotate_left
          refine V_iload_n (pc := 124) hG (dk dd_X10_clashes 69 rfl) rfl ?_
          refine V_goto (pc := 125) hG (dk dd_X10_clashes 70 rfl) (tgt := 129) (by decide) ?_
          refine V_iretP (pc := 129) hG (dk dd_X10_clashes 72 rfl) hR (Pi.mk ?_)
          rotate_left
          rotate_left
          -- leaves: return@129; return@129; stop 48
          · refine ⟨Or.inr (Or.inr ⟨h0, Or.inr ⟨hw.resolve_left h121, ?_⟩⟩), rfl⟩
            exact (h3.cg (fun i j => ⟨fun q => q.1, fun q => ⟨q, Nat.zero_le i⟩⟩)).f
          · refine ⟨Or.inr (Or.inr ⟨h0, Or.inl ⟨h121, ?_⟩⟩), rfl⟩
            rw [h1]
          · exfalso; exact h45 (by decide)
        | succ a ih =>
          intro c f h1 h2 h3 lv hl
          subst hl
          rw [nI_pred]
          have inner : ∀ b c f, c + sumT (g2 (claB α) a) b + sumT (fun i => sumT (g2 (claB α) i) N) a = cnt2 (claB α) N N → a + 1 ≤ b → b ≤ N → IsQ (Gn (claB α) N a b) f → ∀ lv, lv = [(0, vR 67), (1, vI w), (2, vI (nI c)), (3, vI f), (4, vI (nI a)), (5, vI (nI b - 1))] → V C 58 lv [] (th0 μ) := by
            intro b
            induction b with
            | zero => intro c f q1 q2; omega
            | succ b ib =>
              intro c f q1 q2 q3 q4 lv hl
              subst hl
              rw [nI_pred]
              refine V_iload (pc := 58) hG (dk dd_X10_clashes 36 rfl) rfl ?_
              refine V_iload (pc := 60) hG (dk dd_X10_clashes 37 rfl) rfl ?_
              refine V_icmp_le (pc := 62) hG (dk dd_X10_clashes 38 rfl) (tgt := 114) (by decide) (fun h62 => ?_) (fun h62 => ?_)
              refine V_keep [0, 1, 2, 3, 4] (lv' := [(0, _), (1, _), (2, _), (3, _), (4, _)]) rfl ?_
              rotate_left
              rotate_left
              -- leaves: stop 114; stop 65
              · have hb : b = a := by have := le_i h62 (by omega) (by omega); omega
                subst hb
                rw [g2_0, Nat.add_zero] at q1
                refine ?_
                refine V_iinc (pc := 114) hG (dk dd_X10_clashes 65 rfl) rfl (v := _ + (-1)) rfl (by decide) (lv' := [(0, _), (1, _), (2, _), (3, _), (4, _)]) rfl ?_
                refine V_goto (pc := 117) hG (dk dd_X10_clashes 66 rfl) (tgt := 43) (by decide) ?_
                rotate_left
                -- leaves: stop 43
                · exact ih c f q1 (by omega) (q4.cg (fun i j => ⟨fun q => ⟨q.1, by have := q.2; omega⟩, fun q => ⟨q.1, by have := q.1.1; have := q.2; omega⟩⟩)) _ (by rw [m1e])
              · have hb : a < b := nle_i h62 (by omega) (by omega)
                rw [sumT_s] at q1
                have low : ∀ i j, Gn (claB α) N a (b + 1) i j → a < i ∨ (a = i ∧ b ≤ j) := fun i j q => by have := q.2; omega
                have yes : claB α a b → V C 65 [(0, vR 67), (1, vI w), (2, vI (nI c)), (3, vI f), (4, vI (nI a)), (5, vI (nI b))] [] (th0 μ) → True := fun _ _ => trivial
                have gy : claB α a b → g2 (claB α) a b = 1 := fun p => p1_t ⟨hb, p⟩
                have gn : ¬ claB α a b → g2 (claB α) a b = 0 := fun p => p1_f (fun q => p q.2)
                have py : claB α a b → IsQ (Gn (claB α) N a b) (nI (10 * a + b)) := fun p => (IsQ.add low).cg (fun i j => ⟨fun q => q.elim (fun w => ⟨w.1, by have := w.2; omega⟩) (fun w => by rw [w.1, w.2]; exact ⟨⟨hb, by omega, p⟩, Or.inr ⟨rfl, Nat.le_refl b⟩⟩), fun q => if z : i = a ∧ j = b then Or.inr z else Or.inl ⟨q.1, by have := q.2; omega⟩⟩)
                have pn : ¬ claB α a b → IsQ (Gn (claB α) N a b) f := fun p => q4.cg (fun i j => ⟨fun q => ⟨q.1, by have := q.2; omega⟩, fun q => ⟨q.1, by
                  have := q.2
                  by_cases z : i = a ∧ j = b
                  · exact absurd (by rw [← z.1, ← z.2]; exact q.1.2.2) p
                  · omega⟩⟩)
                have ix : (10 : Int32) * nI a + nI b = nI (10 * a + b) := by rw [show (10 : Int32) = nI 10 from rfl, pk_mul, nI_add]
                refine V_iload_n (pc := 65) hG (dk dd_X10_clashes 39 rfl) rfl ?_
                refine V_aload_n (pc := 66) hG (dk dd_X10_clashes 40 rfl) rfl ?_
                refine V_iload (pc := 67) hG (dk dd_X10_clashes 41 rfl) rfl ?_
                refine V_iload (pc := 69) hG (dk dd_X10_clashes 42 rfl) rfl ?_
                refine V_callVip (pc := 71) hG (dk dd_X10_clashes 43 rfl) ml_X10_263 mo_X10_doClash sh_67 rfl (m_doClash (μ := th0 μ) hA2 hv (a := a) rfl (by omega) (b := b) rfl (by omega)) (by decide) (by decide) rfl rfl rfl (fun x71 m71 p71 => ?_)
                refine V_if_eq (pc := 74) hG (dk dd_X10_clashes 44 rfl) (tgt := 81) (by decide) (fun h74 => ?_) (fun h74 => ?_)
                refine V_iconst (pc := 81) hG (dk dd_X10_clashes 47 rfl) (v := 0) (by decide) ?_
                refine V_iadd (pc := 82) hG (dk dd_X10_clashes 48 rfl) ?_
                refine V_istore_n (pc := 83) hG (dk dd_X10_clashes 49 rfl) (by decide) (lv' := [(0, _), (1, _), (2, _), (3, _), (4, _), (5, _)]) rfl ?_
                refine V_aload_n (pc := 84) hG (dk dd_X10_clashes 50 rfl) rfl ?_
                refine V_iload (pc := 85) hG (dk dd_X10_clashes 51 rfl) rfl ?_
                refine V_iload (pc := 87) hG (dk dd_X10_clashes 52 rfl) rfl ?_
                refine V_callVip (pc := 89) hG (dk dd_X10_clashes 53 rfl) ml_X10_263 mo_X10_doClash sh_67 rfl (m_doClash (α := α) (by rw [p71.1]; exact hA2) hv (a := a) rfl (by omega) (b := b) rfl (by omega)) (by decide) (by decide) rfl rfl rfl (fun x89 m89 p89 => ?_)
                refine V_if_eq (pc := 92) hG (dk dd_X10_clashes 54 rfl) (tgt := 106) (by decide) (fun h92 => ?_) (fun h92 => ?_)
                refine V_iload_n (pc := 106) hG (dk dd_X10_clashes 61 rfl) rfl ?_
                refine V_istore_n (pc := 107) hG (dk dd_X10_clashes 62 rfl) (by decide) (lv' := [(0, _), (1, _), (2, _), (3, _), (4, _), (5, _)]) rfl ?_
                refine V_iinc (pc := 108) hG (dk dd_X10_clashes 63 rfl) rfl (v := _ + (-1)) rfl (by decide) (lv' := [(0, _), (1, _), (2, _), (3, _), (4, _), (5, _)]) rfl ?_
                refine V_goto (pc := 111) hG (dk dd_X10_clashes 64 rfl) (tgt := 58) (by decide) ?_
                rotate_left
                refine V_bipush (pc := 95) hG (dk dd_X10_clashes 55 rfl) (v := 10) (by decide) ?_
                refine V_iload (pc := 97) hG (dk dd_X10_clashes 56 rfl) rfl ?_
                refine V_imul (pc := 99) hG (dk dd_X10_clashes 57 rfl) ?_
                refine V_iload (pc := 100) hG (dk dd_X10_clashes 58 rfl) rfl ?_
                refine V_iadd (pc := 102) hG (dk dd_X10_clashes 59 rfl) ?_
                refine V_goto (pc := 103) hG (dk dd_X10_clashes 60 rfl) (tgt := 107) (by decide) ?_
                refine V_istore_n (pc := 107) hG (dk dd_X10_clashes 62 rfl) (by decide) (lv' := [(0, _), (1, _), (2, _), (3, _), (4, _), (5, _)]) rfl ?_
                refine V_iinc (pc := 108) hG (dk dd_X10_clashes 63 rfl) rfl (v := _ + (-1)) rfl (by decide) (lv' := [(0, _), (1, _), (2, _), (3, _), (4, _), (5, _)]) rfl ?_
                refine V_goto (pc := 111) hG (dk dd_X10_clashes 64 rfl) (tgt := 58) (by decide) ?_
                rotate_left
                refine V_iconst (pc := 77) hG (dk dd_X10_clashes 45 rfl) (v := 1) (by decide) ?_
                refine V_goto (pc := 78) hG (dk dd_X10_clashes 46 rfl) (tgt := 82) (by decide) ?_
                refine V_iadd (pc := 82) hG (dk dd_X10_clashes 48 rfl) ?_
                refine V_istore_n (pc := 83) hG (dk dd_X10_clashes 49 rfl) (by decide) (lv' := [(0, _), (1, _), (2, _), (3, _), (4, _), (5, _)]) rfl ?_
                refine V_aload_n (pc := 84) hG (dk dd_X10_clashes 50 rfl) rfl ?_
                refine V_iload (pc := 85) hG (dk dd_X10_clashes 51 rfl) rfl ?_
                refine V_iload (pc := 87) hG (dk dd_X10_clashes 52 rfl) rfl ?_
                refine V_callVip (pc := 89) hG (dk dd_X10_clashes 53 rfl) ml_X10_263 mo_X10_doClash sh_67 rfl (m_doClash (α := α) (by rw [p71.1]; exact hA2) hv (a := a) rfl (by omega) (b := b) rfl (by omega)) (by decide) (by decide) rfl rfl rfl (fun x89 m89 p89 => ?_)
                refine V_if_eq (pc := 92) hG (dk dd_X10_clashes 54 rfl) (tgt := 106) (by decide) (fun h92 => ?_) (fun h92 => ?_)
                refine V_iload_n (pc := 106) hG (dk dd_X10_clashes 61 rfl) rfl ?_
                refine V_istore_n (pc := 107) hG (dk dd_X10_clashes 62 rfl) (by decide) (lv' := [(0, _), (1, _), (2, _), (3, _), (4, _), (5, _)]) rfl ?_
                refine V_iinc (pc := 108) hG (dk dd_X10_clashes 63 rfl) rfl (v := _ + (-1)) rfl (by decide) (lv' := [(0, _), (1, _), (2, _), (3, _), (4, _), (5, _)]) rfl ?_
                refine V_goto (pc := 111) hG (dk dd_X10_clashes 64 rfl) (tgt := 58) (by decide) ?_
                rotate_left
                refine V_bipush (pc := 95) hG (dk dd_X10_clashes 55 rfl) (v := 10) (by decide) ?_
                refine V_iload (pc := 97) hG (dk dd_X10_clashes 56 rfl) rfl ?_
                refine V_imul (pc := 99) hG (dk dd_X10_clashes 57 rfl) ?_
                refine V_iload (pc := 100) hG (dk dd_X10_clashes 58 rfl) rfl ?_
                refine V_iadd (pc := 102) hG (dk dd_X10_clashes 59 rfl) ?_
                refine V_goto (pc := 103) hG (dk dd_X10_clashes 60 rfl) (tgt := 107) (by decide) ?_
                refine V_istore_n (pc := 107) hG (dk dd_X10_clashes 62 rfl) (by decide) (lv' := [(0, _), (1, _), (2, _), (3, _), (4, _), (5, _)]) rfl ?_
                refine V_iinc (pc := 108) hG (dk dd_X10_clashes 63 rfl) rfl (v := _ + (-1)) rfl (by decide) (lv' := [(0, _), (1, _), (2, _), (3, _), (4, _), (5, _)]) rfl ?_
                refine V_goto (pc := 111) hG (dk dd_X10_clashes 64 rfl) (tgt := 58) (by decide) ?_
                rotate_left
                -- leaves: stop 58; stop 58; stop 58; stop 58
                · rw [p89.1, p71.1]
                  have np := p71.2.no h74
                  exact ib c f (by rw [gn np, Nat.add_zero] at q1; exact q1) (by omega) (by omega) (pn np) _ (by rw [Int32.add_zero, m1e])
                · exact absurd (p89.2.yes h92) (p71.2.no h74)
                · exact absurd (p71.2.yes h74) (p89.2.no h92)
                · rw [p89.1, p71.1]
                  have np := p71.2.yes h74
                  exact ib (c + 1) (nI (10 * a + b)) (by rw [gy np] at q1; omega) (by omega) (by omega) (py np) _ (by rw [nI_1, ix, m1e])
          have ini := inner N c f (by rw [sumT_s, ← Nat.add_assoc] at h1; rw [Nat.add_right_comm]; exact h1) (by omega) (Nat.le_refl N) (h3.cg (fun i j => ⟨fun q => ⟨q.1, by have := q.2; omega⟩, fun q => ⟨q.1, by have := q.1.2.1; have := q.2; omega⟩⟩))
          refine V_iload (pc := 43) hG (dk dd_X10_clashes 27 rfl) rfl ?_
          refine V_if_lt (pc := 45) hG (dk dd_X10_clashes 28 rfl) (tgt := 120) (by decide) (fun h45 => ?_) (fun h45 => ?_)
          rotate_left
          refine V_aload_n (pc := 48) hG (dk dd_X10_clashes 29 rfl) rfl ?_
          refine V_getR (pc := 49) hG (dk dd_X10_clashes 30 rfl) fl_X10_19 sh_67 rfl ?_
          refine V_iconst (pc := 52) hG (dk dd_X10_clashes 31 rfl) (v := 4) (by decide) ?_
          refine V_iald (pc := 53) hG (dk dd_X10_clashes 32 rfl) sh_71 rs ?_
          refine V_iconst (pc := 54) hG (dk dd_X10_clashes 33 rfl) (v := 1) (by decide) ?_
          refine V_isub (pc := 55) hG (dk dd_X10_clashes 34 rfl) ?_
          refine V_istore (pc := 56) hG (dk dd_X10_clashes 35 rfl) (by decide) (lv' := [(0, _), (1, _), (2, _), (3, _), (4, _), (5, _)]) rfl ?_
          rotate_left
          -- leaves: stop 120; stop 58
          · exfalso; exact nI_pos (by omega) h45
          · rw [es]; exact ini _ rfl
      refine V_aload_n (pc := 0) hG (dk dd_X10_clashes 0 rfl) rfl ?_
      refine V_iconst (pc := 1) hG (dk dd_X10_clashes 1 rfl) (v := 0) (by decide) ?_
      refine V_putI (pc := 2) hG (dk dd_X10_clashes 2 rfl) fl_X10_62 sh_67 rfl rfl ?_
      refine V_aload_n (pc := 5) hG (dk dd_X10_clashes 3 rfl) rfl ?_
      refine V_callVip (pc := 6) hG (dk dd_X10_clashes 4 rfl) ml_X10_219 mo_X10_isThere sh_67 rfl (m_isThere) (by decide) (by decide) rfl rfl rfl (fun x6 m6 p6 => ?_)
      refine V_if_ne (pc := 9) hG (dk dd_X10_clashes 5 rfl) (tgt := 15) (by decide) (fun h9 => ?_) (fun h9 => ?_)
      refine V_iload_n (pc := 15) hG (dk dd_X10_clashes 8 rfl) rfl ?_
      refine V_i2l (pc := 16) hG (dk dd_X10_clashes 9 rfl) ?_
      refine V_lconst (pc := 17) hG (dk dd_X10_clashes 10 rfl) (v := 0) (by decide) ?_
      refine V_lconst (pc := 18) hG (dk dd_X10_clashes 11 rfl) (v := 1) (by decide) ?_
      refine V_callSip (pc := 19) hG (dk dd_X10_clashes 12 rfl) ml_X10_72 mo_X10_in (m_inI (v := w) (lo := 0) (hi := 1) rfl rfl (by decide)) (by decide) (by decide) rfl rfl rfl (fun x19 m19 p19 => ?_)
      refine V_if_ne (pc := 22) hG (dk dd_X10_clashes 13 rfl) (tgt := 28) (by decide) (fun h22 => ?_) (fun h22 => ?_)
      refine V_iconst (pc := 28) hG (dk dd_X10_clashes 16 rfl) (v := 0) (by decide) ?_
      refine V_istore_n (pc := 29) hG (dk dd_X10_clashes 17 rfl) (by decide) (lv' := [(0, _), (1, _), (2, _)]) rfl ?_
      refine V_ldc (pc := 30) hG (dk dd_X10_clashes 18 rfl) kk_X10_105 ?_
      refine V_istore_n (pc := 32) hG (dk dd_X10_clashes 19 rfl) (by decide) (lv' := [(0, _), (1, _), (2, _), (3, _)]) rfl ?_
      refine V_aload_n (pc := 33) hG (dk dd_X10_clashes 20 rfl) rfl ?_
      refine V_getR (pc := 34) hG (dk dd_X10_clashes 21 rfl) fl_X10_19 sh_67 rfl ?_
      refine V_iconst (pc := 37) hG (dk dd_X10_clashes 22 rfl) (v := 4) (by decide) ?_
      refine V_iald (pc := 38) hG (dk dd_X10_clashes 23 rfl) sh_71 rs ?_
      refine V_iconst (pc := 39) hG (dk dd_X10_clashes 24 rfl) (v := 1) (by decide) ?_
      refine V_isub (pc := 40) hG (dk dd_X10_clashes 25 rfl) ?_
      refine V_istore (pc := 41) hG (dk dd_X10_clashes 26 rfl) (by decide) (lv' := [(0, _), (1, _), (2, _), (3, _), (4, _)]) rfl ?_
      rotate_left
      rotate_left
      rotate_left
      -- leaves: stop 43; stop 25; stop 12
      · rw [p19.1, p6.1]
        exact outer N 0 (-1000000) (by rw [Nat.zero_add]; rfl) (Nat.le_refl N) (Or.inr ⟨fun i j q => by have := q.1.1; have := q.1.2.1; have := q.2; omega, rfl⟩) _ (by rw [show (setc μ 67 (upd (μ 67) 0 0)) 71 (Int32.toNatClampNeg 4) = nI N from es]; rfl)
      · exact absurd (i2c.mpr hw) (p19.2.no h22)
      · exact absurd ((hz.there e0).mpr hv) (p6.2.no h9)
    · skip
      refine V_aload_n (pc := 0) hG (dk dd_X10_clashes 0 rfl) rfl ?_
      refine V_iconst (pc := 1) hG (dk dd_X10_clashes 1 rfl) (v := 0) (by decide) ?_
      refine V_putI (pc := 2) hG (dk dd_X10_clashes 2 rfl) fl_X10_62 sh_67 rfl rfl ?_
      refine V_aload_n (pc := 5) hG (dk dd_X10_clashes 3 rfl) rfl ?_
      refine V_callVip (pc := 6) hG (dk dd_X10_clashes 4 rfl) ml_X10_219 mo_X10_isThere sh_67 rfl (m_isThere) (by decide) (by decide) rfl rfl rfl (fun x6 m6 p6 => ?_)
      refine V_if_ne (pc := 9) hG (dk dd_X10_clashes 5 rfl) (tgt := 15) (by decide) (fun h9 => ?_) (fun h9 => ?_)
      refine V_iload_n (pc := 15) hG (dk dd_X10_clashes 8 rfl) rfl ?_
      refine V_i2l (pc := 16) hG (dk dd_X10_clashes 9 rfl) ?_
      refine V_lconst (pc := 17) hG (dk dd_X10_clashes 10 rfl) (v := 0) (by decide) ?_
      refine V_lconst (pc := 18) hG (dk dd_X10_clashes 11 rfl) (v := 1) (by decide) ?_
      refine V_callSip (pc := 19) hG (dk dd_X10_clashes 12 rfl) ml_X10_72 mo_X10_in (m_inI (v := w) (lo := 0) (hi := 1) rfl rfl (by decide)) (by decide) (by decide) rfl rfl rfl (fun x19 m19 p19 => ?_)
      refine V_if_ne (pc := 22) hG (dk dd_X10_clashes 13 rfl) (tgt := 28) (by decide) (fun h22 => ?_) (fun h22 => ?_)
      rotate_left
      refine V_ldc (pc := 25) hG (dk dd_X10_clashes 14 rfl) kk_X10_82 ?_
      refine V_iretP (pc := 27) hG (dk dd_X10_clashes 15 rfl) hR (Pi.mk ?_)
      rotate_left
      rotate_left
      -- leaves: stop 28; return@27; stop 12
      · exact absurd (i2c.mp (p19.2.yes h22)) hw
      · exact ⟨Or.inr (Or.inl ⟨h0, hw, rfl⟩), by rw [p19.1, p6.1]; rfl⟩
      · exact absurd ((hz.there e0).mpr hv) (p6.2.no h9)
  · skip
    refine V_aload_n (pc := 0) hG (dk dd_X10_clashes 0 rfl) rfl ?_
    refine V_iconst (pc := 1) hG (dk dd_X10_clashes 1 rfl) (v := 0) (by decide) ?_
    refine V_putI (pc := 2) hG (dk dd_X10_clashes 2 rfl) fl_X10_62 sh_67 rfl rfl ?_
    refine V_aload_n (pc := 5) hG (dk dd_X10_clashes 3 rfl) rfl ?_
    refine V_callVip (pc := 6) hG (dk dd_X10_clashes 4 rfl) ml_X10_219 mo_X10_isThere sh_67 rfl (m_isThere) (by decide) (by decide) rfl rfl rfl (fun x6 m6 p6 => ?_)
    refine V_if_ne (pc := 9) hG (dk dd_X10_clashes 5 rfl) (tgt := 15) (by decide) (fun h9 => ?_) (fun h9 => ?_)
    rotate_left
    refine V_ldc (pc := 12) hG (dk dd_X10_clashes 6 rfl) kk_X10_210 ?_
    refine V_iretP (pc := 14) hG (dk dd_X10_clashes 7 rfl) hR (Pi.mk ?_)
    rotate_left
    -- leaves: stop 15; return@14
    · exact absurd ((hz.there e0).mp (p6.2.yes h9)) hv
    · exact ⟨Or.inl ⟨fun q => hv (hz.vt q), rfl⟩, p6.1⟩
set_option maxHeartbeats 1000000 in
theorem m_same {μ : Mem} {α : Al} (hA : Abs (kap (μ 71)) α) (hz : Vz α) {w : Int32} : CtP yX10_same cX10_same 7 (some .int) 3 [vR 67, vI w] μ (Pi (fun r μ' => PrR (samB α) α (α 0 6) w r ∧ μ' = th0 μ)) := by
  refine CtP.go RX10 rfl pn_X10 (Nat.le_of_ble_eq_true rfl) (fun C hG hR => ?_)
  have e0 : μ 71 0 = nI (α 0 0) := e_sc hA (i := 0) (by decide)
  by_cases hv : Val α
  · have h0 : 0 < α 0 0 := by have := hv.t3; omega
    by_cases hw : w = 0 ∨ w = 1
    · have rs : vp_in (3 : Int32) 46 := rr (n := 3) (by decide)
      have es : th0 μ 71 (Int32.toNatClampNeg 3) = nI (α 0 6) := e_sc hA (i := 6) (by decide)
      have hA2 : Abs (kap (th0 μ 71)) α := hA
      have hN : α 0 6 ≤ 6 := by have := hv.H; have := hv.C; omega
      generalize hNN : α 0 6 = N at *
      have hcl := cnt2_le (samB α) N N
      have hcl2 : N * N ≤ 6 * 6 := Nat.mul_le_mul hN hN
      have outer : ∀ a c f, c + sumT (fun i => sumT (g2 (samB α) i) N) a = cnt2 (samB α) N N → a ≤ N → IsQ (fun i j => (i < j ∧ j < N ∧ samB α i j) ∧ a ≤ i) f → ∀ lv, lv = [(0, vR 67), (1, vI w), (2, vI (nI c)), (3, vI f), (4, vI (nI a - 1))] → V C 43 lv [] (th0 μ) := by
        intro a
        induction a with
        | zero =>
          intro c f h1 h2 h3 lv hl
          subst hl
          have h1 : c = cnt2 (samB α) N N := h1
          refine V_iload (pc := 43) hG (dk dd_X10_same 27 rfl) rfl ?_
          refine V_if_lt (pc := 45) hG (dk dd_X10_same 28 rfl) (tgt := 118) (by decide) (fun h45 => ?_) (fun h45 => ?_)
          refine V_iload_n (pc := 118) hG (dk dd_X10_same 66 rfl) rfl ?_
          refine V_if_ne (pc := 119) hG (dk dd_X10_same 67 rfl) (tgt := 126) (by decide) (fun h119 => ?_) (fun h119 => ?_)
          refine V_iload_n (pc := 126) hG (dk dd_X10_same 70 rfl) rfl ?_
          refine V_iretP (pc := 127) hG (dk dd_X10_same 71 rfl) hR (Pi.mk ?_)
          rotate_left
          refine V_iload_n (pc := 122) hG (dk dd_X10_same 68 rfl) rfl ?_
          refine V_goto (pc := 123) hG (dk dd_X10_same 69 rfl) (tgt := 127) (by decide) ?_
          refine V_iretP (pc := 127) hG (dk dd_X10_same 71 rfl) hR (Pi.mk ?_)
          rotate_left
          rotate_left
          -- leaves: return@127; return@127; stop 48
          · refine ⟨Or.inr (Or.inr ⟨h0, Or.inr ⟨hw.resolve_left h119, ?_⟩⟩), rfl⟩
            exact (h3.cg (fun i j => ⟨fun q => q.1, fun q => ⟨q, Nat.zero_le i⟩⟩)).f
          · refine ⟨Or.inr (Or.inr ⟨h0, Or.inl ⟨h119, ?_⟩⟩), rfl⟩
            rw [h1]
          · exfalso; exact h45 (by decide)
        | succ a ih =>
          intro c f h1 h2 h3 lv hl
          subst hl
          rw [nI_pred]
          have inner : ∀ b c f, c + sumT (g2 (samB α) a) b + sumT (fun i => sumT (g2 (samB α) i) N) a = cnt2 (samB α) N N → a + 1 ≤ b → b ≤ N → IsQ (Gn (samB α) N a b) f → ∀ lv, lv = [(0, vR 67), (1, vI w), (2, vI (nI c)), (3, vI f), (4, vI (nI a)), (5, vI (nI b - 1))] → V C 58 lv [] (th0 μ) := by
            intro b
            induction b with
            | zero => intro c f q1 q2; omega
            | succ b ib =>
              intro c f q1 q2 q3 q4 lv hl
              subst hl
              rw [nI_pred]
              refine V_iload (pc := 58) hG (dk dd_X10_same 36 rfl) rfl ?_
              refine V_iload (pc := 60) hG (dk dd_X10_same 37 rfl) rfl ?_
              refine V_icmp_le (pc := 62) hG (dk dd_X10_same 38 rfl) (tgt := 112) (by decide) (fun h62 => ?_) (fun h62 => ?_)
              refine V_keep [0, 1, 2, 3, 4] (lv' := [(0, _), (1, _), (2, _), (3, _), (4, _)]) rfl ?_
              rotate_left
              rotate_left
              -- leaves: stop 112; stop 65
              · have hb : b = a := by have := le_i h62 (by omega) (by omega); omega
                subst hb
                rw [g2_0, Nat.add_zero] at q1
                refine ?_
                refine V_iinc (pc := 112) hG (dk dd_X10_same 64 rfl) rfl (v := _ + (-1)) rfl (by decide) (lv' := [(0, _), (1, _), (2, _), (3, _), (4, _)]) rfl ?_
                refine V_goto (pc := 115) hG (dk dd_X10_same 65 rfl) (tgt := 43) (by decide) ?_
                rotate_left
                -- leaves: stop 43
                · exact ih c f q1 (by omega) (q4.cg (fun i j => ⟨fun q => ⟨q.1, by have := q.2; omega⟩, fun q => ⟨q.1, by have := q.1.1; have := q.2; omega⟩⟩)) _ (by rw [m1e])
              · have hb : a < b := nle_i h62 (by omega) (by omega)
                rw [sumT_s] at q1
                have low : ∀ i j, Gn (samB α) N a (b + 1) i j → a < i ∨ (a = i ∧ b ≤ j) := fun i j q => by have := q.2; omega
                have yes : samB α a b → V C 65 [(0, vR 67), (1, vI w), (2, vI (nI c)), (3, vI f), (4, vI (nI a)), (5, vI (nI b))] [] (th0 μ) → True := fun _ _ => trivial
                have gy : samB α a b → g2 (samB α) a b = 1 := fun p => p1_t ⟨hb, p⟩
                have gn : ¬ samB α a b → g2 (samB α) a b = 0 := fun p => p1_f (fun q => p q.2)
                have py : samB α a b → IsQ (Gn (samB α) N a b) (nI (10 * a + b)) := fun p => (IsQ.add low).cg (fun i j => ⟨fun q => q.elim (fun w => ⟨w.1, by have := w.2; omega⟩) (fun w => by rw [w.1, w.2]; exact ⟨⟨hb, by omega, p⟩, Or.inr ⟨rfl, Nat.le_refl b⟩⟩), fun q => if z : i = a ∧ j = b then Or.inr z else Or.inl ⟨q.1, by have := q.2; omega⟩⟩)
                have pn : ¬ samB α a b → IsQ (Gn (samB α) N a b) f := fun p => q4.cg (fun i j => ⟨fun q => ⟨q.1, by have := q.2; omega⟩, fun q => ⟨q.1, by
                  have := q.2
                  by_cases z : i = a ∧ j = b
                  · exact absurd (by rw [← z.1, ← z.2]; exact q.1.2.2) p
                  · omega⟩⟩)
                have ix : (10 : Int32) * nI a + nI b = nI (10 * a + b) := by rw [show (10 : Int32) = nI 10 from rfl, pk_mul, nI_add]
                refine V_aload_n (pc := 65) hG (dk dd_X10_same 39 rfl) rfl ?_
                refine V_iload (pc := 66) hG (dk dd_X10_same 40 rfl) rfl ?_
                refine V_iload (pc := 68) hG (dk dd_X10_same 41 rfl) rfl ?_
                refine V_callVip (pc := 70) hG (dk dd_X10_same 42 rfl) ml_X10_266 mo_X10_areSame sh_67 rfl (m_areSame (μ := th0 μ) hA2 hv (a := a) rfl (by omega) (b := b) rfl (by omega)) (by decide) (by decide) rfl rfl rfl (fun x70 m70 p70 => ?_)
                refine V_istore (pc := 73) hG (dk dd_X10_same 43 rfl) (by decide) (lv' := [(0, _), (1, _), (2, _), (3, _), (4, _), (5, _), (6, _)]) rfl ?_
                refine V_iload_n (pc := 75) hG (dk dd_X10_same 44 rfl) rfl ?_
                refine V_iload (pc := 76) hG (dk dd_X10_same 45 rfl) rfl ?_
                refine V_if_eq (pc := 78) hG (dk dd_X10_same 46 rfl) (tgt := 85) (by decide) (fun h78 => ?_) (fun h78 => ?_)
                refine V_iconst (pc := 85) hG (dk dd_X10_same 49 rfl) (v := 0) (by decide) ?_
                refine V_iadd (pc := 86) hG (dk dd_X10_same 50 rfl) ?_
                refine V_istore_n (pc := 87) hG (dk dd_X10_same 51 rfl) (by decide) (lv' := [(0, _), (1, _), (2, _), (3, _), (4, _), (5, _), (6, _)]) rfl ?_
                refine V_iload (pc := 88) hG (dk dd_X10_same 52 rfl) rfl ?_
                refine V_if_eq (pc := 90) hG (dk dd_X10_same 53 rfl) (tgt := 104) (by decide) (fun h90 => ?_) (fun h90 => ?_)
                refine V_iload_n (pc := 104) hG (dk dd_X10_same 60 rfl) rfl ?_
                refine V_istore_n (pc := 105) hG (dk dd_X10_same 61 rfl) (by decide) (lv' := [(0, _), (1, _), (2, _), (3, _), (4, _), (5, _), (6, _)]) rfl ?_
                refine V_iinc (pc := 106) hG (dk dd_X10_same 62 rfl) rfl (v := _ + (-1)) rfl (by decide) (lv' := [(0, _), (1, _), (2, _), (3, _), (4, _), (5, _), (6, _)]) rfl ?_
                refine V_goto (pc := 109) hG (dk dd_X10_same 63 rfl) (tgt := 58) (by decide) ?_
                refine V_keep [0, 1, 2, 3, 4, 5] (lv' := [(0, _), (1, _), (2, _), (3, _), (4, _), (5, _)]) rfl ?_
                rotate_left
                refine V_bipush (pc := 93) hG (dk dd_X10_same 54 rfl) (v := 10) (by decide) ?_
                refine V_iload (pc := 95) hG (dk dd_X10_same 55 rfl) rfl ?_
                refine V_imul (pc := 97) hG (dk dd_X10_same 56 rfl) ?_
                refine V_iload (pc := 98) hG (dk dd_X10_same 57 rfl) rfl ?_
                refine V_iadd (pc := 100) hG (dk dd_X10_same 58 rfl) ?_
                refine V_goto (pc := 101) hG (dk dd_X10_same 59 rfl) (tgt := 105) (by decide) ?_
                refine V_istore_n (pc := 105) hG (dk dd_X10_same 61 rfl) (by decide) (lv' := [(0, _), (1, _), (2, _), (3, _), (4, _), (5, _), (6, _)]) rfl ?_
                refine V_iinc (pc := 106) hG (dk dd_X10_same 62 rfl) rfl (v := _ + (-1)) rfl (by decide) (lv' := [(0, _), (1, _), (2, _), (3, _), (4, _), (5, _), (6, _)]) rfl ?_
                refine V_goto (pc := 109) hG (dk dd_X10_same 63 rfl) (tgt := 58) (by decide) ?_
                refine V_keep [0, 1, 2, 3, 4, 5] (lv' := [(0, _), (1, _), (2, _), (3, _), (4, _), (5, _)]) rfl ?_
                rotate_left
                refine V_iconst (pc := 81) hG (dk dd_X10_same 47 rfl) (v := 1) (by decide) ?_
                refine V_goto (pc := 82) hG (dk dd_X10_same 48 rfl) (tgt := 86) (by decide) ?_
                refine V_iadd (pc := 86) hG (dk dd_X10_same 50 rfl) ?_
                refine V_istore_n (pc := 87) hG (dk dd_X10_same 51 rfl) (by decide) (lv' := [(0, _), (1, _), (2, _), (3, _), (4, _), (5, _), (6, _)]) rfl ?_
                refine V_iload (pc := 88) hG (dk dd_X10_same 52 rfl) rfl ?_
                refine V_if_eq (pc := 90) hG (dk dd_X10_same 53 rfl) (tgt := 104) (by decide) (fun h90 => ?_) (fun h90 => ?_)
                refine V_iload_n (pc := 104) hG (dk dd_X10_same 60 rfl) rfl ?_
                refine V_istore_n (pc := 105) hG (dk dd_X10_same 61 rfl) (by decide) (lv' := [(0, _), (1, _), (2, _), (3, _), (4, _), (5, _), (6, _)]) rfl ?_
                refine V_iinc (pc := 106) hG (dk dd_X10_same 62 rfl) rfl (v := _ + (-1)) rfl (by decide) (lv' := [(0, _), (1, _), (2, _), (3, _), (4, _), (5, _), (6, _)]) rfl ?_
                refine V_goto (pc := 109) hG (dk dd_X10_same 63 rfl) (tgt := 58) (by decide) ?_
                refine V_keep [0, 1, 2, 3, 4, 5] (lv' := [(0, _), (1, _), (2, _), (3, _), (4, _), (5, _)]) rfl ?_
                rotate_left
                refine V_bipush (pc := 93) hG (dk dd_X10_same 54 rfl) (v := 10) (by decide) ?_
                refine V_iload (pc := 95) hG (dk dd_X10_same 55 rfl) rfl ?_
                refine V_imul (pc := 97) hG (dk dd_X10_same 56 rfl) ?_
                refine V_iload (pc := 98) hG (dk dd_X10_same 57 rfl) rfl ?_
                refine V_iadd (pc := 100) hG (dk dd_X10_same 58 rfl) ?_
                refine V_goto (pc := 101) hG (dk dd_X10_same 59 rfl) (tgt := 105) (by decide) ?_
                refine V_istore_n (pc := 105) hG (dk dd_X10_same 61 rfl) (by decide) (lv' := [(0, _), (1, _), (2, _), (3, _), (4, _), (5, _), (6, _)]) rfl ?_
                refine V_iinc (pc := 106) hG (dk dd_X10_same 62 rfl) rfl (v := _ + (-1)) rfl (by decide) (lv' := [(0, _), (1, _), (2, _), (3, _), (4, _), (5, _), (6, _)]) rfl ?_
                refine V_goto (pc := 109) hG (dk dd_X10_same 63 rfl) (tgt := 58) (by decide) ?_
                refine V_keep [0, 1, 2, 3, 4, 5] (lv' := [(0, _), (1, _), (2, _), (3, _), (4, _), (5, _)]) rfl ?_
                rotate_left
                -- leaves: stop 58; stop 58; stop 58; stop 58
                · rw [p70.1]
                  have np := p70.2.no h78
                  exact ib c f (by rw [gn np, Nat.add_zero] at q1; exact q1) (by omega) (by omega) (pn np) _ (by rw [Int32.add_zero, m1e])
                · exact absurd h78 h90
                · exact absurd h90 h78
                · rw [p70.1]
                  have np := p70.2.yes h78
                  exact ib (c + 1) (nI (10 * a + b)) (by rw [gy np] at q1; omega) (by omega) (by omega) (py np) _ (by rw [nI_1, ix, m1e])
          have ini := inner N c f (by rw [sumT_s, ← Nat.add_assoc] at h1; rw [Nat.add_right_comm]; exact h1) (by omega) (Nat.le_refl N) (h3.cg (fun i j => ⟨fun q => ⟨q.1, by have := q.2; omega⟩, fun q => ⟨q.1, by have := q.1.2.1; have := q.2; omega⟩⟩))
          refine V_iload (pc := 43) hG (dk dd_X10_same 27 rfl) rfl ?_
          refine V_if_lt (pc := 45) hG (dk dd_X10_same 28 rfl) (tgt := 118) (by decide) (fun h45 => ?_) (fun h45 => ?_)
          rotate_left
          refine V_aload_n (pc := 48) hG (dk dd_X10_same 29 rfl) rfl ?_
          refine V_getR (pc := 49) hG (dk dd_X10_same 30 rfl) fl_X10_19 sh_67 rfl ?_
          refine V_iconst (pc := 52) hG (dk dd_X10_same 31 rfl) (v := 3) (by decide) ?_
          refine V_iald (pc := 53) hG (dk dd_X10_same 32 rfl) sh_71 rs ?_
          refine V_iconst (pc := 54) hG (dk dd_X10_same 33 rfl) (v := 1) (by decide) ?_
          refine V_isub (pc := 55) hG (dk dd_X10_same 34 rfl) ?_
          refine V_istore (pc := 56) hG (dk dd_X10_same 35 rfl) (by decide) (lv' := [(0, _), (1, _), (2, _), (3, _), (4, _), (5, _)]) rfl ?_
          rotate_left
          -- leaves: stop 118; stop 58
          · exfalso; exact nI_pos (by omega) h45
          · rw [es]; exact ini _ rfl
      refine V_aload_n (pc := 0) hG (dk dd_X10_same 0 rfl) rfl ?_
      refine V_iconst (pc := 1) hG (dk dd_X10_same 1 rfl) (v := 0) (by decide) ?_
      refine V_putI (pc := 2) hG (dk dd_X10_same 2 rfl) fl_X10_62 sh_67 rfl rfl ?_
      refine V_aload_n (pc := 5) hG (dk dd_X10_same 3 rfl) rfl ?_
      refine V_callVip (pc := 6) hG (dk dd_X10_same 4 rfl) ml_X10_219 mo_X10_isThere sh_67 rfl (m_isThere) (by decide) (by decide) rfl rfl rfl (fun x6 m6 p6 => ?_)
      refine V_if_ne (pc := 9) hG (dk dd_X10_same 5 rfl) (tgt := 15) (by decide) (fun h9 => ?_) (fun h9 => ?_)
      refine V_iload_n (pc := 15) hG (dk dd_X10_same 8 rfl) rfl ?_
      refine V_i2l (pc := 16) hG (dk dd_X10_same 9 rfl) ?_
      refine V_lconst (pc := 17) hG (dk dd_X10_same 10 rfl) (v := 0) (by decide) ?_
      refine V_lconst (pc := 18) hG (dk dd_X10_same 11 rfl) (v := 1) (by decide) ?_
      refine V_callSip (pc := 19) hG (dk dd_X10_same 12 rfl) ml_X10_72 mo_X10_in (m_inI (v := w) (lo := 0) (hi := 1) rfl rfl (by decide)) (by decide) (by decide) rfl rfl rfl (fun x19 m19 p19 => ?_)
      refine V_if_ne (pc := 22) hG (dk dd_X10_same 13 rfl) (tgt := 28) (by decide) (fun h22 => ?_) (fun h22 => ?_)
      refine V_iconst (pc := 28) hG (dk dd_X10_same 16 rfl) (v := 0) (by decide) ?_
      refine V_istore_n (pc := 29) hG (dk dd_X10_same 17 rfl) (by decide) (lv' := [(0, _), (1, _), (2, _)]) rfl ?_
      refine V_ldc (pc := 30) hG (dk dd_X10_same 18 rfl) kk_X10_105 ?_
      refine V_istore_n (pc := 32) hG (dk dd_X10_same 19 rfl) (by decide) (lv' := [(0, _), (1, _), (2, _), (3, _)]) rfl ?_
      refine V_aload_n (pc := 33) hG (dk dd_X10_same 20 rfl) rfl ?_
      refine V_getR (pc := 34) hG (dk dd_X10_same 21 rfl) fl_X10_19 sh_67 rfl ?_
      refine V_iconst (pc := 37) hG (dk dd_X10_same 22 rfl) (v := 3) (by decide) ?_
      refine V_iald (pc := 38) hG (dk dd_X10_same 23 rfl) sh_71 rs ?_
      refine V_iconst (pc := 39) hG (dk dd_X10_same 24 rfl) (v := 1) (by decide) ?_
      refine V_isub (pc := 40) hG (dk dd_X10_same 25 rfl) ?_
      refine V_istore (pc := 41) hG (dk dd_X10_same 26 rfl) (by decide) (lv' := [(0, _), (1, _), (2, _), (3, _), (4, _)]) rfl ?_
      rotate_left
      rotate_left
      rotate_left
      -- leaves: stop 43; stop 25; stop 12
      · rw [p19.1, p6.1]
        exact outer N 0 (-1000000) (by rw [Nat.zero_add]; rfl) (Nat.le_refl N) (Or.inr ⟨fun i j q => by have := q.1.1; have := q.1.2.1; have := q.2; omega, rfl⟩) _ (by rw [show (setc μ 67 (upd (μ 67) 0 0)) 71 (Int32.toNatClampNeg 3) = nI N from es]; rfl)
      · exact absurd (i2c.mpr hw) (p19.2.no h22)
      · exact absurd ((hz.there e0).mpr hv) (p6.2.no h9)
    · skip
      refine V_aload_n (pc := 0) hG (dk dd_X10_same 0 rfl) rfl ?_
      refine V_iconst (pc := 1) hG (dk dd_X10_same 1 rfl) (v := 0) (by decide) ?_
      refine V_putI (pc := 2) hG (dk dd_X10_same 2 rfl) fl_X10_62 sh_67 rfl rfl ?_
      refine V_aload_n (pc := 5) hG (dk dd_X10_same 3 rfl) rfl ?_
      refine V_callVip (pc := 6) hG (dk dd_X10_same 4 rfl) ml_X10_219 mo_X10_isThere sh_67 rfl (m_isThere) (by decide) (by decide) rfl rfl rfl (fun x6 m6 p6 => ?_)
      refine V_if_ne (pc := 9) hG (dk dd_X10_same 5 rfl) (tgt := 15) (by decide) (fun h9 => ?_) (fun h9 => ?_)
      refine V_iload_n (pc := 15) hG (dk dd_X10_same 8 rfl) rfl ?_
      refine V_i2l (pc := 16) hG (dk dd_X10_same 9 rfl) ?_
      refine V_lconst (pc := 17) hG (dk dd_X10_same 10 rfl) (v := 0) (by decide) ?_
      refine V_lconst (pc := 18) hG (dk dd_X10_same 11 rfl) (v := 1) (by decide) ?_
      refine V_callSip (pc := 19) hG (dk dd_X10_same 12 rfl) ml_X10_72 mo_X10_in (m_inI (v := w) (lo := 0) (hi := 1) rfl rfl (by decide)) (by decide) (by decide) rfl rfl rfl (fun x19 m19 p19 => ?_)
      refine V_if_ne (pc := 22) hG (dk dd_X10_same 13 rfl) (tgt := 28) (by decide) (fun h22 => ?_) (fun h22 => ?_)
      rotate_left
      refine V_ldc (pc := 25) hG (dk dd_X10_same 14 rfl) kk_X10_82 ?_
      refine V_iretP (pc := 27) hG (dk dd_X10_same 15 rfl) hR (Pi.mk ?_)
      rotate_left
      rotate_left
      -- leaves: stop 28; return@27; stop 12
      · exact absurd (i2c.mp (p19.2.yes h22)) hw
      · exact ⟨Or.inr (Or.inl ⟨h0, hw, rfl⟩), by rw [p19.1, p6.1]; rfl⟩
      · exact absurd ((hz.there e0).mpr hv) (p6.2.no h9)
  · skip
    refine V_aload_n (pc := 0) hG (dk dd_X10_same 0 rfl) rfl ?_
    refine V_iconst (pc := 1) hG (dk dd_X10_same 1 rfl) (v := 0) (by decide) ?_
    refine V_putI (pc := 2) hG (dk dd_X10_same 2 rfl) fl_X10_62 sh_67 rfl rfl ?_
    refine V_aload_n (pc := 5) hG (dk dd_X10_same 3 rfl) rfl ?_
    refine V_callVip (pc := 6) hG (dk dd_X10_same 4 rfl) ml_X10_219 mo_X10_isThere sh_67 rfl (m_isThere) (by decide) (by decide) rfl rfl rfl (fun x6 m6 p6 => ?_)
    refine V_if_ne (pc := 9) hG (dk dd_X10_same 5 rfl) (tgt := 15) (by decide) (fun h9 => ?_) (fun h9 => ?_)
    rotate_left
    refine V_ldc (pc := 12) hG (dk dd_X10_same 6 rfl) kk_X10_210 ?_
    refine V_iretP (pc := 14) hG (dk dd_X10_same 7 rfl) hR (Pi.mk ?_)
    rotate_left
    -- leaves: stop 15; return@14
    · exact absurd ((hz.there e0).mp (p6.2.yes h9)) hv
    · exact ⟨Or.inl ⟨fun q => hv (hz.vt q), rfl⟩, p6.1⟩
