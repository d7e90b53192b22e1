/-! ===== the model: images, kinds, asks, counts ===== -/
def ImM (μ : Mem) (α : Al) (k r : Int32) (μ' : Mem) : Prop := (¬ (k = 0 ∨ k = 1) ∧ r = -1000001 ∧ μ' = th0 μ) ∨ ((k = 0 ∨ k = 1) ∧ ¬ 0 < α 0 0 ∧ r = -1000002 ∧ μ' = th0 μ) ∨
  (0 < α 0 0 ∧ ∃ K, k = nI K ∧ K < 2 ∧ r = 1 ∧ μ' 67 = th0 μ 67 ∧ μ' 82 = upd (μ 82) K 1 ∧ (∀ q, q < 46 → μ' 83 (46 * K + q) = μ 71 q) ∧ (∀ q, (q < 46 * K ∨ 46 * K + 46 ≤ q) → μ' 83 q = μ 83 q) ∧ ∀ j, j ≠ 67 → j ≠ 82 → j ≠ 83 → μ' j = μ j)
theorem k01 {k : Int32} (h : k = 0 ∨ k = 1) : ∃ K, k = nI K ∧ K < 2 := h.elim (fun z => ⟨0, z, by decide⟩) (fun z => ⟨1, z, by decide⟩)
theorem m_image {μ : Mem} {α : Al} (hA : Abs (kap (μ 71)) α) (hz : Vz α) {k : Int32} : CtP yX10_image cX10_image 3 (some .int) 2 [vR 67, vI k] μ (Pi (ImM μ α k)) := by
  refine CtP.go RX10 rfl pn_X10 (Nat.le_of_ble_eq_true rfl) (fun C hG hR => ?_)
  have e0 : μ 71 0 = nI (α 0 0) := e_sc hA (i := 0) (by decide)
  by_cases hk : k = 0 ∨ k = 1
  · by_cases hv : Val α
    · have h0 : 0 < α 0 0 := by have := hv.t3; omega
      obtain ⟨K, hkK, K2⟩ := k01 hk
      have rk : vp_in k 2 := by rw [hkK]; exact vp_in_nI K2 (by decide)
      have ck : k.toNatClampNeg = K := nI_cl hkK (by omega)
      have loop : ∀ d i M, i + d = 46 → M 67 = th0 μ 67 → M 82 = μ 82 → (∀ q, q < i → M 83 (46 * K + q) = μ 71 q) → (∀ q, (q < 46 * K ∨ 46 * K + 46 ≤ q) → M 83 q = μ 83 q) → (∀ j, j ≠ 67 → j ≠ 82 → j ≠ 83 → M j = μ j) → V C 30 [(0, vR 67), (1, vI k), (2, vI (nI i))] [] M := by
        intro d
        induction d with
        | zero =>
          intro i M hi t1 t2 t3 t4 t5
          refine V_iload_n (pc := 30) hG (dk dd_X10_image 18 rfl) rfl ?_
          refine V_bipush (pc := 31) hG (dk dd_X10_image 19 rfl) (v := 46) (by decide) ?_
          refine V_icmp_ge (pc := 33) hG (dk dd_X10_image 20 rfl) (tgt := 59) (by decide) (fun h33 => ?_) (fun h33 => ?_)
          refine V_aload_n (pc := 59) hG (dk dd_X10_image 35 rfl) rfl ?_
          refine V_getR (pc := 60) hG (dk dd_X10_image 36 rfl) fl_X10_53 sh_67 rfl ?_
          refine V_iload_n (pc := 63) hG (dk dd_X10_image 37 rfl) rfl ?_
          refine V_iconst (pc := 64) hG (dk dd_X10_image 38 rfl) (v := 1) (by decide) ?_
          refine V_zast (pc := 65) hG (dk dd_X10_image 39 rfl) sh_82 rk (by decide) ?_
          refine V_iconst (pc := 66) hG (dk dd_X10_image 40 rfl) (v := 1) (by decide) ?_
          refine V_iretP (pc := 67) hG (dk dd_X10_image 41 rfl) hR (Pi.mk ?_)
          rotate_left
          rotate_left
          -- leaves: return@67; stop 36
          · refine Or.inr (Or.inr ⟨h0, K, hkK, K2, rfl, ?_, ?_, fun q hq => ?_, fun q hq => ?_, fun j a b c => ?_⟩)
            · rw [setc_n (by decide)]; exact t1
            · rw [setc_s, ck, t2]
            · rw [setc_n (by decide)]; exact t3 q (by omega)
            · rw [setc_n (by decide)]; exact t4 q hq
            · rw [setc_n b]; exact t5 j a b c
          · exfalso; have := nle_i (a := 46) h33 (by omega) (by omega); omega
        | succ d ih =>
          intro i M hi t1 t2 t3 t4 t5
          have ix : (46 : Int32) * k + nI i = nI (46 * K + i) := by rw [hkK, show (46 : Int32) = nI 46 from rfl, pk_mul, nI_add]
          have r1 : vp_in ((46 : Int32) * k + nI i) 92 := by rw [ix]; exact vp_in_nI (by omega) (by decide)
          have r2 : vp_in (nI i) 46 := rr (by omega)
          refine V_iload_n (pc := 30) hG (dk dd_X10_image 18 rfl) rfl ?_
          refine V_bipush (pc := 31) hG (dk dd_X10_image 19 rfl) (v := 46) (by decide) ?_
          refine V_icmp_ge (pc := 33) hG (dk dd_X10_image 20 rfl) (tgt := 59) (by decide) (fun h33 => ?_) (fun h33 => ?_)
          rotate_left
          refine V_aload_n (pc := 36) hG (dk dd_X10_image 21 rfl) rfl ?_
          refine V_getR (pc := 37) hG (dk dd_X10_image 22 rfl) fl_X10_56 sh_67 rfl ?_
          refine V_bipush (pc := 40) hG (dk dd_X10_image 23 rfl) (v := 46) (by decide) ?_
          refine V_iload_n (pc := 42) hG (dk dd_X10_image 24 rfl) rfl ?_
          refine V_imul (pc := 43) hG (dk dd_X10_image 25 rfl) ?_
          refine V_iload_n (pc := 44) hG (dk dd_X10_image 26 rfl) rfl ?_
          refine V_iadd (pc := 45) hG (dk dd_X10_image 27 rfl) ?_
          refine V_aload_n (pc := 46) hG (dk dd_X10_image 28 rfl) rfl ?_
          refine V_getR (pc := 47) hG (dk dd_X10_image 29 rfl) fl_X10_19 sh_67 rfl ?_
          refine V_iload_n (pc := 50) hG (dk dd_X10_image 30 rfl) rfl ?_
          refine V_iald (pc := 51) hG (dk dd_X10_image 31 rfl) sh_71 r2 ?_
          refine V_iast (pc := 52) hG (dk dd_X10_image 32 rfl) sh_83 r1 ?_
          refine V_iinc (pc := 53) hG (dk dd_X10_image 33 rfl) rfl (v := _ + 1) rfl (by decide) (lv' := [(0, _), (1, _), (2, _)]) rfl ?_
          refine V_goto (pc := 56) hG (dk dd_X10_image 34 rfl) (tgt := 30) (by decide) ?_
          rotate_left
          -- leaves: stop 59; stop 30
          · exfalso; have := le_i (a := 46) h33 (by omega) (by omega); omega
          · rw [← nI_succ, ix, nI_clamp (by omega), nI_clamp (by omega)]
            refine ih (i + 1) _ (by omega) (by rw [setc_n (by decide)]; exact t1) (by rw [setc_n (by decide)]; exact t2) (fun q hq => ?_) (fun q hq => by rw [setc_s, upd_n (by omega)]; exact t4 q hq) (fun j a b c => by rw [setc_n c]; exact t5 j a b c)
            rw [setc_s]
            by_cases z : q = i
            · rw [z, upd_s, t5 71 (by decide) (by decide) (by decide)]
            · rw [upd_n (by omega)]; exact t3 q (by omega)
      refine V_aload_n (pc := 0) hG (dk dd_X10_image 0 rfl) rfl ?_
      refine V_iconst (pc := 1) hG (dk dd_X10_image 1 rfl) (v := 0) (by decide) ?_
      refine V_putI (pc := 2) hG (dk dd_X10_image 2 rfl) fl_X10_62 sh_67 rfl rfl ?_
      refine V_iload_n (pc := 5) hG (dk dd_X10_image 3 rfl) rfl ?_
      refine V_i2l (pc := 6) hG (dk dd_X10_image 4 rfl) ?_
      refine V_lconst (pc := 7) hG (dk dd_X10_image 5 rfl) (v := 0) (by decide) ?_
      refine V_lconst (pc := 8) hG (dk dd_X10_image 6 rfl) (v := 1) (by decide) ?_
      refine V_callSip (pc := 9) hG (dk dd_X10_image 7 rfl) ml_X10_72 mo_X10_in (m_inI (v := k) (lo := 0) (hi := 1) rfl rfl (by decide)) (by decide) (by decide) rfl rfl rfl (fun x9 m9 p9 => ?_)
      refine V_if_ne (pc := 12) hG (dk dd_X10_image 8 rfl) (tgt := 18) (by decide) (fun h12 => ?_) (fun h12 => ?_)
      refine V_aload_n (pc := 18) hG (dk dd_X10_image 11 rfl) rfl ?_
      refine V_callVip (pc := 19) hG (dk dd_X10_image 12 rfl) ml_X10_219 mo_X10_isThere sh_67 rfl (m_isThere) (by decide) (by decide) rfl rfl rfl (fun x19 m19 p19 => ?_)
      refine V_if_ne (pc := 22) hG (dk dd_X10_image 13 rfl) (tgt := 28) (by decide) (fun h22 => ?_) (fun h22 => ?_)
      refine V_iconst (pc := 28) hG (dk dd_X10_image 16 rfl) (v := 0) (by decide) ?_
      refine V_istore_n (pc := 29) hG (dk dd_X10_image 17 rfl) (by decide) (lv' := [(0, _), (1, _), (2, _)]) rfl ?_
      rotate_left
      rotate_left
      rotate_left
      -- leaves: stop 30; stop 25; stop 15
      · have em : m19 = th0 μ := p19.1.trans p9.1
        rw [em]
        exact loop 46 0 _ (by omega) rfl rfl (fun q hq => by omega) (fun q hq => rfl) (fun j a b c => th0_n a)
      · exact absurd ((hz.there e0).mpr hv) (by have := p19.2.no h22; rw [p9.1] at this; exact this)
      · exact absurd (i2c.mpr hk) (p9.2.no h12)
    · skip
      refine V_aload_n (pc := 0) hG (dk dd_X10_image 0 rfl) rfl ?_
      refine V_iconst (pc := 1) hG (dk dd_X10_image 1 rfl) (v := 0) (by decide) ?_
      refine V_putI (pc := 2) hG (dk dd_X10_image 2 rfl) fl_X10_62 sh_67 rfl rfl ?_
      refine V_iload_n (pc := 5) hG (dk dd_X10_image 3 rfl) rfl ?_
      refine V_i2l (pc := 6) hG (dk dd_X10_image 4 rfl) ?_
      refine V_lconst (pc := 7) hG (dk dd_X10_image 5 rfl) (v := 0) (by decide) ?_
      refine V_lconst (pc := 8) hG (dk dd_X10_image 6 rfl) (v := 1) (by decide) ?_
      refine V_callSip (pc := 9) hG (dk dd_X10_image 7 rfl) ml_X10_72 mo_X10_in (m_inI (v := k) (lo := 0) (hi := 1) rfl rfl (by decide)) (by decide) (by decide) rfl rfl rfl (fun x9 m9 p9 => ?_)
      refine V_if_ne (pc := 12) hG (dk dd_X10_image 8 rfl) (tgt := 18) (by decide) (fun h12 => ?_) (fun h12 => ?_)
      refine V_aload_n (pc := 18) hG (dk dd_X10_image 11 rfl) rfl ?_
      refine V_callVip (pc := 19) hG (dk dd_X10_image 12 rfl) ml_X10_219 mo_X10_isThere sh_67 rfl (m_isThere) (by decide) (by decide) rfl rfl rfl (fun x19 m19 p19 => ?_)
      refine V_if_ne (pc := 22) hG (dk dd_X10_image 13 rfl) (tgt := 28) (by decide) (fun h22 => ?_) (fun h22 => ?_)
      rotate_left
      refine V_ldc (pc := 25) hG (dk dd_X10_image 14 rfl) kk_X10_210 ?_
      refine V_iretP (pc := 27) hG (dk dd_X10_image 15 rfl) hR (Pi.mk ?_)
      rotate_left
      rotate_left
      -- leaves: stop 28; return@27; stop 15
      · have := p19.2.yes h22
        rw [p9.1] at this
        exact absurd ((hz.there e0).mp this) hv
      · exact Or.inr (Or.inl ⟨hk, fun q => hv (hz.vt q), rfl, p19.1.trans p9.1⟩)
      · exact absurd (i2c.mpr hk) (p9.2.no h12)
  · skip
    refine V_aload_n (pc := 0) hG (dk dd_X10_image 0 rfl) rfl ?_
    refine V_iconst (pc := 1) hG (dk dd_X10_image 1 rfl) (v := 0) (by decide) ?_
    refine V_putI (pc := 2) hG (dk dd_X10_image 2 rfl) fl_X10_62 sh_67 rfl rfl ?_
    refine V_iload_n (pc := 5) hG (dk dd_X10_image 3 rfl) rfl ?_
    refine V_i2l (pc := 6) hG (dk dd_X10_image 4 rfl) ?_
    refine V_lconst (pc := 7) hG (dk dd_X10_image 5 rfl) (v := 0) (by decide) ?_
    refine V_lconst (pc := 8) hG (dk dd_X10_image 6 rfl) (v := 1) (by decide) ?_
    refine V_callSip (pc := 9) hG (dk dd_X10_image 7 rfl) ml_X10_72 mo_X10_in (m_inI (v := k) (lo := 0) (hi := 1) rfl rfl (by decide)) (by decide) (by decide) rfl rfl rfl (fun x9 m9 p9 => ?_)
    refine V_if_ne (pc := 12) hG (dk dd_X10_image 8 rfl) (tgt := 18) (by decide) (fun h12 => ?_) (fun h12 => ?_)
    rotate_left
    refine V_ldc (pc := 15) hG (dk dd_X10_image 9 rfl) kk_X10_82 ?_
    refine V_iretP (pc := 17) hG (dk dd_X10_image 10 rfl) hR (Pi.mk ?_)
    rotate_left
    -- leaves: stop 18; return@17
    · exact absurd (i2c.mp (p9.2.yes h12)) hk
    · exact Or.inl ⟨hk, rfl, p9.1⟩
def ReM (μ : Mem) (k r : Int32) (μ' : Mem) : Prop := (¬ (k = 0 ∨ k = 1) ∧ r = -1000001 ∧ μ' = th0 μ) ∨ (∃ K, k = nI K ∧ K < 2 ∧ ((μ 82 K = 0 ∧ r = -1000002 ∧ μ' = th0 μ) ∨
  (¬ μ 82 K = 0 ∧ r = 1 ∧ μ' 67 9 = 0 ∧ (∀ q, 1 ≤ q → q ≠ 9 → μ' 67 q = μ 67 q) ∧ (∀ q, q < 46 → μ' 71 q = μ 83 (46 * K + q)) ∧ ∀ j, j ≠ 67 → j ≠ 71 → μ' j = μ j)))
theorem m_restore {μ : Mem} {k : Int32} : CtP yX10_restore cX10_restore 3 (some .int) 2 [vR 67, vI k] μ (Pi (ReM μ k)) := by
  refine CtP.go RX10 rfl pn_X10 (Nat.le_of_ble_eq_true rfl) (fun C hG hR => ?_)
  by_cases hk : k = 0 ∨ k = 1
  · obtain ⟨K, hkK, K2⟩ := k01 hk
    have rk : vp_in k 2 := by rw [hkK]; exact vp_in_nI K2 (by decide)
    have ck : k.toNatClampNeg = K := nI_cl hkK (by omega)
    have loop : ¬ μ 82 K = 0 → ∀ d i M, i + d = 46 → M 67 = th0 μ 67 → (∀ q, q < i → M 71 q = μ 83 (46 * K + q)) → (∀ j, j ≠ 67 → j ≠ 71 → M j = μ j) → V C 32 [(0, vR 67), (1, vI k), (2, vI (nI i))] [] M := by
      intro hn d
      induction d with
      | zero =>
        intro i M hi t1 t2 t3
        refine V_iload_n (pc := 32) hG (dk dd_X10_restore 20 rfl) rfl ?_
        refine V_bipush (pc := 33) hG (dk dd_X10_restore 21 rfl) (v := 46) (by decide) ?_
        refine V_icmp_ge (pc := 35) hG (dk dd_X10_restore 22 rfl) (tgt := 61) (by decide) (fun h35 => ?_) (fun h35 => ?_)
        refine V_aload_n (pc := 61) hG (dk dd_X10_restore 37 rfl) rfl ?_
        refine V_iconst (pc := 62) hG (dk dd_X10_restore 38 rfl) (v := 0) (by decide) ?_
        refine V_putI (pc := 63) hG (dk dd_X10_restore 39 rfl) fl_X10_170 sh_67 rfl rfl ?_
        refine V_iconst (pc := 66) hG (dk dd_X10_restore 40 rfl) (v := 1) (by decide) ?_
        refine V_iretP (pc := 67) hG (dk dd_X10_restore 41 rfl) hR (Pi.mk ?_)
        rotate_left
        rotate_left
        -- leaves: return@67; stop 38
        · refine Or.inr ⟨K, hkK, K2, Or.inr ⟨hn, rfl, ?_, fun q a b => ?_, fun q hq => ?_, fun j a b => ?_⟩⟩
          · rw [setc_s, upd_s]
          · rw [setc_s, upd_n b, t1]; exact th0_s a
          · rw [setc_n (by decide)]; exact t2 q (by omega)
          · rw [setc_n a]; exact t3 j a b
        · exfalso; have := nle_i (a := 46) h35 (by omega) (by omega); omega
      | succ d ih =>
        intro i M hi t1 t2 t3
        have ix : (46 : Int32) * k + nI i = nI (46 * K + i) := by rw [hkK, show (46 : Int32) = nI 46 from rfl, pk_mul, nI_add]
        have r1 : vp_in ((46 : Int32) * k + nI i) 92 := by rw [ix]; exact vp_in_nI (by omega) (by decide)
        have r2 : vp_in (nI i) 46 := rr (by omega)
        refine V_iload_n (pc := 32) hG (dk dd_X10_restore 20 rfl) rfl ?_
        refine V_bipush (pc := 33) hG (dk dd_X10_restore 21 rfl) (v := 46) (by decide) ?_
        refine V_icmp_ge (pc := 35) hG (dk dd_X10_restore 22 rfl) (tgt := 61) (by decide) (fun h35 => ?_) (fun h35 => ?_)
        rotate_left
        refine V_aload_n (pc := 38) hG (dk dd_X10_restore 23 rfl) rfl ?_
        refine V_getR (pc := 39) hG (dk dd_X10_restore 24 rfl) fl_X10_19 sh_67 rfl ?_
        refine V_iload_n (pc := 42) hG (dk dd_X10_restore 25 rfl) rfl ?_
        refine V_aload_n (pc := 43) hG (dk dd_X10_restore 26 rfl) rfl ?_
        refine V_getR (pc := 44) hG (dk dd_X10_restore 27 rfl) fl_X10_56 sh_67 rfl ?_
        refine V_bipush (pc := 47) hG (dk dd_X10_restore 28 rfl) (v := 46) (by decide) ?_
        refine V_iload_n (pc := 49) hG (dk dd_X10_restore 29 rfl) rfl ?_
        refine V_imul (pc := 50) hG (dk dd_X10_restore 30 rfl) ?_
        refine V_iload_n (pc := 51) hG (dk dd_X10_restore 31 rfl) rfl ?_
        refine V_iadd (pc := 52) hG (dk dd_X10_restore 32 rfl) ?_
        refine V_iald (pc := 53) hG (dk dd_X10_restore 33 rfl) sh_83 r1 ?_
        refine V_iast (pc := 54) hG (dk dd_X10_restore 34 rfl) sh_71 r2 ?_
        refine V_iinc (pc := 55) hG (dk dd_X10_restore 35 rfl) rfl (v := _ + 1) rfl (by decide) (lv' := [(0, _), (1, _), (2, _)]) rfl ?_
        refine V_goto (pc := 58) hG (dk dd_X10_restore 36 rfl) (tgt := 32) (by decide) ?_
        rotate_left
        -- leaves: stop 61; stop 32
        · exfalso; have := le_i (a := 46) h35 (by omega) (by omega); omega
        · rw [← nI_succ, ix, nI_clamp (by omega), nI_clamp (by omega)]
          refine ih (i + 1) _ (by omega) (by rw [setc_n (by decide)]; exact t1) (fun q hq => ?_) (fun j a b => by rw [setc_n b]; exact t3 j a b)
          rw [setc_s]
          by_cases z : q = i
          · rw [z, upd_s, t3 83 (by decide) (by decide)]
          · rw [upd_n z]; exact t2 q (by omega)
    refine V_aload_n (pc := 0) hG (dk dd_X10_restore 0 rfl) rfl ?_
    refine V_iconst (pc := 1) hG (dk dd_X10_restore 1 rfl) (v := 0) (by decide) ?_
    refine V_putI (pc := 2) hG (dk dd_X10_restore 2 rfl) fl_X10_62 sh_67 rfl rfl ?_
    refine V_iload_n (pc := 5) hG (dk dd_X10_restore 3 rfl) rfl ?_
    refine V_i2l (pc := 6) hG (dk dd_X10_restore 4 rfl) ?_
    refine V_lconst (pc := 7) hG (dk dd_X10_restore 5 rfl) (v := 0) (by decide) ?_
    refine V_lconst (pc := 8) hG (dk dd_X10_restore 6 rfl) (v := 1) (by decide) ?_
    refine V_callSip (pc := 9) hG (dk dd_X10_restore 7 rfl) ml_X10_72 mo_X10_in (m_inI (v := k) (lo := 0) (hi := 1) rfl rfl (by decide)) (by decide) (by decide) rfl rfl rfl (fun x9 m9 p9 => ?_)
    refine V_if_ne (pc := 12) hG (dk dd_X10_restore 8 rfl) (tgt := 18) (by decide) (fun h12 => ?_) (fun h12 => ?_)
    refine V_aload_n (pc := 18) hG (dk dd_X10_restore 11 rfl) rfl ?_
    refine V_getR (pc := 19) hG (dk dd_X10_restore 12 rfl) fl_X10_53 sh_67 rfl ?_
    refine V_iload_n (pc := 22) hG (dk dd_X10_restore 13 rfl) rfl ?_
    refine V_zald (pc := 23) hG (dk dd_X10_restore 14 rfl) sh_82 rk ?_
    refine V_if_ne (pc := 24) hG (dk dd_X10_restore 15 rfl) (tgt := 30) (by decide) (fun h24 => ?_) (fun h24 => ?_)
    refine V_iconst (pc := 30) hG (dk dd_X10_restore 18 rfl) (v := 0) (by decide) ?_
    refine V_istore_n (pc := 31) hG (dk dd_X10_restore 19 rfl) (by decide) (lv' := [(0, _), (1, _), (2, _)]) rfl ?_
    rotate_left
    refine V_ldc (pc := 27) hG (dk dd_X10_restore 16 rfl) kk_X10_210 ?_
    refine V_iretP (pc := 29) hG (dk dd_X10_restore 17 rfl) hR (Pi.mk ?_)
    rotate_left
    rotate_left
    -- leaves: stop 32; return@29; stop 15
    · rw [p9.1, ck] at h24
      rw [p9.1]
      exact loop h24 46 0 _ (by omega) rfl (fun q hq => by omega) (fun j a b => th0_n a)
    · rw [p9.1, ck] at h24
      exact Or.inr ⟨K, hkK, K2, Or.inl ⟨h24, rfl, p9.1⟩⟩
    · exact absurd (i2c.mpr hk) (p9.2.no h12)
  · skip
    refine V_aload_n (pc := 0) hG (dk dd_X10_restore 0 rfl) rfl ?_
    refine V_iconst (pc := 1) hG (dk dd_X10_restore 1 rfl) (v := 0) (by decide) ?_
    refine V_putI (pc := 2) hG (dk dd_X10_restore 2 rfl) fl_X10_62 sh_67 rfl rfl ?_
    refine V_iload_n (pc := 5) hG (dk dd_X10_restore 3 rfl) rfl ?_
    refine V_i2l (pc := 6) hG (dk dd_X10_restore 4 rfl) ?_
    refine V_lconst (pc := 7) hG (dk dd_X10_restore 5 rfl) (v := 0) (by decide) ?_
    refine V_lconst (pc := 8) hG (dk dd_X10_restore 6 rfl) (v := 1) (by decide) ?_
    refine V_callSip (pc := 9) hG (dk dd_X10_restore 7 rfl) ml_X10_72 mo_X10_in (m_inI (v := k) (lo := 0) (hi := 1) rfl rfl (by decide)) (by decide) (by decide) rfl rfl rfl (fun x9 m9 p9 => ?_)
    refine V_if_ne (pc := 12) hG (dk dd_X10_restore 8 rfl) (tgt := 18) (by decide) (fun h12 => ?_) (fun h12 => ?_)
    rotate_left
    refine V_ldc (pc := 15) hG (dk dd_X10_restore 9 rfl) kk_X10_82 ?_
    refine V_iretP (pc := 17) hG (dk dd_X10_restore 10 rfl) hR (Pi.mk ?_)
    rotate_left
    -- leaves: stop 18; return@17
    · exact absurd (i2c.mp (p9.2.yes h12)) hk
    · exact Or.inl ⟨hk, rfl, p9.1⟩
def kinF (α : Al) (x : Int32) : Int32 := if inN x (α 0 6) then nI (α 1 x.toNatClampNeg) else -1000001
theorem e_k {μ : Mem} {α : Al} (hA : Abs (kap (μ 71)) α) {h : Nat} (hh : h < α 0 6) : μ 71 (8 + 3 * h + 0) = nI (α 1 h) := by have := hA.2.1 1 h (by decide) (by decide) hh; rw [kap_h (by decide) (by decide)] at this; rw [show 8 + 3 * h + 0 = 7 + 3 * h + 1 by omega]; exact this
theorem e_t {μ : Mem} {α : Al} (hA : Abs (kap (μ 71)) α) {h : Nat} (hh : h < α 0 6) : μ 71 (8 + 3 * h + 1) = nI (α 2 h) := by have := hA.2.1 2 h (by decide) (by decide) hh; rw [kap_h (by decide) (by decide)] at this; rw [show 8 + 3 * h + 1 = 7 + 3 * h + 2 by omega]; exact this
theorem m_kind {μ : Mem} {α : Al} (hA : Abs (kap (μ 71)) α) (hz : Vz α) {x : Int32} : CtP yX10_kind cX10_kind 2 (some .int) 2 [vR 67, vI x] μ (Pi (fun r μ' => r = kinF α x ∧ μ' = th0 μ)) := by
  refine CtP.go RX10 rfl pn_X10 (Nat.le_of_ble_eq_true rfl) (fun C hG hR => ?_)
  have hH := hz.H
  have e3 : th0 μ 71 3 = nI (α 0 6) := e_sc hA (i := 6) (by decide)
  by_cases hi : inN x (α 0 6)
  · obtain ⟨hx, hh⟩ := hi.n (by omega)
    refine V_aload_n (pc := 0) hG (dk dd_X10_kind 0 rfl) rfl ?_
    refine V_iconst (pc := 1) hG (dk dd_X10_kind 1 rfl) (v := 0) (by decide) ?_
    refine V_putI (pc := 2) hG (dk dd_X10_kind 2 rfl) fl_X10_62 sh_67 rfl rfl ?_
    refine V_aload_n (pc := 5) hG (dk dd_X10_kind 3 rfl) rfl ?_
    refine V_iload_n (pc := 6) hG (dk dd_X10_kind 4 rfl) rfl ?_
    refine V_callVip (pc := 7) hG (dk dd_X10_kind 5 rfl) ml_X10_201 mo_X10_isHum sh_67 rfl (m_isHum (n := α 0 6) (by omega) e3) (by decide) (by decide) rfl rfl rfl (fun x7 m7 p7 => ?_)
    refine V_if_eq (pc := 10) hG (dk dd_X10_kind 6 rfl) (tgt := 25) (by decide) (fun h10 => ?_) (fun h10 => ?_)
    rotate_left
    refine V_aload_n (pc := 13) hG (dk dd_X10_kind 7 rfl) rfl ?_
    refine V_getR (pc := 14) hG (dk dd_X10_kind 8 rfl) fl_X10_19 sh_67 rfl ?_
    refine V_iload_n (pc := 17) hG (dk dd_X10_kind 9 rfl) rfl ?_
    refine V_iconst (pc := 18) hG (dk dd_X10_kind 10 rfl) (v := 0) (by decide) ?_
    refine V_callSip (pc := 19) hG (dk dd_X10_kind 11 rfl) ml_X10_177 mo_X10_of (m_of sh_71 hx (by omega) (v := 0) rfl (by decide)) (by decide) (by decide) rfl rfl rfl (fun x19 m19 p19 => ?_)
    refine V_goto (pc := 22) hG (dk dd_X10_kind 12 rfl) (tgt := 27) (by decide) ?_
    refine V_iretP (pc := 27) hG (dk dd_X10_kind 14 rfl) hR (Pi.mk ?_)
    rotate_left
    -- leaves: stop 25; return@27
    · exact absurd hi (p7.2.no h10)
    · refine ⟨?_, p19.1.trans p7.1⟩
      rw [p19.2, p7.1]; unfold kinF; rw [if_pos hi]; exact e_k hA hh
  · skip
    refine V_aload_n (pc := 0) hG (dk dd_X10_kind 0 rfl) rfl ?_
    refine V_iconst (pc := 1) hG (dk dd_X10_kind 1 rfl) (v := 0) (by decide) ?_
    refine V_putI (pc := 2) hG (dk dd_X10_kind 2 rfl) fl_X10_62 sh_67 rfl rfl ?_
    refine V_aload_n (pc := 5) hG (dk dd_X10_kind 3 rfl) rfl ?_
    refine V_iload_n (pc := 6) hG (dk dd_X10_kind 4 rfl) rfl ?_
    refine V_callVip (pc := 7) hG (dk dd_X10_kind 5 rfl) ml_X10_201 mo_X10_isHum sh_67 rfl (m_isHum (n := α 0 6) (by omega) e3) (by decide) (by decide) rfl rfl rfl (fun x7 m7 p7 => ?_)
    refine V_if_eq (pc := 10) hG (dk dd_X10_kind 6 rfl) (tgt := 25) (by decide) (fun h10 => ?_) (fun h10 => ?_)
    refine V_ldc (pc := 25) hG (dk dd_X10_kind 13 rfl) kk_X10_82 ?_
    refine V_iretP (pc := 27) hG (dk dd_X10_kind 14 rfl) hR (Pi.mk ?_)
    rotate_left
    rotate_left
    -- leaves: return@27; stop 13
    · refine ⟨?_, p7.1⟩
      unfold kinF; rw [if_neg hi]
    · exact absurd (p7.2.yes h10) hi
def IsA (κ : Nat) (w : Int32) : Prop := w = 0 ∨ w = nI κ ∨ (w = 1 ∧ κ < 4) ∨ (w = 4 ∧ κ = 5)
theorem m_isOf {μ : Mem} {x w : Int32} {κ : Nat} (hx : x = nI κ) (hk : κ < 6) : CtP yX10_isOf cX10_isOf 2 (some .boolean) 0 [vI x, vI w] μ (Pi (fun r μ' => μ' = μ ∧ is1 r (IsA κ w))) := by
  refine CtP.go RX10 rfl pn_X10 (Nat.le_of_ble_eq_true rfl) (fun C hG hR => ?_)
  have l4 : x < 4 ↔ κ < 4 := by rw [hx]; exact nI_ltI (b := 4) (by omega) (by decide)
  have q5 : x = 5 ↔ κ = 5 := by rw [hx]; exact nI_eq (b := 5) (by omega) (by decide)
  refine V_iload_n (pc := 0) hG (dk dd_X10_isOf 0 rfl) rfl ?_
  refine V_if_eq (pc := 1) hG (dk dd_X10_isOf 1 rfl) (tgt := 29) (by decide) (fun h1 => ?_) (fun h1 => ?_)
  refine V_iconst (pc := 29) hG (dk dd_X10_isOf 17 rfl) (v := 1) (by decide) ?_
  refine V_goto (pc := 30) hG (dk dd_X10_isOf 18 rfl) (tgt := 34) (by decide) ?_
  refine V_zretP (pc := 34) hG (dk dd_X10_isOf 20 rfl) (by decide) hR (Pi.mk ?_)
  rotate_left
  refine V_iload_n (pc := 4) hG (dk dd_X10_isOf 2 rfl) rfl ?_
  refine V_iload_n (pc := 5) hG (dk dd_X10_isOf 3 rfl) rfl ?_
  refine V_icmp_eq (pc := 6) hG (dk dd_X10_isOf 4 rfl) (tgt := 29) (by decide) (fun h6 => ?_) (fun h6 => ?_)
  refine V_iconst (pc := 29) hG (dk dd_X10_isOf 17 rfl) (v := 1) (by decide) ?_
  refine V_goto (pc := 30) hG (dk dd_X10_isOf 18 rfl) (tgt := 34) (by decide) ?_
  refine V_zretP (pc := 34) hG (dk dd_X10_isOf 20 rfl) (by decide) hR (Pi.mk ?_)
  rotate_left
  refine V_iload_n (pc := 9) hG (dk dd_X10_isOf 5 rfl) rfl ?_
  refine V_iconst (pc := 10) hG (dk dd_X10_isOf 6 rfl) (v := 1) (by decide) ?_
  refine V_icmp_ne (pc := 11) hG (dk dd_X10_isOf 7 rfl) (tgt := 19) (by decide) (fun h11 => ?_) (fun h11 => ?_)
  refine V_iload_n (pc := 19) hG (dk dd_X10_isOf 11 rfl) rfl ?_
  refine V_iconst (pc := 20) hG (dk dd_X10_isOf 12 rfl) (v := 4) (by decide) ?_
  refine V_icmp_ne (pc := 21) hG (dk dd_X10_isOf 13 rfl) (tgt := 33) (by decide) (fun h21 => ?_) (fun h21 => ?_)
  refine V_iconst (pc := 33) hG (dk dd_X10_isOf 19 rfl) (v := 0) (by decide) ?_
  refine V_zretP (pc := 34) hG (dk dd_X10_isOf 20 rfl) (by decide) hR (Pi.mk ?_)
  rotate_left
  refine V_iload_n (pc := 24) hG (dk dd_X10_isOf 14 rfl) rfl ?_
  refine V_iconst (pc := 25) hG (dk dd_X10_isOf 15 rfl) (v := 5) (by decide) ?_
  refine V_icmp_ne (pc := 26) hG (dk dd_X10_isOf 16 rfl) (tgt := 33) (by decide) (fun h26 => ?_) (fun h26 => ?_)
  refine V_iconst (pc := 33) hG (dk dd_X10_isOf 19 rfl) (v := 0) (by decide) ?_
  refine V_zretP (pc := 34) hG (dk dd_X10_isOf 20 rfl) (by decide) hR (Pi.mk ?_)
  rotate_left
  refine V_iconst (pc := 29) hG (dk dd_X10_isOf 17 rfl) (v := 1) (by decide) ?_
  refine V_goto (pc := 30) hG (dk dd_X10_isOf 18 rfl) (tgt := 34) (by decide) ?_
  refine V_zretP (pc := 34) hG (dk dd_X10_isOf 20 rfl) (by decide) hR (Pi.mk ?_)
  rotate_left
  refine V_iload_n (pc := 14) hG (dk dd_X10_isOf 8 rfl) rfl ?_
  refine V_iconst (pc := 15) hG (dk dd_X10_isOf 9 rfl) (v := 4) (by decide) ?_
  refine V_icmp_lt (pc := 16) hG (dk dd_X10_isOf 10 rfl) (tgt := 29) (by decide) (fun h16 => ?_) (fun h16 => ?_)
  refine V_iconst (pc := 29) hG (dk dd_X10_isOf 17 rfl) (v := 1) (by decide) ?_
  refine V_goto (pc := 30) hG (dk dd_X10_isOf 18 rfl) (tgt := 34) (by decide) ?_
  refine V_zretP (pc := 34) hG (dk dd_X10_isOf 20 rfl) (by decide) hR (Pi.mk ?_)
  rotate_left
  refine V_iload_n (pc := 19) hG (dk dd_X10_isOf 11 rfl) rfl ?_
  refine V_iconst (pc := 20) hG (dk dd_X10_isOf 12 rfl) (v := 4) (by decide) ?_
  refine V_icmp_ne (pc := 21) hG (dk dd_X10_isOf 13 rfl) (tgt := 33) (by decide) (fun h21 => ?_) (fun h21 => ?_)
  refine V_iconst (pc := 33) hG (dk dd_X10_isOf 19 rfl) (v := 0) (by decide) ?_
  refine V_zretP (pc := 34) hG (dk dd_X10_isOf 20 rfl) (by decide) hR (Pi.mk ?_)
  rotate_left
  refine V_iload_n (pc := 24) hG (dk dd_X10_isOf 14 rfl) rfl ?_
  refine V_iconst (pc := 25) hG (dk dd_X10_isOf 15 rfl) (v := 5) (by decide) ?_
  refine V_icmp_ne (pc := 26) hG (dk dd_X10_isOf 16 rfl) (tgt := 33) (by decide) (fun h26 => ?_) (fun h26 => ?_)
  refine V_iconst (pc := 33) hG (dk dd_X10_isOf 19 rfl) (v := 0) (by decide) ?_
  refine V_zretP (pc := 34) hG (dk dd_X10_isOf 20 rfl) (by decide) hR (Pi.mk ?_)
  rotate_left
  refine V_iconst (pc := 29) hG (dk dd_X10_isOf 17 rfl) (v := 1) (by decide) ?_
  refine V_goto (pc := 30) hG (dk dd_X10_isOf 18 rfl) (tgt := 34) (by decide) ?_
  refine V_zretP (pc := 34) hG (dk dd_X10_isOf 20 rfl) (by decide) hR (Pi.mk ?_)
  rotate_left
  -- leaves: return@34; return@34; return@34; return@34; return@34; return@34; return@34; return@34; return@34
  · exact ⟨rfl, is1.t (Or.inl h1)⟩
  · exact ⟨rfl, is1.t (Or.inr (Or.inl (by rw [← hx]; exact h6.symm)))⟩
  · refine ⟨rfl, is1.f ?_⟩
    rintro (q | q | q | q)
    · exact h1 q
    · exact h6 (by rw [hx, q])
    · exact h11 q.1
    · exact h21 q.1
  · refine ⟨rfl, is1.f ?_⟩
    rintro (q | q | q | q)
    · exact h1 q
    · exact h6 (by rw [hx, q])
    · exact h11 q.1
    · exact h26 (q5.mpr q.2)
  · exact ⟨rfl, is1.t (Or.inr (Or.inr (Or.inr ⟨h21, q5.mp h26⟩)))⟩
  · exact ⟨rfl, is1.t (Or.inr (Or.inr (Or.inl ⟨h11, l4.mp h16⟩)))⟩
  · refine ⟨rfl, is1.f ?_⟩
    rintro (q | q | q | q)
    · exact h1 q
    · exact h6 (by rw [hx, q])
    · exact h16 (l4.mpr q.2)
    · exact h21 q.1
  · exact ⟨rfl, is1.f (fun _ => by rw [h11] at h21; exact absurd h21 (by decide))⟩
  · rw [h11] at h21; exact absurd h21 (by decide)
def AsR (α : Al) (x w r : Int32) (o : Option Int32) : Prop := (¬ (inN x (α 0 6) ∧ (0 ≤ w ∧ w ≤ 5)) ∧ r = -1000001 ∧ o = none) ∨ ((inN x (α 0 6) ∧ (0 ≤ w ∧ w ≤ 5)) ∧ ((IsA (α 1 x.toNatClampNeg) w ∧ r = x ∧ o = some 0) ∨ (¬ IsA (α 1 x.toNatClampNeg) w ∧ r = -1000010 - 3 ∧ o = some 3)))
theorem m_as {μ : Mem} {α : Al} (hA : Abs (kap (μ 71)) α) (hz : Vz α) {x w : Int32} : CtP yX10_as cX10_as 3 (some .int) 2 [vR 67, vI x, vI w] μ (Pi (fun r μ' => ∃ o, AsR α x w r o ∧ FrM μ o μ')) := by
  refine CtP.go RX10 rfl pn_X10 (Nat.le_of_ble_eq_true rfl) (fun C hG hR => ?_)
  have hH := hz.H
  have e3 : th0 μ 71 3 = nI (α 0 6) := e_sc hA (i := 6) (by decide)
  by_cases hi : inN x (α 0 6) ∧ (0 ≤ w ∧ w ≤ 5)
  · obtain ⟨hx, hh⟩ := hi.1.n (by omega)
    have hv := hz.vh hh
    have k5 := (hv.h hh).2.1
    have s0 : setc (th0 μ) 67 (upd (th0 μ 67) 1 0) = stM (th0 μ) 0 := rfl
    refine V_aload_n (pc := 0) hG (dk dd_X10_as 0 rfl) rfl ?_
    refine V_iconst (pc := 1) hG (dk dd_X10_as 1 rfl) (v := 0) (by decide) ?_
    refine V_putI (pc := 2) hG (dk dd_X10_as 2 rfl) fl_X10_62 sh_67 rfl rfl ?_
    refine V_aload_n (pc := 5) hG (dk dd_X10_as 3 rfl) rfl ?_
    refine V_iload_n (pc := 6) hG (dk dd_X10_as 4 rfl) rfl ?_
    refine V_callVip (pc := 7) hG (dk dd_X10_as 5 rfl) ml_X10_201 mo_X10_isHum sh_67 rfl (m_isHum (n := α 0 6) (by omega) e3) (by decide) (by decide) rfl rfl rfl (fun x7 m7 p7 => ?_)
    refine V_if_eq (pc := 10) hG (dk dd_X10_as 6 rfl) (tgt := 25) (by decide) (fun h10 => ?_) (fun h10 => ?_)
    rotate_left
    refine V_iload_n (pc := 13) hG (dk dd_X10_as 7 rfl) rfl ?_
    refine V_i2l (pc := 14) hG (dk dd_X10_as 8 rfl) ?_
    refine V_lconst (pc := 15) hG (dk dd_X10_as 9 rfl) (v := 0) (by decide) ?_
    refine V_ldc2_w (pc := 16) hG (dk dd_X10_as 10 rfl) kk_X10_285 ?_
    refine V_callSip (pc := 19) hG (dk dd_X10_as 11 rfl) ml_X10_72 mo_X10_in (m_inI (v := w) (lo := 0) (hi := 5) rfl rfl (by decide)) (by decide) (by decide) rfl rfl rfl (fun x19 m19 p19 => ?_)
    refine V_if_ne (pc := 22) hG (dk dd_X10_as 12 rfl) (tgt := 28) (by decide) (fun h22 => ?_) (fun h22 => ?_)
    refine V_aload_n (pc := 28) hG (dk dd_X10_as 15 rfl) rfl ?_
    refine V_iconst (pc := 29) hG (dk dd_X10_as 16 rfl) (v := 0) (by decide) ?_
    refine V_putI (pc := 30) hG (dk dd_X10_as 17 rfl) fl_X10_66 sh_67 rfl rfl ?_
    refine V_aload_n (pc := 33) hG (dk dd_X10_as 18 rfl) rfl ?_
    refine V_getR (pc := 34) hG (dk dd_X10_as 19 rfl) fl_X10_19 sh_67 rfl ?_
    refine V_iload_n (pc := 37) hG (dk dd_X10_as 20 rfl) rfl ?_
    refine V_iconst (pc := 38) hG (dk dd_X10_as 21 rfl) (v := 0) (by decide) ?_
    refine V_callSip (pc := 39) hG (dk dd_X10_as 22 rfl) ml_X10_177 mo_X10_of (m_of sh_71 hx (by omega) (v := 0) rfl (by decide)) (by decide) (by decide) rfl rfl rfl (fun x39 m39 p39 => ?_)
    refine V_iload_n (pc := 42) hG (dk dd_X10_as 23 rfl) rfl ?_
    refine V_callSip (pc := 43) hG (dk dd_X10_as 24 rfl) ml_X10_287 mo_X10_isOf (m_isOf (κ := α 1 x.toNatClampNeg) (by rw [p39.2, p19.1, p7.1]; exact e_k hA hh) (by omega)) (by decide) (by decide) rfl rfl rfl (fun x43 m43 p43 => ?_)
    refine V_if_eq (pc := 46) hG (dk dd_X10_as 25 rfl) (tgt := 53) (by decide) (fun h46 => ?_) (fun h46 => ?_)
    refine V_aload_n (pc := 53) hG (dk dd_X10_as 28 rfl) rfl ?_
    refine V_iconst (pc := 54) hG (dk dd_X10_as 29 rfl) (v := 3) (by decide) ?_
    refine V_callVip (pc := 55) hG (dk dd_X10_as 30 rfl) ml_X10_83 mo_X10_finding sh_67 rfl (m_finding) (by decide) (by decide) rfl rfl rfl (fun x55 m55 p55 => ?_)
    refine V_iretP (pc := 58) hG (dk dd_X10_as 31 rfl) hR (Pi.mk ?_)
    rotate_left
    refine V_iload_n (pc := 49) hG (dk dd_X10_as 26 rfl) rfl ?_
    refine V_goto (pc := 50) hG (dk dd_X10_as 27 rfl) (tgt := 58) (by decide) ?_
    refine V_iretP (pc := 58) hG (dk dd_X10_as 31 rfl) hR (Pi.mk ?_)
    rotate_left
    rotate_left
    -- leaves: stop 25; return@58; return@58; stop 25
    all_goals (first | exact absurd hi.1 (p7.2.no h10) | exact absurd hi.2 (p19.2.no h22) | skip)
    · have em : m19 = th0 μ := p19.1.trans p7.1
      rw [em] at p39
      obtain ⟨b1, b2⟩ := p55
      refine ⟨some 3, Or.inr ⟨hi, Or.inr ⟨p43.2.no h46, b2, rfl⟩⟩, ?_⟩
      rw [b1, p43.1, p39.1]
      have : setc (setc (th0 μ) 67 (upd (th0 μ 67) 1 0)) 67 (upd (setc (th0 μ) 67 (upd (th0 μ 67) 1 0) 67) 1 3) = stM (th0 μ) 3 := by unfold stM; rw [setc_c, setc_s, upd_upd]
      rw [this]; exact FrM.st μ 3
    · have em : m19 = th0 μ := p19.1.trans p7.1
      rw [em] at p39
      refine ⟨some 0, Or.inr ⟨hi, Or.inl ⟨p43.2.yes h46, rfl, rfl⟩⟩, ?_⟩
      rw [p43.1, p39.1]; exact FrM.st μ 0
  · skip
    refine V_aload_n (pc := 0) hG (dk dd_X10_as 0 rfl) rfl ?_
    refine V_iconst (pc := 1) hG (dk dd_X10_as 1 rfl) (v := 0) (by decide) ?_
    refine V_putI (pc := 2) hG (dk dd_X10_as 2 rfl) fl_X10_62 sh_67 rfl rfl ?_
    refine V_aload_n (pc := 5) hG (dk dd_X10_as 3 rfl) rfl ?_
    refine V_iload_n (pc := 6) hG (dk dd_X10_as 4 rfl) rfl ?_
    refine V_callVip (pc := 7) hG (dk dd_X10_as 5 rfl) ml_X10_201 mo_X10_isHum sh_67 rfl (m_isHum (n := α 0 6) (by omega) e3) (by decide) (by decide) rfl rfl rfl (fun x7 m7 p7 => ?_)
    refine V_if_eq (pc := 10) hG (dk dd_X10_as 6 rfl) (tgt := 25) (by decide) (fun h10 => ?_) (fun h10 => ?_)
    refine V_ldc (pc := 25) hG (dk dd_X10_as 13 rfl) kk_X10_82 ?_
    refine V_iretP (pc := 27) hG (dk dd_X10_as 14 rfl) hR (Pi.mk ?_)
    rotate_left
    refine V_iload_n (pc := 13) hG (dk dd_X10_as 7 rfl) rfl ?_
    refine V_i2l (pc := 14) hG (dk dd_X10_as 8 rfl) ?_
    refine V_lconst (pc := 15) hG (dk dd_X10_as 9 rfl) (v := 0) (by decide) ?_
    refine V_ldc2_w (pc := 16) hG (dk dd_X10_as 10 rfl) kk_X10_285 ?_
    refine V_callSip (pc := 19) hG (dk dd_X10_as 11 rfl) ml_X10_72 mo_X10_in (m_inI (v := w) (lo := 0) (hi := 5) rfl rfl (by decide)) (by decide) (by decide) rfl rfl rfl (fun x19 m19 p19 => ?_)
    refine V_if_ne (pc := 22) hG (dk dd_X10_as 12 rfl) (tgt := 28) (by decide) (fun h22 => ?_) (fun h22 => ?_)
    rotate_left
    refine V_ldc (pc := 25) hG (dk dd_X10_as 13 rfl) kk_X10_82 ?_
    refine V_iretP (pc := 27) hG (dk dd_X10_as 14 rfl) hR (Pi.mk ?_)
    rotate_left
    -- leaves: return@27; stop 28; return@27
    · exact ⟨none, Or.inl ⟨hi, rfl, rfl⟩, by rw [p7.1]; exact FrM.th μ⟩
    · exact absurd ⟨p7.2.yes h10, p19.2.yes h22⟩ hi
    · exact ⟨none, Or.inl ⟨hi, rfl, rfl⟩, by rw [p19.1, p7.1]; exact FrM.th μ⟩
def TrM (μ : Mem) (l : List Nat) : Prop := μ 67 30 = nI l.length ∧ ∀ k, k < l.length → μ 84 k = nI (l.getD k 0)
def OffA (μ μ' : Mem) : Prop := (∀ j, j ≠ 67 → j ≠ 84 → μ' j = μ j) ∧ ∀ q, q ≠ 30 → μ' 67 q = μ 67 q
theorem OffA.tr {a b c : Mem} (h : OffA a b) (k : OffA b c) : OffA a c := ⟨fun j x y => (k.1 j x y).trans (h.1 j x y), fun q x => (k.2 q x).trans (h.2 q x)⟩
theorem OffA.c {a b : Mem} (h : OffA a b) : b 71 = a 71 := h.1 71 (by decide) (by decide)
theorem m_began0 {μ : Mem} {x : Int32} {l : List Nat} {b : Nat} (hT : TrM μ l) (hl : l.length < 16) (hx : x = nI b) : CtP yX10_began0 cX10_began0 2 none 0 [vR 67, vI x] μ (Pv (fun μ' => TrM μ' (l ++ [b]) ∧ OffA μ μ')) := by
  refine CtP.go RX10 rfl pn_X10 (Nat.le_of_ble_eq_true rfl) (fun C hG hR => ?_)
  refine V_aload_n (pc := 0) hG (dk dd_X10_began0 0 rfl) rfl ?_
  refine V_getI (pc := 1) hG (dk dd_X10_began0 1 rfl) fl_X10_290 sh_67 rfl ?_
  refine V_bipush (pc := 4) hG (dk dd_X10_began0 2 rfl) (v := 16) (by decide) ?_
  refine V_icmp_ge (pc := 6) hG (dk dd_X10_began0 3 rfl) (tgt := 29) (by decide) (fun h6 => ?_) (fun h6 => ?_)
  refine V_vretP (pc := 29) hG (dk dd_X10_began0 16 rfl) hR (Pv.mk ?_)
  rotate_left
  refine V_aload_n (pc := 9) hG (dk dd_X10_began0 4 rfl) rfl ?_
  refine V_getR (pc := 10) hG (dk dd_X10_began0 5 rfl) fl_X10_59 sh_67 rfl ?_
  refine V_aload_n (pc := 13) hG (dk dd_X10_began0 6 rfl) rfl ?_
  refine V_getI (pc := 14) hG (dk dd_X10_began0 7 rfl) fl_X10_290 sh_67 rfl ?_
  refine V_iload_n (pc := 17) hG (dk dd_X10_began0 8 rfl) rfl ?_
  refine V_iast (pc := 18) hG (dk dd_X10_began0 9 rfl) sh_84 (by rw [hT.1]; exact vp_in_nI hl (by decide)) ?_
  refine V_aload_n (pc := 19) hG (dk dd_X10_began0 10 rfl) rfl ?_
  refine V_dup (pc := 20) hG (dk dd_X10_began0 11 rfl) rfl ?_
  refine V_getI (pc := 21) hG (dk dd_X10_began0 12 rfl) fl_X10_290 sh_67 rfl ?_
  refine V_iconst (pc := 24) hG (dk dd_X10_began0 13 rfl) (v := 1) (by decide) ?_
  refine V_iadd (pc := 25) hG (dk dd_X10_began0 14 rfl) ?_
  refine V_putI (pc := 26) hG (dk dd_X10_began0 15 rfl) fl_X10_290 sh_67 rfl rfl ?_
  refine V_vretP (pc := 29) hG (dk dd_X10_began0 16 rfl) hR (Pv.mk ?_)
  rotate_left
  -- leaves: return@29; return@29
  · exfalso; rw [hT.1] at h6; have := le_i (a := 16) h6 (by omega) (by omega); omega
  · have cl : (μ 67 30).toNatClampNeg = l.length := nI_cl hT.1 (by omega); rw [cl]; refine ⟨⟨?_, fun k hk => ?_⟩, fun j a b => by rw [setc_n a, setc_n b], fun q hq => by rw [setc_s, upd_n hq, setc_n (by decide)]⟩; (rw [setc_s, upd_s, setc_n (by decide), hT.1, nI_1, List.length_append]; rfl); (rw [setc_n (by decide), setc_s]; by_cases z : k = l.length; (rw [z, upd_s, hx, getD_la]); (rw [List.length_append, List.length_singleton] at hk; rw [upd_n z, getD_ap (by omega)]; exact hT.2 k (by omega)))
theorem m_plainSize {μ : Mem} {α : Al} (hA : Abs (kap (μ 71)) α) (hv : Val α) {h : Nat} (hh : h < α 0 6) {x : Int32} (hx : x = nI h) {l : List Nat} (hT : TrM μ l) (hl : l.length < 16) : CtP yX10_plainSize cX10_plainSize 2 (some .int) 1 [vR 67, vI x] μ (Pi (fun r μ' => r = nI (α 2 h) ∧ TrM μ' (l ++ [10]) ∧ OffA μ μ')) := by
  refine CtP.go RX10 rfl pn_X10 (Nat.le_of_ble_eq_true rfl) (fun C hG hR => ?_)
  have hH := hv.H
  refine V_aload_n (pc := 0) hG (dk dd_X10_plainSize 0 rfl) rfl ?_
  refine V_bipush (pc := 1) hG (dk dd_X10_plainSize 1 rfl) (v := 10) (by decide) ?_
  refine V_callVvp (pc := 3) hG (dk dd_X10_plainSize 2 rfl) ml_X10_293 mo_X10_began0 sh_67 rfl (m_began0 hT hl (b := 10) rfl) (by decide) (by decide) rfl rfl rfl (fun m3 p3 => ?_)
  refine V_aload_n (pc := 6) hG (dk dd_X10_plainSize 3 rfl) rfl ?_
  refine V_getR (pc := 7) hG (dk dd_X10_plainSize 4 rfl) fl_X10_19 sh_67 rfl ?_
  refine V_iload_n (pc := 10) hG (dk dd_X10_plainSize 5 rfl) rfl ?_
  refine V_iconst (pc := 11) hG (dk dd_X10_plainSize 6 rfl) (v := 1) (by decide) ?_
  refine V_callSip (pc := 12) hG (dk dd_X10_plainSize 7 rfl) ml_X10_177 mo_X10_of (m_of sh_71 hx (by omega) (v := 1) rfl (by decide)) (by decide) (by decide) rfl rfl rfl (fun x12 m12 p12 => ?_)
  refine V_iretP (pc := 15) hG (dk dd_X10_plainSize 8 rfl) hR (Pi.mk ?_)
  rotate_left
  -- leaves: return@15
  · refine ⟨?_, by rw [p12.1]; exact p3.1, by rw [p12.1]; exact p3.2⟩
    rw [p12.2, p3.2.c]; exact e_t hA hh
theorem m_rainSize {μ : Mem} {α : Al} (hA : Abs (kap (μ 71)) α) (hv : Val α) {h : Nat} (hh : h < α 0 6) {x : Int32} (hx : x = nI h) {l : List Nat} (hT : TrM μ l) (hl : l.length < 13) : CtP yX10_rainSize cX10_rainSize 4 (some .int) 2 [vR 67, vI x] μ (Pi (fun r μ' => r = szR α h ∧ TrM μ' (l ++ szT α h) ∧ OffA μ μ')) := by
  refine CtP.go RX10 rfl pn_X10 (Nat.le_of_ble_eq_true rfl) (fun C hG hR => ?_)
  have hH := hv.H
  have k5 := (hv.h hh).2.1
  have ek := e_k hA hh
  have q5 : nI (α 1 h) = 5 ↔ α 1 h = 5 := nI_eq (b := 5) (by omega) (by decide)
  by_cases z5 : α 1 h = 5
  · skip
    refine V_aload_n (pc := 0) hG (dk dd_X10_rainSize 0 rfl) rfl ?_
    refine V_getR (pc := 1) hG (dk dd_X10_rainSize 1 rfl) fl_X10_19 sh_67 rfl ?_
    refine V_iload_n (pc := 4) hG (dk dd_X10_rainSize 2 rfl) rfl ?_
    refine V_iconst (pc := 5) hG (dk dd_X10_rainSize 3 rfl) (v := 0) (by decide) ?_
    refine V_callSip (pc := 6) hG (dk dd_X10_rainSize 4 rfl) ml_X10_177 mo_X10_of (m_of sh_71 hx (by omega) (v := 0) rfl (by decide)) (by decide) (by decide) rfl rfl rfl (fun x6 m6 p6 => ?_)
    refine V_iconst (pc := 9) hG (dk dd_X10_rainSize 5 rfl) (v := 5) (by decide) ?_
    refine V_icmp_ne (pc := 10) hG (dk dd_X10_rainSize 6 rfl) (tgt := 17) (by decide) (fun h10 => ?_) (fun h10 => ?_)
    rotate_left
    refine V_iconst (pc := 13) hG (dk dd_X10_rainSize 7 rfl) (v := 1) (by decide) ?_
    refine V_goto (pc := 14) hG (dk dd_X10_rainSize 8 rfl) (tgt := 18) (by decide) ?_
    refine V_istore_n (pc := 18) hG (dk dd_X10_rainSize 10 rfl) (by decide) (lv' := [(0, _), (1, _), (2, _)]) rfl ?_
    refine V_iload_n (pc := 19) hG (dk dd_X10_rainSize 11 rfl) rfl ?_
    refine V_if_eq (pc := 20) hG (dk dd_X10_rainSize 12 rfl) (tgt := 29) (by decide) (fun h20 => ?_) (fun h20 => ?_)
    rotate_left
    refine V_aload_n (pc := 23) hG (dk dd_X10_rainSize 13 rfl) rfl ?_
    refine V_bipush (pc := 24) hG (dk dd_X10_rainSize 14 rfl) (v := 14) (by decide) ?_
    refine V_callVvp (pc := 26) hG (dk dd_X10_rainSize 15 rfl) ml_X10_293 mo_X10_began0 sh_67 rfl (m_began0 (p6.1 ▸ hT) (by omega) (b := 14) rfl) (by decide) (by decide) rfl rfl rfl (fun m26 p26 => ?_)
    rotate_left
    -- leaves: stop 17; stop 29; stop 29
    · exfalso; rw [p6.2, ek] at h10; exact h10 (q5.mpr z5)
    · exact absurd h20 (by decide)
    · obtain ⟨e1, _⟩ := p6
      rw [e1] at p26
      refine V_aload_n (pc := 29) hG (dk dd_X10_rainSize 16 rfl) rfl ?_
      refine V_bipush (pc := 30) hG (dk dd_X10_rainSize 17 rfl) (v := 13) (by decide) ?_
      refine V_callVvp (pc := 32) hG (dk dd_X10_rainSize 18 rfl) ml_X10_293 mo_X10_began0 sh_67 rfl (m_began0 p26.1 (by rw [List.length_append]; simp; omega) (b := 13) rfl) (by decide) (by decide) rfl rfl rfl (fun m32 p32 => ?_)
      refine V_aload_n (pc := 35) hG (dk dd_X10_rainSize 19 rfl) rfl ?_
      refine V_iload_n (pc := 36) hG (dk dd_X10_rainSize 20 rfl) rfl ?_
      refine V_callVip (pc := 37) hG (dk dd_X10_rainSize 21 rfl) ml_X10_296 mo_X10_plainSize sh_67 rfl (m_plainSize (by rw [p32.2.c, p26.2.c]; exact hA) hv hh hx p32.1 (by simp only [List.length_append, List.length_singleton]; omega)) (by decide) (by decide) rfl rfl rfl (fun x37 m37 p37 => ?_)
      refine V_bipush (pc := 40) hG (dk dd_X10_rainSize 22 rfl) (v := 100) (by decide) ?_
      refine V_isub (pc := 42) hG (dk dd_X10_rainSize 23 rfl) ?_
      refine V_istore_n (pc := 43) hG (dk dd_X10_rainSize 24 rfl) (by decide) (lv' := [(0, _), (1, _), (2, _), (3, _)]) rfl ?_
      refine V_iload_n (pc := 44) hG (dk dd_X10_rainSize 25 rfl) rfl ?_
      refine V_if_eq (pc := 45) hG (dk dd_X10_rainSize 26 rfl) (tgt := 54) (by decide) (fun h45 => ?_) (fun h45 => ?_)
      refine V_iload_n (pc := 54) hG (dk dd_X10_rainSize 31 rfl) rfl ?_
      refine V_iretP (pc := 55) hG (dk dd_X10_rainSize 32 rfl) hR (Pi.mk ?_)
      rotate_left
      refine V_iconst (pc := 48) hG (dk dd_X10_rainSize 27 rfl) (v := 2) (by decide) ?_
      refine V_iload_n (pc := 49) hG (dk dd_X10_rainSize 28 rfl) rfl ?_
      refine V_imul (pc := 50) hG (dk dd_X10_rainSize 29 rfl) ?_
      refine V_goto (pc := 51) hG (dk dd_X10_rainSize 30 rfl) (tgt := 55) (by decide) ?_
      refine V_iretP (pc := 55) hG (dk dd_X10_rainSize 32 rfl) hR (Pi.mk ?_)
      rotate_left
      -- leaves: return@55; return@55
      · exact absurd h45 (by decide)
      · refine ⟨?_, ?_, (p26.2.tr p32.2).tr p37.2.2⟩
        · rw [p37.1]; unfold szR; rw [if_pos z5]
        · have := p37.2.1
          unfold szT; rw [if_pos z5]
          simpa using this
  · skip
    refine V_aload_n (pc := 0) hG (dk dd_X10_rainSize 0 rfl) rfl ?_
    refine V_getR (pc := 1) hG (dk dd_X10_rainSize 1 rfl) fl_X10_19 sh_67 rfl ?_
    refine V_iload_n (pc := 4) hG (dk dd_X10_rainSize 2 rfl) rfl ?_
    refine V_iconst (pc := 5) hG (dk dd_X10_rainSize 3 rfl) (v := 0) (by decide) ?_
    refine V_callSip (pc := 6) hG (dk dd_X10_rainSize 4 rfl) ml_X10_177 mo_X10_of (m_of sh_71 hx (by omega) (v := 0) rfl (by decide)) (by decide) (by decide) rfl rfl rfl (fun x6 m6 p6 => ?_)
    refine V_iconst (pc := 9) hG (dk dd_X10_rainSize 5 rfl) (v := 5) (by decide) ?_
    refine V_icmp_ne (pc := 10) hG (dk dd_X10_rainSize 6 rfl) (tgt := 17) (by decide) (fun h10 => ?_) (fun h10 => ?_)
    refine V_iconst (pc := 17) hG (dk dd_X10_rainSize 9 rfl) (v := 0) (by decide) ?_
    refine V_istore_n (pc := 18) hG (dk dd_X10_rainSize 10 rfl) (by decide) (lv' := [(0, _), (1, _), (2, _)]) rfl ?_
    refine V_iload_n (pc := 19) hG (dk dd_X10_rainSize 11 rfl) rfl ?_
    refine V_if_eq (pc := 20) hG (dk dd_X10_rainSize 12 rfl) (tgt := 29) (by decide) (fun h20 => ?_) (fun h20 => ?_)
    refine V_aload_n (pc := 29) hG (dk dd_X10_rainSize 16 rfl) rfl ?_
    refine V_bipush (pc := 30) hG (dk dd_X10_rainSize 17 rfl) (v := 13) (by decide) ?_
    refine V_callVvp (pc := 32) hG (dk dd_X10_rainSize 18 rfl) ml_X10_293 mo_X10_began0 sh_67 rfl (m_began0 (p6.1 ▸ hT) (by omega) (b := 13) rfl) (by decide) (by decide) rfl rfl rfl (fun m32 p32 => ?_)
    refine V_aload_n (pc := 35) hG (dk dd_X10_rainSize 19 rfl) rfl ?_
    refine V_iload_n (pc := 36) hG (dk dd_X10_rainSize 20 rfl) rfl ?_
    refine V_callVip (pc := 37) hG (dk dd_X10_rainSize 21 rfl) ml_X10_296 mo_X10_plainSize sh_67 rfl (m_plainSize (by rw [p32.2.c, p6.1]; exact hA) hv hh hx p32.1 (by simp only [List.length_append, List.length_singleton]; omega)) (by decide) (by decide) rfl rfl rfl (fun x37 m37 p37 => ?_)
    refine V_bipush (pc := 40) hG (dk dd_X10_rainSize 22 rfl) (v := 100) (by decide) ?_
    refine V_isub (pc := 42) hG (dk dd_X10_rainSize 23 rfl) ?_
    refine V_istore_n (pc := 43) hG (dk dd_X10_rainSize 24 rfl) (by decide) (lv' := [(0, _), (1, _), (2, _), (3, _)]) rfl ?_
    refine V_iload_n (pc := 44) hG (dk dd_X10_rainSize 25 rfl) rfl ?_
    refine V_if_eq (pc := 45) hG (dk dd_X10_rainSize 26 rfl) (tgt := 54) (by decide) (fun h45 => ?_) (fun h45 => ?_)
    refine V_iload_n (pc := 54) hG (dk dd_X10_rainSize 31 rfl) rfl ?_
    refine V_iretP (pc := 55) hG (dk dd_X10_rainSize 32 rfl) hR (Pi.mk ?_)
    rotate_left
    refine V_iconst (pc := 48) hG (dk dd_X10_rainSize 27 rfl) (v := 2) (by decide) ?_
    refine V_iload_n (pc := 49) hG (dk dd_X10_rainSize 28 rfl) rfl ?_
    refine V_imul (pc := 50) hG (dk dd_X10_rainSize 29 rfl) ?_
    refine V_goto (pc := 51) hG (dk dd_X10_rainSize 30 rfl) (tgt := 55) (by decide) ?_
    refine V_iretP (pc := 55) hG (dk dd_X10_rainSize 32 rfl) hR (Pi.mk ?_)
    rotate_left
    rotate_left
    rotate_left
    -- leaves: return@55; return@55; stop 23; stop 13
    · obtain ⟨e1, _⟩ := p6
      rw [e1] at p32
      refine ⟨?_, ?_, p32.2.tr p37.2.2⟩
      · rw [p37.1]; unfold szR; rw [if_neg z5]
      · have := p37.2.1
        unfold szT; rw [if_neg z5]
        simpa using this
    · exact absurd rfl h45
    · exact absurd rfl h20
    · exfalso; rw [p6.2, ek] at h10; exact z5 (q5.mp h10)
