/-! ===== the model: rows that are looked at; copy; sleep ===== -/
def lookS (ln mn : Nat → Int32) (n : Nat) (i k : Int32) : Int32 := if ln n = -1 then 1 else if 0 ≤ i ∧ 0 ≤ k ∧ k ≤ mn n ∧ i ≤ mn n - k then 0 else 2
/-- the rows as they can be -/
def Rok (ln mn : Nat → Int32) : Prop := ∀ n, n < 8 → (ln n = -1 ∨ 0 ≤ ln n) ∧ 0 ≤ mn n ∧ mn n ≤ 40
theorem Rok.lt {ln mn : Nat → Int32} (h : Rok ln mn) {n : Nat} (hn : n < 8) : ln n < 0 ↔ ln n = -1 := by
  have := (h n hn).1
  constructor
  · intro z; exact this.resolve_right (Int32.not_le.mpr z)
  · intro z; rw [z]; decide
theorem sum_gt {i c y : Int32} (hi : 0 ≤ i) (hc : 0 ≤ c) (hy : 0 ≤ y ∧ y ≤ 40) : (0 < lg_cmp (i.toInt64 + c.toInt64) y.toInt64) ↔ ¬ (c ≤ y ∧ i ≤ y - c) := by
  obtain ⟨a, ha, rfl⟩ := nI_of (Int32.not_lt.mpr hi)
  obtain ⟨b, hb, rfl⟩ := nI_of (Int32.not_lt.mpr hc)
  obtain ⟨d, hd, rfl⟩ := nI_of (Int32.not_lt.mpr hy.1)
  rw [lg_gt0, nI_l ha, nI_l hb, nI_l hd, lN_add, pk_lLT (by omega) (by omega), nI_leI hb hd]
  constructor
  · intro h q
    have e := q.2
    rw [pk_sub q.1, nI_leI ha (by omega)] at e
    have := q.1
    omega
  · intro h
    by_cases z : b ≤ d
    · have : ¬ a ≤ d - b := fun w => h ⟨z, by rw [pk_sub z, nI_leI ha (by omega)]; exact w⟩
      omega
    · omega
def stM (μ : Mem) (s : Int32) : Mem := setc μ 67 (upd (μ 67) 1 s)
def fnd (f : Int32) : Int32 := if f = 0 then 0 else -1000010 - f
theorem m_rowFound {μ : Mem} (hk : Rok (μ 68) (μ 69)) {x i k : Int32} {n : Nat} (hx : x = nI n) (hn : n < 8) (h0 : 0 ≤ k) : CtP yX10_rowFound cX10_rowFound 4 (some .int) 1 [vR 67, vI x, vI i, vI k] μ (Pi (fun r μ' => r = fnd (lookS (μ 68) (μ 69) n i k) ∧ μ' = stM μ (lookS (μ 68) (μ 69) n i k))) := by
  refine CtP.go RX10 rfl pn_X10 (Nat.le_of_ble_eq_true rfl) (fun C hG hR => ?_)
  have hr : vp_in x 8 := in_nI hx hn (by decide)
  have hc : x.toNatClampNeg = n := nI_cl hx (by omega)
  obtain ⟨k1, k2⟩ := hk n hn
  have lt := hk.lt hn
  refine V_aload_n (pc := 0) hG (dk dd_X10_rowFound 0 rfl) rfl ?_
  refine V_getR (pc := 1) hG (dk dd_X10_rowFound 1 rfl) fl_X10_7 sh_67 rfl ?_
  refine V_iload_n (pc := 4) hG (dk dd_X10_rowFound 2 rfl) rfl ?_
  refine V_iald (pc := 5) hG (dk dd_X10_rowFound 3 rfl) sh_68 hr ?_
  refine V_if_ge (pc := 6) hG (dk dd_X10_rowFound 4 rfl) (tgt := 15) (by decide) (fun h6 => ?_) (fun h6 => ?_)
  refine V_iload_n (pc := 15) hG (dk dd_X10_rowFound 9 rfl) rfl ?_
  refine V_if_lt (pc := 16) hG (dk dd_X10_rowFound 10 rfl) (tgt := 35) (by decide) (fun h16 => ?_) (fun h16 => ?_)
  refine V_aload_n (pc := 35) hG (dk dd_X10_rowFound 23 rfl) rfl ?_
  refine V_iconst (pc := 36) hG (dk dd_X10_rowFound 24 rfl) (v := 2) (by decide) ?_
  refine V_callVip (pc := 37) hG (dk dd_X10_rowFound 25 rfl) ml_X10_83 mo_X10_finding sh_67 rfl (m_finding) (by decide) (by decide) rfl rfl rfl (fun x37 m37 p37 => ?_)
  refine V_iretP (pc := 40) hG (dk dd_X10_rowFound 26 rfl) hR (Pi.mk ?_)
  rotate_left
  refine V_iload_n (pc := 19) hG (dk dd_X10_rowFound 11 rfl) rfl ?_
  refine V_i2l (pc := 20) hG (dk dd_X10_rowFound 12 rfl) ?_
  refine V_iload_n (pc := 21) hG (dk dd_X10_rowFound 13 rfl) rfl ?_
  refine V_i2l (pc := 22) hG (dk dd_X10_rowFound 14 rfl) ?_
  refine V_ladd (pc := 23) hG (dk dd_X10_rowFound 15 rfl) ?_
  refine V_aload_n (pc := 24) hG (dk dd_X10_rowFound 16 rfl) rfl ?_
  refine V_getR (pc := 25) hG (dk dd_X10_rowFound 17 rfl) fl_X10_13 sh_67 rfl ?_
  refine V_iload_n (pc := 28) hG (dk dd_X10_rowFound 18 rfl) rfl ?_
  refine V_iald (pc := 29) hG (dk dd_X10_rowFound 19 rfl) sh_69 hr ?_
  refine V_i2l (pc := 30) hG (dk dd_X10_rowFound 20 rfl) ?_
  refine V_lcmp (pc := 31) hG (dk dd_X10_rowFound 21 rfl) ?_
  refine V_if_le (pc := 32) hG (dk dd_X10_rowFound 22 rfl) (tgt := 41) (by decide) (fun h32 => ?_) (fun h32 => ?_)
  refine V_aload_n (pc := 41) hG (dk dd_X10_rowFound 27 rfl) rfl ?_
  refine V_iconst (pc := 42) hG (dk dd_X10_rowFound 28 rfl) (v := 0) (by decide) ?_
  refine V_putI (pc := 43) hG (dk dd_X10_rowFound 29 rfl) fl_X10_66 sh_67 rfl rfl ?_
  refine V_iconst (pc := 46) hG (dk dd_X10_rowFound 30 rfl) (v := 0) (by decide) ?_
  refine V_iretP (pc := 47) hG (dk dd_X10_rowFound 31 rfl) hR (Pi.mk ?_)
  rotate_left
  refine V_aload_n (pc := 35) hG (dk dd_X10_rowFound 23 rfl) rfl ?_
  refine V_iconst (pc := 36) hG (dk dd_X10_rowFound 24 rfl) (v := 2) (by decide) ?_
  refine V_callVip (pc := 37) hG (dk dd_X10_rowFound 25 rfl) ml_X10_83 mo_X10_finding sh_67 rfl (m_finding) (by decide) (by decide) rfl rfl rfl (fun x37 m37 p37 => ?_)
  refine V_iretP (pc := 40) hG (dk dd_X10_rowFound 26 rfl) hR (Pi.mk ?_)
  rotate_left
  refine V_aload_n (pc := 9) hG (dk dd_X10_rowFound 5 rfl) rfl ?_
  refine V_iconst (pc := 10) hG (dk dd_X10_rowFound 6 rfl) (v := 1) (by decide) ?_
  refine V_callVip (pc := 11) hG (dk dd_X10_rowFound 7 rfl) ml_X10_83 mo_X10_finding sh_67 rfl (m_finding) (by decide) (by decide) rfl rfl rfl (fun x11 m11 p11 => ?_)
  refine V_iretP (pc := 14) hG (dk dd_X10_rowFound 8 rfl) hR (Pi.mk ?_)
  rotate_left
  -- leaves: return@40; return@47; return@40; return@14
  all_goals (rw [hc] at h6)
  · have e : lookS (μ 68) (μ 69) n i k = 2 := by unfold lookS; rw [if_neg (fun z => Int32.not_lt.mpr h6 (lt.mpr z)), if_neg (fun z => Int32.not_le.mpr h16 z.1)]
    rw [e]; exact ⟨p37.2, p37.1⟩
  · rw [hc] at h32
    have e : lookS (μ 68) (μ 69) n i k = 0 := by
      unfold lookS; rw [if_neg (fun z => Int32.not_lt.mpr h6 (lt.mpr z)), if_pos]
      have := Classical.byContradiction (fun w => Int32.not_lt.mpr h32 ((sum_gt (Int32.not_lt.mp h16) h0 k2).mpr w))
      exact ⟨Int32.not_lt.mp h16, h0, this⟩
    rw [e]; exact ⟨rfl, rfl⟩
  · rw [hc] at h32
    have e : lookS (μ 68) (μ 69) n i k = 2 := by
      unfold lookS; rw [if_neg (fun z => Int32.not_lt.mpr h6 (lt.mpr z)), if_neg]
      exact fun z => (sum_gt (Int32.not_lt.mp h16) h0 k2).mp (Int32.not_le.mp h32) z.2.2
    rw [e]; exact ⟨p37.2, p37.1⟩
  · have e : lookS (μ 68) (μ 69) n i k = 1 := by unfold lookS; rw [if_pos (lt.mp (Int32.not_le.mp h6))]
    rw [e]; exact ⟨p11.2, p11.1⟩
theorem lookS_0 {ln mn : Nat → Int32} {n m : Nat} {i k : Int32} (hn : 0 ≤ mn n ∧ mn n ≤ 40) (hk : k = nI m) (hm : m ≤ 40) (h : lookS ln mn n i k = 0) : ∃ a, i = nI a ∧ a + m ≤ 40 := by
  unfold lookS at h
  split at h
  · exact absurd h (by decide)
  · split at h
    · rename_i q
      obtain ⟨q1, q2, q3, q4⟩ := q
      obtain ⟨a, ha, rfl⟩ := nI_of (Int32.not_lt.mpr q1)
      obtain ⟨d, hd, e⟩ := nI_of (Int32.not_lt.mpr hn.1)
      have hd40 : d ≤ 40 := le_i (b := 40) (e ▸ hn.2) hd (by decide)
      rw [hk, e] at q3 q4
      have := le_i q3 (by omega) (by omega)
      rw [pk_sub this] at q4
      have := le_i q4 ha (by omega)
      exact ⟨a, rfl, by omega⟩
    · exact absurd h (by decide)
def HfS (ln mn : Nat → Int32) (I : Nat → Nat → Int32) (H n m : Nat) (i k f : Int32) : Prop := (lookS ln mn n i k ≠ 0 ∧ f = lookS ln mn n i k) ∨ (lookS ln mn n i k = 0 ∧ ∃ a, i = nI a ∧ a + m ≤ 40 ∧ ((f = 3 ∧ ¬ ∀ q, q < m → inN (I n (a + q)) H) ∨ (f = 0 ∧ ∀ q, q < m → inN (I n (a + q)) H)))
theorem HfS.uniq {ln mn : Nat → Int32} {I : Nat → Nat → Int32} {H n m : Nat} {i k f f' : Int32} (hm : 1 ≤ m) (h : HfS ln mn I H n m i k f) (h' : HfS ln mn I H n m i k f') : f = f' := by
  rcases h with ⟨h1, h2⟩ | ⟨h1, a, h2, h3, h4⟩ <;> rcases h' with ⟨g1, g2⟩ | ⟨g1, b, g2, g3, g4⟩
  · rw [h2, g2]
  · exact absurd g1 h1
  · exact absurd h1 g1
  · have e : a = b := (nI_eq (by omega) (by omega)).mp (h2.symm.trans g2)
    subst e
    rcases h4 with ⟨a1, a2⟩ | ⟨a1, a2⟩ <;> rcases g4 with ⟨b1, b2⟩ | ⟨b1, b2⟩
    · rw [a1, b1]
    · exact absurd b2 a2
    · exact absurd a2 b2
    · rw [a1, b1]
abbrev itM (μ : Mem) : Nat → Nat → Int32 := fun n k => μ 70 (40 * n + k)
theorem m_humsFound {μ : Mem} (hk : Rok (μ 68) (μ 69)) {x i k : Int32} {n m H : Nat} (hx : x = nI n) (hn : n < 8) (hkm : k = nI m) (hm : m ≤ 12) (hH : μ 71 3 = nI H) (hH6 : H ≤ 6) : CtP yX10_humsFound cX10_humsFound 6 (some .int) 2 [vR 67, vI x, vI i, vI k] μ (Pi (fun r μ' => ∃ f, HfS (μ 68) (μ 69) (itM μ) H n m i k f ∧ r = fnd f ∧ μ' = stM μ f)) := by
  refine CtP.go RX10 rfl pn_X10 (Nat.le_of_ble_eq_true rfl) (fun C hG hR => ?_)
  have h0 : 0 ≤ k := by rw [hkm]; exact nI_pos' (by omega)
  have ss : ∀ a b, stM (stM μ a) b = stM μ b := fun a b => by unfold stM; rw [setc_c, setc_s, upd_upd]
  have out : ∀ (f v : Int32) (q : Nat), fnd f ≠ 0 → HfS (μ 68) (μ 69) (itM μ) H n m i k f → V C 12 [(0, vR 67), (1, vI x), (2, vI i), (3, vI k), (4, vI (fnd f)), (5, vI v)] [] (stM μ f) := by
    intro f v q hf hh
    refine V_iload (pc := 12) hG (dk dd_X10_humsFound 8 rfl) rfl ?_
    refine V_iload_n (pc := 14) hG (dk dd_X10_humsFound 9 rfl) rfl ?_
    refine V_icmp_ge (pc := 15) hG (dk dd_X10_humsFound 10 rfl) (tgt := 61) (by decide) (fun h15 => ?_) (fun h15 => ?_)
    refine V_iload (pc := 61) hG (dk dd_X10_humsFound 34 rfl) rfl ?_
    refine V_iretP (pc := 63) hG (dk dd_X10_humsFound 35 rfl) hR (Pi.mk ?_)
    rotate_left
    refine V_iload (pc := 18) hG (dk dd_X10_humsFound 11 rfl) rfl ?_
    refine V_if_ne (pc := 20) hG (dk dd_X10_humsFound 12 rfl) (tgt := 61) (by decide) (fun h20 => ?_) (fun h20 => ?_)
    refine V_iload (pc := 61) hG (dk dd_X10_humsFound 34 rfl) rfl ?_
    refine V_iretP (pc := 63) hG (dk dd_X10_humsFound 35 rfl) hR (Pi.mk ?_)
    rotate_left
    rotate_left
    -- leaves: return@63; return@63; stop 23
    · exact ⟨f, hh, rfl, rfl⟩
    · exact ⟨f, hh, rfl, rfl⟩
    · exact absurd h20 hf
  have loop : ∀ a, i = nI a → a + m ≤ 40 → lookS (μ 68) (μ 69) n i k = 0 → ∀ d q, q + d = m → (∀ j, j < q → inN (itM μ n (a + j)) H) → V C 12 [(0, vR 67), (1, vI x), (2, vI i), (3, vI k), (4, vI 0), (5, vI (nI q))] [] (stM μ 0) := by
    intro a hi ha hl d
    induction d with
    | zero =>
      intro q hq hj
      refine V_iload (pc := 12) hG (dk dd_X10_humsFound 8 rfl) rfl ?_
      refine V_iload_n (pc := 14) hG (dk dd_X10_humsFound 9 rfl) rfl ?_
      refine V_icmp_ge (pc := 15) hG (dk dd_X10_humsFound 10 rfl) (tgt := 61) (by decide) (fun h15 => ?_) (fun h15 => ?_)
      refine V_iload (pc := 61) hG (dk dd_X10_humsFound 34 rfl) rfl ?_
      refine V_iretP (pc := 63) hG (dk dd_X10_humsFound 35 rfl) hR (Pi.mk ?_)
      rotate_left
      rotate_left
      -- leaves: return@63; stop 18
      · exact ⟨0, Or.inr ⟨hl, a, hi, ha, Or.inr ⟨rfl, fun j h => hj j (by omega)⟩⟩, rfl, rfl⟩
      · exfalso; rw [hkm] at h15; have := nle_i h15 (by omega) (by omega); omega
    | succ d ih =>
      intro q hq hj
      have ix : (40 : Int32) * x + i + nI q = nI (40 * n + (a + q)) := by rw [hx, hi, ix40, nI_add, Nat.add_assoc]
      have r : vp_in ((40 : Int32) * x + i + nI q) 320 := by rw [ix]; exact vp_in_nI (by omega) (by decide)
      refine V_iload (pc := 12) hG (dk dd_X10_humsFound 8 rfl) rfl ?_
      refine V_iload_n (pc := 14) hG (dk dd_X10_humsFound 9 rfl) rfl ?_
      refine V_icmp_ge (pc := 15) hG (dk dd_X10_humsFound 10 rfl) (tgt := 61) (by decide) (fun h15 => ?_) (fun h15 => ?_)
      rotate_left
      refine V_iload (pc := 18) hG (dk dd_X10_humsFound 11 rfl) rfl ?_
      refine V_if_ne (pc := 20) hG (dk dd_X10_humsFound 12 rfl) (tgt := 61) (by decide) (fun h20 => ?_) (fun h20 => ?_)
      rotate_left
      refine V_aload_n (pc := 23) hG (dk dd_X10_humsFound 13 rfl) rfl ?_
      refine V_aload_n (pc := 24) hG (dk dd_X10_humsFound 14 rfl) rfl ?_
      refine V_getR (pc := 25) hG (dk dd_X10_humsFound 15 rfl) fl_X10_16 sh_67 rfl ?_
      refine V_bipush (pc := 28) hG (dk dd_X10_humsFound 16 rfl) (v := 40) (by decide) ?_
      refine V_iload_n (pc := 30) hG (dk dd_X10_humsFound 17 rfl) rfl ?_
      refine V_imul (pc := 31) hG (dk dd_X10_humsFound 18 rfl) ?_
      refine V_iload_n (pc := 32) hG (dk dd_X10_humsFound 19 rfl) rfl ?_
      refine V_iadd (pc := 33) hG (dk dd_X10_humsFound 20 rfl) ?_
      refine V_iload (pc := 34) hG (dk dd_X10_humsFound 21 rfl) rfl ?_
      refine V_iadd (pc := 36) hG (dk dd_X10_humsFound 22 rfl) ?_
      refine V_iald (pc := 37) hG (dk dd_X10_humsFound 23 rfl) sh_70 r ?_
      refine V_callVip (pc := 38) hG (dk dd_X10_humsFound 24 rfl) ml_X10_201 mo_X10_isHum sh_67 rfl (m_isHum (n := H) (by omega) hH) (by decide) (by decide) rfl rfl rfl (fun x38 m38 p38 => ?_)
      refine V_if_eq (pc := 41) hG (dk dd_X10_humsFound 25 rfl) (tgt := 48) (by decide) (fun h41 => ?_) (fun h41 => ?_)
      refine V_aload_n (pc := 48) hG (dk dd_X10_humsFound 28 rfl) rfl ?_
      refine V_iconst (pc := 49) hG (dk dd_X10_humsFound 29 rfl) (v := 3) (by decide) ?_
      refine V_callVip (pc := 50) hG (dk dd_X10_humsFound 30 rfl) ml_X10_83 mo_X10_finding sh_67 rfl (m_finding) (by decide) (by decide) rfl rfl rfl (fun x50 m50 p50 => ?_)
      refine V_istore (pc := 53) hG (dk dd_X10_humsFound 31 rfl) (by decide) (lv' := [(0, _), (1, _), (2, _), (3, _), (4, _), (5, _)]) rfl ?_
      refine V_iinc (pc := 55) hG (dk dd_X10_humsFound 32 rfl) rfl (v := _ + 1) rfl (by decide) (lv' := [(0, _), (1, _), (2, _), (3, _), (4, _), (5, _)]) rfl ?_
      refine V_goto (pc := 58) hG (dk dd_X10_humsFound 33 rfl) (tgt := 12) (by decide) ?_
      rotate_left
      refine V_iconst (pc := 44) hG (dk dd_X10_humsFound 26 rfl) (v := 0) (by decide) ?_
      refine V_goto (pc := 45) hG (dk dd_X10_humsFound 27 rfl) (tgt := 53) (by decide) ?_
      refine V_istore (pc := 53) hG (dk dd_X10_humsFound 31 rfl) (by decide) (lv' := [(0, _), (1, _), (2, _), (3, _), (4, _), (5, _)]) rfl ?_
      refine V_iinc (pc := 55) hG (dk dd_X10_humsFound 32 rfl) rfl (v := _ + 1) rfl (by decide) (lv' := [(0, _), (1, _), (2, _), (3, _), (4, _), (5, _)]) rfl ?_
      refine V_goto (pc := 58) hG (dk dd_X10_humsFound 33 rfl) (tgt := 12) (by decide) ?_
      rotate_left
      -- leaves: stop 61; stop 61; stop 12; stop 12
      · exfalso; rw [hkm] at h15; have := le_i h15 (by omega) (by omega); omega
      · exact absurd rfl h20
      · obtain ⟨rfl, z⟩ := p38
        obtain ⟨rfl, rfl⟩ := p50
        have e : setc (stM μ 0) 67 (upd (stM μ 0 67) 1 3) = stM μ 3 := ss 0 3
        have z := z.no h41
        rw [ix, nI_clamp (by omega)] at z
        rw [e]
        refine out 3 _ q (by decide) (Or.inr ⟨hl, a, hi, ha, Or.inl ⟨rfl, fun w => z (w q (by omega))⟩⟩)
      · obtain ⟨rfl, z⟩ := p38
        have z := z.yes h41
        rw [ix, nI_clamp (by omega)] at z
        rw [← nI_succ]
        exact ih (q + 1) (by omega) (fun j h => if w : j = q then w ▸ z else hj j (by omega))
  refine V_aload_n (pc := 0) hG (dk dd_X10_humsFound 0 rfl) rfl ?_
  refine V_iload_n (pc := 1) hG (dk dd_X10_humsFound 1 rfl) rfl ?_
  refine V_iload_n (pc := 2) hG (dk dd_X10_humsFound 2 rfl) rfl ?_
  refine V_iload_n (pc := 3) hG (dk dd_X10_humsFound 3 rfl) rfl ?_
  refine V_callVip (pc := 4) hG (dk dd_X10_humsFound 4 rfl) ml_X10_225 mo_X10_rowFound sh_67 rfl (m_rowFound hk hx hn h0) (by decide) (by decide) rfl rfl rfl (fun x4 m4 p4 => ?_)
  refine V_istore (pc := 7) hG (dk dd_X10_humsFound 5 rfl) (by decide) (lv' := [(0, _), (1, _), (2, _), (3, _), (4, _)]) rfl ?_
  refine V_iconst (pc := 9) hG (dk dd_X10_humsFound 6 rfl) (v := 0) (by decide) ?_
  refine V_istore (pc := 10) hG (dk dd_X10_humsFound 7 rfl) (by decide) (lv' := [(0, _), (1, _), (2, _), (3, _), (4, _), (5, _)]) rfl ?_
  rotate_left
  -- leaves: stop 12
  · obtain ⟨rfl, rfl⟩ := p4
    by_cases z : lookS (μ 68) (μ 69) n i k = 0
    · obtain ⟨a, ha, hb⟩ := lookS_0 (hk n hn).2 hkm (by omega) z
      rw [z]
      exact loop a ha hb z m 0 (by omega) (fun j h => by omega)
    · refine out _ _ 0 ?_ (Or.inl ⟨z, rfl⟩)
      unfold fnd; rw [if_neg z]
      unfold lookS
      split
      · decide
      · split
        · rename_i a b; exact absurd (by unfold lookS; rw [if_neg a, if_pos b]) z
        · decide
/-- what a question leaves of the model -/
def FrM (μ : Mem) (o : Option Int32) (μ' : Mem) : Prop := (∀ j, j ≠ 67 → j ≠ 73 → (j < 76 ∨ 81 < j) → μ' j = μ j) ∧ (∀ q, 2 ≤ q → q ≠ 24 → q ≠ 25 → μ' 67 q = μ 67 q) ∧ μ' 67 1 = o.getD (μ 67 1)
theorem FrM.th (μ : Mem) : FrM μ none (th0 μ) := ⟨fun j a _ _ => th0_n a, fun q a _ _ => th0_s (by omega), th0_s (by decide)⟩
theorem FrM.st (μ : Mem) (s : Int32) : FrM μ (some s) (stM (th0 μ) s) := ⟨fun j a _ _ => by unfold stM; rw [setc_n a]; exact th0_n a, fun q a _ _ => by unfold stM; rw [setc_s, upd_n (by omega)]; exact th0_s (by omega), by unfold stM; rw [setc_s, upd_s]; rfl⟩
theorem FrM.tr {μ μ1 μ2 : Mem} {o : Option Int32} (h : FrM μ o μ1) (k1 : ∀ j, j ≠ 67 → j ≠ 73 → (j < 76 ∨ 81 < j) → μ2 j = μ1 j) (k2 : ∀ q, 1 ≤ q → q ≠ 24 → q ≠ 25 → μ2 67 q = μ1 67 q) : FrM μ o μ2 :=
  ⟨fun j a b c => (k1 j a b c).trans (h.1 j a b c), fun q a b c => (k2 q (by omega) b c).trans (h.2.1 q a b c), (k2 1 (by decide) (by decide) (by decide)).trans h.2.2⟩
def hsI (I : Nat → Nat → Int32) (n a : Nat) : Nat → Nat := fun q => (I n (a + q)).toNatClampNeg
def SlpR (α : Al) (ln mn : Nat → Int32) (I : Nat → Nat → Int32) (x i k : Int32) (r : Int32) (o : Option Int32) : Prop :=
  (¬ 0 < α 0 0 ∧ r = -1000002 ∧ o = none) ∨ (0 < α 0 0 ∧ ¬ (isR x ∧ 1 ≤ k ∧ k ≤ 12) ∧ r = -1000001 ∧ o = none) ∨
  (0 < α 0 0 ∧ ∃ n m f, x = nI n ∧ n < 8 ∧ k = nI m ∧ 1 ≤ m ∧ m ≤ 12 ∧ HfS ln mn I (α 0 6) n m i k f ∧ o = some f ∧ ((f ≠ 0 ∧ r = fnd f) ∨ (f = 0 ∧ ∃ a, i = nI a ∧ a + m ≤ 40 ∧ r = nI (runN α (hsI I n a) (α 0 3) m))))
theorem k12 {k : Int32} (h : 1 ≤ k ∧ k ≤ 12) : ∃ m, k = nI m ∧ 1 ≤ m ∧ m ≤ 12 := by
  obtain ⟨m, hm, rfl⟩ := nI_of (x := k) (fun z => by have := h.1; grind)
  exact ⟨m, rfl, le_i (a := 1) h.1 (by decide) hm, le_i (b := 12) h.2 hm (by decide)⟩
theorem hs_ok {I : Nat → Nat → Int32} {n a m H : Nat} (hH : H ≤ 6) (h : ∀ q, q < m → inN (I n (a + q)) H) : ∀ q, q < m → I n (a + q) = nI (hsI I n a q) ∧ hsI I n a q < H := fun q hq => (h q hq).n (by omega)
theorem m_sleep {μ : Mem} {α : Al} (hA : Abs (kap (μ 71)) α) (hz : Vz α) (hk : Rok (μ 68) (μ 69)) {x i k : Int32} : CtP yX10_sleep cX10_sleep 7 (some .int) 3 [vR 67, vI x, vI i, vI k] μ (Pi (fun r μ' => ∃ o, SlpR α (μ 68) (μ 69) (itM μ) x i k r o ∧ FrM μ o μ')) := by
  refine CtP.go RX10 rfl pn_X10 (Nat.le_of_ble_eq_true rfl) (fun C hG hR => ?_)
  have r6 : vp_in (6 : Int32) 46 := rr (n := 6) (by decide)
  have e0 : μ 71 0 = nI (α 0 0) := e_sc hA (i := 0) (by decide)
  have hH := hz.H
  have loop : Val α → ∀ n m a, x = nI n → n < 8 → k = nI m → 1 ≤ m → m ≤ 12 → i = nI a → a + m ≤ 40 → HfS (μ 68) (μ 69) (itM μ) (α 0 6) n m i k 0 → (∀ q, q < m → inN (itM μ n (a + q)) (α 0 6)) → ∀ f d q, q + d = m → V C 66 [(0, vR 67), (1, vI x), (2, vI i), (3, vI k), (4, vI f), (5, vI (nI (runN α (hsI (itM μ) n a) (α 0 3) q))), (6, vI (nI q))] [] (stM (th0 μ) 0) := by
    intro hv n m a hx hn hkm m1 m2 hi ha hf hq f d
    have ho := hs_ok hH hq
    have hA2 : Abs (kap (stM (th0 μ) 0 71)) α := hA
    induction d with
    | zero =>
      intro q hqd
      refine V_iload (pc := 66) hG (dk dd_X10_sleep 36 rfl) rfl ?_
      refine V_iload_n (pc := 68) hG (dk dd_X10_sleep 37 rfl) rfl ?_
      refine V_icmp_ge (pc := 69) hG (dk dd_X10_sleep 38 rfl) (tgt := 103) (by decide) (fun h69 => ?_) (fun h69 => ?_)
      refine V_iload (pc := 103) hG (dk dd_X10_sleep 56 rfl) rfl ?_
      refine V_iretP (pc := 105) hG (dk dd_X10_sleep 57 rfl) hR (Pi.mk ?_)
      rotate_left
      rotate_left
      -- leaves: return@105; stop 72
      · exact ⟨some 0, Or.inr (Or.inr ⟨by have := hv.t3; omega, n, m, 0, hx, hn, hkm, m1, m2, hf, rfl, Or.inr ⟨rfl, a, hi, ha, by rw [show q = m by omega]⟩⟩), FrM.st μ 0⟩
      · exfalso; rw [hkm] at h69; have := nle_i h69 (by omega) (by omega); omega
    | succ d ih =>
      intro q hqd
      have hI := ih (q + 1) (by omega)
      rw [runN_s, nI_succ] at hI
      obtain ⟨o1, o2⟩ := ho q (by omega)
      have ix : (40 : Int32) * x + i + nI q = nI (40 * n + (a + q)) := by rw [hx, hi, ix40, nI_add, Nat.add_assoc]
      have r : vp_in ((40 : Int32) * x + i + nI q) 320 := by rw [ix]; exact vp_in_nI (by omega) (by decide)
      refine V_iload (pc := 66) hG (dk dd_X10_sleep 36 rfl) rfl ?_
      refine V_iload_n (pc := 68) hG (dk dd_X10_sleep 37 rfl) rfl ?_
      refine V_icmp_ge (pc := 69) hG (dk dd_X10_sleep 38 rfl) (tgt := 103) (by decide) (fun h69 => ?_) (fun h69 => ?_)
      rotate_left
      refine V_aload_n (pc := 72) hG (dk dd_X10_sleep 39 rfl) rfl ?_
      refine V_getR (pc := 73) hG (dk dd_X10_sleep 40 rfl) fl_X10_19 sh_67 rfl ?_
      refine V_aload_n (pc := 76) hG (dk dd_X10_sleep 41 rfl) rfl ?_
      refine V_getR (pc := 77) hG (dk dd_X10_sleep 42 rfl) fl_X10_16 sh_67 rfl ?_
      refine V_bipush (pc := 80) hG (dk dd_X10_sleep 43 rfl) (v := 40) (by decide) ?_
      refine V_iload_n (pc := 82) hG (dk dd_X10_sleep 44 rfl) rfl ?_
      refine V_imul (pc := 83) hG (dk dd_X10_sleep 45 rfl) ?_
      refine V_iload_n (pc := 84) hG (dk dd_X10_sleep 46 rfl) rfl ?_
      refine V_iadd (pc := 85) hG (dk dd_X10_sleep 47 rfl) ?_
      refine V_iload (pc := 86) hG (dk dd_X10_sleep 48 rfl) rfl ?_
      refine V_iadd (pc := 88) hG (dk dd_X10_sleep 49 rfl) ?_
      refine V_iald (pc := 89) hG (dk dd_X10_sleep 50 rfl) sh_70 r ?_
      refine V_iload (pc := 90) hG (dk dd_X10_sleep 51 rfl) rfl ?_
      refine V_callSip (pc := 92) hG (dk dd_X10_sleep 52 rfl) ml_X10_191 mo_X10_hummed (m_hummed (μ := stM (th0 μ) 0) sh_71 (α := α) hA2 hv (h := hsI (itM μ) n a q) (by rw [ix, nI_clamp (by omega)]; exact o1) o2 rfl (runN_lt hv (fun j hj => (ho j hj).2) hv.D q (by omega))) (by decide) (by decide) rfl rfl rfl (fun x92 m92 p92 => ?_)
      refine V_istore (pc := 95) hG (dk dd_X10_sleep 53 rfl) (by decide) (lv' := [(0, _), (1, _), (2, _), (3, _), (4, _), (5, _), (6, _)]) rfl ?_
      refine V_iinc (pc := 97) hG (dk dd_X10_sleep 54 rfl) rfl (v := _ + 1) rfl (by decide) (lv' := [(0, _), (1, _), (2, _), (3, _), (4, _), (5, _), (6, _)]) rfl ?_
      refine V_goto (pc := 100) hG (dk dd_X10_sleep 55 rfl) (tgt := 66) (by decide) ?_
      rotate_left
      -- leaves: stop 103; stop 66
      · exfalso; rw [hkm] at h69; have := le_i h69 (by omega) (by omega); omega
      · obtain ⟨rfl, rfl⟩ := p92
        exact hI
  by_cases hv : Val α
  · have h0 : 0 < α 0 0 := by have := hv.t3; omega
    by_cases hr : isR x ∧ 1 ≤ k ∧ k ≤ 12
    · obtain ⟨n, hx, hn⟩ := hr.1.n
      obtain ⟨m, hkm, m1, m2⟩ := k12 hr.2
      refine V_aload_n (pc := 0) hG (dk dd_X10_sleep 0 rfl) rfl ?_
      refine V_iconst (pc := 1) hG (dk dd_X10_sleep 1 rfl) (v := 0) (by decide) ?_
      refine V_putI (pc := 2) hG (dk dd_X10_sleep 2 rfl) fl_X10_62 sh_67 rfl rfl ?_
      refine V_aload_n (pc := 5) hG (dk dd_X10_sleep 3 rfl) rfl ?_
      refine V_callVip (pc := 6) hG (dk dd_X10_sleep 4 rfl) ml_X10_219 mo_X10_isThere sh_67 rfl (m_isThere) (by decide) (by decide) rfl rfl rfl (fun x6 m6 p6 => ?_)
      refine V_if_ne (pc := 9) hG (dk dd_X10_sleep 5 rfl) (tgt := 15) (by decide) (fun h9 => ?_) (fun h9 => ?_)
      refine V_iload_n (pc := 15) hG (dk dd_X10_sleep 8 rfl) rfl ?_
      refine V_callSip (pc := 16) hG (dk dd_X10_sleep 9 rfl) ml_X10_76 mo_X10_isRow (m_isRow) (by decide) (by decide) rfl rfl rfl (fun x16 m16 p16 => ?_)
      refine V_if_eq (pc := 19) hG (dk dd_X10_sleep 10 rfl) (tgt := 34) (by decide) (fun h19 => ?_) (fun h19 => ?_)
      rotate_left
      refine V_iload_n (pc := 22) hG (dk dd_X10_sleep 11 rfl) rfl ?_
      refine V_i2l (pc := 23) hG (dk dd_X10_sleep 12 rfl) ?_
      refine V_lconst (pc := 24) hG (dk dd_X10_sleep 13 rfl) (v := 1) (by decide) ?_
      refine V_ldc2_w (pc := 25) hG (dk dd_X10_sleep 14 rfl) kk_X10_229 ?_
      refine V_callSip (pc := 28) hG (dk dd_X10_sleep 15 rfl) ml_X10_72 mo_X10_in (m_inI (v := k) (lo := 1) (hi := 12) rfl (by decide) (by decide)) (by decide) (by decide) rfl rfl rfl (fun x28 m28 p28 => ?_)
      refine V_if_ne (pc := 31) hG (dk dd_X10_sleep 16 rfl) (tgt := 37) (by decide) (fun h31 => ?_) (fun h31 => ?_)
      refine V_aload_n (pc := 37) hG (dk dd_X10_sleep 19 rfl) rfl ?_
      refine V_iload_n (pc := 38) hG (dk dd_X10_sleep 20 rfl) rfl ?_
      refine V_iload_n (pc := 39) hG (dk dd_X10_sleep 21 rfl) rfl ?_
      refine V_iload_n (pc := 40) hG (dk dd_X10_sleep 22 rfl) rfl ?_
      refine V_callVip (pc := 41) hG (dk dd_X10_sleep 23 rfl) ml_X10_231 mo_X10_humsFound sh_67 rfl (m_humsFound (μ := m28) (by rw [p28.1, p16.1, p6.1]; exact hk) hx hn hkm m2 (H := α 0 6) (by rw [p28.1, p16.1, p6.1]; exact e_sc hA (i := 6) (by decide)) hH) (by decide) (by decide) rfl rfl rfl (fun x41 m41 p41 => ?_)
      refine V_istore (pc := 44) hG (dk dd_X10_sleep 24 rfl) (by decide) (lv' := [(0, _), (1, _), (2, _), (3, _), (4, _)]) rfl ?_
      refine V_iload (pc := 46) hG (dk dd_X10_sleep 25 rfl) rfl ?_
      refine V_if_eq (pc := 48) hG (dk dd_X10_sleep 26 rfl) (tgt := 54) (by decide) (fun h48 => ?_) (fun h48 => ?_)
      refine V_aload_n (pc := 54) hG (dk dd_X10_sleep 29 rfl) rfl ?_
      refine V_getR (pc := 55) hG (dk dd_X10_sleep 30 rfl) fl_X10_19 sh_67 rfl ?_
      refine V_bipush (pc := 58) hG (dk dd_X10_sleep 31 rfl) (v := 6) (by decide) ?_
      refine V_iald (pc := 60) hG (dk dd_X10_sleep 32 rfl) sh_71 r6 ?_
      refine V_istore (pc := 61) hG (dk dd_X10_sleep 33 rfl) (by decide) (lv' := [(0, _), (1, _), (2, _), (3, _), (4, _), (5, _)]) rfl ?_
      refine V_iconst (pc := 63) hG (dk dd_X10_sleep 34 rfl) (v := 0) (by decide) ?_
      refine V_istore (pc := 64) hG (dk dd_X10_sleep 35 rfl) (by decide) (lv' := [(0, _), (1, _), (2, _), (3, _), (4, _), (5, _), (6, _)]) rfl ?_
      rotate_left
      refine V_iload (pc := 51) hG (dk dd_X10_sleep 27 rfl) rfl ?_
      refine V_iretP (pc := 53) hG (dk dd_X10_sleep 28 rfl) hR (Pi.mk ?_)
      rotate_left
      rotate_left
      rotate_left
      -- leaves: stop 34; stop 66; return@53; stop 34; stop 12
      · exact absurd hr.1 (p16.2.no h19)
      · rw [p28.1, p16.1, p6.1] at p41
        obtain ⟨f, hf, rf, rfl⟩ := p41
        rw [rf] at h48
        have f0 : f = 0 := by
          unfold fnd at h48
          split at h48
          · rename_i q; exact q
          · exfalso
            rcases hf with ⟨a1, a2⟩ | ⟨a1, a, a2, a3, a4 | a4⟩
            · rw [a2] at h48
              unfold lookS at h48
              split at h48
              · exact absurd h48 (by decide)
              · split at h48
                · exact absurd h48 (by decide)
                · exact absurd h48 (by decide)
            · rw [a4.1] at h48; exact absurd h48 (by decide)
            · rename_i q; exact q a4.1
        subst f0
        have hf' := hf
        rcases hf' with ⟨a1, a2⟩ | ⟨a1, a, a2, a3, a4 | a4⟩
        · exact absurd a2.symm a1
        · exact absurd a4.1 (by decide)
        · have e6 : stM (th0 μ) 0 71 6 = nI (α 0 3) := e_sc hA (i := 3) (by decide)
          have hl := loop hv n m a hx hn hkm m1 m2 a2 a3 hf a4.2 x41 m 0 (by omega)
          rw [show stM (setc μ 67 (upd (μ 67) 0 0)) 0 71 (Int32.toNatClampNeg 6) = nI (α 0 3) from e6]
          exact hl
      · rw [p28.1, p16.1, p6.1] at p41
        obtain ⟨f, hf, rf, rfl⟩ := p41
        have f0 : f ≠ 0 := fun z => h48 (by rw [rf, z]; rfl)
        exact ⟨some f, Or.inr (Or.inr ⟨h0, n, m, f, hx, hn, hkm, m1, m2, hf, rfl, Or.inl ⟨f0, rf⟩⟩), FrM.st μ f⟩
      · exact absurd hr.2 (p28.2.no h31)
      · exact absurd ((hz.there e0).mpr hv) (p6.2.no h9)
    · skip
      refine V_aload_n (pc := 0) hG (dk dd_X10_sleep 0 rfl) rfl ?_
      refine V_iconst (pc := 1) hG (dk dd_X10_sleep 1 rfl) (v := 0) (by decide) ?_
      refine V_putI (pc := 2) hG (dk dd_X10_sleep 2 rfl) fl_X10_62 sh_67 rfl rfl ?_
      refine V_aload_n (pc := 5) hG (dk dd_X10_sleep 3 rfl) rfl ?_
      refine V_callVip (pc := 6) hG (dk dd_X10_sleep 4 rfl) ml_X10_219 mo_X10_isThere sh_67 rfl (m_isThere) (by decide) (by decide) rfl rfl rfl (fun x6 m6 p6 => ?_)
      refine V_if_ne (pc := 9) hG (dk dd_X10_sleep 5 rfl) (tgt := 15) (by decide) (fun h9 => ?_) (fun h9 => ?_)
      refine V_iload_n (pc := 15) hG (dk dd_X10_sleep 8 rfl) rfl ?_
      refine V_callSip (pc := 16) hG (dk dd_X10_sleep 9 rfl) ml_X10_76 mo_X10_isRow (m_isRow) (by decide) (by decide) rfl rfl rfl (fun x16 m16 p16 => ?_)
      refine V_if_eq (pc := 19) hG (dk dd_X10_sleep 10 rfl) (tgt := 34) (by decide) (fun h19 => ?_) (fun h19 => ?_)
      refine V_ldc (pc := 34) hG (dk dd_X10_sleep 17 rfl) kk_X10_82 ?_
      refine V_iretP (pc := 36) hG (dk dd_X10_sleep 18 rfl) hR (Pi.mk ?_)
      rotate_left
      refine V_iload_n (pc := 22) hG (dk dd_X10_sleep 11 rfl) rfl ?_
      refine V_i2l (pc := 23) hG (dk dd_X10_sleep 12 rfl) ?_
      refine V_lconst (pc := 24) hG (dk dd_X10_sleep 13 rfl) (v := 1) (by decide) ?_
      refine V_ldc2_w (pc := 25) hG (dk dd_X10_sleep 14 rfl) kk_X10_229 ?_
      refine V_callSip (pc := 28) hG (dk dd_X10_sleep 15 rfl) ml_X10_72 mo_X10_in (m_inI (v := k) (lo := 1) (hi := 12) rfl (by decide) (by decide)) (by decide) (by decide) rfl rfl rfl (fun x28 m28 p28 => ?_)
      refine V_if_ne (pc := 31) hG (dk dd_X10_sleep 16 rfl) (tgt := 37) (by decide) (fun h31 => ?_) (fun h31 => ?_)
      rotate_left
      refine V_ldc (pc := 34) hG (dk dd_X10_sleep 17 rfl) kk_X10_82 ?_
      refine V_iretP (pc := 36) hG (dk dd_X10_sleep 18 rfl) hR (Pi.mk ?_)
      rotate_left
      rotate_left
      -- leaves: return@36; stop 37; return@36; stop 12
      · exact ⟨none, Or.inr (Or.inl ⟨h0, hr, rfl, rfl⟩), by rw [p16.1, p6.1]; exact FrM.th μ⟩
      · exact absurd ⟨p16.2.yes h19, p28.2.yes h31⟩ hr
      · exact ⟨none, Or.inr (Or.inl ⟨h0, hr, rfl, rfl⟩), by rw [p28.1, p16.1, p6.1]; exact FrM.th μ⟩
      · exact absurd ((hz.there e0).mpr hv) (p6.2.no h9)
  · skip
    refine V_aload_n (pc := 0) hG (dk dd_X10_sleep 0 rfl) rfl ?_
    refine V_iconst (pc := 1) hG (dk dd_X10_sleep 1 rfl) (v := 0) (by decide) ?_
    refine V_putI (pc := 2) hG (dk dd_X10_sleep 2 rfl) fl_X10_62 sh_67 rfl rfl ?_
    refine V_aload_n (pc := 5) hG (dk dd_X10_sleep 3 rfl) rfl ?_
    refine V_callVip (pc := 6) hG (dk dd_X10_sleep 4 rfl) ml_X10_219 mo_X10_isThere sh_67 rfl (m_isThere) (by decide) (by decide) rfl rfl rfl (fun x6 m6 p6 => ?_)
    refine V_if_ne (pc := 9) hG (dk dd_X10_sleep 5 rfl) (tgt := 15) (by decide) (fun h9 => ?_) (fun h9 => ?_)
    rotate_left
    refine V_ldc (pc := 12) hG (dk dd_X10_sleep 6 rfl) kk_X10_210 ?_
    refine V_iretP (pc := 14) hG (dk dd_X10_sleep 7 rfl) hR (Pi.mk ?_)
    rotate_left
    -- leaves: stop 15; return@14
    · exact absurd ((hz.there e0).mp (p6.2.yes h9)) hv
    · exact ⟨none, Or.inl ⟨fun q => hv (hz.vt q), rfl, rfl⟩, by rw [p6.1]; exact FrM.th μ⟩
