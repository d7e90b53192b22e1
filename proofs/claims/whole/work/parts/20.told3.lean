theorem c_fitsAsItIs {μ : Mem} {α : Al} (hA : Abs (kac μ 15) α) (hv : Val α) {hs : Nat → Nat} {n : Nat} (hT : Told μ hs n) (hn : n ≤ 12) (hh : ∀ k, k < n → hs k < α 0 6) {f : Int32} {D : Nat} (hf : f = nI D) (hD : D < 2 ^ α 0 0) : CtP yX7_fitsAsItIs cX7_fitsAsItIs 2 (some .boolean) 4 [vR 62, vI f] μ (Pi (fun r μ' => μ' = μ ∧ is1 r (Fit α hs (μ 64) n D))) := by
  refine CtP.go RX7 rfl pn_X7 (Nat.le_of_ble_eq_true rfl) (fun C hG hR => ?_)
  refine V_aload_n (pc := 0) hG (dk dd_X7_fitsAsItIs 0 rfl) rfl ?_
  refine V_iload_n (pc := 1) hG (dk dd_X7_fitsAsItIs 1 rfl) rfl ?_
  refine V_iconst (pc := 2) hG (dk dd_X7_fitsAsItIs 2 rfl) (v := -1) (by decide) ?_
  refine V_iconst (pc := 3) hG (dk dd_X7_fitsAsItIs 3 rfl) (v := 0) (by decide) ?_
  refine V_iconst (pc := 4) hG (dk dd_X7_fitsAsItIs 4 rfl) (v := 0) (by decide) ?_
  refine V_iconst (pc := 5) hG (dk dd_X7_fitsAsItIs 5 rfl) (v := 0) (by decide) ?_
  refine V_callVip (pc := 6) hG (dk dd_X7_fitsAsItIs 6 rfl) ml_X7_70 mo_X7_fits sh_62 rfl (c_fits (α := α) (β := α) (h := 6) hA hv hT hn hh hf hD ⟨rfl, fun _ _ => ⟨rfl, rfl, rfl⟩⟩ (Or.inr ⟨rfl, fun q hq => by have := hv.H; omega⟩)) (by decide) (by decide) rfl rfl rfl (fun x6 m6 p6 => ?_)
  refine V_zretP (pc := 9) hG (dk dd_X7_fitsAsItIs 7 rfl) p6.2.bool hR (Pi.mk ?_)
  rotate_left
  -- leaves: return@9
  · exact p6
noncomputable def cntT (P : Nat → Prop) : Nat → Nat
  | 0 => 0
  | n + 1 => cntT P n + p1 (P n)
theorem cntT_s (P : Nat → Prop) (n : Nat) : cntT P (n + 1) = cntT P n + p1 (P n) := rfl
theorem cntT_le (P : Nat → Prop) : ∀ n, cntT P n ≤ n
  | 0 => Nat.le_refl _
  | n + 1 => by have := cntT_le P n; have := p1_le (P n); rw [cntT_s]; omega
/-- the least number with P, as an int; NONE -/
def IsL (P : Nat → Prop) (N : Nat) (r : Int32) : Prop := (∃ D, D < N ∧ P D ∧ r = nI D ∧ ∀ E, E < D → ¬ P E) ∨ ((∀ D, D < N → ¬ P D) ∧ r = -1000000)
theorem IsL.uniq {P : Nat → Prop} {N : Nat} {r r' : Int32} (h : IsL P N r) (h' : IsL P N r') : r = r' := by
  rcases h with ⟨D, a1, a2, a3, a4⟩ | ⟨a1, a2⟩ <;> rcases h' with ⟨E, b1, b2, b3, b4⟩ | ⟨b1, b2⟩
  · rw [a3, b3]
    rcases Nat.lt_trichotomy D E with q | q | q
    · exact absurd a2 (b4 D q)
    · rw [q]
    · exact absurd b2 (a4 E q)
  · exact absurd a2 (b1 D a1)
  · exact absurd b2 (a1 E b1)
  · rw [a2, b2]
theorem c_howManyBegan {μ : Mem} {α : Al} (hA : Abs (kac μ 15) α) (hv : Val α) {hs : Nat → Nat} {n : Nat} (hT : Told μ hs n) (hn : n ≤ 12) (hh : ∀ k, k < n → hs k < α 0 6) :
    CtP yX7_howManyBegan cX7_howManyBegan 3 (some .int) 5 [vR 62] μ (Pi (fun r μ' => μ' = μ ∧ r = nI (cntT (Fit α hs (μ 64) n) (2 ^ α 0 0)))) := by
  refine CtP.go RX7 rfl pn_X7 (Nat.le_of_ble_eq_true rfl) (fun C hG hR => ?_)
  have e0 : bI (μ 15 0) = nI (2 ^ α 0 0) := by rw [show μ 15 0 = nI (α 0 0) from hA.1 0 (by decide)]; exact q_pow _ (by have := hv.t; omega)
  have hp := pow8 hv.t
  have loop : ∀ k i, i + k = 2 ^ α 0 0 → V C 4 [(0, vR 62), (1, vI (nI (cntT (Fit α hs (μ 64) n) i))), (2, vI (nI i))] [] μ := by
    intro k
    induction k with
    | zero =>
      intro i hi
      refine V_iload_n (pc := 4) hG (dk dd_X7_howManyBegan 4 rfl) rfl ?_
      refine V_aload_n (pc := 5) hG (dk dd_X7_howManyBegan 5 rfl) rfl ?_
      refine V_getR (pc := 6) hG (dk dd_X7_howManyBegan 6 rfl) fl_X7_18 sh_62 rfl ?_
      refine V_callVi (pc := 9) hG (dk dd_X7_howManyBegan 7 rfl) ml_X7_80 mo_X2_dreamCount sh_15 rfl (c_dreamCount co_now) (by decide) (by decide) rfl rfl rfl ?_
      refine V_icmp_ge (pc := 12) hG (dk dd_X7_howManyBegan 8 rfl) (tgt := 37) (by decide) (fun h12 => ?_) (fun h12 => ?_)
      refine V_iload_n (pc := 37) hG (dk dd_X7_howManyBegan 21 rfl) rfl ?_
      refine V_iretP (pc := 38) hG (dk dd_X7_howManyBegan 22 rfl) hR (Pi.mk ?_)
      rotate_left
      rotate_left
      -- leaves: return@38; stop 15
      · exact ⟨rfl, by rw [show i = 2 ^ α 0 0 by omega]⟩
      · exfalso; rw [e0] at h12; have := nle_i h12 (by omega) (by omega); omega
    | succ k ih =>
      intro i hi
      have hI := ih (i + 1) (by omega)
      rw [nI_succ, cntT_s] at hI
      refine V_iload_n (pc := 4) hG (dk dd_X7_howManyBegan 4 rfl) rfl ?_
      refine V_aload_n (pc := 5) hG (dk dd_X7_howManyBegan 5 rfl) rfl ?_
      refine V_getR (pc := 6) hG (dk dd_X7_howManyBegan 6 rfl) fl_X7_18 sh_62 rfl ?_
      refine V_callVi (pc := 9) hG (dk dd_X7_howManyBegan 7 rfl) ml_X7_80 mo_X2_dreamCount sh_15 rfl (c_dreamCount co_now) (by decide) (by decide) rfl rfl rfl ?_
      refine V_icmp_ge (pc := 12) hG (dk dd_X7_howManyBegan 8 rfl) (tgt := 37) (by decide) (fun h12 => ?_) (fun h12 => ?_)
      rotate_left
      refine V_iload_n (pc := 15) hG (dk dd_X7_howManyBegan 9 rfl) rfl ?_
      refine V_aload_n (pc := 16) hG (dk dd_X7_howManyBegan 10 rfl) rfl ?_
      refine V_iload_n (pc := 17) hG (dk dd_X7_howManyBegan 11 rfl) rfl ?_
      refine V_callVip (pc := 18) hG (dk dd_X7_howManyBegan 12 rfl) ml_X7_84 mo_X7_fitsAsItIs sh_62 rfl (c_fitsAsItIs hA hv hT hn hh (D := i) rfl (by omega)) (by decide) (by decide) rfl rfl rfl (fun x18 m18 p18 => ?_)
      refine V_if_eq (pc := 21) hG (dk dd_X7_howManyBegan 13 rfl) (tgt := 28) (by decide) (fun h21 => ?_) (fun h21 => ?_)
      refine V_iconst (pc := 28) hG (dk dd_X7_howManyBegan 16 rfl) (v := 0) (by decide) ?_
      refine V_iadd (pc := 29) hG (dk dd_X7_howManyBegan 17 rfl) ?_
      refine V_istore_n (pc := 30) hG (dk dd_X7_howManyBegan 18 rfl) (by decide) (lv' := [(0, _), (1, _), (2, _)]) rfl ?_
      refine V_iinc (pc := 31) hG (dk dd_X7_howManyBegan 19 rfl) rfl (v := _ + 1) rfl (by decide) (lv' := [(0, _), (1, _), (2, _)]) rfl ?_
      refine V_goto (pc := 34) hG (dk dd_X7_howManyBegan 20 rfl) (tgt := 4) (by decide) ?_
      rotate_left
      refine V_iconst (pc := 24) hG (dk dd_X7_howManyBegan 14 rfl) (v := 1) (by decide) ?_
      refine V_goto (pc := 25) hG (dk dd_X7_howManyBegan 15 rfl) (tgt := 29) (by decide) ?_
      refine V_iadd (pc := 29) hG (dk dd_X7_howManyBegan 17 rfl) ?_
      refine V_istore_n (pc := 30) hG (dk dd_X7_howManyBegan 18 rfl) (by decide) (lv' := [(0, _), (1, _), (2, _)]) rfl ?_
      refine V_iinc (pc := 31) hG (dk dd_X7_howManyBegan 19 rfl) rfl (v := _ + 1) rfl (by decide) (lv' := [(0, _), (1, _), (2, _)]) rfl ?_
      refine V_goto (pc := 34) hG (dk dd_X7_howManyBegan 20 rfl) (tgt := 4) (by decide) ?_
      rotate_left
      -- leaves: stop 37; stop 4; stop 4
      · exfalso; rw [e0] at h12; have := le_i h12 (by omega) (by omega); omega
      · obtain ⟨rfl, p18⟩ := p18
        rw [p1_f (p18.no h21), Nat.add_zero] at hI
        rw [Int32.add_zero]; exact hI
      · obtain ⟨rfl, p18⟩ := p18
        rw [p1_t (p18.yes h21), nI_succ] at hI; exact hI
  refine V_iconst (pc := 0) hG (dk dd_X7_howManyBegan 0 rfl) (v := 0) (by decide) ?_
  refine V_istore_n (pc := 1) hG (dk dd_X7_howManyBegan 1 rfl) (by decide) (lv' := [(0, _), (1, _)]) rfl ?_
  refine V_iconst (pc := 2) hG (dk dd_X7_howManyBegan 2 rfl) (v := 0) (by decide) ?_
  refine V_istore_n (pc := 3) hG (dk dd_X7_howManyBegan 3 rfl) (by decide) (lv' := [(0, _), (1, _), (2, _)]) rfl ?_
  rotate_left
  -- leaves: stop 4
  · exact loop (2 ^ α 0 0) 0 (by omega)
theorem c_leastBegan {μ : Mem} {α : Al} (hA : Abs (kac μ 15) α) (hv : Val α) {hs : Nat → Nat} {n : Nat} (hT : Told μ hs n) (hn : n ≤ 12) (hh : ∀ k, k < n → hs k < α 0 6) :
    CtP yX7_leastBegan cX7_leastBegan 2 (some .int) 5 [vR 62] μ (Pi (fun r μ' => μ' = μ ∧ IsL (Fit α hs (μ 64) n) (2 ^ α 0 0) r)) := by
  refine CtP.go RX7 rfl pn_X7 (Nat.le_of_ble_eq_true rfl) (fun C hG hR => ?_)
  have e0 : bI (μ 15 0) = nI (2 ^ α 0 0) := by rw [show μ 15 0 = nI (α 0 0) from hA.1 0 (by decide)]; exact q_pow _ (by have := hv.t; omega)
  have hp := pow8 hv.t
  have loop : ∀ k i, i + k = 2 ^ α 0 0 → (∀ E, E < i → ¬ Fit α hs (μ 64) n E) → V C 2 [(0, vR 62), (1, vI (nI i))] [] μ := by
    intro k
    induction k with
    | zero =>
      intro i hi hE
      refine V_iload_n (pc := 2) hG (dk dd_X7_leastBegan 2 rfl) rfl ?_
      refine V_aload_n (pc := 3) hG (dk dd_X7_leastBegan 3 rfl) rfl ?_
      refine V_getR (pc := 4) hG (dk dd_X7_leastBegan 4 rfl) fl_X7_18 sh_62 rfl ?_
      refine V_callVi (pc := 7) hG (dk dd_X7_leastBegan 5 rfl) ml_X7_80 mo_X2_dreamCount sh_15 rfl (c_dreamCount co_now) (by decide) (by decide) rfl rfl rfl ?_
      refine V_icmp_ge (pc := 10) hG (dk dd_X7_leastBegan 6 rfl) (tgt := 29) (by decide) (fun h10 => ?_) (fun h10 => ?_)
      refine V_ldc (pc := 29) hG (dk dd_X7_leastBegan 15 rfl) kk_X7_87 ?_
      refine V_iretP (pc := 31) hG (dk dd_X7_leastBegan 16 rfl) hR (Pi.mk ?_)
      rotate_left
      rotate_left
      -- leaves: return@31; stop 13
      · exact ⟨rfl, Or.inr ⟨fun D hD => hE D (by omega), rfl⟩⟩
      · exfalso; rw [e0] at h10; have := nle_i h10 (by omega) (by omega); omega
    | succ k ih =>
      intro i hi hE
      have hI := fun z => ih (i + 1) (by omega) z
      rw [nI_succ] at hI
      refine V_iload_n (pc := 2) hG (dk dd_X7_leastBegan 2 rfl) rfl ?_
      refine V_aload_n (pc := 3) hG (dk dd_X7_leastBegan 3 rfl) rfl ?_
      refine V_getR (pc := 4) hG (dk dd_X7_leastBegan 4 rfl) fl_X7_18 sh_62 rfl ?_
      refine V_callVi (pc := 7) hG (dk dd_X7_leastBegan 5 rfl) ml_X7_80 mo_X2_dreamCount sh_15 rfl (c_dreamCount co_now) (by decide) (by decide) rfl rfl rfl ?_
      refine V_icmp_ge (pc := 10) hG (dk dd_X7_leastBegan 6 rfl) (tgt := 29) (by decide) (fun h10 => ?_) (fun h10 => ?_)
      rotate_left
      refine V_aload_n (pc := 13) hG (dk dd_X7_leastBegan 7 rfl) rfl ?_
      refine V_iload_n (pc := 14) hG (dk dd_X7_leastBegan 8 rfl) rfl ?_
      refine V_callVip (pc := 15) hG (dk dd_X7_leastBegan 9 rfl) ml_X7_84 mo_X7_fitsAsItIs sh_62 rfl (c_fitsAsItIs hA hv hT hn hh (D := i) rfl (by omega)) (by decide) (by decide) rfl rfl rfl (fun x15 m15 p15 => ?_)
      refine V_if_eq (pc := 18) hG (dk dd_X7_leastBegan 10 rfl) (tgt := 23) (by decide) (fun h18 => ?_) (fun h18 => ?_)
      refine V_iinc (pc := 23) hG (dk dd_X7_leastBegan 13 rfl) rfl (v := _ + 1) rfl (by decide) (lv' := [(0, _), (1, _)]) rfl ?_
      refine V_goto (pc := 26) hG (dk dd_X7_leastBegan 14 rfl) (tgt := 2) (by decide) ?_
      rotate_left
      refine V_iload_n (pc := 21) hG (dk dd_X7_leastBegan 11 rfl) rfl ?_
      refine V_iretP (pc := 22) hG (dk dd_X7_leastBegan 12 rfl) hR (Pi.mk ?_)
      rotate_left
      -- leaves: stop 29; stop 2; return@22
      · exfalso; rw [e0] at h10; have := le_i h10 (by omega) (by omega); omega
      · obtain ⟨rfl, p15⟩ := p15
        refine hI (fun E hE' => ?_)
        rcases Nat.lt_succ_iff_lt_or_eq.mp hE' with z | z
        · exact hE E z
        · rw [z]; exact p15.no h18
      · obtain ⟨rfl, p15⟩ := p15
        exact ⟨rfl, Or.inl ⟨i, by omega, p15.yes h18, rfl, hE⟩⟩
  refine V_iconst (pc := 0) hG (dk dd_X7_leastBegan 0 rfl) (v := 0) (by decide) ?_
  refine V_istore_n (pc := 1) hG (dk dd_X7_leastBegan 1 rfl) (by decide) (lv' := [(0, _), (1, _)]) rfl ?_
  rotate_left
  -- leaves: stop 2
  · exact loop (2 ^ α 0 0) 0 (by omega) (fun E hE => absurd hE (Nat.not_lt_zero E))
theorem lookN_0 {μ : Mem} {n l m : Nat} {i k : Int32} (hl : μ 12 n = nI l) (hl40 : l ≤ 40) (hk : k = nI m) (hm : m ≤ 40) (h : lookN μ n i k = 0) : ∃ a, i = nI a ∧ a + m ≤ l := by
  unfold lookN at h
  by_cases h1 : μ 11 n = -1
  · rw [if_pos h1] at h; exact absurd h (by decide)
  · rw [if_neg h1] at h
    by_cases h2 : 0 ≤ i ∧ 0 ≤ k ∧ k ≤ μ 12 n ∧ i ≤ μ 12 n - k
    · obtain ⟨a1, a2, a3, a4⟩ := h2
      rw [hk, hl] at a3
      have hml := le_i a3 (by omega) (by omega)
      obtain ⟨a, ha, rfl⟩ := nI_of (Int32.not_lt.mpr a1)
      rw [hl, hk, pk_sub hml] at a4
      have := le_i a4 ha (by omega)
      exact ⟨a, rfl, by omega⟩
    · rw [if_neg h2] at h; exact absurd h (by decide)
/-- what takeHums answers: 1 and 2 as the row is looked at, 3 an item is no hum, 0 -/
def TkH (μ : Mem) (n H m : Nat) (i k : Int32) (r : Int32) (μ' : Mem) : Prop := (r = lookN μ n i k ∧ ¬ r = 0) ∨ (lookN μ n i k = 0 ∧ ∃ a, i = nI a ∧ a + m ≤ 40 ∧ ((r = 3 ∧ ¬ ∀ q, q < m → ∃ h, h < H ∧ μ (3 + n) (a + q) = nI h) ∨ (r = 0 ∧ (∀ q, q < m → ∃ h, h < H ∧ μ (3 + n) (a + q) = nI h) ∧ μ' 62 3 = nI m ∧ ∀ q, q < m → μ' 63 q = μ (3 + n) (a + q))))
theorem c_takeHums {μ : Mem} {x i k : Int32} {n l m H : Nat} (hx : x = nI n) (hn : n < 8) (hl : μ 12 n = nI l) (hl40 : l ≤ 40) (hk : k = nI m) (hm : m ≤ 12) (hH : μ 15 6 = nI H) (hH6 : H ≤ 6) :
    CtP yX7_takeHums cX7_takeHums 7 (some .int) 2 [vR 62, vR 1, vI x, vI i, vI k] μ (Pi (fun r μ' => (∀ a, a ≠ 62 → a ≠ 63 → μ' a = μ a) ∧ TkH μ n H m i k r μ')) := by
  refine CtP.go RX7 rfl pn_X7 (Nat.le_of_ble_eq_true rfl) (fun C hG hR => ?_)
  have hr : vp_in x 8 := in_nI hx hn (by decide)
  have hc : x.toNatClampNeg = n := nI_cl hx (by omega)
  have hmin : (if (12 : Int32) < k then (12 : Int32) else k) = nI m := by
    rw [if_neg (by rw [hk]; exact fun z => by have := (nI_ltI (a := 12) (b := m) (by decide) (by omega)).mp z; omega), hk]
  have loop : ∀ a, lookN μ n i k = 0 → i = nI a → a + m ≤ 40 → ∀ kk q μ1, q + kk = m → (∀ c, c ≠ 62 → c ≠ 63 → μ1 c = μ c) → μ1 62 3 = nI m → (∀ p, p < q → (∃ h, h < H ∧ μ (3 + n) (a + p) = nI h) ∧ μ1 63 p = μ (3 + n) (a + p)) → V C 32 [(0, vR 62), (1, vR 1), (2, vI x), (3, vI i), (4, vI k), (5, vI 0), (6, vI (nI q))] [] μ1 := by
    intro a h0 ha ham kk
    induction kk with
    | zero =>
      intro q μ1 hq f1 f2 f3
      refine V_iload (pc := 32) hG (dk dd_X7_takeHums 17 rfl) rfl ?_
      refine V_aload_n (pc := 34) hG (dk dd_X7_takeHums 18 rfl) rfl ?_
      refine V_getI (pc := 35) hG (dk dd_X7_takeHums 19 rfl) fl_X7_34 sh_62 rfl ?_
      refine V_icmp_ge (pc := 38) hG (dk dd_X7_takeHums 20 rfl) (tgt := 84) (by decide) (fun h38 => ?_) (fun h38 => ?_)
      refine V_iconst (pc := 84) hG (dk dd_X7_takeHums 45 rfl) (v := 0) (by decide) ?_
      refine V_iretP (pc := 85) hG (dk dd_X7_takeHums 46 rfl) hR (Pi.mk ?_)
      rotate_left
      rotate_left
      -- leaves: return@85; stop 41
      · exact ⟨f1, Or.inr ⟨h0, a, ha, ham, Or.inr ⟨rfl, fun p hp => (f3 p (by omega)).1, f2, fun p hp => (f3 p (by omega)).2⟩⟩⟩
      · exfalso; rw [f2] at h38; have := nle_i h38 (by omega) (by omega); omega
    | succ kk ih =>
      intro q μ1 hq f1 f2 f3
      have hi40 : vp_in (i + nI q) 40 := by rw [ha, nI_add]; exact vp_in_nI (by omega) (by decide)
      have hq12 : vp_in (nI q) 12 := vp_in_nI (by omega) (by decide)
      have ci : (i + nI q).toNatClampNeg = a + q := by rw [ha, nI_add]; exact nI_clamp (by omega)
      have cq : (nI q).toNatClampNeg = q := nI_clamp (by omega)
      have eit : μ1 (3 + n) = μ (3 + n) := f1 _ (by omega) (by omega)
      refine V_iload (pc := 32) hG (dk dd_X7_takeHums 17 rfl) rfl ?_
      refine V_aload_n (pc := 34) hG (dk dd_X7_takeHums 18 rfl) rfl ?_
      refine V_getI (pc := 35) hG (dk dd_X7_takeHums 19 rfl) fl_X7_34 sh_62 rfl ?_
      refine V_icmp_ge (pc := 38) hG (dk dd_X7_takeHums 20 rfl) (tgt := 84) (by decide) (fun h38 => ?_) (fun h38 => ?_)
      rotate_left
      refine V_aload_n (pc := 41) hG (dk dd_X7_takeHums 21 rfl) rfl ?_
      refine V_getR (pc := 42) hG (dk dd_X7_takeHums 22 rfl) fl_X7_9 sh_62 rfl ?_
      refine V_iload (pc := 45) hG (dk dd_X7_takeHums 23 rfl) rfl ?_
      refine V_aload_n (pc := 47) hG (dk dd_X7_takeHums 24 rfl) rfl ?_
      refine V_getR (pc := 48) hG (dk dd_X7_takeHums 25 rfl) fl_X7_38 sh_1 rfl ?_
      refine V_iload_n (pc := 51) hG (dk dd_X7_takeHums 26 rfl) rfl ?_
      refine V_ald3 (pc := 52) hG (dk dd_X7_takeHums 27 rfl) sh_2 hr (rs8 hc hn) ?_
      refine V_iload_n (pc := 53) hG (dk dd_X7_takeHums 28 rfl) rfl ?_
      refine V_iload (pc := 54) hG (dk dd_X7_takeHums 29 rfl) rfl ?_
      refine V_iadd (pc := 56) hG (dk dd_X7_takeHums 30 rfl) ?_
      refine V_iald (pc := 57) hG (dk dd_X7_takeHums 31 rfl) (itS hn) hi40 ?_
      refine V_iast (pc := 58) hG (dk dd_X7_takeHums 32 rfl) sh_63 hq12 ?_
      refine V_aload_n (pc := 59) hG (dk dd_X7_takeHums 33 rfl) rfl ?_
      refine V_getR (pc := 60) hG (dk dd_X7_takeHums 34 rfl) fl_X7_18 sh_62 rfl ?_
      refine V_aload_n (pc := 63) hG (dk dd_X7_takeHums 35 rfl) rfl ?_
      refine V_getR (pc := 64) hG (dk dd_X7_takeHums 36 rfl) fl_X7_9 sh_62 rfl ?_
      refine V_iload (pc := 67) hG (dk dd_X7_takeHums 37 rfl) rfl ?_
      refine V_iald (pc := 69) hG (dk dd_X7_takeHums 38 rfl) sh_63 hq12 ?_
      refine V_callVi (pc := 70) hG (dk dd_X7_takeHums 39 rfl) ml_X7_42 mo_X2_isHum sh_15 rfl (c_isHum co_now) (by decide) (by decide) rfl rfl rfl ?_
      refine V_if_ne (pc := 73) hG (dk dd_X7_takeHums 40 rfl) (tgt := 78) (by decide) (fun h73 => ?_) (fun h73 => ?_)
      refine V_iinc (pc := 78) hG (dk dd_X7_takeHums 43 rfl) rfl (v := _ + 1) rfl (by decide) (lv' := [(0, _), (1, _), (2, _), (3, _), (4, _), (5, _), (6, _)]) rfl ?_
      refine V_goto (pc := 81) hG (dk dd_X7_takeHums 44 rfl) (tgt := 32) (by decide) ?_
      rotate_left
      refine V_iconst (pc := 76) hG (dk dd_X7_takeHums 41 rfl) (v := 3) (by decide) ?_
      refine V_iretP (pc := 77) hG (dk dd_X7_takeHums 42 rfl) hR (Pi.mk ?_)
      rotate_left
      -- leaves: stop 84; stop 32; return@77
      · exfalso; rw [f2] at h38; have := le_i h38 (by omega) (by omega); omega
      · rw [setc_s, cq, pk_us, ci, eit, setc_n (by decide), f1 15 (by decide) (by decide), hH] at h73
        have hz : 0 ≤ μ (3 + n) (a + q) ∧ μ (3 + n) (a + q) < nI H := by
          by_cases z : 0 ≤ μ (3 + n) (a + q) ∧ μ (3 + n) (a + q) < nI H
          · exact z
          · rw [if_neg z] at h73; exact absurd rfl h73
        have hI := ih (q + 1) (setc μ1 63 (upd (μ1 63) q (μ (3 + n) (a + q)))) (by omega) (fun c c1 c2 => by rw [setc_n c2]; exact f1 c c1 c2) (by rw [setc_n (by decide)]; exact f2) (fun p hp => by
          rw [setc_s]
          by_cases e : p = q
          · subst e; exact ⟨chk rfl (by omega) hz.1 hz.2, pk_us⟩
          · rw [pk_un e]; exact f3 p (by omega))
        rw [nI_succ] at hI
        rw [cq, ci, eit]; exact hI
      · rw [setc_s, cq, pk_us, ci, eit, setc_n (by decide), f1 15 (by decide) (by decide), hH] at h73
        refine ⟨fun c c1 c2 => by rw [setc_n c2]; exact f1 c c1 c2, Or.inr ⟨h0, a, ha, ham, Or.inl ⟨rfl, fun z => ?_⟩⟩⟩
        obtain ⟨h, z1, z2⟩ := z q (by omega)
        rw [z2, if_pos ⟨nI_pos' (by omega), (nI_ltI (by omega) (by omega)).mpr z1⟩] at h73
        exact absurd h73 (by decide)
  refine V_aload_n (pc := 0) hG (dk dd_X7_takeHums 0 rfl) rfl ?_
  refine V_iload_n (pc := 1) hG (dk dd_X7_takeHums 1 rfl) rfl ?_
  refine V_iload_n (pc := 2) hG (dk dd_X7_takeHums 2 rfl) rfl ?_
  refine V_iload (pc := 3) hG (dk dd_X7_takeHums 3 rfl) rfl ?_
  refine V_callVip (pc := 5) hG (dk dd_X7_takeHums 4 rfl) ml_X7_22 mo_X5_lookedAt sh_1 rfl (c_lookedAt hx hn) (by decide) (by decide) rfl rfl rfl (fun x5 m5 p5 => ?_)
  refine V_istore (pc := 8) hG (dk dd_X7_takeHums 5 rfl) (by decide) (lv' := [(0, _), (1, _), (2, _), (3, _), (4, _), (5, _)]) rfl ?_
  refine V_iload (pc := 10) hG (dk dd_X7_takeHums 6 rfl) rfl ?_
  refine V_if_eq (pc := 12) hG (dk dd_X7_takeHums 7 rfl) (tgt := 18) (by decide) (fun h12 => ?_) (fun h12 => ?_)
  refine V_aload_n (pc := 18) hG (dk dd_X7_takeHums 10 rfl) rfl ?_
  refine V_iload (pc := 19) hG (dk dd_X7_takeHums 11 rfl) rfl ?_
  refine V_bipush (pc := 21) hG (dk dd_X7_takeHums 12 rfl) (v := 12) (by decide) ?_
  refine V_mmin (pc := 23) hG (dk dd_X7_takeHums 13 rfl) ml_X7_28 rfl ?_
  refine V_putI (pc := 26) hG (dk dd_X7_takeHums 14 rfl) fl_X7_34 sh_62 rfl rfl ?_
  refine V_iconst (pc := 29) hG (dk dd_X7_takeHums 15 rfl) (v := 0) (by decide) ?_
  refine V_istore (pc := 30) hG (dk dd_X7_takeHums 16 rfl) (by decide) (lv' := [(0, _), (1, _), (2, _), (3, _), (4, _), (5, _), (6, _)]) rfl ?_
  rotate_left
  refine V_iload (pc := 15) hG (dk dd_X7_takeHums 8 rfl) rfl ?_
  refine V_iretP (pc := 17) hG (dk dd_X7_takeHums 9 rfl) hR (Pi.mk ?_)
  rotate_left
  -- leaves: stop 32; return@17
  · obtain ⟨rfl, rfl⟩ := p5
    obtain ⟨a, ha, ham⟩ := lookN_0 hl hl40 hk (by omega) h12
    rw [hmin, show vI (lookN m5 n i k) = vI 0 by rw [h12]]
    exact loop a h12 ha (by omega) m 0 _ (by omega) (fun c c1 c2 => setc_n c1) (by rw [setc_s, pk_us]) (fun p hp => absurd hp (Nat.not_lt_zero p))
  · obtain ⟨rfl, rfl⟩ := p5
    exact ⟨fun _ _ _ => rfl, Or.inl ⟨rfl, h12⟩⟩
