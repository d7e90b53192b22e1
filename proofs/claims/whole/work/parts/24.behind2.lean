theorem q_andG {D K : Nat} (hD : D < 2 ^ 31) (hK : K < 2 ^ 31) : nI D &&& nI K = nI (D &&& K) := by
  apply Int32.toBitVec_inj.mp
  apply BitVec.eq_of_toNat_eq
  rw [Int32.toBitVec_and, BitVec.toNat_and, pk_tn (n := D) (by omega), pk_tn (n := K) (by omega), pk_tn (Nat.lt_of_le_of_lt Nat.and_le_left (by omega))]
theorem q_and1 (x : Int32) : x &&& (-1) = x := by
  apply Int32.toBitVec_inj.mp
  rw [Int32.toBitVec_and, show (-1 : Int32).toBitVec = BitVec.allOnes 32 from rfl, BitVec.and_allOnes]
/-- all dreams with P, and-ed, or-ed -/
noncomputable def andT (P : Nat → Prop) (a : Nat) : Nat → Nat
  | 0 => a
  | n + 1 => @ite Nat (P n) (Classical.propDecidable _) (andT P a n &&& n) (andT P a n)
theorem andT_t {P : Nat → Prop} {a n : Nat} (h : P n) : andT P a (n + 1) = andT P a n &&& n := if_pos h
theorem andT_f {P : Nat → Prop} {a n : Nat} (h : ¬ P n) : andT P a (n + 1) = andT P a n := if_neg h
theorem andT_le (P : Nat → Prop) (a : Nat) : ∀ n, andT P a n ≤ a
  | 0 => Nat.le_refl _
  | n + 1 => by
    by_cases h : P n
    · rw [andT_t h]; exact Nat.le_trans Nat.and_le_left (andT_le P a n)
    · rw [andT_f h]; exact andT_le P a n
noncomputable def orP (P : Nat → Prop) : Nat → Nat
  | 0 => 0
  | n + 1 => @ite Nat (P n) (Classical.propDecidable _) (orP P n ||| n) (orP P n)
theorem orP_t {P : Nat → Prop} {n : Nat} (h : P n) : orP P (n + 1) = orP P n ||| n := if_pos h
theorem orP_f {P : Nat → Prop} {n : Nat} (h : ¬ P n) : orP P (n + 1) = orP P n := if_neg h
theorem orP_lt (P : Nat → Prop) : ∀ n, n ≤ 256 → orP P n < 256
  | 0, _ => (by decide : 0 < 256)
  | n + 1, hn => by
    have ih := orP_lt P n (by omega)
    by_cases h : P n
    · rw [orP_t h]; exact Nat.or_lt_two_pow (n := 8) ih (by omega)
    · rw [orP_f h]; exact ih
def IsG (P : Nat → Prop) (N : Nat) (r : Int32) : Prop := (∃ D, D < N ∧ P D ∧ r = nI D ∧ ∀ E, E < N → D < E → ¬ P E) ∨ ((∀ D, D < N → ¬ P D) ∧ r = -1000000)
theorem IsG.uniq {P : Nat → Prop} {N : Nat} {r r' : Int32} (h : IsG P N r) (h' : IsG P N r') : r = r' := by
  rcases h with ⟨D, a1, a2, a3, a4⟩ | ⟨a1, a2⟩ <;> rcases h' with ⟨E, b1, b2, b3, b4⟩ | ⟨b1, b2⟩
  · rw [a3, b3]
    rcases Nat.lt_trichotomy D E with q | q | q
    · exact absurd b2 (a4 E b1 q)
    · rw [q]
    · exact absurd a2 (b4 D a1 q)
  · exact absurd a2 (b1 D a1)
  · exact absurd b2 (a1 E b1)
  · rw [a2, b2]
/-- what is asked of marks: how many (0), in all (1), in any (2), the least (3), the greatest (4) -/
def DrQ (P : Nat → Prop) (t w : Nat) (r : Int32) : Prop := (w = 0 → r = nI (cntT P (2 ^ t))) ∧ (w = 1 → r = nI (andT P (2 ^ t - 1) (2 ^ t))) ∧ (w = 2 → r = nI (orP P (2 ^ t))) ∧ (w = 3 → IsL P (2 ^ t) r) ∧ (w = 4 → IsG P (2 ^ t) r)
theorem DrQ.uniq {P : Nat → Prop} {t w : Nat} {r r' : Int32} (hw : w < 5) (h : DrQ P t w r) (h' : DrQ P t w r') : r = r' := by
  obtain ⟨a0, a1, a2, a3, a4⟩ := h
  obtain ⟨b0, b1, b2, b3, b4⟩ := h'
  rcases (show w = 0 ∨ w = 1 ∨ w = 2 ∨ w = 3 ∨ w = 4 by omega) with q | q | q | q | q
  · rw [a0 q, b0 q]
  · rw [a1 q, b1 q]
  · rw [a2 q, b2 q]
  · exact (a3 q).uniq (b3 q)
  · exact (a4 q).uniq (b4 q)
theorem cntT_top {P : Nat → Prop} {N : Nat} (h : ∀ E, P E → E < N) : ∀ k, cntT P (N + k) = cntT P N
  | 0 => rfl
  | k + 1 => by
    show cntT P (N + k + 1) = _
    rw [cntT_s, p1_f (fun q => by have := h _ q; omega)]; exact cntT_top h k
theorem andT_top {P : Nat → Prop} {a N : Nat} (h : ∀ E, P E → E < N) : ∀ k, andT P a (N + k) = andT P a N
  | 0 => rfl
  | k + 1 => by
    show andT P a (N + k + 1) = _
    rw [andT_f (fun q => by have := h _ q; omega)]; exact andT_top h k
theorem orP_top {P : Nat → Prop} {N : Nat} (h : ∀ E, P E → E < N) : ∀ k, orP P (N + k) = orP P N
  | 0 => rfl
  | k + 1 => by
    show orP P (N + k + 1) = _
    rw [orP_f (fun q => by have := h _ q; omega)]; exact orP_top h k
theorem c_howManyBehind {μ : Mem} {α : Al} (hA : Abs (kac μ 15) α) (hv : Val α) {x : Int32} {n : Nat} (hx : x = nI n) (hn : n < 100) :
    CtP yX8_howManyBehind cX8_howManyBehind 4 (some .int) 5 [vR 51, vI x] μ (Pi (fun r μ' => (∀ a, a ≠ 52 → a ≠ 53 → μ' a = μ a) ∧ r = nI (cntT (Rch α (α 0 3) n) (2 ^ α 0 0)))) := by
  refine CtP.go RX8 rfl pn_X8 (Nat.le_of_ble_eq_true rfl) (fun C hG hR => ?_)
  have hp := pow8 hv.t
  have hlt : ∀ E, Rch α (α 0 3) n E → E < 2 ^ α 0 0 := fun E h => Rch_lt hv hv.D h
  have loop : ∀ μ1 : Mem, (∀ a, a ≠ 52 → a ≠ 53 → μ1 a = μ a) → Mk (μ1 52) (Rch α (α 0 3) n) → ∀ k i, i + k = 256 → V C 9 [(0, vR 51), (1, vI x), (2, vI (nI (cntT (Rch α (α 0 3) n) i))), (3, vI (nI i))] [] μ1 := by
    intro μ1 hf1 hm k
    induction k with
    | zero =>
      intro i hi
      refine V_iload_n (pc := 9) hG (dk dd_X8_howManyBehind 7 rfl) rfl ?_
      refine V_sipush (pc := 10) hG (dk dd_X8_howManyBehind 8 rfl) (v := 256) (by decide) ?_
      refine V_icmp_ge (pc := 13) hG (dk dd_X8_howManyBehind 9 rfl) (tgt := 31) (by decide) (fun h13 => ?_) (fun h13 => ?_)
      refine V_iload_n (pc := 31) hG (dk dd_X8_howManyBehind 19 rfl) rfl ?_
      refine V_iretP (pc := 32) hG (dk dd_X8_howManyBehind 20 rfl) hR (Pi.mk ?_)
      rotate_left
      rotate_left
      -- leaves: return@32; stop 16
      · refine ⟨hf1, ?_⟩
        have hi2 : i = 256 := by omega
        subst hi2
        have := cntT_top hlt (256 - 2 ^ α 0 0)
        rw [show 2 ^ α 0 0 + (256 - 2 ^ α 0 0) = 256 by omega] at this
        rw [this]
      · exfalso; have := nle_i (a := 256) h13 (by omega) (by omega); omega
    | succ k ih =>
      intro i hi
      have hI := ih (i + 1) (by omega)
      rw [nI_succ] at hI
      have hr : vp_in (nI i) 256 := vp_in_nI (by omega) (by decide)
      have ci : (nI i).toNatClampNeg = i := nI_clamp (by omega)
      refine V_iload_n (pc := 9) hG (dk dd_X8_howManyBehind 7 rfl) rfl ?_
      refine V_sipush (pc := 10) hG (dk dd_X8_howManyBehind 8 rfl) (v := 256) (by decide) ?_
      refine V_icmp_ge (pc := 13) hG (dk dd_X8_howManyBehind 9 rfl) (tgt := 31) (by decide) (fun h13 => ?_) (fun h13 => ?_)
      rotate_left
      refine V_iload_n (pc := 16) hG (dk dd_X8_howManyBehind 10 rfl) rfl ?_
      refine V_aload_n (pc := 17) hG (dk dd_X8_howManyBehind 11 rfl) rfl ?_
      refine V_getR (pc := 18) hG (dk dd_X8_howManyBehind 12 rfl) fl_X8_9 sh_51 rfl ?_
      refine V_iload_n (pc := 21) hG (dk dd_X8_howManyBehind 13 rfl) rfl ?_
      refine V_iald (pc := 22) hG (dk dd_X8_howManyBehind 14 rfl) sh_52 hr ?_
      refine V_iadd (pc := 23) hG (dk dd_X8_howManyBehind 15 rfl) ?_
      refine V_istore_n (pc := 24) hG (dk dd_X8_howManyBehind 16 rfl) (by decide) (lv' := [(0, _), (1, _), (2, _), (3, _)]) rfl ?_
      refine V_iinc (pc := 25) hG (dk dd_X8_howManyBehind 17 rfl) rfl (v := _ + 1) rfl (by decide) (lv' := [(0, _), (1, _), (2, _), (3, _)]) rfl ?_
      refine V_goto (pc := 28) hG (dk dd_X8_howManyBehind 18 rfl) (tgt := 9) (by decide) ?_
      rotate_left
      -- leaves: stop 31; stop 9
      · exfalso; have := le_i (a := 256) h13 (by omega) (by omega); omega
      · rw [ci]
        rcases hm i (by omega) with ⟨z1, z2⟩ | ⟨z1, z2⟩
        · rw [z1]
          rw [cntT_s, p1_t z2, nI_succ] at hI; exact hI
        · rw [z1]
          rw [cntT_s, p1_f z2, Nat.add_zero] at hI; rw [Int32.add_zero]; exact hI
  refine V_aload_n (pc := 0) hG (dk dd_X8_howManyBehind 0 rfl) rfl ?_
  refine V_iload_n (pc := 1) hG (dk dd_X8_howManyBehind 1 rfl) rfl ?_
  refine V_callVvp (pc := 2) hG (dk dd_X8_howManyBehind 2 rfl) ml_X8_34 mo_X8_goBehind sh_51 rfl (c_goBehind hA hv hx hn) (by decide) (by decide) rfl rfl rfl (fun m2 p2 => ?_)
  refine V_iconst (pc := 5) hG (dk dd_X8_howManyBehind 3 rfl) (v := 0) (by decide) ?_
  refine V_istore_n (pc := 6) hG (dk dd_X8_howManyBehind 4 rfl) (by decide) (lv' := [(0, _), (1, _), (2, _)]) rfl ?_
  refine V_iconst (pc := 7) hG (dk dd_X8_howManyBehind 5 rfl) (v := 0) (by decide) ?_
  refine V_istore_n (pc := 8) hG (dk dd_X8_howManyBehind 6 rfl) (by decide) (lv' := [(0, _), (1, _), (2, _), (3, _)]) rfl ?_
  rotate_left
  -- leaves: stop 9
  · exact loop _ p2.1 p2.2 256 0 (by omega)

theorem c_inAllBehind {μ : Mem} {α : Al} (hA : Abs (kac μ 15) α) (hv : Val α) {x : Int32} {n : Nat} (hx : x = nI n) (hn : n < 100) :
    CtP yX8_inAllBehind cX8_inAllBehind 4 (some .int) 5 [vR 51, vI x] μ (Pi (fun r μ' => (∀ a, a ≠ 52 → a ≠ 53 → μ' a = μ a) ∧ r = nI (andT (Rch α (α 0 3) n) (2 ^ α 0 0 - 1) (2 ^ α 0 0)))) := by
  refine CtP.go RX8 rfl pn_X8 (Nat.le_of_ble_eq_true rfl) (fun C hG hR => ?_)
  have hp := pow8 hv.t
  have hlt : ∀ E, Rch α (α 0 3) n E → E < 2 ^ α 0 0 := fun E h => Rch_lt hv hv.D h
  have loop : ∀ μ1 : Mem, (∀ a, a ≠ 52 → a ≠ 53 → μ1 a = μ a) → Mk (μ1 52) (Rch α (α 0 3) n) → ∀ k i, i + k = 256 → V C 17 [(0, vR 51), (1, vI x), (2, vI (nI (andT (Rch α (α 0 3) n) (2 ^ α 0 0 - 1) i))), (3, vI (nI i))] [] μ1 := by
    intro μ1 hf1 hm k
    induction k with
    | zero =>
      intro i hi
      refine V_iload_n (pc := 17) hG (dk dd_X8_inAllBehind 11 rfl) rfl ?_
      refine V_sipush (pc := 18) hG (dk dd_X8_inAllBehind 12 rfl) (v := 256) (by decide) ?_
      refine V_icmp_ge (pc := 21) hG (dk dd_X8_inAllBehind 13 rfl) (tgt := 47) (by decide) (fun h21 => ?_) (fun h21 => ?_)
      refine V_iload_n (pc := 47) hG (dk dd_X8_inAllBehind 27 rfl) rfl ?_
      refine V_iretP (pc := 48) hG (dk dd_X8_inAllBehind 28 rfl) hR (Pi.mk ?_)
      rotate_left
      rotate_left
      -- leaves: return@48; stop 24
      · refine ⟨hf1, ?_⟩
        have hi2 : i = 256 := by omega
        subst hi2
        have := andT_top (a := 2 ^ α 0 0 - 1) hlt (256 - 2 ^ α 0 0)
        rw [show 2 ^ α 0 0 + (256 - 2 ^ α 0 0) = 256 by omega] at this
        rw [this]
      · exfalso; have := nle_i (a := 256) h21 (by omega) (by omega); omega
    | succ k ih =>
      intro i hi
      have hI := ih (i + 1) (by omega)
      rw [nI_succ] at hI
      have hr : vp_in (nI i) 256 := vp_in_nI (by omega) (by decide)
      have ci : (nI i).toNatClampNeg = i := nI_clamp (by omega)
      refine V_iload_n (pc := 17) hG (dk dd_X8_inAllBehind 11 rfl) rfl ?_
      refine V_sipush (pc := 18) hG (dk dd_X8_inAllBehind 12 rfl) (v := 256) (by decide) ?_
      refine V_icmp_ge (pc := 21) hG (dk dd_X8_inAllBehind 13 rfl) (tgt := 47) (by decide) (fun h21 => ?_) (fun h21 => ?_)
      rotate_left
      refine V_iload_n (pc := 24) hG (dk dd_X8_inAllBehind 14 rfl) rfl ?_
      refine V_aload_n (pc := 25) hG (dk dd_X8_inAllBehind 15 rfl) rfl ?_
      refine V_getR (pc := 26) hG (dk dd_X8_inAllBehind 16 rfl) fl_X8_9 sh_51 rfl ?_
      refine V_iload_n (pc := 29) hG (dk dd_X8_inAllBehind 17 rfl) rfl ?_
      refine V_iald (pc := 30) hG (dk dd_X8_inAllBehind 18 rfl) sh_52 hr ?_
      refine V_if_eq (pc := 31) hG (dk dd_X8_inAllBehind 19 rfl) (tgt := 38) (by decide) (fun h31 => ?_) (fun h31 => ?_)
      refine V_iconst (pc := 38) hG (dk dd_X8_inAllBehind 22 rfl) (v := -1) (by decide) ?_
      refine V_iand (pc := 39) hG (dk dd_X8_inAllBehind 23 rfl) ?_
      refine V_istore_n (pc := 40) hG (dk dd_X8_inAllBehind 24 rfl) (by decide) (lv' := [(0, _), (1, _), (2, _), (3, _)]) rfl ?_
      refine V_iinc (pc := 41) hG (dk dd_X8_inAllBehind 25 rfl) rfl (v := _ + 1) rfl (by decide) (lv' := [(0, _), (1, _), (2, _), (3, _)]) rfl ?_
      refine V_goto (pc := 44) hG (dk dd_X8_inAllBehind 26 rfl) (tgt := 17) (by decide) ?_
      rotate_left
      refine V_iload_n (pc := 34) hG (dk dd_X8_inAllBehind 20 rfl) rfl ?_
      refine V_goto (pc := 35) hG (dk dd_X8_inAllBehind 21 rfl) (tgt := 39) (by decide) ?_
      refine V_iand (pc := 39) hG (dk dd_X8_inAllBehind 23 rfl) ?_
      refine V_istore_n (pc := 40) hG (dk dd_X8_inAllBehind 24 rfl) (by decide) (lv' := [(0, _), (1, _), (2, _), (3, _)]) rfl ?_
      refine V_iinc (pc := 41) hG (dk dd_X8_inAllBehind 25 rfl) rfl (v := _ + 1) rfl (by decide) (lv' := [(0, _), (1, _), (2, _), (3, _)]) rfl ?_
      refine V_goto (pc := 44) hG (dk dd_X8_inAllBehind 26 rfl) (tgt := 17) (by decide) ?_
      rotate_left
      -- leaves: stop 47; stop 17; stop 17
      · exfalso; have := le_i (a := 256) h21 (by omega) (by omega); omega
      · rw [ci] at h31
        have z2 := (hm i (by omega)).no h31
        rw [andT_f z2] at hI; rw [q_and1]; exact hI
      · rw [ci] at h31
        have z2 := (hm i (by omega)).yes h31
        rw [andT_t z2, ← q_andG (by have := andT_le (Rch α (α 0 3) n) (2 ^ α 0 0 - 1) i; omega) (by omega)] at hI; exact hI
  refine V_aload_n (pc := 0) hG (dk dd_X8_inAllBehind 0 rfl) rfl ?_
  refine V_iload_n (pc := 1) hG (dk dd_X8_inAllBehind 1 rfl) rfl ?_
  refine V_callVvp (pc := 2) hG (dk dd_X8_inAllBehind 2 rfl) ml_X8_34 mo_X8_goBehind sh_51 rfl (c_goBehind hA hv hx hn) (by decide) (by decide) rfl rfl rfl (fun m2 p2 => ?_)
  refine V_aload_n (pc := 5) hG (dk dd_X8_inAllBehind 3 rfl) rfl ?_
  refine V_getR (pc := 6) hG (dk dd_X8_inAllBehind 4 rfl) fl_X8_30 sh_51 rfl ?_
  refine V_callVi (pc := 9) hG (dk dd_X8_inAllBehind 5 rfl) ml_X8_38 mo_X2_dreamCount sh_15 rfl (c_dreamCount co_now) (by decide) (by decide) rfl rfl rfl ?_
  refine V_iconst (pc := 12) hG (dk dd_X8_inAllBehind 6 rfl) (v := 1) (by decide) ?_
  refine V_isub (pc := 13) hG (dk dd_X8_inAllBehind 7 rfl) ?_
  refine V_istore_n (pc := 14) hG (dk dd_X8_inAllBehind 8 rfl) (by decide) (lv' := [(0, _), (1, _), (2, _)]) rfl ?_
  refine V_iconst (pc := 15) hG (dk dd_X8_inAllBehind 9 rfl) (v := 0) (by decide) ?_
  refine V_istore_n (pc := 16) hG (dk dd_X8_inAllBehind 10 rfl) (by decide) (lv' := [(0, _), (1, _), (2, _), (3, _)]) rfl ?_
  rotate_left
  -- leaves: stop 17
  · have e0 : bI (m2 15 0) = nI (2 ^ α 0 0) := by rw [p2.1 15 (by decide) (by decide), show μ 15 0 = nI (α 0 0) from hA.1 0 (by decide)]; exact q_pow _ (by have := hv.t; omega)
    rw [e0, show (1 : Int32) = nI 1 from rfl, pk_sub (Nat.one_le_two_pow)]
    exact loop _ p2.1 p2.2 256 0 (by omega)

theorem c_inAnyBehind {μ : Mem} {α : Al} (hA : Abs (kac μ 15) α) (hv : Val α) {x : Int32} {n : Nat} (hx : x = nI n) (hn : n < 100) :
    CtP yX8_inAnyBehind cX8_inAnyBehind 4 (some .int) 5 [vR 51, vI x] μ (Pi (fun r μ' => (∀ a, a ≠ 52 → a ≠ 53 → μ' a = μ a) ∧ r = nI (orP (Rch α (α 0 3) n) (2 ^ α 0 0)))) := by
  refine CtP.go RX8 rfl pn_X8 (Nat.le_of_ble_eq_true rfl) (fun C hG hR => ?_)
  have hp := pow8 hv.t
  have hlt : ∀ E, Rch α (α 0 3) n E → E < 2 ^ α 0 0 := fun E h => Rch_lt hv hv.D h
  have loop : ∀ μ1 : Mem, (∀ a, a ≠ 52 → a ≠ 53 → μ1 a = μ a) → Mk (μ1 52) (Rch α (α 0 3) n) → ∀ k i, i + k = 256 → V C 9 [(0, vR 51), (1, vI x), (2, vI (nI (orP (Rch α (α 0 3) n) i))), (3, vI (nI i))] [] μ1 := by
    intro μ1 hf1 hm k
    induction k with
    | zero =>
      intro i hi
      refine V_iload_n (pc := 9) hG (dk dd_X8_inAnyBehind 7 rfl) rfl ?_
      refine V_sipush (pc := 10) hG (dk dd_X8_inAnyBehind 8 rfl) (v := 256) (by decide) ?_
      refine V_icmp_ge (pc := 13) hG (dk dd_X8_inAnyBehind 9 rfl) (tgt := 39) (by decide) (fun h13 => ?_) (fun h13 => ?_)
      refine V_iload_n (pc := 39) hG (dk dd_X8_inAnyBehind 23 rfl) rfl ?_
      refine V_iretP (pc := 40) hG (dk dd_X8_inAnyBehind 24 rfl) hR (Pi.mk ?_)
      rotate_left
      rotate_left
      -- leaves: return@40; stop 16
      · refine ⟨hf1, ?_⟩
        have hi2 : i = 256 := by omega
        subst hi2
        have := orP_top hlt (256 - 2 ^ α 0 0)
        rw [show 2 ^ α 0 0 + (256 - 2 ^ α 0 0) = 256 by omega] at this
        rw [this]
      · exfalso; have := nle_i (a := 256) h13 (by omega) (by omega); omega
    | succ k ih =>
      intro i hi
      have hI := ih (i + 1) (by omega)
      rw [nI_succ] at hI
      have hr : vp_in (nI i) 256 := vp_in_nI (by omega) (by decide)
      have ci : (nI i).toNatClampNeg = i := nI_clamp (by omega)
      refine V_iload_n (pc := 9) hG (dk dd_X8_inAnyBehind 7 rfl) rfl ?_
      refine V_sipush (pc := 10) hG (dk dd_X8_inAnyBehind 8 rfl) (v := 256) (by decide) ?_
      refine V_icmp_ge (pc := 13) hG (dk dd_X8_inAnyBehind 9 rfl) (tgt := 39) (by decide) (fun h13 => ?_) (fun h13 => ?_)
      rotate_left
      refine V_iload_n (pc := 16) hG (dk dd_X8_inAnyBehind 10 rfl) rfl ?_
      refine V_aload_n (pc := 17) hG (dk dd_X8_inAnyBehind 11 rfl) rfl ?_
      refine V_getR (pc := 18) hG (dk dd_X8_inAnyBehind 12 rfl) fl_X8_9 sh_51 rfl ?_
      refine V_iload_n (pc := 21) hG (dk dd_X8_inAnyBehind 13 rfl) rfl ?_
      refine V_iald (pc := 22) hG (dk dd_X8_inAnyBehind 14 rfl) sh_52 hr ?_
      refine V_if_eq (pc := 23) hG (dk dd_X8_inAnyBehind 15 rfl) (tgt := 30) (by decide) (fun h23 => ?_) (fun h23 => ?_)
      refine V_iconst (pc := 30) hG (dk dd_X8_inAnyBehind 18 rfl) (v := 0) (by decide) ?_
      refine V_ior (pc := 31) hG (dk dd_X8_inAnyBehind 19 rfl) ?_
      refine V_istore_n (pc := 32) hG (dk dd_X8_inAnyBehind 20 rfl) (by decide) (lv' := [(0, _), (1, _), (2, _), (3, _)]) rfl ?_
      refine V_iinc (pc := 33) hG (dk dd_X8_inAnyBehind 21 rfl) rfl (v := _ + 1) rfl (by decide) (lv' := [(0, _), (1, _), (2, _), (3, _)]) rfl ?_
      refine V_goto (pc := 36) hG (dk dd_X8_inAnyBehind 22 rfl) (tgt := 9) (by decide) ?_
      rotate_left
      refine V_iload_n (pc := 26) hG (dk dd_X8_inAnyBehind 16 rfl) rfl ?_
      refine V_goto (pc := 27) hG (dk dd_X8_inAnyBehind 17 rfl) (tgt := 31) (by decide) ?_
      refine V_ior (pc := 31) hG (dk dd_X8_inAnyBehind 19 rfl) ?_
      refine V_istore_n (pc := 32) hG (dk dd_X8_inAnyBehind 20 rfl) (by decide) (lv' := [(0, _), (1, _), (2, _), (3, _)]) rfl ?_
      refine V_iinc (pc := 33) hG (dk dd_X8_inAnyBehind 21 rfl) rfl (v := _ + 1) rfl (by decide) (lv' := [(0, _), (1, _), (2, _), (3, _)]) rfl ?_
      refine V_goto (pc := 36) hG (dk dd_X8_inAnyBehind 22 rfl) (tgt := 9) (by decide) ?_
      rotate_left
      -- leaves: stop 39; stop 9; stop 9
      · exfalso; have := le_i (a := 256) h13 (by omega) (by omega); omega
      · rw [ci] at h23
        have z2 := (hm i (by omega)).no h23
        rw [orP_f z2] at hI; rw [Int32.or_zero]; exact hI
      · rw [ci] at h23
        have z2 := (hm i (by omega)).yes h23
        rw [orP_t z2, ← q_orG (by have := orP_lt (Rch α (α 0 3) n) i (by omega); omega) (by omega)] at hI; exact hI
  refine V_aload_n (pc := 0) hG (dk dd_X8_inAnyBehind 0 rfl) rfl ?_
  refine V_iload_n (pc := 1) hG (dk dd_X8_inAnyBehind 1 rfl) rfl ?_
  refine V_callVvp (pc := 2) hG (dk dd_X8_inAnyBehind 2 rfl) ml_X8_34 mo_X8_goBehind sh_51 rfl (c_goBehind hA hv hx hn) (by decide) (by decide) rfl rfl rfl (fun m2 p2 => ?_)
  refine V_iconst (pc := 5) hG (dk dd_X8_inAnyBehind 3 rfl) (v := 0) (by decide) ?_
  refine V_istore_n (pc := 6) hG (dk dd_X8_inAnyBehind 4 rfl) (by decide) (lv' := [(0, _), (1, _), (2, _)]) rfl ?_
  refine V_iconst (pc := 7) hG (dk dd_X8_inAnyBehind 5 rfl) (v := 0) (by decide) ?_
  refine V_istore_n (pc := 8) hG (dk dd_X8_inAnyBehind 6 rfl) (by decide) (lv' := [(0, _), (1, _), (2, _), (3, _)]) rfl ?_
  rotate_left
  -- leaves: stop 9
  · exact loop _ p2.1 p2.2 256 0 (by omega)

theorem c_leastBehind {μ : Mem} {α : Al} (hA : Abs (kac μ 15) α) (hv : Val α) {x : Int32} {n : Nat} (hx : x = nI n) (hn : n < 100) :
    CtP yX8_leastBehind cX8_leastBehind 3 (some .int) 5 [vR 51, vI x] μ (Pi (fun r μ' => (∀ a, a ≠ 52 → a ≠ 53 → μ' a = μ a) ∧ IsL (Rch α (α 0 3) n) (2 ^ α 0 0) r)) := by
  refine CtP.go RX8 rfl pn_X8 (Nat.le_of_ble_eq_true rfl) (fun C hG hR => ?_)
  have hp := pow8 hv.t
  have hlt : ∀ E, Rch α (α 0 3) n E → E < 2 ^ α 0 0 := fun E h => Rch_lt hv hv.D h
  have loop : ∀ μ1 : Mem, (∀ a, a ≠ 52 → a ≠ 53 → μ1 a = μ a) → Mk (μ1 52) (Rch α (α 0 3) n) → ∀ k i, i + k = 256 → (∀ E, E < i → ¬ Rch α (α 0 3) n E) → V C 7 [(0, vR 51), (1, vI x), (2, vI (nI i))] [] μ1 := by
    intro μ1 hf1 hm k
    induction k with
    | zero =>
      intro i hi hE
      refine V_iload_n (pc := 7) hG (dk dd_X8_leastBehind 5 rfl) rfl ?_
      refine V_sipush (pc := 8) hG (dk dd_X8_leastBehind 6 rfl) (v := 256) (by decide) ?_
      refine V_icmp_ge (pc := 11) hG (dk dd_X8_leastBehind 7 rfl) (tgt := 31) (by decide) (fun h11 => ?_) (fun h11 => ?_)
      refine V_ldc (pc := 31) hG (dk dd_X8_leastBehind 17 rfl) kk_X8_44 ?_
      refine V_iretP (pc := 33) hG (dk dd_X8_leastBehind 18 rfl) hR (Pi.mk ?_)
      rotate_left
      rotate_left
      -- leaves: return@33; stop 14
      · exact ⟨hf1, Or.inr ⟨fun D hD => hE D (by omega), rfl⟩⟩
      · exfalso; have := nle_i (a := 256) h11 (by omega) (by omega); omega
    | succ k ih =>
      intro i hi hE
      have hI := fun z => ih (i + 1) (by omega) z
      rw [nI_succ] at hI
      have hr : vp_in (nI i) 256 := vp_in_nI (by omega) (by decide)
      have ci : (nI i).toNatClampNeg = i := nI_clamp (by omega)
      refine V_iload_n (pc := 7) hG (dk dd_X8_leastBehind 5 rfl) rfl ?_
      refine V_sipush (pc := 8) hG (dk dd_X8_leastBehind 6 rfl) (v := 256) (by decide) ?_
      refine V_icmp_ge (pc := 11) hG (dk dd_X8_leastBehind 7 rfl) (tgt := 31) (by decide) (fun h11 => ?_) (fun h11 => ?_)
      rotate_left
      refine V_aload_n (pc := 14) hG (dk dd_X8_leastBehind 8 rfl) rfl ?_
      refine V_getR (pc := 15) hG (dk dd_X8_leastBehind 9 rfl) fl_X8_9 sh_51 rfl ?_
      refine V_iload_n (pc := 18) hG (dk dd_X8_leastBehind 10 rfl) rfl ?_
      refine V_iald (pc := 19) hG (dk dd_X8_leastBehind 11 rfl) sh_52 hr ?_
      refine V_if_eq (pc := 20) hG (dk dd_X8_leastBehind 12 rfl) (tgt := 25) (by decide) (fun h20 => ?_) (fun h20 => ?_)
      refine V_iinc (pc := 25) hG (dk dd_X8_leastBehind 15 rfl) rfl (v := _ + 1) rfl (by decide) (lv' := [(0, _), (1, _), (2, _)]) rfl ?_
      refine V_goto (pc := 28) hG (dk dd_X8_leastBehind 16 rfl) (tgt := 7) (by decide) ?_
      rotate_left
      refine V_iload_n (pc := 23) hG (dk dd_X8_leastBehind 13 rfl) rfl ?_
      refine V_iretP (pc := 24) hG (dk dd_X8_leastBehind 14 rfl) hR (Pi.mk ?_)
      rotate_left
      -- leaves: stop 31; stop 7; return@24
      · exfalso; have := le_i (a := 256) h11 (by omega) (by omega); omega
      · rw [ci] at h20
        refine hI (fun E hE' => ?_)
        rcases Nat.lt_succ_iff_lt_or_eq.mp hE' with z | z
        · exact hE E z
        · rw [z]; exact (hm i (by omega)).no h20
      · rw [ci] at h20
        have z2 := (hm i (by omega)).yes h20
        exact ⟨hf1, Or.inl ⟨i, hlt i z2, z2, rfl, hE⟩⟩
  refine V_aload_n (pc := 0) hG (dk dd_X8_leastBehind 0 rfl) rfl ?_
  refine V_iload_n (pc := 1) hG (dk dd_X8_leastBehind 1 rfl) rfl ?_
  refine V_callVvp (pc := 2) hG (dk dd_X8_leastBehind 2 rfl) ml_X8_34 mo_X8_goBehind sh_51 rfl (c_goBehind hA hv hx hn) (by decide) (by decide) rfl rfl rfl (fun m2 p2 => ?_)
  refine V_iconst (pc := 5) hG (dk dd_X8_leastBehind 3 rfl) (v := 0) (by decide) ?_
  refine V_istore_n (pc := 6) hG (dk dd_X8_leastBehind 4 rfl) (by decide) (lv' := [(0, _), (1, _), (2, _)]) rfl ?_
  rotate_left
  -- leaves: stop 7
  · exact loop _ p2.1 p2.2 256 0 (by omega) (fun E hE => absurd hE (Nat.not_lt_zero E))
theorem c_greatestBehind {μ : Mem} {α : Al} (hA : Abs (kac μ 15) α) (hv : Val α) {x : Int32} {n : Nat} (hx : x = nI n) (hn : n < 100) :
    CtP yX8_greatestBehind cX8_greatestBehind 3 (some .int) 5 [vR 51, vI x] μ (Pi (fun r μ' => (∀ a, a ≠ 52 → a ≠ 53 → μ' a = μ a) ∧ IsG (Rch α (α 0 3) n) (2 ^ α 0 0) r)) := by
  refine CtP.go RX8 rfl pn_X8 (Nat.le_of_ble_eq_true rfl) (fun C hG hR => ?_)
  have hp := pow8 hv.t
  have hlt : ∀ E, Rch α (α 0 3) n E → E < 2 ^ α 0 0 := fun E h => Rch_lt hv hv.D h
  have loop : ∀ μ1 : Mem, (∀ a, a ≠ 52 → a ≠ 53 → μ1 a = μ a) → Mk (μ1 52) (Rch α (α 0 3) n) → ∀ i, i ≤ 256 → (∀ E, i ≤ E → E < 256 → ¬ Rch α (α 0 3) n E) → V C 9 [(0, vR 51), (1, vI x), (2, vI (nI i + (-1)))] [] μ1 := by
    intro μ1 hf1 hm i
    induction i with
    | zero =>
      intro hi hE
      refine V_iload_n (pc := 9) hG (dk dd_X8_greatestBehind 5 rfl) rfl ?_
      refine V_if_lt (pc := 10) hG (dk dd_X8_greatestBehind 6 rfl) (tgt := 30) (by decide) (fun h10 => ?_) (fun h10 => ?_)
      refine V_ldc (pc := 30) hG (dk dd_X8_greatestBehind 16 rfl) kk_X8_44 ?_
      refine V_iretP (pc := 32) hG (dk dd_X8_greatestBehind 17 rfl) hR (Pi.mk ?_)
      rotate_left
      rotate_left
      -- leaves: return@32; stop 13
      · exact ⟨hf1, Or.inr ⟨fun D hD => hE D (Nat.zero_le D) (by omega), rfl⟩⟩
      · exact absurd (by decide) h10
    | succ i ih =>
      intro hi hE
      have hI := fun z => ih (by omega) z
      have hr : vp_in (nI i) 256 := vp_in_nI (by omega) (by decide)
      have ci : (nI i).toNatClampNeg = i := nI_clamp (by omega)
      rw [pk_m1]
      refine V_iload_n (pc := 9) hG (dk dd_X8_greatestBehind 5 rfl) rfl ?_
      refine V_if_lt (pc := 10) hG (dk dd_X8_greatestBehind 6 rfl) (tgt := 30) (by decide) (fun h10 => ?_) (fun h10 => ?_)
      rotate_left
      refine V_aload_n (pc := 13) hG (dk dd_X8_greatestBehind 7 rfl) rfl ?_
      refine V_getR (pc := 14) hG (dk dd_X8_greatestBehind 8 rfl) fl_X8_9 sh_51 rfl ?_
      refine V_iload_n (pc := 17) hG (dk dd_X8_greatestBehind 9 rfl) rfl ?_
      refine V_iald (pc := 18) hG (dk dd_X8_greatestBehind 10 rfl) sh_52 hr ?_
      refine V_if_eq (pc := 19) hG (dk dd_X8_greatestBehind 11 rfl) (tgt := 24) (by decide) (fun h19 => ?_) (fun h19 => ?_)
      refine V_iinc (pc := 24) hG (dk dd_X8_greatestBehind 14 rfl) rfl (v := _ + (-1)) rfl (by decide) (lv' := [(0, _), (1, _), (2, _)]) rfl ?_
      refine V_goto (pc := 27) hG (dk dd_X8_greatestBehind 15 rfl) (tgt := 9) (by decide) ?_
      rotate_left
      refine V_iload_n (pc := 22) hG (dk dd_X8_greatestBehind 12 rfl) rfl ?_
      refine V_iretP (pc := 23) hG (dk dd_X8_greatestBehind 13 rfl) hR (Pi.mk ?_)
      rotate_left
      -- leaves: stop 30; stop 9; return@23
      · exact absurd h10 (nI_pos (by omega))
      · rw [ci] at h19
        refine hI (fun E h1 h2 => ?_)
        by_cases e : E = i
        · rw [e]; exact (hm i (by omega)).no h19
        · exact hE E (by omega) h2
      · rw [ci] at h19
        have z2 := (hm i (by omega)).yes h19
        exact ⟨hf1, Or.inl ⟨i, hlt i z2, z2, rfl, fun E h1 h2 => hE E (by omega) (by omega)⟩⟩
  refine V_aload_n (pc := 0) hG (dk dd_X8_greatestBehind 0 rfl) rfl ?_
  refine V_iload_n (pc := 1) hG (dk dd_X8_greatestBehind 1 rfl) rfl ?_
  refine V_callVvp (pc := 2) hG (dk dd_X8_greatestBehind 2 rfl) ml_X8_34 mo_X8_goBehind sh_51 rfl (c_goBehind hA hv hx hn) (by decide) (by decide) rfl rfl rfl (fun m2 p2 => ?_)
  refine V_sipush (pc := 5) hG (dk dd_X8_greatestBehind 3 rfl) (v := 255) (by decide) ?_
  refine V_istore_n (pc := 8) hG (dk dd_X8_greatestBehind 4 rfl) (by decide) (lv' := [(0, _), (1, _), (2, _)]) rfl ?_
  rotate_left
  -- leaves: stop 9
  · exact loop _ p2.1 p2.2 256 (by omega) (fun E h1 h2 => by omega)
