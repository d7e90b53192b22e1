/-! ===== powers, divisors, parts ===== -/
theorem c_power {μ : Mem} {x y : Int32} {b k : Nat} (hx : x = nI b) (hb : b ≤ 10) (hy : y = nI k) (hk : k ≤ 8) : CtP yX9_power cX9_power 5 (some .long) 0 [vI x, vI y] μ (Pl (fun r μ' => μ' = μ ∧ r = lN (b ^ k))) := by
  refine CtP.go RX9 rfl pn_X9 (Nat.le_of_ble_eq_true rfl) (fun C hG hR => ?_)
  have loop : ∀ j i, i + j = k → V C 5 [(0, vI x), (1, vI y), (2, vL (lN (b ^ i))), (4, vI (nI i))] [] μ := by
    intro j
    induction j with
    | zero =>
      intro i hi
      refine V_iload (pc := 5) hG (dk dd_X9_power 4 rfl) rfl ?_
      refine V_iload_n (pc := 7) hG (dk dd_X9_power 5 rfl) rfl ?_
      refine V_icmp_ge (pc := 8) hG (dk dd_X9_power 6 rfl) (tgt := 22) (by decide) (fun h8 => ?_) (fun h8 => ?_)
      refine V_lload_n (pc := 22) hG (dk dd_X9_power 14 rfl) rfl ?_
      refine V_lretP (pc := 23) hG (dk dd_X9_power 15 rfl) hR (Pl.mk ?_)
      rotate_left
      rotate_left
      -- leaves: return@23; stop 11
      · exact ⟨rfl, by rw [show i = k by omega]⟩
      · exfalso; rw [hy] at h8; have := nle_i h8 (by omega) (by omega); omega
    | succ j ih =>
      intro i hi
      have hI := ih (i + 1) (by omega)
      rw [nI_succ, Nat.pow_succ, ← lN_mul] at hI
      refine V_iload (pc := 5) hG (dk dd_X9_power 4 rfl) rfl ?_
      refine V_iload_n (pc := 7) hG (dk dd_X9_power 5 rfl) rfl ?_
      refine V_icmp_ge (pc := 8) hG (dk dd_X9_power 6 rfl) (tgt := 22) (by decide) (fun h8 => ?_) (fun h8 => ?_)
      rotate_left
      refine V_lload_n (pc := 11) hG (dk dd_X9_power 7 rfl) rfl ?_
      refine V_iload_n (pc := 12) hG (dk dd_X9_power 8 rfl) rfl ?_
      refine V_i2l (pc := 13) hG (dk dd_X9_power 9 rfl) ?_
      refine V_lmul (pc := 14) hG (dk dd_X9_power 10 rfl) ?_
      refine V_lstore_n (pc := 15) hG (dk dd_X9_power 11 rfl) (by decide) (lv' := [(0, _), (1, _), (2, _), (4, _)]) rfl ?_
      refine V_iinc (pc := 16) hG (dk dd_X9_power 12 rfl) rfl (v := _ + 1) rfl (by decide) (lv' := [(0, _), (1, _), (2, _), (4, _)]) rfl ?_
      refine V_goto (pc := 19) hG (dk dd_X9_power 13 rfl) (tgt := 5) (by decide) ?_
      rotate_left
      -- leaves: stop 22; stop 5
      · exfalso; rw [hy] at h8; have := le_i h8 (by omega) (by omega); omega
      · rw [hx, nI_l (by omega)]
        rw [hx] at hI
        exact hI
  refine V_lconst (pc := 0) hG (dk dd_X9_power 0 rfl) (v := 1) (by decide) ?_
  refine V_lstore_n (pc := 1) hG (dk dd_X9_power 1 rfl) (by decide) (lv' := [(0, _), (1, _), (2, _)]) rfl ?_
  refine V_iconst (pc := 2) hG (dk dd_X9_power 2 rfl) (v := 0) (by decide) ?_
  refine V_istore (pc := 3) hG (dk dd_X9_power 3 rfl) (by decide) (lv' := [(0, _), (1, _), (2, _), (4, _)]) rfl ?_
  rotate_left
  -- leaves: stop 5
  · exact loop k 0 (by omega)
theorem mod_half {a b : Nat} (hb : 0 < b) (h : 0 < a % b) : 2 * (b % (a % b)) < b := by
  have h1 : a % b < b := Nat.mod_lt _ hb
  have h2 : b % (a % b) < a % b := Nat.mod_lt _ h
  have h3 : b % (a % b) ≤ b - a % b := by
    have := Nat.mod_eq_sub_mod (a := b) (b := a % b) (by omega)
    rw [this]; exact Nat.mod_le _ _
  omega
theorem c_commonDivisor {μ : Mem} {x y : Int64} {a b : Nat} (hx : x = lN a) (ha : a < 2 ^ 62) (hy : y = lN b) (hb : b < 2 ^ 62) : CtP yX9_commonDivisor cX9_commonDivisor 11 (some .long) 0 [vL x, vL y] μ (Pl (fun r μ' => μ' = μ ∧ r = lN (Nat.gcd a b))) := by
  refine CtP.go RX9 rfl pn_X9 (Nat.le_of_ble_eq_true rfl) (fun C hG hR => ?_)
  have ne0 : ∀ {c : Nat}, c < 2 ^ 62 → ((lg_cmp (lN c) 0 = 0) ↔ c = 0) := by
    intro c hc
    unfold lg_cmp
    rw [show (0 : Int64) = lN 0 from rfl]
    by_cases q : c = 0
    · subst q; simp
    · rw [if_pos (show lN c > lN 0 from (pk_lLT (by decide) (by omega)).mpr (by omega))]
      exact ⟨fun z => absurd z (by decide), fun z => absurd z q⟩
  have n0 : ∀ {c : Nat}, c < 2 ^ 62 → ¬ c = 0 → ¬ lN c = 0 := fun hc h0 z => h0 ((pk_lEQ (b := 0) (by omega) (by decide)).mp z)
  have loop : ∀ k i a' b' lv9, (lv9 = [] ∨ ∃ z, lv9 = [(9, vL z)]) → a' < 2 ^ 62 → b' < 2 ^ k → k ≤ 62 → i + 2 * k ≤ 128 → Nat.gcd a' b' = Nat.gcd a b → V C 9 ([(0, vL x), (2, vL y), (4, vL (lN a')), (6, vL (lN b')), (8, vI (nI i))]) [] μ := by
    intro k
    induction k with
    | zero =>
      intro i a' b' lv9 _ h1 h2 h3 h4 h5
      have hb0 : b' = 0 := by omega
      refine V_iload (pc := 9) hG (dk dd_X9_commonDivisor 6 rfl) rfl ?_
      refine V_sipush (pc := 11) hG (dk dd_X9_commonDivisor 7 rfl) (v := 128) (by decide) ?_
      refine V_icmp_ge (pc := 14) hG (dk dd_X9_commonDivisor 8 rfl) (tgt := 45) (by decide) (fun h14 => ?_) (fun h14 => ?_)
      refine V_lload (pc := 45) hG (dk dd_X9_commonDivisor 23 rfl) rfl ?_
      refine V_lretP (pc := 47) hG (dk dd_X9_commonDivisor 24 rfl) hR (Pl.mk ?_)
      rotate_left
      refine V_lload (pc := 17) hG (dk dd_X9_commonDivisor 9 rfl) rfl ?_
      refine V_lconst (pc := 19) hG (dk dd_X9_commonDivisor 10 rfl) (v := 0) (by decide) ?_
      refine V_lcmp (pc := 20) hG (dk dd_X9_commonDivisor 11 rfl) ?_
      refine V_if_eq (pc := 21) hG (dk dd_X9_commonDivisor 12 rfl) (tgt := 45) (by decide) (fun h21 => ?_) (fun h21 => ?_)
      refine V_lload (pc := 45) hG (dk dd_X9_commonDivisor 23 rfl) rfl ?_
      refine V_lretP (pc := 47) hG (dk dd_X9_commonDivisor 24 rfl) hR (Pl.mk ?_)
      rotate_left
      rotate_left
      -- leaves: return@47; return@47; stop 24
      · exact ⟨rfl, by rw [← h5, hb0, Nat.gcd_zero_right]⟩
      · exact ⟨rfl, by rw [← h5, hb0, Nat.gcd_zero_right]⟩
      · exact absurd ((ne0 (by omega)).mpr hb0) h21
    | succ k ih =>
      intro i a' b' lv9 _ h1 h2 h3 h4 h5
      have h2' : b' < 2 ^ 62 := Nat.lt_of_lt_of_le h2 (Nat.pow_le_pow_right (by decide) h3)
      have rem : ∀ {p q : Nat}, p < 2 ^ 62 → 0 < q → q < 2 ^ 62 → lN p - lN p / lN q * lN q = lN (p % q) := fun hp h0 hq => pk_lRem (by omega) h0 (by omega)
      have second : ∀ b2, ¬ b' = 0 → b2 = a' % b' → V C 9 [(0, vL x), (2, vL y), (4, vL (lN b')), (6, vL (lN b2)), (8, vI (nI (i + 1)))] [] μ := by
        intro b2 hb0 hb2
        have hlt : b2 < b' := by rw [hb2]; exact Nat.mod_lt _ (by omega)
        have hg : Nat.gcd b' b2 = Nat.gcd a b := by rw [← h5, hb2, Nat.gcd_comm b', ← Nat.gcd_rec, Nat.gcd_comm]
        refine V_iload (pc := 9) hG (dk dd_X9_commonDivisor 6 rfl) rfl ?_
        refine V_sipush (pc := 11) hG (dk dd_X9_commonDivisor 7 rfl) (v := 128) (by decide) ?_
        refine V_icmp_ge (pc := 14) hG (dk dd_X9_commonDivisor 8 rfl) (tgt := 45) (by decide) (fun h14 => ?_) (fun h14 => ?_)
        refine V_lload (pc := 45) hG (dk dd_X9_commonDivisor 23 rfl) rfl ?_
        refine V_lretP (pc := 47) hG (dk dd_X9_commonDivisor 24 rfl) hR (Pl.mk ?_)
        rotate_left
        refine V_lload (pc := 17) hG (dk dd_X9_commonDivisor 9 rfl) rfl ?_
        refine V_lconst (pc := 19) hG (dk dd_X9_commonDivisor 10 rfl) (v := 0) (by decide) ?_
        refine V_lcmp (pc := 20) hG (dk dd_X9_commonDivisor 11 rfl) ?_
        refine V_if_eq (pc := 21) hG (dk dd_X9_commonDivisor 12 rfl) (tgt := 45) (by decide) (fun h21 => ?_) (fun h21 => ?_)
        refine V_lload (pc := 45) hG (dk dd_X9_commonDivisor 23 rfl) rfl ?_
        refine V_lretP (pc := 47) hG (dk dd_X9_commonDivisor 24 rfl) hR (Pl.mk ?_)
        rotate_left
        refine V_lload (pc := 24) hG (dk dd_X9_commonDivisor 13 rfl) rfl ?_
        refine V_lload (pc := 26) hG (dk dd_X9_commonDivisor 14 rfl) rfl ?_
        refine V_lrem (pc := 28) hG (dk dd_X9_commonDivisor 15 rfl) ?_ ?_
        rotate_left
        refine V_lstore (pc := 29) hG (dk dd_X9_commonDivisor 16 rfl) (by decide) (lv' := [(0, _), (2, _), (4, _), (6, _), (8, _), (9, _)]) rfl ?_
        refine V_lload (pc := 31) hG (dk dd_X9_commonDivisor 17 rfl) rfl ?_
        refine V_lstore (pc := 33) hG (dk dd_X9_commonDivisor 18 rfl) (by decide) (lv' := [(0, _), (2, _), (4, _), (6, _), (8, _), (9, _)]) rfl ?_
        refine V_lload (pc := 35) hG (dk dd_X9_commonDivisor 19 rfl) rfl ?_
        refine V_lstore (pc := 37) hG (dk dd_X9_commonDivisor 20 rfl) (by decide) (lv' := [(0, _), (2, _), (4, _), (6, _), (8, _), (9, _)]) rfl ?_
        refine V_iinc (pc := 39) hG (dk dd_X9_commonDivisor 21 rfl) rfl (v := _ + 1) rfl (by decide) (lv' := [(0, _), (2, _), (4, _), (6, _), (8, _), (9, _)]) rfl ?_
        refine V_goto (pc := 42) hG (dk dd_X9_commonDivisor 22 rfl) (tgt := 9) (by decide) ?_
        refine V_keep [0, 2, 4, 6, 8] (lv' := [(0, _), (2, _), (4, _), (6, _), (8, _)]) rfl ?_
        rotate_left
        -- leaves: return@47; return@47; lrem@28 ≠ 0; stop 9
        · exfalso; have := le_i (a := 128) h14 (by omega) (by omega); omega
        · have := (ne0 (by omega)).mp h21
          exact ⟨rfl, by rw [← hg, this, Nat.gcd_zero_right]⟩
        · exact n0 (by omega) (fun z => h21 ((ne0 (by omega)).mpr z))
        · have hb20 : ¬ b2 = 0 := fun z => h21 ((ne0 (by omega)).mpr z)
          rw [rem (by omega) (by omega) (by omega)]
          have hI := ih (i + 2) b2 (b' % b2) [] (Or.inl rfl) (by omega) (by have := mod_half (a := a') (b := b') (by omega) (by omega); rw [← hb2] at this; rw [Nat.pow_succ] at h2; omega) (by omega) (by omega) (by rw [← hg, Nat.gcd_comm b2, ← Nat.gcd_rec, Nat.gcd_comm])
          rw [show i + 2 = (i + 1) + 1 from rfl, nI_succ] at hI
          exact hI
      refine V_iload (pc := 9) hG (dk dd_X9_commonDivisor 6 rfl) rfl ?_
      refine V_sipush (pc := 11) hG (dk dd_X9_commonDivisor 7 rfl) (v := 128) (by decide) ?_
      refine V_icmp_ge (pc := 14) hG (dk dd_X9_commonDivisor 8 rfl) (tgt := 45) (by decide) (fun h14 => ?_) (fun h14 => ?_)
      refine V_lload (pc := 45) hG (dk dd_X9_commonDivisor 23 rfl) rfl ?_
      refine V_lretP (pc := 47) hG (dk dd_X9_commonDivisor 24 rfl) hR (Pl.mk ?_)
      rotate_left
      refine V_lload (pc := 17) hG (dk dd_X9_commonDivisor 9 rfl) rfl ?_
      refine V_lconst (pc := 19) hG (dk dd_X9_commonDivisor 10 rfl) (v := 0) (by decide) ?_
      refine V_lcmp (pc := 20) hG (dk dd_X9_commonDivisor 11 rfl) ?_
      refine V_if_eq (pc := 21) hG (dk dd_X9_commonDivisor 12 rfl) (tgt := 45) (by decide) (fun h21 => ?_) (fun h21 => ?_)
      refine V_lload (pc := 45) hG (dk dd_X9_commonDivisor 23 rfl) rfl ?_
      refine V_lretP (pc := 47) hG (dk dd_X9_commonDivisor 24 rfl) hR (Pl.mk ?_)
      rotate_left
      refine V_lload (pc := 24) hG (dk dd_X9_commonDivisor 13 rfl) rfl ?_
      refine V_lload (pc := 26) hG (dk dd_X9_commonDivisor 14 rfl) rfl ?_
      refine V_lrem (pc := 28) hG (dk dd_X9_commonDivisor 15 rfl) ?_ ?_
      rotate_left
      refine V_lstore (pc := 29) hG (dk dd_X9_commonDivisor 16 rfl) (by decide) (lv' := [(0, _), (2, _), (4, _), (6, _), (8, _), (9, _)]) rfl ?_
      refine V_lload (pc := 31) hG (dk dd_X9_commonDivisor 17 rfl) rfl ?_
      refine V_lstore (pc := 33) hG (dk dd_X9_commonDivisor 18 rfl) (by decide) (lv' := [(0, _), (2, _), (4, _), (6, _), (8, _), (9, _)]) rfl ?_
      refine V_lload (pc := 35) hG (dk dd_X9_commonDivisor 19 rfl) rfl ?_
      refine V_lstore (pc := 37) hG (dk dd_X9_commonDivisor 20 rfl) (by decide) (lv' := [(0, _), (2, _), (4, _), (6, _), (8, _), (9, _)]) rfl ?_
      refine V_iinc (pc := 39) hG (dk dd_X9_commonDivisor 21 rfl) rfl (v := _ + 1) rfl (by decide) (lv' := [(0, _), (2, _), (4, _), (6, _), (8, _), (9, _)]) rfl ?_
      refine V_goto (pc := 42) hG (dk dd_X9_commonDivisor 22 rfl) (tgt := 9) (by decide) ?_
      refine V_keep [0, 2, 4, 6, 8] (lv' := [(0, _), (2, _), (4, _), (6, _), (8, _)]) rfl ?_
      rotate_left
      -- leaves: return@47; return@47; lrem@28 ≠ 0; stop 9
      · exfalso; have := le_i (a := 128) h14 (by omega) (by omega); omega
      · have := (ne0 h2').mp h21
        exact ⟨rfl, by rw [← h5, this, Nat.gcd_zero_right]⟩
      · exact n0 h2' (fun z => h21 ((ne0 h2').mpr z))
      · have hb0 : ¬ b' = 0 := fun z => h21 ((ne0 h2').mpr z)
        rw [rem h1 (by omega) h2']
        have := second (a' % b') hb0 rfl
        rw [nI_succ] at this
        exact this
  refine V_lload_n (pc := 0) hG (dk dd_X9_commonDivisor 0 rfl) rfl ?_
  refine V_lstore (pc := 1) hG (dk dd_X9_commonDivisor 1 rfl) (by decide) (lv' := [(0, _), (2, _), (4, _)]) rfl ?_
  refine V_lload_n (pc := 3) hG (dk dd_X9_commonDivisor 2 rfl) rfl ?_
  refine V_lstore (pc := 4) hG (dk dd_X9_commonDivisor 3 rfl) (by decide) (lv' := [(0, _), (2, _), (4, _), (6, _)]) rfl ?_
  refine V_iconst (pc := 6) hG (dk dd_X9_commonDivisor 4 rfl) (v := 0) (by decide) ?_
  refine V_istore (pc := 7) hG (dk dd_X9_commonDivisor 5 rfl) (by decide) (lv' := [(0, _), (2, _), (4, _), (6, _), (8, _)]) rfl ?_
  rotate_left
  -- leaves: stop 9
  · have := loop 62 0 a b [] (Or.inl rfl) ha hb (by decide) (by decide) rfl
    rw [← hx, ← hy] at this
    exact this
theorem q_sub {x y : Nat} (hx : x < 2 ^ 31) (hy : y < 2 ^ 31) : (nI x &&& (nI y ^^^ (-1)) = 0) ↔ x &&& y = x := by
  have e : (nI x &&& (nI y ^^^ (-1))).toBitVec.toNat = x &&& (y ^^^ (2 ^ 32 - 1)) := by
    rw [Int32.toBitVec_and, Int32.toBitVec_xor, BitVec.toNat_and, BitVec.toNat_xor, pk_tn (by omega), pk_tn (by omega)]; rfl
  have h0 : (nI x &&& (nI y ^^^ (-1)) = 0) ↔ x &&& (y ^^^ (2 ^ 32 - 1)) = 0 := by
    rw [← e]
    constructor
    · intro z; rw [z]; rfl
    · intro z
      apply Int32.toBitVec_inj.mp
      apply BitVec.eq_of_toNat_eq
      rw [z]; rfl
  rw [h0]
  have hb : ∀ i, 32 ≤ i → x.testBit i = false := fun i hi => Nat.testBit_lt_two_pow (Nat.lt_of_lt_of_le hx (Nat.pow_le_pow_right (by decide) (by omega)))
  constructor
  · intro z
    apply Nat.eq_of_testBit_eq
    intro i
    have := congrArg (fun w => Nat.testBit w i) z
    simp only [Nat.testBit_and, Nat.testBit_xor, Nat.zero_testBit, Nat.testBit_two_pow_sub_one] at this ⊢
    by_cases hi : i < 32
    · simp [hi] at this
      cases hxi : x.testBit i
      · rfl
      · rw [this hxi]; rfl
    · rw [hb i (by omega)]; rfl
  · intro z
    apply Nat.eq_of_testBit_eq
    intro i
    have := congrArg (fun w => Nat.testBit w i) z
    simp only [Nat.testBit_and, Nat.testBit_xor, Nat.zero_testBit, Nat.testBit_two_pow_sub_one] at this ⊢
    by_cases hi : i < 32
    · cases hxi : x.testBit i
      · rfl
      · rw [hxi] at this; simp at this; simp [hi, this]
    · rw [hb i (by omega)]; rfl
