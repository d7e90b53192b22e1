theorem q_orG {D K : Nat} (hD : D < 2 ^ 31) (hK : K < 2 ^ 31) : nI D ||| nI K = nI (D ||| K) := by
  apply Int32.toBitVec_inj.mp
  apply BitVec.eq_of_toNat_eq
  rw [Int32.toBitVec_or, BitVec.toNat_or, pk_tn (n := D) (by omega), pk_tn (n := K) (by omega), pk_tn (Nat.lt_trans (Nat.or_lt_two_pow hD hK) (by decide))]
theorem q_orB {D K : Nat} (hD : D < 2 ^ 31) (hK : K < 31) : nI D ||| bI (nI K) = nI (D ||| 2 ^ K) := by
  rw [q_pow K hK]; exact q_orG hD (Nat.pow_lt_pow_right (by decide) hK)
noncomputable def b1 (P : Prop) (k : Nat) : Nat := @ite Nat P (Classical.propDecidable P) (2 ^ k) 0
theorem b1_t {P : Prop} {k : Nat} (h : P) : b1 P k = 2 ^ k := by unfold b1; exact if_pos h
theorem b1_f {P : Prop} {k : Nat} (h : ¬ P) : b1 P k = 0 := by unfold b1; exact if_neg h
def orT (f : Nat → Nat) : Nat → Nat
  | 0 => 0
  | n + 1 => orT f n ||| f n
theorem orT_s (f : Nat → Nat) (n : Nat) : orT f (n + 1) = orT f n ||| f n := rfl
theorem orT_lt {P : Nat → Prop} : ∀ n, orT (fun v => b1 (P v) v) n < 2 ^ n
  | 0 => Nat.one_pos
  | n + 1 => by
    have h2 : 2 ^ n < 2 ^ (n + 1) := Nat.pow_lt_pow_right (by decide) (Nat.lt_succ_self n)
    have h := Nat.lt_trans (orT_lt (P := P) n) h2
    rw [orT_s]
    by_cases q : P n
    · rw [b1_t q]; exact or_lt h (Nat.lt_succ_self n)
    · rw [b1_f q, Nat.or_zero]; exact h
def updA (α : Al) (x i v : Nat) : Al := fun y j => if y = x ∧ j = i then v else α y j
theorem updA_s (α : Al) (x i v : Nat) : updA α x i v x i = v := by unfold updA; exact if_pos ⟨rfl, rfl⟩
theorem updA_n {α : Al} {x i v y j : Nat} (h : ¬ (y = x ∧ j = i)) : updA α x i v y j = α y j := by unfold updA; exact if_neg h
theorem Oth.upd (α : Al) {x h v : Nat} (hx : 1 ≤ x ∧ x ≤ 3) : Oth α (updA α x h v) h := ⟨(updA_n (by omega)).symm, fun q hq => ⟨(updA_n (by omega)).symm, (updA_n (by omega)).symm, (updA_n (by omega)).symm⟩⟩
/-- places that, not hummed, let the last dream be as told -/
noncomputable def snoN (α : Al) (hs : Nat → Nat) (D L n k : Nat) : Nat := b1 (runS α hs n D n = L) 12 ||| orT (fun q => b1 (runS α hs q D n = L) q) k
theorem c_placesNotHummed {μ : Mem} {α : Al} (hA : Abs (kac μ 15) α) (hv : Val α) {hs : Nat → Nat} {n : Nat} (hT : Told μ hs n) (hn : n ≤ 12) (hh : ∀ k, k < n → hs k < α 0 6) {x : Int32} {L : Nat} (hx : x = nI L) (hL : L < 2 ^ α 0 0) :
    CtP yX7_placesNotHummed cX7_placesNotHummed 4 (some .int) 4 [vR 62, vI x] μ (Pi (fun r μ' => μ' = μ ∧ r = nI (snoN α hs (α 0 3) L n n))) := by
  refine CtP.go RX7 rfl pn_X7 (Nat.le_of_ble_eq_true rfl) (fun C hG hR => ?_)
  subst hx
  have hL8 := hv.lt hL
  have hr8 : ∀ sk, runS α hs sk (α 0 3) n < 256 := fun sk => hv.lt (runS_lt hv hh hv.D n (Nat.le_refl n))
  have loop : ∀ k i, i + k = n → V C 19 [(0, vR 62), (1, vI (nI L)), (2, vI (nI (snoN α hs (α 0 3) L n i))), (3, vI (nI i))] [] μ := by
    intro k
    induction k with
    | zero =>
      intro i hi
      refine V_iload_n (pc := 19) hG (dk dd_X7_placesNotHummed 11 rfl) rfl ?_
      refine V_aload_n (pc := 20) hG (dk dd_X7_placesNotHummed 12 rfl) rfl ?_
      refine V_getI (pc := 21) hG (dk dd_X7_placesNotHummed 13 rfl) fl_X7_34 sh_62 rfl ?_
      refine V_icmp_ge (pc := 24) hG (dk dd_X7_placesNotHummed 14 rfl) (tgt := 52) (by decide) (fun h24 => ?_) (fun h24 => ?_)
      refine V_iload_n (pc := 52) hG (dk dd_X7_placesNotHummed 30 rfl) rfl ?_
      refine V_iretP (pc := 53) hG (dk dd_X7_placesNotHummed 31 rfl) hR (Pi.mk ?_)
      rotate_left
      rotate_left
      -- leaves: return@53; stop 27
      · exact ⟨rfl, by rw [show i = n by omega]⟩
      · exfalso; rw [hT.1] at h24; have := nle_i h24 (by omega) (by omega); omega
    | succ k ih =>
      intro i hi
      have hI := ih (i + 1) (by omega)
      have hlt : snoN α hs (α 0 3) L n i < 2 ^ 13 := by
        refine Nat.or_lt_two_pow ?_ (Nat.lt_of_lt_of_le (orT_lt i) (Nat.pow_le_pow_right (by decide) (by omega)))
        by_cases q : runS α hs n (α 0 3) n = L
        · rw [b1_t q]; decide
        · rw [b1_f q]; decide
      rw [nI_succ, show snoN α hs (α 0 3) L n (i + 1) = snoN α hs (α 0 3) L n i ||| b1 (runS α hs i (α 0 3) n = L) i by unfold snoN; rw [orT_s, Nat.or_assoc]] at hI
      have hri := hr8 i
      refine V_iload_n (pc := 19) hG (dk dd_X7_placesNotHummed 11 rfl) rfl ?_
      refine V_aload_n (pc := 20) hG (dk dd_X7_placesNotHummed 12 rfl) rfl ?_
      refine V_getI (pc := 21) hG (dk dd_X7_placesNotHummed 13 rfl) fl_X7_34 sh_62 rfl ?_
      refine V_icmp_ge (pc := 24) hG (dk dd_X7_placesNotHummed 14 rfl) (tgt := 52) (by decide) (fun h24 => ?_) (fun h24 => ?_)
      rotate_left
      refine V_iload_n (pc := 27) hG (dk dd_X7_placesNotHummed 15 rfl) rfl ?_
      refine V_aload_n (pc := 28) hG (dk dd_X7_placesNotHummed 16 rfl) rfl ?_
      refine V_iload_n (pc := 29) hG (dk dd_X7_placesNotHummed 17 rfl) rfl ?_
      refine V_callVip (pc := 30) hG (dk dd_X7_placesNotHummed 18 rfl) ml_X7_60 mo_X7_lastDream sh_62 rfl (c_lastDream hA hv hT hn hh (sk := i) (Or.inl ⟨rfl, by omega⟩)) (by decide) (by decide) rfl rfl rfl (fun x30 m30 p30 => ?_)
      refine V_iload_n (pc := 33) hG (dk dd_X7_placesNotHummed 19 rfl) rfl ?_
      refine V_icmp_ne (pc := 34) hG (dk dd_X7_placesNotHummed 20 rfl) (tgt := 43) (by decide) (fun h34 => ?_) (fun h34 => ?_)
      refine V_iconst (pc := 43) hG (dk dd_X7_placesNotHummed 25 rfl) (v := 0) (by decide) ?_
      refine V_ior (pc := 44) hG (dk dd_X7_placesNotHummed 26 rfl) ?_
      refine V_istore_n (pc := 45) hG (dk dd_X7_placesNotHummed 27 rfl) (by decide) (lv' := [(0, _), (1, _), (2, _), (3, _)]) rfl ?_
      refine V_iinc (pc := 46) hG (dk dd_X7_placesNotHummed 28 rfl) rfl (v := _ + 1) rfl (by decide) (lv' := [(0, _), (1, _), (2, _), (3, _)]) rfl ?_
      refine V_goto (pc := 49) hG (dk dd_X7_placesNotHummed 29 rfl) (tgt := 19) (by decide) ?_
      rotate_left
      refine V_iconst (pc := 37) hG (dk dd_X7_placesNotHummed 21 rfl) (v := 1) (by decide) ?_
      refine V_iload_n (pc := 38) hG (dk dd_X7_placesNotHummed 22 rfl) rfl ?_
      refine V_ishl (pc := 39) hG (dk dd_X7_placesNotHummed 23 rfl) ?_
      refine V_goto (pc := 40) hG (dk dd_X7_placesNotHummed 24 rfl) (tgt := 44) (by decide) ?_
      refine V_ior (pc := 44) hG (dk dd_X7_placesNotHummed 26 rfl) ?_
      refine V_istore_n (pc := 45) hG (dk dd_X7_placesNotHummed 27 rfl) (by decide) (lv' := [(0, _), (1, _), (2, _), (3, _)]) rfl ?_
      refine V_iinc (pc := 46) hG (dk dd_X7_placesNotHummed 28 rfl) rfl (v := _ + 1) rfl (by decide) (lv' := [(0, _), (1, _), (2, _), (3, _)]) rfl ?_
      refine V_goto (pc := 49) hG (dk dd_X7_placesNotHummed 29 rfl) (tgt := 19) (by decide) ?_
      rotate_left
      -- leaves: stop 52; stop 19; stop 19
      · exfalso; rw [hT.1] at h24; have := le_i h24 (by omega) (by omega); omega
      · obtain ⟨rfl, rfl⟩ := p30
        rw [b1_f (fun q => h34 (by rw [q])), Nat.or_zero] at hI
        rw [Int32.or_zero]; exact hI
      · obtain ⟨rfl, rfl⟩ := p30
        rw [b1_t ((nI_eq (by omega) (by omega)).mp h34), ← q_orB (by omega) (by omega)] at hI
        exact hI
  have hrn := hr8 n
  have h0 := loop n 0 (by omega)
  refine V_aload_n (pc := 0) hG (dk dd_X7_placesNotHummed 0 rfl) rfl ?_
  refine V_iconst (pc := 1) hG (dk dd_X7_placesNotHummed 1 rfl) (v := -1) (by decide) ?_
  refine V_callVip (pc := 2) hG (dk dd_X7_placesNotHummed 2 rfl) ml_X7_60 mo_X7_lastDream sh_62 rfl (c_lastDream hA hv hT hn hh (sk := n) (Or.inr ⟨rfl, rfl⟩)) (by decide) (by decide) rfl rfl rfl (fun x2 m2 p2 => ?_)
  refine V_iload_n (pc := 5) hG (dk dd_X7_placesNotHummed 3 rfl) rfl ?_
  refine V_icmp_ne (pc := 6) hG (dk dd_X7_placesNotHummed 4 rfl) (tgt := 15) (by decide) (fun h6 => ?_) (fun h6 => ?_)
  refine V_iconst (pc := 15) hG (dk dd_X7_placesNotHummed 7 rfl) (v := 0) (by decide) ?_
  refine V_istore_n (pc := 16) hG (dk dd_X7_placesNotHummed 8 rfl) (by decide) (lv' := [(0, _), (1, _), (2, _)]) rfl ?_
  refine V_iconst (pc := 17) hG (dk dd_X7_placesNotHummed 9 rfl) (v := 0) (by decide) ?_
  refine V_istore_n (pc := 18) hG (dk dd_X7_placesNotHummed 10 rfl) (by decide) (lv' := [(0, _), (1, _), (2, _), (3, _)]) rfl ?_
  rotate_left
  refine V_sipush (pc := 9) hG (dk dd_X7_placesNotHummed 5 rfl) (v := 4096) (by decide) ?_
  refine V_goto (pc := 12) hG (dk dd_X7_placesNotHummed 6 rfl) (tgt := 16) (by decide) ?_
  refine V_istore_n (pc := 16) hG (dk dd_X7_placesNotHummed 8 rfl) (by decide) (lv' := [(0, _), (1, _), (2, _)]) rfl ?_
  refine V_iconst (pc := 17) hG (dk dd_X7_placesNotHummed 9 rfl) (v := 0) (by decide) ?_
  refine V_istore_n (pc := 18) hG (dk dd_X7_placesNotHummed 10 rfl) (by decide) (lv' := [(0, _), (1, _), (2, _), (3, _)]) rfl ?_
  rotate_left
  -- leaves: stop 19; stop 19
  · obtain ⟨rfl, rfl⟩ := p2
    unfold snoN at h0
    rw [b1_f (fun q => h6 (by rw [q]))] at h0
    simp only [orT, Nat.or_zero] at h0
    exact h0
  · obtain ⟨rfl, rfl⟩ := p2
    unfold snoN at h0
    rw [b1_t ((nI_eq (by omega) (by omega)).mp h6)] at h0
    simp only [orT, Nat.or_zero] at h0
    exact h0
/-- what fits of a hum: kinds (w = 1), things (2), others (3) -/
noncomputable def whoN (α : Al) (hs : Nat → Nat) (ds : Nat → Int32) (n D h w m : Nat) : Nat := orT (fun v => b1 (¬ (w = 1 ∧ v = 0) ∧ Fit (updA α w h v) hs ds n D) v) m
theorem whoN_s (α : Al) (hs : Nat → Nat) (ds : Nat → Int32) (n D h w m : Nat) : whoN α hs ds n D h w (m + 1) = whoN α hs ds n D h w m ||| b1 (¬ (w = 1 ∧ m = 0) ∧ Fit (updA α w h m) hs ds n D) m := rfl
theorem whoN_lt (α : Al) (hs : Nat → Nat) (ds : Nat → Int32) (n D h w m : Nat) : whoN α hs ds n D h w m < 2 ^ m := orT_lt m
theorem c_kindsThatFit {μ : Mem} {α : Al} (hA : Abs (kac μ 15) α) (hv : Val α) {hs : Nat → Nat} {n : Nat} (hT : Told μ hs n) (hn : n ≤ 12) (hh : ∀ k, k < n → hs k < α 0 6) {x : Int32} {h : Nat} (hx : x = nI h) (hh0 : h < α 0 6) :
    CtP yX7_kindsThatFit cX7_kindsThatFit 4 (some .int) 4 [vR 62, vI x] μ (Pi (fun r μ' => μ' = μ ∧ r = nI (whoN α hs (μ 64) n (α 0 3) h 1 6))) := by
  refine CtP.go RX7 rfl pn_X7 (Nat.le_of_ble_eq_true rfl) (fun C hG hR => ?_)
  subst hx
  have e3 : μ 15 3 = nI (α 0 3) := hA.1 3 (by decide)
  have e0 : μ 15 0 = nI (α 0 0) := hA.1 0 (by decide)
  have hH := hv.H
  have ht := hv.t
  have hk := hv.h hh0
  have hr : vp_in (nI h) 6 := vp_in_nI (by omega) (by decide)
  have loop : ∀ k i, i + k = 6 → 1 ≤ i → V C 4 [(0, vR 62), (1, vI (nI h)), (2, vI (nI (whoN α hs (μ 64) n (α 0 3) h 1 i))), (3, vI (nI i))] [] μ := by
    intro k
    induction k with
    | zero =>
      intro i hi h1i
      refine V_iload_n (pc := 4) hG (dk dd_X7_kindsThatFit 4 rfl) rfl ?_
      refine V_iconst (pc := 5) hG (dk dd_X7_kindsThatFit 5 rfl) (v := 5) (by decide) ?_
      refine V_icmp_gt (pc := 6) hG (dk dd_X7_kindsThatFit 6 rfl) (tgt := 59) (by decide) (fun h6 => ?_) (fun h6 => ?_)
      refine V_iload_n (pc := 59) hG (dk dd_X7_kindsThatFit 35 rfl) rfl ?_
      refine V_iretP (pc := 60) hG (dk dd_X7_kindsThatFit 36 rfl) hR (Pi.mk ?_)
      rotate_left
      rotate_left
      -- leaves: return@60; stop 9
      · exact ⟨rfl, by rw [show i = 6 by omega]⟩
      · exfalso; rw [show (5 : Int32) = nI 5 from rfl] at h6; have := Nat.not_lt.mp (fun z => h6 ((nI_ltI (a := 5) (b := i) (by omega) (by omega)).mpr z)); omega
    | succ k ih =>
      intro i hi h1i
      have hI := ih (i + 1) (by omega) (by omega)
      have hlt : whoN α hs (μ 64) n (α 0 3) h 1 i < 256 := Nat.lt_of_lt_of_le (whoN_lt α hs _ n _ h 1 i) (pow8 (by omega))
      rw [nI_succ, whoN_s] at hI
      have u2 : μ 17 (nI h).toNatClampNeg = nI (updA α 1 h i 2 h) := by rw [updA_n (by omega), nI_clamp (by omega)]; exact hA.2.1 2 h (by decide) (by decide) hh0
      have u3 : μ 18 (nI h).toNatClampNeg = nI (updA α 1 h i 3 h) := by rw [updA_n (by omega), nI_clamp (by omega)]; exact hA.2.1 3 h (by decide) (by decide) hh0
      refine V_iload_n (pc := 4) hG (dk dd_X7_kindsThatFit 4 rfl) rfl ?_
      refine V_iconst (pc := 5) hG (dk dd_X7_kindsThatFit 5 rfl) (v := 5) (by decide) ?_
      refine V_icmp_gt (pc := 6) hG (dk dd_X7_kindsThatFit 6 rfl) (tgt := 59) (by decide) (fun h6 => ?_) (fun h6 => ?_)
      rotate_left
      refine V_iload_n (pc := 9) hG (dk dd_X7_kindsThatFit 7 rfl) rfl ?_
      refine V_aload_n (pc := 10) hG (dk dd_X7_kindsThatFit 8 rfl) rfl ?_
      refine V_aload_n (pc := 11) hG (dk dd_X7_kindsThatFit 9 rfl) rfl ?_
      refine V_getR (pc := 12) hG (dk dd_X7_kindsThatFit 10 rfl) fl_X7_18 sh_62 rfl ?_
      refine V_getI (pc := 15) hG (dk dd_X7_kindsThatFit 11 rfl) fl_X7_54 sh_15 rfl ?_
      refine V_iload_n (pc := 18) hG (dk dd_X7_kindsThatFit 12 rfl) rfl ?_
      refine V_iload_n (pc := 19) hG (dk dd_X7_kindsThatFit 13 rfl) rfl ?_
      refine V_aload_n (pc := 20) hG (dk dd_X7_kindsThatFit 14 rfl) rfl ?_
      refine V_getR (pc := 21) hG (dk dd_X7_kindsThatFit 15 rfl) fl_X7_18 sh_62 rfl ?_
      refine V_getR (pc := 24) hG (dk dd_X7_kindsThatFit 16 rfl) fl_X7_64 sh_15 rfl ?_
      refine V_iload_n (pc := 27) hG (dk dd_X7_kindsThatFit 17 rfl) rfl ?_
      refine V_iald (pc := 28) hG (dk dd_X7_kindsThatFit 18 rfl) sh_17 hr ?_
      refine V_aload_n (pc := 29) hG (dk dd_X7_kindsThatFit 19 rfl) rfl ?_
      refine V_getR (pc := 30) hG (dk dd_X7_kindsThatFit 20 rfl) fl_X7_18 sh_62 rfl ?_
      refine V_getR (pc := 33) hG (dk dd_X7_kindsThatFit 21 rfl) fl_X7_67 sh_15 rfl ?_
      refine V_iload_n (pc := 36) hG (dk dd_X7_kindsThatFit 22 rfl) rfl ?_
      refine V_iald (pc := 37) hG (dk dd_X7_kindsThatFit 23 rfl) sh_18 hr ?_
      refine V_callVip (pc := 38) hG (dk dd_X7_kindsThatFit 24 rfl) ml_X7_70 mo_X7_fits sh_62 rfl (c_fits (α := α) (β := updA α 1 h i) hA hv hT hn hh e3 hv.D (Oth.upd α (by decide)) (Or.inl ⟨rfl, hh0, (congrArg nI (updA_s α 1 h i)).symm, ⟨by rw [updA_s]; omega, by rw [updA_s]; omega⟩, u2, by rw [updA_n (by omega)]; exact hk.2.2.1, u3, by rw [updA_n (by omega)]; exact hk.2.2.2⟩)) (by decide) (by decide) rfl rfl rfl (fun x38 m38 p38 => ?_)
      refine V_if_eq (pc := 41) hG (dk dd_X7_kindsThatFit 25 rfl) (tgt := 50) (by decide) (fun h41 => ?_) (fun h41 => ?_)
      refine V_iconst (pc := 50) hG (dk dd_X7_kindsThatFit 30 rfl) (v := 0) (by decide) ?_
      refine V_ior (pc := 51) hG (dk dd_X7_kindsThatFit 31 rfl) ?_
      refine V_istore_n (pc := 52) hG (dk dd_X7_kindsThatFit 32 rfl) (by decide) (lv' := [(0, _), (1, _), (2, _), (3, _)]) rfl ?_
      refine V_iinc (pc := 53) hG (dk dd_X7_kindsThatFit 33 rfl) rfl (v := _ + 1) rfl (by decide) (lv' := [(0, _), (1, _), (2, _), (3, _)]) rfl ?_
      refine V_goto (pc := 56) hG (dk dd_X7_kindsThatFit 34 rfl) (tgt := 4) (by decide) ?_
      rotate_left
      refine V_iconst (pc := 44) hG (dk dd_X7_kindsThatFit 26 rfl) (v := 1) (by decide) ?_
      refine V_iload_n (pc := 45) hG (dk dd_X7_kindsThatFit 27 rfl) rfl ?_
      refine V_ishl (pc := 46) hG (dk dd_X7_kindsThatFit 28 rfl) ?_
      refine V_goto (pc := 47) hG (dk dd_X7_kindsThatFit 29 rfl) (tgt := 51) (by decide) ?_
      refine V_ior (pc := 51) hG (dk dd_X7_kindsThatFit 31 rfl) ?_
      refine V_istore_n (pc := 52) hG (dk dd_X7_kindsThatFit 32 rfl) (by decide) (lv' := [(0, _), (1, _), (2, _), (3, _)]) rfl ?_
      refine V_iinc (pc := 53) hG (dk dd_X7_kindsThatFit 33 rfl) rfl (v := _ + 1) rfl (by decide) (lv' := [(0, _), (1, _), (2, _), (3, _)]) rfl ?_
      refine V_goto (pc := 56) hG (dk dd_X7_kindsThatFit 34 rfl) (tgt := 4) (by decide) ?_
      rotate_left
      -- leaves: stop 59; stop 4; stop 4
      · exfalso; have := (nI_ltI (a := 5) (b := i) (by omega) (by omega)).mp h6; omega
      · obtain ⟨rfl, p38⟩ := p38
        rw [b1_f (fun q => p38.no h41 q.2), Nat.or_zero] at hI
        rw [Int32.or_zero]; exact hI
      · obtain ⟨rfl, p38⟩ := p38
        rw [b1_t ⟨by omega, p38.yes h41⟩, ← q_or _ hlt _ (by omega)] at hI
        exact hI
  refine V_iconst (pc := 0) hG (dk dd_X7_kindsThatFit 0 rfl) (v := 0) (by decide) ?_
  refine V_istore_n (pc := 1) hG (dk dd_X7_kindsThatFit 1 rfl) (by decide) (lv' := [(0, _), (1, _), (2, _)]) rfl ?_
  refine V_iconst (pc := 2) hG (dk dd_X7_kindsThatFit 2 rfl) (v := 1) (by decide) ?_
  refine V_istore_n (pc := 3) hG (dk dd_X7_kindsThatFit 3 rfl) (by decide) (lv' := [(0, _), (1, _), (2, _), (3, _)]) rfl ?_
  rotate_left
  -- leaves: stop 4
  · have := loop 5 1 (by omega) (by omega)
    rw [whoN_s, b1_f (fun q => q.1 ⟨rfl, rfl⟩)] at this
    simp only [whoN, orT, Nat.or_zero] at this
    exact this
theorem c_thingsThatFit {μ : Mem} {α : Al} (hA : Abs (kac μ 15) α) (hv : Val α) {hs : Nat → Nat} {n : Nat} (hT : Told μ hs n) (hn : n ≤ 12) (hh : ∀ k, k < n → hs k < α 0 6) {x : Int32} {h : Nat} (hx : x = nI h) (hh0 : h < α 0 6) :
    CtP yX7_thingsThatFit cX7_thingsThatFit 4 (some .int) 4 [vR 62, vI x] μ (Pi (fun r μ' => μ' = μ ∧ r = nI (whoN α hs (μ 64) n (α 0 3) h 2 (α 0 0)))) := by
  refine CtP.go RX7 rfl pn_X7 (Nat.le_of_ble_eq_true rfl) (fun C hG hR => ?_)
  subst hx
  have e3 : μ 15 3 = nI (α 0 3) := hA.1 3 (by decide)
  have e0 : μ 15 0 = nI (α 0 0) := hA.1 0 (by decide)
  have hH := hv.H
  have ht := hv.t
  have hk := hv.h hh0
  have hr : vp_in (nI h) 6 := vp_in_nI (by omega) (by decide)
  have loop : ∀ k i, i + k = (α 0 0) → 0 ≤ i → V C 4 [(0, vR 62), (1, vI (nI h)), (2, vI (nI (whoN α hs (μ 64) n (α 0 3) h 2 i))), (3, vI (nI i))] [] μ := by
    intro k
    induction k with
    | zero =>
      intro i hi h1i
      refine V_iload_n (pc := 4) hG (dk dd_X7_thingsThatFit 4 rfl) rfl ?_
      refine V_aload_n (pc := 5) hG (dk dd_X7_thingsThatFit 5 rfl) rfl ?_
      refine V_getR (pc := 6) hG (dk dd_X7_thingsThatFit 6 rfl) fl_X7_18 sh_62 rfl ?_
      refine V_getI (pc := 9) hG (dk dd_X7_thingsThatFit 7 rfl) fl_X7_74 sh_15 rfl ?_
      refine V_icmp_ge (pc := 12) hG (dk dd_X7_thingsThatFit 8 rfl) (tgt := 65) (by decide) (fun h12 => ?_) (fun h12 => ?_)
      refine V_iload_n (pc := 65) hG (dk dd_X7_thingsThatFit 37 rfl) rfl ?_
      refine V_iretP (pc := 66) hG (dk dd_X7_thingsThatFit 38 rfl) hR (Pi.mk ?_)
      rotate_left
      rotate_left
      -- leaves: return@66; stop 15
      · exact ⟨rfl, by rw [show i = (α 0 0) by omega]⟩
      · exfalso; rw [e0] at h12; have := nle_i h12 (by omega) (by omega); omega
    | succ k ih =>
      intro i hi h1i
      have hI := ih (i + 1) (by omega) (by omega)
      have hlt : whoN α hs (μ 64) n (α 0 3) h 2 i < 256 := Nat.lt_of_lt_of_le (whoN_lt α hs _ n _ h 2 i) (pow8 (by omega))
      rw [nI_succ, whoN_s] at hI
      have u1 : μ 16 (nI h).toNatClampNeg = nI (updA α 2 h i 1 h) := by rw [updA_n (by omega), nI_clamp (by omega)]; exact hA.2.1 1 h (by decide) (by decide) hh0
      have u3 : μ 18 (nI h).toNatClampNeg = nI (updA α 2 h i 3 h) := by rw [updA_n (by omega), nI_clamp (by omega)]; exact hA.2.1 3 h (by decide) (by decide) hh0
      refine V_iload_n (pc := 4) hG (dk dd_X7_thingsThatFit 4 rfl) rfl ?_
      refine V_aload_n (pc := 5) hG (dk dd_X7_thingsThatFit 5 rfl) rfl ?_
      refine V_getR (pc := 6) hG (dk dd_X7_thingsThatFit 6 rfl) fl_X7_18 sh_62 rfl ?_
      refine V_getI (pc := 9) hG (dk dd_X7_thingsThatFit 7 rfl) fl_X7_74 sh_15 rfl ?_
      refine V_icmp_ge (pc := 12) hG (dk dd_X7_thingsThatFit 8 rfl) (tgt := 65) (by decide) (fun h12 => ?_) (fun h12 => ?_)
      rotate_left
      refine V_iload_n (pc := 15) hG (dk dd_X7_thingsThatFit 9 rfl) rfl ?_
      refine V_aload_n (pc := 16) hG (dk dd_X7_thingsThatFit 10 rfl) rfl ?_
      refine V_aload_n (pc := 17) hG (dk dd_X7_thingsThatFit 11 rfl) rfl ?_
      refine V_getR (pc := 18) hG (dk dd_X7_thingsThatFit 12 rfl) fl_X7_18 sh_62 rfl ?_
      refine V_getI (pc := 21) hG (dk dd_X7_thingsThatFit 13 rfl) fl_X7_54 sh_15 rfl ?_
      refine V_iload_n (pc := 24) hG (dk dd_X7_thingsThatFit 14 rfl) rfl ?_
      refine V_aload_n (pc := 25) hG (dk dd_X7_thingsThatFit 15 rfl) rfl ?_
      refine V_getR (pc := 26) hG (dk dd_X7_thingsThatFit 16 rfl) fl_X7_18 sh_62 rfl ?_
      refine V_getR (pc := 29) hG (dk dd_X7_thingsThatFit 17 rfl) fl_X7_77 sh_15 rfl ?_
      refine V_iload_n (pc := 32) hG (dk dd_X7_thingsThatFit 18 rfl) rfl ?_
      refine V_iald (pc := 33) hG (dk dd_X7_thingsThatFit 19 rfl) sh_16 hr ?_
      refine V_iload_n (pc := 34) hG (dk dd_X7_thingsThatFit 20 rfl) rfl ?_
      refine V_aload_n (pc := 35) hG (dk dd_X7_thingsThatFit 21 rfl) rfl ?_
      refine V_getR (pc := 36) hG (dk dd_X7_thingsThatFit 22 rfl) fl_X7_18 sh_62 rfl ?_
      refine V_getR (pc := 39) hG (dk dd_X7_thingsThatFit 23 rfl) fl_X7_67 sh_15 rfl ?_
      refine V_iload_n (pc := 42) hG (dk dd_X7_thingsThatFit 24 rfl) rfl ?_
      refine V_iald (pc := 43) hG (dk dd_X7_thingsThatFit 25 rfl) sh_18 hr ?_
      refine V_callVip (pc := 44) hG (dk dd_X7_thingsThatFit 26 rfl) ml_X7_70 mo_X7_fits sh_62 rfl (c_fits (α := α) (β := updA α 2 h i) hA hv hT hn hh e3 hv.D (Oth.upd α (by decide)) (Or.inl ⟨rfl, hh0, u1, by rw [updA_n (by omega)]; exact ⟨hk.1, hk.2.1⟩, (congrArg nI (updA_s α 2 h i)).symm, by rw [updA_s]; omega, u3, by rw [updA_n (by omega)]; exact hk.2.2.2⟩)) (by decide) (by decide) rfl rfl rfl (fun x44 m44 p44 => ?_)
      refine V_if_eq (pc := 47) hG (dk dd_X7_thingsThatFit 27 rfl) (tgt := 56) (by decide) (fun h47 => ?_) (fun h47 => ?_)
      refine V_iconst (pc := 56) hG (dk dd_X7_thingsThatFit 32 rfl) (v := 0) (by decide) ?_
      refine V_ior (pc := 57) hG (dk dd_X7_thingsThatFit 33 rfl) ?_
      refine V_istore_n (pc := 58) hG (dk dd_X7_thingsThatFit 34 rfl) (by decide) (lv' := [(0, _), (1, _), (2, _), (3, _)]) rfl ?_
      refine V_iinc (pc := 59) hG (dk dd_X7_thingsThatFit 35 rfl) rfl (v := _ + 1) rfl (by decide) (lv' := [(0, _), (1, _), (2, _), (3, _)]) rfl ?_
      refine V_goto (pc := 62) hG (dk dd_X7_thingsThatFit 36 rfl) (tgt := 4) (by decide) ?_
      rotate_left
      refine V_iconst (pc := 50) hG (dk dd_X7_thingsThatFit 28 rfl) (v := 1) (by decide) ?_
      refine V_iload_n (pc := 51) hG (dk dd_X7_thingsThatFit 29 rfl) rfl ?_
      refine V_ishl (pc := 52) hG (dk dd_X7_thingsThatFit 30 rfl) ?_
      refine V_goto (pc := 53) hG (dk dd_X7_thingsThatFit 31 rfl) (tgt := 57) (by decide) ?_
      refine V_ior (pc := 57) hG (dk dd_X7_thingsThatFit 33 rfl) ?_
      refine V_istore_n (pc := 58) hG (dk dd_X7_thingsThatFit 34 rfl) (by decide) (lv' := [(0, _), (1, _), (2, _), (3, _)]) rfl ?_
      refine V_iinc (pc := 59) hG (dk dd_X7_thingsThatFit 35 rfl) rfl (v := _ + 1) rfl (by decide) (lv' := [(0, _), (1, _), (2, _), (3, _)]) rfl ?_
      refine V_goto (pc := 62) hG (dk dd_X7_thingsThatFit 36 rfl) (tgt := 4) (by decide) ?_
      rotate_left
      -- leaves: stop 65; stop 4; stop 4
      · exfalso; rw [e0] at h12; have := le_i h12 (by omega) (by omega); omega
      · obtain ⟨rfl, p44⟩ := p44
        rw [b1_f (fun q => p44.no h47 q.2), Nat.or_zero] at hI
        rw [Int32.or_zero]; exact hI
      · obtain ⟨rfl, p44⟩ := p44
        rw [b1_t ⟨by omega, p44.yes h47⟩, ← q_or _ hlt _ (by omega)] at hI
        exact hI
  refine V_iconst (pc := 0) hG (dk dd_X7_thingsThatFit 0 rfl) (v := 0) (by decide) ?_
  refine V_istore_n (pc := 1) hG (dk dd_X7_thingsThatFit 1 rfl) (by decide) (lv' := [(0, _), (1, _), (2, _)]) rfl ?_
  refine V_iconst (pc := 2) hG (dk dd_X7_thingsThatFit 2 rfl) (v := 0) (by decide) ?_
  refine V_istore_n (pc := 3) hG (dk dd_X7_thingsThatFit 3 rfl) (by decide) (lv' := [(0, _), (1, _), (2, _), (3, _)]) rfl ?_
  rotate_left
  -- leaves: stop 4
  · exact loop (α 0 0) 0 (by omega) (by omega)
theorem c_othersThatFit {μ : Mem} {α : Al} (hA : Abs (kac μ 15) α) (hv : Val α) {hs : Nat → Nat} {n : Nat} (hT : Told μ hs n) (hn : n ≤ 12) (hh : ∀ k, k < n → hs k < α 0 6) {x : Int32} {h : Nat} (hx : x = nI h) (hh0 : h < α 0 6) :
    CtP yX7_othersThatFit cX7_othersThatFit 4 (some .int) 4 [vR 62, vI x] μ (Pi (fun r μ' => μ' = μ ∧ r = nI (whoN α hs (μ 64) n (α 0 3) h 3 (α 0 0)))) := by
  refine CtP.go RX7 rfl pn_X7 (Nat.le_of_ble_eq_true rfl) (fun C hG hR => ?_)
  subst hx
  have e3 : μ 15 3 = nI (α 0 3) := hA.1 3 (by decide)
  have e0 : μ 15 0 = nI (α 0 0) := hA.1 0 (by decide)
  have hH := hv.H
  have ht := hv.t
  have hk := hv.h hh0
  have hr : vp_in (nI h) 6 := vp_in_nI (by omega) (by decide)
  have loop : ∀ k i, i + k = (α 0 0) → 0 ≤ i → V C 4 [(0, vR 62), (1, vI (nI h)), (2, vI (nI (whoN α hs (μ 64) n (α 0 3) h 3 i))), (3, vI (nI i))] [] μ := by
    intro k
    induction k with
    | zero =>
      intro i hi h1i
      refine V_iload_n (pc := 4) hG (dk dd_X7_othersThatFit 4 rfl) rfl ?_
      refine V_aload_n (pc := 5) hG (dk dd_X7_othersThatFit 5 rfl) rfl ?_
      refine V_getR (pc := 6) hG (dk dd_X7_othersThatFit 6 rfl) fl_X7_18 sh_62 rfl ?_
      refine V_getI (pc := 9) hG (dk dd_X7_othersThatFit 7 rfl) fl_X7_74 sh_15 rfl ?_
      refine V_icmp_ge (pc := 12) hG (dk dd_X7_othersThatFit 8 rfl) (tgt := 65) (by decide) (fun h12 => ?_) (fun h12 => ?_)
      refine V_iload_n (pc := 65) hG (dk dd_X7_othersThatFit 37 rfl) rfl ?_
      refine V_iretP (pc := 66) hG (dk dd_X7_othersThatFit 38 rfl) hR (Pi.mk ?_)
      rotate_left
      rotate_left
      -- leaves: return@66; stop 15
      · exact ⟨rfl, by rw [show i = (α 0 0) by omega]⟩
      · exfalso; rw [e0] at h12; have := nle_i h12 (by omega) (by omega); omega
    | succ k ih =>
      intro i hi h1i
      have hI := ih (i + 1) (by omega) (by omega)
      have hlt : whoN α hs (μ 64) n (α 0 3) h 3 i < 256 := Nat.lt_of_lt_of_le (whoN_lt α hs _ n _ h 3 i) (pow8 (by omega))
      rw [nI_succ, whoN_s] at hI
      have u1 : μ 16 (nI h).toNatClampNeg = nI (updA α 3 h i 1 h) := by rw [updA_n (by omega), nI_clamp (by omega)]; exact hA.2.1 1 h (by decide) (by decide) hh0
      have u2 : μ 17 (nI h).toNatClampNeg = nI (updA α 3 h i 2 h) := by rw [updA_n (by omega), nI_clamp (by omega)]; exact hA.2.1 2 h (by decide) (by decide) hh0
      refine V_iload_n (pc := 4) hG (dk dd_X7_othersThatFit 4 rfl) rfl ?_
      refine V_aload_n (pc := 5) hG (dk dd_X7_othersThatFit 5 rfl) rfl ?_
      refine V_getR (pc := 6) hG (dk dd_X7_othersThatFit 6 rfl) fl_X7_18 sh_62 rfl ?_
      refine V_getI (pc := 9) hG (dk dd_X7_othersThatFit 7 rfl) fl_X7_74 sh_15 rfl ?_
      refine V_icmp_ge (pc := 12) hG (dk dd_X7_othersThatFit 8 rfl) (tgt := 65) (by decide) (fun h12 => ?_) (fun h12 => ?_)
      rotate_left
      refine V_iload_n (pc := 15) hG (dk dd_X7_othersThatFit 9 rfl) rfl ?_
      refine V_aload_n (pc := 16) hG (dk dd_X7_othersThatFit 10 rfl) rfl ?_
      refine V_aload_n (pc := 17) hG (dk dd_X7_othersThatFit 11 rfl) rfl ?_
      refine V_getR (pc := 18) hG (dk dd_X7_othersThatFit 12 rfl) fl_X7_18 sh_62 rfl ?_
      refine V_getI (pc := 21) hG (dk dd_X7_othersThatFit 13 rfl) fl_X7_54 sh_15 rfl ?_
      refine V_iload_n (pc := 24) hG (dk dd_X7_othersThatFit 14 rfl) rfl ?_
      refine V_aload_n (pc := 25) hG (dk dd_X7_othersThatFit 15 rfl) rfl ?_
      refine V_getR (pc := 26) hG (dk dd_X7_othersThatFit 16 rfl) fl_X7_18 sh_62 rfl ?_
      refine V_getR (pc := 29) hG (dk dd_X7_othersThatFit 17 rfl) fl_X7_77 sh_15 rfl ?_
      refine V_iload_n (pc := 32) hG (dk dd_X7_othersThatFit 18 rfl) rfl ?_
      refine V_iald (pc := 33) hG (dk dd_X7_othersThatFit 19 rfl) sh_16 hr ?_
      refine V_aload_n (pc := 34) hG (dk dd_X7_othersThatFit 20 rfl) rfl ?_
      refine V_getR (pc := 35) hG (dk dd_X7_othersThatFit 21 rfl) fl_X7_18 sh_62 rfl ?_
      refine V_getR (pc := 38) hG (dk dd_X7_othersThatFit 22 rfl) fl_X7_64 sh_15 rfl ?_
      refine V_iload_n (pc := 41) hG (dk dd_X7_othersThatFit 23 rfl) rfl ?_
      refine V_iald (pc := 42) hG (dk dd_X7_othersThatFit 24 rfl) sh_17 hr ?_
      refine V_iload_n (pc := 43) hG (dk dd_X7_othersThatFit 25 rfl) rfl ?_
      refine V_callVip (pc := 44) hG (dk dd_X7_othersThatFit 26 rfl) ml_X7_70 mo_X7_fits sh_62 rfl (c_fits (α := α) (β := updA α 3 h i) hA hv hT hn hh e3 hv.D (Oth.upd α (by decide)) (Or.inl ⟨rfl, hh0, u1, by rw [updA_n (by omega)]; exact ⟨hk.1, hk.2.1⟩, u2, by rw [updA_n (by omega)]; exact hk.2.2.1, (congrArg nI (updA_s α 3 h i)).symm, by rw [updA_s]; omega⟩)) (by decide) (by decide) rfl rfl rfl (fun x44 m44 p44 => ?_)
      refine V_if_eq (pc := 47) hG (dk dd_X7_othersThatFit 27 rfl) (tgt := 56) (by decide) (fun h47 => ?_) (fun h47 => ?_)
      refine V_iconst (pc := 56) hG (dk dd_X7_othersThatFit 32 rfl) (v := 0) (by decide) ?_
      refine V_ior (pc := 57) hG (dk dd_X7_othersThatFit 33 rfl) ?_
      refine V_istore_n (pc := 58) hG (dk dd_X7_othersThatFit 34 rfl) (by decide) (lv' := [(0, _), (1, _), (2, _), (3, _)]) rfl ?_
      refine V_iinc (pc := 59) hG (dk dd_X7_othersThatFit 35 rfl) rfl (v := _ + 1) rfl (by decide) (lv' := [(0, _), (1, _), (2, _), (3, _)]) rfl ?_
      refine V_goto (pc := 62) hG (dk dd_X7_othersThatFit 36 rfl) (tgt := 4) (by decide) ?_
      rotate_left
      refine V_iconst (pc := 50) hG (dk dd_X7_othersThatFit 28 rfl) (v := 1) (by decide) ?_
      refine V_iload_n (pc := 51) hG (dk dd_X7_othersThatFit 29 rfl) rfl ?_
      refine V_ishl (pc := 52) hG (dk dd_X7_othersThatFit 30 rfl) ?_
      refine V_goto (pc := 53) hG (dk dd_X7_othersThatFit 31 rfl) (tgt := 57) (by decide) ?_
      refine V_ior (pc := 57) hG (dk dd_X7_othersThatFit 33 rfl) ?_
      refine V_istore_n (pc := 58) hG (dk dd_X7_othersThatFit 34 rfl) (by decide) (lv' := [(0, _), (1, _), (2, _), (3, _)]) rfl ?_
      refine V_iinc (pc := 59) hG (dk dd_X7_othersThatFit 35 rfl) rfl (v := _ + 1) rfl (by decide) (lv' := [(0, _), (1, _), (2, _), (3, _)]) rfl ?_
      refine V_goto (pc := 62) hG (dk dd_X7_othersThatFit 36 rfl) (tgt := 4) (by decide) ?_
      rotate_left
      -- leaves: stop 65; stop 4; stop 4
      · exfalso; rw [e0] at h12; have := le_i h12 (by omega) (by omega); omega
      · obtain ⟨rfl, p44⟩ := p44
        rw [b1_f (fun q => p44.no h47 q.2), Nat.or_zero] at hI
        rw [Int32.or_zero]; exact hI
      · obtain ⟨rfl, p44⟩ := p44
        rw [b1_t ⟨by omega, p44.yes h47⟩, ← q_or _ hlt _ (by omega)] at hI
        exact hI
  refine V_iconst (pc := 0) hG (dk dd_X7_othersThatFit 0 rfl) (v := 0) (by decide) ?_
  refine V_istore_n (pc := 1) hG (dk dd_X7_othersThatFit 1 rfl) (by decide) (lv' := [(0, _), (1, _), (2, _)]) rfl ?_
  refine V_iconst (pc := 2) hG (dk dd_X7_othersThatFit 2 rfl) (v := 0) (by decide) ?_
  refine V_istore_n (pc := 3) hG (dk dd_X7_othersThatFit 3 rfl) (by decide) (lv' := [(0, _), (1, _), (2, _), (3, _)]) rfl ?_
  rotate_left
  -- leaves: stop 4
  · exact loop (α 0 0) 0 (by omega) (by omega)
