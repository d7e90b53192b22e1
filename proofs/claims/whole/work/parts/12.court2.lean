/-! ===== Court: sets of cases and hums, pairs; Integer.bitCount, Arrays.fill ===== -/
def deaN (α : Al) (D : Nat) : Nat → Nat
  | 0 => 0
  | h + 1 => deaN α D h ||| (if humN α h D = D then 2 ^ h else 0)
theorem deaN_s (α : Al) (D h : Nat) : deaN α D (h + 1) = deaN α D h ||| (if humN α h D = D then 2 ^ h else 0) := rfl
theorem deaN_lt (α : Al) (D : Nat) : ∀ n, deaN α D n < 2 ^ n
  | 0 => Nat.one_pos
  | n + 1 => by
    have h2 : 2 ^ n < 2 ^ (n + 1) := Nat.pow_lt_pow_right (by decide) (Nat.lt_succ_self n)
    have h := Nat.lt_trans (deaN_lt α D n) h2
    rw [deaN_s]
    split
    · exact or_lt h (Nat.lt_succ_self n)
    · rw [Nat.or_zero]; exact h
def claB (α : Al) (a b : Nat) : Prop := α 6 a = α 5 b ∨ α 6 b = α 5 a
def samB (α : Al) (a b : Nat) : Prop := ∀ D, D < 2 ^ α 0 0 → humN α a D = humN α b D
theorem le_i {a b : Nat} (h : nI a ≤ nI b) (ha : a < 2 ^ 31) (hb : b < 2 ^ 31) : a ≤ b := (nI_leI ha hb).mp h
theorem nle_i {a b : Nat} (h : ¬ nI a ≤ nI b) (ha : a < 2 ^ 31) (hb : b < 2 ^ 31) : b < a := Nat.not_le.mp fun q => h ((nI_leI ha hb).mpr q)
theorem c_dreamHeard {b : Nat} {μ : Mem} {α : Al} (hb : IsCo b) (hA : Abs (kac μ b) α) (hv : Val α) {x d : Int32} {c D : Nat} (hx : x = nI c) (hc : c < α 0 7) (hd : d = nI D) (hD : D < 2 ^ α 0 0) :
    Ct yX2_dreamHeard cX2_dreamHeard 3 (some .int) 3 [vR b, vI x, vI d] μ (some (vI (nI (heaN α c D)))) μ := by
  refine Ct.go RX2 rfl pn_X2 (Nat.le_of_ble_eq_true rfl) (fun C hG hR => ?_)
  have hC := hv.C
  have hk := hv.c hc
  have hr : vp_in x 5 := in_nI hx (by omega) (by decide)
  have e1 : μ (b + 4) x.toNatClampNeg = nI (α 4 c) := by rw [nI_cl hx (by omega)]; exact hA.2.2 4 c (by decide) (by decide) hc
  refine V_aload_n (pc := 0) hG (dk dd_X2_dreamHeard 0 rfl) rfl ?_
  refine V_aload_n (pc := 1) hG (dk dd_X2_dreamHeard 1 rfl) rfl ?_
  refine V_aload_n (pc := 2) hG (dk dd_X2_dreamHeard 2 rfl) rfl ?_
  refine V_getR (pc := 3) hG (dk dd_X2_dreamHeard 3 rfl) fl_X2_21 hb.s0 rfl ?_
  refine V_iload_n (pc := 6) hG (dk dd_X2_dreamHeard 4 rfl) rfl ?_
  refine V_iald (pc := 7) hG (dk dd_X2_dreamHeard 5 rfl) hb.s4 hr ?_
  refine V_iload_n (pc := 8) hG (dk dd_X2_dreamHeard 6 rfl) rfl ?_
  refine V_callVi (pc := 9) hG (dk dd_X2_dreamHeard 7 rfl) ml_X2_82 mo_X2_by hb.s0 rfl (c_by hb hA hv e1 hk.1 hd hD) (by decide) (by decide) rfl rfl rfl ?_
  refine V_callVi (pc := 12) hG (dk dd_X2_dreamHeard 8 rfl) ml_X2_89 mo_X2_worn hb.s0 rfl (c_worn hb hA hv rfl (humN_lt hv hk.1 hD)) (by decide) (by decide) rfl rfl rfl ?_
  refine V_iret (pc := 15) hG (dk dd_X2_dreamHeard 9 rfl) ?_
  rotate_left
  -- leaves: return@15
  · exact hR
theorem c_casesThatAre {b : Nat} {μ : Mem} {α : Al} (hb : IsCo b) (hA : Abs (kac μ b) α) (hC : α 0 7 ≤ 5) (h4 : ∀ c, c < α 0 7 → α 7 c < 4) {x : Int32} {w : Nat} (hx : x = nI w) (hw : w < 4) :
    Ct yX2_casesThatAre cX2_casesThatAre 4 (some .int) 0 [vR b, vI x] μ (some (vI (nI (thoN α w (α 0 7))))) μ := by
  refine Ct.go RX2 rfl pn_X2 (Nat.le_of_ble_eq_true rfl) (fun C hG hR => ?_)
  have e7 : μ b 7 = nI (α 0 7) := hA.1 7 (by decide)
  subst hx
  have loop : ∀ k n, n + k = α 0 7 → V C 4 [(0, vR b), (1, vI (nI w)), (2, vI (nI (thoN α w n))), (3, vI (nI n))] [] μ := by
    intro k
    induction k with
    | zero =>
      intro n hn
      refine V_iload_n (pc := 4) hG (dk dd_X2_casesThatAre 4 rfl) rfl ?_
      refine V_aload_n (pc := 5) hG (dk dd_X2_casesThatAre 5 rfl) rfl ?_
      refine V_getI (pc := 6) hG (dk dd_X2_casesThatAre 6 rfl) fl_X2_55 hb.s0 rfl ?_
      refine V_icmp_ge (pc := 9) hG (dk dd_X2_casesThatAre 7 rfl) (tgt := 38) (by decide) (fun h9 => ?_) (fun h9 => ?_)
      refine V_iload_n (pc := 38) hG (dk dd_X2_casesThatAre 24 rfl) rfl ?_
      refine V_iret (pc := 39) hG (dk dd_X2_casesThatAre 25 rfl) ?_
      rotate_left
      rotate_left
      -- leaves: return@39; stop 12
      · rw [show α 0 7 = n by omega] at hR; exact hR
      · exfalso; rw [e7] at h9; have := nle_i h9 (by omega) (by omega); omega
    | succ k ih =>
      intro n hn
      have hr : vp_in (nI n) 5 := vp_in_nI (by omega) (by decide)
      have e : μ (b + 7) (nI n).toNatClampNeg = nI (α 7 n) := by rw [nI_clamp (by omega)]; exact hA.2.2 7 n (by decide) (by decide) (by omega)
      have hlt : thoN α w n < 256 := Nat.lt_of_lt_of_le (thoN_lt α w n) (pow8 (by omega))
      have h4n := h4 n (by omega)
      have hI := ih (n + 1) (by omega)
      rw [thoN_s, nI_succ] at hI
      refine V_iload_n (pc := 4) hG (dk dd_X2_casesThatAre 4 rfl) rfl ?_
      refine V_aload_n (pc := 5) hG (dk dd_X2_casesThatAre 5 rfl) rfl ?_
      refine V_getI (pc := 6) hG (dk dd_X2_casesThatAre 6 rfl) fl_X2_55 hb.s0 rfl ?_
      refine V_icmp_ge (pc := 9) hG (dk dd_X2_casesThatAre 7 rfl) (tgt := 38) (by decide) (fun h9 => ?_) (fun h9 => ?_)
      refine V_iload_n (pc := 38) hG (dk dd_X2_casesThatAre 24 rfl) rfl ?_
      refine V_iret (pc := 39) hG (dk dd_X2_casesThatAre 25 rfl) ?_
      rotate_left
      refine V_iload_n (pc := 12) hG (dk dd_X2_casesThatAre 8 rfl) rfl ?_
      refine V_aload_n (pc := 13) hG (dk dd_X2_casesThatAre 9 rfl) rfl ?_
      refine V_getR (pc := 14) hG (dk dd_X2_casesThatAre 10 rfl) fl_X2_30 hb.s0 rfl ?_
      refine V_iload_n (pc := 17) hG (dk dd_X2_casesThatAre 11 rfl) rfl ?_
      refine V_iald (pc := 18) hG (dk dd_X2_casesThatAre 12 rfl) hb.s7 hr ?_
      refine V_iload_n (pc := 19) hG (dk dd_X2_casesThatAre 13 rfl) rfl ?_
      refine V_icmp_ne (pc := 20) hG (dk dd_X2_casesThatAre 14 rfl) (tgt := 29) (by decide) (fun h20 => ?_) (fun h20 => ?_)
      refine V_iconst (pc := 29) hG (dk dd_X2_casesThatAre 19 rfl) (v := 0) (by decide) ?_
      refine V_ior (pc := 30) hG (dk dd_X2_casesThatAre 20 rfl) ?_
      refine V_istore_n (pc := 31) hG (dk dd_X2_casesThatAre 21 rfl) (by decide) (lv' := [(0, _), (1, _), (2, _), (3, _)]) rfl ?_
      refine V_iinc (pc := 32) hG (dk dd_X2_casesThatAre 22 rfl) rfl (v := _ + 1) rfl (by decide) (lv' := [(0, _), (1, _), (2, _), (3, _)]) rfl ?_
      refine V_goto (pc := 35) hG (dk dd_X2_casesThatAre 23 rfl) (tgt := 4) (by decide) ?_
      rotate_left
      refine V_iconst (pc := 23) hG (dk dd_X2_casesThatAre 15 rfl) (v := 1) (by decide) ?_
      refine V_iload_n (pc := 24) hG (dk dd_X2_casesThatAre 16 rfl) rfl ?_
      refine V_ishl (pc := 25) hG (dk dd_X2_casesThatAre 17 rfl) ?_
      refine V_goto (pc := 26) hG (dk dd_X2_casesThatAre 18 rfl) (tgt := 30) (by decide) ?_
      refine V_ior (pc := 30) hG (dk dd_X2_casesThatAre 20 rfl) ?_
      refine V_istore_n (pc := 31) hG (dk dd_X2_casesThatAre 21 rfl) (by decide) (lv' := [(0, _), (1, _), (2, _), (3, _)]) rfl ?_
      refine V_iinc (pc := 32) hG (dk dd_X2_casesThatAre 22 rfl) rfl (v := _ + 1) rfl (by decide) (lv' := [(0, _), (1, _), (2, _), (3, _)]) rfl ?_
      refine V_goto (pc := 35) hG (dk dd_X2_casesThatAre 23 rfl) (tgt := 4) (by decide) ?_
      rotate_left
      -- leaves: return@39; stop 4; stop 4
      · exfalso; rw [e7] at h9; have := le_i h9 (by omega) (by omega); omega
      · rw [e] at h20
        rw [if_neg (fun q => h20 (by rw [q])), Nat.or_zero] at hI
        rw [Int32.or_zero]
        exact hI
      · rw [e] at h20
        rw [if_pos ((nI_eq (by omega) (by omega)).mp h20), ← q_or _ hlt _ (by omega)] at hI
        exact hI
  refine V_iconst (pc := 0) hG (dk dd_X2_casesThatAre 0 rfl) (v := 0) (by decide) ?_
  refine V_istore_n (pc := 1) hG (dk dd_X2_casesThatAre 1 rfl) (by decide) (lv' := [(0, _), (1, _), (2, _)]) rfl ?_
  refine V_iconst (pc := 2) hG (dk dd_X2_casesThatAre 2 rfl) (v := 0) (by decide) ?_
  refine V_istore_n (pc := 3) hG (dk dd_X2_casesThatAre 3 rfl) (by decide) (lv' := [(0, _), (1, _), (2, _), (3, _)]) rfl ?_
  rotate_left
  -- leaves: stop 4
  · exact loop (α 0 7) 0 (by omega)
theorem c_deafHums {b : Nat} {μ : Mem} {α : Al} (hb : IsCo b) (hA : Abs (kac μ b) α) (hv : Val α) :
    Ct yX2_deafHums cX2_deafHums 3 (some .int) 3 [vR b] μ (some (vI (nI (deaN α (α 0 3) (α 0 6))))) μ := by
  refine Ct.go RX2 rfl pn_X2 (Nat.le_of_ble_eq_true rfl) (fun C hG hR => ?_)
  have e6 : μ b 6 = nI (α 0 6) := hA.1 6 (by decide)
  have e3 : μ b 3 = nI (α 0 3) := hA.1 3 (by decide)
  have hH := hv.H
  have loop : ∀ k n, n + k = α 0 6 → V C 4 [(0, vR b), (1, vI (nI (deaN α (α 0 3) n))), (2, vI (nI n))] [] μ := by
    intro k
    induction k with
    | zero =>
      intro n hn
      refine V_iload_n (pc := 4) hG (dk dd_X2_deafHums 4 rfl) rfl ?_
      refine V_aload_n (pc := 5) hG (dk dd_X2_deafHums 5 rfl) rfl ?_
      refine V_getI (pc := 6) hG (dk dd_X2_deafHums 6 rfl) fl_X2_52 hb.s0 rfl ?_
      refine V_icmp_ge (pc := 9) hG (dk dd_X2_deafHums 7 rfl) (tgt := 44) (by decide) (fun h9 => ?_) (fun h9 => ?_)
      refine V_iload_n (pc := 44) hG (dk dd_X2_deafHums 26 rfl) rfl ?_
      refine V_iret (pc := 45) hG (dk dd_X2_deafHums 27 rfl) ?_
      rotate_left
      rotate_left
      -- leaves: return@45; stop 12
      · rw [show α 0 6 = n by omega] at hR; exact hR
      · exfalso; rw [e6] at h9; have := nle_i h9 (by omega) (by omega); omega
    | succ k ih =>
      intro n hn
      have hn6 : n < α 0 6 := by omega
      have hlt : deaN α (α 0 3) n < 256 := Nat.lt_of_lt_of_le (deaN_lt α _ n) (pow8 (by omega))
      have hI := ih (n + 1) (by omega)
      rw [deaN_s, nI_succ] at hI
      have hb1 := hv.lt (humN_lt hv hn6 hv.D)
      have hb2 := hv.lt hv.D
      refine V_iload_n (pc := 4) hG (dk dd_X2_deafHums 4 rfl) rfl ?_
      refine V_aload_n (pc := 5) hG (dk dd_X2_deafHums 5 rfl) rfl ?_
      refine V_getI (pc := 6) hG (dk dd_X2_deafHums 6 rfl) fl_X2_52 hb.s0 rfl ?_
      refine V_icmp_ge (pc := 9) hG (dk dd_X2_deafHums 7 rfl) (tgt := 44) (by decide) (fun h9 => ?_) (fun h9 => ?_)
      refine V_iload_n (pc := 44) hG (dk dd_X2_deafHums 26 rfl) rfl ?_
      refine V_iret (pc := 45) hG (dk dd_X2_deafHums 27 rfl) ?_
      rotate_left
      refine V_iload_n (pc := 12) hG (dk dd_X2_deafHums 8 rfl) rfl ?_
      refine V_aload_n (pc := 13) hG (dk dd_X2_deafHums 9 rfl) rfl ?_
      refine V_iload_n (pc := 14) hG (dk dd_X2_deafHums 10 rfl) rfl ?_
      refine V_aload_n (pc := 15) hG (dk dd_X2_deafHums 11 rfl) rfl ?_
      refine V_getI (pc := 16) hG (dk dd_X2_deafHums 12 rfl) fl_X2_43 hb.s0 rfl ?_
      refine V_callVi (pc := 19) hG (dk dd_X2_deafHums 13 rfl) ml_X2_82 mo_X2_by hb.s0 rfl (c_by hb hA hv rfl hn6 e3 hv.D) (by decide) (by decide) rfl rfl rfl ?_
      refine V_aload_n (pc := 22) hG (dk dd_X2_deafHums 14 rfl) rfl ?_
      refine V_getI (pc := 23) hG (dk dd_X2_deafHums 15 rfl) fl_X2_43 hb.s0 rfl ?_
      refine V_icmp_ne (pc := 26) hG (dk dd_X2_deafHums 16 rfl) (tgt := 35) (by decide) (fun h26 => ?_) (fun h26 => ?_)
      refine V_iconst (pc := 35) hG (dk dd_X2_deafHums 21 rfl) (v := 0) (by decide) ?_
      refine V_ior (pc := 36) hG (dk dd_X2_deafHums 22 rfl) ?_
      refine V_istore_n (pc := 37) hG (dk dd_X2_deafHums 23 rfl) (by decide) (lv' := [(0, _), (1, _), (2, _)]) rfl ?_
      refine V_iinc (pc := 38) hG (dk dd_X2_deafHums 24 rfl) rfl (v := _ + 1) rfl (by decide) (lv' := [(0, _), (1, _), (2, _)]) rfl ?_
      refine V_goto (pc := 41) hG (dk dd_X2_deafHums 25 rfl) (tgt := 4) (by decide) ?_
      rotate_left
      refine V_iconst (pc := 29) hG (dk dd_X2_deafHums 17 rfl) (v := 1) (by decide) ?_
      refine V_iload_n (pc := 30) hG (dk dd_X2_deafHums 18 rfl) rfl ?_
      refine V_ishl (pc := 31) hG (dk dd_X2_deafHums 19 rfl) ?_
      refine V_goto (pc := 32) hG (dk dd_X2_deafHums 20 rfl) (tgt := 36) (by decide) ?_
      refine V_ior (pc := 36) hG (dk dd_X2_deafHums 22 rfl) ?_
      refine V_istore_n (pc := 37) hG (dk dd_X2_deafHums 23 rfl) (by decide) (lv' := [(0, _), (1, _), (2, _)]) rfl ?_
      refine V_iinc (pc := 38) hG (dk dd_X2_deafHums 24 rfl) rfl (v := _ + 1) rfl (by decide) (lv' := [(0, _), (1, _), (2, _)]) rfl ?_
      refine V_goto (pc := 41) hG (dk dd_X2_deafHums 25 rfl) (tgt := 4) (by decide) ?_
      rotate_left
      -- leaves: return@45; stop 4; stop 4
      · exfalso; rw [e6] at h9; have := le_i h9 (by omega) (by omega); omega
      · rw [e3] at h26
        rw [if_neg (fun q => h26 (by rw [q])), Nat.or_zero] at hI
        rw [Int32.or_zero]
        exact hI
      · rw [e3] at h26
        rw [if_pos ((nI_eq (by omega) (by omega)).mp h26), ← q_or _ hlt _ (by omega)] at hI
        exact hI
  refine V_iconst (pc := 0) hG (dk dd_X2_deafHums 0 rfl) (v := 0) (by decide) ?_
  refine V_istore_n (pc := 1) hG (dk dd_X2_deafHums 1 rfl) (by decide) (lv' := [(0, _), (1, _)]) rfl ?_
  refine V_iconst (pc := 2) hG (dk dd_X2_deafHums 2 rfl) (v := 0) (by decide) ?_
  refine V_istore_n (pc := 3) hG (dk dd_X2_deafHums 3 rfl) (by decide) (lv' := [(0, _), (1, _), (2, _)]) rfl ?_
  rotate_left
  -- leaves: stop 4
  · exact loop (α 0 6) 0 (by omega)
/-- 1 or 0 -/
def is1 (x : Int32) (P : Prop) : Prop := (x = 1 ∧ P) ∨ (x = 0 ∧ ¬ P)
theorem is1.t {P : Prop} (h : P) : is1 1 P := Or.inl ⟨rfl, h⟩
theorem is1.f {P : Prop} (h : ¬ P) : is1 0 P := Or.inr ⟨rfl, h⟩
theorem is1.no {x : Int32} {P : Prop} (h : is1 x P) (e : x = 0) : ¬ P := by
  rcases h with ⟨q, _⟩ | ⟨_, q⟩
  · rw [q] at e; exact absurd e (by decide)
  · exact q
theorem is1.yes {x : Int32} {P : Prop} (h : is1 x P) (e : ¬ x = 0) : P := by
  rcases h with ⟨_, q⟩ | ⟨q, _⟩
  · exact q
  · exact absurd q e
theorem is1.bool {x : Int32} {P : Prop} (h : is1 x P) : x = 0 ∨ x = 1 := h.elim (fun q => Or.inr q.1) (fun q => Or.inl q.1)
theorem c_clash {b : Nat} {μ : Mem} {α : Al} (hb : IsCo b) (hA : Abs (kac μ b) α) (hv : Val α) {x y : Int32} {i j : Nat} (hx : x = nI i) (hi : i < α 0 7) (hy : y = nI j) (hj : j < α 0 7) :
    CtP yX2_clash cX2_clash 3 (some .boolean) 0 [vR b, vI x, vI y] μ (Pi (fun r μ' => μ' = μ ∧ is1 r (claB α i j))) := by
  refine CtP.go RX2 rfl pn_X2 (Nat.le_of_ble_eq_true rfl) (fun C hG hR => ?_)
  have hC := hv.C
  have ht := hv.t
  have h1 : vp_in x 5 := in_nI hx (by omega) (by decide)
  have h2 : vp_in y 5 := in_nI hy (by omega) (by decide)
  have c1 : x.toNatClampNeg = i := nI_cl hx (by omega)
  have c2 : y.toNatClampNeg = j := nI_cl hy (by omega)
  have e1 : μ (b + 6) x.toNatClampNeg = nI (α 6 i) := by rw [c1]; exact hA.2.2 6 i (by decide) (by decide) hi
  have e2 : μ (b + 5) y.toNatClampNeg = nI (α 5 j) := by rw [c2]; exact hA.2.2 5 j (by decide) (by decide) hj
  have e3 : μ (b + 6) y.toNatClampNeg = nI (α 6 j) := by rw [c2]; exact hA.2.2 6 j (by decide) (by decide) hj
  have e4 : μ (b + 5) x.toNatClampNeg = nI (α 5 i) := by rw [c1]; exact hA.2.2 5 i (by decide) (by decide) hi
  have k1 := hv.c hi
  have k2 := hv.c hj
  have l1 := k1.2.1; have l2 := k1.2.2.1; have l3 := k2.2.1; have l4 := k2.2.2.1
  refine V_aload_n (pc := 0) hG (dk dd_X2_clash 0 rfl) rfl ?_
  refine V_getR (pc := 1) hG (dk dd_X2_clash 1 rfl) fl_X2_27 hb.s0 rfl ?_
  refine V_iload_n (pc := 4) hG (dk dd_X2_clash 2 rfl) rfl ?_
  refine V_iald (pc := 5) hG (dk dd_X2_clash 3 rfl) hb.s6 h1 ?_
  refine V_aload_n (pc := 6) hG (dk dd_X2_clash 4 rfl) rfl ?_
  refine V_getR (pc := 7) hG (dk dd_X2_clash 5 rfl) fl_X2_24 hb.s0 rfl ?_
  refine V_iload_n (pc := 10) hG (dk dd_X2_clash 6 rfl) rfl ?_
  refine V_iald (pc := 11) hG (dk dd_X2_clash 7 rfl) hb.s5 h2 ?_
  refine V_icmp_eq (pc := 12) hG (dk dd_X2_clash 8 rfl) (tgt := 30) (by decide) (fun h12 => ?_) (fun h12 => ?_)
  refine V_iconst (pc := 30) hG (dk dd_X2_clash 18 rfl) (v := 1) (by decide) ?_
  refine V_goto (pc := 31) hG (dk dd_X2_clash 19 rfl) (tgt := 35) (by decide) ?_
  refine V_zretP (pc := 35) hG (dk dd_X2_clash 21 rfl) (by decide) hR (Pi.mk ?_)
  rotate_left
  refine V_aload_n (pc := 15) hG (dk dd_X2_clash 9 rfl) rfl ?_
  refine V_getR (pc := 16) hG (dk dd_X2_clash 10 rfl) fl_X2_27 hb.s0 rfl ?_
  refine V_iload_n (pc := 19) hG (dk dd_X2_clash 11 rfl) rfl ?_
  refine V_iald (pc := 20) hG (dk dd_X2_clash 12 rfl) hb.s6 h2 ?_
  refine V_aload_n (pc := 21) hG (dk dd_X2_clash 13 rfl) rfl ?_
  refine V_getR (pc := 22) hG (dk dd_X2_clash 14 rfl) fl_X2_24 hb.s0 rfl ?_
  refine V_iload_n (pc := 25) hG (dk dd_X2_clash 15 rfl) rfl ?_
  refine V_iald (pc := 26) hG (dk dd_X2_clash 16 rfl) hb.s5 h1 ?_
  refine V_icmp_ne (pc := 27) hG (dk dd_X2_clash 17 rfl) (tgt := 34) (by decide) (fun h27 => ?_) (fun h27 => ?_)
  refine V_iconst (pc := 34) hG (dk dd_X2_clash 20 rfl) (v := 0) (by decide) ?_
  refine V_zretP (pc := 35) hG (dk dd_X2_clash 21 rfl) (by decide) hR (Pi.mk ?_)
  rotate_left
  refine V_iconst (pc := 30) hG (dk dd_X2_clash 18 rfl) (v := 1) (by decide) ?_
  refine V_goto (pc := 31) hG (dk dd_X2_clash 19 rfl) (tgt := 35) (by decide) ?_
  refine V_zretP (pc := 35) hG (dk dd_X2_clash 21 rfl) (by decide) hR (Pi.mk ?_)
  rotate_left
  -- leaves: return@35; return@35; return@35
  · rw [e1, e2] at h12
    exact ⟨rfl, is1.t (Or.inl ((nI_eq (by omega) (by omega)).mp h12))⟩
  · rw [e1, e2] at h12; rw [e3, e4] at h27
    exact ⟨rfl, is1.f (fun q => q.elim (fun z => h12 (by rw [z])) (fun z => h27 (by rw [z])))⟩
  · rw [e3, e4] at h27
    exact ⟨rfl, is1.t (Or.inr ((nI_eq (by omega) (by omega)).mp h27))⟩
theorem c_doTheSame {b : Nat} {μ : Mem} {α : Al} (hb : IsCo b) (hA : Abs (kac μ b) α) (hv : Val α) {x y : Int32} {i j : Nat} (hx : x = nI i) (hi : i < α 0 6) (hy : y = nI j) (hj : j < α 0 6) :
    CtP yX2_doTheSame cX2_doTheSame 4 (some .boolean) 3 [vR b, vI x, vI y] μ (Pi (fun r μ' => μ' = μ ∧ is1 r (samB α i j))) := by
  refine CtP.go RX2 rfl pn_X2 (Nat.le_of_ble_eq_true rfl) (fun C hG hR => ?_)
  have e0 : bI (μ b 0) = nI (2 ^ α 0 0) := by rw [show μ b 0 = nI (α 0 0) from hA.1 0 (by decide)]; exact q_pow _ (by have := hv.t; omega)
  have hp := pow8 hv.t
  have loop : ∀ k n, n + k = 2 ^ α 0 0 → (∀ D, D < n → humN α i D = humN α j D) → V C 2 [(0, vR b), (1, vI x), (2, vI y), (3, vI (nI n))] [] μ := by
    intro k
    induction k with
    | zero =>
      intro n hn hs
      refine V_iload_n (pc := 2) hG (dk dd_X2_doTheSame 2 rfl) rfl ?_
      refine V_aload_n (pc := 3) hG (dk dd_X2_doTheSame 3 rfl) rfl ?_
      refine V_callVi (pc := 4) hG (dk dd_X2_doTheSame 4 rfl) ml_X2_70 mo_X2_dreamCount hb.s0 rfl (c_dreamCount hb) (by decide) (by decide) rfl rfl rfl ?_
      refine V_icmp_ge (pc := 7) hG (dk dd_X2_doTheSame 5 rfl) (tgt := 33) (by decide) (fun h7 => ?_) (fun h7 => ?_)
      refine V_iconst (pc := 33) hG (dk dd_X2_doTheSame 19 rfl) (v := 1) (by decide) ?_
      refine V_zretP (pc := 34) hG (dk dd_X2_doTheSame 20 rfl) (by decide) hR (Pi.mk ?_)
      rotate_left
      rotate_left
      -- leaves: return@34; stop 10
      · exact ⟨rfl, is1.t (fun D hD => hs D (by omega))⟩
      · exfalso; rw [e0] at h7; have := nle_i h7 (by omega) (by omega); omega
    | succ k ih =>
      intro n hn hs
      have hn2 : n < 2 ^ α 0 0 := by omega
      have hI := fun hq => ih (n + 1) (by omega) hq
      rw [nI_succ] at hI
      have b1 := hv.lt (humN_lt hv hi hn2)
      have b2 := hv.lt (humN_lt hv hj hn2)
      refine V_iload_n (pc := 2) hG (dk dd_X2_doTheSame 2 rfl) rfl ?_
      refine V_aload_n (pc := 3) hG (dk dd_X2_doTheSame 3 rfl) rfl ?_
      refine V_callVi (pc := 4) hG (dk dd_X2_doTheSame 4 rfl) ml_X2_70 mo_X2_dreamCount hb.s0 rfl (c_dreamCount hb) (by decide) (by decide) rfl rfl rfl ?_
      refine V_icmp_ge (pc := 7) hG (dk dd_X2_doTheSame 5 rfl) (tgt := 33) (by decide) (fun h7 => ?_) (fun h7 => ?_)
      refine V_iconst (pc := 33) hG (dk dd_X2_doTheSame 19 rfl) (v := 1) (by decide) ?_
      refine V_zretP (pc := 34) hG (dk dd_X2_doTheSame 20 rfl) (by decide) hR (Pi.mk ?_)
      rotate_left
      refine V_aload_n (pc := 10) hG (dk dd_X2_doTheSame 6 rfl) rfl ?_
      refine V_iload_n (pc := 11) hG (dk dd_X2_doTheSame 7 rfl) rfl ?_
      refine V_iload_n (pc := 12) hG (dk dd_X2_doTheSame 8 rfl) rfl ?_
      refine V_callVi (pc := 13) hG (dk dd_X2_doTheSame 9 rfl) ml_X2_82 mo_X2_by hb.s0 rfl (c_by hb hA hv hx hi rfl hn2) (by decide) (by decide) rfl rfl rfl ?_
      refine V_aload_n (pc := 16) hG (dk dd_X2_doTheSame 10 rfl) rfl ?_
      refine V_iload_n (pc := 17) hG (dk dd_X2_doTheSame 11 rfl) rfl ?_
      refine V_iload_n (pc := 18) hG (dk dd_X2_doTheSame 12 rfl) rfl ?_
      refine V_callVi (pc := 19) hG (dk dd_X2_doTheSame 13 rfl) ml_X2_82 mo_X2_by hb.s0 rfl (c_by hb hA hv hy hj rfl hn2) (by decide) (by decide) rfl rfl rfl ?_
      refine V_icmp_eq (pc := 22) hG (dk dd_X2_doTheSame 14 rfl) (tgt := 27) (by decide) (fun h22 => ?_) (fun h22 => ?_)
      refine V_iinc (pc := 27) hG (dk dd_X2_doTheSame 17 rfl) rfl (v := _ + 1) rfl (by decide) (lv' := [(0, _), (1, _), (2, _), (3, _)]) rfl ?_
      refine V_goto (pc := 30) hG (dk dd_X2_doTheSame 18 rfl) (tgt := 2) (by decide) ?_
      rotate_left
      refine V_iconst (pc := 25) hG (dk dd_X2_doTheSame 15 rfl) (v := 0) (by decide) ?_
      refine V_zretP (pc := 26) hG (dk dd_X2_doTheSame 16 rfl) (by decide) hR (Pi.mk ?_)
      rotate_left
      -- leaves: return@34; stop 2; return@26
      · exfalso; rw [e0] at h7; have := le_i h7 (by omega) (by omega); omega
      · refine hI (fun D hD => ?_)
        rcases Nat.lt_succ_iff_lt_or_eq.mp hD with q | q
        · exact hs D q
        · rw [q]; exact (nI_eq (by omega) (by omega)).mp h22
      · exact ⟨rfl, is1.f (fun q => h22 (by rw [q n hn2]))⟩
  refine V_iconst (pc := 0) hG (dk dd_X2_doTheSame 0 rfl) (v := 0) (by decide) ?_
  refine V_istore_n (pc := 1) hG (dk dd_X2_doTheSame 1 rfl) (by decide) (lv' := [(0, _), (1, _), (2, _), (3, _)]) rfl ?_
  rotate_left
  -- leaves: stop 2
  · exact loop (2 ^ α 0 0) 0 (by omega) (fun D hD => absurd hD (Nat.not_lt_zero D))
def bcF (x : Int32) : Int32 :=
  let us := fun (x y : Int32) => (x.toUInt32 >>> (y.toUInt32 &&& Int32.toUInt32 31)).toInt32
  let a := x - (us x 1 &&& 1431655765)
  let b := (a &&& 858993459) + (us a 2 &&& 858993459)
  let c := (b + us b 4) &&& 252645135
  let d := c + us c 8
  (d + us d 16) &&& 63
theorem bcF_N : ∀ D, D < 256 → bcF (nI D) = nI (bitsN D) := by decide +kernel
theorem c_bitCount {μ : Mem} {x : Int32} : Ct yJ6_bitCount_0f7a4 cJ6_bitCount_0f7a4 1 (some .int) 0 [vI x] μ (some (vI (bcF x))) μ := by
  refine Ct.go RJ6 rfl pn_J6 (Nat.le_of_ble_eq_true rfl) (fun C hG hR => ?_)
  refine V_iload_n (pc := 0) hG (dk dd_J6_bitCount_0f7a4 0 rfl) rfl ?_
  refine V_iload_n (pc := 1) hG (dk dd_J6_bitCount_0f7a4 1 rfl) rfl ?_
  refine V_iconst (pc := 2) hG (dk dd_J6_bitCount_0f7a4 2 rfl) (v := 1) (by decide) ?_
  refine V_iushr (pc := 3) hG (dk dd_J6_bitCount_0f7a4 3 rfl) ?_
  refine V_ldc_w (pc := 4) hG (dk dd_J6_bitCount_0f7a4 4 rfl) kk_J6_265 ?_
  refine V_iand (pc := 7) hG (dk dd_J6_bitCount_0f7a4 5 rfl) ?_
  refine V_isub (pc := 8) hG (dk dd_J6_bitCount_0f7a4 6 rfl) ?_
  refine V_istore_n (pc := 9) hG (dk dd_J6_bitCount_0f7a4 7 rfl) (by decide) (lv' := [(0, _)]) rfl ?_
  refine V_iload_n (pc := 10) hG (dk dd_J6_bitCount_0f7a4 8 rfl) rfl ?_
  refine V_ldc_w (pc := 11) hG (dk dd_J6_bitCount_0f7a4 9 rfl) kk_J6_266 ?_
  refine V_iand (pc := 14) hG (dk dd_J6_bitCount_0f7a4 10 rfl) ?_
  refine V_iload_n (pc := 15) hG (dk dd_J6_bitCount_0f7a4 11 rfl) rfl ?_
  refine V_iconst (pc := 16) hG (dk dd_J6_bitCount_0f7a4 12 rfl) (v := 2) (by decide) ?_
  refine V_iushr (pc := 17) hG (dk dd_J6_bitCount_0f7a4 13 rfl) ?_
  refine V_ldc_w (pc := 18) hG (dk dd_J6_bitCount_0f7a4 14 rfl) kk_J6_266 ?_
  refine V_iand (pc := 21) hG (dk dd_J6_bitCount_0f7a4 15 rfl) ?_
  refine V_iadd (pc := 22) hG (dk dd_J6_bitCount_0f7a4 16 rfl) ?_
  refine V_istore_n (pc := 23) hG (dk dd_J6_bitCount_0f7a4 17 rfl) (by decide) (lv' := [(0, _)]) rfl ?_
  refine V_iload_n (pc := 24) hG (dk dd_J6_bitCount_0f7a4 18 rfl) rfl ?_
  refine V_iload_n (pc := 25) hG (dk dd_J6_bitCount_0f7a4 19 rfl) rfl ?_
  refine V_iconst (pc := 26) hG (dk dd_J6_bitCount_0f7a4 20 rfl) (v := 4) (by decide) ?_
  refine V_iushr (pc := 27) hG (dk dd_J6_bitCount_0f7a4 21 rfl) ?_
  refine V_iadd (pc := 28) hG (dk dd_J6_bitCount_0f7a4 22 rfl) ?_
  refine V_ldc_w (pc := 29) hG (dk dd_J6_bitCount_0f7a4 23 rfl) kk_J6_267 ?_
  refine V_iand (pc := 32) hG (dk dd_J6_bitCount_0f7a4 24 rfl) ?_
  refine V_istore_n (pc := 33) hG (dk dd_J6_bitCount_0f7a4 25 rfl) (by decide) (lv' := [(0, _)]) rfl ?_
  refine V_iload_n (pc := 34) hG (dk dd_J6_bitCount_0f7a4 26 rfl) rfl ?_
  refine V_iload_n (pc := 35) hG (dk dd_J6_bitCount_0f7a4 27 rfl) rfl ?_
  refine V_bipush (pc := 36) hG (dk dd_J6_bitCount_0f7a4 28 rfl) (v := 8) (by decide) ?_
  refine V_iushr (pc := 38) hG (dk dd_J6_bitCount_0f7a4 29 rfl) ?_
  refine V_iadd (pc := 39) hG (dk dd_J6_bitCount_0f7a4 30 rfl) ?_
  refine V_istore_n (pc := 40) hG (dk dd_J6_bitCount_0f7a4 31 rfl) (by decide) (lv' := [(0, _)]) rfl ?_
  refine V_iload_n (pc := 41) hG (dk dd_J6_bitCount_0f7a4 32 rfl) rfl ?_
  refine V_iload_n (pc := 42) hG (dk dd_J6_bitCount_0f7a4 33 rfl) rfl ?_
  refine V_bipush (pc := 43) hG (dk dd_J6_bitCount_0f7a4 34 rfl) (v := 16) (by decide) ?_
  refine V_iushr (pc := 45) hG (dk dd_J6_bitCount_0f7a4 35 rfl) ?_
  refine V_iadd (pc := 46) hG (dk dd_J6_bitCount_0f7a4 36 rfl) ?_
  refine V_istore_n (pc := 47) hG (dk dd_J6_bitCount_0f7a4 37 rfl) (by decide) (lv' := [(0, _)]) rfl ?_
  refine V_iload_n (pc := 48) hG (dk dd_J6_bitCount_0f7a4 38 rfl) rfl ?_
  refine V_bipush (pc := 49) hG (dk dd_J6_bitCount_0f7a4 39 rfl) (v := 63) (by decide) ?_
  refine V_iand (pc := 51) hG (dk dd_J6_bitCount_0f7a4 40 rfl) ?_
  refine V_iret (pc := 52) hG (dk dd_J6_bitCount_0f7a4 41 rfl) ?_
  rotate_left
  -- leaves: return@52
  · exact hR
theorem c_bits {μ : Mem} {x : Int32} {D : Nat} (hx : x = nI D) (hD : D < 256) : Ct yJ6_bitCount_0f7a4 cJ6_bitCount_0f7a4 1 (some .int) 0 [vI x] μ (some (vI (nI (bitsN D)))) μ := by
  rw [← bcF_N D hD, ← hx]; exact c_bitCount
theorem c_fill {μ : Mem} {a n : Nat} {v : Int32} (ha : Sh[a]? = some (.inr (0, n, []))) (hn : n < 2 ^ 31) : CtP yJ7_fill_53178 cJ7_fill_53178 4 none 0 [vR a, vI v] μ (Pv (fun μ' => ∃ f, μ' = setc μ a f ∧ ∀ i, i < n → f i = v)) := by
  refine CtP.go RJ7 rfl pn_J7 (Nat.le_of_ble_eq_true rfl) (fun C hG hR => ?_)
  have loop : ∀ k i f, i + k = n → (∀ q, q < i → f q = v) → V C 5 [(0, vR a), (1, vI v), (2, vI (nI i)), (3, vI (nI n))] [] (setc μ a f) := by
    intro k
    induction k with
    | zero =>
      intro i f hi hf
      refine V_iload_n (pc := 5) hG (dk dd_J7_fill_53178 5 rfl) rfl ?_
      refine V_iload_n (pc := 6) hG (dk dd_J7_fill_53178 6 rfl) rfl ?_
      refine V_icmp_ge (pc := 7) hG (dk dd_J7_fill_53178 7 rfl) (tgt := 20) (by decide) (fun h7 => ?_) (fun h7 => ?_)
      refine V_vretP (pc := 20) hG (dk dd_J7_fill_53178 14 rfl) hR (Pv.mk ?_)
      rotate_left
      rotate_left
      -- leaves: return@20; stop 10
      · exact ⟨f, rfl, fun q hq => hf q (by omega)⟩
      · exfalso; have := nle_i h7 (by omega) (by omega); omega
    | succ k ih =>
      intro i f hi hf
      have hr : vp_in (nI i) n := vp_in_nI (by omega) hn
      have hI := ih (i + 1) (upd f i v) (by omega) (fun q hq => by
        by_cases e : q = i
        · rw [e, pk_us]
        · rw [pk_un e]; exact hf q (by omega))
      rw [nI_succ] at hI
      refine V_iload_n (pc := 5) hG (dk dd_J7_fill_53178 5 rfl) rfl ?_
      refine V_iload_n (pc := 6) hG (dk dd_J7_fill_53178 6 rfl) rfl ?_
      refine V_icmp_ge (pc := 7) hG (dk dd_J7_fill_53178 7 rfl) (tgt := 20) (by decide) (fun h7 => ?_) (fun h7 => ?_)
      refine V_vretP (pc := 20) hG (dk dd_J7_fill_53178 14 rfl) hR (Pv.mk ?_)
      rotate_left
      refine V_aload_n (pc := 10) hG (dk dd_J7_fill_53178 8 rfl) rfl ?_
      refine V_iload_n (pc := 11) hG (dk dd_J7_fill_53178 9 rfl) rfl ?_
      refine V_iload_n (pc := 12) hG (dk dd_J7_fill_53178 10 rfl) rfl ?_
      refine V_iast (pc := 13) hG (dk dd_J7_fill_53178 11 rfl) ha hr ?_
      refine V_iinc (pc := 14) hG (dk dd_J7_fill_53178 12 rfl) rfl (v := _ + 1) rfl (by decide) (lv' := [(0, _), (1, _), (2, _), (3, _)]) rfl ?_
      refine V_goto (pc := 17) hG (dk dd_J7_fill_53178 13 rfl) (tgt := 5) (by decide) ?_
      rotate_left
      -- leaves: return@20; stop 5
      · exfalso; have := le_i h7 (by omega) (by omega); omega
      · rw [setc_s, nI_clamp (show i < 2 ^ 31 by omega), setc_c]; exact hI
  refine V_iconst (pc := 0) hG (dk dd_J7_fill_53178 0 rfl) (v := 0) (by decide) ?_
  refine V_istore_n (pc := 1) hG (dk dd_J7_fill_53178 1 rfl) (by decide) (lv' := [(0, _), (1, _), (2, _)]) rfl ?_
  refine V_aload_n (pc := 2) hG (dk dd_J7_fill_53178 2 rfl) rfl ?_
  refine V_alen (pc := 3) hG (dk dd_J7_fill_53178 3 rfl) ha (by decide) rfl ?_
  refine V_istore_n (pc := 4) hG (dk dd_J7_fill_53178 4 rfl) (by decide) (lv' := [(0, _), (1, _), (2, _), (3, _)]) rfl ?_
  rotate_left
  -- leaves: stop 5
  · have := loop n 0 (μ a) (by omega) (fun q hq => absurd hq (Nat.not_lt_zero q))
    rw [setc_id] at this
    exact this
