/-! ===== terms by draws ===== -/
def putDW (α : Al) (D : Nat) (W : Nat → Nat) : Al := fun x i => if x = 0 ∧ i = 3 then D else if x = 7 then W i else α x i
theorem pd_n {α : Al} {D : Nat} {W : Nat → Nat} {x i : Nat} (h : ¬ (x = 0 ∧ i = 3)) (h7 : x ≠ 7) : putDW α D W x i = α x i := by unfold putDW; rw [if_neg h, if_neg h7]
theorem pd_3 (α : Al) (D : Nat) (W : Nat → Nat) : putDW α D W 0 3 = D := by unfold putDW; exact if_pos ⟨rfl, rfl⟩
theorem pd_7 (α : Al) (D : Nat) (W : Nat → Nat) (i : Nat) : putDW α D W 7 i = W i := by unfold putDW; rw [if_neg (by omega), if_pos rfl]
theorem pd_hum (α : Al) (D : Nat) (W : Nat → Nat) (h E : Nat) : humN (putDW α D W) h E = humN α h E := by
  unfold humN; rw [pd_n (by omega) (by omega), pd_n (by omega) (by omega), pd_n (by omega) (by omega), pd_n (by omega) (by omega)]
theorem pd_ver (α : Al) (D : Nat) (W : Nat → Nat) (c E : Nat) : verN (putDW α D W) c E = verN α c E := by
  unfold verN judN; rw [pd_hum, pd_n (by omega) (by omega), pd_n (by omega) (by omega), pd_n (by omega) (by omega)]
theorem pd_hea (α : Al) (D : Nat) (W : Nat → Nat) (c E : Nat) : heaN (putDW α D W) c E = heaN α c E := by
  unfold heaN; rw [pd_hum, pd_n (by omega) (by omega), pd_n (by omega) (by omega)]
theorem pd_val {α : Al} (hv : Val α) {D : Nat} {W : Nat → Nat} (hD : D < 2 ^ α 0 0) (hW : ∀ c, c < α 0 7 → W c < 4) : Val (putDW α D W) := by
  obtain ⟨a, b, c, d, e, f, g, h, i⟩ := hv
  have z : ∀ k, k ≠ 3 → putDW α D W 0 k = α 0 k := fun k hk => pd_n (by omega) (by omega)
  have y : ∀ x k, x ≠ 0 → x ≠ 7 → putDW α D W x k = α x k := fun x k h1 h2 => pd_n (by omega) h2
  refine ⟨by rw [z 0 (by decide)]; exact a, by rw [z 1 (by decide)]; exact b, by rw [z 2 (by decide)]; exact c, by rw [pd_3, z 0 (by decide)]; exact hD, by rw [z 4 (by decide), z 2 (by decide)]; exact e, by rw [z 6 (by decide)]; exact f, by rw [z 7 (by decide)]; exact g, fun k hk => ?_, fun k hk => ?_⟩
  · rw [z 6 (by decide)] at hk
    have := h k hk
    unfold HumOk at this ⊢
    rw [y 1 k (by decide) (by decide), y 2 k (by decide) (by decide), y 3 k (by decide) (by decide), z 0 (by decide)]; exact this
  · rw [z 7 (by decide)] at hk
    have := i k hk
    unfold CaseOk at this ⊢
    rw [y 4 k (by decide) (by decide), y 5 k (by decide) (by decide), y 6 k (by decide) (by decide), z 0 (by decide), z 6 (by decide), pd_7]; exact ⟨this.1, this.2.1, this.2.2.1, hW k hk⟩
theorem ite_lt {P : Prop} [Decidable P] {a b n : Nat} (ha : a < n) (hb : b < n) : (if P then a else b) < n := by split <;> assumption
/-- the dream and the ways of cases -/
abbrev DW : Type := Nat × (Nat → Nat)
def hioS (α : Al) (s : DW) (c : Nat) : DW := if s.2 c = 0 then (heaN α c s.1, fun j => if j = c then verN α c s.1 else s.2 j) else s
def stpS (α : Al) (s : DW) (m : Nat) : DW := if m % 4 = 0 ∧ 0 < α 0 7 then hioS α s (m % α 0 7) else (humN α (m % α 0 6) s.1, s.2)
def nxX (m : Nat) : Nat := m * 16807 % 2147483647
def drwS (α : Al) : Nat → DW × Nat → DW × Nat
  | 0, q => q
  | k + 1, q => drwS α k (stpS α q.1 (nxX q.2), nxX q.2)
theorem drwS_s (α : Al) (k : Nat) (q : DW × Nat) : drwS α (k + 1) q = drwS α k (stpS α q.1 (nxX q.2), nxX q.2) := rfl
def DwOk (α : Al) (s : DW) : Prop := s.1 < 2 ^ α 0 0 ∧ ∀ c, c < α 0 7 → s.2 c < 4
theorem hioS_ok {α : Al} (hv : Val α) {s : DW} (h : DwOk α s) {c : Nat} (hc : c < α 0 7) : DwOk α (hioS α s c) := by
  unfold hioS
  split
  · refine ⟨heaN_lt hv hc h.1, fun d hd => ?_⟩
    dsimp only
    split
    · have := verN_lt α c s.1; omega
    · exact h.2 d hd
  · exact h
theorem stpS_ok {α : Al} (hv : Val α) {s : DW} (h : DwOk α s) (m : Nat) : DwOk α (stpS α s m) := by
  unfold stpS
  split
  · rename_i q; exact hioS_ok hv h (Nat.mod_lt _ q.2)
  · exact ⟨humN_lt hv (Nat.mod_lt _ hv.2.2.2.2.2.1.1) h.1, h.2⟩
/-- only the draft has changed -/
def Off23 (μ μ' : Mem) : Prop := ∀ a, (a < 23 ∨ 30 < a) → μ' a = μ a
theorem c_hearIfOpen {μ : Mem} {α : Al} (hv : Val α) {s : DW} (hk : DwOk α s) (hA : Abs (kac μ 23) (putDW α s.1 s.2)) {x : Int32} {c : Nat} (hx : x = nI c) (hc : c < α 0 7) :
    CtP yX2_hearIfOpen cX2_hearIfOpen 2 none 4 [vR 23, vI x] μ (Pv (fun μ' => Abs (kac μ' 23) (putDW α (hioS α s c).1 (hioS α s c).2) ∧ Off23 μ μ')) := by
  refine CtP.go RX2 rfl pn_X2 (Nat.le_of_ble_eq_true rfl) (fun C hG hR => ?_)
  have hv1 := pd_val hv hk.1 hk.2
  have hC5 := hv.C
  have z7 : putDW α s.1 s.2 0 7 = α 0 7 := pd_n (by omega) (by omega)
  have z0 : putDW α s.1 s.2 0 0 = α 0 0 := pd_n (by omega) (by omega)
  have hc1 : c < putDW α s.1 s.2 0 7 := by rw [z7]; exact hc
  have hr : vp_in x 5 := in_nI hx (by omega) (by decide)
  have cx : x.toNatClampNeg = c := nI_cl hx (by omega)
  have ew : μ 30 x.toNatClampNeg = nI (s.2 c) := by rw [cx]; have := hA.2.2 7 c (by decide) (by decide) hc1; rw [pd_7] at this; exact this
  have ed : μ 23 3 = nI s.1 := by have := hA.1 3 (by decide); rw [pd_3] at this; exact this
  have hD1 : s.1 < 2 ^ putDW α s.1 s.2 0 0 := by rw [z0]; exact hk.1
  have hA2 : Abs (kac (setc μ 30 (upd (μ 30) c (nI (verN α c s.1)))) 23) (putDW α s.1 (fun j => if j = c then verN α c s.1 else s.2 j)) := by
    refine ⟨fun i hi => ?_, fun y h h1 h2 h3 => ?_, fun y d h1 h2 h3 => ?_⟩
    · have := hA.1 i hi
      show setc μ 30 _ 23 i = _
      rw [setc_n (by decide)]
      by_cases e : i = 3
      · subst e; rw [pd_3]; exact ed
      · rw [pd_n (by omega) (by omega)] at this ⊢; exact this
    · rw [pd_n (by omega) (by omega)] at h3
      have := hA.2.1 y h h1 h2 (by rw [pd_n (by omega) (by omega)]; exact h3)
      show setc μ 30 _ (23 + y) h = _
      rw [setc_n (by omega), pd_n (by omega) (by omega)]
      rw [pd_n (by omega) (by omega)] at this; exact this
    · rw [pd_n (by omega) (by omega)] at h3
      have := hA.2.2 y d h1 h2 (by rw [pd_n (by omega) (by omega)]; exact h3)
      show setc μ 30 _ (23 + y) d = _
      by_cases e : y = 7
      · subst e
        rw [pd_7] at this ⊢
        rw [show 23 + 7 = 30 from rfl, setc_s]
        by_cases e2 : d = c
        · subst e2; rw [pk_us, if_pos rfl]
        · rw [pk_un e2, if_neg e2]; exact this
      · rw [setc_n (by omega), pd_n (by omega) e]
        rw [pd_n (by omega) e] at this; exact this
  have hv2 := pd_val hv (D := s.1) (W := fun j => if j = c then verN α c s.1 else s.2 j) hk.1 (fun d hd => ite_lt (by have := verN_lt α c s.1; omega) (hk.2 d hd))
  have evr : nI (verN (putDW α s.1 s.2) c s.1) = nI (verN α c s.1) := by rw [pd_ver]
  refine V_aload_n (pc := 0) hG (dk dd_X2_hearIfOpen 0 rfl) rfl ?_
  refine V_getR (pc := 1) hG (dk dd_X2_hearIfOpen 1 rfl) fl_X2_30 sh_23 rfl ?_
  refine V_iload_n (pc := 4) hG (dk dd_X2_hearIfOpen 2 rfl) rfl ?_
  refine V_iald (pc := 5) hG (dk dd_X2_hearIfOpen 3 rfl) sh_30 hr ?_
  refine V_if_ne (pc := 6) hG (dk dd_X2_hearIfOpen 4 rfl) (tgt := 37) (by decide) (fun h6 => ?_) (fun h6 => ?_)
  refine V_vretP (pc := 37) hG (dk dd_X2_hearIfOpen 21 rfl) hR (Pv.mk ?_)
  rotate_left
  refine V_aload_n (pc := 9) hG (dk dd_X2_hearIfOpen 5 rfl) rfl ?_
  refine V_getR (pc := 10) hG (dk dd_X2_hearIfOpen 6 rfl) fl_X2_30 sh_23 rfl ?_
  refine V_iload_n (pc := 13) hG (dk dd_X2_hearIfOpen 7 rfl) rfl ?_
  refine V_aload_n (pc := 14) hG (dk dd_X2_hearIfOpen 8 rfl) rfl ?_
  refine V_iload_n (pc := 15) hG (dk dd_X2_hearIfOpen 9 rfl) rfl ?_
  refine V_aload_n (pc := 16) hG (dk dd_X2_hearIfOpen 10 rfl) rfl ?_
  refine V_getI (pc := 17) hG (dk dd_X2_hearIfOpen 11 rfl) fl_X2_43 sh_23 rfl ?_
  refine V_callVi (pc := 20) hG (dk dd_X2_hearIfOpen 12 rfl) ml_X2_100 mo_X2_verdict sh_23 rfl (c_verdict co_dra hA hv1 hx hc1 ed hD1) (by decide) (by decide) rfl rfl rfl ?_
  refine V_iast (pc := 23) hG (dk dd_X2_hearIfOpen 13 rfl) sh_30 hr ?_
  refine V_aload_n (pc := 24) hG (dk dd_X2_hearIfOpen 14 rfl) rfl ?_
  refine V_aload_n (pc := 25) hG (dk dd_X2_hearIfOpen 15 rfl) rfl ?_
  refine V_iload_n (pc := 26) hG (dk dd_X2_hearIfOpen 16 rfl) rfl ?_
  refine V_aload_n (pc := 27) hG (dk dd_X2_hearIfOpen 17 rfl) rfl ?_
  refine V_getI (pc := 28) hG (dk dd_X2_hearIfOpen 18 rfl) fl_X2_43 sh_23 rfl ?_
  refine V_callVi (pc := 31) hG (dk dd_X2_hearIfOpen 19 rfl) ml_X2_122 mo_X2_dreamHeard sh_23 rfl (c_dreamHeard (α := putDW α s.1 (fun j => if j = c then verN α c s.1 else s.2 j)) co_dra (by rw [cx, evr]; exact hA2) hv2 hx (by rw [pd_n (by omega) (by omega)]; exact hc) (D := s.1) (by rw [setc_n (by decide)]; exact ed) (by rw [pd_n (by omega) (by omega)]; exact hk.1)) (by decide) (by decide) rfl rfl rfl ?_
  refine V_putI (pc := 34) hG (dk dd_X2_hearIfOpen 20 rfl) fl_X2_43 sh_23 rfl rfl ?_
  refine V_vretP (pc := 37) hG (dk dd_X2_hearIfOpen 21 rfl) hR (Pv.mk ?_)
  rotate_left
  -- leaves: return@37; return@37
  · rw [ew] at h6
    unfold hioS
    rw [if_neg (fun z => h6 (by rw [z]; rfl))]
    exact ⟨hA, fun _ _ => rfl⟩
  · rw [ew] at h6
    have h4 := hk.2 c hc
    unfold hioS
    rw [if_pos ((nI_eq (b := 0) (by omega) (by decide)).mp h6)]
    rw [cx, evr, pd_hea]
    refine ⟨⟨fun i hi => ?_, fun y h h1 h2 h3 => ?_, fun y d h1 h2 h3 => ?_⟩, fun a ha => by rw [setc_n (by omega), setc_n (by omega)]⟩
    · show setc _ 23 _ 23 i = _
      rw [setc_s]
      by_cases e : i = 3
      · subst e; rw [pk_us, pd_3]
      · have := hA2.1 i hi
        rw [pk_un e]
        rw [pd_n (by omega) (by omega)] at this ⊢; exact this
    · rw [pd_n (by omega) (by omega)] at h3
      have := hA2.2.1 y h h1 h2 (by rw [pd_n (by omega) (by omega)]; exact h3)
      show setc _ 23 _ (23 + y) h = _
      rw [setc_n (by omega), pd_n (by omega) (by omega)]
      rw [pd_n (by omega) (by omega)] at this; exact this
    · rw [pd_n (by omega) (by omega)] at h3
      have := hA2.2.2 y d h1 h2 (by rw [pd_n (by omega) (by omega)]; exact h3)
      show setc _ 23 _ (23 + y) d = _
      rw [setc_n (by omega)]
      by_cases e : y = 7
      · subst e; rw [pd_7] at this ⊢; exact this
      · rw [pd_n (by omega) e] at this ⊢; exact this
theorem lg0 {a : Nat} (h : a < 2 ^ 31) : (lg_cmp (lN a) 0 = 0) ↔ a = 0 := by
  unfold lg_cmp
  have e : (0 : Int64) = lN 0 := rfl
  rw [e]
  by_cases q : a = 0
  · subst q; simp
  · rw [if_pos (show lN a > lN 0 from (lN_lt (by decide) h).mpr (by omega))]
    constructor
    · intro z; exact absurd z (by decide)
    · intro z; exact absurd z q
theorem c_drawTerms {μ : Mem} {α : Al} (hv : Val α) {s0 : DW} (hk0 : DwOk α s0) (hA0 : Abs (kac μ 23) (putDW α s0.1 s0.2)) {x y : Int32} {N seed : Nat} (hx : x = nI N) (hN : N < 1000) (hy : y = nI seed) (hse : seed < 2147483647) :
    CtP yX2_drawTerms cX2_drawTerms 6 none 5 [vR 23, vI x, vI y] μ (Pv (fun μ' => (let s := (drwS α N (s0, seed)).1; Abs (kac μ' 23) (putDW α s.1 s.2)) ∧ Off23 μ μ')) := by
  refine CtP.go RX2 rfl pn_X2 (Nat.le_of_ble_eq_true rfl) (fun C hG hR => ?_)
  have hH := hv.H
  have hH1 := hv.2.2.2.2.2.1.1
  have hC5 := hv.C
  have loop : ∀ k i μ1 (u : DW × Nat), i + k = N → DwOk α u.1 → Abs (kac μ1 23) (putDW α u.1.1 u.1.2) → Off23 μ μ1 → u.2 < 2147483647 → drwS α k u = drwS α N (s0, seed) → V C 6 [(0, vR 23), (1, vI x), (2, vI y), (3, vL (lN u.2)), (5, vI (nI i))] [] μ1 := by
    intro k
    induction k with
    | zero =>
      intro i μ1 u hi f1 f2 f3 f4 f5
      refine V_iload (pc := 6) hG (dk dd_X2_drawTerms 5 rfl) rfl ?_
      refine V_iload_n (pc := 8) hG (dk dd_X2_drawTerms 6 rfl) rfl ?_
      refine V_icmp_ge (pc := 9) hG (dk dd_X2_drawTerms 7 rfl) (tgt := 87) (by decide) (fun h9 => ?_) (fun h9 => ?_)
      refine V_vretP (pc := 87) hG (dk dd_X2_drawTerms 49 rfl) hR (Pv.mk ?_)
      rotate_left
      rotate_left
      -- leaves: return@87; stop 12
      · rw [← f5]; exact ⟨f2, f3⟩
      · exfalso; rw [hx] at h9; have := nle_i h9 (by omega) (by omega); omega
    | succ k ih =>
      intro i μ1 u hi f1 f2 f3 f4 f5
      rw [drwS_s] at f5
      have hm : nxX u.2 < 2147483647 := Nat.mod_lt _ (by decide)
      have e7 : μ1 23 7 = nI (α 0 7) := by have := f2.1 7 (by decide); rw [pd_n (by omega) (by omega)] at this; exact this
      have e6 : μ1 23 6 = nI (α 0 6) := by have := f2.1 6 (by decide); rw [pd_n (by omega) (by omega)] at this; exact this
      have e3 : μ1 23 3 = nI u.1.1 := by have := f2.1 3 (by decide); rw [pd_3] at this; exact this
      have ex : lN u.2 * 16807 - lN u.2 * 16807 / 2147483647 * 2147483647 = lN (nxX u.2) := by
        rw [show (16807 : Int64) = lN 16807 from rfl, show (2147483647 : Int64) = lN 2147483647 from rfl, lN_mul, pk_lRem (by omega) (by decide) (by decide)]; rfl
      have e4 : lN (nxX u.2) - lN (nxX u.2) / 4 * 4 = lN (nxX u.2 % 4) := by
        rw [show (4 : Int64) = lN 4 from rfl, pk_lRem (by omega) (by decide) (by decide)]
      have hv1 := pd_val hv f1.1 f1.2
      have nx : ∀ μ2 : Mem, Abs (kac μ2 23) (putDW α (stpS α u.1 (nxX u.2)).1 (stpS α u.1 (nxX u.2)).2) → Off23 μ μ2 → V C 81 [(0, vR 23), (1, vI x), (2, vI y), (3, vL (lN (nxX u.2))), (5, vI (nI i))] [] μ2 := by
        intro μ2 g1 g2
        have hI := ih (i + 1) μ2 (stpS α u.1 (nxX u.2), nxX u.2) (by omega) (stpS_ok hv f1 _) g1 g2 hm f5
        rw [nI_succ] at hI
        refine V_iinc (pc := 81) hG (dk dd_X2_drawTerms 47 rfl) rfl (v := _ + 1) rfl (by decide) (lv' := [(0, _), (1, _), (2, _), (3, _), (5, _)]) rfl ?_
        refine V_goto (pc := 84) hG (dk dd_X2_drawTerms 48 rfl) (tgt := 6) (by decide) ?_
        rotate_left
        -- leaves: stop 6
        · exact hI
      have hum : (¬ (nxX u.2 % 4 = 0 ∧ 0 < α 0 7)) → V C 54 [(0, vR 23), (1, vI x), (2, vI y), (3, vL (lN (nxX u.2))), (5, vI (nI i))] [] μ1 := by
        intro hne
        have eh : (lN (nxX u.2) - lN (nxX u.2) / (μ1 23 6).toInt64 * (μ1 23 6).toInt64).toInt32 = nI (nxX u.2 % α 0 6) := by
          rw [e6, nI_l (by omega), pk_lRem (by omega) (by omega) (by omega), lN_i]
        have hst : stpS α u.1 (nxX u.2) = (humN α (nxX u.2 % α 0 6) u.1.1, u.1.2) := by unfold stpS; rw [if_neg hne]
        refine V_aload_n (pc := 54) hG (dk dd_X2_drawTerms 32 rfl) rfl ?_
        refine V_getI (pc := 55) hG (dk dd_X2_drawTerms 33 rfl) fl_X2_52 sh_23 rfl ?_
        refine V_if_le (pc := 58) hG (dk dd_X2_drawTerms 34 rfl) (tgt := 81) (by decide) (fun h58 => ?_) (fun h58 => ?_)
        rotate_left
        refine V_aload_n (pc := 61) hG (dk dd_X2_drawTerms 35 rfl) rfl ?_
        refine V_aload_n (pc := 62) hG (dk dd_X2_drawTerms 36 rfl) rfl ?_
        refine V_lload_n (pc := 63) hG (dk dd_X2_drawTerms 37 rfl) rfl ?_
        refine V_aload_n (pc := 64) hG (dk dd_X2_drawTerms 38 rfl) rfl ?_
        refine V_getI (pc := 65) hG (dk dd_X2_drawTerms 39 rfl) fl_X2_52 sh_23 rfl ?_
        refine V_i2l (pc := 68) hG (dk dd_X2_drawTerms 40 rfl) ?_
        refine V_lrem (pc := 69) hG (dk dd_X2_drawTerms 41 rfl) ?_ ?_
        rotate_left
        refine V_l2i (pc := 70) hG (dk dd_X2_drawTerms 42 rfl) ?_
        refine V_aload_n (pc := 71) hG (dk dd_X2_drawTerms 43 rfl) rfl ?_
        refine V_getI (pc := 72) hG (dk dd_X2_drawTerms 44 rfl) fl_X2_43 sh_23 rfl ?_
        refine V_callVi (pc := 75) hG (dk dd_X2_drawTerms 45 rfl) ml_X2_82 mo_X2_by sh_23 rfl (c_by co_dra f2 hv1 eh (by rw [pd_n (by omega) (by omega)]; exact Nat.mod_lt _ hH1) e3 (by rw [pd_n (by omega) (by omega)]; exact f1.1)) (by decide) (by decide) rfl rfl rfl ?_
        refine V_putI (pc := 78) hG (dk dd_X2_drawTerms 46 rfl) fl_X2_43 sh_23 rfl rfl ?_
        rotate_left
        -- leaves: stop 81; lrem@69 ≠ 0; stop 81
        · exfalso; rw [e6] at h58; exact nI_nle (by omega) (by omega) h58
        · rw [e6, nI_l (by omega)]; exact fun z => by have := (lN_eq (b := 0) (by omega) (by decide)).mp z; omega
        · refine nx _ ?_ (fun a ha => by rw [setc_n (by omega)]; exact f3 a ha)
          rw [hst, pd_hum]
          refine ⟨fun i hi => ?_, fun y h h1 h2 h3 => ?_, fun y d h1 h2 h3 => ?_⟩
          · show setc μ1 23 _ 23 i = _
            rw [setc_s]
            by_cases e : i = 3
            · subst e; rw [pk_us, pd_3]
            · have := f2.1 i hi
              rw [pk_un e]
              rw [pd_n (by omega) (by omega)] at this ⊢; exact this
          · rw [pd_n (by omega) (by omega)] at h3
            have := f2.2.1 y h h1 h2 (by rw [pd_n (by omega) (by omega)]; exact h3)
            show setc μ1 23 _ (23 + y) h = _
            rw [setc_n (by omega), pd_n (by omega) (by omega)]
            rw [pd_n (by omega) (by omega)] at this; exact this
          · rw [pd_n (by omega) (by omega)] at h3
            have := f2.2.2 y d h1 h2 (by rw [pd_n (by omega) (by omega)]; exact h3)
            show setc μ1 23 _ (23 + y) d = _
            rw [setc_n (by omega)]
            by_cases e : y = 7
            · subst e; rw [pd_7] at this ⊢; exact this
            · rw [pd_n (by omega) e] at this ⊢; exact this
      refine V_iload (pc := 6) hG (dk dd_X2_drawTerms 5 rfl) rfl ?_
      refine V_iload_n (pc := 8) hG (dk dd_X2_drawTerms 6 rfl) rfl ?_
      refine V_icmp_ge (pc := 9) hG (dk dd_X2_drawTerms 7 rfl) (tgt := 87) (by decide) (fun h9 => ?_) (fun h9 => ?_)
      rotate_left
      refine V_lload_n (pc := 12) hG (dk dd_X2_drawTerms 8 rfl) rfl ?_
      refine V_ldc2_w (pc := 13) hG (dk dd_X2_drawTerms 9 rfl) kk_X2_112 ?_
      refine V_lmul (pc := 16) hG (dk dd_X2_drawTerms 10 rfl) ?_
      refine V_ldc2_w (pc := 17) hG (dk dd_X2_drawTerms 11 rfl) kk_X2_114 ?_
      refine V_lrem (pc := 20) hG (dk dd_X2_drawTerms 12 rfl) (by decide) ?_
      refine V_lstore_n (pc := 21) hG (dk dd_X2_drawTerms 13 rfl) (by decide) (lv' := [(0, _), (1, _), (2, _), (3, _), (5, _)]) rfl ?_
      refine V_lload_n (pc := 22) hG (dk dd_X2_drawTerms 14 rfl) rfl ?_
      refine V_ldc2_w (pc := 23) hG (dk dd_X2_drawTerms 15 rfl) kk_X2_116 ?_
      refine V_lrem (pc := 26) hG (dk dd_X2_drawTerms 16 rfl) (by decide) ?_
      refine V_lconst (pc := 27) hG (dk dd_X2_drawTerms 17 rfl) (v := 0) (by decide) ?_
      refine V_lcmp (pc := 28) hG (dk dd_X2_drawTerms 18 rfl) ?_
      refine V_if_ne (pc := 29) hG (dk dd_X2_drawTerms 19 rfl) (tgt := 54) (by decide) (fun h29 => ?_) (fun h29 => ?_)
      rotate_left
      refine V_aload_n (pc := 32) hG (dk dd_X2_drawTerms 20 rfl) rfl ?_
      refine V_getI (pc := 33) hG (dk dd_X2_drawTerms 21 rfl) fl_X2_55 sh_23 rfl ?_
      refine V_if_le (pc := 36) hG (dk dd_X2_drawTerms 22 rfl) (tgt := 54) (by decide) (fun h36 => ?_) (fun h36 => ?_)
      rotate_left
      refine V_aload_n (pc := 39) hG (dk dd_X2_drawTerms 23 rfl) rfl ?_
      refine V_lload_n (pc := 40) hG (dk dd_X2_drawTerms 24 rfl) rfl ?_
      refine V_aload_n (pc := 41) hG (dk dd_X2_drawTerms 25 rfl) rfl ?_
      refine V_getI (pc := 42) hG (dk dd_X2_drawTerms 26 rfl) fl_X2_55 sh_23 rfl ?_
      refine V_i2l (pc := 45) hG (dk dd_X2_drawTerms 27 rfl) ?_
      refine V_lrem (pc := 46) hG (dk dd_X2_drawTerms 28 rfl) ?_ ?_
      rotate_left
      refine V_l2i (pc := 47) hG (dk dd_X2_drawTerms 29 rfl) ?_
      refine V_callVvp (pc := 48) hG (dk dd_X2_drawTerms 30 rfl) ml_X2_118 mo_X2_hearIfOpen sh_23 rfl (c_hearIfOpen hv f1 f2 (c := nxX u.2 % α 0 7) ?_ ?_) (by decide) (by decide) rfl rfl rfl (fun m48 p48 => ?_)
      rotate_left
      rotate_left
      refine V_goto (pc := 51) hG (dk dd_X2_drawTerms 31 rfl) (tgt := 81) (by decide) ?_
      rotate_left
      -- leaves: stop 87; stop 54; stop 54; lrem@46 ≠ 0; call hearIfOpen@48 0; call hearIfOpen@48 1; stop 81
      · exfalso; rw [hx] at h9; have := le_i h9 (by omega) (by omega); omega
      · rw [ex] at h29 ⊢
        rw [e4] at h29
        exact hum (fun z => h29 ((lg0 (by omega)).mpr z.1))
      · rw [ex]
        rw [e7] at h36
        exact hum (fun z => nI_nle z.2 (by omega) h36)
      · rw [e7] at h36 ⊢
        rw [nI_l (by omega)]
        exact fun z => by have := (lN_eq (b := 0) (by omega) (by decide)).mp z; exact h36 (by rw [this]; decide)
      · rw [e7] at h36 ⊢
        have hp : 0 < α 0 7 := Nat.pos_of_ne_zero (fun z => h36 (by rw [z]; decide))
        rw [ex, nI_l (by omega), pk_lRem (by omega) hp (by omega), lN_i]
      · rw [e7] at h36
        have hp : 0 < α 0 7 := Nat.pos_of_ne_zero (fun z => h36 (by rw [z]; decide))
        exact Nat.mod_lt _ hp
      · rw [ex] at h29 ⊢
        rw [e4] at h29
        rw [e7] at h36
        have hp : 0 < α 0 7 := Nat.pos_of_ne_zero (fun z => h36 (by rw [z]; decide))
        have hst : stpS α u.1 (nxX u.2) = hioS α u.1 (nxX u.2 % α 0 7) := by unfold stpS; rw [if_pos ⟨(lg0 (by omega)).mp h29, hp⟩]
        exact nx _ (by rw [hst]; exact p48.1) (fun a ha => by rw [p48.2 a ha]; exact f3 a ha)
  refine V_iload_n (pc := 0) hG (dk dd_X2_drawTerms 0 rfl) rfl ?_
  refine V_i2l (pc := 1) hG (dk dd_X2_drawTerms 1 rfl) ?_
  refine V_lstore_n (pc := 2) hG (dk dd_X2_drawTerms 2 rfl) (by decide) (lv' := [(0, _), (1, _), (2, _), (3, _)]) rfl ?_
  refine V_iconst (pc := 3) hG (dk dd_X2_drawTerms 3 rfl) (v := 0) (by decide) ?_
  refine V_istore (pc := 4) hG (dk dd_X2_drawTerms 4 rfl) (by decide) (lv' := [(0, _), (1, _), (2, _), (3, _), (5, _)]) rfl ?_
  rotate_left
  -- leaves: stop 6
  · have := loop N 0 μ (s0, seed) (by omega) hk0 hA0 (fun _ _ => rfl) hse rfl
    rw [hy, nI_l (by omega)]
    rw [hy] at this
    exact this
