/-! ===== terms by draws ===== -/
def putDW (α : Al) (D : Nat) (W : Nat → Nat) : Al := fun x i => if x = 0 ∧ i = 3 then D else if x = 7 then W i else α x i
theorem pd_n {α : Al} {D : Nat} {W : Nat → Nat} {x i : Nat} (h : ¬ (x = 0 ∧ i = 3)) (h7 : x ≠ 7) : putDW α D W x i = α x i := by unfold putDW; rw [if_neg h, if_neg h7]
theorem pd_3 (α : Al) (D : Nat) (W : Nat → Nat) : putDW α D W 0 3 = D := by unfold putDW; exact if_pos ⟨rfl, rfl⟩
theorem pd_7 (α : Al) (D : Nat) (W : Nat → Nat) (i : Nat) : putDW α D W 7 i = W i := by unfold putDW; rw [if_neg (by omega), if_pos rfl]
theorem pd_hum (α : Al) (D : Nat) (W : Nat → Nat) (h E : Nat) : humN (putDW α D W) h E = humN α h E := by
  unfold humN; rw [pd_n (by omega) (by omega), pd_n (by omega) (by omega), pd_n (by omega) (by omega), pd_n (by omega) (by omega)]
theorem pd_ver (α : Al) (D : Nat) (W : Nat → Nat) (c E : Nat) : verN (putDW α D W) c E = verN α c E := by
  unfold verN judN; rw [pd_hum, pd_n (by omega) (by omega), pd_n (by omega) (by omega), pd_n (by omega) (by omega)]
theorem pd_hea (α : Al) (D : Nat) (W : Nat → Nat) (c E : Nat) : heaN (putDW α D W) c E = heaN α c E := by
  unfold heaN; rw [pd_hum, pd_n (by omega) (by omega), pd_n (by omega) (by omega)]
theorem pd_val {α : Al} (hv : Val α) {D : Nat} {W : Nat → Nat} (hD : D < 2 ^ α 0 0) (hW : ∀ c, c < α 0 7 → W c < 4) : Val (putDW α D W) := by
  obtain ⟨a, b, c, d, e, f, g, h, i⟩ := hv
  have z : ∀ k, k ≠ 3 → putDW α D W 0 k = α 0 k := fun k hk => pd_n (by omega) (by omega)
  refine ⟨by rw [z 0 (by decide)]; exact a, by rw [z 1 (by decide)]; exact b, by rw [z 2 (by decide)]; exact c, by rw [pd_3, z 0 (by decide)]; exact hD, by rw [z 4 (by decide), z 2 (by decide)]; exact e, by rw [z 6 (by decide)]; exact f, by rw [z 7 (by decide)]; exact g, fun k hk => ?_, fun k hk => ?_⟩
  · rw [z 6 (by decide)] at hk
    have := h k hk
    unfold HumOk at this ⊢
    rw [pd_n (by omega) (by omega), pd_n (by omega) (by omega), pd_n (by omega) (by omega), z 0 (by decide)]; exact this
  · rw [z 7 (by decide)] at hk
    have := i k hk
    unfold CaseOk at this ⊢
    rw [pd_n (by omega) (by omega), pd_n (by omega) (by omega), pd_n (by omega) (by omega), z 0 (by decide), z 6 (by decide), pd_7]; exact ⟨this.1, this.2.1, this.2.2.1, hW k hk⟩
/-- the dream and the ways of cases -/
abbrev DW : Type := Nat × (Nat → Nat)
def hioS (α : Al) (s : DW) (c : Nat) : DW := if s.2 c = 0 then (heaN α c s.1, fun j => if j = c then verN α c s.1 else s.2 j) else s
def stpS (α : Al) (s : DW) (m : Nat) : DW := if m % 4 = 0 ∧ 0 < α 0 7 then hioS α s (m % α 0 7) else (humN α (m % α 0 6) s.1, s.2)
def nxX (m : Nat) : Nat := m * 16807 % 2147483647
def drwS (α : Al) : Nat → DW × Nat → DW × Nat
  | 0, q => q
  | k + 1, q => drwS α k (stpS α q.1 (nxX q.2), nxX q.2)
theorem drwS_s (α : Al) (k : Nat) (q : DW × Nat) : drwS α (k + 1) q = drwS α k (stpS α q.1 (nxX q.2), nxX q.2) := rfl
def DwOk (α : Al) (s : DW) : Prop := s.1 < 2 ^ α 0 0 ∧ ∀ c, c < α 0 7 → s.2 c < 4
theorem hioS_ok {α : Al} (hv : Val α) {s : DW} (h : DwOk α s) {c : Nat} (hc : c < α 0 7) : DwOk α (hioS α s c) := by
  unfold hioS
  split
  · refine ⟨heaN_lt hv hc h.1, fun d hd => ?_⟩
    dsimp only
    split
    · have := verN_lt α c s.1; omega
    · exact h.2 d hd
  · exact h
theorem stpS_ok {α : Al} (hv : Val α) {s : DW} (h : DwOk α s) (m : Nat) : DwOk α (stpS α s m) := by
  unfold stpS
  split
  · rename_i q; exact hioS_ok hv h (Nat.mod_lt _ q.2)
  · exact ⟨humN_lt hv (Nat.mod_lt _ hv.2.2.2.2.2.1.1) h.1, h.2⟩
/-- only the draft has changed -/
def Off23 (μ μ' : Mem) : Prop := ∀ a, (a < 23 ∨ 30 < a) → μ' a = μ a
theorem c_hearIfOpen {μ : Mem} {α : Al} (hv : Val α) {s : DW} (hk : DwOk α s) (hA : Abs (kac μ 23) (putDW α s.1 s.2)) {x : Int32} {c : Nat} (hx : x = nI c) (hc : c < α 0 7) :
    CtP yX2_hearIfOpen cX2_hearIfOpen 2 none 4 [vR 23, vI x] μ (Pv (fun μ' => Abs (kac μ' 23) (putDW α (hioS α s c).1 (hioS α s c).2) ∧ Off23 μ μ')) := by
  refine CtP.go RX2 rfl pn_X2 (Nat.le_of_ble_eq_true rfl) (fun C hG hR => ?_)
  have hv1 := pd_val hv hk.1 hk.2
  have hC5 := hv.C
  have z7 : putDW α s.1 s.2 0 7 = α 0 7 := pd_n (by omega) (by omega)
  have z0 : putDW α s.1 s.2 0 0 = α 0 0 := pd_n (by omega) (by omega)
  have hc1 : c < putDW α s.1 s.2 0 7 := by rw [z7]; exact hc
  have hr : vp_in x 5 := in_nI hx (by omega) (by decide)
  have cx : x.toNatClampNeg = c := nI_cl hx (by omega)
  have ew : μ 30 x.toNatClampNeg = nI (s.2 c) := by rw [cx]; have := hA.2.2 7 c (by decide) (by decide) hc1; rw [pd_7] at this; exact this
  have ed : μ 23 3 = nI s.1 := by have := hA.1 3 (by decide); rw [pd_3] at this; exact this
  have hD1 : s.1 < 2 ^ putDW α s.1 s.2 0 0 := by rw [z0]; exact hk.1
  have hA2 : Abs (kac (setc μ 30 (upd (μ 30) c (nI (verN α c s.1)))) 23) (putDW α s.1 (fun j => if j = c then verN α c s.1 else s.2 j)) := by
    refine ⟨fun i hi => ?_, fun y h h1 h2 h3 => ?_, fun y d h1 h2 h3 => ?_⟩
    · have := hA.1 i hi
      show setc μ 30 _ 23 i = _
      rw [setc_n (by decide)]
      by_cases e : i = 3
      · subst e; rw [pd_3]; exact ed
      · rw [pd_n (by omega) (by omega)] at this ⊢; exact this
    · rw [pd_n (by omega) (by omega)] at h3
      have := hA.2.1 y h h1 h2 (by rw [pd_n (by omega) (by omega)]; exact h3)
      show setc μ 30 _ (23 + y) h = _
      rw [setc_n (by omega), pd_n (by omega) (by omega)]
      rw [pd_n (by omega) (by omega)] at this; exact this
    · rw [pd_n (by omega) (by omega)] at h3
      have := hA.2.2 y d h1 h2 (by rw [pd_n (by omega) (by omega)]; exact h3)
      show setc μ 30 _ (23 + y) d = _
      by_cases e : y = 7
      · subst e
        rw [pd_7] at this ⊢
        rw [show 23 + 7 = 30 from rfl, setc_s]
        by_cases e2 : d = c
        · subst e2; rw [pk_us, if_pos rfl]
        · rw [pk_un e2, if_neg e2]; exact this
      · rw [setc_n (by omega), pd_n (by omega) e]
        rw [pd_n (by omega) e] at this; exact this
  have hv2 := pd_val hv (D := s.1) (W := fun j => if j = c then verN α c s.1 else s.2 j) hk.1 (fun d hd => by dsimp only; split; have := verN_lt α c s.1; omega; exact hk.2 d hd)
  have evr : nI (verN (putDW α s.1 s.2) c s.1) = nI (verN α c s.1) := by rw [pd_ver]
  refine V_aload_n (pc := 0) hG (dk dd_X2_hearIfOpen 0 rfl) rfl ?_
  refine V_getR (pc := 1) hG (dk dd_X2_hearIfOpen 1 rfl) fl_X2_30 sh_23 rfl ?_
  refine V_iload_n (pc := 4) hG (dk dd_X2_hearIfOpen 2 rfl) rfl ?_
  refine V_iald (pc := 5) hG (dk dd_X2_hearIfOpen 3 rfl) sh_30 hr ?_
  refine V_if_ne (pc := 6) hG (dk dd_X2_hearIfOpen 4 rfl) (tgt := 37) (by decide) (fun h6 => ?_) (fun h6 => ?_)
  refine V_vretP (pc := 37) hG (dk dd_X2_hearIfOpen 21 rfl) hR (Pv.mk ?_)
  rotate_left
  refine V_aload_n (pc := 9) hG (dk dd_X2_hearIfOpen 5 rfl) rfl ?_
  refine V_getR (pc := 10) hG (dk dd_X2_hearIfOpen 6 rfl) fl_X2_30 sh_23 rfl ?_
  refine V_iload_n (pc := 13) hG (dk dd_X2_hearIfOpen 7 rfl) rfl ?_
  refine V_aload_n (pc := 14) hG (dk dd_X2_hearIfOpen 8 rfl) rfl ?_
  refine V_iload_n (pc := 15) hG (dk dd_X2_hearIfOpen 9 rfl) rfl ?_
  refine V_aload_n (pc := 16) hG (dk dd_X2_hearIfOpen 10 rfl) rfl ?_
  refine V_getI (pc := 17) hG (dk dd_X2_hearIfOpen 11 rfl) fl_X2_43 sh_23 rfl ?_
  refine V_callVi (pc := 20) hG (dk dd_X2_hearIfOpen 12 rfl) ml_X2_100 mo_X2_verdict sh_23 rfl (c_verdict co_dra hA hv1 hx hc1 ed hD1) (by decide) (by decide) rfl rfl rfl ?_
  refine V_iast (pc := 23) hG (dk dd_X2_hearIfOpen 13 rfl) sh_30 hr ?_
  refine V_aload_n (pc := 24) hG (dk dd_X2_hearIfOpen 14 rfl) rfl ?_
  refine V_aload_n (pc := 25) hG (dk dd_X2_hearIfOpen 15 rfl) rfl ?_
  refine V_iload_n (pc := 26) hG (dk dd_X2_hearIfOpen 16 rfl) rfl ?_
  refine V_aload_n (pc := 27) hG (dk dd_X2_hearIfOpen 17 rfl) rfl ?_
  refine V_getI (pc := 28) hG (dk dd_X2_hearIfOpen 18 rfl) fl_X2_43 sh_23 rfl ?_
  refine V_callVi (pc := 31) hG (dk dd_X2_hearIfOpen 19 rfl) ml_X2_122 mo_X2_dreamHeard sh_23 rfl (c_dreamHeard (α := putDW α s.1 (fun j => if j = c then verN α c s.1 else s.2 j)) co_dra (by rw [cx, evr]; exact hA2) hv2 hx (by rw [pd_n (by omega) (by omega)]; exact hc) (D := s.1) (by rw [setc_n (by decide)]; exact ed) (by rw [pd_n (by omega) (by omega)]; exact hk.1)) (by decide) (by decide) rfl rfl rfl ?_
  refine V_putI (pc := 34) hG (dk dd_X2_hearIfOpen 20 rfl) fl_X2_43 sh_23 rfl rfl ?_
  refine V_vretP (pc := 37) hG (dk dd_X2_hearIfOpen 21 rfl) hR (Pv.mk ?_)
  rotate_left
  -- leaves: return@37; return@37
  · rw [ew] at h6
    unfold hioS
    rw [if_neg (fun z => h6 (by rw [z]; rfl))]
    exact ⟨hA, fun _ _ => rfl⟩
  · rw [ew] at h6
    have h4 := hk.2 c hc
    unfold hioS
    rw [if_pos ((nI_eq (b := 0) (by omega) (by decide)).mp h6)]
    rw [cx, evr, pd_hea]
    refine ⟨⟨fun i hi => ?_, fun y h h1 h2 h3 => ?_, fun y d h1 h2 h3 => ?_⟩, fun a ha => by rw [setc_n (by omega), setc_n (by omega)]⟩
    · show setc _ 23 _ 23 i = _
      rw [setc_s]
      by_cases e : i = 3
      · subst e; rw [pk_us, pd_3]
      · have := hA2.1 i hi
        rw [pk_un e]
        rw [pd_n (by omega) (by omega)] at this ⊢; exact this
    · rw [pd_n (by omega) (by omega)] at h3
      have := hA2.2.1 y h h1 h2 (by rw [pd_n (by omega) (by omega)]; exact h3)
      show setc _ 23 _ (23 + y) h = _
      rw [setc_n (by omega), pd_n (by omega) (by omega)]
      rw [pd_n (by omega) (by omega)] at this; exact this
    · rw [pd_n (by omega) (by omega)] at h3
      have := hA2.2.2 y d h1 h2 (by rw [pd_n (by omega) (by omega)]; exact h3)
      show setc _ 23 _ (23 + y) d = _
      rw [setc_n (by omega)]
      by_cases e : y = 7
      · subst e; rw [pd_7] at this ⊢; exact this
      · rw [pd_n (by omega) e] at this ⊢; exact this
