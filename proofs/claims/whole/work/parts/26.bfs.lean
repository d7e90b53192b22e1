/-! ===== Walks: dreams within n hums ===== -/
/-- the dreams met so far: N of them, each with its row -/
def Met0 (α : Al) (D : Nat) (N : Nat) (ρ : Nat → List Nat) : Nat → Prop := fun E => ∃ i, i < N ∧ endN α D (ρ i) = E
def BF (μ : Mem) (α : Al) (N : Nat) (ρ : Nat → List Nat) (fr : Nat → Nat) : Prop :=
  μ 51 7 = nI N ∧ (∀ i, i < N → Hs α (ρ i) ∧ μ 54 i = nI (endN α (α 0 3) (ρ i)) ∧ μ 57 i = nI (ρ i).length) ∧
  (∀ i, 0 < i → i < N → fr i < i ∧ μ 55 i = nI (fr i) ∧ ∃ h, h < α 0 6 ∧ μ 56 i = nI h ∧ ρ i = ρ (fr i) ++ [h]) ∧ ρ 0 = [] ∧ 1 ≤ N ∧
  (∀ i j, i < j → j < N → sl (ρ i) (ρ j)) ∧ Mk (μ 52) (Met0 α (α 0 3) N ρ) ∧ cntT (Met0 α (α 0 3) N ρ) 256 = N
theorem cntT_cg {P Q : Nat → Prop} : ∀ {n : Nat}, (∀ E, E < n → (P E ↔ Q E)) → cntT P n = cntT Q n
  | 0, _ => rfl
  | n + 1, h => by
    rw [cntT_s, cntT_s, cntT_cg (fun E hE => h E (by omega))]
    by_cases q : P n
    · rw [p1_t q, p1_t ((h n (by omega)).mp q)]
    · rw [p1_f q, p1_f (fun z => q ((h n (by omega)).mpr z))]
theorem cntT_add {P : Nat → Prop} {k : Nat} (hk : ¬ P k) : ∀ {n : Nat}, cntT (fun E => P E ∨ E = k) n = cntT P n + (if k < n then 1 else 0)
  | 0 => rfl
  | n + 1 => by
    rw [cntT_s, cntT_s, cntT_add hk]
    by_cases e : n = k
    · subst e
      rw [p1_t (Or.inr rfl), p1_f hk, if_neg (by omega), if_pos (by omega)]
    · have : p1 (P n ∨ n = k) = p1 (P n) := by
        by_cases q : P n
        · rw [p1_t q, p1_t (Or.inl q)]
        · rw [p1_f q, p1_f (fun z => z.elim q e)]
      rw [this]
      by_cases l : k < n
      · rw [if_pos l, if_pos (by omega)]; omega
      · rw [if_neg l, if_neg (by omega)]; omega
theorem cntT_lt {P : Nat → Prop} {k n : Nat} (hk : ¬ P k) (h : k < n) : cntT P n < n := by
  have h1 := cntT_add hk (n := n)
  have h2 := cntT_le (fun E => P E ∨ E = k) n
  rw [if_pos h] at h1
  omega
/-- a dream is met: as it was, or new -/
def MeetQ (μ : Mem) (E N : Nat) (x y z w : Int32) (μ' : Mem) : Prop := (¬ μ 52 E = 0 ∧ μ' = μ) ∨ (μ 52 E = 0 ∧ μ' = setc (setc (setc (setc (setc (setc μ 52 (upd (μ 52) E 1)) 54 (upd (μ 54) N x)) 55 (upd (μ 55) N y)) 56 (upd (μ 56) N z)) 57 (upd (μ 57) N w)) 51 (upd (μ 51) 7 (nI (N + 1))))
theorem c_meet {μ : Mem} {x y z w : Int32} {E N : Nat} (hx : x = nI E) (hE : E < 256) (hN : μ 51 7 = nI N) (hl : μ 52 E = 0 → N < 256) : CtP yX8_meet cX8_meet 5 none 0 [vR 51, vI x, vI y, vI z, vI w] μ (Pv (fun μ' => MeetQ μ E N x y z w μ')) := by
  refine CtP.go RX8 rfl pn_X8 (Nat.le_of_ble_eq_true rfl) (fun C hG hR => ?_)
  have hr : vp_in x 256 := in_nI hx hE (by decide)
  have hc : x.toNatClampNeg = E := nI_cl hx (by omega)
  refine V_aload_n (pc := 0) hG (dk dd_X8_meet 0 rfl) rfl ?_
  refine V_getR (pc := 1) hG (dk dd_X8_meet 1 rfl) fl_X8_9 sh_51 rfl ?_
  refine V_iload_n (pc := 4) hG (dk dd_X8_meet 2 rfl) rfl ?_
  refine V_iald (pc := 5) hG (dk dd_X8_meet 3 rfl) sh_52 hr ?_
  refine V_if_ne (pc := 6) hG (dk dd_X8_meet 4 rfl) (tgt := 77) (by decide) (fun h6 => ?_) (fun h6 => ?_)
  refine V_vretP (pc := 77) hG (dk dd_X8_meet 44 rfl) hR (Pv.mk ?_)
  rotate_left
  refine V_aload_n (pc := 9) hG (dk dd_X8_meet 5 rfl) rfl ?_
  refine V_getI (pc := 10) hG (dk dd_X8_meet 6 rfl) fl_X8_71 sh_51 rfl ?_
  refine V_sipush (pc := 13) hG (dk dd_X8_meet 7 rfl) (v := 256) (by decide) ?_
  refine V_icmp_ge (pc := 16) hG (dk dd_X8_meet 8 rfl) (tgt := 77) (by decide) (fun h16 => ?_) (fun h16 => ?_)
  refine V_vretP (pc := 77) hG (dk dd_X8_meet 44 rfl) hR (Pv.mk ?_)
  rotate_left
  refine V_aload_n (pc := 19) hG (dk dd_X8_meet 9 rfl) rfl ?_
  refine V_getR (pc := 20) hG (dk dd_X8_meet 10 rfl) fl_X8_9 sh_51 rfl ?_
  refine V_iload_n (pc := 23) hG (dk dd_X8_meet 11 rfl) rfl ?_
  refine V_iconst (pc := 24) hG (dk dd_X8_meet 12 rfl) (v := 1) (by decide) ?_
  refine V_iast (pc := 25) hG (dk dd_X8_meet 13 rfl) sh_52 hr ?_
  refine V_aload_n (pc := 26) hG (dk dd_X8_meet 14 rfl) rfl ?_
  refine V_getR (pc := 27) hG (dk dd_X8_meet 15 rfl) fl_X8_18 sh_51 rfl ?_
  refine V_aload_n (pc := 30) hG (dk dd_X8_meet 16 rfl) rfl ?_
  refine V_getI (pc := 31) hG (dk dd_X8_meet 17 rfl) fl_X8_71 sh_51 rfl ?_
  refine V_iload_n (pc := 34) hG (dk dd_X8_meet 18 rfl) rfl ?_
  refine V_iast (pc := 35) hG (dk dd_X8_meet 19 rfl) sh_54 (by rw [hc] at h6; simp (disch := omega) only [setc_s, setc_n]; rw [hN]; exact vp_in_nI (hl h6) (by decide)) ?_
  refine V_aload_n (pc := 36) hG (dk dd_X8_meet 20 rfl) rfl ?_
  refine V_getR (pc := 37) hG (dk dd_X8_meet 21 rfl) fl_X8_21 sh_51 rfl ?_
  refine V_aload_n (pc := 40) hG (dk dd_X8_meet 22 rfl) rfl ?_
  refine V_getI (pc := 41) hG (dk dd_X8_meet 23 rfl) fl_X8_71 sh_51 rfl ?_
  refine V_iload_n (pc := 44) hG (dk dd_X8_meet 24 rfl) rfl ?_
  refine V_iast (pc := 45) hG (dk dd_X8_meet 25 rfl) sh_55 (by rw [hc] at h6; simp (disch := omega) only [setc_s, setc_n]; rw [hN]; exact vp_in_nI (hl h6) (by decide)) ?_
  refine V_aload_n (pc := 46) hG (dk dd_X8_meet 26 rfl) rfl ?_
  refine V_getR (pc := 47) hG (dk dd_X8_meet 27 rfl) fl_X8_24 sh_51 rfl ?_
  refine V_aload_n (pc := 50) hG (dk dd_X8_meet 28 rfl) rfl ?_
  refine V_getI (pc := 51) hG (dk dd_X8_meet 29 rfl) fl_X8_71 sh_51 rfl ?_
  refine V_iload_n (pc := 54) hG (dk dd_X8_meet 30 rfl) rfl ?_
  refine V_iast (pc := 55) hG (dk dd_X8_meet 31 rfl) sh_56 (by rw [hc] at h6; simp (disch := omega) only [setc_s, setc_n]; rw [hN]; exact vp_in_nI (hl h6) (by decide)) ?_
  refine V_aload_n (pc := 56) hG (dk dd_X8_meet 32 rfl) rfl ?_
  refine V_getR (pc := 57) hG (dk dd_X8_meet 33 rfl) fl_X8_27 sh_51 rfl ?_
  refine V_aload_n (pc := 60) hG (dk dd_X8_meet 34 rfl) rfl ?_
  refine V_getI (pc := 61) hG (dk dd_X8_meet 35 rfl) fl_X8_71 sh_51 rfl ?_
  refine V_iload (pc := 64) hG (dk dd_X8_meet 36 rfl) rfl ?_
  refine V_iast (pc := 66) hG (dk dd_X8_meet 37 rfl) sh_57 (by rw [hc] at h6; simp (disch := omega) only [setc_s, setc_n]; rw [hN]; exact vp_in_nI (hl h6) (by decide)) ?_
  refine V_aload_n (pc := 67) hG (dk dd_X8_meet 38 rfl) rfl ?_
  refine V_dup (pc := 68) hG (dk dd_X8_meet 39 rfl) rfl ?_
  refine V_getI (pc := 69) hG (dk dd_X8_meet 40 rfl) fl_X8_71 sh_51 rfl ?_
  refine V_iconst (pc := 72) hG (dk dd_X8_meet 41 rfl) (v := 1) (by decide) ?_
  refine V_iadd (pc := 73) hG (dk dd_X8_meet 42 rfl) ?_
  refine V_putI (pc := 74) hG (dk dd_X8_meet 43 rfl) fl_X8_71 sh_51 rfl rfl ?_
  refine V_vretP (pc := 77) hG (dk dd_X8_meet 44 rfl) hR (Pv.mk ?_)
  rotate_left
  -- leaves: return@77; return@77; return@77
  · rw [hc] at h6; exact Or.inl ⟨h6, rfl⟩
  · exfalso; rw [hc] at h6; rw [hN] at h16; have := le_i (a := 256) h16 (by omega) (by have := hl h6; omega); have := hl h6; omega
  · rw [hc] at h6; have hl := hl h6; refine Or.inr ⟨h6, ?_⟩; simp (disch := omega) only [setc_s, setc_n, hc, hN, nI_clamp (show N < 2 ^ 31 by omega), nI_1]
theorem BF.le {μ : Mem} {α : Al} {N : Nat} {ρ : Nat → List Nat} {fr : Nat → Nat} (h : BF μ α N ρ fr) : N ≤ 256 := by
  have := cntT_le (Met0 α (α 0 3) N ρ) 256
  have := h.2.2.2.2.2.2.2
  omega
theorem BF.lt {μ : Mem} {α : Al} {N : Nat} {ρ : Nat → List Nat} {fr : Nat → Nat} (h : BF μ α N ρ fr) {E : Nat} (hE : E < 256) (h0 : μ 52 E = 0) : N < 256 := by
  have h1 := cntT_lt ((h.2.2.2.2.2.2.1 E hE).no h0) hE
  have := h.2.2.2.2.2.2.2
  omega
theorem BF.add {μ μ' : Mem} {α : Al} (hv : Val α) {N : Nat} {ρ : Nat → List Nat} {fr : Nat → Nat} (hB : BF μ α N ρ fr) {a h : Nat} (ha : a < N) (hh : h < α 0 6) (hs : ∀ j, j < N → sl (ρ j) (ρ a ++ [h]))
    {E : Nat} (hE : E = endN α (α 0 3) (ρ a ++ [h])) {x y z w : Int32} (hx : x = nI E) (hy : y = nI a) (hz : z = nI h) (hw : w = nI ((ρ a).length + 1)) (hq : MeetQ μ E N x y z w μ') :
    (μ' = μ ∧ ∃ j, j < N ∧ endN α (α 0 3) (ρ j) = E ∧ sl (ρ j) (ρ a ++ [h])) ∨ (BF μ' α (N + 1) (fun i => if i = N then ρ a ++ [h] else ρ i) (fun i => if i = N then a else fr i) ∧ ∀ c, (c < 51 ∨ 57 < c) → μ' c = μ c) := by
  obtain ⟨b1, b2, b3, b4, b5, b6, b7, b8⟩ := id hB
  have hHa : Hs α (ρ a ++ [h]) := (b2 a ha).1.mk hh
  have hE8 : E < 256 := by rw [hE]; exact hv.lt (endN_lt hv hv.D hHa)
  rcases hq with ⟨q1, q2⟩ | ⟨q1, q2⟩
  · obtain ⟨j, hj, hje⟩ := (b7 E hE8).yes q1
    exact Or.inl ⟨q2, j, hj, hje, hs j hj⟩
  · refine Or.inr ⟨?_, fun c hc => by rw [q2]; simp (disch := omega) only [setc_n]⟩
    have hnew : ¬ Met0 α (α 0 3) N ρ E := (b7 E hE8).no q1
    have hmet : ∀ F, (Met0 α (α 0 3) N ρ F ∨ F = E) ↔ Met0 α (α 0 3) (N + 1) (fun i => if i = N then ρ a ++ [h] else ρ i) F := by
      intro F
      constructor
      · rintro (⟨i, h1, h2⟩ | h1)
        · exact ⟨i, by omega, by show endN α (α 0 3) (if i = N then _ else ρ i) = F; rw [if_neg (by omega)]; exact h2⟩
        · exact ⟨N, by omega, by show endN α (α 0 3) (if N = N then _ else ρ N) = F; rw [if_pos rfl, ← hE, h1]⟩
      · rintro ⟨i, h1, h2⟩
        have h2 : endN α (α 0 3) (if i = N then ρ a ++ [h] else ρ i) = F := h2
        by_cases e : i = N
        · rw [if_pos e, ← hE] at h2; exact Or.inr h2.symm
        · rw [if_neg e] at h2; exact Or.inl ⟨i, by omega, h2⟩
    have e52 : μ' 52 = upd (μ 52) E 1 := by rw [q2]; simp (disch := omega) only [setc_s, setc_n]
    have e54 : μ' 54 = upd (μ 54) N x := by rw [q2]; simp (disch := omega) only [setc_s, setc_n]
    have e55 : μ' 55 = upd (μ 55) N y := by rw [q2]; simp (disch := omega) only [setc_s, setc_n]
    have e56 : μ' 56 = upd (μ 56) N z := by rw [q2]; simp (disch := omega) only [setc_s, setc_n]
    have e57 : μ' 57 = upd (μ 57) N w := by rw [q2]; simp (disch := omega) only [setc_s, setc_n]
    refine ⟨by rw [q2, setc_s, pk_us], fun i hi => ?_, fun i h0 hi => ?_, ?_, by omega, fun i j hij hj => ?_, ?_, ?_⟩
    · show Hs α (if i = N then _ else ρ i) ∧ μ' 54 i = nI (endN α (α 0 3) (if i = N then _ else ρ i)) ∧ μ' 57 i = nI (if i = N then ρ a ++ [h] else ρ i).length
      rw [e54, e57]
      by_cases e : i = N
      · subst e; rw [if_pos rfl, pk_us, pk_us]; exact ⟨hHa, by rw [hx, hE], by rw [hw, List.length_append]; rfl⟩
      · rw [if_neg e, pk_un e, pk_un e]; exact b2 i (by omega)
    · show (if i = N then a else fr i) < i ∧ μ' 55 i = nI (if i = N then a else fr i) ∧ ∃ h', h' < α 0 6 ∧ μ' 56 i = nI h' ∧ (if i = N then ρ a ++ [h] else ρ i) = (if (if i = N then a else fr i) = N then ρ a ++ [h] else ρ (if i = N then a else fr i)) ++ [h']
      rw [e55, e56]
      by_cases e : i = N
      · subst e; rw [if_pos rfl, if_pos rfl, if_neg (by omega), pk_us, pk_us]; exact ⟨ha, hy, h, hh, hz, rfl⟩
      · rw [if_neg e, if_neg e, pk_un e, pk_un e]
        obtain ⟨c1, c2, h', c3, c4, c5⟩ := b3 i h0 (by omega)
        rw [if_neg (by omega)]
        exact ⟨c1, c2, h', c3, c4, c5⟩
    · show (if 0 = N then _ else ρ 0) = []
      rw [if_neg (by omega)]; exact b4
    · show sl (if i = N then _ else ρ i) (if j = N then _ else ρ j)
      rw [if_neg (show i ≠ N by omega)]
      by_cases e : j = N
      · rw [if_pos e]; exact hs i (by omega)
      · rw [if_neg e]; exact b6 i j hij (by omega)
    · rw [e52]; exact (b7.upd E).cg (fun _ _ => rfl) (fun F _ => hmet F)
    · rw [← cntT_cg (P := fun F => Met0 α (α 0 3) N ρ F ∨ F = E) (fun F _ => hmet F), cntT_add hnew, b8, if_pos hE8]
