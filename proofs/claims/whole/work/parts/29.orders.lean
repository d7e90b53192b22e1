/-! ===== Orders ===== -/
def frN (α : Al) (D : Nat) : List Nat → Nat
  | [] => 0
  | c :: p => (if verN α c D = 1 then 1 else 0) + frN α (heaN α c D) p
def guN (α : Al) (D : Nat) : List Nat → Nat
  | [] => 0
  | c :: p => (if verN α c D = 2 then 1 else 0) + guN α (heaN α c D) p
def dhN (α : Al) (D : Nat) (p : List Nat) : Nat := p.foldl (fun d c => heaN α c d) D
theorem frN_sn (α : Al) : ∀ (p : List Nat) (D c : Nat), frN α D (p ++ [c]) = frN α D p + (if verN α c (dhN α D p) = 1 then 1 else 0)
  | [], D, c => by show _ + 0 = 0 + _; rw [Nat.add_zero, Nat.zero_add]; rfl
  | b :: p, D, c => by show _ + frN α (heaN α b D) (p ++ [c]) = _; rw [frN_sn α p]; show _ = (_ + frN α (heaN α b D) p) + _; rw [Nat.add_assoc]; rfl
theorem guN_sn (α : Al) : ∀ (p : List Nat) (D c : Nat), guN α D (p ++ [c]) = guN α D p + (if verN α c (dhN α D p) = 2 then 1 else 0)
  | [], D, c => by show _ + 0 = 0 + _; rw [Nat.add_zero, Nat.zero_add]; rfl
  | b :: p, D, c => by show _ + guN α (heaN α b D) (p ++ [c]) = _; rw [guN_sn α p]; show _ = (_ + guN α (heaN α b D) p) + _; rw [Nat.add_assoc]; rfl
theorem dhN_sn (α : Al) (p : List Nat) (D c : Nat) : dhN α D (p ++ [c]) = heaN α c (dhN α D p) := by unfold dhN; rw [List.foldl_append]; rfl
theorem frN_le (α : Al) : ∀ (p : List Nat) (D : Nat), frN α D p ≤ p.length
  | [], _ => Nat.le_refl _
  | c :: p, D => by have := frN_le α p (heaN α c D); show _ + frN α (heaN α c D) p ≤ p.length + 1; split <;> omega
theorem guN_le (α : Al) : ∀ (p : List Nat) (D : Nat), guN α D p ≤ p.length
  | [], _ => Nat.le_refl _
  | c :: p, D => by have := guN_le α p (heaN α c D); show _ + guN α (heaN α c D) p ≤ p.length + 1; split <;> omega
/-- the better one, of two the earlier -/
def betO (α : Al) (D : Nat) (s : Option (List Nat)) (p : List Nat) : Option (List Nat) := match s with
  | none => some p
  | some q => if frN α D q < frN α D p ∨ (frN α D p = frN α D q ∧ guN α D p < guN α D q) then some p else some q
def bestL (α : Al) (D : Nat) (L : List (List Nat)) : Option (List Nat) := L.foldl (betO α D) none
theorem bestL_sn (α : Al) (D : Nat) (L : List (List Nat)) (p : List Nat) : bestL α D (L ++ [p]) = betO α D (bestL α D L) p := by unfold bestL; rw [List.foldl_append]; rfl
def MxQ (S : Nat → Prop) (bot v : Int32) : Prop := (v = bot ∧ ∀ x, ¬ S x) ∨ (∃ x, S x ∧ v = nI x ∧ ∀ y, S y → y ≤ x)
/-- how many are free by the orders of L that begin with c -/
def ByF (α : Al) (D : Nat) (L : List (List Nat)) (c x : Nat) : Prop := ∃ p, p ∈ L ∧ p.head? = some c ∧ x = frN α D p
def BstQ (α : Al) (n : Nat) (q : Option (List Nat)) (f g bot : Int32) (b : Nat → Int32) : Prop := match q with
  | none => f = bot
  | some q => q.length = n ∧ f = nI (frN α (α 0 3) q) ∧ g = nI (guN α (α 0 3) q) ∧ ∀ k, k < n → b k = nI (q.getD k 0)
def OrdS (μ : Mem) (α : Al) (n : Nat) (L : List (List Nat)) : Prop := μ 58 4 = nI n ∧ BstQ α n (bestL α (α 0 3) L) (μ 58 5) (μ 58 6) (-1) (μ 60) ∧ (∀ c, c < 5 → MxQ (ByF α (α 0 3) L c) (-1) (μ 61 c))
theorem MxQ.add {S S' : Nat → Prop} {v v' : Int32} {y : Nat} (h : MxQ S (-1) v) (hy : y ≤ 5) (hS : ∀ x, S' x ↔ (S x ∨ x = y)) (hv : v' = if v < nI y then nI y else v) (hb : ∀ x, S x → x ≤ 5) : MxQ S' (-1) v' := by
  rcases h with ⟨h1, h2⟩ | ⟨x, h1, h2, h3⟩
  · rw [h1, if_pos (by have : (0 : Int32) ≤ nI y := nI_pos' (by omega); clear hv h1; grind)] at hv
    exact Or.inr ⟨y, (hS y).mpr (Or.inr rfl), hv, fun z hz => ((hS z).mp hz).elim (fun q => absurd q (h2 z)) (fun q => by omega)⟩
  · have hx := hb x h1
    rw [h2] at hv
    by_cases q : x < y
    · rw [if_pos ((nI_ltI (by omega) (by omega)).mpr q)] at hv
      exact Or.inr ⟨y, (hS y).mpr (Or.inr rfl), hv, fun z hz => ((hS z).mp hz).elim (fun w => by have := h3 z w; omega) (fun w => by omega)⟩
    · rw [if_neg (fun z => q ((nI_ltI (by omega) (by omega)).mp z))] at hv
      exact Or.inr ⟨x, (hS x).mpr (Or.inl h1), hv, fun z hz => ((hS z).mp hz).elim (h3 z) (fun w => by omega)⟩
theorem c_compare {μ : Mem} {α : Al} {n : Nat} {L : List (List Nat)} {p : List Nat} (hO : OrdS μ α n L) (hn : n ≤ 5) (hp : p.length = n) (hL : ∀ q, q ∈ L → q.length = n) (hc : ∀ c, c ∈ p → c < 5) (ht : ∀ k, k < n → μ 59 k = nI (p.getD k 0)) {x y : Int32} (hx : x = nI (frN α (α 0 3) p)) (hy : y = nI (guN α (α 0 3) p)) :
    CtP yX3_compare cX3_compare 3 none 1 [vR 58, vI x, vI y] μ (Pv (fun μ' => OrdS μ' α n (L ++ [p]) ∧ ∀ a, a ≠ 58 → a ≠ 60 → a ≠ 61 → μ' a = μ a)) := by
  refine CtP.go RX3 rfl pn_X3 (Nat.le_of_ble_eq_true rfl) (fun C hG hR => ?_)
  obtain ⟨o1, o2, o3⟩ := hO
  have hf5 := frN_le α p (α 0 3)
  have hg5 := guN_le α p (α 0 3)
  subst hx; subst hy
  have fin : ∀ μ1 : Mem, (∀ a, a ≠ 61 → μ1 a = μ a) → (∀ c, c < 5 → MxQ (ByF α (α 0 3) (L ++ [p]) c) (-1) (μ1 61 c)) → V C 33 [(0, vR 58), (1, vI (nI (frN α (α 0 3) p))), (2, vI (nI (guN α (α 0 3) p)))] [] μ1 := by
    intro μ1 f1 f2
    have e58 : μ1 58 = μ 58 := f1 58 (by decide)
    have e59 : μ1 59 = μ 59 := f1 59 (by decide)
    have e60 : μ1 60 = μ 60 := f1 60 (by decide)
    have take : (bestL α (α 0 3) (L ++ [p]) = some p) → V C 57 [(0, vR 58), (1, vI (nI (frN α (α 0 3) p))), (2, vI (nI (guN α (α 0 3) p)))] [] μ1 := by
      intro hb
      have cn : ((nI n).toNatClampNeg) = n := nI_clamp (by omega)
      refine V_aload_n (pc := 57) hG (dk dd_X3_compare 31 rfl) rfl ?_
      refine V_iload_n (pc := 58) hG (dk dd_X3_compare 32 rfl) rfl ?_
      refine V_putI (pc := 59) hG (dk dd_X3_compare 33 rfl) fl_X3_40 sh_58 rfl rfl ?_
      refine V_aload_n (pc := 62) hG (dk dd_X3_compare 34 rfl) rfl ?_
      refine V_iload_n (pc := 63) hG (dk dd_X3_compare 35 rfl) rfl ?_
      refine V_putI (pc := 64) hG (dk dd_X3_compare 36 rfl) fl_X3_43 sh_58 rfl rfl ?_
      refine V_aload_n (pc := 67) hG (dk dd_X3_compare 37 rfl) rfl ?_
      refine V_getR (pc := 68) hG (dk dd_X3_compare 38 rfl) fl_X3_9 sh_58 rfl ?_
      refine V_iconst (pc := 71) hG (dk dd_X3_compare 39 rfl) (v := 0) (by decide) ?_
      refine V_aload_n (pc := 72) hG (dk dd_X3_compare 40 rfl) rfl ?_
      refine V_getR (pc := 73) hG (dk dd_X3_compare 41 rfl) fl_X3_15 sh_58 rfl ?_
      refine V_iconst (pc := 76) hG (dk dd_X3_compare 42 rfl) (v := 0) (by decide) ?_
      refine V_aload_n (pc := 77) hG (dk dd_X3_compare 43 rfl) rfl ?_
      refine V_getI (pc := 78) hG (dk dd_X3_compare 44 rfl) fl_X3_36 sh_58 rfl ?_
      -- arraycopy
      refine V_acopy (pc := 81) hG (dk dd_X3_compare 45 rfl) ml_X3_78 sh_59 sh_60 (by decide) (by decide) ?_ ?_ ?_ rfl ?_
      rotate_left
      rotate_left
      rotate_left
      refine V_vretP (pc := 84) hG (dk dd_X3_compare 46 rfl) hR (Pv.mk ?_)
      rotate_left
      -- leaves: arraycopy@81 side 0; arraycopy@81 side 1; arraycopy@81 side 2; return@84
      · rw [setc_s, setc_s, pk_un (by decide), pk_un (by decide), e58, o1]; exact nI_pos (by omega)
      · rw [setc_s, setc_s, pk_un (by decide), pk_un (by decide), e58, o1, cn]; show 0 + n ≤ 5; omega
      · rw [setc_s, setc_s, pk_un (by decide), pk_un (by decide), e58, o1, cn]; show 0 + n ≤ 5; omega
      · have e58' : ∀ g : Nat → Int32, setc (setc (setc μ1 58 (upd (μ1 58) 5 (nI (frN α (α 0 3) p)))) 58 (upd (setc μ1 58 (upd (μ1 58) 5 (nI (frN α (α 0 3) p))) 58) 6 (nI (guN α (α 0 3) p)))) 60 g 58 = upd (upd (μ 58) 5 (nI (frN α (α 0 3) p))) 6 (nI (guN α (α 0 3) p)) := fun g => by rw [setc_n (by decide), setc_s, setc_s, e58]
        refine ⟨⟨?_, ?_, fun c hc5 => ?_⟩, fun a h1 h2 h3 => by rw [setc_n h2, setc_n h1, setc_n h1, f1 a h3]⟩
        · rw [e58', pk_un (by decide), pk_un (by decide)]; exact o1
        · rw [hb]
          refine ⟨hp, ?_, ?_, fun k hk => ?_⟩
          · rw [e58', pk_un (by decide), pk_us]
          · rw [e58', pk_us]
          · rw [setc_s]
            simp only [setc_s, setc_n (show (58 : Nat) ≠ 60 by decide), setc_n (show (59 : Nat) ≠ 58 by decide), setc_n (show (60 : Nat) ≠ 58 by decide)]
            rw [pk_un (by decide), pk_un (by decide), e58, o1, cn, pk_cpy_in (by show 0 ≤ k; omega) (by show k < 0 + n; omega), e59]
            show μ 59 (0 + (k - 0)) = _
            rw [Nat.zero_add, Nat.sub_zero]
            exact ht k hk
        · rw [setc_n (by decide), setc_n (by decide), setc_n (by decide)]; exact f2 c hc5
    have stay : (bestL α (α 0 3) (L ++ [p]) = bestL α (α 0 3) L) → V C 84 [(0, vR 58), (1, vI (nI (frN α (α 0 3) p))), (2, vI (nI (guN α (α 0 3) p)))] [] μ1 := by
      intro hb
      refine V_vretP (pc := 84) hG (dk dd_X3_compare 46 rfl) hR (Pv.mk ?_)
      rotate_left
      -- leaves: return@84
      · exact ⟨⟨by rw [e58]; exact o1, by rw [hb, e58, e60]; exact o2, f2⟩, fun a h1 h2 h3 => f1 a h3⟩
    have hbs := bestL_sn α (α 0 3) L p
    refine V_iload_n (pc := 33) hG (dk dd_X3_compare 19 rfl) rfl ?_
    refine V_aload_n (pc := 34) hG (dk dd_X3_compare 20 rfl) rfl ?_
    refine V_getI (pc := 35) hG (dk dd_X3_compare 21 rfl) fl_X3_40 sh_58 rfl ?_
    refine V_icmp_gt (pc := 38) hG (dk dd_X3_compare 22 rfl) (tgt := 57) (by decide) (fun h38 => ?_) (fun h38 => ?_)
    rotate_left
    refine V_iload_n (pc := 41) hG (dk dd_X3_compare 23 rfl) rfl ?_
    refine V_aload_n (pc := 42) hG (dk dd_X3_compare 24 rfl) rfl ?_
    refine V_getI (pc := 43) hG (dk dd_X3_compare 25 rfl) fl_X3_40 sh_58 rfl ?_
    refine V_icmp_ne (pc := 46) hG (dk dd_X3_compare 26 rfl) (tgt := 84) (by decide) (fun h46 => ?_) (fun h46 => ?_)
    rotate_left
    refine V_iload_n (pc := 49) hG (dk dd_X3_compare 27 rfl) rfl ?_
    refine V_aload_n (pc := 50) hG (dk dd_X3_compare 28 rfl) rfl ?_
    refine V_getI (pc := 51) hG (dk dd_X3_compare 29 rfl) fl_X3_43 sh_58 rfl ?_
    refine V_icmp_ge (pc := 54) hG (dk dd_X3_compare 30 rfl) (tgt := 84) (by decide) (fun h54 => ?_) (fun h54 => ?_)
    rotate_left
    rotate_left
    -- leaves: stop 57; stop 84; stop 84; stop 57
    all_goals (rw [e58] at *; cases hq : bestL α (α 0 3) L with | none => ?_ | some q => ?_) <;> rw [hq] at o2 hbs
    · exact take (by rw [hbs]; rfl)
    · obtain ⟨q0, q1, q2, _⟩ := o2
      rw [q1] at h38
      exact take (by rw [hbs]; exact if_pos (Or.inl ((nI_ltI (by have := frN_le α q (α 0 3); omega) (by omega)).mp h38)))
    · have o2 : μ 58 5 = -1 := o2
      rw [o2] at h38; exact absurd (by have : (0 : Int32) ≤ nI (frN α (α 0 3) p) := nI_pos' (by omega); clear hG hR; grind) h38
    · obtain ⟨q0, q1, q2, _⟩ := o2
      have hq5 := frN_le α q (α 0 3)
      rw [q1] at h38 h46
      exact stay (by rw [hbs, hq]; exact if_neg (fun z => z.elim (fun w => h38 ((nI_ltI (by omega) (by omega)).mpr w)) (fun w => h46 (by rw [w.1]))))
    · have o2 : μ 58 5 = -1 := o2
      rw [o2] at h38; exact absurd (by have : (0 : Int32) ≤ nI (frN α (α 0 3) p) := nI_pos' (by omega); clear hG hR; grind) h38
    · obtain ⟨q0, q1, q2, _⟩ := o2
      have hq5 := frN_le α q (α 0 3)
      have hqg := guN_le α q (α 0 3)
      rw [q1] at h38; rw [q2] at h54
      exact stay (by rw [hbs, hq]; exact if_neg (fun z => z.elim (fun w => h38 ((nI_ltI (by omega) (by omega)).mpr w)) (fun w => by have := le_i h54 (by omega) (by omega); omega)))
    · have o2 : μ 58 5 = -1 := o2
      rw [o2] at h38; exact absurd (by have : (0 : Int32) ≤ nI (frN α (α 0 3) p) := nI_pos' (by omega); clear hG hR; grind) h38
    · obtain ⟨q0, q1, q2, _⟩ := o2
      have hq5 := frN_le α q (α 0 3)
      have hqg := guN_le α q (α 0 3)
      rw [q1] at h46; rw [q2] at h54
      exact take (by rw [hbs]; exact if_pos (Or.inr ⟨(nI_eq (by omega) (by omega)).mp h46, nle_i h54 (by omega) (by omega)⟩))
  by_cases h0 : n = 0
  · have hI := fin μ (fun _ _ => rfl) (fun c hc5 => by
      have hp0 : p = [] := List.length_eq_zero_iff.mp (hp.trans h0)
      have hall : ∀ x, ByF α (α 0 3) (L ++ [p]) c x ↔ ByF α (α 0 3) L c x := fun x => ⟨fun ⟨q, q1, q2, q3⟩ => (List.mem_append.mp q1).elim (fun z => ⟨q, z, q2, q3⟩) (fun z => by rw [List.mem_singleton.mp z, hp0] at q2; cases q2), fun ⟨q, q1, q2⟩ => ⟨q, List.mem_append_left _ q1, q2⟩⟩
      rcases o3 c hc5 with ⟨z1, z2⟩ | ⟨x, z1, z2, z3⟩
      · exact Or.inl ⟨z1, fun x hx => z2 x ((hall x).mp hx)⟩
      · exact Or.inr ⟨x, (hall x).mpr z1, z2, fun y hy => z3 y ((hall y).mp hy)⟩)
    refine V_aload_n (pc := 0) hG (dk dd_X3_compare 0 rfl) rfl ?_
    refine V_getI (pc := 1) hG (dk dd_X3_compare 1 rfl) fl_X3_36 sh_58 rfl ?_
    refine V_if_le (pc := 4) hG (dk dd_X3_compare 2 rfl) (tgt := 33) (by decide) (fun h4 => ?_) (fun h4 => ?_)
    rotate_left
    rotate_left
    -- leaves: stop 33; stop 7
    · exact hI
    · exfalso; rw [o1, h0] at h4; exact h4 (by decide)
  · obtain ⟨c, s, rfl⟩ : ∃ c s, p = c :: s := by
      cases p with
      | nil => exact absurd hp.symm h0
      | cons c s => exact ⟨c, s, rfl⟩
    have hc5 := hc c List.mem_cons_self
    have e0 : μ 59 (0 : Int32).toNatClampNeg = nI c := ht 0 (by omega)
    have hr0 : vp_in (0 : Int32) 5 := vp_in_nI (n := 0) (by decide) (by decide)
    have hr1 : vp_in (μ 59 (0 : Int32).toNatClampNeg) 5 := in_nI e0 hc5 (by decide)
    have cc : (μ 59 (0 : Int32).toNatClampNeg).toNatClampNeg = c := nI_cl e0 (by omega)
    refine V_aload_n (pc := 0) hG (dk dd_X3_compare 0 rfl) rfl ?_
    refine V_getI (pc := 1) hG (dk dd_X3_compare 1 rfl) fl_X3_36 sh_58 rfl ?_
    refine V_if_le (pc := 4) hG (dk dd_X3_compare 2 rfl) (tgt := 33) (by decide) (fun h4 => ?_) (fun h4 => ?_)
    rotate_left
    refine V_aload_n (pc := 7) hG (dk dd_X3_compare 3 rfl) rfl ?_
    refine V_getR (pc := 8) hG (dk dd_X3_compare 4 rfl) fl_X3_18 sh_58 rfl ?_
    refine V_aload_n (pc := 11) hG (dk dd_X3_compare 5 rfl) rfl ?_
    refine V_getR (pc := 12) hG (dk dd_X3_compare 6 rfl) fl_X3_9 sh_58 rfl ?_
    refine V_iconst (pc := 15) hG (dk dd_X3_compare 7 rfl) (v := 0) (by decide) ?_
    refine V_iald (pc := 16) hG (dk dd_X3_compare 8 rfl) sh_59 hr0 ?_
    refine V_aload_n (pc := 17) hG (dk dd_X3_compare 9 rfl) rfl ?_
    refine V_getR (pc := 18) hG (dk dd_X3_compare 10 rfl) fl_X3_18 sh_58 rfl ?_
    refine V_aload_n (pc := 21) hG (dk dd_X3_compare 11 rfl) rfl ?_
    refine V_getR (pc := 22) hG (dk dd_X3_compare 12 rfl) fl_X3_9 sh_58 rfl ?_
    refine V_iconst (pc := 25) hG (dk dd_X3_compare 13 rfl) (v := 0) (by decide) ?_
    refine V_iald (pc := 26) hG (dk dd_X3_compare 14 rfl) sh_59 hr0 ?_
    refine V_iald (pc := 27) hG (dk dd_X3_compare 15 rfl) sh_61 hr1 ?_
    refine V_iload_n (pc := 28) hG (dk dd_X3_compare 16 rfl) rfl ?_
    refine V_mmax (pc := 29) hG (dk dd_X3_compare 17 rfl) ml_X3_73 rfl ?_
    refine V_iast (pc := 32) hG (dk dd_X3_compare 18 rfl) sh_61 hr1 ?_
    rotate_left
    -- leaves: stop 33; stop 33
    · exfalso; rw [o1] at h4; exact nI_nle (by omega) (by omega) h4
    · refine fin _ (fun a ha => setc_n ha) (fun c' hc' => ?_)
      rw [setc_s, cc]
      have hall : ∀ x, ByF α (α 0 3) (L ++ [c :: s]) c' x ↔ (ByF α (α 0 3) L c' x ∨ (c' = c ∧ x = frN α (α 0 3) (c :: s))) := by
        intro x
        constructor
        · rintro ⟨q, q1, q2, q3⟩
          rcases List.mem_append.mp q1 with z | z
          · exact Or.inl ⟨q, z, q2, q3⟩
          · rw [List.mem_singleton] at z; subst z
            have q2 : some c = some c' := q2
            exact Or.inr ⟨(Option.some.inj q2).symm, q3⟩
        · rintro (⟨q, q1, q2⟩ | ⟨q1, q2⟩)
          · exact ⟨q, List.mem_append_left _ q1, q2⟩
          · exact ⟨c :: s, List.mem_append_right _ (List.mem_singleton.mpr rfl), by rw [q1]; rfl, q2⟩
      have hb5 : ∀ x, ByF α (α 0 3) L c' x → x ≤ 5 := fun x ⟨q, q1, _, q3⟩ => by have := frN_le α q (α 0 3); have := hL q q1; omega
      by_cases e : c' = c
      · subst e
        rw [pk_us]
        exact (o3 c' hc').add (by omega) (fun x => (hall x).trans ⟨fun z => z.imp id (·.2), fun z => z.imp id (fun w => ⟨rfl, w⟩)⟩) rfl hb5
      · rw [pk_un e]
        rcases o3 c' hc' with ⟨z1, z2⟩ | ⟨x, z1, z2, z3⟩
        · exact Or.inl ⟨z1, fun x hx => ((hall x).mp hx).elim (z2 x) (fun w => e w.1)⟩
        · exact Or.inr ⟨x, (hall x).mpr (Or.inl z1), z2, fun y hy => ((hall y).mp hy).elim (z3 y) (fun w => absurd w.1 e)⟩
