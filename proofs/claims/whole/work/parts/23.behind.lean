/-! ===== Walks: dreams behind exactly n hums ===== -/
def Rch (α : Al) (D : Nat) : Nat → Nat → Prop
  | 0, E => E = D
  | n + 1, E => ∃ F h, Rch α D n F ∧ h < α 0 6 ∧ humN α h F = E
theorem Rch_lt {α : Al} (hv : Val α) {D : Nat} (hD : D < 2 ^ α 0 0) : ∀ {n E : Nat}, Rch α D n E → E < 2 ^ α 0 0
  | 0, E, h => by have h : E = D := h; omega
  | n + 1, E, h => by
    obtain ⟨F, k, h1, h2, h3⟩ := h
    rw [← h3]; exact humN_lt hv h2 (Rch_lt hv hD h1)
/-- a row of 256 marks -/
def Mk (f : Nat → Int32) (P : Nat → Prop) : Prop := ∀ E, E < 256 → is1 (f E) (P E)
theorem Mk.upd {f : Nat → Int32} {P : Nat → Prop} (h : Mk f P) (k : Nat) : Mk (upd f k 1) (fun E => P E ∨ E = k) := by
  intro E hE
  by_cases e : E = k
  · subst e; rw [pk_us]; exact is1.t (Or.inr rfl)
  · rw [pk_un e]
    rcases h E hE with ⟨q, z⟩ | ⟨q, z⟩
    · exact Or.inl ⟨q, Or.inl z⟩
    · exact Or.inr ⟨q, fun w => w.elim z e⟩
theorem Mk.cg {f g : Nat → Int32} {P Q : Nat → Prop} (h : Mk f P) (hf : ∀ E, E < 256 → g E = f E) (hP : ∀ E, E < 256 → (P E ↔ Q E)) : Mk g Q := by
  intro E hE
  rw [hf E hE]
  rcases h E hE with ⟨q, z⟩ | ⟨q, z⟩
  · exact Or.inl ⟨q, (hP E hE).mp z⟩
  · exact Or.inr ⟨q, fun w => z ((hP E hE).mpr w)⟩
theorem c_markBehind {μ : Mem} {α : Al} (hA : Abs (kac μ 15) α) (hv : Val α) {x : Int32} {F : Nat} (hx : x = nI F) (hF : F < 2 ^ α 0 0) {P : Nat → Prop} (hP : Mk (μ 53) P) :
    CtP yX8_markBehind cX8_markBehind 3 none 3 [vR 51, vI x] μ (Pv (fun μ' => ∃ f, μ' = setc μ 53 f ∧ Mk f (fun E => P E ∨ ∃ h, h < α 0 6 ∧ humN α h F = E))) := by
  refine CtP.go RX8 rfl pn_X8 (Nat.le_of_ble_eq_true rfl) (fun C hG hR => ?_)
  have e6 : μ 15 6 = nI (α 0 6) := hA.1 6 (by decide)
  have hH := hv.H
  have loop : ∀ k i f, i + k = α 0 6 → Mk f (fun E => P E ∨ ∃ h, h < i ∧ humN α h F = E) → V C 2 [(0, vR 51), (1, vI x), (2, vI (nI i))] [] (setc μ 53 f) := by
    intro k
    induction k with
    | zero =>
      intro i f hi hf
      refine V_iload_n (pc := 2) hG (dk dd_X8_markBehind 2 rfl) rfl ?_
      refine V_aload_n (pc := 3) hG (dk dd_X8_markBehind 3 rfl) rfl ?_
      refine V_getR (pc := 4) hG (dk dd_X8_markBehind 4 rfl) fl_X8_30 sh_51 rfl ?_
      refine V_getI (pc := 7) hG (dk dd_X8_markBehind 5 rfl) fl_X8_64 sh_15 rfl ?_
      refine V_icmp_ge (pc := 10) hG (dk dd_X8_markBehind 6 rfl) (tgt := 34) (by decide) (fun h10 => ?_) (fun h10 => ?_)
      refine V_vretP (pc := 34) hG (dk dd_X8_markBehind 18 rfl) hR (Pv.mk ?_)
      rotate_left
      rotate_left
      -- leaves: return@34; stop 13
      · exact ⟨f, rfl, hf.cg (fun _ _ => rfl) (fun E _ => by rw [show i = α 0 6 by omega])⟩
      · exfalso; rw [setc_n (by decide), e6] at h10; have := nle_i h10 (by omega) (by omega); omega
    | succ k ih =>
      intro i f hi hf
      have hA' : Abs (kac (setc μ 53 f) 15) α := hA.off (fun x hx => setc_n (by omega))
      have hb := hv.lt (humN_lt hv (show i < α 0 6 by omega) hF)
      have hI := ih (i + 1) (upd f (humN α i F) 1) (by omega) ((hf.upd (humN α i F)).cg (fun _ _ => rfl) (fun E _ => by
        constructor
        · rintro ((q | ⟨h, h1, h2⟩) | q)
          · exact Or.inl q
          · exact Or.inr ⟨h, by omega, h2⟩
          · exact Or.inr ⟨i, by omega, q.symm⟩
        · rintro (q | ⟨h, h1, h2⟩)
          · exact Or.inl (Or.inl q)
          · by_cases e : h = i
            · subst e; exact Or.inr h2.symm
            · exact Or.inl (Or.inr ⟨h, by omega, h2⟩)))
      rw [nI_succ] at hI
      refine V_iload_n (pc := 2) hG (dk dd_X8_markBehind 2 rfl) rfl ?_
      refine V_aload_n (pc := 3) hG (dk dd_X8_markBehind 3 rfl) rfl ?_
      refine V_getR (pc := 4) hG (dk dd_X8_markBehind 4 rfl) fl_X8_30 sh_51 rfl ?_
      refine V_getI (pc := 7) hG (dk dd_X8_markBehind 5 rfl) fl_X8_64 sh_15 rfl ?_
      refine V_icmp_ge (pc := 10) hG (dk dd_X8_markBehind 6 rfl) (tgt := 34) (by decide) (fun h10 => ?_) (fun h10 => ?_)
      rotate_left
      refine V_aload_n (pc := 13) hG (dk dd_X8_markBehind 7 rfl) rfl ?_
      refine V_getR (pc := 14) hG (dk dd_X8_markBehind 8 rfl) fl_X8_15 sh_51 rfl ?_
      refine V_aload_n (pc := 17) hG (dk dd_X8_markBehind 9 rfl) rfl ?_
      refine V_getR (pc := 18) hG (dk dd_X8_markBehind 10 rfl) fl_X8_30 sh_51 rfl ?_
      refine V_iload_n (pc := 21) hG (dk dd_X8_markBehind 11 rfl) rfl ?_
      refine V_iload_n (pc := 22) hG (dk dd_X8_markBehind 12 rfl) rfl ?_
      refine V_callVi (pc := 23) hG (dk dd_X8_markBehind 13 rfl) ml_X8_67 mo_X2_by sh_15 rfl (c_by co_now hA' hv rfl (by omega) hx hF) (by decide) (by decide) rfl rfl rfl ?_
      refine V_iconst (pc := 26) hG (dk dd_X8_markBehind 14 rfl) (v := 1) (by decide) ?_
      refine V_iast (pc := 27) hG (dk dd_X8_markBehind 15 rfl) sh_53 (vp_in_nI hb (by decide)) ?_
      refine V_iinc (pc := 28) hG (dk dd_X8_markBehind 16 rfl) rfl (v := _ + 1) rfl (by decide) (lv' := [(0, _), (1, _), (2, _)]) rfl ?_
      refine V_goto (pc := 31) hG (dk dd_X8_markBehind 17 rfl) (tgt := 2) (by decide) ?_
      rotate_left
      -- leaves: stop 34; stop 2
      · exfalso; rw [setc_n (by decide), e6] at h10; have := le_i h10 (by omega) (by omega); omega
      · rw [setc_s, setc_c, nI_clamp (show humN α i F < 2 ^ 31 by omega)]; exact hI
  refine V_iconst (pc := 0) hG (dk dd_X8_markBehind 0 rfl) (v := 0) (by decide) ?_
  refine V_istore_n (pc := 1) hG (dk dd_X8_markBehind 1 rfl) (by decide) (lv' := [(0, _), (1, _), (2, _)]) rfl ?_
  rotate_left
  -- leaves: stop 2
  · have := loop (α 0 6) 0 (μ 53) (by omega) (hP.cg (fun _ _ => rfl) (fun E _ => ⟨Or.inl, fun q => q.elim id (fun ⟨h, h1, _⟩ => absurd h1 (Nat.not_lt_zero h))⟩))
    rw [setc_id] at this
    exact this
theorem c_goBehind {μ : Mem} {α : Al} (hA : Abs (kac μ 15) α) (hv : Val α) {x : Int32} {n : Nat} (hx : x = nI n) (hn : n < 100) :
    CtP yX8_goBehind cX8_goBehind 4 none 4 [vR 51, vI x] μ (Pv (fun μ' => (∀ a, a ≠ 52 → a ≠ 53 → μ' a = μ a) ∧ Mk (μ' 52) (Rch α (α 0 3) n))) := by
  refine CtP.go RX8 rfl pn_X8 (Nat.le_of_ble_eq_true rfl) (fun C hG hR => ?_)
  have e3 : μ 15 3 = nI (α 0 3) := hA.1 3 (by decide)
  have e0 : bI (μ 15 0) = nI (2 ^ α 0 0) := by rw [show μ 15 0 = nI (α 0 0) from hA.1 0 (by decide)]; exact q_pow _ (by have := hv.t; omega)
  have hp := pow8 hv.t
  have hD8 := hv.lt hv.D
  have loop : ∀ ko j μ1, j + ko = n → (∀ a, a ≠ 52 → a ≠ 53 → μ1 a = μ a) → Mk (μ1 52) (Rch α (α 0 3) j) → V C 23 [(0, vR 51), (1, vI x), (2, vI (nI j))] [] μ1 := by
    intro ko
    induction ko with
    | zero =>
      intro j μ1 hj f1 f2
      refine V_iload_n (pc := 23) hG (dk dd_X8_goBehind 13 rfl) rfl ?_
      refine V_iload_n (pc := 24) hG (dk dd_X8_goBehind 14 rfl) rfl ?_
      refine V_icmp_ge (pc := 25) hG (dk dd_X8_goBehind 15 rfl) (tgt := 91) (by decide) (fun h25 => ?_) (fun h25 => ?_)
      refine V_vretP (pc := 91) hG (dk dd_X8_goBehind 47 rfl) hR (Pv.mk ?_)
      rotate_left
      rotate_left
      -- leaves: return@91; stop 28
      · exact ⟨f1, by rw [show n = j by omega]; exact f2⟩
      · exfalso; rw [hx] at h25; have := nle_i h25 (by omega) (by omega); omega
    | succ ko ih =>
      intro j μ1 hj f1 f2
      have inner : ∀ k i μ2, i + k = 2 ^ α 0 0 → (∀ a, a ≠ 53 → μ2 a = μ1 a) → Mk (μ2 53) (fun E => ∃ F, F < i ∧ Rch α (α 0 3) j F ∧ ∃ h, h < α 0 6 ∧ humN α h F = E) → V C 38 [(0, vR 51), (1, vI x), (2, vI (nI j)), (3, vI (nI i))] [] μ2 := by
        intro k
        induction k with
        | zero =>
          intro i μ2 hi g1 g2
          have e00 : bI (μ2 15 0) = nI (2 ^ α 0 0) := by rw [g1 15 (by decide), f1 15 (by decide) (by decide)]; exact e0
          refine V_iload_n (pc := 38) hG (dk dd_X8_goBehind 22 rfl) rfl ?_
          refine V_aload_n (pc := 39) hG (dk dd_X8_goBehind 23 rfl) rfl ?_
          refine V_getR (pc := 40) hG (dk dd_X8_goBehind 24 rfl) fl_X8_30 sh_51 rfl ?_
          refine V_callVi (pc := 43) hG (dk dd_X8_goBehind 25 rfl) ml_X8_38 mo_X2_dreamCount sh_15 rfl (c_dreamCount co_now) (by decide) (by decide) rfl rfl rfl ?_
          refine V_icmp_ge (pc := 46) hG (dk dd_X8_goBehind 26 rfl) (tgt := 69) (by decide) (fun h46 => ?_) (fun h46 => ?_)
          refine V_aload_n (pc := 69) hG (dk dd_X8_goBehind 37 rfl) rfl ?_
          refine V_getR (pc := 70) hG (dk dd_X8_goBehind 38 rfl) fl_X8_15 sh_51 rfl ?_
          refine V_iconst (pc := 73) hG (dk dd_X8_goBehind 39 rfl) (v := 0) (by decide) ?_
          refine V_aload_n (pc := 74) hG (dk dd_X8_goBehind 40 rfl) rfl ?_
          refine V_getR (pc := 75) hG (dk dd_X8_goBehind 41 rfl) fl_X8_9 sh_51 rfl ?_
          refine V_iconst (pc := 78) hG (dk dd_X8_goBehind 42 rfl) (v := 0) (by decide) ?_
          refine V_sipush (pc := 79) hG (dk dd_X8_goBehind 43 rfl) (v := 256) (by decide) ?_
          -- arraycopy
          refine V_acopy (pc := 82) hG (dk dd_X8_goBehind 44 rfl) ml_X8_58 sh_53 sh_52 (by decide) (by decide) (by decide) (by decide) (by decide) rfl ?_
          refine V_iinc (pc := 85) hG (dk dd_X8_goBehind 45 rfl) rfl (v := _ + 1) rfl (by decide) (lv' := [(0, _), (1, _), (2, _), (3, _)]) rfl ?_
          refine V_goto (pc := 88) hG (dk dd_X8_goBehind 46 rfl) (tgt := 23) (by decide) ?_
          refine V_keep [0, 1, 2] (lv' := [(0, _), (1, _), (2, _)]) rfl ?_
          rotate_left
          rotate_left
          -- leaves: stop 23; stop 49
          · have hI := ih (j + 1) (setc μ2 52 (va_cpy (μ2 53) (μ2 52) (0 : Int32).toNatClampNeg (0 : Int32).toNatClampNeg (256 : Int32).toNatClampNeg)) (by omega) (fun a a1 a2 => by rw [setc_n a1, g1 a a2]; exact f1 a a1 a2) (by
              rw [setc_s]
              refine g2.cg (fun E hE => ?_) (fun E _ => ?_)
              · show va_cpy (μ2 53) (μ2 52) 0 0 256 E = _
                rw [pk_cpy_in (Nat.zero_le _) (by omega), Nat.zero_add, Nat.sub_zero]
              · constructor
                · rintro ⟨F, _, h2, h, h3, h4⟩; exact ⟨F, h, h2, h3, h4⟩
                · rintro ⟨F, h, h2, h3, h4⟩; exact ⟨F, by have := Rch_lt hv hv.D h2; omega, h2, h, h3, h4⟩)
            rw [nI_succ] at hI
            exact hI
          · exfalso; rw [e00] at h46; have := nle_i h46 (by omega) (by omega); omega
        | succ k ihk =>
          intro i μ2 hi g1 g2
          have e00 : bI (μ2 15 0) = nI (2 ^ α 0 0) := by rw [g1 15 (by decide), f1 15 (by decide) (by decide)]; exact e0
          have hA2 : Abs (kac μ2 15) α := hA.off (fun x hx => by rw [g1 _ (by omega), f1 _ (by omega) (by omega)])
          have hr : vp_in (nI i) 256 := vp_in_nI (by omega) (by decide)
          have ci : (nI i).toNatClampNeg = i := nI_clamp (by omega)
          have hm : is1 (μ2 52 i) (Rch α (α 0 3) j i) := by rw [g1 52 (by decide)]; exact f2 i (by omega)
          refine V_iload_n (pc := 38) hG (dk dd_X8_goBehind 22 rfl) rfl ?_
          refine V_aload_n (pc := 39) hG (dk dd_X8_goBehind 23 rfl) rfl ?_
          refine V_getR (pc := 40) hG (dk dd_X8_goBehind 24 rfl) fl_X8_30 sh_51 rfl ?_
          refine V_callVi (pc := 43) hG (dk dd_X8_goBehind 25 rfl) ml_X8_38 mo_X2_dreamCount sh_15 rfl (c_dreamCount co_now) (by decide) (by decide) rfl rfl rfl ?_
          refine V_icmp_ge (pc := 46) hG (dk dd_X8_goBehind 26 rfl) (tgt := 69) (by decide) (fun h46 => ?_) (fun h46 => ?_)
          rotate_left
          refine V_aload_n (pc := 49) hG (dk dd_X8_goBehind 27 rfl) rfl ?_
          refine V_getR (pc := 50) hG (dk dd_X8_goBehind 28 rfl) fl_X8_9 sh_51 rfl ?_
          refine V_iload_n (pc := 53) hG (dk dd_X8_goBehind 29 rfl) rfl ?_
          refine V_iald (pc := 54) hG (dk dd_X8_goBehind 30 rfl) sh_52 hr ?_
          refine V_if_eq (pc := 55) hG (dk dd_X8_goBehind 31 rfl) (tgt := 63) (by decide) (fun h55 => ?_) (fun h55 => ?_)
          refine V_iinc (pc := 63) hG (dk dd_X8_goBehind 35 rfl) rfl (v := _ + 1) rfl (by decide) (lv' := [(0, _), (1, _), (2, _), (3, _)]) rfl ?_
          refine V_goto (pc := 66) hG (dk dd_X8_goBehind 36 rfl) (tgt := 38) (by decide) ?_
          rotate_left
          refine V_aload_n (pc := 58) hG (dk dd_X8_goBehind 32 rfl) rfl ?_
          refine V_iload_n (pc := 59) hG (dk dd_X8_goBehind 33 rfl) rfl ?_
          refine V_callVvp (pc := 60) hG (dk dd_X8_goBehind 34 rfl) ml_X8_55 mo_X8_markBehind sh_51 rfl (c_markBehind hA2 hv rfl (by omega) g2) (by decide) (by decide) rfl rfl rfl (fun m60 p60 => ?_)
          refine V_iinc (pc := 63) hG (dk dd_X8_goBehind 35 rfl) rfl (v := _ + 1) rfl (by decide) (lv' := [(0, _), (1, _), (2, _), (3, _)]) rfl ?_
          refine V_goto (pc := 66) hG (dk dd_X8_goBehind 36 rfl) (tgt := 38) (by decide) ?_
          rotate_left
          -- leaves: stop 69; stop 38; stop 38
          · exfalso; rw [e00] at h46; have := le_i h46 (by omega) (by omega); omega
          · rw [ci] at h55
            have hI := ihk (i + 1) μ2 (by omega) g1 (g2.cg (fun _ _ => rfl) (fun E _ => ⟨fun ⟨F, h1, h2⟩ => ⟨F, by omega, h2⟩, fun ⟨F, h1, h2⟩ => by
              by_cases e : F = i
              · subst e; exact absurd h2.1 (hm.no h55)
              · exact ⟨F, by omega, h2⟩⟩))
            rw [nI_succ] at hI
            exact hI
          · rw [ci] at h55
            obtain ⟨f, rfl, hf⟩ := p60
            have hI := ihk (i + 1) (setc μ2 53 f) (by omega) (fun a ha => by rw [setc_n ha]; exact g1 a ha) (by
              rw [setc_s]
              refine hf.cg (fun _ _ => rfl) (fun E _ => ⟨?_, ?_⟩)
              · rintro (⟨F, h1, h2⟩ | ⟨h, h1, h2⟩)
                · exact ⟨F, by omega, h2⟩
                · exact ⟨i, by omega, hm.yes h55, h, h1, h2⟩
              · rintro ⟨F, h1, h2, h3⟩
                by_cases e : F = i
                · subst e; exact Or.inr h3
                · exact Or.inl ⟨F, by omega, h2, h3⟩)
            rw [nI_succ] at hI
            exact hI
      refine V_iload_n (pc := 23) hG (dk dd_X8_goBehind 13 rfl) rfl ?_
      refine V_iload_n (pc := 24) hG (dk dd_X8_goBehind 14 rfl) rfl ?_
      refine V_icmp_ge (pc := 25) hG (dk dd_X8_goBehind 15 rfl) (tgt := 91) (by decide) (fun h25 => ?_) (fun h25 => ?_)
      rotate_left
      refine V_aload_n (pc := 28) hG (dk dd_X8_goBehind 16 rfl) rfl ?_
      refine V_getR (pc := 29) hG (dk dd_X8_goBehind 17 rfl) fl_X8_15 sh_51 rfl ?_
      refine V_iconst (pc := 32) hG (dk dd_X8_goBehind 18 rfl) (v := 0) (by decide) ?_
      refine V_callSvp (pc := 33) hG (dk dd_X8_goBehind 19 rfl) ml_X8_45 mo_J7_fill_53178 (c_fill sh_53 (by decide)) (by decide) (by decide) rfl rfl rfl (fun m33 p33 => ?_)
      refine V_iconst (pc := 36) hG (dk dd_X8_goBehind 20 rfl) (v := 0) (by decide) ?_
      refine V_istore_n (pc := 37) hG (dk dd_X8_goBehind 21 rfl) (by decide) (lv' := [(0, _), (1, _), (2, _), (3, _)]) rfl ?_
      rotate_left
      -- leaves: stop 91; stop 38
      · exfalso; rw [hx] at h25; have := le_i h25 (by omega) (by omega); omega
      · obtain ⟨f, rfl, hf⟩ := p33
        exact inner (2 ^ α 0 0) 0 _ (by omega) (fun a ha => setc_n ha) (by rw [setc_s]; exact fun E hE => Or.inr ⟨hf E hE, fun ⟨F, h1, _⟩ => absurd h1 (Nat.not_lt_zero F)⟩)
  refine V_aload_n (pc := 0) hG (dk dd_X8_goBehind 0 rfl) rfl ?_
  refine V_getR (pc := 1) hG (dk dd_X8_goBehind 1 rfl) fl_X8_9 sh_51 rfl ?_
  refine V_iconst (pc := 4) hG (dk dd_X8_goBehind 2 rfl) (v := 0) (by decide) ?_
  refine V_callSvp (pc := 5) hG (dk dd_X8_goBehind 3 rfl) ml_X8_45 mo_J7_fill_53178 (c_fill sh_52 (by decide)) (by decide) (by decide) rfl rfl rfl (fun m5 p5 => ?_)
  refine V_aload_n (pc := 8) hG (dk dd_X8_goBehind 4 rfl) rfl ?_
  refine V_getR (pc := 9) hG (dk dd_X8_goBehind 5 rfl) fl_X8_9 sh_51 rfl ?_
  refine V_aload_n (pc := 12) hG (dk dd_X8_goBehind 6 rfl) rfl ?_
  refine V_getR (pc := 13) hG (dk dd_X8_goBehind 7 rfl) fl_X8_30 sh_51 rfl ?_
  refine V_getI (pc := 16) hG (dk dd_X8_goBehind 8 rfl) fl_X8_51 sh_15 rfl ?_
  refine V_iconst (pc := 19) hG (dk dd_X8_goBehind 9 rfl) (v := 1) (by decide) ?_
  refine V_iast (pc := 20) hG (dk dd_X8_goBehind 10 rfl) sh_52 (by obtain ⟨f, hf1, hf⟩ := p5; rw [hf1, setc_n (by decide), e3]; exact vp_in_nI hD8 (by decide)) ?_
  refine V_iconst (pc := 21) hG (dk dd_X8_goBehind 11 rfl) (v := 0) (by decide) ?_
  refine V_istore_n (pc := 22) hG (dk dd_X8_goBehind 12 rfl) (by decide) (lv' := [(0, _), (1, _), (2, _)]) rfl ?_
  rotate_left
  -- leaves: stop 23
  · obtain ⟨f, rfl, hf⟩ := p5
    refine loop n 0 _ (by omega) (fun a a1 a2 => by rw [setc_n a1, setc_n a1]) ?_
    rw [setc_s, setc_s, setc_n (by decide), e3, nI_clamp (show α 0 3 < 2 ^ 31 by omega)]
    refine Mk.cg (Mk.upd (P := fun _ => False) (fun E hE => Or.inr ⟨hf E hE, id⟩) (α 0 3)) (fun _ _ => rfl) (fun E _ => ⟨fun q => q.elim False.elim id, Or.inr⟩)
