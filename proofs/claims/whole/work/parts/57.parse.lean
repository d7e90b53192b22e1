/-! ===== the model: reading, small steps ===== -/
theorem tk_le (τ : Nat → Nat) (n p : Nat) : tkN τ n p ≤ 4 := by
  unfold tkN tk1; repeat (first | split | omega)
theorem tk2 {τ : Nat → Nat} {n p : Nat} : tkN τ n p = 2 ↔ (p < n ∧ 97 ≤ τ p ∧ τ p ≤ 122) := by
  unfold tkN tk1
  constructor
  · intro h; repeat (first | (split at h) | omega)
  · intro h
    have e : tk1 τ n p = 2 := by unfold tk1; rw [if_neg (by omega), if_pos h.2]
    unfold tk1 at e; rw [e]; rfl
theorem tk4 {τ : Nat → Nat} {n p : Nat} : tkN τ n p = 4 ↔ (p < n ∧ (τ p = 44 ∨ τ p = 59)) := by
  unfold tkN tk1
  constructor
  · intro h; repeat (first | (split at h) | omega)
  · intro h
    have e : tk1 τ n p = 4 := by unfold tk1; rw [if_neg (by omega), if_neg (by omega), if_neg (by omega), if_pos h.2]
    unfold tk1 at e; rw [e]; rfl
theorem fg_pos {τ : Nat → Nat} {n p : Nat} : fgN τ n p ≠ 0 ↔ fig τ n p := by
  unfold fgN
  constructor
  · intro h; by_cases q : fig τ n p
    · exact q
    · rw [if_pos q] at h; exact absurd rfl h
  · intro h; rw [if_neg (not_not_intro h)]; repeat (first | split | omega)
theorem tk3 {τ : Nat → Nat} {n p : Nat} : tkN τ n p = 3 ↔ (fgN τ n p ≠ 0 ∧ fgN τ n p ≠ 3) := by
  rw [fg_pos]
  unfold tkN tk1
  constructor
  · intro h; refine ⟨⟨?_, ?_⟩, ?_⟩ <;> repeat (first | (split at h) | omega)
  · intro h
    obtain ⟨⟨h1, h2⟩, h3⟩ := h
    have e : tk1 τ n p = 3 := by unfold tk1; rw [if_neg (by omega), if_neg (by omega), if_pos h2]
    unfold tk1 at e; rw [e, if_neg (fun z => h3 z.2)]
theorem tk0 {τ : Nat → Nat} {n p : Nat} : tkN τ n p = 1 ↔ n ≤ p := by
  unfold tkN tk1
  constructor
  · intro h; repeat (first | (split at h) | omega)
  · intro h
    have e : tk1 τ n p = 1 := by unfold tk1; rw [if_pos h]
    unfold tk1 at e; rw [e]; rfl
/-- the reading stands at s: a token there, or a fault -/
def PsS (μ : Mem) (τ : Nat → Nat) (n : Nat) (s : Pf) : Prop := TpM μ τ n ∧ s.1 ≤ n ∧ s.2 ≤ 3 ∧ (s.2 = 0 → μ 67 16 = 0 ∧ TokS μ τ n s.1) ∧ (s.2 ≠ 0 → μ 67 16 = nI s.2 ∧ μ 67 17 = nI s.1)
theorem PsS.f0 {μ : Mem} {τ : Nat → Nat} {n : Nat} {s : Pf} (h : PsS μ τ n s) : μ 67 16 = 0 ↔ s.2 = 0 := by
  obtain ⟨_, _, h3, h4, h5⟩ := h
  constructor
  · intro z
    by_cases q : s.2 = 0
    · exact q
    · have := (h5 q).1
      rw [z] at this
      exact ((nI_eq (a := 0) (b := s.2) (by decide) (by omega)).mp this).symm
  · intro z; exact (h4 z).1
theorem PsS.set {μ : Mem} {τ : Nat → Nat} {n : Nat} {s : Pf} {a : Nat} {f : Nat → Int32} (h : PsS μ τ n s) (h67 : a ≠ 67) (h75 : a ≠ 75) : PsS (setc μ a f) τ n s := by
  obtain ⟨⟨t1, t2, t3⟩, h2, h3, h4, h5⟩ := h
  have e : setc μ a f 67 = μ 67 := setc_n (fun z => h67 z.symm)
  have e5 : setc μ a f 75 = μ 75 := setc_n (fun z => h75 z.symm)
  refine ⟨⟨by rw [e]; exact t1, t2, by rw [e5]; exact t3⟩, h2, h3, fun z => ?_, fun z => by rw [e]; exact h5 z⟩
  unfold TokS; rw [e]; exact h4 z
theorem m_bad {μ : Mem} {τ : Nat → Nat} {n : Nat} {s : Pf} (hs : PsS μ τ n s) {x : Int32} {k : Nat} (hx : x = nI k) (hk : 1 ≤ k) (hk3 : k ≤ 3) : CtP yX10_bad cX10_bad 2 none 0 [vR 67, vI x] μ (Pv (fun μ' => PsS μ' τ n (markS k s) ∧ OffT μ μ')) := by
  refine CtP.go RX10 rfl pn_X10 (Nat.le_of_ble_eq_true rfl) (fun C hG hR => ?_)
  refine V_aload_n (pc := 0) hG (dk dd_X10_bad 0 rfl) rfl ?_
  refine V_getI (pc := 1) hG (dk dd_X10_bad 1 rfl) fl_X10_93 sh_67 rfl ?_
  refine V_if_ne (pc := 4) hG (dk dd_X10_bad 2 rfl) (tgt := 20) (by decide) (fun h4 => ?_) (fun h4 => ?_)
  refine V_vretP (pc := 20) hG (dk dd_X10_bad 10 rfl) hR (Pv.mk ?_)
  rotate_left
  refine V_aload_n (pc := 7) hG (dk dd_X10_bad 3 rfl) rfl ?_
  refine V_iload_n (pc := 8) hG (dk dd_X10_bad 4 rfl) rfl ?_
  refine V_putI (pc := 9) hG (dk dd_X10_bad 5 rfl) fl_X10_93 sh_67 rfl rfl ?_
  refine V_aload_n (pc := 12) hG (dk dd_X10_bad 6 rfl) rfl ?_
  refine V_aload_n (pc := 13) hG (dk dd_X10_bad 7 rfl) rfl ?_
  refine V_getI (pc := 14) hG (dk dd_X10_bad 8 rfl) fl_X10_96 sh_67 rfl ?_
  refine V_putI (pc := 17) hG (dk dd_X10_bad 9 rfl) fl_X10_99 sh_67 rfl rfl ?_
  refine V_vretP (pc := 20) hG (dk dd_X10_bad 10 rfl) hR (Pv.mk ?_)
  rotate_left
  -- leaves: return@20; return@20
  · unfold markS; rw [if_neg (fun z => h4 (hs.f0.mpr z))]; exact ⟨hs, OffT.rf μ⟩
  · have z := hs.f0.mp h4; unfold markS; rw [if_pos z]; have ho : OffT μ (setc (setc μ 67 (upd (μ 67) 16 x)) 67 (upd (setc μ 67 (upd (μ 67) 16 x) 67) 17 (setc μ 67 (upd (μ 67) 16 x) 67 13))) := ⟨fun j hj => by rw [setc_n hj, setc_n hj], fun q hq => by rw [setc_s, upd_n (by omega), setc_s, upd_n (by omega)]⟩; refine ⟨⟨hs.1.off ho, hs.2.1, hk3, fun w => absurd w (by show k ≠ 0; omega), fun _ => ⟨?_, ?_⟩⟩, ho⟩; (rw [setc_s, upd_n (by decide), setc_s, upd_s]; exact hx); (rw [setc_s, upd_s, setc_s, upd_n (by decide)]; exact (hs.2.2.2.1 z).2.1)
theorem m_must {μ : Mem} {τ : Nat → Nat} {n p : Nat} {s u : Pf} (hs : PsS μ τ n s) {x : Int32} {P : Prop} (hx : is1 x P) (hc : s.2 = 0 → P → μ 67 12 = nI p ∧ p ≤ n ∧ u = (p, 0)) (hu : s.2 = 0 → ¬ P → u = (s.1, 1)) (hf : s.2 ≠ 0 → u = s) :
    CtP yX10_must cX10_must 2 none 2 [vR 67, vI x] μ (Pv (fun μ' => PsS μ' τ n u ∧ OffT μ μ')) := by
  refine CtP.go RX10 rfl pn_X10 (Nat.le_of_ble_eq_true rfl) (fun C hG hR => ?_)
  have tail : ∀ (m : Mem) (w : Pf), PsS m τ n w → OffT μ m → (w.2 = 0 → P ∧ m 67 12 = nI p ∧ p ≤ n ∧ u = (p, 0)) → (w.2 ≠ 0 → u = w) → V C 9 [(0, vR 67), (1, vI x)] [] m := by
    intro m w h1 h2 h3 h4
    have hp : w.2 = 0 → p ≤ n := fun z => (h3 z).2.2.1
    refine V_aload_n (pc := 9) hG (dk dd_X10_must 5 rfl) rfl ?_
    refine V_getI (pc := 10) hG (dk dd_X10_must 6 rfl) fl_X10_93 sh_67 rfl ?_
    refine V_if_ne (pc := 13) hG (dk dd_X10_must 7 rfl) (tgt := 20) (by decide) (fun h13 => ?_) (fun h13 => ?_)
    refine V_vretP (pc := 20) hG (dk dd_X10_must 10 rfl) hR (Pv.mk ?_)
    rotate_left
    rotate_left
    -- leaves: return@20; stop 16
    · rw [h4 (fun z => h13 (h1.f0.mpr z))]; exact ⟨h1, h2⟩
    · have z := h1.f0.mp h13
      obtain ⟨_, z2, z3, z4⟩ := h3 z
      refine V_aload_n (pc := 16) hG (dk dd_X10_must 8 rfl) rfl ?_
      refine V_callVvp (pc := 17) hG (dk dd_X10_must 9 rfl) ml_X10_124 mo_X10_nextToken sh_67 rfl (m_nextToken h1.1 z3 z2) (by decide) (by decide) rfl rfl rfl (fun m17 p17 => ?_)
      refine V_vretP (pc := 20) hG (dk dd_X10_must 10 rfl) hR (Pv.mk ?_)
      rotate_left
      -- leaves: return@20
      · obtain ⟨a1, a2, a3⟩ := p17
        have ho : OffT m m17 := ⟨a2, fun q hq => a3 q (by omega)⟩
        rw [z4]
        exact ⟨⟨h1.1.off ho, z3, Nat.zero_le 3, fun _ => ⟨by rw [a3 16 (by decide)]; exact h13, a1⟩, fun w => absurd rfl w⟩, h2.tr ho⟩
  refine V_iload_n (pc := 0) hG (dk dd_X10_must 0 rfl) rfl ?_
  refine V_if_ne (pc := 1) hG (dk dd_X10_must 1 rfl) (tgt := 9) (by decide) (fun h1 => ?_) (fun h1 => ?_)
  rotate_left
  refine V_aload_n (pc := 4) hG (dk dd_X10_must 2 rfl) rfl ?_
  refine V_iconst (pc := 5) hG (dk dd_X10_must 3 rfl) (v := 1) (by decide) ?_
  refine V_callVvp (pc := 6) hG (dk dd_X10_must 4 rfl) ml_X10_120 mo_X10_bad sh_67 rfl (m_bad hs (k := 1) rfl (by decide) (by decide)) (by decide) (by decide) rfl rfl rfl (fun m6 p6 => ?_)
  rotate_left
  -- leaves: stop 9; stop 9
  · exact tail μ s hs (OffT.rf μ) (fun z => ⟨hx.yes h1, hc z (hx.yes h1)⟩) hf
  · refine tail m6 _ p6.1 p6.2 (fun z => (markS_0 (by decide) z).elim) (fun _ => ?_)
    unfold markS
    by_cases z : s.2 = 0
    · rw [if_pos z]; exact hu z (hx.no h1)
    · rw [if_neg z]; exact hf z
theorem m_isLetter {μ : Mem} {τ : Nat → Nat} {n : Nat} {s : Pf} (hs : PsS μ τ n s) {x : Int32} {c : Nat} (hx : x = nI c) (hc : 97 ≤ c ∧ c ≤ 122) : CtP yX10_isLetter cX10_isLetter 2 (some .boolean) 0 [vR 67, vI x] μ (Pi (fun r μ' => μ' = μ ∧ is1 r (nexS τ n c s))) := by
  refine CtP.go RX10 rfl pn_X10 (Nat.le_of_ble_eq_true rfl) (fun C hG hR => ?_)
  refine V_aload_n (pc := 0) hG (dk dd_X10_isLetter 0 rfl) rfl ?_
  refine V_getI (pc := 1) hG (dk dd_X10_isLetter 1 rfl) fl_X10_93 sh_67 rfl ?_
  refine V_if_ne (pc := 4) hG (dk dd_X10_isLetter 2 rfl) (tgt := 27) (by decide) (fun h4 => ?_) (fun h4 => ?_)
  refine V_iconst (pc := 27) hG (dk dd_X10_isLetter 13 rfl) (v := 0) (by decide) ?_
  refine V_zretP (pc := 28) hG (dk dd_X10_isLetter 14 rfl) (by decide) hR (Pi.mk ?_)
  rotate_left
  refine V_aload_n (pc := 7) hG (dk dd_X10_isLetter 3 rfl) rfl ?_
  refine V_getI (pc := 8) hG (dk dd_X10_isLetter 4 rfl) fl_X10_117 sh_67 rfl ?_
  refine V_iconst (pc := 11) hG (dk dd_X10_isLetter 5 rfl) (v := 2) (by decide) ?_
  refine V_icmp_ne (pc := 12) hG (dk dd_X10_isLetter 6 rfl) (tgt := 27) (by decide) (fun h12 => ?_) (fun h12 => ?_)
  refine V_iconst (pc := 27) hG (dk dd_X10_isLetter 13 rfl) (v := 0) (by decide) ?_
  refine V_zretP (pc := 28) hG (dk dd_X10_isLetter 14 rfl) (by decide) hR (Pi.mk ?_)
  rotate_left
  refine V_aload_n (pc := 15) hG (dk dd_X10_isLetter 7 rfl) rfl ?_
  refine V_getI (pc := 16) hG (dk dd_X10_isLetter 8 rfl) fl_X10_106 sh_67 rfl ?_
  refine V_iload_n (pc := 19) hG (dk dd_X10_isLetter 9 rfl) rfl ?_
  refine V_icmp_ne (pc := 20) hG (dk dd_X10_isLetter 10 rfl) (tgt := 27) (by decide) (fun h20 => ?_) (fun h20 => ?_)
  refine V_iconst (pc := 27) hG (dk dd_X10_isLetter 13 rfl) (v := 0) (by decide) ?_
  refine V_zretP (pc := 28) hG (dk dd_X10_isLetter 14 rfl) (by decide) hR (Pi.mk ?_)
  rotate_left
  refine V_iconst (pc := 23) hG (dk dd_X10_isLetter 11 rfl) (v := 1) (by decide) ?_
  refine V_goto (pc := 24) hG (dk dd_X10_isLetter 12 rfl) (tgt := 28) (by decide) ?_
  refine V_zretP (pc := 28) hG (dk dd_X10_isLetter 14 rfl) (by decide) hR (Pi.mk ?_)
  rotate_left
  -- leaves: return@28; return@28; return@28; return@28
  · exact ⟨rfl, is1.f (fun q => h4 (hs.f0.mpr q.1))⟩
  · refine ⟨rfl, is1.f (fun q => h12 ?_)⟩; rw [(hs.2.2.2.1 q.1).2.2.2.1, tk2.mpr ⟨q.2.1, by rw [q.2.2]; exact hc⟩]; rfl
  · refine ⟨rfl, is1.f (fun q => h20 ?_)⟩; rw [((hs.2.2.2.1 q.1).2.2.2.2.1 (Or.inl (tk2.mpr ⟨q.2.1, by rw [q.2.2]; exact hc⟩))).1, q.2.2, hx]
  · have z := hs.f0.mp h4; obtain ⟨_, _, a3, a4, _⟩ := (hs.2.2.2.1 z).2; rw [a3] at h12; have b := (nI_eq (b := 2) (by have := tk_le τ n s.1; omega) (by decide)).mp h12; have b2 := tk2.mp b; rw [(a4 (Or.inl b)).1, hx] at h20; exact ⟨rfl, is1.t ⟨z, b2.1, (nI_eq (by omega) (by omega)).mp h20⟩⟩
theorem m_isSign {μ : Mem} {τ : Nat → Nat} {n : Nat} {s : Pf} (hs : PsS μ τ n s) {x : Int32} {c : Nat} (hx : x = nI c) (hc : c = 44 ∨ c = 59) : CtP yX10_isSign cX10_isSign 2 (some .boolean) 0 [vR 67, vI x] μ (Pi (fun r μ' => μ' = μ ∧ is1 r (nexS τ n c s))) := by
  refine CtP.go RX10 rfl pn_X10 (Nat.le_of_ble_eq_true rfl) (fun C hG hR => ?_)
  refine V_aload_n (pc := 0) hG (dk dd_X10_isSign 0 rfl) rfl ?_
  refine V_getI (pc := 1) hG (dk dd_X10_isSign 1 rfl) fl_X10_93 sh_67 rfl ?_
  refine V_if_ne (pc := 4) hG (dk dd_X10_isSign 2 rfl) (tgt := 27) (by decide) (fun h4 => ?_) (fun h4 => ?_)
  refine V_iconst (pc := 27) hG (dk dd_X10_isSign 13 rfl) (v := 0) (by decide) ?_
  refine V_zretP (pc := 28) hG (dk dd_X10_isSign 14 rfl) (by decide) hR (Pi.mk ?_)
  rotate_left
  refine V_aload_n (pc := 7) hG (dk dd_X10_isSign 3 rfl) rfl ?_
  refine V_getI (pc := 8) hG (dk dd_X10_isSign 4 rfl) fl_X10_117 sh_67 rfl ?_
  refine V_iconst (pc := 11) hG (dk dd_X10_isSign 5 rfl) (v := 4) (by decide) ?_
  refine V_icmp_ne (pc := 12) hG (dk dd_X10_isSign 6 rfl) (tgt := 27) (by decide) (fun h12 => ?_) (fun h12 => ?_)
  refine V_iconst (pc := 27) hG (dk dd_X10_isSign 13 rfl) (v := 0) (by decide) ?_
  refine V_zretP (pc := 28) hG (dk dd_X10_isSign 14 rfl) (by decide) hR (Pi.mk ?_)
  rotate_left
  refine V_aload_n (pc := 15) hG (dk dd_X10_isSign 7 rfl) rfl ?_
  refine V_getI (pc := 16) hG (dk dd_X10_isSign 8 rfl) fl_X10_106 sh_67 rfl ?_
  refine V_iload_n (pc := 19) hG (dk dd_X10_isSign 9 rfl) rfl ?_
  refine V_icmp_ne (pc := 20) hG (dk dd_X10_isSign 10 rfl) (tgt := 27) (by decide) (fun h20 => ?_) (fun h20 => ?_)
  refine V_iconst (pc := 27) hG (dk dd_X10_isSign 13 rfl) (v := 0) (by decide) ?_
  refine V_zretP (pc := 28) hG (dk dd_X10_isSign 14 rfl) (by decide) hR (Pi.mk ?_)
  rotate_left
  refine V_iconst (pc := 23) hG (dk dd_X10_isSign 11 rfl) (v := 1) (by decide) ?_
  refine V_goto (pc := 24) hG (dk dd_X10_isSign 12 rfl) (tgt := 28) (by decide) ?_
  refine V_zretP (pc := 28) hG (dk dd_X10_isSign 14 rfl) (by decide) hR (Pi.mk ?_)
  rotate_left
  -- leaves: return@28; return@28; return@28; return@28
  · exact ⟨rfl, is1.f (fun q => h4 (hs.f0.mpr q.1))⟩
  · refine ⟨rfl, is1.f (fun q => h12 ?_)⟩; rw [(hs.2.2.2.1 q.1).2.2.2.1, tk4.mpr ⟨q.2.1, by rw [q.2.2]; exact hc⟩]; rfl
  · refine ⟨rfl, is1.f (fun q => h20 ?_)⟩; rw [((hs.2.2.2.1 q.1).2.2.2.2.1 (Or.inr (tk4.mpr ⟨q.2.1, by rw [q.2.2]; exact hc⟩))).1, q.2.2, hx]
  · have z := hs.f0.mp h4; obtain ⟨_, _, a3, a4, _⟩ := (hs.2.2.2.1 z).2; rw [a3] at h12; have b := (nI_eq (b := 4) (by have := tk_le τ n s.1; omega) (by decide)).mp h12; have b2 := tk4.mp b; rw [(a4 (Or.inr b)).1, hx] at h20; exact ⟨rfl, is1.t ⟨z, b2.1, (nI_eq (by omega) (by omega)).mp h20⟩⟩
/-- what a passed letter or sign gives must() -/
theorem pas_hc {μ : Mem} {τ : Nat → Nat} {n c : Nat} {s : Pf} (hs : PsS μ τ n s) (hk : (97 ≤ c ∧ c ≤ 122) ∨ c = 44 ∨ c = 59) : s.2 = 0 → nexS τ n c s → μ 67 12 = nI (s.1 + 1) ∧ s.1 + 1 ≤ n ∧ pasS τ n c s = (s.1 + 1, 0) := by
  intro z q
  have a4 := (hs.2.2.2.1 z).2.2.2.2.1
  refine ⟨?_, q.2.1, by unfold pasS; rw [if_pos q]⟩
  rcases hk with h | h
  · exact (a4 (Or.inl (tk2.mpr ⟨q.2.1, by rw [q.2.2]; exact h⟩))).2
  · exact (a4 (Or.inr (tk4.mpr ⟨q.2.1, by rw [q.2.2]; exact h⟩))).2
theorem pas_hu {τ : Nat → Nat} {n c : Nat} {s : Pf} : s.2 = 0 → ¬ nexS τ n c s → pasS τ n c s = (s.1, 1) := fun z q => by unfold pasS markS; rw [if_neg q, if_pos z]
theorem pas_hf {τ : Nat → Nat} {n c : Nat} {s : Pf} : s.2 ≠ 0 → pasS τ n c s = s := fun z => by unfold pasS markS; rw [if_neg (fun q => z q.1), if_neg z]
theorem m_mustL {μ : Mem} {τ : Nat → Nat} {n : Nat} {s : Pf} (hs : PsS μ τ n s) {x : Int32} {c : Nat} (hc : 97 ≤ c ∧ c ≤ 122) (hx : is1 x (nexS τ n c s)) : CtP yX10_must cX10_must 2 none 2 [vR 67, vI x] μ (Pv (fun μ' => PsS μ' τ n (pasS τ n c s) ∧ OffT μ μ')) := m_must hs hx (pas_hc hs (Or.inl hc)) pas_hu pas_hf
theorem m_mustSign {μ : Mem} {τ : Nat → Nat} {n : Nat} {s : Pf} (hs : PsS μ τ n s) {x : Int32} {c : Nat} (hx : x = nI c) (hc : c = 44 ∨ c = 59) : CtP yX10_mustSign cX10_mustSign 2 none 3 [vR 67, vI x] μ (Pv (fun μ' => PsS μ' τ n (pasS τ n c s) ∧ OffT μ μ')) := by
  refine CtP.go RX10 rfl pn_X10 (Nat.le_of_ble_eq_true rfl) (fun C hG hR => ?_)
  have fin : ∀ y : Int32, (s.2 = 0 → is1 y (nexS τ n c s)) → (y = 0 ∨ y = 1) → V C 22 [(0, vR 67), (1, vI x)] [vI y, vR 67] μ := by
    intro y hy hb
    by_cases z : s.2 = 0
    · skip
      refine V_callVvp (pc := 22) hG (dk dd_X10_mustSign 12 rfl) ml_X10_127 mo_X10_must sh_67 rfl (m_must hs (hy z) (pas_hc hs (Or.inr hc)) pas_hu pas_hf) (by decide) (by decide) rfl rfl rfl (fun m22 p22 => ?_)
      refine V_vretP (pc := 25) hG (dk dd_X10_mustSign 13 rfl) hR (Pv.mk ?_)
      rotate_left
      -- leaves: return@25
      · exact p22
    · have hy' : is1 y (y = 1) := hb.elim (fun q => q ▸ is1.f (by decide)) (fun q => q ▸ is1.t rfl)
      refine V_callVvp (pc := 22) hG (dk dd_X10_mustSign 12 rfl) ml_X10_127 mo_X10_must sh_67 rfl (m_must (p := 0) (u := pasS τ n c s) hs hy' (fun q => absurd q z) (fun q => absurd q z) pas_hf) (by decide) (by decide) rfl rfl rfl (fun m22 p22 => ?_)
      refine V_vretP (pc := 25) hG (dk dd_X10_mustSign 13 rfl) hR (Pv.mk ?_)
      rotate_left
      -- leaves: return@25
      · exact p22
  refine V_aload_n (pc := 0) hG (dk dd_X10_mustSign 0 rfl) rfl ?_
  refine V_aload_n (pc := 1) hG (dk dd_X10_mustSign 1 rfl) rfl ?_
  refine V_getI (pc := 2) hG (dk dd_X10_mustSign 2 rfl) fl_X10_117 sh_67 rfl ?_
  refine V_iconst (pc := 5) hG (dk dd_X10_mustSign 3 rfl) (v := 4) (by decide) ?_
  refine V_icmp_ne (pc := 6) hG (dk dd_X10_mustSign 4 rfl) (tgt := 21) (by decide) (fun h6 => ?_) (fun h6 => ?_)
  refine V_iconst (pc := 21) hG (dk dd_X10_mustSign 11 rfl) (v := 0) (by decide) ?_
  rotate_left
  refine V_aload_n (pc := 9) hG (dk dd_X10_mustSign 5 rfl) rfl ?_
  refine V_getI (pc := 10) hG (dk dd_X10_mustSign 6 rfl) fl_X10_106 sh_67 rfl ?_
  refine V_iload_n (pc := 13) hG (dk dd_X10_mustSign 7 rfl) rfl ?_
  refine V_icmp_ne (pc := 14) hG (dk dd_X10_mustSign 8 rfl) (tgt := 21) (by decide) (fun h14 => ?_) (fun h14 => ?_)
  refine V_iconst (pc := 21) hG (dk dd_X10_mustSign 11 rfl) (v := 0) (by decide) ?_
  rotate_left
  refine V_iconst (pc := 17) hG (dk dd_X10_mustSign 9 rfl) (v := 1) (by decide) ?_
  refine V_goto (pc := 18) hG (dk dd_X10_mustSign 10 rfl) (tgt := 22) (by decide) ?_
  rotate_left
  -- leaves: stop 22; stop 22; stop 22
  · refine fin 0 (fun z => is1.f (fun q => h6 ?_)) (Or.inl rfl)
    rw [(hs.2.2.2.1 z).2.2.2.1, tk4.mpr ⟨q.2.1, by rw [q.2.2]; exact hc⟩]; rfl
  · refine fin 0 (fun z => is1.f (fun q => h14 ?_)) (Or.inl rfl)
    rw [((hs.2.2.2.1 z).2.2.2.2.1 (Or.inr (tk4.mpr ⟨q.2.1, by rw [q.2.2]; exact hc⟩))).1, q.2.2, hx]
  · refine fin 1 (fun z => is1.t ?_) (Or.inr rfl)
    obtain ⟨_, _, a3, a4, _⟩ := (hs.2.2.2.1 z).2
    rw [a3] at h6
    have b := (nI_eq (b := 4) (by have := tk_le τ n s.1; omega) (by decide)).mp h6
    have b2 := tk4.mp b
    rw [(a4 (Or.inr b)).1, hx] at h14
    exact ⟨z, b2.1, (nI_eq (by omega) (by omega)).mp h14⟩
theorem m_number {μ : Mem} {τ : Nat → Nat} {n : Nat} {s : Pf} (hs : PsS μ τ n s) {x y : Int32} {lo hi : Nat} (hx : x = nI lo) (hlo : lo < 100) (hy : s.2 = 0 → y = nI hi) (hhi : hi < 100) :
    CtP yX10_number cX10_number 4 (some .int) 3 [vR 67, vI x, vI y] μ (Pi (fun r μ' => ((numS τ n lo hi s).2.2 = 0 → r = nI (numS τ n lo hi s).1) ∧ PsS μ' τ n (numS τ n lo hi s).2 ∧ OffT μ μ')) := by
  refine CtP.go RX10 rfl pn_X10 (Nat.le_of_ble_eq_true rfl) (fun C hG hR => ?_)
  have t1 : is1 (1 : Int32) True := is1.t trivial
  have vl : fgN τ n s.1 ≠ 0 → fgN τ n s.1 ≠ 3 → valS τ n s.1 < 100 := fun a b => by
    have hle : fgN τ n s.1 ≤ 3 := by unfold fgN; repeat (first | split | omega)
    obtain ⟨_, b2, b3⟩ := fgN_le (τ := τ) (n := n) (p := s.1) (by omega)
    unfold valS
    have := b2.2
    split
    · rename_i h; have := (b3 h).2; omega
    · omega
  -- a fault: nothing more is read
  have bad : ∀ (m : Mem) (w : Pf), PsS m τ n w → OffT μ m → w.2 ≠ 0 → (numS τ n lo hi s).2 = w → V C 47 [(0, vR 67), (1, vI x), (2, vI y)] [] m := by
    intro m w h1 h2 h3 h4
    refine V_aload_n (pc := 47) hG (dk dd_X10_number 25 rfl) rfl ?_
    refine V_getI (pc := 48) hG (dk dd_X10_number 26 rfl) fl_X10_93 sh_67 rfl ?_
    refine V_if_ne (pc := 51) hG (dk dd_X10_number 27 rfl) (tgt := 61) (by decide) (fun h51 => ?_) (fun h51 => ?_)
    refine V_iload_n (pc := 61) hG (dk dd_X10_number 31 rfl) rfl ?_
    refine V_istore_n (pc := 62) hG (dk dd_X10_number 32 rfl) (by decide) (lv' := [(0, _), (1, _), (2, _), (3, _)]) rfl ?_
    refine V_aload_n (pc := 63) hG (dk dd_X10_number 33 rfl) rfl ?_
    refine V_iconst (pc := 64) hG (dk dd_X10_number 34 rfl) (v := 1) (by decide) ?_
    refine V_callVvp (pc := 65) hG (dk dd_X10_number 35 rfl) ml_X10_127 mo_X10_must sh_67 rfl (m_must (p := 0) (u := w) h1 t1 (fun q => absurd q h3) (fun q => absurd q h3) (fun _ => rfl)) (by decide) (by decide) rfl rfl rfl (fun m65 p65 => ?_)
    refine V_iload_n (pc := 68) hG (dk dd_X10_number 36 rfl) rfl ?_
    refine V_iretP (pc := 69) hG (dk dd_X10_number 37 rfl) hR (Pi.mk ?_)
    rotate_left
    rotate_left
    -- leaves: return@69; stop 54
    · exact ⟨fun z => absurd (h4 ▸ z) h3, h4 ▸ p65.1, h2.tr p65.2⟩
    · exact absurd (h1.f0.mp h51) h3
  by_cases z : s.2 = 0
  · obtain ⟨_, _, a3, _, a5⟩ := (hs.2.2.2.1 z).2
    have f0 := hs.f0.mpr z
    have hy := hy z
    by_cases g : fgN τ n s.1 = 0 ∨ fgN τ n s.1 = 3
    · have e : numS τ n lo hi s = (0, (s.1, 1)) := by unfold numS; rw [if_pos z, if_pos g]
      have g3 : tkN τ n s.1 ≠ 3 := fun q => by have := tk3.mp q; omega
      refine V_aload_n (pc := 0) hG (dk dd_X10_number 0 rfl) rfl ?_
      refine V_getI (pc := 1) hG (dk dd_X10_number 1 rfl) fl_X10_93 sh_67 rfl ?_
      refine V_if_ne (pc := 4) hG (dk dd_X10_number 2 rfl) (tgt := 20) (by decide) (fun h4 => ?_) (fun h4 => ?_)
      rotate_left
      refine V_aload_n (pc := 7) hG (dk dd_X10_number 3 rfl) rfl ?_
      refine V_getI (pc := 8) hG (dk dd_X10_number 4 rfl) fl_X10_117 sh_67 rfl ?_
      refine V_iconst (pc := 11) hG (dk dd_X10_number 5 rfl) (v := 3) (by decide) ?_
      refine V_icmp_eq (pc := 12) hG (dk dd_X10_number 6 rfl) (tgt := 20) (by decide) (fun h12 => ?_) (fun h12 => ?_)
      rotate_left
      refine V_aload_n (pc := 15) hG (dk dd_X10_number 7 rfl) rfl ?_
      refine V_iconst (pc := 16) hG (dk dd_X10_number 8 rfl) (v := 1) (by decide) ?_
      refine V_callVvp (pc := 17) hG (dk dd_X10_number 9 rfl) ml_X10_120 mo_X10_bad sh_67 rfl (m_bad hs (k := 1) rfl (by decide) (by decide)) (by decide) (by decide) rfl rfl rfl (fun m17 p17 => ?_)
      rotate_left
      -- leaves: stop 20; stop 20; stop 20
      · exact absurd f0 h4
      · exfalso; rw [a3] at h12; exact g3 ((nI_eq (b := 3) (by have := tk_le τ n s.1; omega) (by decide)).mp h12)
      · have e1 : markS 1 s = (s.1, 1) := by unfold markS; rw [if_pos z]
        rw [e1] at p17
        refine V_aload_n (pc := 20) hG (dk dd_X10_number 10 rfl) rfl ?_
        refine V_getI (pc := 21) hG (dk dd_X10_number 11 rfl) fl_X10_93 sh_67 rfl ?_
        refine V_if_ne (pc := 24) hG (dk dd_X10_number 12 rfl) (tgt := 47) (by decide) (fun h24 => ?_) (fun h24 => ?_)
        rotate_left
        rotate_left
        -- leaves: stop 47; stop 27
        · exact bad m17 _ p17.1 p17.2 (show (1 : Nat) ≠ 0 by decide) (by rw [e])
        · exact absurd (p17.1.f0.mp h24) (show (1 : Nat) ≠ 0 by decide)
    · have g3 : tkN τ n s.1 = 3 := tk3.mpr (by omega)
      obtain ⟨v1, v2⟩ := a5 g3
      have vl := vl (by omega) (by omega)
      have hle : fgN τ n s.1 ≤ 3 := by unfold fgN; repeat (first | split | omega)
      have fl := fgN_le (τ := τ) (n := n) (p := s.1) (by omega)
      have ri := rng_i (a := valS τ n s.1) (lo := lo) (hi := hi) (by omega) (by omega) (by omega)
      rw [← hx, ← hy, ← v1] at ri
      have L20 : V C 20 [(0, vR 67), (1, vI x), (2, vI y)] [] μ := by
        refine V_aload_n (pc := 20) hG (dk dd_X10_number 10 rfl) rfl ?_
        refine V_getI (pc := 21) hG (dk dd_X10_number 11 rfl) fl_X10_93 sh_67 rfl ?_
        refine V_if_ne (pc := 24) hG (dk dd_X10_number 12 rfl) (tgt := 47) (by decide) (fun h24 => ?_) (fun h24 => ?_)
        rotate_left
        refine V_aload_n (pc := 27) hG (dk dd_X10_number 13 rfl) rfl ?_
        refine V_getI (pc := 28) hG (dk dd_X10_number 14 rfl) fl_X10_106 sh_67 rfl ?_
        refine V_i2l (pc := 31) hG (dk dd_X10_number 15 rfl) ?_
        refine V_iload_n (pc := 32) hG (dk dd_X10_number 16 rfl) rfl ?_
        refine V_i2l (pc := 33) hG (dk dd_X10_number 17 rfl) ?_
        refine V_iload_n (pc := 34) hG (dk dd_X10_number 18 rfl) rfl ?_
        refine V_i2l (pc := 35) hG (dk dd_X10_number 19 rfl) ?_
        refine V_callSip (pc := 36) hG (dk dd_X10_number 20 rfl) ml_X10_72 mo_X10_in (m_inI (v := μ 67 15) (lo := x) (hi := y) rfl rfl rfl) (by decide) (by decide) rfl rfl rfl (fun x36 m36 p36 => ?_)
        refine V_if_ne (pc := 39) hG (dk dd_X10_number 21 rfl) (tgt := 47) (by decide) (fun h39 => ?_) (fun h39 => ?_)
        rotate_left
        refine V_aload_n (pc := 42) hG (dk dd_X10_number 22 rfl) rfl ?_
        refine V_iconst (pc := 43) hG (dk dd_X10_number 23 rfl) (v := 2) (by decide) ?_
        refine V_callVvp (pc := 44) hG (dk dd_X10_number 24 rfl) ml_X10_120 mo_X10_bad sh_67 rfl (m_bad (p36.1 ▸ hs) (k := 2) rfl (by decide) (by decide)) (by decide) (by decide) rfl rfl rfl (fun m44 p44 => ?_)
        rotate_left
        -- leaves: stop 47; stop 47; stop 47
        · exact absurd f0 h24
        · obtain ⟨rfl, q⟩ := p36
          have q := ri.mp (q.yes h39)
          have e : numS τ n lo hi s = (valS τ n s.1, (s.1 + fgN τ n s.1, 0)) := by unfold numS; rw [if_pos z, if_neg g, if_pos q]
          refine V_aload_n (pc := 47) hG (dk dd_X10_number 25 rfl) rfl ?_
          refine V_getI (pc := 48) hG (dk dd_X10_number 26 rfl) fl_X10_93 sh_67 rfl ?_
          refine V_if_ne (pc := 51) hG (dk dd_X10_number 27 rfl) (tgt := 61) (by decide) (fun h51 => ?_) (fun h51 => ?_)
          rotate_left
          refine V_aload_n (pc := 54) hG (dk dd_X10_number 28 rfl) rfl ?_
          refine V_getI (pc := 55) hG (dk dd_X10_number 29 rfl) fl_X10_106 sh_67 rfl ?_
          refine V_goto (pc := 58) hG (dk dd_X10_number 30 rfl) (tgt := 62) (by decide) ?_
          refine V_istore_n (pc := 62) hG (dk dd_X10_number 32 rfl) (by decide) (lv' := [(0, _), (1, _), (2, _), (3, _)]) rfl ?_
          refine V_aload_n (pc := 63) hG (dk dd_X10_number 33 rfl) rfl ?_
          refine V_iconst (pc := 64) hG (dk dd_X10_number 34 rfl) (v := 1) (by decide) ?_
          refine V_callVvp (pc := 65) hG (dk dd_X10_number 35 rfl) ml_X10_127 mo_X10_must sh_67 rfl (m_must (u := (s.1 + fgN τ n s.1, 0)) hs t1 (fun _ _ => ⟨v2, fl.1, rfl⟩) (fun _ q => absurd trivial q) (fun q => absurd z q)) (by decide) (by decide) rfl rfl rfl (fun m65 p65 => ?_)
          refine V_iload_n (pc := 68) hG (dk dd_X10_number 36 rfl) rfl ?_
          refine V_iretP (pc := 69) hG (dk dd_X10_number 37 rfl) hR (Pi.mk ?_)
          rotate_left
          -- leaves: stop 61; return@69
          · exact absurd f0 h51
          · rw [e]; exact ⟨fun _ => v1, p65⟩
        · obtain ⟨rfl, q⟩ := p36
          have q : ¬ (lo ≤ valS τ n s.1 ∧ valS τ n s.1 ≤ hi) := fun w => q.no h39 (ri.mpr w)
          have e : numS τ n lo hi s = (0, (s.1, 2)) := by unfold numS; rw [if_pos z, if_neg g, if_neg q]
          have e1 : markS 2 s = (s.1, 2) := by unfold markS; rw [if_pos z]
          rw [e1] at p44
          exact bad m44 _ p44.1 p44.2 (show (2 : Nat) ≠ 0 by decide) (by rw [e])
      refine V_aload_n (pc := 0) hG (dk dd_X10_number 0 rfl) rfl ?_
      refine V_getI (pc := 1) hG (dk dd_X10_number 1 rfl) fl_X10_93 sh_67 rfl ?_
      refine V_if_ne (pc := 4) hG (dk dd_X10_number 2 rfl) (tgt := 20) (by decide) (fun h4 => ?_) (fun h4 => ?_)
      rotate_left
      refine V_aload_n (pc := 7) hG (dk dd_X10_number 3 rfl) rfl ?_
      refine V_getI (pc := 8) hG (dk dd_X10_number 4 rfl) fl_X10_117 sh_67 rfl ?_
      refine V_iconst (pc := 11) hG (dk dd_X10_number 5 rfl) (v := 3) (by decide) ?_
      refine V_icmp_eq (pc := 12) hG (dk dd_X10_number 6 rfl) (tgt := 20) (by decide) (fun h12 => ?_) (fun h12 => ?_)
      rotate_left
      rotate_left
      -- leaves: stop 20; stop 20; stop 15
      · exact absurd f0 h4
      · exact L20
      · exact absurd (by rw [a3, g3]; rfl) h12
  · have e : numS τ n lo hi s = (0, s) := by unfold numS; rw [if_neg z]
    refine V_aload_n (pc := 0) hG (dk dd_X10_number 0 rfl) rfl ?_
    refine V_getI (pc := 1) hG (dk dd_X10_number 1 rfl) fl_X10_93 sh_67 rfl ?_
    refine V_if_ne (pc := 4) hG (dk dd_X10_number 2 rfl) (tgt := 20) (by decide) (fun h4 => ?_) (fun h4 => ?_)
    refine V_aload_n (pc := 20) hG (dk dd_X10_number 10 rfl) rfl ?_
    refine V_getI (pc := 21) hG (dk dd_X10_number 11 rfl) fl_X10_93 sh_67 rfl ?_
    refine V_if_ne (pc := 24) hG (dk dd_X10_number 12 rfl) (tgt := 47) (by decide) (fun h24 => ?_) (fun h24 => ?_)
    rotate_left
    rotate_left
    rotate_left
    -- leaves: stop 47; stop 27; stop 7
    · exact bad μ s hs (OffT.rf μ) z (by rw [e])
    · exact absurd (hs.f0.mp h24) z
    · exact absurd (hs.f0.mp h4) z
theorem m_kindBy {μ : Mem} {x : Int32} {c : Nat} (hx : x = nI c) (hc : c < 256) : CtP yX10_kindBy cX10_kindBy 1 (some .int) 0 [vI x] μ (Pi (fun r μ' => μ' = μ ∧ r = (if kdC c = 0 then -1000000 else nI (kdC c)))) := by
  refine CtP.go RX10 rfl pn_X10 (Nat.le_of_ble_eq_true rfl) (fun C hG hR => ?_)
  refine V_iload_n (pc := 0) hG (dk dd_X10_kindBy 0 rfl) rfl ?_
  refine V_bipush (pc := 1) hG (dk dd_X10_kindBy 1 rfl) (v := 116) (by decide) ?_
  refine V_icmp_ne (pc := 3) hG (dk dd_X10_kindBy 2 rfl) (tgt := 10) (by decide) (fun h3 => ?_) (fun h3 => ?_)
  refine V_iload_n (pc := 10) hG (dk dd_X10_kindBy 5 rfl) rfl ?_
  refine V_bipush (pc := 11) hG (dk dd_X10_kindBy 6 rfl) (v := 99) (by decide) ?_
  refine V_icmp_ne (pc := 13) hG (dk dd_X10_kindBy 7 rfl) (tgt := 20) (by decide) (fun h13 => ?_) (fun h13 => ?_)
  refine V_iload_n (pc := 20) hG (dk dd_X10_kindBy 10 rfl) rfl ?_
  refine V_bipush (pc := 21) hG (dk dd_X10_kindBy 11 rfl) (v := 115) (by decide) ?_
  refine V_icmp_ne (pc := 23) hG (dk dd_X10_kindBy 12 rfl) (tgt := 30) (by decide) (fun h23 => ?_) (fun h23 => ?_)
  refine V_iload_n (pc := 30) hG (dk dd_X10_kindBy 15 rfl) rfl ?_
  refine V_bipush (pc := 31) hG (dk dd_X10_kindBy 16 rfl) (v := 114) (by decide) ?_
  refine V_icmp_ne (pc := 33) hG (dk dd_X10_kindBy 17 rfl) (tgt := 40) (by decide) (fun h33 => ?_) (fun h33 => ?_)
  refine V_iload_n (pc := 40) hG (dk dd_X10_kindBy 20 rfl) rfl ?_
  refine V_bipush (pc := 41) hG (dk dd_X10_kindBy 21 rfl) (v := 102) (by decide) ?_
  refine V_icmp_ne (pc := 43) hG (dk dd_X10_kindBy 22 rfl) (tgt := 50) (by decide) (fun h43 => ?_) (fun h43 => ?_)
  refine V_ldc (pc := 50) hG (dk dd_X10_kindBy 25 rfl) kk_X10_105 ?_
  refine V_iretP (pc := 52) hG (dk dd_X10_kindBy 26 rfl) hR (Pi.mk ?_)
  rotate_left
  refine V_iconst (pc := 46) hG (dk dd_X10_kindBy 23 rfl) (v := 5) (by decide) ?_
  refine V_goto (pc := 47) hG (dk dd_X10_kindBy 24 rfl) (tgt := 52) (by decide) ?_
  refine V_iretP (pc := 52) hG (dk dd_X10_kindBy 26 rfl) hR (Pi.mk ?_)
  rotate_left
  refine V_iconst (pc := 36) hG (dk dd_X10_kindBy 18 rfl) (v := 4) (by decide) ?_
  refine V_goto (pc := 37) hG (dk dd_X10_kindBy 19 rfl) (tgt := 52) (by decide) ?_
  refine V_iretP (pc := 52) hG (dk dd_X10_kindBy 26 rfl) hR (Pi.mk ?_)
  rotate_left
  refine V_iconst (pc := 26) hG (dk dd_X10_kindBy 13 rfl) (v := 3) (by decide) ?_
  refine V_goto (pc := 27) hG (dk dd_X10_kindBy 14 rfl) (tgt := 52) (by decide) ?_
  refine V_iretP (pc := 52) hG (dk dd_X10_kindBy 26 rfl) hR (Pi.mk ?_)
  rotate_left
  refine V_iconst (pc := 16) hG (dk dd_X10_kindBy 8 rfl) (v := 2) (by decide) ?_
  refine V_goto (pc := 17) hG (dk dd_X10_kindBy 9 rfl) (tgt := 52) (by decide) ?_
  refine V_iretP (pc := 52) hG (dk dd_X10_kindBy 26 rfl) hR (Pi.mk ?_)
  rotate_left
  refine V_iconst (pc := 6) hG (dk dd_X10_kindBy 3 rfl) (v := 1) (by decide) ?_
  refine V_goto (pc := 7) hG (dk dd_X10_kindBy 4 rfl) (tgt := 52) (by decide) ?_
  refine V_iretP (pc := 52) hG (dk dd_X10_kindBy 26 rfl) hR (Pi.mk ?_)
  rotate_left
  -- leaves: return@52; return@52; return@52; return@52; return@52; return@52
  · refine ⟨rfl, ?_⟩; rw [hx] at *; unfold kdC; rw [show (116 : Int32) = nI 116 from rfl, nI_eq (by omega) (by decide)] at h3; rw [show (99 : Int32) = nI 99 from rfl, nI_eq (by omega) (by decide)] at h13; rw [show (115 : Int32) = nI 115 from rfl, nI_eq (by omega) (by decide)] at h23; rw [show (114 : Int32) = nI 114 from rfl, nI_eq (by omega) (by decide)] at h33; rw [show (102 : Int32) = nI 102 from rfl, nI_eq (by omega) (by decide)] at h43; simp [h3, h13, h23, h33, h43]
  · refine ⟨rfl, ?_⟩; rw [hx] at *; rw [show (102 : Int32) = nI 102 from rfl, nI_eq (by omega) (by decide)] at h43; rw [h43]; rfl
  · refine ⟨rfl, ?_⟩; rw [hx] at *; rw [show (114 : Int32) = nI 114 from rfl, nI_eq (by omega) (by decide)] at h33; rw [h33]; rfl
  · refine ⟨rfl, ?_⟩; rw [hx] at *; rw [show (115 : Int32) = nI 115 from rfl, nI_eq (by omega) (by decide)] at h23; rw [h23]; rfl
  · refine ⟨rfl, ?_⟩; rw [hx] at *; rw [show (99 : Int32) = nI 99 from rfl, nI_eq (by omega) (by decide)] at h13; rw [h13]; rfl
  · refine ⟨rfl, ?_⟩; rw [hx] at *; rw [show (116 : Int32) = nI 116 from rfl, nI_eq (by omega) (by decide)] at h3; rw [h3]; rfl
theorem kdC_lt {c : Nat} (h : kdC c ≠ 0) : 97 ≤ c ∧ c ≤ 122 := by
  unfold kdC at h; repeat (first | (split at h) | omega)
theorem kdC_le (c : Nat) : kdC c ≤ 5 := by unfold kdC; repeat (first | split | omega)
theorem m_isSort {μ : Mem} {τ : Nat → Nat} {n : Nat} {s : Pf} (hs : PsS μ τ n s) : CtP yX10_isSort cX10_isSort 1 (some .boolean) 1 [vR 67] μ (Pi (fun r μ' => μ' = μ ∧ is1 r (kdS τ n s ≠ 0))) := by
  refine CtP.go RX10 rfl pn_X10 (Nat.le_of_ble_eq_true rfl) (fun C hG hR => ?_)
  by_cases z : s.2 = 0
  · obtain ⟨_, _, a3, a4, _⟩ := (hs.2.2.2.1 z).2
    by_cases b : tkN τ n s.1 = 2
    · obtain ⟨v1, _⟩ := a4 (Or.inl b)
      have b2 := tk2.mp b
      have e : kdS τ n s = kdC (τ s.1) := by unfold kdS; rw [if_pos ⟨z, b2.1⟩]
      refine V_aload_n (pc := 0) hG (dk dd_X10_isSort 0 rfl) rfl ?_
      refine V_getI (pc := 1) hG (dk dd_X10_isSort 1 rfl) fl_X10_93 sh_67 rfl ?_
      refine V_if_ne (pc := 4) hG (dk dd_X10_isSort 2 rfl) (tgt := 31) (by decide) (fun h4 => ?_) (fun h4 => ?_)
      refine V_iconst (pc := 31) hG (dk dd_X10_isSort 14 rfl) (v := 0) (by decide) ?_
      refine V_zretP (pc := 32) hG (dk dd_X10_isSort 15 rfl) (by decide) hR (Pi.mk ?_)
      rotate_left
      refine V_aload_n (pc := 7) hG (dk dd_X10_isSort 3 rfl) rfl ?_
      refine V_getI (pc := 8) hG (dk dd_X10_isSort 4 rfl) fl_X10_117 sh_67 rfl ?_
      refine V_iconst (pc := 11) hG (dk dd_X10_isSort 5 rfl) (v := 2) (by decide) ?_
      refine V_icmp_ne (pc := 12) hG (dk dd_X10_isSort 6 rfl) (tgt := 31) (by decide) (fun h12 => ?_) (fun h12 => ?_)
      refine V_iconst (pc := 31) hG (dk dd_X10_isSort 14 rfl) (v := 0) (by decide) ?_
      refine V_zretP (pc := 32) hG (dk dd_X10_isSort 15 rfl) (by decide) hR (Pi.mk ?_)
      rotate_left
      refine V_aload_n (pc := 15) hG (dk dd_X10_isSort 7 rfl) rfl ?_
      refine V_getI (pc := 16) hG (dk dd_X10_isSort 8 rfl) fl_X10_106 sh_67 rfl ?_
      refine V_callSip (pc := 19) hG (dk dd_X10_isSort 9 rfl) ml_X10_134 mo_X10_kindBy (m_kindBy v1 (by omega)) (by decide) (by decide) rfl rfl rfl (fun x19 m19 p19 => ?_)
      refine V_ldc (pc := 22) hG (dk dd_X10_isSort 10 rfl) kk_X10_105 ?_
      refine V_icmp_eq (pc := 24) hG (dk dd_X10_isSort 11 rfl) (tgt := 31) (by decide) (fun h24 => ?_) (fun h24 => ?_)
      refine V_iconst (pc := 31) hG (dk dd_X10_isSort 14 rfl) (v := 0) (by decide) ?_
      refine V_zretP (pc := 32) hG (dk dd_X10_isSort 15 rfl) (by decide) hR (Pi.mk ?_)
      rotate_left
      refine V_iconst (pc := 27) hG (dk dd_X10_isSort 12 rfl) (v := 1) (by decide) ?_
      refine V_goto (pc := 28) hG (dk dd_X10_isSort 13 rfl) (tgt := 32) (by decide) ?_
      refine V_zretP (pc := 32) hG (dk dd_X10_isSort 15 rfl) (by decide) hR (Pi.mk ?_)
      rotate_left
      -- leaves: return@32; return@32; return@32; return@32
      · exact absurd (hs.f0.mpr z) h4
      · exact absurd (by rw [a3, b]; rfl) h12
      · refine ⟨p19.1, is1.f (fun q => ?_)⟩
        rw [e] at q
        rw [p19.2, if_neg q] at h24
        have := kdC_le (τ s.1)
        have h0 : (0 : Int32) ≤ nI (kdC (τ s.1)) := nI_pos' (by omega)
        rw [h24] at h0; exact absurd h0 (by decide)
      · refine ⟨p19.1, is1.t (fun q => ?_)⟩
        rw [e] at q
        rw [p19.2, if_pos q] at h24
        exact h24 rfl
    · have e : kdS τ n s = 0 := by
        unfold kdS
        split
        · rename_i h
          by_cases q : kdC (τ s.1) = 0
          · exact q
          · exact absurd (tk2.mpr ⟨h.2, kdC_lt q⟩) b
        · rfl
      refine V_aload_n (pc := 0) hG (dk dd_X10_isSort 0 rfl) rfl ?_
      refine V_getI (pc := 1) hG (dk dd_X10_isSort 1 rfl) fl_X10_93 sh_67 rfl ?_
      refine V_if_ne (pc := 4) hG (dk dd_X10_isSort 2 rfl) (tgt := 31) (by decide) (fun h4 => ?_) (fun h4 => ?_)
      refine V_iconst (pc := 31) hG (dk dd_X10_isSort 14 rfl) (v := 0) (by decide) ?_
      refine V_zretP (pc := 32) hG (dk dd_X10_isSort 15 rfl) (by decide) hR (Pi.mk ?_)
      rotate_left
      refine V_aload_n (pc := 7) hG (dk dd_X10_isSort 3 rfl) rfl ?_
      refine V_getI (pc := 8) hG (dk dd_X10_isSort 4 rfl) fl_X10_117 sh_67 rfl ?_
      refine V_iconst (pc := 11) hG (dk dd_X10_isSort 5 rfl) (v := 2) (by decide) ?_
      refine V_icmp_ne (pc := 12) hG (dk dd_X10_isSort 6 rfl) (tgt := 31) (by decide) (fun h12 => ?_) (fun h12 => ?_)
      refine V_iconst (pc := 31) hG (dk dd_X10_isSort 14 rfl) (v := 0) (by decide) ?_
      refine V_zretP (pc := 32) hG (dk dd_X10_isSort 15 rfl) (by decide) hR (Pi.mk ?_)
      rotate_left
      rotate_left
      -- leaves: return@32; return@32; stop 15
      · exact ⟨rfl, is1.f (fun q => q e)⟩
      · exact ⟨rfl, is1.f (fun q => q e)⟩
      · exfalso; rw [a3] at h12; exact b ((nI_eq (b := 2) (by have := tk_le τ n s.1; omega) (by decide)).mp h12)
  · skip
    refine V_aload_n (pc := 0) hG (dk dd_X10_isSort 0 rfl) rfl ?_
    refine V_getI (pc := 1) hG (dk dd_X10_isSort 1 rfl) fl_X10_93 sh_67 rfl ?_
    refine V_if_ne (pc := 4) hG (dk dd_X10_isSort 2 rfl) (tgt := 31) (by decide) (fun h4 => ?_) (fun h4 => ?_)
    refine V_iconst (pc := 31) hG (dk dd_X10_isSort 14 rfl) (v := 0) (by decide) ?_
    refine V_zretP (pc := 32) hG (dk dd_X10_isSort 15 rfl) (by decide) hR (Pi.mk ?_)
    rotate_left
    rotate_left
    -- leaves: return@32; stop 7
    · refine ⟨rfl, is1.f (fun q => q ?_)⟩
      unfold kdS; rw [if_neg (fun w => z w.1)]
    · exact absurd (hs.f0.mp h4) z
theorem m_begin {μ : Mem} {τ : Nat → Nat} {n : Nat} (hT : TpM μ τ n) : CtP yX10_begin cX10_begin 1 none 2 [vR 67] μ (Pv (fun μ' => PsS μ' τ n (0, 0) ∧ OffT μ μ')) := by
  refine CtP.go RX10 rfl pn_X10 (Nat.le_of_ble_eq_true rfl) (fun C hG hR => ?_)
  have b1 : OffT μ (setc (setc μ 67 (upd (μ 67) 12 0)) 67 (upd (setc μ 67 (upd (μ 67) 12 0) 67) 16 0)) := ⟨fun j hj => by rw [setc_n hj, setc_n hj], fun q hq => by rw [setc_s, upd_n (by omega), setc_s, upd_n (by omega)]⟩
  refine V_aload_n (pc := 0) hG (dk dd_X10_begin 0 rfl) rfl ?_
  refine V_iconst (pc := 1) hG (dk dd_X10_begin 1 rfl) (v := 0) (by decide) ?_
  refine V_putI (pc := 2) hG (dk dd_X10_begin 2 rfl) fl_X10_102 sh_67 rfl rfl ?_
  refine V_aload_n (pc := 5) hG (dk dd_X10_begin 3 rfl) rfl ?_
  refine V_iconst (pc := 6) hG (dk dd_X10_begin 4 rfl) (v := 0) (by decide) ?_
  refine V_putI (pc := 7) hG (dk dd_X10_begin 5 rfl) fl_X10_93 sh_67 rfl rfl ?_
  refine V_aload_n (pc := 10) hG (dk dd_X10_begin 6 rfl) rfl ?_
  refine V_callVvp (pc := 11) hG (dk dd_X10_begin 7 rfl) ml_X10_124 mo_X10_nextToken sh_67 rfl (m_nextToken (τ := τ) (n := n) (p := 0) (hT.off b1) (Nat.zero_le n) (by rw [setc_s, upd_n (by decide), setc_s, upd_s]; rfl)) (by decide) (by decide) rfl rfl rfl (fun m11 p11 => ?_)
  refine V_vretP (pc := 14) hG (dk dd_X10_begin 8 rfl) hR (Pv.mk ?_)
  rotate_left
  -- leaves: return@14
  · obtain ⟨a1, a2, a3⟩ := p11; have ho : OffT _ m11 := ⟨a2, fun q hq => a3 q (by omega)⟩; exact ⟨⟨(hT.off b1).off ho, Nat.zero_le n, Nat.zero_le 3, fun _ => ⟨by rw [a3 16 (by decide), setc_s, upd_s], a1⟩, fun w => absurd rfl w⟩, b1.tr ho⟩
