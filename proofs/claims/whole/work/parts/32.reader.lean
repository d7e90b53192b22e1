/-! ===== the text ===== -/
def kdC (c : Nat) : Nat := if c = 116 then 1 else if c = 99 then 2 else if c = 115 then 3 else if c = 114 then 4 else if c = 102 then 5 else 0
abbrev fig (τ : Nat → Nat) (n p : Nat) : Prop := p < n ∧ 48 ≤ τ p ∧ τ p ≤ 57
def fgN (τ : Nat → Nat) (n p : Nat) : Nat := if ¬ fig τ n p then 0 else if ¬ fig τ n (p + 1) then 1 else if ¬ fig τ n (p + 2) then 2 else 3
/-- a place and a fault (0: none) -/
abbrev Pf : Type := Nat × Nat
abbrev nexS (τ : Nat → Nat) (n c : Nat) (s : Pf) : Prop := s.2 = 0 ∧ s.1 < n ∧ τ s.1 = c
def kdS (τ : Nat → Nat) (n : Nat) (s : Pf) : Nat := if s.2 = 0 ∧ s.1 < n then kdC (τ s.1) else 0
def markS (k : Nat) (s : Pf) : Pf := if s.2 = 0 then (s.1, k) else s
def pasS (τ : Nat → Nat) (n c : Nat) (s : Pf) : Pf := if s.2 = 0 ∧ s.1 < n ∧ τ s.1 = c then (s.1 + 1, 0) else markS 1 s
def valS (τ : Nat → Nat) (n p : Nat) : Nat := if fgN τ n p = 2 then 10 * (τ p - 48) + (τ (p + 1) - 48) else τ p - 48
def numS (τ : Nat → Nat) (n lo hi : Nat) (s : Pf) : Nat × Pf := if s.2 = 0 then (if fgN τ n s.1 = 0 ∨ fgN τ n s.1 = 3 then (0, (s.1, 1)) else if lo ≤ valS τ n s.1 ∧ valS τ n s.1 ≤ hi then (valS τ n s.1, (s.1 + fgN τ n s.1, 0)) else (0, (s.1, 2))) else (0, s)
def Tp (μ : Mem) (τ : Nat → Nat) (n : Nat) : Prop := μ 13 1 = nI n ∧ n ≤ 120 ∧ ∀ k, k < n → μ 14 k = nI (τ k) ∧ τ k < 256
def RdS (μ : Mem) (τ : Nat → Nat) (n : Nat) (s : Pf) : Prop := Tp μ τ n ∧ μ 31 2 = nI s.1 ∧ μ 31 3 = nI s.2 ∧ s.1 ≤ n ∧ s.2 ≤ 3
/-- only the reader's own numbers have changed -/
def Off31 (μ μ' : Mem) : Prop := ∀ a, a ≠ 31 → μ' a = μ a
theorem Tp.off {μ μ' : Mem} {τ : Nat → Nat} {n : Nat} (h : Tp μ τ n) (h1 : μ' 13 = μ 13) (h2 : μ' 14 = μ 14) : Tp μ' τ n := ⟨by rw [h1]; exact h.1, h.2.1, fun k hk => by rw [h2]; exact h.2.2 k hk⟩
theorem RdS.f0 {μ : Mem} {τ : Nat → Nat} {n : Nat} {s : Pf} (h : RdS μ τ n s) : μ 31 3 = 0 ↔ s.2 = 0 := by
  rw [h.2.2.1]; exact nI_eq (b := 0) (by have := h.2.2.2.2; omega) (by decide)
theorem c_isNext {μ : Mem} {τ : Nat → Nat} {n : Nat} {s : Pf} (hs : RdS μ τ n s) {x : Int32} {c : Nat} (hx : x = nI c) (hc : c < 256) : CtP yX4_isNext cX4_isNext 2 (some .boolean) 1 [vR 31, vI x] μ (Pi (fun r μ' => μ' = μ ∧ is1 r (nexS τ n c s))) := by
  refine CtP.go RX4 rfl pn_X4 (Nat.le_of_ble_eq_true rfl) (fun C hG hR => ?_)
  refine V_aload_n (pc := 0) hG (dk dd_X4_isNext 0 rfl) rfl ?_
  refine V_getI (pc := 1) hG (dk dd_X4_isNext 1 rfl) fl_X4_23 sh_31 rfl ?_
  refine V_if_ne (pc := 4) hG (dk dd_X4_isNext 2 rfl) (tgt := 26) (by decide) (fun h4 => ?_) (fun h4 => ?_)
  refine V_iconst (pc := 26) hG (dk dd_X4_isNext 12 rfl) (v := 0) (by decide) ?_
  refine V_zretP (pc := 27) hG (dk dd_X4_isNext 13 rfl) (by decide) hR (Pi.mk ?_)
  rotate_left
  refine V_aload_n (pc := 7) hG (dk dd_X4_isNext 3 rfl) rfl ?_
  refine V_getR (pc := 8) hG (dk dd_X4_isNext 4 rfl) fl_X4_9 sh_31 rfl ?_
  refine V_aload_n (pc := 11) hG (dk dd_X4_isNext 5 rfl) rfl ?_
  refine V_getI (pc := 12) hG (dk dd_X4_isNext 6 rfl) fl_X4_19 sh_31 rfl ?_
  refine V_callVip (pc := 15) hG (dk dd_X4_isNext 7 rfl) ml_X4_113 mo_X6_at sh_13 rfl (c_tat hs.1.1 hs.1.2.1 hs.2.1 (by have := hs.2.2.2.1; have := hs.1.2.1; omega)) (by decide) (by decide) rfl rfl rfl (fun x15 m15 p15 => ?_)
  refine V_iload_n (pc := 18) hG (dk dd_X4_isNext 8 rfl) rfl ?_
  refine V_icmp_ne (pc := 19) hG (dk dd_X4_isNext 9 rfl) (tgt := 26) (by decide) (fun h19 => ?_) (fun h19 => ?_)
  refine V_iconst (pc := 26) hG (dk dd_X4_isNext 12 rfl) (v := 0) (by decide) ?_
  refine V_zretP (pc := 27) hG (dk dd_X4_isNext 13 rfl) (by decide) hR (Pi.mk ?_)
  rotate_left
  refine V_iconst (pc := 22) hG (dk dd_X4_isNext 10 rfl) (v := 1) (by decide) ?_
  refine V_goto (pc := 23) hG (dk dd_X4_isNext 11 rfl) (tgt := 27) (by decide) ?_
  refine V_zretP (pc := 27) hG (dk dd_X4_isNext 13 rfl) (by decide) hR (Pi.mk ?_)
  rotate_left
  -- leaves: return@27; return@27; return@27
  · exact ⟨rfl, is1.f (fun q => h4 (hs.f0.mpr q.1))⟩
  · obtain ⟨rfl, rfl⟩ := p15; exact ⟨rfl, is1.f (fun q => h19 (by rw [if_pos q.2.1, (hs.1.2.2 _ q.2.1).1, q.2.2, hx]))⟩
  · obtain ⟨rfl, rfl⟩ := p15; refine ⟨rfl, is1.t ⟨hs.f0.mp h4, ?_⟩⟩; by_cases q : s.1 < n; (rw [if_pos q, (hs.1.2.2 _ q).1, hx] at h19; exact ⟨q, (nI_eq (by have := (hs.1.2.2 _ q).2; omega) (by omega)).mp h19⟩); (rw [if_neg q, hx] at h19; exact absurd (show nI c < 0 by rw [← h19]; decide) (nI_pos (by omega)))
theorem kd_key {μ : Mem} {τ : Nat → Nat} {n : Nat} {s : Pf} (hs : RdS μ τ n s) {y : Int32} {c k : Nat} (hy : y = (if s.1 < n then μ 14 s.1 else -1)) (hf : s.2 = 0) (e : y = nI c) (hc : c < 256) (hk : kdC c = k) : k = kdS τ n s := by
  unfold kdS
  by_cases q : s.1 < n
  · rw [if_pos q, (hs.1.2.2 _ q).1] at hy
    rw [if_pos ⟨hf, q⟩, ← hk, (nI_eq (by have := (hs.1.2.2 _ q).2; omega) (by omega)).mp (hy.symm.trans e)]
  · rw [if_neg q] at hy
    exact absurd (show nI c < 0 by rw [← e, hy]; decide) (nI_pos (by omega))
theorem c_kindNext {μ : Mem} {τ : Nat → Nat} {n : Nat} {s : Pf} (hs : RdS μ τ n s) : CtP yX4_kindNext cX4_kindNext 1 (some .int) 1 [vR 31] μ (Pi (fun r μ' => μ' = μ ∧ r = nI (kdS τ n s))) := by
  refine CtP.go RX4 rfl pn_X4 (Nat.le_of_ble_eq_true rfl) (fun C hG hR => ?_)
  refine V_aload_n (pc := 0) hG (dk dd_X4_kindNext 0 rfl) rfl ?_
  refine V_getI (pc := 1) hG (dk dd_X4_kindNext 1 rfl) fl_X4_23 sh_31 rfl ?_
  refine V_if_eq (pc := 4) hG (dk dd_X4_kindNext 2 rfl) (tgt := 9) (by decide) (fun h4 => ?_) (fun h4 => ?_)
  refine V_aload_n (pc := 9) hG (dk dd_X4_kindNext 5 rfl) rfl ?_
  refine V_getR (pc := 10) hG (dk dd_X4_kindNext 6 rfl) fl_X4_9 sh_31 rfl ?_
  refine V_aload_n (pc := 13) hG (dk dd_X4_kindNext 7 rfl) rfl ?_
  refine V_getI (pc := 14) hG (dk dd_X4_kindNext 8 rfl) fl_X4_19 sh_31 rfl ?_
  refine V_callVip (pc := 17) hG (dk dd_X4_kindNext 9 rfl) ml_X4_113 mo_X6_at sh_13 rfl (c_tat hs.1.1 hs.1.2.1 hs.2.1 (by have := hs.2.2.2.1; have := hs.1.2.1; omega)) (by decide) (by decide) rfl rfl rfl (fun x17 m17 p17 => ?_)
  refine V_lsw (pc := 20) hG (dk dd_X4_kindNext 10 rfl) (cs := [(99, 74), (102, 80), (114, 78), (115, 76), (116, 72)]) (td := 82) (by decide +kernel) ?_
  refine And.intro (fun h20_99 => ?_) (fun h20_99 => ?_)
  refine V_iconst (pc := 74) hG (dk dd_X4_kindNext 13 rfl) (v := 2) (by decide) ?_
  refine V_iretP (pc := 75) hG (dk dd_X4_kindNext 14 rfl) hR (Pi.mk ?_)
  rotate_left
  refine And.intro (fun h20_102 => ?_) (fun h20_102 => ?_)
  refine V_iconst (pc := 80) hG (dk dd_X4_kindNext 19 rfl) (v := 5) (by decide) ?_
  refine V_iretP (pc := 81) hG (dk dd_X4_kindNext 20 rfl) hR (Pi.mk ?_)
  rotate_left
  refine And.intro (fun h20_114 => ?_) (fun h20_114 => ?_)
  refine V_iconst (pc := 78) hG (dk dd_X4_kindNext 17 rfl) (v := 4) (by decide) ?_
  refine V_iretP (pc := 79) hG (dk dd_X4_kindNext 18 rfl) hR (Pi.mk ?_)
  rotate_left
  refine And.intro (fun h20_115 => ?_) (fun h20_115 => ?_)
  refine V_iconst (pc := 76) hG (dk dd_X4_kindNext 15 rfl) (v := 3) (by decide) ?_
  refine V_iretP (pc := 77) hG (dk dd_X4_kindNext 16 rfl) hR (Pi.mk ?_)
  rotate_left
  refine And.intro (fun h20_116 => ?_) (fun h20_116 => ?_)
  refine V_iconst (pc := 72) hG (dk dd_X4_kindNext 11 rfl) (v := 1) (by decide) ?_
  refine V_iretP (pc := 73) hG (dk dd_X4_kindNext 12 rfl) hR (Pi.mk ?_)
  rotate_left
  show V _ _ _ _ _
  refine V_iconst (pc := 82) hG (dk dd_X4_kindNext 21 rfl) (v := 0) (by decide) ?_
  refine V_iretP (pc := 83) hG (dk dd_X4_kindNext 22 rfl) hR (Pi.mk ?_)
  rotate_left
  refine V_iconst (pc := 7) hG (dk dd_X4_kindNext 3 rfl) (v := 0) (by decide) ?_
  refine V_iretP (pc := 8) hG (dk dd_X4_kindNext 4 rfl) hR (Pi.mk ?_)
  rotate_left
  -- leaves: return@75; return@81; return@79; return@77; return@73; return@83; return@8
  · exact ⟨p17.1, congrArg nI (kd_key hs p17.2 (hs.f0.mp h4) h20_99 (c := 99) (by decide) rfl)⟩
  · exact ⟨p17.1, congrArg nI (kd_key hs p17.2 (hs.f0.mp h4) h20_102 (c := 102) (by decide) rfl)⟩
  · exact ⟨p17.1, congrArg nI (kd_key hs p17.2 (hs.f0.mp h4) h20_114 (c := 114) (by decide) rfl)⟩
  · exact ⟨p17.1, congrArg nI (kd_key hs p17.2 (hs.f0.mp h4) h20_115 (c := 115) (by decide) rfl)⟩
  · exact ⟨p17.1, congrArg nI (kd_key hs p17.2 (hs.f0.mp h4) h20_116 (c := 116) (by decide) rfl)⟩
  · obtain ⟨rfl, rfl⟩ := p17; refine ⟨rfl, ?_⟩; unfold kdS; by_cases q : s.1 < n; (rw [if_pos q, (hs.1.2.2 _ q).1] at h20_99 h20_102 h20_114 h20_115 h20_116; rw [if_pos ⟨hs.f0.mp h4, q⟩]; unfold kdC; rw [if_neg (fun z => h20_116 (by rw [z]; rfl)), if_neg (fun z => h20_99 (by rw [z]; rfl)), if_neg (fun z => h20_115 (by rw [z]; rfl)), if_neg (fun z => h20_114 (by rw [z]; rfl)), if_neg (fun z => h20_102 (by rw [z]; rfl))]; rfl); (rw [if_neg (fun z => q z.2)]; rfl)
  · refine ⟨rfl, ?_⟩; unfold kdS; rw [if_neg (fun z => h4 (hs.f0.mpr z.1))]; rfl
theorem c_mark {μ : Mem} {τ : Nat → Nat} {n : Nat} {s : Pf} (hs : RdS μ τ n s) {x : Int32} {k : Nat} (hx : x = nI k) (hk : k ≤ 3) : CtP yX4_mark cX4_mark 2 none 0 [vR 31, vI x] μ (Pv (fun μ' => RdS μ' τ n (markS k s) ∧ Off31 μ μ')) := by
  refine CtP.go RX4 rfl pn_X4 (Nat.le_of_ble_eq_true rfl) (fun C hG hR => ?_)
  refine V_aload_n (pc := 0) hG (dk dd_X4_mark 0 rfl) rfl ?_
  refine V_getI (pc := 1) hG (dk dd_X4_mark 1 rfl) fl_X4_23 sh_31 rfl ?_
  refine V_if_ne (pc := 4) hG (dk dd_X4_mark 2 rfl) (tgt := 12) (by decide) (fun h4 => ?_) (fun h4 => ?_)
  refine V_vretP (pc := 12) hG (dk dd_X4_mark 6 rfl) hR (Pv.mk ?_)
  rotate_left
  refine V_aload_n (pc := 7) hG (dk dd_X4_mark 3 rfl) rfl ?_
  refine V_iload_n (pc := 8) hG (dk dd_X4_mark 4 rfl) rfl ?_
  refine V_putI (pc := 9) hG (dk dd_X4_mark 5 rfl) fl_X4_23 sh_31 rfl rfl ?_
  refine V_vretP (pc := 12) hG (dk dd_X4_mark 6 rfl) hR (Pv.mk ?_)
  rotate_left
  -- leaves: return@12; return@12
  · unfold markS; rw [if_neg (fun z => h4 (hs.f0.mpr z))]; exact ⟨hs, fun _ _ => rfl⟩
  · unfold markS; rw [if_pos (hs.f0.mp h4)]; exact ⟨⟨hs.1.off (setc_n (by decide)) (setc_n (by decide)), by rw [setc_s, pk_un (by decide)]; exact hs.2.1, by rw [setc_s, pk_us]; exact hx, hs.2.2.2.1, hk⟩, fun a ha => setc_n ha⟩
theorem c_pass {μ : Mem} {τ : Nat → Nat} {n : Nat} {s : Pf} (hs : RdS μ τ n s) {x : Int32} {c : Nat} (hx : x = nI c) (hc : c < 256) : CtP yX4_pass cX4_pass 2 none 2 [vR 31, vI x] μ (Pv (fun μ' => RdS μ' τ n (pasS τ n c s) ∧ Off31 μ μ')) := by
  refine CtP.go RX4 rfl pn_X4 (Nat.le_of_ble_eq_true rfl) (fun C hG hR => ?_)
  refine V_aload_n (pc := 0) hG (dk dd_X4_pass 0 rfl) rfl ?_
  refine V_iload_n (pc := 1) hG (dk dd_X4_pass 1 rfl) rfl ?_
  refine V_callVip (pc := 2) hG (dk dd_X4_pass 2 rfl) ml_X4_72 mo_X4_isNext sh_31 rfl (c_isNext hs hx hc) (by decide) (by decide) rfl rfl rfl (fun x2 m2 p2 => ?_)
  refine V_if_eq (pc := 5) hG (dk dd_X4_pass 3 rfl) (tgt := 21) (by decide) (fun h5 => ?_) (fun h5 => ?_)
  refine V_aload_n (pc := 21) hG (dk dd_X4_pass 11 rfl) rfl ?_
  refine V_iconst (pc := 22) hG (dk dd_X4_pass 12 rfl) (v := 1) (by decide) ?_
  refine V_callVvp (pc := 23) hG (dk dd_X4_pass 13 rfl) ml_X4_79 mo_X4_mark sh_31 rfl (c_mark (p2.1 ▸ hs) (k := 1) rfl (by decide)) (by decide) (by decide) rfl rfl rfl (fun m23 p23 => ?_)
  refine V_vretP (pc := 26) hG (dk dd_X4_pass 14 rfl) hR (Pv.mk ?_)
  rotate_left
  refine V_aload_n (pc := 8) hG (dk dd_X4_pass 4 rfl) rfl ?_
  refine V_dup (pc := 9) hG (dk dd_X4_pass 5 rfl) rfl ?_
  refine V_getI (pc := 10) hG (dk dd_X4_pass 6 rfl) fl_X4_19 sh_31 rfl ?_
  refine V_iconst (pc := 13) hG (dk dd_X4_pass 7 rfl) (v := 1) (by decide) ?_
  refine V_iadd (pc := 14) hG (dk dd_X4_pass 8 rfl) ?_
  refine V_putI (pc := 15) hG (dk dd_X4_pass 9 rfl) fl_X4_19 sh_31 rfl rfl ?_
  refine V_goto (pc := 18) hG (dk dd_X4_pass 10 rfl) (tgt := 26) (by decide) ?_
  refine V_vretP (pc := 26) hG (dk dd_X4_pass 14 rfl) hR (Pv.mk ?_)
  rotate_left
  -- leaves: return@26; return@26
  · obtain ⟨rfl, p2⟩ := p2; unfold pasS; rw [if_neg (p2.no h5)]; exact p23
  · obtain ⟨rfl, p2⟩ := p2; unfold pasS; have q := p2.yes h5; rw [if_pos q]; exact ⟨⟨hs.1.off (setc_n (by decide)) (setc_n (by decide)), by rw [setc_s, pk_us, hs.2.1, nI_1], by rw [setc_s, pk_un (by decide)]; exact hs.f0.mpr q.1, q.2.1, Nat.zero_le 3⟩, fun a ha => setc_n ha⟩
