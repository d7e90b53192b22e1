/-! ===== reading: law, dream ===== -/
abbrev Rd : Type := Pf × Al
def lawS (τ : Nat → Nat) (n : Nat) (q : Rd) : Rd :=
  let a := numS τ n 3 8 (pasS τ n 106 q.1)
  let b := numS τ n 0 8 (pasS τ n 44 a.2)
  let c := numS τ n 1 9 (pasS τ n 44 b.2)
  (pasS τ n 59 c.2, updA (updA (updA q.2 0 0 a.1) 0 1 b.1) 0 2 c.1)
def thiS (τ : Nat → Nat) (n : Nat) (α : Al) (s : Pf) : Nat × Pf := numS τ n 0 (α 0 0 - 1) s
theorem numS_le (τ : Nat → Nat) (n lo hi : Nat) (s : Pf) : (numS τ n lo hi s).1 ≤ hi := by
  unfold numS
  split
  · split
    · exact Nat.zero_le _
    · split
      · rename_i h; exact h.2
      · exact Nat.zero_le _
  · exact Nat.zero_le _
theorem numS_ge {τ : Nat → Nat} {n lo hi : Nat} {s : Pf} (h : (numS τ n lo hi s).2.2 = 0) : lo ≤ (numS τ n lo hi s).1 ∧ s.2 = 0 := by
  unfold numS at h ⊢
  split at h
  · rename_i h0
    rw [if_pos h0]
    split at h
    · cases h
    · rename_i h1
      rw [if_neg h1]
      split at h
      · rename_i h2; rw [if_pos h2]; exact ⟨h2.1, h0⟩
      · cases h
  · rename_i h0; exact absurd h h0
theorem pasS_0 {τ : Nat → Nat} {n c : Nat} {s : Pf} (h : (pasS τ n c s).2 = 0) : s.2 = 0 := by
  unfold pasS markS at h
  split at h
  · rename_i q; exact q.1
  · split at h
    · cases h
    · exact h
theorem markS_0 {k : Nat} {s : Pf} (hk : k ≠ 0) (h : (markS k s).2 = 0) : False := by
  unfold markS at h
  split at h
  · exact hk h
  · rename_i q; exact q h
/-- a draft: its numbers; no way is told yet -/
def DrS (μ : Mem) (α : Al) : Prop := Abs (kac μ 23) α ∧ (∀ c, c < 5 → μ 30 c = 0)
/-- only the draft and the reader have changed -/
def OffD (μ μ' : Mem) : Prop := ∀ a, (a < 23 ∨ 31 < a) → μ' a = μ a
theorem OffD.tr {μ1 μ2 μ3 : Mem} (h : OffD μ1 μ2) (k : OffD μ2 μ3) : OffD μ1 μ3 := fun a ha => (k a ha).trans (h a ha)
theorem Off31.d {μ μ' : Mem} (h : Off31 μ μ') : OffD μ μ' := fun a ha => h a (by omega)
theorem DrS.off {μ μ' : Mem} {α : Al} (h : DrS μ α) (k : Off31 μ μ') : DrS μ' α := ⟨h.1.off (fun x hx => k _ (by omega)), fun c hc => by rw [k 30 (by decide)]; exact h.2 c hc⟩
/-- a scalar of the draft is another -/
theorem DrS.put {μ : Mem} {α : Al} {k v : Nat} {x : Int32} (h : DrS μ α) (hk : k < 6) (hx : x = nI v) : DrS (setc μ 23 (upd (μ 23) k x)) (updA α 0 k v) := by
  refine ⟨⟨fun i hi => ?_, fun y q h1 h2 h3 => ?_, fun y q h1 h2 h3 => ?_⟩, fun c hc => by rw [setc_n (by decide)]; exact h.2 c hc⟩
  · show setc μ 23 (upd (μ 23) k x) 23 i = _
    rw [setc_s]
    by_cases e : i = k
    · subst e; rw [pk_us, updA_s]; exact hx
    · rw [pk_un e, updA_n (by omega)]; exact h.1.1 i hi
  · rw [updA_n (by omega)] at h3 ⊢
    show setc μ 23 (upd (μ 23) k x) (23 + y) q = _
    rw [setc_n (by omega)]; exact h.1.2.1 y q h1 h2 h3
  · rw [updA_n (by omega)] at h3 ⊢
    show setc μ 23 (upd (μ 23) k x) (23 + y) q = _
    rw [setc_n (by omega)]; exact h.1.2.2 y q h1 h2 h3
theorem RdS.set {μ : Mem} {τ : Nat → Nat} {n : Nat} {s : Pf} {a : Nat} {f : Nat → Int32} (h : RdS μ τ n s) (ha : 23 ≤ a ∧ a ≤ 30) : RdS (setc μ a f) τ n s :=
  ⟨h.1.off (setc_n (by omega)) (setc_n (by omega)), by rw [setc_n (by omega)]; exact h.2.1, by rw [setc_n (by omega)]; exact h.2.2.1, h.2.2.2⟩
theorem offD_set {μ : Mem} {a : Nat} {f : Nat → Int32} (ha : 23 ≤ a ∧ a ≤ 31) : OffD μ (setc μ a f) := fun b hb => setc_n (by omega)
theorem c_readLaw {μ : Mem} {τ : Nat → Nat} {n : Nat} {q : Rd} (hs : RdS μ τ n q.1) (hD : DrS μ q.2) : CtP yX4_readLaw cX4_readLaw 1 none 3 [vR 31] μ (Pv (fun μ' => RdS μ' τ n (lawS τ n q).1 ∧ DrS μ' (lawS τ n q).2 ∧ OffD μ μ')) := by
  refine CtP.go RX4 rfl pn_X4 (Nat.le_of_ble_eq_true rfl) (fun C hG hR => ?_)
  refine V_aload_n (pc := 0) hG (dk dd_X4_readLaw 0 rfl) rfl ?_
  refine V_bipush (pc := 1) hG (dk dd_X4_readLaw 1 rfl) (v := 106) (by decide) ?_
  refine V_callVvp (pc := 3) hG (dk dd_X4_readLaw 2 rfl) ml_X4_48 mo_X4_pass sh_31 rfl (c_pass hs (c := 106) rfl (by decide)) (by decide) (by decide) rfl rfl rfl (fun m3 p3 => ?_)
  refine V_aload_n (pc := 6) hG (dk dd_X4_readLaw 3 rfl) rfl ?_
  refine V_getR (pc := 7) hG (dk dd_X4_readLaw 4 rfl) fl_X4_15 sh_31 rfl ?_
  refine V_aload_n (pc := 10) hG (dk dd_X4_readLaw 5 rfl) rfl ?_
  refine V_iconst (pc := 11) hG (dk dd_X4_readLaw 6 rfl) (v := 3) (by decide) ?_
  refine V_bipush (pc := 12) hG (dk dd_X4_readLaw 7 rfl) (v := 8) (by decide) ?_
  refine V_callVip (pc := 14) hG (dk dd_X4_readLaw 8 rfl) ml_X4_52 mo_X4_number sh_31 rfl (c_number p3.1 (lo := 3) (hi := 8) rfl (by decide) (fun _ => rfl) (by decide)) (by decide) (by decide) rfl rfl rfl (fun x14 m14 p14 => ?_)
  refine V_putI (pc := 17) hG (dk dd_X4_readLaw 9 rfl) fl_X4_56 sh_23 rfl rfl ?_
  refine V_aload_n (pc := 20) hG (dk dd_X4_readLaw 10 rfl) rfl ?_
  refine V_bipush (pc := 21) hG (dk dd_X4_readLaw 11 rfl) (v := 44) (by decide) ?_
  refine V_callVvp (pc := 23) hG (dk dd_X4_readLaw 12 rfl) ml_X4_48 mo_X4_pass sh_31 rfl (c_pass (p14.2.1.set (by decide)) (c := 44) rfl (by decide)) (by decide) (by decide) rfl rfl rfl (fun m23 p23 => ?_)
  refine V_aload_n (pc := 26) hG (dk dd_X4_readLaw 13 rfl) rfl ?_
  refine V_getR (pc := 27) hG (dk dd_X4_readLaw 14 rfl) fl_X4_15 sh_31 rfl ?_
  refine V_aload_n (pc := 30) hG (dk dd_X4_readLaw 15 rfl) rfl ?_
  refine V_iconst (pc := 31) hG (dk dd_X4_readLaw 16 rfl) (v := 0) (by decide) ?_
  refine V_bipush (pc := 32) hG (dk dd_X4_readLaw 17 rfl) (v := 8) (by decide) ?_
  refine V_callVip (pc := 34) hG (dk dd_X4_readLaw 18 rfl) ml_X4_52 mo_X4_number sh_31 rfl (c_number p23.1 (lo := 0) (hi := 8) rfl (by decide) (fun _ => rfl) (by decide)) (by decide) (by decide) rfl rfl rfl (fun x34 m34 p34 => ?_)
  refine V_putI (pc := 37) hG (dk dd_X4_readLaw 19 rfl) fl_X4_59 sh_23 rfl rfl ?_
  refine V_aload_n (pc := 40) hG (dk dd_X4_readLaw 20 rfl) rfl ?_
  refine V_bipush (pc := 41) hG (dk dd_X4_readLaw 21 rfl) (v := 44) (by decide) ?_
  refine V_callVvp (pc := 43) hG (dk dd_X4_readLaw 22 rfl) ml_X4_48 mo_X4_pass sh_31 rfl (c_pass (p34.2.1.set (by decide)) (c := 44) rfl (by decide)) (by decide) (by decide) rfl rfl rfl (fun m43 p43 => ?_)
  refine V_aload_n (pc := 46) hG (dk dd_X4_readLaw 23 rfl) rfl ?_
  refine V_getR (pc := 47) hG (dk dd_X4_readLaw 24 rfl) fl_X4_15 sh_31 rfl ?_
  refine V_aload_n (pc := 50) hG (dk dd_X4_readLaw 25 rfl) rfl ?_
  refine V_iconst (pc := 51) hG (dk dd_X4_readLaw 26 rfl) (v := 1) (by decide) ?_
  refine V_bipush (pc := 52) hG (dk dd_X4_readLaw 27 rfl) (v := 9) (by decide) ?_
  refine V_callVip (pc := 54) hG (dk dd_X4_readLaw 28 rfl) ml_X4_52 mo_X4_number sh_31 rfl (c_number p43.1 (lo := 1) (hi := 9) rfl (by decide) (fun _ => rfl) (by decide)) (by decide) (by decide) rfl rfl rfl (fun x54 m54 p54 => ?_)
  refine V_putI (pc := 57) hG (dk dd_X4_readLaw 29 rfl) fl_X4_62 sh_23 rfl rfl ?_
  refine V_aload_n (pc := 60) hG (dk dd_X4_readLaw 30 rfl) rfl ?_
  refine V_bipush (pc := 61) hG (dk dd_X4_readLaw 31 rfl) (v := 59) (by decide) ?_
  refine V_callVvp (pc := 63) hG (dk dd_X4_readLaw 32 rfl) ml_X4_48 mo_X4_pass sh_31 rfl (c_pass (p54.2.1.set (by decide)) (c := 59) rfl (by decide)) (by decide) (by decide) rfl rfl rfl (fun m63 p63 => ?_)
  refine V_vretP (pc := 66) hG (dk dd_X4_readLaw 33 rfl) hR (Pv.mk ?_)
  rotate_left
  -- leaves: return@66
  · exact ⟨p63.1, ((((((((hD.off p3.2).off p14.2.2).put (by decide) p14.1).off p23.2).off p34.2.2).put (by decide) p34.1).off p43.2).off p54.2.2).put (by decide) p54.1 |>.off p63.2, (((p3.2.d.tr p14.2.2.d).tr ((offD_set (by decide)).tr p23.2.d)).tr (p34.2.2.d.tr ((offD_set (by decide)).tr p43.2.d))).tr (p54.2.2.d.tr ((offD_set (by decide)).tr p63.2.d))⟩
theorem c_thing {μ : Mem} {τ : Nat → Nat} {n : Nat} {s : Pf} {α : Al} (hs : RdS μ τ n s) (hD : DrS μ α) (h0 : s.2 = 0 → 1 ≤ α 0 0) (h8 : α 0 0 ≤ 8) : CtP yX4_thing cX4_thing 1 (some .int) 2 [vR 31] μ (Pi (fun r μ' => r = nI (thiS τ n α s).1 ∧ RdS μ' τ n (thiS τ n α s).2 ∧ Off31 μ μ')) := by
  refine CtP.go RX4 rfl pn_X4 (Nat.le_of_ble_eq_true rfl) (fun C hG hR => ?_)
  refine V_aload_n (pc := 0) hG (dk dd_X4_thing 0 rfl) rfl ?_
  refine V_iconst (pc := 1) hG (dk dd_X4_thing 1 rfl) (v := 0) (by decide) ?_
  refine V_aload_n (pc := 2) hG (dk dd_X4_thing 2 rfl) rfl ?_
  refine V_getR (pc := 3) hG (dk dd_X4_thing 3 rfl) fl_X4_15 sh_31 rfl ?_
  refine V_getI (pc := 6) hG (dk dd_X4_thing 4 rfl) fl_X4_56 sh_23 rfl ?_
  refine V_iconst (pc := 9) hG (dk dd_X4_thing 5 rfl) (v := 1) (by decide) ?_
  refine V_isub (pc := 10) hG (dk dd_X4_thing 6 rfl) ?_
  refine V_callVip (pc := 11) hG (dk dd_X4_thing 7 rfl) ml_X4_52 mo_X4_number sh_31 rfl (c_number hs (lo := 0) (hi := α 0 0 - 1) rfl (by decide) (fun hf => by rw [show μ 23 0 = nI (α 0 0) from hD.1.1 0 (by decide), show (1 : Int32) = nI 1 from rfl, pk_sub (h0 hf)]) (by omega)) (by decide) (by decide) rfl rfl rfl (fun x11 m11 p11 => ?_)
  refine V_iretP (pc := 14) hG (dk dd_X4_thing 8 rfl) hR (Pi.mk ?_)
  rotate_left
  -- leaves: return@14
  · exact p11
def drlS (τ : Nat → Nat) (n : Nat) : Nat → Rd → Rd
  | 0, q => q
  | k + 1, q => if nexS τ n 44 q.1 then drlS τ n k ((thiS τ n q.2 (pasS τ n 44 q.1)).2, updA q.2 0 3 (q.2 0 3 ||| 2 ^ (thiS τ n q.2 (pasS τ n 44 q.1)).1)) else q
theorem drlS_s (τ : Nat → Nat) (n k : Nat) (q : Rd) : drlS τ n (k + 1) q = if nexS τ n 44 q.1 then drlS τ n k ((thiS τ n q.2 (pasS τ n 44 q.1)).2, updA q.2 0 3 (q.2 0 3 ||| 2 ^ (thiS τ n q.2 (pasS τ n 44 q.1)).1)) else q := rfl
def drmS (τ : Nat → Nat) (n : Nat) (q : Rd) : Rd :=
  let a := thiS τ n q.2 (pasS τ n 100 q.1)
  let b := drlS τ n 120 (a.2, updA q.2 0 3 (2 ^ a.1))
  (pasS τ n 59 b.1, b.2)
theorem thiS_lt {τ : Nat → Nat} {n : Nat} {α : Al} {s : Pf} (h8 : α 0 0 ≤ 8) : (thiS τ n α s).1 < 8 := by have := numS_le τ n 0 (α 0 0 - 1) s; unfold thiS; omega
theorem c_readDream {μ : Mem} {τ : Nat → Nat} {n : Nat} {q : Rd} (hs : RdS μ τ n q.1) (hD : DrS μ q.2) (h0 : q.1.2 = 0 → 1 ≤ q.2 0 0) (h8 : q.2 0 0 ≤ 8) :
    CtP yX4_readDream cX4_readDream 2 none 3 [vR 31] μ (Pv (fun μ' => RdS μ' τ n (drmS τ n q).1 ∧ DrS μ' (drmS τ n q).2 ∧ OffD μ μ')) := by
  refine CtP.go RX4 rfl pn_X4 (Nat.le_of_ble_eq_true rfl) (fun C hG hR => ?_)
  have loop : ∀ k i μ1 (u : Rd), i + k = 120 → RdS μ1 τ n u.1 → DrS μ1 u.2 → OffD μ μ1 → u.2 0 0 = q.2 0 0 → u.2 0 3 < 256 → drlS τ n k u = drlS τ n 120 ((thiS τ n q.2 (pasS τ n 100 q.1)).2, updA q.2 0 3 (2 ^ (thiS τ n q.2 (pasS τ n 100 q.1)).1)) → (u.1.2 = 0 → q.1.2 = 0) → V C 21 [(0, vR 31), (1, vI (nI i))] [] μ1 := by
    have fin : ∀ μ1 (u : Rd), RdS μ1 τ n u.1 → DrS μ1 u.2 → OffD μ μ1 → u = drlS τ n 120 ((thiS τ n q.2 (pasS τ n 100 q.1)).2, updA q.2 0 3 (2 ^ (thiS τ n q.2 (pasS τ n 100 q.1)).1)) → ∀ i, V C 66 [(0, vR 31), (1, vI (nI i))] [] μ1 := by
      intro μ1 u f1 f2 f3 f4 i
      refine V_aload_n (pc := 66) hG (dk dd_X4_readDream 34 rfl) rfl ?_
      refine V_bipush (pc := 67) hG (dk dd_X4_readDream 35 rfl) (v := 59) (by decide) ?_
      refine V_callVvp (pc := 69) hG (dk dd_X4_readDream 36 rfl) ml_X4_48 mo_X4_pass sh_31 rfl (c_pass f1 (c := 59) rfl (by decide)) (by decide) (by decide) rfl rfl rfl (fun m69 p69 => ?_)
      refine V_vretP (pc := 72) hG (dk dd_X4_readDream 37 rfl) hR (Pv.mk ?_)
      rotate_left
      -- leaves: return@72
      · rw [f4] at p69 f2
        exact ⟨p69.1, f2.off p69.2, f3.tr p69.2.d⟩
    intro k
    induction k with
    | zero =>
      intro i μ1 u hi f1 f2 f3 f4 f5 f6 f7
      refine V_iload_n (pc := 21) hG (dk dd_X4_readDream 12 rfl) rfl ?_
      refine V_bipush (pc := 22) hG (dk dd_X4_readDream 13 rfl) (v := 120) (by decide) ?_
      refine V_icmp_ge (pc := 24) hG (dk dd_X4_readDream 14 rfl) (tgt := 66) (by decide) (fun h24 => ?_) (fun h24 => ?_)
      rotate_left
      rotate_left
      -- leaves: stop 66; stop 27
      · exact fin μ1 u f1 f2 f3 f6 i
      · exfalso; have := nle_i (a := 120) h24 (by omega) (by omega); omega
    | succ k ih =>
      intro i μ1 u hi f1 f2 f3 f4 f5 f6 f7
      rw [drlS_s] at f6
      refine V_iload_n (pc := 21) hG (dk dd_X4_readDream 12 rfl) rfl ?_
      refine V_bipush (pc := 22) hG (dk dd_X4_readDream 13 rfl) (v := 120) (by decide) ?_
      refine V_icmp_ge (pc := 24) hG (dk dd_X4_readDream 14 rfl) (tgt := 66) (by decide) (fun h24 => ?_) (fun h24 => ?_)
      rotate_left
      refine V_aload_n (pc := 27) hG (dk dd_X4_readDream 15 rfl) rfl ?_
      refine V_bipush (pc := 28) hG (dk dd_X4_readDream 16 rfl) (v := 44) (by decide) ?_
      refine V_callVip (pc := 30) hG (dk dd_X4_readDream 17 rfl) ml_X4_72 mo_X4_isNext sh_31 rfl (c_isNext f1 (c := 44) rfl (by decide)) (by decide) (by decide) rfl rfl rfl (fun x30 m30 p30 => ?_)
      refine V_if_eq (pc := 33) hG (dk dd_X4_readDream 18 rfl) (tgt := 66) (by decide) (fun h33 => ?_) (fun h33 => ?_)
      rotate_left
      refine V_aload_n (pc := 36) hG (dk dd_X4_readDream 19 rfl) rfl ?_
      refine V_bipush (pc := 37) hG (dk dd_X4_readDream 20 rfl) (v := 44) (by decide) ?_
      refine V_callVvp (pc := 39) hG (dk dd_X4_readDream 21 rfl) ml_X4_48 mo_X4_pass sh_31 rfl (c_pass (p30.1 ▸ f1) (c := 44) rfl (by decide)) (by decide) (by decide) rfl rfl rfl (fun m39 p39 => ?_)
      refine V_aload_n (pc := 42) hG (dk dd_X4_readDream 22 rfl) rfl ?_
      refine V_getR (pc := 43) hG (dk dd_X4_readDream 23 rfl) fl_X4_15 sh_31 rfl ?_
      refine V_dup (pc := 46) hG (dk dd_X4_readDream 24 rfl) rfl ?_
      refine V_getI (pc := 47) hG (dk dd_X4_readDream 25 rfl) fl_X4_69 sh_23 rfl ?_
      refine V_iconst (pc := 50) hG (dk dd_X4_readDream 26 rfl) (v := 1) (by decide) ?_
      refine V_aload_n (pc := 51) hG (dk dd_X4_readDream 27 rfl) rfl ?_
      refine V_callVip (pc := 52) hG (dk dd_X4_readDream 28 rfl) ml_X4_65 mo_X4_thing sh_31 rfl (c_thing (α := u.2) p39.1 ((p30.1 ▸ f2 : DrS m30 u.2).off p39.2) (fun z => by rw [f4]; exact h0 (f7 (pasS_0 z))) (by rw [f4]; exact h8)) (by decide) (by decide) rfl rfl rfl (fun x52 m52 p52 => ?_)
      refine V_ishl (pc := 55) hG (dk dd_X4_readDream 29 rfl) ?_
      refine V_ior (pc := 56) hG (dk dd_X4_readDream 30 rfl) ?_
      refine V_putI (pc := 57) hG (dk dd_X4_readDream 31 rfl) fl_X4_69 sh_23 rfl rfl ?_
      refine V_iinc (pc := 60) hG (dk dd_X4_readDream 32 rfl) rfl (v := _ + 1) rfl (by decide) (lv' := [(0, _), (1, _)]) rfl ?_
      refine V_goto (pc := 63) hG (dk dd_X4_readDream 33 rfl) (tgt := 21) (by decide) ?_
      rotate_left
      -- leaves: stop 66; stop 66; stop 21
      · exfalso; have := le_i (a := 120) h24 (by omega) (by omega); omega
      · obtain ⟨rfl, p30⟩ := p30
        rw [if_neg (p30.no h33)] at f6
        exact fin m30 u f1 f2 f3 f6 i
      · obtain ⟨rfl, p30⟩ := p30
        rw [if_pos (p30.yes h33)] at f6
        obtain ⟨rfl, q1, q2⟩ := p52
        have ht := thiS_lt (τ := τ) (n := n) (α := u.2) (s := pasS τ n 44 u.1) (by rw [f4]; exact h8)
        have hd3 := (f2.off p39.2)
        have e3 : m39 23 3 = nI (u.2 0 3) := hd3.1.1 3 (by decide)
        rw [e3, bI_eq, q_or _ f5 _ ht]
        have hI := ih (i + 1) (setc m52 23 (upd (m52 23) 3 (nI (u.2 0 3 ||| 2 ^ (thiS τ n u.2 (pasS τ n 44 u.1)).1)))) ((thiS τ n u.2 (pasS τ n 44 u.1)).2, updA u.2 0 3 (u.2 0 3 ||| 2 ^ (thiS τ n u.2 (pasS τ n 44 u.1)).1)) (by omega) (q1.set (by decide)) ((hd3.off q2).put (by decide) rfl) ((f3.tr p39.2.d).tr (q2.d.tr (offD_set (by decide)))) (by dsimp only; rw [updA_n (by omega)]; exact f4) (by dsimp only; rw [updA_s]; exact or_lt (t := 8) f5 ht) f6 (fun z => f7 (pasS_0 (numS_ge z).2))
        rw [nI_succ] at hI
        exact hI
  refine V_aload_n (pc := 0) hG (dk dd_X4_readDream 0 rfl) rfl ?_
  refine V_bipush (pc := 1) hG (dk dd_X4_readDream 1 rfl) (v := 100) (by decide) ?_
  refine V_callVvp (pc := 3) hG (dk dd_X4_readDream 2 rfl) ml_X4_48 mo_X4_pass sh_31 rfl (c_pass hs (c := 100) rfl (by decide)) (by decide) (by decide) rfl rfl rfl (fun m3 p3 => ?_)
  refine V_aload_n (pc := 6) hG (dk dd_X4_readDream 3 rfl) rfl ?_
  refine V_getR (pc := 7) hG (dk dd_X4_readDream 4 rfl) fl_X4_15 sh_31 rfl ?_
  refine V_iconst (pc := 10) hG (dk dd_X4_readDream 5 rfl) (v := 1) (by decide) ?_
  refine V_aload_n (pc := 11) hG (dk dd_X4_readDream 6 rfl) rfl ?_
  refine V_callVip (pc := 12) hG (dk dd_X4_readDream 7 rfl) ml_X4_65 mo_X4_thing sh_31 rfl (c_thing (α := q.2) p3.1 (hD.off p3.2) (fun z => h0 (pasS_0 z)) h8) (by decide) (by decide) rfl rfl rfl (fun x12 m12 p12 => ?_)
  refine V_ishl (pc := 15) hG (dk dd_X4_readDream 8 rfl) ?_
  refine V_putI (pc := 16) hG (dk dd_X4_readDream 9 rfl) fl_X4_69 sh_23 rfl rfl ?_
  refine V_iconst (pc := 19) hG (dk dd_X4_readDream 10 rfl) (v := 0) (by decide) ?_
  refine V_istore_n (pc := 20) hG (dk dd_X4_readDream 11 rfl) (by decide) (lv' := [(0, _), (1, _)]) rfl ?_
  rotate_left
  -- leaves: stop 21
  · obtain ⟨rfl, q1, q2⟩ := p12
    have ht := thiS_lt (τ := τ) (n := n) (α := q.2) (s := pasS τ n 100 q.1) h8
    rw [bI_eq, q_pow _ (by omega)]
    exact loop 120 0 _ ((thiS τ n q.2 (pasS τ n 100 q.1)).2, updA q.2 0 3 (2 ^ (thiS τ n q.2 (pasS τ n 100 q.1)).1)) (by omega) (q1.set (by decide)) (((hD.off p3.2).off q2).put (by decide) rfl) ((p3.2.d.tr q2.d).tr (offD_set (by decide))) (by dsimp only; rw [updA_n (by omega)]) (by dsimp only; rw [updA_s]; exact Nat.pow_lt_pow_right (by decide) ht) rfl (fun z => pasS_0 (numS_ge z).2)
