theorem c_takeDreams {μ : Mem} {x i k : Int32} {n l m : Nat} (hx : x = nI n) (hn : n < 8) (hl : μ 12 n = nI l) (hl40 : l ≤ 40) (hk : k = nI m) (hm : m ≤ 12) (hT : μ 62 3 = nI m) : CtP yX7_takeDreams cX7_takeDreams 6 (some .int) 2 [vR 62, vR 1, vI x, vI i, vI k] μ (Pi (fun r μ' => r = lookN μ n i k ∧ (∀ a, a ≠ 64 → μ' a = μ a) ∧ (r = 0 → ∃ a, i = nI a ∧ a + m ≤ 40 ∧ ∀ q, q < m → μ' 64 q = μ (3 + n) (a + q)))) := by
  refine CtP.go RX7 rfl pn_X7 (Nat.le_of_ble_eq_true rfl) (fun C hG hR => ?_)
  have hr : vp_in x 8 := in_nI hx hn (by decide)
  have hc : x.toNatClampNeg = n := nI_cl hx (by omega)
  refine V_aload_n (pc := 0) hG (dk dd_X7_takeDreams 0 rfl) rfl ?_
  refine V_iload_n (pc := 1) hG (dk dd_X7_takeDreams 1 rfl) rfl ?_
  refine V_iload_n (pc := 2) hG (dk dd_X7_takeDreams 2 rfl) rfl ?_
  refine V_iload (pc := 3) hG (dk dd_X7_takeDreams 3 rfl) rfl ?_
  refine V_callVip (pc := 5) hG (dk dd_X7_takeDreams 4 rfl) ml_X7_22 mo_X5_lookedAt sh_1 rfl (c_lookedAt hx hn) (by decide) (by decide) rfl rfl rfl (fun x5 m5 p5 => ?_)
  refine V_istore (pc := 8) hG (dk dd_X7_takeDreams 5 rfl) (by decide) (lv' := [(0, _), (1, _), (2, _), (3, _), (4, _), (5, _)]) rfl ?_
  refine V_iload (pc := 10) hG (dk dd_X7_takeDreams 6 rfl) rfl ?_
  refine V_if_ne (pc := 12) hG (dk dd_X7_takeDreams 7 rfl) (tgt := 34) (by decide) (fun h12 => ?_) (fun h12 => ?_)
  refine V_iload (pc := 34) hG (dk dd_X7_takeDreams 19 rfl) rfl ?_
  refine V_iretP (pc := 36) hG (dk dd_X7_takeDreams 20 rfl) hR (Pi.mk ?_)
  rotate_left
  refine V_aload_n (pc := 15) hG (dk dd_X7_takeDreams 8 rfl) rfl ?_
  refine V_getR (pc := 16) hG (dk dd_X7_takeDreams 9 rfl) fl_X7_38 sh_1 rfl ?_
  refine V_iload_n (pc := 19) hG (dk dd_X7_takeDreams 10 rfl) rfl ?_
  refine V_ald3 (pc := 20) hG (dk dd_X7_takeDreams 11 rfl) sh_2 hr (rs8 hc hn) ?_
  refine V_iload_n (pc := 21) hG (dk dd_X7_takeDreams 12 rfl) rfl ?_
  refine V_aload_n (pc := 22) hG (dk dd_X7_takeDreams 13 rfl) rfl ?_
  refine V_getR (pc := 23) hG (dk dd_X7_takeDreams 14 rfl) fl_X7_15 sh_62 rfl ?_
  refine V_iconst (pc := 26) hG (dk dd_X7_takeDreams 15 rfl) (v := 0) (by decide) ?_
  refine V_aload_n (pc := 27) hG (dk dd_X7_takeDreams 16 rfl) rfl ?_
  refine V_getI (pc := 28) hG (dk dd_X7_takeDreams 17 rfl) fl_X7_34 sh_62 rfl ?_
  -- arraycopy
  refine V_acopy (pc := 31) hG (dk dd_X7_takeDreams 18 rfl) ml_X7_48 (itS hn) sh_64 ?_ (by decide) ?_ ?_ ?_ rfl ?_
  rotate_left
  rotate_left
  rotate_left
  rotate_left
  refine V_iload (pc := 34) hG (dk dd_X7_takeDreams 19 rfl) rfl ?_
  refine V_iretP (pc := 36) hG (dk dd_X7_takeDreams 20 rfl) hR (Pi.mk ?_)
  rotate_left
  -- leaves: return@36; arraycopy@31 side 0; arraycopy@31 side 1; arraycopy@31 side 2; arraycopy@31 side 3; return@36
  · obtain ⟨rfl, rfl⟩ := p5; exact ⟨rfl, fun _ _ => rfl, fun q => absurd q h12⟩
  · obtain ⟨rfl, rfl⟩ := p5; obtain ⟨a, ha, ham⟩ := lookN_0 hl hl40 hk (by omega) h12; rw [ha]; exact nI_pos (by omega)
  · obtain ⟨rfl, rfl⟩ := p5; rw [hT]; exact nI_pos (by omega)
  · obtain ⟨rfl, rfl⟩ := p5; obtain ⟨a, ha, ham⟩ := lookN_0 hl hl40 hk (by omega) h12; rw [ha, hT, nI_clamp (by omega), nI_clamp (by omega)]; omega
  · obtain ⟨rfl, rfl⟩ := p5; rw [hT, nI_clamp (by omega)]; show 0 + m ≤ 12; omega
  · obtain ⟨rfl, rfl⟩ := p5; obtain ⟨a, ha, ham⟩ := lookN_0 hl hl40 hk (by omega) h12; exact ⟨rfl, fun c hc => setc_n hc, fun _ => ⟨a, ha, by omega, fun q hq => by rw [setc_s, hT, nI_clamp (show m < 2 ^ 31 by omega), ha, nI_clamp (show a < 2 ^ 31 by omega), pk_cpy_in (show (0 : Int32).toNatClampNeg ≤ q from Nat.zero_le q) (by show q < 0 + m; omega)]; rfl⟩⟩
/-! ===== Asking ===== -/
def Tr (μ : Mem) (l : List Nat) : Prop := μ 65 2 = nI l.length ∧ ∀ k, k < l.length → μ 66 k = nI (l.getD k 0)
theorem c_leave {μ : Mem} {x : Int32} {l : List Nat} {b : Nat} (hT : Tr μ l) (hl : l.length < 16) (hx : x = nI b) : CtP yX1_leave cX1_leave 2 none 0 [vR 65, vI x] μ (Pv (fun μ' => Tr μ' (l ++ [b]) ∧ ∀ a, a ≠ 65 → a ≠ 66 → μ' a = μ a)) := by
  refine CtP.go RX1 rfl pn_X1 (Nat.le_of_ble_eq_true rfl) (fun C hG hR => ?_)
  refine V_aload_n (pc := 0) hG (dk dd_X1_leave 0 rfl) rfl ?_
  refine V_getI (pc := 1) hG (dk dd_X1_leave 1 rfl) fl_X1_17 sh_65 rfl ?_
  refine V_bipush (pc := 4) hG (dk dd_X1_leave 2 rfl) (v := 16) (by decide) ?_
  refine V_icmp_ge (pc := 6) hG (dk dd_X1_leave 3 rfl) (tgt := 29) (by decide) (fun h6 => ?_) (fun h6 => ?_)
  refine V_vretP (pc := 29) hG (dk dd_X1_leave 16 rfl) hR (Pv.mk ?_)
  rotate_left
  refine V_aload_n (pc := 9) hG (dk dd_X1_leave 4 rfl) rfl ?_
  refine V_getR (pc := 10) hG (dk dd_X1_leave 5 rfl) fl_X1_9 sh_65 rfl ?_
  refine V_aload_n (pc := 13) hG (dk dd_X1_leave 6 rfl) rfl ?_
  refine V_getI (pc := 14) hG (dk dd_X1_leave 7 rfl) fl_X1_17 sh_65 rfl ?_
  refine V_iload_n (pc := 17) hG (dk dd_X1_leave 8 rfl) rfl ?_
  refine V_iast (pc := 18) hG (dk dd_X1_leave 9 rfl) sh_66 (by rw [hT.1]; exact vp_in_nI hl (by decide)) ?_
  refine V_aload_n (pc := 19) hG (dk dd_X1_leave 10 rfl) rfl ?_
  refine V_dup (pc := 20) hG (dk dd_X1_leave 11 rfl) rfl ?_
  refine V_getI (pc := 21) hG (dk dd_X1_leave 12 rfl) fl_X1_17 sh_65 rfl ?_
  refine V_iconst (pc := 24) hG (dk dd_X1_leave 13 rfl) (v := 1) (by decide) ?_
  refine V_iadd (pc := 25) hG (dk dd_X1_leave 14 rfl) ?_
  refine V_putI (pc := 26) hG (dk dd_X1_leave 15 rfl) fl_X1_17 sh_65 rfl rfl ?_
  refine V_vretP (pc := 29) hG (dk dd_X1_leave 16 rfl) hR (Pv.mk ?_)
  rotate_left
  -- leaves: return@29; return@29
  · exfalso; rw [hT.1] at h6; have := le_i (a := 16) h6 (by omega) (by omega); omega
  · refine ⟨⟨?_, fun k hk => ?_⟩, fun a h1 h2 => by simp (disch := omega) only [setc_n]⟩ <;> simp (disch := omega) only [setc_s, setc_n, hT.1, nI_clamp (show l.length < 2 ^ 31 by omega), nI_1, pk_us, List.length_append, List.length_singleton] <;> (rw [List.length_append, List.length_singleton] at hk; rw [hx]; by_cases e : k = l.length; (subst e; rw [pk_us]; simp); (rw [pk_un e, hT.2 k (by omega), List.getD_eq_getElem?_getD, List.getD_eq_getElem?_getD, List.getElem?_append_left (by omega)]))
theorem kd_in {α : Al} {μ : Mem} (hA : Abs (kac μ 15) α) (hv : Val α) {h : Nat} (hh : h < α 0 6) {x : Int32} (hx : x = nI h) : vp_in x 6 ∧ μ 16 x.toNatClampNeg = nI (α 1 h) ∧ vp_in (μ 16 x.toNatClampNeg) 6 ∧ (μ 16 x.toNatClampNeg).toNatClampNeg = α 1 h := by
  have hH := hv.H
  have hk := (hv.h hh).2.1
  have e : μ 16 x.toNatClampNeg = nI (α 1 h) := by rw [nI_cl hx (by omega)]; exact hA.2.1 1 h (by decide) (by decide) hh
  exact ⟨in_nI hx (by omega) (by decide), e, in_nI e (by omega) (by decide), nI_cl e (by omega)⟩
theorem c_sizeBody {μ : Mem} {α : Al} (hA : Abs (kac μ 15) α) (hv : Val α) {h : Nat} (hh : h < α 0 6) {x : Int32} (hx : x = nI h) : CtP yX1_sizeBody cX1_sizeBody 2 (some .int) 0 [vR 65, vI x] μ (Pi (fun r μ' => μ' = μ ∧ r = szB (α 1 h))) := by
  refine CtP.go RX1 rfl pn_X1 (Nat.le_of_ble_eq_true rfl) (fun C hG hR => ?_)
  refine V_getSz (pc := 0) hG (dk dd_X1_sizeBody 0 rfl) fs_X1_32 ?_
  refine V_aload_n (pc := 3) hG (dk dd_X1_sizeBody 1 rfl) rfl ?_
  refine V_getR (pc := 4) hG (dk dd_X1_sizeBody 2 rfl) fl_X1_13 sh_65 rfl ?_
  refine V_getR (pc := 7) hG (dk dd_X1_sizeBody 3 rfl) fl_X1_35 sh_15 rfl ?_
  refine V_iload_n (pc := 10) hG (dk dd_X1_sizeBody 4 rfl) rfl ?_
  refine V_iald (pc := 11) hG (dk dd_X1_sizeBody 5 rfl) sh_16 (kd_in hA hv hh hx).1 ?_
  refine V_ldSz (pc := 12) hG (dk dd_X1_sizeBody 6 rfl) (kd_in hA hv hh hx).2.2.1 ?_
  refine V_iretP (pc := 13) hG (dk dd_X1_sizeBody 7 rfl) hR (Pi.mk ?_)
  rotate_left
  -- leaves: return@13
  · exact ⟨rfl, by rw [(kd_in hA hv hh hx).2.2.2]⟩
theorem c_markBody {μ : Mem} {α : Al} (hA : Abs (kac μ 15) α) (hv : Val α) {h : Nat} (hh : h < α 0 6) {x : Int32} (hx : x = nI h) : CtP yX1_markBody cX1_markBody 2 (some .int) 0 [vR 65, vI x] μ (Pi (fun r μ' => μ' = μ ∧ r = mkB (α 1 h))) := by
  refine CtP.go RX1 rfl pn_X1 (Nat.le_of_ble_eq_true rfl) (fun C hG hR => ?_)
  refine V_getMk (pc := 0) hG (dk dd_X1_markBody 0 rfl) fs_X1_40 ?_
  refine V_aload_n (pc := 3) hG (dk dd_X1_markBody 1 rfl) rfl ?_
  refine V_getR (pc := 4) hG (dk dd_X1_markBody 2 rfl) fl_X1_13 sh_65 rfl ?_
  refine V_getR (pc := 7) hG (dk dd_X1_markBody 3 rfl) fl_X1_35 sh_15 rfl ?_
  refine V_iload_n (pc := 10) hG (dk dd_X1_markBody 4 rfl) rfl ?_
  refine V_iald (pc := 11) hG (dk dd_X1_markBody 5 rfl) sh_16 (kd_in hA hv hh hx).1 ?_
  refine V_ldMk (pc := 12) hG (dk dd_X1_markBody 6 rfl) (kd_in hA hv hh hx).2.2.1 ?_
  refine V_iretP (pc := 13) hG (dk dd_X1_markBody 7 rfl) hR (Pi.mk ?_)
  rotate_left
  -- leaves: return@13
  · exact ⟨rfl, by rw [(kd_in hA hv hh hx).2.2.2]⟩
/-- a body, begun: what it gives, what it leaves in the trace -/
def Bg (α : Al) (h body : Nat) (v : Int32) (tr : List Nat) (d ht : Nat) : Prop := ∀ (μ : Mem) (l : List Nat) (x y z : Int32) (n : Nat), Abs (kac μ 15) α → Tr μ l → l.length + tr.length ≤ 16 → x = nI body → y = nI h → z = nI n → n + ht ≤ 15 → CtP yX1_begin cX1_begin 5 (some .int) d [vR 65, vI x, vI y, vI z] μ (Pi (fun r μ' => r = v ∧ Tr μ' (l ++ tr) ∧ ∀ a, a ≠ 65 → a ≠ 66 → μ' a = μ a))
theorem Abs.off {μ μ' : Mem} {b : Nat} {α : Al} (h : Abs (kac μ b) α) (hq : ∀ x, x ≤ 7 → μ' (b + x) = μ (b + x)) : Abs (kac μ' b) α :=
  ⟨fun i hi => by unfold kac; rw [hq 0 (by omega)]; exact h.1 i hi, fun x q a b c => by unfold kac; rw [hq x (by omega)]; exact h.2.1 x q a b c, fun x q a b c => by unfold kac; rw [hq x (by omega)]; exact h.2.2 x q a b c⟩
def v21 (α : Al) (h : Nat) : Int32 := nI h + nI (bitsN (α 0 3))
def mkV (α : Al) (h : Nat) : Int32 := if α 1 h = 1 then v21 α h else if α 1 h = 3 then v21 α h - 1000 else 2 * v21 α h
def szR (α : Al) (h : Nat) : Int32 := if α 1 h = 5 then 2 * (nI (α 2 h) - 100) else nI (α 2 h) - 100
def mkT (α : Al) (h : Nat) : List Nat := if α 1 h = 1 then [21, 20] else if α 1 h = 3 then [22, 21, 20] else [24, 21, 20]
def szT (α : Al) (h : Nat) : List Nat := if α 1 h = 5 then [14, 13, 10] else [13, 10]
theorem bg_10 {α : Al} (hv : Val α) {h : Nat} (hh : h < α 0 6) : Bg α h 10 (nI (α 2 h)) [10] 1 0 := by
  intro μ l x y z n hA hT hl hx hy hz hn
  refine CtP.go RX1 rfl pn_X1 (Nat.le_of_ble_eq_true rfl) (fun C hG hR => ?_)
  subst hx; subst hz
  have hln : l.length + 1 ≤ 16 := by simp at hl; omega
  refine V_iload_n (pc := 0) hG (dk dd_X1_begin 0 rfl) rfl ?_
  refine V_bipush (pc := 1) hG (dk dd_X1_begin 1 rfl) (v := 16) (by decide) ?_
  refine V_icmp_lt (pc := 3) hG (dk dd_X1_begin 2 rfl) (tgt := 8) (by decide) (fun h3 => ?_) (fun h3 => ?_)
  refine V_aload_n (pc := 8) hG (dk dd_X1_begin 5 rfl) rfl ?_
  refine V_iload_n (pc := 9) hG (dk dd_X1_begin 6 rfl) rfl ?_
  refine V_callVvp (pc := 10) hG (dk dd_X1_begin 7 rfl) ml_X1_43 mo_X1_leave sh_65 rfl (c_leave hT (by omega) rfl) (by decide) (by decide) rfl rfl rfl (fun m10 p10 => ?_)
  refine V_iload_n (pc := 13) hG (dk dd_X1_begin 8 rfl) rfl ?_
  refine V_iconst (pc := 14) hG (dk dd_X1_begin 9 rfl) (v := 1) (by decide) ?_
  refine V_iadd (pc := 15) hG (dk dd_X1_begin 10 rfl) ?_
  refine V_istore (pc := 16) hG (dk dd_X1_begin 11 rfl) (by decide) (lv' := [(0, _), (1, _), (2, _), (3, _), (4, _)]) rfl ?_
  refine V_iload_n (pc := 18) hG (dk dd_X1_begin 12 rfl) rfl ?_
  refine V_tableIn (pc := 19) hG (dk dd_X1_begin 13 rfl) (off := 73) (tgt := 92) (by decide +kernel) (by decide +kernel) (by decide +kernel) (by decide) ?_
  refine V_aload_n (pc := 92) hG (dk dd_X1_begin 14 rfl) rfl ?_
  refine V_getR (pc := 93) hG (dk dd_X1_begin 15 rfl) fl_X1_13 sh_65 rfl ?_
  refine V_getR (pc := 96) hG (dk dd_X1_begin 16 rfl) fl_X1_47 sh_15 rfl ?_
  refine V_iload_n (pc := 99) hG (dk dd_X1_begin 17 rfl) rfl ?_
  refine V_iald (pc := 100) hG (dk dd_X1_begin 18 rfl) sh_17 (kd_in hA hv hh hy).1 ?_
  refine V_iretP (pc := 101) hG (dk dd_X1_begin 19 rfl) hR (Pi.mk ?_)
  rotate_left
  rotate_left
  -- leaves: return@101; stop 6
  · refine ⟨?_, p10.1, p10.2⟩
    rw [p10.2 17 (by decide) (by decide), nI_cl hy (by have := hv.H; omega)]; exact hA.2.1 2 h (by decide) (by decide) hh
  · exfalso; have := Nat.not_lt.mp (fun q => h3 ((nI_ltI (b := 16) (by omega) (by decide)).mpr q)); omega

theorem bg_20 {α : Al} (hv : Val α) {h : Nat} (hh : h < α 0 6) : Bg α h 20 (nI h) [20] 1 0 := by
  intro μ l x y z n hA hT hl hx hy hz hn
  refine CtP.go RX1 rfl pn_X1 (Nat.le_of_ble_eq_true rfl) (fun C hG hR => ?_)
  subst hx; subst hz
  have hln : l.length + 1 ≤ 16 := by simp at hl; omega
  refine V_iload_n (pc := 0) hG (dk dd_X1_begin 0 rfl) rfl ?_
  refine V_bipush (pc := 1) hG (dk dd_X1_begin 1 rfl) (v := 16) (by decide) ?_
  refine V_icmp_lt (pc := 3) hG (dk dd_X1_begin 2 rfl) (tgt := 8) (by decide) (fun h3 => ?_) (fun h3 => ?_)
  refine V_aload_n (pc := 8) hG (dk dd_X1_begin 5 rfl) rfl ?_
  refine V_iload_n (pc := 9) hG (dk dd_X1_begin 6 rfl) rfl ?_
  refine V_callVvp (pc := 10) hG (dk dd_X1_begin 7 rfl) ml_X1_43 mo_X1_leave sh_65 rfl (c_leave hT (by omega) rfl) (by decide) (by decide) rfl rfl rfl (fun m10 p10 => ?_)
  refine V_iload_n (pc := 13) hG (dk dd_X1_begin 8 rfl) rfl ?_
  refine V_iconst (pc := 14) hG (dk dd_X1_begin 9 rfl) (v := 1) (by decide) ?_
  refine V_iadd (pc := 15) hG (dk dd_X1_begin 10 rfl) ?_
  refine V_istore (pc := 16) hG (dk dd_X1_begin 11 rfl) (by decide) (lv' := [(0, _), (1, _), (2, _), (3, _), (4, _)]) rfl ?_
  refine V_iload_n (pc := 18) hG (dk dd_X1_begin 12 rfl) rfl ?_
  refine V_tableIn (pc := 19) hG (dk dd_X1_begin 13 rfl) (off := 142) (tgt := 161) (by decide +kernel) (by decide +kernel) (by decide +kernel) (by decide) ?_
  refine V_iload_n (pc := 161) hG (dk dd_X1_begin 57 rfl) rfl ?_
  refine V_iretP (pc := 162) hG (dk dd_X1_begin 58 rfl) hR (Pi.mk ?_)
  rotate_left
  rotate_left
  -- leaves: return@162; stop 6
  · exact ⟨hy, p10.1, p10.2⟩
  · exfalso; have := Nat.not_lt.mp (fun q => h3 ((nI_ltI (b := 16) (by omega) (by decide)).mpr q)); omega

theorem bg_21 {α : Al} (hv : Val α) {h : Nat} (hh : h < α 0 6) : Bg α h 21 (v21 α h) [21, 20] 2 1 := by
  intro μ l x y z n hA hT hl hx hy hz hn
  refine CtP.go RX1 rfl pn_X1 (Nat.le_of_ble_eq_true rfl) (fun C hG hR => ?_)
  subst hx; subst hz
  have hln : l.length + 1 ≤ 16 := by simp at hl; omega
  refine V_iload_n (pc := 0) hG (dk dd_X1_begin 0 rfl) rfl ?_
  refine V_bipush (pc := 1) hG (dk dd_X1_begin 1 rfl) (v := 16) (by decide) ?_
  refine V_icmp_lt (pc := 3) hG (dk dd_X1_begin 2 rfl) (tgt := 8) (by decide) (fun h3 => ?_) (fun h3 => ?_)
  refine V_aload_n (pc := 8) hG (dk dd_X1_begin 5 rfl) rfl ?_
  refine V_iload_n (pc := 9) hG (dk dd_X1_begin 6 rfl) rfl ?_
  refine V_callVvp (pc := 10) hG (dk dd_X1_begin 7 rfl) ml_X1_43 mo_X1_leave sh_65 rfl (c_leave hT (by omega) rfl) (by decide) (by decide) rfl rfl rfl (fun m10 p10 => ?_)
  refine V_iload_n (pc := 13) hG (dk dd_X1_begin 8 rfl) rfl ?_
  refine V_iconst (pc := 14) hG (dk dd_X1_begin 9 rfl) (v := 1) (by decide) ?_
  refine V_iadd (pc := 15) hG (dk dd_X1_begin 10 rfl) ?_
  refine V_istore (pc := 16) hG (dk dd_X1_begin 11 rfl) (by decide) (lv' := [(0, _), (1, _), (2, _), (3, _), (4, _)]) rfl ?_
  refine V_iload_n (pc := 18) hG (dk dd_X1_begin 12 rfl) rfl ?_
  refine V_tableIn (pc := 19) hG (dk dd_X1_begin 13 rfl) (off := 144) (tgt := 163) (by decide +kernel) (by decide +kernel) (by decide +kernel) (by decide) ?_
  refine V_aload_n (pc := 163) hG (dk dd_X1_begin 59 rfl) rfl ?_
  refine V_bipush (pc := 164) hG (dk dd_X1_begin 60 rfl) (v := 20) (by decide) ?_
  refine V_iload_n (pc := 166) hG (dk dd_X1_begin 61 rfl) rfl ?_
  refine V_iload (pc := 167) hG (dk dd_X1_begin 62 rfl) rfl ?_
  refine V_callVip (pc := 169) hG (dk dd_X1_begin 63 rfl) ml_X1_28 mo_X1_begin sh_65 rfl (bg_20 hv hh _ _ _ _ _ (n + 1) (hA.off (fun x hx => p10.2 _ (by omega) (by omega))) p10.1 (by simp at hl ⊢; omega) rfl hy (nI_1 n) (by omega)) (by decide) (by decide) rfl rfl rfl (fun x169 m169 p169 => ?_)
  refine V_aload_n (pc := 172) hG (dk dd_X1_begin 64 rfl) rfl ?_
  refine V_getR (pc := 173) hG (dk dd_X1_begin 65 rfl) fl_X1_13 sh_65 rfl ?_
  refine V_getI (pc := 176) hG (dk dd_X1_begin 66 rfl) fl_X1_50 sh_15 rfl ?_
  refine V_callSi (pc := 179) hG (dk dd_X1_begin 67 rfl) ml_X1_53 mo_J6_bitCount_0f7a4 (c_bits (D := α 0 3) ?_ (hv.lt hv.D)) (by decide) (by decide) rfl rfl rfl ?_
  rotate_left
  refine V_iadd (pc := 182) hG (dk dd_X1_begin 68 rfl) ?_
  refine V_iretP (pc := 183) hG (dk dd_X1_begin 69 rfl) hR (Pi.mk ?_)
  rotate_left
  rotate_left
  -- leaves: call bitCount@179 0; return@183; stop 6
  · rw [p169.2.2 15 (by decide) (by decide), p10.2 15 (by decide) (by decide)]; exact hA.1 3 (by decide)
  · obtain ⟨rfl, q1, q2⟩ := p169
    exact ⟨rfl, by simpa using q1, fun a a1 a2 => (q2 a a1 a2).trans (p10.2 a a1 a2)⟩
  · exfalso; have := Nat.not_lt.mp (fun q => h3 ((nI_ltI (b := 16) (by omega) (by decide)).mpr q)); omega

theorem bg_22 {α : Al} (hv : Val α) {h : Nat} (hh : h < α 0 6) : Bg α h 22 (v21 α h - 1000) [22, 21, 20] 3 2 := by
  intro μ l x y z n hA hT hl hx hy hz hn
  refine CtP.go RX1 rfl pn_X1 (Nat.le_of_ble_eq_true rfl) (fun C hG hR => ?_)
  subst hx; subst hz
  have hln : l.length + 1 ≤ 16 := by simp at hl; omega
  refine V_iload_n (pc := 0) hG (dk dd_X1_begin 0 rfl) rfl ?_
  refine V_bipush (pc := 1) hG (dk dd_X1_begin 1 rfl) (v := 16) (by decide) ?_
  refine V_icmp_lt (pc := 3) hG (dk dd_X1_begin 2 rfl) (tgt := 8) (by decide) (fun h3 => ?_) (fun h3 => ?_)
  refine V_aload_n (pc := 8) hG (dk dd_X1_begin 5 rfl) rfl ?_
  refine V_iload_n (pc := 9) hG (dk dd_X1_begin 6 rfl) rfl ?_
  refine V_callVvp (pc := 10) hG (dk dd_X1_begin 7 rfl) ml_X1_43 mo_X1_leave sh_65 rfl (c_leave hT (by omega) rfl) (by decide) (by decide) rfl rfl rfl (fun m10 p10 => ?_)
  refine V_iload_n (pc := 13) hG (dk dd_X1_begin 8 rfl) rfl ?_
  refine V_iconst (pc := 14) hG (dk dd_X1_begin 9 rfl) (v := 1) (by decide) ?_
  refine V_iadd (pc := 15) hG (dk dd_X1_begin 10 rfl) ?_
  refine V_istore (pc := 16) hG (dk dd_X1_begin 11 rfl) (by decide) (lv' := [(0, _), (1, _), (2, _), (3, _), (4, _)]) rfl ?_
  refine V_iload_n (pc := 18) hG (dk dd_X1_begin 12 rfl) rfl ?_
  refine V_tableIn (pc := 19) hG (dk dd_X1_begin 13 rfl) (off := 165) (tgt := 184) (by decide +kernel) (by decide +kernel) (by decide +kernel) (by decide) ?_
  refine V_aload_n (pc := 184) hG (dk dd_X1_begin 70 rfl) rfl ?_
  refine V_bipush (pc := 185) hG (dk dd_X1_begin 71 rfl) (v := 21) (by decide) ?_
  refine V_iload_n (pc := 187) hG (dk dd_X1_begin 72 rfl) rfl ?_
  refine V_iload (pc := 188) hG (dk dd_X1_begin 73 rfl) rfl ?_
  refine V_callVip (pc := 190) hG (dk dd_X1_begin 74 rfl) ml_X1_28 mo_X1_begin sh_65 rfl (bg_21 hv hh _ _ _ _ _ (n + 1) (hA.off (fun x hx => p10.2 _ (by omega) (by omega))) p10.1 (by simp at hl ⊢; omega) rfl hy (nI_1 n) (by omega)) (by decide) (by decide) rfl rfl rfl (fun x190 m190 p190 => ?_)
  refine V_sipush (pc := 193) hG (dk dd_X1_begin 75 rfl) (v := 1000) (by decide) ?_
  refine V_isub (pc := 196) hG (dk dd_X1_begin 76 rfl) ?_
  refine V_iretP (pc := 197) hG (dk dd_X1_begin 77 rfl) hR (Pi.mk ?_)
  rotate_left
  rotate_left
  -- leaves: return@197; stop 6
  · obtain ⟨rfl, q1, q2⟩ := p190
    exact ⟨rfl, by simpa using q1, fun a a1 a2 => (q2 a a1 a2).trans (p10.2 a a1 a2)⟩
  · exfalso; have := Nat.not_lt.mp (fun q => h3 ((nI_ltI (b := 16) (by omega) (by decide)).mpr q)); omega

theorem bg_24 {α : Al} (hv : Val α) {h : Nat} (hh : h < α 0 6) : Bg α h 24 (2 * v21 α h) [24, 21, 20] 3 2 := by
  intro μ l x y z n hA hT hl hx hy hz hn
  refine CtP.go RX1 rfl pn_X1 (Nat.le_of_ble_eq_true rfl) (fun C hG hR => ?_)
  subst hx; subst hz
  have hln : l.length + 1 ≤ 16 := by simp at hl; omega
  refine V_iload_n (pc := 0) hG (dk dd_X1_begin 0 rfl) rfl ?_
  refine V_bipush (pc := 1) hG (dk dd_X1_begin 1 rfl) (v := 16) (by decide) ?_
  refine V_icmp_lt (pc := 3) hG (dk dd_X1_begin 2 rfl) (tgt := 8) (by decide) (fun h3 => ?_) (fun h3 => ?_)
  refine V_aload_n (pc := 8) hG (dk dd_X1_begin 5 rfl) rfl ?_
  refine V_iload_n (pc := 9) hG (dk dd_X1_begin 6 rfl) rfl ?_
  refine V_callVvp (pc := 10) hG (dk dd_X1_begin 7 rfl) ml_X1_43 mo_X1_leave sh_65 rfl (c_leave hT (by omega) rfl) (by decide) (by decide) rfl rfl rfl (fun m10 p10 => ?_)
  refine V_iload_n (pc := 13) hG (dk dd_X1_begin 8 rfl) rfl ?_
  refine V_iconst (pc := 14) hG (dk dd_X1_begin 9 rfl) (v := 1) (by decide) ?_
  refine V_iadd (pc := 15) hG (dk dd_X1_begin 10 rfl) ?_
  refine V_istore (pc := 16) hG (dk dd_X1_begin 11 rfl) (by decide) (lv' := [(0, _), (1, _), (2, _), (3, _), (4, _)]) rfl ?_
  refine V_iload_n (pc := 18) hG (dk dd_X1_begin 12 rfl) rfl ?_
  refine V_tableIn (pc := 19) hG (dk dd_X1_begin 13 rfl) (off := 202) (tgt := 221) (by decide +kernel) (by decide +kernel) (by decide +kernel) (by decide) ?_
  refine V_iconst (pc := 221) hG (dk dd_X1_begin 92 rfl) (v := 2) (by decide) ?_
  refine V_aload_n (pc := 222) hG (dk dd_X1_begin 93 rfl) rfl ?_
  refine V_bipush (pc := 223) hG (dk dd_X1_begin 94 rfl) (v := 21) (by decide) ?_
  refine V_iload_n (pc := 225) hG (dk dd_X1_begin 95 rfl) rfl ?_
  refine V_iload (pc := 226) hG (dk dd_X1_begin 96 rfl) rfl ?_
  refine V_callVip (pc := 228) hG (dk dd_X1_begin 97 rfl) ml_X1_28 mo_X1_begin sh_65 rfl (bg_21 hv hh _ _ _ _ _ (n + 1) (hA.off (fun x hx => p10.2 _ (by omega) (by omega))) p10.1 (by simp at hl ⊢; omega) rfl hy (nI_1 n) (by omega)) (by decide) (by decide) rfl rfl rfl (fun x228 m228 p228 => ?_)
  refine V_imul (pc := 231) hG (dk dd_X1_begin 98 rfl) ?_
  refine V_iretP (pc := 232) hG (dk dd_X1_begin 99 rfl) hR (Pi.mk ?_)
  rotate_left
  rotate_left
  -- leaves: return@232; stop 6
  · obtain ⟨rfl, q1, q2⟩ := p228
    exact ⟨rfl, by simpa using q1, fun a a1 a2 => (q2 a a1 a2).trans (p10.2 a a1 a2)⟩
  · exfalso; have := Nat.not_lt.mp (fun q => h3 ((nI_ltI (b := 16) (by omega) (by decide)).mpr q)); omega

theorem bg_13 {α : Al} (hv : Val α) {h : Nat} (hh : h < α 0 6) : Bg α h 13 (nI (α 2 h) - 100) [13, 10] 2 1 := by
  intro μ l x y z n hA hT hl hx hy hz hn
  refine CtP.go RX1 rfl pn_X1 (Nat.le_of_ble_eq_true rfl) (fun C hG hR => ?_)
  subst hx; subst hz
  have hln : l.length + 1 ≤ 16 := by simp at hl; omega
  refine V_iload_n (pc := 0) hG (dk dd_X1_begin 0 rfl) rfl ?_
  refine V_bipush (pc := 1) hG (dk dd_X1_begin 1 rfl) (v := 16) (by decide) ?_
  refine V_icmp_lt (pc := 3) hG (dk dd_X1_begin 2 rfl) (tgt := 8) (by decide) (fun h3 => ?_) (fun h3 => ?_)
  refine V_aload_n (pc := 8) hG (dk dd_X1_begin 5 rfl) rfl ?_
  refine V_iload_n (pc := 9) hG (dk dd_X1_begin 6 rfl) rfl ?_
  refine V_callVvp (pc := 10) hG (dk dd_X1_begin 7 rfl) ml_X1_43 mo_X1_leave sh_65 rfl (c_leave hT (by omega) rfl) (by decide) (by decide) rfl rfl rfl (fun m10 p10 => ?_)
  refine V_iload_n (pc := 13) hG (dk dd_X1_begin 8 rfl) rfl ?_
  refine V_iconst (pc := 14) hG (dk dd_X1_begin 9 rfl) (v := 1) (by decide) ?_
  refine V_iadd (pc := 15) hG (dk dd_X1_begin 10 rfl) ?_
  refine V_istore (pc := 16) hG (dk dd_X1_begin 11 rfl) (by decide) (lv' := [(0, _), (1, _), (2, _), (3, _), (4, _)]) rfl ?_
  refine V_iload_n (pc := 18) hG (dk dd_X1_begin 12 rfl) rfl ?_
  refine V_tableIn (pc := 19) hG (dk dd_X1_begin 13 rfl) (off := 117) (tgt := 136) (by decide +kernel) (by decide +kernel) (by decide +kernel) (by decide) ?_
  refine V_aload_n (pc := 136) hG (dk dd_X1_begin 41 rfl) rfl ?_
  refine V_bipush (pc := 137) hG (dk dd_X1_begin 42 rfl) (v := 10) (by decide) ?_
  refine V_iload_n (pc := 139) hG (dk dd_X1_begin 43 rfl) rfl ?_
  refine V_iload (pc := 140) hG (dk dd_X1_begin 44 rfl) rfl ?_
  refine V_callVip (pc := 142) hG (dk dd_X1_begin 45 rfl) ml_X1_28 mo_X1_begin sh_65 rfl (bg_10 hv hh _ _ _ _ _ (n + 1) (hA.off (fun x hx => p10.2 _ (by omega) (by omega))) p10.1 (by simp at hl ⊢; omega) rfl hy (nI_1 n) (by omega)) (by decide) (by decide) rfl rfl rfl (fun x142 m142 p142 => ?_)
  refine V_bipush (pc := 145) hG (dk dd_X1_begin 46 rfl) (v := 100) (by decide) ?_
  refine V_isub (pc := 147) hG (dk dd_X1_begin 47 rfl) ?_
  refine V_iretP (pc := 148) hG (dk dd_X1_begin 48 rfl) hR (Pi.mk ?_)
  rotate_left
  rotate_left
  -- leaves: return@148; stop 6
  · obtain ⟨rfl, q1, q2⟩ := p142
    exact ⟨rfl, by simpa using q1, fun a a1 a2 => (q2 a a1 a2).trans (p10.2 a a1 a2)⟩
  · exfalso; have := Nat.not_lt.mp (fun q => h3 ((nI_ltI (b := 16) (by omega) (by decide)).mpr q)); omega

theorem bg_14 {α : Al} (hv : Val α) {h : Nat} (hh : h < α 0 6) : Bg α h 14 (2 * (nI (α 2 h) - 100)) [14, 13, 10] 3 2 := by
  intro μ l x y z n hA hT hl hx hy hz hn
  refine CtP.go RX1 rfl pn_X1 (Nat.le_of_ble_eq_true rfl) (fun C hG hR => ?_)
  subst hx; subst hz
  have hln : l.length + 1 ≤ 16 := by simp at hl; omega
  refine V_iload_n (pc := 0) hG (dk dd_X1_begin 0 rfl) rfl ?_
  refine V_bipush (pc := 1) hG (dk dd_X1_begin 1 rfl) (v := 16) (by decide) ?_
  refine V_icmp_lt (pc := 3) hG (dk dd_X1_begin 2 rfl) (tgt := 8) (by decide) (fun h3 => ?_) (fun h3 => ?_)
  refine V_aload_n (pc := 8) hG (dk dd_X1_begin 5 rfl) rfl ?_
  refine V_iload_n (pc := 9) hG (dk dd_X1_begin 6 rfl) rfl ?_
  refine V_callVvp (pc := 10) hG (dk dd_X1_begin 7 rfl) ml_X1_43 mo_X1_leave sh_65 rfl (c_leave hT (by omega) rfl) (by decide) (by decide) rfl rfl rfl (fun m10 p10 => ?_)
  refine V_iload_n (pc := 13) hG (dk dd_X1_begin 8 rfl) rfl ?_
  refine V_iconst (pc := 14) hG (dk dd_X1_begin 9 rfl) (v := 1) (by decide) ?_
  refine V_iadd (pc := 15) hG (dk dd_X1_begin 10 rfl) ?_
  refine V_istore (pc := 16) hG (dk dd_X1_begin 11 rfl) (by decide) (lv' := [(0, _), (1, _), (2, _), (3, _), (4, _)]) rfl ?_
  refine V_iload_n (pc := 18) hG (dk dd_X1_begin 12 rfl) rfl ?_
  refine V_tableIn (pc := 19) hG (dk dd_X1_begin 13 rfl) (off := 130) (tgt := 149) (by decide +kernel) (by decide +kernel) (by decide +kernel) (by decide) ?_
  refine V_iconst (pc := 149) hG (dk dd_X1_begin 49 rfl) (v := 2) (by decide) ?_
  refine V_aload_n (pc := 150) hG (dk dd_X1_begin 50 rfl) rfl ?_
  refine V_bipush (pc := 151) hG (dk dd_X1_begin 51 rfl) (v := 13) (by decide) ?_
  refine V_iload_n (pc := 153) hG (dk dd_X1_begin 52 rfl) rfl ?_
  refine V_iload (pc := 154) hG (dk dd_X1_begin 53 rfl) rfl ?_
  refine V_callVip (pc := 156) hG (dk dd_X1_begin 54 rfl) ml_X1_28 mo_X1_begin sh_65 rfl (bg_13 hv hh _ _ _ _ _ (n + 1) (hA.off (fun x hx => p10.2 _ (by omega) (by omega))) p10.1 (by simp at hl ⊢; omega) rfl hy (nI_1 n) (by omega)) (by decide) (by decide) rfl rfl rfl (fun x156 m156 p156 => ?_)
  refine V_imul (pc := 159) hG (dk dd_X1_begin 55 rfl) ?_
  refine V_iretP (pc := 160) hG (dk dd_X1_begin 56 rfl) hR (Pi.mk ?_)
  rotate_left
  rotate_left
  -- leaves: return@160; stop 6
  · obtain ⟨rfl, q1, q2⟩ := p156
    exact ⟨rfl, by simpa using q1, fun a a1 a2 => (q2 a a1 a2).trans (p10.2 a a1 a2)⟩
  · exfalso; have := Nat.not_lt.mp (fun q => h3 ((nI_ltI (b := 16) (by omega) (by decide)).mpr q)); omega

theorem bg_13b {α : Al} (hv : Val α) {h : Nat} (hh : h < α 0 6) : Bg α h 13 (nI (α 2 h) - 100) [13, 10] 3 2 := by
  intro μ l x y z n hA hT hl hx hy hz hn
  refine CtP.go RX1 rfl pn_X1 (Nat.le_of_ble_eq_true rfl) (fun C hG hR => ?_)
  subst hx; subst hz
  have hln : l.length + 1 ≤ 16 := by simp at hl; omega
  refine V_iload_n (pc := 0) hG (dk dd_X1_begin 0 rfl) rfl ?_
  refine V_bipush (pc := 1) hG (dk dd_X1_begin 1 rfl) (v := 16) (by decide) ?_
  refine V_icmp_lt (pc := 3) hG (dk dd_X1_begin 2 rfl) (tgt := 8) (by decide) (fun h3 => ?_) (fun h3 => ?_)
  refine V_aload_n (pc := 8) hG (dk dd_X1_begin 5 rfl) rfl ?_
  refine V_iload_n (pc := 9) hG (dk dd_X1_begin 6 rfl) rfl ?_
  refine V_callVvp (pc := 10) hG (dk dd_X1_begin 7 rfl) ml_X1_43 mo_X1_leave sh_65 rfl (c_leave hT (by omega) rfl) (by decide) (by decide) rfl rfl rfl (fun m10 p10 => ?_)
  refine V_iload_n (pc := 13) hG (dk dd_X1_begin 8 rfl) rfl ?_
  refine V_iconst (pc := 14) hG (dk dd_X1_begin 9 rfl) (v := 1) (by decide) ?_
  refine V_iadd (pc := 15) hG (dk dd_X1_begin 10 rfl) ?_
  refine V_istore (pc := 16) hG (dk dd_X1_begin 11 rfl) (by decide) (lv' := [(0, _), (1, _), (2, _), (3, _), (4, _)]) rfl ?_
  refine V_iload_n (pc := 18) hG (dk dd_X1_begin 12 rfl) rfl ?_
  refine V_tableIn (pc := 19) hG (dk dd_X1_begin 13 rfl) (off := 117) (tgt := 136) (by decide +kernel) (by decide +kernel) (by decide +kernel) (by decide) ?_
  refine V_aload_n (pc := 136) hG (dk dd_X1_begin 41 rfl) rfl ?_
  refine V_bipush (pc := 137) hG (dk dd_X1_begin 42 rfl) (v := 10) (by decide) ?_
  refine V_iload_n (pc := 139) hG (dk dd_X1_begin 43 rfl) rfl ?_
  refine V_iload (pc := 140) hG (dk dd_X1_begin 44 rfl) rfl ?_
  refine V_callVip (pc := 142) hG (dk dd_X1_begin 45 rfl) ml_X1_28 mo_X1_begin sh_65 rfl (bg_10 hv hh _ _ _ _ _ (n + 1) (hA.off (fun x hx => p10.2 _ (by omega) (by omega))) p10.1 (by simp at hl ⊢; omega) rfl hy (nI_1 n) (by omega)) (by decide) (by decide) rfl rfl rfl (fun x142 m142 p142 => ?_)
  refine V_bipush (pc := 145) hG (dk dd_X1_begin 46 rfl) (v := 100) (by decide) ?_
  refine V_isub (pc := 147) hG (dk dd_X1_begin 47 rfl) ?_
  refine V_iretP (pc := 148) hG (dk dd_X1_begin 48 rfl) hR (Pi.mk ?_)
  rotate_left
  rotate_left
  -- leaves: return@148; stop 6
  · obtain ⟨rfl, q1, q2⟩ := p142
    exact ⟨rfl, by simpa using q1, fun a a1 a2 => (q2 a a1 a2).trans (p10.2 a a1 a2)⟩
  · exfalso; have := Nat.not_lt.mp (fun q => h3 ((nI_ltI (b := 16) (by omega) (by decide)).mpr q)); omega
theorem bg_21b {α : Al} (hv : Val α) {h : Nat} (hh : h < α 0 6) : Bg α h 21 (v21 α h) [21, 20] 3 2 := by
  intro μ l x y z n hA hT hl hx hy hz hn
  refine CtP.go RX1 rfl pn_X1 (Nat.le_of_ble_eq_true rfl) (fun C hG hR => ?_)
  subst hx; subst hz
  have hln : l.length + 1 ≤ 16 := by simp at hl; omega
  refine V_iload_n (pc := 0) hG (dk dd_X1_begin 0 rfl) rfl ?_
  refine V_bipush (pc := 1) hG (dk dd_X1_begin 1 rfl) (v := 16) (by decide) ?_
  refine V_icmp_lt (pc := 3) hG (dk dd_X1_begin 2 rfl) (tgt := 8) (by decide) (fun h3 => ?_) (fun h3 => ?_)
  refine V_aload_n (pc := 8) hG (dk dd_X1_begin 5 rfl) rfl ?_
  refine V_iload_n (pc := 9) hG (dk dd_X1_begin 6 rfl) rfl ?_
  refine V_callVvp (pc := 10) hG (dk dd_X1_begin 7 rfl) ml_X1_43 mo_X1_leave sh_65 rfl (c_leave hT (by omega) rfl) (by decide) (by decide) rfl rfl rfl (fun m10 p10 => ?_)
  refine V_iload_n (pc := 13) hG (dk dd_X1_begin 8 rfl) rfl ?_
  refine V_iconst (pc := 14) hG (dk dd_X1_begin 9 rfl) (v := 1) (by decide) ?_
  refine V_iadd (pc := 15) hG (dk dd_X1_begin 10 rfl) ?_
  refine V_istore (pc := 16) hG (dk dd_X1_begin 11 rfl) (by decide) (lv' := [(0, _), (1, _), (2, _), (3, _), (4, _)]) rfl ?_
  refine V_iload_n (pc := 18) hG (dk dd_X1_begin 12 rfl) rfl ?_
  refine V_tableIn (pc := 19) hG (dk dd_X1_begin 13 rfl) (off := 144) (tgt := 163) (by decide +kernel) (by decide +kernel) (by decide +kernel) (by decide) ?_
  refine V_aload_n (pc := 163) hG (dk dd_X1_begin 59 rfl) rfl ?_
  refine V_bipush (pc := 164) hG (dk dd_X1_begin 60 rfl) (v := 20) (by decide) ?_
  refine V_iload_n (pc := 166) hG (dk dd_X1_begin 61 rfl) rfl ?_
  refine V_iload (pc := 167) hG (dk dd_X1_begin 62 rfl) rfl ?_
  refine V_callVip (pc := 169) hG (dk dd_X1_begin 63 rfl) ml_X1_28 mo_X1_begin sh_65 rfl (bg_20 hv hh _ _ _ _ _ (n + 1) (hA.off (fun x hx => p10.2 _ (by omega) (by omega))) p10.1 (by simp at hl ⊢; omega) rfl hy (nI_1 n) (by omega)) (by decide) (by decide) rfl rfl rfl (fun x169 m169 p169 => ?_)
  refine V_aload_n (pc := 172) hG (dk dd_X1_begin 64 rfl) rfl ?_
  refine V_getR (pc := 173) hG (dk dd_X1_begin 65 rfl) fl_X1_13 sh_65 rfl ?_
  refine V_getI (pc := 176) hG (dk dd_X1_begin 66 rfl) fl_X1_50 sh_15 rfl ?_
  refine V_callSi (pc := 179) hG (dk dd_X1_begin 67 rfl) ml_X1_53 mo_J6_bitCount_0f7a4 (c_bits (D := α 0 3) ?_ (hv.lt hv.D)) (by decide) (by decide) rfl rfl rfl ?_
  rotate_left
  refine V_iadd (pc := 182) hG (dk dd_X1_begin 68 rfl) ?_
  refine V_iretP (pc := 183) hG (dk dd_X1_begin 69 rfl) hR (Pi.mk ?_)
  rotate_left
  rotate_left
  -- leaves: call bitCount@179 0; return@183; stop 6
  · rw [p169.2.2 15 (by decide) (by decide), p10.2 15 (by decide) (by decide)]; exact hA.1 3 (by decide)
  · obtain ⟨rfl, q1, q2⟩ := p169
    exact ⟨rfl, by simpa using q1, fun a a1 a2 => (q2 a a1 a2).trans (p10.2 a a1 a2)⟩
  · exfalso; have := Nat.not_lt.mp (fun q => h3 ((nI_ltI (b := 16) (by omega) (by decide)).mpr q)); omega
theorem bg_size {α : Al} (hv : Val α) {h : Nat} (hh : h < α 0 6) (hk : 4 ≤ α 1 h) : ∃ b, szB (α 1 h) = nI b ∧ Bg α h b (szR α h) (szT α h) 3 2 := by
  have h5 := (hv.h hh).2.1
  unfold szR szT
  rcases (show α 1 h = 4 ∨ α 1 h = 5 by omega) with e | e
  · rw [e]
    exact ⟨13, rfl, bg_13b hv hh⟩
  · rw [e]; exact ⟨14, rfl, bg_14 hv hh⟩
theorem bg_mark {α : Al} (hv : Val α) {h : Nat} (hh : h < α 0 6) (hk : α 1 h ≤ 3) : ∃ b, mkB (α 1 h) = nI b ∧ Bg α h b (mkV α h) (mkT α h) 3 2 := by
  have h5 := (hv.h hh).1
  unfold mkV mkT
  rcases (show α 1 h = 1 ∨ α 1 h = 2 ∨ α 1 h = 3 by omega) with e | e | e
  · rw [e]
    exact ⟨21, rfl, bg_21b hv hh⟩
  · rw [e]; exact ⟨24, rfl, bg_24 hv hh⟩
  · rw [e]; exact ⟨22, rfl, bg_22 hv hh⟩
