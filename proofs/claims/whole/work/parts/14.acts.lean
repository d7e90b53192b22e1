/-! ===== courts that become others; acts ===== -/
theorem cp6 {f g : Nat → Int32} {i : Nat} (h : i < 6) : va_cpy f g (0 : Int32).toNatClampNeg (0 : Int32).toNatClampNeg (6 : Int32).toNatClampNeg i = f i := by
  show va_cpy f g 0 0 6 i = f i
  rw [pk_cpy_in (Nat.zero_le _) (by omega), Nat.zero_add, Nat.sub_zero]
theorem cp5 {f g : Nat → Int32} {i : Nat} (h : i < 5) : va_cpy f g (0 : Int32).toNatClampNeg (0 : Int32).toNatClampNeg (5 : Int32).toNatClampNeg i = f i := by
  show va_cpy f g 0 0 5 i = f i
  rw [pk_cpy_in (Nat.zero_le _) (by omega), Nat.zero_add, Nat.sub_zero]
def coLen (x : Nat) : Nat := if x = 0 then 8 else if x < 4 then 6 else 5
/-- the court at b is what the one at c was; nothing else has changed -/
def Became (b c : Nat) (μ μ' : Mem) : Prop := (∀ x i, x ≤ 7 → i < coLen x → μ' (b + x) i = μ (c + x) i) ∧ ∀ a, (a < b ∨ b + 7 < a) → μ' a = μ a
theorem Became.abs {b c : Nat} {μ μ' : Mem} {α : Al} (h : Became b c μ μ') (hA : Abs (kac μ c) α) (hH : α 0 6 ≤ 6) (hC : α 0 7 ≤ 5) : Abs (kac μ' b) α :=
  ⟨fun i hi => (h.1 0 i (by decide) hi).trans (hA.1 i hi), fun x q h1 h2 h3 => (h.1 x q (by omega) (by unfold coLen; rw [if_neg (by omega), if_pos (by omega)]; omega)).trans (hA.2.1 x q h1 h2 h3), fun x q h1 h2 h3 => (h.1 x q (by omega) (by unfold coLen; rw [if_neg (by omega), if_neg (by omega)]; omega)).trans (hA.2.2 x q h1 h2 h3)⟩
set_option maxHeartbeats 4000000 in
theorem c_become {b c : Nat} {μ : Mem} (hb : IsCo b) (hc : IsCo c) (hne : b ≠ c) : CtP yX2_become cX2_become 2 none 0 [vR b, vR c] μ (Pv (fun μ' => Became b c μ μ')) := by
  refine CtP.go RX2 rfl pn_X2 (Nat.le_of_ble_eq_true rfl) (fun C hG hR => ?_)
  have hb' : b = 15 ∨ b = 23 ∨ b = 35 ∨ b = 43 := hb
  have hc' : c = 15 ∨ c = 23 ∨ c = 35 ∨ c = 43 := hc
  refine V_aload_n (pc := 0) hG (dk dd_X2_become 0 rfl) rfl ?_
  refine V_aload_n (pc := 1) hG (dk dd_X2_become 1 rfl) rfl ?_
  refine V_getI (pc := 2) hG (dk dd_X2_become 2 rfl) fl_X2_33 hc.s0 rfl ?_
  refine V_putI (pc := 5) hG (dk dd_X2_become 3 rfl) fl_X2_33 hb.s0 rfl rfl ?_
  refine V_aload_n (pc := 8) hG (dk dd_X2_become 4 rfl) rfl ?_
  refine V_aload_n (pc := 9) hG (dk dd_X2_become 5 rfl) rfl ?_
  refine V_getI (pc := 10) hG (dk dd_X2_become 6 rfl) fl_X2_37 hc.s0 rfl ?_
  refine V_putI (pc := 13) hG (dk dd_X2_become 7 rfl) fl_X2_37 hb.s0 rfl rfl ?_
  refine V_aload_n (pc := 16) hG (dk dd_X2_become 8 rfl) rfl ?_
  refine V_aload_n (pc := 17) hG (dk dd_X2_become 9 rfl) rfl ?_
  refine V_getI (pc := 18) hG (dk dd_X2_become 10 rfl) fl_X2_40 hc.s0 rfl ?_
  refine V_putI (pc := 21) hG (dk dd_X2_become 11 rfl) fl_X2_40 hb.s0 rfl rfl ?_
  refine V_aload_n (pc := 24) hG (dk dd_X2_become 12 rfl) rfl ?_
  refine V_aload_n (pc := 25) hG (dk dd_X2_become 13 rfl) rfl ?_
  refine V_getI (pc := 26) hG (dk dd_X2_become 14 rfl) fl_X2_43 hc.s0 rfl ?_
  refine V_putI (pc := 29) hG (dk dd_X2_become 15 rfl) fl_X2_43 hb.s0 rfl rfl ?_
  refine V_aload_n (pc := 32) hG (dk dd_X2_become 16 rfl) rfl ?_
  refine V_aload_n (pc := 33) hG (dk dd_X2_become 17 rfl) rfl ?_
  refine V_getI (pc := 34) hG (dk dd_X2_become 18 rfl) fl_X2_46 hc.s0 rfl ?_
  refine V_putI (pc := 37) hG (dk dd_X2_become 19 rfl) fl_X2_46 hb.s0 rfl rfl ?_
  refine V_aload_n (pc := 40) hG (dk dd_X2_become 20 rfl) rfl ?_
  refine V_aload_n (pc := 41) hG (dk dd_X2_become 21 rfl) rfl ?_
  refine V_getI (pc := 42) hG (dk dd_X2_become 22 rfl) fl_X2_49 hc.s0 rfl ?_
  refine V_putI (pc := 45) hG (dk dd_X2_become 23 rfl) fl_X2_49 hb.s0 rfl rfl ?_
  refine V_aload_n (pc := 48) hG (dk dd_X2_become 24 rfl) rfl ?_
  refine V_aload_n (pc := 49) hG (dk dd_X2_become 25 rfl) rfl ?_
  refine V_getI (pc := 50) hG (dk dd_X2_become 26 rfl) fl_X2_52 hc.s0 rfl ?_
  refine V_putI (pc := 53) hG (dk dd_X2_become 27 rfl) fl_X2_52 hb.s0 rfl rfl ?_
  refine V_aload_n (pc := 56) hG (dk dd_X2_become 28 rfl) rfl ?_
  refine V_aload_n (pc := 57) hG (dk dd_X2_become 29 rfl) rfl ?_
  refine V_getI (pc := 58) hG (dk dd_X2_become 30 rfl) fl_X2_55 hc.s0 rfl ?_
  refine V_putI (pc := 61) hG (dk dd_X2_become 31 rfl) fl_X2_55 hb.s0 rfl rfl ?_
  refine V_aload_n (pc := 64) hG (dk dd_X2_become 32 rfl) rfl ?_
  refine V_getR (pc := 65) hG (dk dd_X2_become 33 rfl) fl_X2_9 hc.s0 rfl ?_
  refine V_iconst (pc := 68) hG (dk dd_X2_become 34 rfl) (v := 0) (by decide) ?_
  refine V_aload_n (pc := 69) hG (dk dd_X2_become 35 rfl) rfl ?_
  refine V_getR (pc := 70) hG (dk dd_X2_become 36 rfl) fl_X2_9 hb.s0 rfl ?_
  refine V_iconst (pc := 73) hG (dk dd_X2_become 37 rfl) (v := 0) (by decide) ?_
  refine V_bipush (pc := 74) hG (dk dd_X2_become 38 rfl) (v := 6) (by decide) ?_
  -- arraycopy
  refine V_acopy (pc := 76) hG (dk dd_X2_become 39 rfl) ml_X2_64 hc.s1 hb.s1 (by decide) (by decide) (by decide) (by decide) (by decide) rfl ?_
  refine V_aload_n (pc := 79) hG (dk dd_X2_become 40 rfl) rfl ?_
  refine V_getR (pc := 80) hG (dk dd_X2_become 41 rfl) fl_X2_15 hc.s0 rfl ?_
  refine V_iconst (pc := 83) hG (dk dd_X2_become 42 rfl) (v := 0) (by decide) ?_
  refine V_aload_n (pc := 84) hG (dk dd_X2_become 43 rfl) rfl ?_
  refine V_getR (pc := 85) hG (dk dd_X2_become 44 rfl) fl_X2_15 hb.s0 rfl ?_
  refine V_iconst (pc := 88) hG (dk dd_X2_become 45 rfl) (v := 0) (by decide) ?_
  refine V_bipush (pc := 89) hG (dk dd_X2_become 46 rfl) (v := 6) (by decide) ?_
  -- arraycopy
  refine V_acopy (pc := 91) hG (dk dd_X2_become 47 rfl) ml_X2_64 hc.s2 hb.s2 (by decide) (by decide) (by decide) (by decide) (by decide) rfl ?_
  refine V_aload_n (pc := 94) hG (dk dd_X2_become 48 rfl) rfl ?_
  refine V_getR (pc := 95) hG (dk dd_X2_become 49 rfl) fl_X2_18 hc.s0 rfl ?_
  refine V_iconst (pc := 98) hG (dk dd_X2_become 50 rfl) (v := 0) (by decide) ?_
  refine V_aload_n (pc := 99) hG (dk dd_X2_become 51 rfl) rfl ?_
  refine V_getR (pc := 100) hG (dk dd_X2_become 52 rfl) fl_X2_18 hb.s0 rfl ?_
  refine V_iconst (pc := 103) hG (dk dd_X2_become 53 rfl) (v := 0) (by decide) ?_
  refine V_bipush (pc := 104) hG (dk dd_X2_become 54 rfl) (v := 6) (by decide) ?_
  -- arraycopy
  refine V_acopy (pc := 106) hG (dk dd_X2_become 55 rfl) ml_X2_64 hc.s3 hb.s3 (by decide) (by decide) (by decide) (by decide) (by decide) rfl ?_
  refine V_aload_n (pc := 109) hG (dk dd_X2_become 56 rfl) rfl ?_
  refine V_getR (pc := 110) hG (dk dd_X2_become 57 rfl) fl_X2_21 hc.s0 rfl ?_
  refine V_iconst (pc := 113) hG (dk dd_X2_become 58 rfl) (v := 0) (by decide) ?_
  refine V_aload_n (pc := 114) hG (dk dd_X2_become 59 rfl) rfl ?_
  refine V_getR (pc := 115) hG (dk dd_X2_become 60 rfl) fl_X2_21 hb.s0 rfl ?_
  refine V_iconst (pc := 118) hG (dk dd_X2_become 61 rfl) (v := 0) (by decide) ?_
  refine V_iconst (pc := 119) hG (dk dd_X2_become 62 rfl) (v := 5) (by decide) ?_
  -- arraycopy
  refine V_acopy (pc := 120) hG (dk dd_X2_become 63 rfl) ml_X2_64 hc.s4 hb.s4 (by decide) (by decide) (by decide) (by decide) (by decide) rfl ?_
  refine V_aload_n (pc := 123) hG (dk dd_X2_become 64 rfl) rfl ?_
  refine V_getR (pc := 124) hG (dk dd_X2_become 65 rfl) fl_X2_24 hc.s0 rfl ?_
  refine V_iconst (pc := 127) hG (dk dd_X2_become 66 rfl) (v := 0) (by decide) ?_
  refine V_aload_n (pc := 128) hG (dk dd_X2_become 67 rfl) rfl ?_
  refine V_getR (pc := 129) hG (dk dd_X2_become 68 rfl) fl_X2_24 hb.s0 rfl ?_
  refine V_iconst (pc := 132) hG (dk dd_X2_become 69 rfl) (v := 0) (by decide) ?_
  refine V_iconst (pc := 133) hG (dk dd_X2_become 70 rfl) (v := 5) (by decide) ?_
  -- arraycopy
  refine V_acopy (pc := 134) hG (dk dd_X2_become 71 rfl) ml_X2_64 hc.s5 hb.s5 (by decide) (by decide) (by decide) (by decide) (by decide) rfl ?_
  refine V_aload_n (pc := 137) hG (dk dd_X2_become 72 rfl) rfl ?_
  refine V_getR (pc := 138) hG (dk dd_X2_become 73 rfl) fl_X2_27 hc.s0 rfl ?_
  refine V_iconst (pc := 141) hG (dk dd_X2_become 74 rfl) (v := 0) (by decide) ?_
  refine V_aload_n (pc := 142) hG (dk dd_X2_become 75 rfl) rfl ?_
  refine V_getR (pc := 143) hG (dk dd_X2_become 76 rfl) fl_X2_27 hb.s0 rfl ?_
  refine V_iconst (pc := 146) hG (dk dd_X2_become 77 rfl) (v := 0) (by decide) ?_
  refine V_iconst (pc := 147) hG (dk dd_X2_become 78 rfl) (v := 5) (by decide) ?_
  -- arraycopy
  refine V_acopy (pc := 148) hG (dk dd_X2_become 79 rfl) ml_X2_64 hc.s6 hb.s6 (by decide) (by decide) (by decide) (by decide) (by decide) rfl ?_
  refine V_aload_n (pc := 151) hG (dk dd_X2_become 80 rfl) rfl ?_
  refine V_getR (pc := 152) hG (dk dd_X2_become 81 rfl) fl_X2_30 hc.s0 rfl ?_
  refine V_iconst (pc := 155) hG (dk dd_X2_become 82 rfl) (v := 0) (by decide) ?_
  refine V_aload_n (pc := 156) hG (dk dd_X2_become 83 rfl) rfl ?_
  refine V_getR (pc := 157) hG (dk dd_X2_become 84 rfl) fl_X2_30 hb.s0 rfl ?_
  refine V_iconst (pc := 160) hG (dk dd_X2_become 85 rfl) (v := 0) (by decide) ?_
  refine V_iconst (pc := 161) hG (dk dd_X2_become 86 rfl) (v := 5) (by decide) ?_
  -- arraycopy
  refine V_acopy (pc := 162) hG (dk dd_X2_become 87 rfl) ml_X2_64 hc.s7 hb.s7 (by decide) (by decide) (by decide) (by decide) (by decide) rfl ?_
  refine V_vretP (pc := 165) hG (dk dd_X2_become 88 rfl) hR (Pv.mk ?_)
  rotate_left
  -- leaves: return@165
  · refine ⟨fun x i hx hi => ?_, fun a ha => ?_⟩
    · rcases (show x = 0 ∨ x = 1 ∨ x = 2 ∨ x = 3 ∨ x = 4 ∨ x = 5 ∨ x = 6 ∨ x = 7 by omega) with rfl | rfl | rfl | rfl | rfl | rfl | rfl | rfl
      · have hi : i < 8 := hi
        simp (disch := omega) only [setc_s, setc_n, Nat.add_zero]
        rcases (show i = 0 ∨ i = 1 ∨ i = 2 ∨ i = 3 ∨ i = 4 ∨ i = 5 ∨ i = 6 ∨ i = 7 by omega) with rfl | rfl | rfl | rfl | rfl | rfl | rfl | rfl <;> rfl
      all_goals (simp (disch := omega) only [setc_s, setc_n]; first | exact cp6 hi | exact cp5 hi)
    · simp (disch := omega) only [setc_n]
/-- a block of 14 numbers: what an act can change -/
def Blk (f : Nat → Int32) (o : Nat) (α : Al) : Prop := f o = nI (α 0 3) ∧ f (o + 1) = nI (α 0 4) ∧ f (o + 2) = nI (α 0 5) ∧ (∀ c, c < α 0 7 → f (o + 3 + c) = nI (α 7 c)) ∧ (∀ h, h < α 0 6 → f (o + 8 + h) = nI (α 2 h))
set_option maxHeartbeats 4000000 in
theorem c_writeChanging {μ : Mem} {α : Al} (hA : Abs (kac μ 15) α) (hH : α 0 6 ≤ 6) (hC : α 0 7 ≤ 5) {x : Int32} {o : Nat} (hx : x = nI o) (ho : o + 14 ≤ 336) : CtP yX2_writeChanging cX2_writeChanging 3 none 0 [vR 15, vR 33, vI x] μ (Pv (fun μ' => ∃ f, μ' = setc μ 33 f ∧ Blk f o α ∧ ∀ q, (q < o ∨ o + 14 ≤ q) → f q = μ 33 q)) := by
  refine CtP.go RX2 rfl pn_X2 (Nat.le_of_ble_eq_true rfl) (fun C hG hR => ?_)
  subst hx
  have a1 : nI o + 1 = nI (o + 1) := nI_add o 1
  have a2 : nI o + 2 = nI (o + 2) := nI_add o 2
  have a3 : nI o + 3 = nI (o + 3) := nI_add o 3
  have a8 : nI (o + 3) + 5 = nI (o + 8) := nI_add (o + 3) 5
  have r0 : vp_in (nI o) 336 := vp_in_nI (by omega) (by decide)
  have r1 : vp_in (nI o + 1) 336 := by rw [a1]; exact vp_in_nI (by omega) (by decide)
  have r2 : vp_in (nI o + 2) 336 := by rw [a2]; exact vp_in_nI (by omega) (by decide)
  have n3 : ¬ nI o + 3 < 0 := by rw [a3]; exact nI_pos (by omega)
  have n8 : ¬ nI o + 3 + 5 < 0 := by rw [a3, a8]; exact nI_pos (by omega)
  have s3 : (nI o + 3).toNatClampNeg = o + 3 := by rw [a3]; exact nI_clamp (by omega)
  have s8 : (nI o + 3 + 5).toNatClampNeg = o + 8 := by rw [a3, a8]; exact nI_clamp (by omega)
  have c0 : (nI o).toNatClampNeg = o := nI_clamp (by omega)
  have c1 : (nI o + 1).toNatClampNeg = o + 1 := by rw [a1]; exact nI_clamp (by omega)
  have c2 : (nI o + 2).toNatClampNeg = o + 2 := by rw [a2]; exact nI_clamp (by omega)
  refine V_aload_n (pc := 0) hG (dk dd_X2_writeChanging 0 rfl) rfl ?_
  refine V_iload_n (pc := 1) hG (dk dd_X2_writeChanging 1 rfl) rfl ?_
  refine V_aload_n (pc := 2) hG (dk dd_X2_writeChanging 2 rfl) rfl ?_
  refine V_getI (pc := 3) hG (dk dd_X2_writeChanging 3 rfl) fl_X2_43 sh_15 rfl ?_
  refine V_iast (pc := 6) hG (dk dd_X2_writeChanging 4 rfl) sh_33 r0 ?_
  refine V_aload_n (pc := 7) hG (dk dd_X2_writeChanging 5 rfl) rfl ?_
  refine V_iload_n (pc := 8) hG (dk dd_X2_writeChanging 6 rfl) rfl ?_
  refine V_iconst (pc := 9) hG (dk dd_X2_writeChanging 7 rfl) (v := 1) (by decide) ?_
  refine V_iadd (pc := 10) hG (dk dd_X2_writeChanging 8 rfl) ?_
  refine V_aload_n (pc := 11) hG (dk dd_X2_writeChanging 9 rfl) rfl ?_
  refine V_getI (pc := 12) hG (dk dd_X2_writeChanging 10 rfl) fl_X2_46 sh_15 rfl ?_
  refine V_iast (pc := 15) hG (dk dd_X2_writeChanging 11 rfl) sh_33 r1 ?_
  refine V_aload_n (pc := 16) hG (dk dd_X2_writeChanging 12 rfl) rfl ?_
  refine V_iload_n (pc := 17) hG (dk dd_X2_writeChanging 13 rfl) rfl ?_
  refine V_iconst (pc := 18) hG (dk dd_X2_writeChanging 14 rfl) (v := 2) (by decide) ?_
  refine V_iadd (pc := 19) hG (dk dd_X2_writeChanging 15 rfl) ?_
  refine V_aload_n (pc := 20) hG (dk dd_X2_writeChanging 16 rfl) rfl ?_
  refine V_getI (pc := 21) hG (dk dd_X2_writeChanging 17 rfl) fl_X2_49 sh_15 rfl ?_
  refine V_iast (pc := 24) hG (dk dd_X2_writeChanging 18 rfl) sh_33 r2 ?_
  refine V_aload_n (pc := 25) hG (dk dd_X2_writeChanging 19 rfl) rfl ?_
  refine V_getR (pc := 26) hG (dk dd_X2_writeChanging 20 rfl) fl_X2_30 sh_15 rfl ?_
  refine V_iconst (pc := 29) hG (dk dd_X2_writeChanging 21 rfl) (v := 0) (by decide) ?_
  refine V_aload_n (pc := 30) hG (dk dd_X2_writeChanging 22 rfl) rfl ?_
  refine V_iload_n (pc := 31) hG (dk dd_X2_writeChanging 23 rfl) rfl ?_
  refine V_iconst (pc := 32) hG (dk dd_X2_writeChanging 24 rfl) (v := 3) (by decide) ?_
  refine V_iadd (pc := 33) hG (dk dd_X2_writeChanging 25 rfl) ?_
  refine V_iconst (pc := 34) hG (dk dd_X2_writeChanging 26 rfl) (v := 5) (by decide) ?_
  -- arraycopy
  refine V_acopy (pc := 35) hG (dk dd_X2_writeChanging 27 rfl) ml_X2_64 sh_22 sh_33 (by decide) n3 (by decide) (by decide) (by rw [s3]; show o + 3 + 5 ≤ 336; omega) rfl ?_
  refine V_aload_n (pc := 38) hG (dk dd_X2_writeChanging 28 rfl) rfl ?_
  refine V_getR (pc := 39) hG (dk dd_X2_writeChanging 29 rfl) fl_X2_15 sh_15 rfl ?_
  refine V_iconst (pc := 42) hG (dk dd_X2_writeChanging 30 rfl) (v := 0) (by decide) ?_
  refine V_aload_n (pc := 43) hG (dk dd_X2_writeChanging 31 rfl) rfl ?_
  refine V_iload_n (pc := 44) hG (dk dd_X2_writeChanging 32 rfl) rfl ?_
  refine V_iconst (pc := 45) hG (dk dd_X2_writeChanging 33 rfl) (v := 3) (by decide) ?_
  refine V_iadd (pc := 46) hG (dk dd_X2_writeChanging 34 rfl) ?_
  refine V_iconst (pc := 47) hG (dk dd_X2_writeChanging 35 rfl) (v := 5) (by decide) ?_
  refine V_iadd (pc := 48) hG (dk dd_X2_writeChanging 36 rfl) ?_
  refine V_bipush (pc := 49) hG (dk dd_X2_writeChanging 37 rfl) (v := 6) (by decide) ?_
  -- arraycopy
  refine V_acopy (pc := 51) hG (dk dd_X2_writeChanging 38 rfl) ml_X2_64 sh_17 sh_33 (by decide) n8 (by decide) (by decide) (by rw [s8]; show o + 8 + 6 ≤ 336; omega) rfl ?_
  refine V_vretP (pc := 54) hG (dk dd_X2_writeChanging 39 rfl) hR (Pv.mk ?_)
  rotate_left
  -- leaves: return@54
  · simp (disch := omega) only [setc_s, setc_n, setc_c, c0, c1, c2, s3, s8]
    refine ⟨_, rfl, ⟨?_, ?_, ?_, fun c hc => ?_, fun h hh => ?_⟩, fun q hq => ?_⟩
    · rw [pk_cpy_out (by left; omega), pk_cpy_out (by left; omega), pk_un (by omega), pk_un (by omega), pk_us]; exact hA.1 3 (by decide)
    · rw [pk_cpy_out (by left; omega), pk_cpy_out (by left; omega), pk_un (by omega), pk_us]; exact hA.1 4 (by decide)
    · rw [pk_cpy_out (by left; omega), pk_cpy_out (by left; omega), pk_us]; exact hA.1 5 (by decide)
    · rw [pk_cpy_out (by left; omega), pk_cpy_in (by omega) (by show _ < o + 3 + 5; omega), show (0 : Int32).toNatClampNeg + (o + 3 + c - (o + 3)) = c by show 0 + _ = c; omega]; exact hA.2.2 7 c (by decide) (by decide) hc
    · rw [pk_cpy_in (by omega) (by show _ < o + 8 + 6; omega), show (0 : Int32).toNatClampNeg + (o + 8 + h - (o + 8)) = h by show 0 + _ = h; omega]; exact hA.2.1 2 h (by decide) (by decide) hh
    · rw [pk_cpy_out (by show _ ∨ o + 8 + 6 ≤ q; omega), pk_cpy_out (by show _ ∨ o + 3 + 5 ≤ q; omega), pk_un (by omega), pk_un (by omega), pk_un (by omega)]
/-- what an act can't change is alike -/
def Sta (α β : Al) : Prop := (∀ i, i < 8 → i ≠ 3 → i ≠ 4 → i ≠ 5 → α 0 i = β 0 i) ∧ (∀ x h, (x = 1 ∨ x = 3) → h < α 0 6 → α x h = β x h) ∧ (∀ x c, (x = 4 ∨ x = 5 ∨ x = 6) → c < α 0 7 → α x c = β x c)
theorem Sta.rf (α : Al) : Sta α α := ⟨fun _ _ _ _ _ => rfl, fun _ _ _ _ => rfl, fun _ _ _ _ => rfl⟩
theorem Sta.tr {α β γ : Al} (h : Sta α β) (k : Sta β γ) : Sta α γ := by
  have e6 := h.1 6 (by decide) (by decide) (by decide) (by decide)
  have e7 := h.1 7 (by decide) (by decide) (by decide) (by decide)
  exact ⟨fun i a b c d => (h.1 i a b c d).trans (k.1 i a b c d), fun x q a b => (h.2.1 x q a b).trans (k.2.1 x q a (by omega)), fun x q a b => (h.2.2 x q a b).trans (k.2.2 x q a (by omega))⟩
theorem Sta.sy {α β : Al} (h : Sta α β) : Sta β α := by
  have e6 := h.1 6 (by decide) (by decide) (by decide) (by decide)
  have e7 := h.1 7 (by decide) (by decide) (by decide) (by decide)
  exact ⟨fun i a b c d => (h.1 i a b c d).symm, fun x q a b => (h.2.1 x q a (by omega)).symm, fun x q a b => (h.2.2 x q a (by omega)).symm⟩
set_option maxHeartbeats 4000000 in
theorem c_readChanging {μ : Mem} {α β : Al} (hA : Abs (kac μ 15) α) (hs : Sta α β) (hH : α 0 6 ≤ 6) (hC : α 0 7 ≤ 5) {x : Int32} {o : Nat} (hx : x = nI o) (ho : o + 14 ≤ 336) (hB : Blk (μ 33) o β) : CtP yX2_readChanging cX2_readChanging 3 none 0 [vR 15, vR 33, vI x] μ (Pv (fun μ' => Abs (kac μ' 15) β ∧ ∀ a, (a < 15 ∨ 22 < a) → μ' a = μ a)) := by
  refine CtP.go RX2 rfl pn_X2 (Nat.le_of_ble_eq_true rfl) (fun C hG hR => ?_)
  subst hx
  have a1 : nI o + 1 = nI (o + 1) := nI_add o 1
  have a2 : nI o + 2 = nI (o + 2) := nI_add o 2
  have a3 : nI o + 3 = nI (o + 3) := nI_add o 3
  have a8 : nI (o + 3) + 5 = nI (o + 8) := nI_add (o + 3) 5
  have r0 : vp_in (nI o) 336 := vp_in_nI (by omega) (by decide)
  have r1 : vp_in (nI o + 1) 336 := by rw [a1]; exact vp_in_nI (by omega) (by decide)
  have r2 : vp_in (nI o + 2) 336 := by rw [a2]; exact vp_in_nI (by omega) (by decide)
  have n3 : ¬ nI o + 3 < 0 := by rw [a3]; exact nI_pos (by omega)
  have n8 : ¬ nI o + 3 + 5 < 0 := by rw [a3, a8]; exact nI_pos (by omega)
  have s3 : (nI o + 3).toNatClampNeg = o + 3 := by rw [a3]; exact nI_clamp (by omega)
  have s8 : (nI o + 3 + 5).toNatClampNeg = o + 8 := by rw [a3, a8]; exact nI_clamp (by omega)
  have c0 : (nI o).toNatClampNeg = o := nI_clamp (by omega)
  have c1 : (nI o + 1).toNatClampNeg = o + 1 := by rw [a1]; exact nI_clamp (by omega)
  have c2 : (nI o + 2).toNatClampNeg = o + 2 := by rw [a2]; exact nI_clamp (by omega)
  have e6 := hs.1 6 (by decide) (by decide) (by decide) (by decide)
  have e7 := hs.1 7 (by decide) (by decide) (by decide) (by decide)
  obtain ⟨b1, b2, b3, b4, b5⟩ := hB
  refine V_aload_n (pc := 0) hG (dk dd_X2_readChanging 0 rfl) rfl ?_
  refine V_aload_n (pc := 1) hG (dk dd_X2_readChanging 1 rfl) rfl ?_
  refine V_iload_n (pc := 2) hG (dk dd_X2_readChanging 2 rfl) rfl ?_
  refine V_iald (pc := 3) hG (dk dd_X2_readChanging 3 rfl) sh_33 r0 ?_
  refine V_putI (pc := 4) hG (dk dd_X2_readChanging 4 rfl) fl_X2_43 sh_15 rfl rfl ?_
  refine V_aload_n (pc := 7) hG (dk dd_X2_readChanging 5 rfl) rfl ?_
  refine V_aload_n (pc := 8) hG (dk dd_X2_readChanging 6 rfl) rfl ?_
  refine V_iload_n (pc := 9) hG (dk dd_X2_readChanging 7 rfl) rfl ?_
  refine V_iconst (pc := 10) hG (dk dd_X2_readChanging 8 rfl) (v := 1) (by decide) ?_
  refine V_iadd (pc := 11) hG (dk dd_X2_readChanging 9 rfl) ?_
  refine V_iald (pc := 12) hG (dk dd_X2_readChanging 10 rfl) sh_33 r1 ?_
  refine V_putI (pc := 13) hG (dk dd_X2_readChanging 11 rfl) fl_X2_46 sh_15 rfl rfl ?_
  refine V_aload_n (pc := 16) hG (dk dd_X2_readChanging 12 rfl) rfl ?_
  refine V_aload_n (pc := 17) hG (dk dd_X2_readChanging 13 rfl) rfl ?_
  refine V_iload_n (pc := 18) hG (dk dd_X2_readChanging 14 rfl) rfl ?_
  refine V_iconst (pc := 19) hG (dk dd_X2_readChanging 15 rfl) (v := 2) (by decide) ?_
  refine V_iadd (pc := 20) hG (dk dd_X2_readChanging 16 rfl) ?_
  refine V_iald (pc := 21) hG (dk dd_X2_readChanging 17 rfl) sh_33 r2 ?_
  refine V_putI (pc := 22) hG (dk dd_X2_readChanging 18 rfl) fl_X2_49 sh_15 rfl rfl ?_
  refine V_aload_n (pc := 25) hG (dk dd_X2_readChanging 19 rfl) rfl ?_
  refine V_iload_n (pc := 26) hG (dk dd_X2_readChanging 20 rfl) rfl ?_
  refine V_iconst (pc := 27) hG (dk dd_X2_readChanging 21 rfl) (v := 3) (by decide) ?_
  refine V_iadd (pc := 28) hG (dk dd_X2_readChanging 22 rfl) ?_
  refine V_aload_n (pc := 29) hG (dk dd_X2_readChanging 23 rfl) rfl ?_
  refine V_getR (pc := 30) hG (dk dd_X2_readChanging 24 rfl) fl_X2_30 sh_15 rfl ?_
  refine V_iconst (pc := 33) hG (dk dd_X2_readChanging 25 rfl) (v := 0) (by decide) ?_
  refine V_iconst (pc := 34) hG (dk dd_X2_readChanging 26 rfl) (v := 5) (by decide) ?_
  -- arraycopy
  refine V_acopy (pc := 35) hG (dk dd_X2_readChanging 27 rfl) ml_X2_64 sh_33 sh_22 n3 (by decide) (by decide) (by rw [s3]; show o + 3 + 5 ≤ 336; omega) (by decide) rfl ?_
  refine V_aload_n (pc := 38) hG (dk dd_X2_readChanging 28 rfl) rfl ?_
  refine V_iload_n (pc := 39) hG (dk dd_X2_readChanging 29 rfl) rfl ?_
  refine V_iconst (pc := 40) hG (dk dd_X2_readChanging 30 rfl) (v := 3) (by decide) ?_
  refine V_iadd (pc := 41) hG (dk dd_X2_readChanging 31 rfl) ?_
  refine V_iconst (pc := 42) hG (dk dd_X2_readChanging 32 rfl) (v := 5) (by decide) ?_
  refine V_iadd (pc := 43) hG (dk dd_X2_readChanging 33 rfl) ?_
  refine V_aload_n (pc := 44) hG (dk dd_X2_readChanging 34 rfl) rfl ?_
  refine V_getR (pc := 45) hG (dk dd_X2_readChanging 35 rfl) fl_X2_15 sh_15 rfl ?_
  refine V_iconst (pc := 48) hG (dk dd_X2_readChanging 36 rfl) (v := 0) (by decide) ?_
  refine V_bipush (pc := 49) hG (dk dd_X2_readChanging 37 rfl) (v := 6) (by decide) ?_
  -- arraycopy
  refine V_acopy (pc := 51) hG (dk dd_X2_readChanging 38 rfl) ml_X2_64 sh_33 sh_17 n8 (by decide) (by decide) (by rw [s8]; show o + 8 + 6 ≤ 336; omega) (by decide) rfl ?_
  refine V_vretP (pc := 54) hG (dk dd_X2_readChanging 39 rfl) hR (Pv.mk ?_)
  rotate_left
  -- leaves: return@54
  · refine ⟨⟨fun i hi => ?_, fun y h h1 h2 h3 => ?_, fun y c h1 h2 h3 => ?_⟩, fun a ha => by simp (disch := omega) only [setc_n]⟩
    · unfold kac
      simp (disch := omega) only [setc_s, setc_n, Nat.add_zero, c0, c1, c2]
      rcases (show i = 0 ∨ i = 1 ∨ i = 2 ∨ i = 3 ∨ i = 4 ∨ i = 5 ∨ i = 6 ∨ i = 7 by omega) with rfl | rfl | rfl | rfl | rfl | rfl | rfl | rfl
      · rw [← hs.1 0 (by decide) (by decide) (by decide) (by decide)]; exact hA.1 0 (by decide)
      · rw [← hs.1 1 (by decide) (by decide) (by decide) (by decide)]; exact hA.1 1 (by decide)
      · rw [← hs.1 2 (by decide) (by decide) (by decide) (by decide)]; exact hA.1 2 (by decide)
      · exact b1
      · exact b2
      · exact b3
      · rw [← e6]; exact hA.1 6 (by decide)
      · rw [← e7]; exact hA.1 7 (by decide)
    · unfold kac
      rcases (show y = 1 ∨ y = 2 ∨ y = 3 by omega) with rfl | rfl | rfl
      · simp (disch := omega) only [setc_n]
        rw [← hs.2.1 1 h (Or.inl rfl) (by omega)]; exact hA.2.1 1 h (by decide) (by decide) (by omega)
      · simp (disch := omega) only [setc_s, setc_n, s8]
        rw [pk_cpy_in (by show 0 ≤ h; omega) (by show h < 0 + 6; omega)]; exact b5 h h3
      · simp (disch := omega) only [setc_n]
        rw [← hs.2.1 3 h (Or.inr rfl) (by omega)]; exact hA.2.1 3 h (by decide) (by decide) (by omega)
    · unfold kac
      rcases (show y = 4 ∨ y = 5 ∨ y = 6 ∨ y = 7 by omega) with rfl | rfl | rfl | rfl
      · simp (disch := omega) only [setc_n]
        rw [← hs.2.2 4 c (Or.inl rfl) (by omega)]; exact hA.2.2 4 c (by decide) (by decide) (by omega)
      · simp (disch := omega) only [setc_n]
        rw [← hs.2.2 5 c (Or.inr (Or.inl rfl)) (by omega)]; exact hA.2.2 5 c (by decide) (by decide) (by omega)
      · simp (disch := omega) only [setc_n]
        rw [← hs.2.2 6 c (Or.inr (Or.inr rfl)) (by omega)]; exact hA.2.2 6 c (by decide) (by decide) (by omega)
      · simp (disch := omega) only [setc_s, setc_n, s3]
        rw [pk_cpy_in (by show 0 ≤ c; omega) (by show c < 0 + 5; omega)]; exact b4 c h3
