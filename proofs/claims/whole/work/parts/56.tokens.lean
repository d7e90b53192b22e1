/-! ===== the model: tokens ===== -/
def TpM (μ : Mem) (τ : Nat → Nat) (n : Nat) : Prop := μ 67 11 = nI n ∧ n ≤ 120 ∧ ∀ k, k < n → μ 75 k = nI (τ k) ∧ τ k < 256
def tk1 (τ : Nat → Nat) (n p : Nat) : Nat := if n ≤ p then 1 else if 97 ≤ τ p ∧ τ p ≤ 122 then 2 else if 48 ≤ τ p ∧ τ p ≤ 57 then 3 else if τ p = 44 ∨ τ p = 59 then 4 else 0
def tkN (τ : Nat → Nat) (n p : Nat) : Nat := if tk1 τ n p = 3 ∧ fgN τ n p = 3 then 0 else tk1 τ n p
def TokS (μ : Mem) (τ : Nat → Nat) (n p : Nat) : Prop := μ 67 13 = nI p ∧ p ≤ n ∧ μ 67 14 = nI (tkN τ n p) ∧ ((tkN τ n p = 2 ∨ tkN τ n p = 4) → μ 67 15 = nI (τ p) ∧ μ 67 12 = nI (p + 1)) ∧ (tkN τ n p = 3 → μ 67 15 = nI (valS τ n p) ∧ μ 67 12 = nI (p + fgN τ n p))
/-- only the reading's own numbers have changed -/
def OffT (μ μ' : Mem) : Prop := (∀ j, j ≠ 67 → μ' j = μ j) ∧ ∀ q, (q < 12 ∨ 17 < q) → μ' 67 q = μ 67 q
theorem OffT.rf (μ : Mem) : OffT μ μ := ⟨fun _ _ => rfl, fun _ _ => rfl⟩
theorem OffT.tr {μ1 μ2 μ3 : Mem} (h : OffT μ1 μ2) (k : OffT μ2 μ3) : OffT μ1 μ3 := ⟨fun j hj => (k.1 j hj).trans (h.1 j hj), fun q hq => (k.2 q hq).trans (h.2 q hq)⟩
theorem TpM.off {μ μ' : Mem} {τ : Nat → Nat} {n : Nat} (h : TpM μ τ n) (k : OffT μ μ') : TpM μ' τ n := ⟨by rw [k.2 11 (by decide)]; exact h.1, h.2.1, fun q hq => by rw [k.1 75 (by decide)]; exact h.2.2 q hq⟩
theorem rng_i {a lo hi : Nat} (ha : a < 2 ^ 31) (hl : lo < 2 ^ 31) (hh : hi < 2 ^ 31) : (nI lo ≤ nI a ∧ nI a ≤ nI hi) ↔ (lo ≤ a ∧ a ≤ hi) := by rw [nI_leI hl ha, nI_leI ha hh]
theorem dig2 {a b : Nat} (hb : 48 ≤ b) : (10 : Int32) * nI a + nI b - 48 = nI (10 * a + (b - 48)) := by
  rw [show (10 : Int32) = nI 10 from rfl, show (48 : Int32) = nI 48 from rfl, pk_mul, nI_add, pk_sub (by omega)]
  congr 1; omega
def valR (τ : Nat → Nat) (p c : Nat) : Nat := if c = p + 1 then τ p - 48 else 10 * (τ p - 48) + (τ (p + 1) - 48)
/-- within nextToken: the start, the cursor -/
def NT (μ : Mem) (p c : Nat) (m : Mem) : Prop := (∀ j, j ≠ 67 → m j = μ j) ∧ (∀ q, (q < 12 ∨ 15 < q) → m 67 q = μ 67 q) ∧ m 67 13 = nI p ∧ m 67 12 = nI c
theorem NT.put {μ m : Mem} {p c k : Nat} {v : Int32} (h : NT μ p c m) (hk : k = 14 ∨ k = 15) : NT μ p c (setc m 67 (upd (m 67) k v)) := by
  obtain ⟨h1, h2, h3, h4⟩ := h
  exact ⟨fun j hj => by rw [setc_n hj]; exact h1 j hj, fun q hq => by rw [setc_s, upd_n (by omega)]; exact h2 q hq, by rw [setc_s, upd_n (by omega)]; exact h3, by rw [setc_s, upd_n (by omega)]; exact h4⟩
theorem NT.cur {μ m : Mem} {p c c' : Nat} {v : Int32} (h : NT μ p c m) (hv : v = nI c') : NT μ p c' (setc m 67 (upd (m 67) 12 v)) := by
  obtain ⟨h1, h2, h3, h4⟩ := h
  exact ⟨fun j hj => by rw [setc_n hj]; exact h1 j hj, fun q hq => by rw [setc_s, upd_n (by omega)]; exact h2 q hq, by rw [setc_s, upd_n (by omega)]; exact h3, by rw [setc_s, upd_s]; exact hv⟩
set_option maxHeartbeats 1000000 in
theorem m_nextToken {μ : Mem} {τ : Nat → Nat} {n p : Nat} (hT : TpM μ τ n) (hp : p ≤ n) (hc : μ 67 12 = nI p) :
    CtP yX10_nextToken cX10_nextToken 1 none 1 [vR 67] μ (Pv (fun μ' => TokS μ' τ n p ∧ (∀ j, j ≠ 67 → μ' j = μ j) ∧ ∀ q, (q < 12 ∨ 15 < q) → μ' 67 q = μ 67 q)) := by
  refine CtP.go RX10 rfl pn_X10 (Nat.le_of_ble_eq_true rfl) (fun C hG hR => ?_)
  obtain ⟨t1, t2, t3⟩ := hT
  have tn : ∀ {c m}, NT μ p c m → m 67 11 = nI n := fun h => by rw [h.2.1 11 (by decide)]; exact t1
  have tp : ∀ {c m}, NT μ p c m → ∀ k, k < n → m 75 k = nI (τ k) ∧ τ k < 256 := fun h k hk => by rw [h.1 75 (by decide)]; exact t3 k hk
  have fin : ∀ c m, p < c → c ≤ n → (∀ i, p ≤ i → i < c → fig τ n i) → ¬ fig τ n c → NT μ p c m → m 67 15 = nI (valR τ p c) → V C 255 [(0, vR 67)] [] m := by
    intro c m h1 h2 h3 h4 h5 h6
    have hf := h3 p (by omega) h1
    have e1 : tk1 τ n p = 3 := by unfold tk1; rw [if_neg (by omega), if_neg (by omega), if_pos (by omega)]
    refine V_aload_n (pc := 255) hG (dk dd_X10_nextToken 125 rfl) rfl ?_
    refine V_aload_n (pc := 256) hG (dk dd_X10_nextToken 126 rfl) rfl ?_
    refine V_getI (pc := 257) hG (dk dd_X10_nextToken 127 rfl) fl_X10_102 sh_67 rfl ?_
    refine V_aload_n (pc := 260) hG (dk dd_X10_nextToken 128 rfl) rfl ?_
    refine V_getI (pc := 261) hG (dk dd_X10_nextToken 129 rfl) fl_X10_96 sh_67 rfl ?_
    refine V_isub (pc := 264) hG (dk dd_X10_nextToken 130 rfl) ?_
    refine V_iconst (pc := 265) hG (dk dd_X10_nextToken 131 rfl) (v := 2) (by decide) ?_
    refine V_icmp_le (pc := 266) hG (dk dd_X10_nextToken 132 rfl) (tgt := 273) (by decide) (fun h266 => ?_) (fun h266 => ?_)
    refine V_iconst (pc := 273) hG (dk dd_X10_nextToken 135 rfl) (v := 3) (by decide) ?_
    refine V_putI (pc := 274) hG (dk dd_X10_nextToken 136 rfl) fl_X10_117 sh_67 rfl rfl ?_
    refine V_vretP (pc := 277) hG (dk dd_X10_nextToken 137 rfl) hR (Pv.mk ?_)
    rotate_left
    refine V_iconst (pc := 269) hG (dk dd_X10_nextToken 133 rfl) (v := 0) (by decide) ?_
    refine V_goto (pc := 270) hG (dk dd_X10_nextToken 134 rfl) (tgt := 274) (by decide) ?_
    refine V_putI (pc := 274) hG (dk dd_X10_nextToken 136 rfl) fl_X10_117 sh_67 rfl rfl ?_
    refine V_vretP (pc := 277) hG (dk dd_X10_nextToken 137 rfl) hR (Pv.mk ?_)
    rotate_left
    -- leaves: return@277; return@277
    · rw [h5.2.2.1, h5.2.2.2, pk_sub (by omega)] at h266
      have h266 := le_i (b := 2) h266 (by omega) (by omega)
      have hfg : fgN τ n p = c - p := fgN_eq (fun i hi => h3 _ (by omega) (by omega)) (Or.inr (by rw [show p + (c - p) = c by omega]; exact h4)) (by omega)
      have e2 : tkN τ n p = 3 := by unfold tkN; rw [if_neg (by omega), e1]
      have h7 := h5.put (k := 14) (v := 3) (Or.inl rfl)
      refine ⟨⟨h7.2.2.1, hp, ?_, ?_, ?_⟩, h7.1, h7.2.1⟩
      · rw [setc_s, upd_s, e2]; rfl
      · intro z; omega
      · intro z
        refine ⟨?_, by rw [h7.2.2.2, hfg]; congr 1; omega⟩
        rw [setc_s, upd_n (by decide), h6]; unfold valR valS
        by_cases q : c = p + 1
        · rw [if_pos q, if_neg (by omega)]
        · rw [if_neg q, if_pos (by omega)]
    · rw [h5.2.2.1, h5.2.2.2, pk_sub (by omega)] at h266
      have h266 := nle_i (b := 2) h266 (by omega) (by omega)
      have hfg : fgN τ n p = 3 := fgN_eq (fun i hi => h3 _ (by omega) (by omega)) (Or.inl rfl) (by omega)
      have e2 : tkN τ n p = 0 := by unfold tkN; rw [if_pos ⟨e1, hfg⟩]
      have h7 := h5.put (k := 14) (v := 0) (Or.inl rfl)
      refine ⟨⟨h7.2.2.1, hp, ?_, ?_, ?_⟩, h7.1, h7.2.1⟩
      · rw [setc_s, upd_s, e2]; rfl
      · intro z; omega
      · intro z; omega
  have loop : ∀ k c m, c + k = n → p < c → (∀ i, p ≤ i → i < c → fig τ n i) → NT μ p c m → m 67 15 = nI (valR τ p c) → V C 165 [(0, vR 67)] [] m := by
    intro k
    induction k with
    | zero =>
      intro c m h1 h2 h3 h4 h5
      refine V_aload_n (pc := 165) hG (dk dd_X10_nextToken 79 rfl) rfl ?_
      refine V_getI (pc := 166) hG (dk dd_X10_nextToken 80 rfl) fl_X10_102 sh_67 rfl ?_
      refine V_aload_n (pc := 169) hG (dk dd_X10_nextToken 81 rfl) rfl ?_
      refine V_getI (pc := 170) hG (dk dd_X10_nextToken 82 rfl) fl_X10_89 sh_67 rfl ?_
      refine V_icmp_ge (pc := 173) hG (dk dd_X10_nextToken 83 rfl) (tgt := 255) (by decide) (fun h173 => ?_) (fun h173 => ?_)
      rotate_left
      rotate_left
      -- leaves: stop 255; stop 176
      · exact fin c m h2 (by omega) h3 (fun z => by have := z.1; omega) h4 h5
      · exfalso; rw [h4.2.2.2, tn h4] at h173; have := nle_i h173 (by omega) (by omega); omega
    | succ k ih =>
      intro c m h1 h2 h3 h4 h5
      have hcn : c < n := by omega
      have ec : m 67 12 = nI c := h4.2.2.2
      have cl : (m 67 12).toNatClampNeg = c := nI_cl ec (by omega)
      have hr : vp_in (m 67 12) 120 := by rw [ec]; exact vp_in_nI (by omega) (by decide)
      have hd := tp h4 c hcn
      have ri := rng_i (a := τ c) (lo := 48) (hi := 57) (by omega) (by decide) (by decide)
      have go : ∀ v, v = nI (valR τ p (c + 1)) → fig τ n c → V C 239 [(0, vR 67)] [vI v, vR 67] m := by
        intro v hv hf
        have h7 := h4.put (k := 15) (v := v) (Or.inr rfl)
        have h8 := h7.cur (c' := c + 1) (v := setc m 67 (upd (m 67) 15 v) 67 12 + 1) (by rw [h7.2.2.2, nI_1])
        have hI := ih (c + 1) _ (by omega) (by omega) (fun i a b => if z : i = c then z ▸ hf else h3 i a (by omega)) h8 (by rw [setc_s, upd_n (by decide), setc_s, upd_s]; exact hv)
        refine V_putI (pc := 239) hG (dk dd_X10_nextToken 117 rfl) fl_X10_106 sh_67 rfl rfl ?_
        refine V_aload_n (pc := 242) hG (dk dd_X10_nextToken 118 rfl) rfl ?_
        refine V_dup (pc := 243) hG (dk dd_X10_nextToken 119 rfl) rfl ?_
        refine V_getI (pc := 244) hG (dk dd_X10_nextToken 120 rfl) fl_X10_102 sh_67 rfl ?_
        refine V_iconst (pc := 247) hG (dk dd_X10_nextToken 121 rfl) (v := 1) (by decide) ?_
        refine V_iadd (pc := 248) hG (dk dd_X10_nextToken 122 rfl) ?_
        refine V_putI (pc := 249) hG (dk dd_X10_nextToken 123 rfl) fl_X10_102 sh_67 rfl rfl ?_
        refine V_goto (pc := 252) hG (dk dd_X10_nextToken 124 rfl) (tgt := 165) (by decide) ?_
        rotate_left
        -- leaves: stop 165
        · exact hI
      refine V_aload_n (pc := 165) hG (dk dd_X10_nextToken 79 rfl) rfl ?_
      refine V_getI (pc := 166) hG (dk dd_X10_nextToken 80 rfl) fl_X10_102 sh_67 rfl ?_
      refine V_aload_n (pc := 169) hG (dk dd_X10_nextToken 81 rfl) rfl ?_
      refine V_getI (pc := 170) hG (dk dd_X10_nextToken 82 rfl) fl_X10_89 sh_67 rfl ?_
      refine V_icmp_ge (pc := 173) hG (dk dd_X10_nextToken 83 rfl) (tgt := 255) (by decide) (fun h173 => ?_) (fun h173 => ?_)
      rotate_left
      refine V_aload_n (pc := 176) hG (dk dd_X10_nextToken 84 rfl) rfl ?_
      refine V_getR (pc := 177) hG (dk dd_X10_nextToken 85 rfl) fl_X10_31 sh_67 rfl ?_
      refine V_aload_n (pc := 180) hG (dk dd_X10_nextToken 86 rfl) rfl ?_
      refine V_getI (pc := 181) hG (dk dd_X10_nextToken 87 rfl) fl_X10_102 sh_67 rfl ?_
      refine V_iald (pc := 184) hG (dk dd_X10_nextToken 88 rfl) sh_75 hr ?_
      refine V_i2l (pc := 185) hG (dk dd_X10_nextToken 89 rfl) ?_
      refine V_ldc2_w (pc := 186) hG (dk dd_X10_nextToken 90 rfl) kk_X10_113 ?_
      refine V_ldc2_w (pc := 189) hG (dk dd_X10_nextToken 91 rfl) kk_X10_115 ?_
      refine V_callSip (pc := 192) hG (dk dd_X10_nextToken 92 rfl) ml_X10_72 mo_X10_in (m_inI (v := m 75 (m 67 12).toNatClampNeg) (lo := 48) (hi := 57) rfl (by decide) (by decide)) (by decide) (by decide) rfl rfl rfl (fun x192 m192 p192 => ?_)
      refine V_if_eq (pc := 195) hG (dk dd_X10_nextToken 93 rfl) (tgt := 255) (by decide) (fun h195 => ?_) (fun h195 => ?_)
      rotate_left
      refine V_aload_n (pc := 198) hG (dk dd_X10_nextToken 94 rfl) rfl ?_
      refine V_aload_n (pc := 199) hG (dk dd_X10_nextToken 95 rfl) rfl ?_
      refine V_getI (pc := 200) hG (dk dd_X10_nextToken 96 rfl) fl_X10_102 sh_67 rfl ?_
      refine V_aload_n (pc := 203) hG (dk dd_X10_nextToken 97 rfl) rfl ?_
      refine V_getI (pc := 204) hG (dk dd_X10_nextToken 98 rfl) fl_X10_96 sh_67 rfl ?_
      refine V_isub (pc := 207) hG (dk dd_X10_nextToken 99 rfl) ?_
      refine V_iconst (pc := 208) hG (dk dd_X10_nextToken 100 rfl) (v := 2) (by decide) ?_
      refine V_icmp_ge (pc := 209) hG (dk dd_X10_nextToken 101 rfl) (tgt := 235) (by decide) (fun h209 => ?_) (fun h209 => ?_)
      refine V_aload_n (pc := 235) hG (dk dd_X10_nextToken 115 rfl) rfl ?_
      refine V_getI (pc := 236) hG (dk dd_X10_nextToken 116 rfl) fl_X10_106 sh_67 rfl ?_
      rotate_left
      refine V_bipush (pc := 212) hG (dk dd_X10_nextToken 102 rfl) (v := 10) (by decide) ?_
      refine V_aload_n (pc := 214) hG (dk dd_X10_nextToken 103 rfl) rfl ?_
      refine V_getI (pc := 215) hG (dk dd_X10_nextToken 104 rfl) fl_X10_106 sh_67 rfl ?_
      refine V_imul (pc := 218) hG (dk dd_X10_nextToken 105 rfl) ?_
      refine V_aload_n (pc := 219) hG (dk dd_X10_nextToken 106 rfl) rfl ?_
      refine V_getR (pc := 220) hG (dk dd_X10_nextToken 107 rfl) fl_X10_31 sh_67 rfl ?_
      refine V_aload_n (pc := 223) hG (dk dd_X10_nextToken 108 rfl) rfl ?_
      refine V_getI (pc := 224) hG (dk dd_X10_nextToken 109 rfl) fl_X10_102 sh_67 rfl ?_
      refine V_iald (pc := 227) hG (dk dd_X10_nextToken 110 rfl) sh_75 (by rw [p192.1]; exact hr) ?_
      refine V_iadd (pc := 228) hG (dk dd_X10_nextToken 111 rfl) ?_
      refine V_bipush (pc := 229) hG (dk dd_X10_nextToken 112 rfl) (v := 48) (by decide) ?_
      refine V_isub (pc := 231) hG (dk dd_X10_nextToken 113 rfl) ?_
      refine V_goto (pc := 232) hG (dk dd_X10_nextToken 114 rfl) (tgt := 239) (by decide) ?_
      rotate_left
      -- leaves: stop 255; stop 255; stop 239; stop 239
      · exfalso; rw [ec, tn h4] at h173; have := le_i h173 (by omega) (by omega); omega
      · obtain ⟨e, z⟩ := p192
        rw [e]
        refine fin c m h2 (by omega) h3 (fun q => z.no h195 ?_) h4 h5
        rw [cl, hd.1]; exact ri.mpr q.2
      · obtain ⟨e, z⟩ := p192
        have z := z.yes h195
        rw [cl, hd.1] at z
        have z := ri.mp z
        rw [e] at h209 ⊢
        rw [ec, h4.2.2.1, pk_sub (by omega)] at h209
        have h209 := le_i (a := 2) h209 (by omega) (by omega)
        refine go _ ?_ ⟨hcn, z⟩
        rw [h5]; unfold valR; rw [if_neg (by omega), if_neg (by omega)]
      · obtain ⟨e, z⟩ := p192
        have z := z.yes h195
        rw [cl, hd.1] at z
        have z := ri.mp z
        rw [e] at h209 ⊢
        rw [ec, h4.2.2.1, pk_sub (by omega)] at h209
        have h209 := nle_i (a := 2) h209 (by omega) (by omega)
        refine go _ ?_ ⟨hcn, z⟩
        have q : c = p + 1 := by omega
        rw [cl, h5, hd.1]; unfold valR
        rw [if_pos q, if_neg (by omega), dig2 z.1, q]
  have L118 : ∀ m t, NT μ p p m → (p < n → m 67 15 = nI (τ p)) → t = nI (tk1 τ n p) → V C 118 [(0, vR 67)] [vI t, vR 67] m := by
    intro m t h1 h2 h3
    have h4 := h1.put (k := 14) (v := t) (Or.inl rfl)
    have e4 : setc m 67 (upd (m 67) 14 t) 67 12 = nI p := h4.2.2.2
    have e1 : setc m 67 (upd (m 67) 14 t) 67 11 = nI n := tn h4
    have tl : tk1 τ n p ≤ 4 := by unfold tk1; repeat (first | split | omega)
    refine V_putI (pc := 118) hG (dk dd_X10_nextToken 55 rfl) fl_X10_117 sh_67 rfl rfl ?_
    refine V_aload_n (pc := 121) hG (dk dd_X10_nextToken 56 rfl) rfl ?_
    refine V_dup (pc := 122) hG (dk dd_X10_nextToken 57 rfl) rfl ?_
    refine V_getI (pc := 123) hG (dk dd_X10_nextToken 58 rfl) fl_X10_102 sh_67 rfl ?_
    refine V_aload_n (pc := 126) hG (dk dd_X10_nextToken 59 rfl) rfl ?_
    refine V_getI (pc := 127) hG (dk dd_X10_nextToken 60 rfl) fl_X10_102 sh_67 rfl ?_
    refine V_aload_n (pc := 130) hG (dk dd_X10_nextToken 61 rfl) rfl ?_
    refine V_getI (pc := 131) hG (dk dd_X10_nextToken 62 rfl) fl_X10_89 sh_67 rfl ?_
    refine V_icmp_ge (pc := 134) hG (dk dd_X10_nextToken 63 rfl) (tgt := 141) (by decide) (fun h134 => ?_) (fun h134 => ?_)
    refine V_iconst (pc := 141) hG (dk dd_X10_nextToken 66 rfl) (v := 0) (by decide) ?_
    refine V_iadd (pc := 142) hG (dk dd_X10_nextToken 67 rfl) ?_
    refine V_putI (pc := 143) hG (dk dd_X10_nextToken 68 rfl) fl_X10_102 sh_67 rfl rfl ?_
    refine V_aload_n (pc := 146) hG (dk dd_X10_nextToken 69 rfl) rfl ?_
    refine V_getI (pc := 147) hG (dk dd_X10_nextToken 70 rfl) fl_X10_117 sh_67 rfl ?_
    refine V_iconst (pc := 150) hG (dk dd_X10_nextToken 71 rfl) (v := 3) (by decide) ?_
    refine V_icmp_ne (pc := 151) hG (dk dd_X10_nextToken 72 rfl) (tgt := 277) (by decide) (fun h151 => ?_) (fun h151 => ?_)
    refine V_vretP (pc := 277) hG (dk dd_X10_nextToken 137 rfl) hR (Pv.mk ?_)
    rotate_left
    rotate_left
    refine V_iconst (pc := 137) hG (dk dd_X10_nextToken 64 rfl) (v := 1) (by decide) ?_
    refine V_goto (pc := 138) hG (dk dd_X10_nextToken 65 rfl) (tgt := 142) (by decide) ?_
    refine V_iadd (pc := 142) hG (dk dd_X10_nextToken 67 rfl) ?_
    refine V_putI (pc := 143) hG (dk dd_X10_nextToken 68 rfl) fl_X10_102 sh_67 rfl rfl ?_
    refine V_aload_n (pc := 146) hG (dk dd_X10_nextToken 69 rfl) rfl ?_
    refine V_getI (pc := 147) hG (dk dd_X10_nextToken 70 rfl) fl_X10_117 sh_67 rfl ?_
    refine V_iconst (pc := 150) hG (dk dd_X10_nextToken 71 rfl) (v := 3) (by decide) ?_
    refine V_icmp_ne (pc := 151) hG (dk dd_X10_nextToken 72 rfl) (tgt := 277) (by decide) (fun h151 => ?_) (fun h151 => ?_)
    refine V_vretP (pc := 277) hG (dk dd_X10_nextToken 137 rfl) hR (Pv.mk ?_)
    rotate_left
    rotate_left
    -- leaves: return@277; stop 154; return@277; stop 154
    · rw [e4, e1] at h134
      have h134 := le_i h134 (by omega) (by omega)
      have e : tk1 τ n p = 1 := by unfold tk1; rw [if_pos h134]
      have e2 : tkN τ n p = 1 := by unfold tkN; rw [if_neg (by omega), e]
      have h7 := h4.cur (c' := p) (v := setc m 67 (upd (m 67) 14 t) 67 12 + 0) (by rw [Int32.add_zero]; exact e4)
      refine ⟨⟨h7.2.2.1, hp, ?_, ?_, ?_⟩, h7.1, h7.2.1⟩
      · rw [setc_s, upd_n (by decide), setc_s, upd_s, e2, h3, e]
      · intro z; omega
      · intro z; omega
    · exfalso
      rw [e4, e1] at h134
      have h134 := le_i h134 (by omega) (by omega)
      have e : tk1 τ n p = 1 := by unfold tk1; rw [if_pos h134]
      rw [setc_s, upd_n (by decide), setc_s, upd_s, h3, e] at h151
      exact absurd h151 (by decide)
    · rw [e4, e1] at h134
      have h134 := nle_i h134 (by omega) (by omega)
      have h7 := h4.cur (c' := p + 1) (v := setc m 67 (upd (m 67) 14 t) 67 12 + 1) (by rw [e4, nI_1])
      rw [setc_s, upd_n (by decide), setc_s, upd_s, h3] at h151
      have e3 : tk1 τ n p ≠ 3 := fun z => h151 (by rw [z]; rfl)
      have e2 : tkN τ n p = tk1 τ n p := by unfold tkN; rw [if_neg (by omega)]
      refine ⟨⟨h7.2.2.1, hp, ?_, ?_, ?_⟩, h7.1, h7.2.1⟩
      · rw [setc_s, upd_n (by decide), setc_s, upd_s, e2, h3]
      · intro z
        exact ⟨by rw [setc_s, upd_n (by decide), setc_s, upd_n (by decide)]; exact h2 h134, h7.2.2.2⟩
      · intro z; omega
    · rw [e4, e1] at h134
      have h134 := nle_i h134 (by omega) (by omega)
      have h7 := h4.cur (c' := p + 1) (v := setc m 67 (upd (m 67) 14 t) 67 12 + 1) (by rw [e4, nI_1])
      rw [setc_s, upd_n (by decide), setc_s, upd_s, h3] at h151
      have e3 : tk1 τ n p = 3 := (nI_eq (b := 3) (by omega) (by decide)).mp h151
      have hf : 48 ≤ τ p ∧ τ p ≤ 57 := by
        unfold tk1 at e3
        repeat (first | (split at e3) | omega)
      have ev : setc (setc m 67 (upd (m 67) 14 t)) 67 (upd (setc m 67 (upd (m 67) 14 t) 67) 12 (setc m 67 (upd (m 67) 14 t) 67 12 + 1)) 67 15 = nI (τ p) := by
        rw [setc_s, upd_n (by decide), setc_s, upd_n (by decide)]; exact h2 h134
      have hI := loop (n - (p + 1)) (p + 1) _ (by omega) (by omega) (fun i a b => by rw [show i = p by omega]; exact ⟨h134, hf⟩) (h7.put (k := 15) (v := nI (τ p) - 48) (Or.inr rfl)) (by
        rw [setc_s, upd_s]; unfold valR; rw [if_pos rfl, show (48 : Int32) = nI 48 from rfl, pk_sub hf.1])
      refine V_aload_n (pc := 154) hG (dk dd_X10_nextToken 73 rfl) rfl ?_
      refine V_dup (pc := 155) hG (dk dd_X10_nextToken 74 rfl) rfl ?_
      refine V_getI (pc := 156) hG (dk dd_X10_nextToken 75 rfl) fl_X10_106 sh_67 rfl ?_
      refine V_bipush (pc := 159) hG (dk dd_X10_nextToken 76 rfl) (v := 48) (by decide) ?_
      refine V_isub (pc := 161) hG (dk dd_X10_nextToken 77 rfl) ?_
      refine V_putI (pc := 162) hG (dk dd_X10_nextToken 78 rfl) fl_X10_106 sh_67 rfl rfl ?_
      rotate_left
      -- leaves: stop 165
      · rw [ev]; exact hI
  have L37 : ∀ m, NT μ p p m → (p < n → m 67 15 = nI (τ p)) → V C 37 [(0, vR 67)] [] m := by
    intro m h1 h2
    have e4 : m 67 12 = nI p := h1.2.2.2
    have e1 : m 67 11 = nI n := tn h1
    have hlt : ¬ nI p = nI n → p < n := fun h46 => by
      have : p ≠ n := fun z => h46 (by rw [z])
      omega
    have r1 := fun (hl : p < n) => rng_i (a := τ p) (lo := 97) (hi := 122) (by have := (t3 p hl).2; omega) (by decide) (by decide)
    have r2 := fun (hl : p < n) => rng_i (a := τ p) (lo := 48) (hi := 57) (by have := (t3 p hl).2; omega) (by decide) (by decide)
    refine V_aload_n (pc := 37) hG (dk dd_X10_nextToken 18 rfl) rfl ?_
    refine V_aload_n (pc := 38) hG (dk dd_X10_nextToken 19 rfl) rfl ?_
    refine V_getI (pc := 39) hG (dk dd_X10_nextToken 20 rfl) fl_X10_102 sh_67 rfl ?_
    refine V_aload_n (pc := 42) hG (dk dd_X10_nextToken 21 rfl) rfl ?_
    refine V_getI (pc := 43) hG (dk dd_X10_nextToken 22 rfl) fl_X10_89 sh_67 rfl ?_
    refine V_icmp_ne (pc := 46) hG (dk dd_X10_nextToken 23 rfl) (tgt := 53) (by decide) (fun h46 => ?_) (fun h46 => ?_)
    refine V_aload_n (pc := 53) hG (dk dd_X10_nextToken 26 rfl) rfl ?_
    refine V_getI (pc := 54) hG (dk dd_X10_nextToken 27 rfl) fl_X10_106 sh_67 rfl ?_
    refine V_i2l (pc := 57) hG (dk dd_X10_nextToken 28 rfl) ?_
    refine V_ldc2_w (pc := 58) hG (dk dd_X10_nextToken 29 rfl) kk_X10_109 ?_
    refine V_ldc2_w (pc := 61) hG (dk dd_X10_nextToken 30 rfl) kk_X10_111 ?_
    refine V_callSip (pc := 64) hG (dk dd_X10_nextToken 31 rfl) ml_X10_72 mo_X10_in (m_inI (v := m 67 15) (lo := 97) (hi := 122) rfl (by decide) (by decide)) (by decide) (by decide) rfl rfl rfl (fun x64 m64 p64 => ?_)
    refine V_if_eq (pc := 67) hG (dk dd_X10_nextToken 32 rfl) (tgt := 74) (by decide) (fun h67 => ?_) (fun h67 => ?_)
    refine V_aload_n (pc := 74) hG (dk dd_X10_nextToken 35 rfl) rfl ?_
    refine V_getI (pc := 75) hG (dk dd_X10_nextToken 36 rfl) fl_X10_106 sh_67 rfl ?_
    refine V_i2l (pc := 78) hG (dk dd_X10_nextToken 37 rfl) ?_
    refine V_ldc2_w (pc := 79) hG (dk dd_X10_nextToken 38 rfl) kk_X10_113 ?_
    refine V_ldc2_w (pc := 82) hG (dk dd_X10_nextToken 39 rfl) kk_X10_115 ?_
    refine V_callSip (pc := 85) hG (dk dd_X10_nextToken 40 rfl) ml_X10_72 mo_X10_in (m_inI (v := m64 67 15) (lo := 48) (hi := 57) rfl (by decide) (by decide)) (by decide) (by decide) rfl rfl rfl (fun x85 m85 p85 => ?_)
    refine V_if_eq (pc := 88) hG (dk dd_X10_nextToken 41 rfl) (tgt := 95) (by decide) (fun h88 => ?_) (fun h88 => ?_)
    refine V_aload_n (pc := 95) hG (dk dd_X10_nextToken 44 rfl) rfl ?_
    refine V_getI (pc := 96) hG (dk dd_X10_nextToken 45 rfl) fl_X10_106 sh_67 rfl ?_
    refine V_bipush (pc := 99) hG (dk dd_X10_nextToken 46 rfl) (v := 44) (by decide) ?_
    refine V_icmp_eq (pc := 101) hG (dk dd_X10_nextToken 47 rfl) (tgt := 113) (by decide) (fun h101 => ?_) (fun h101 => ?_)
    refine V_iconst (pc := 113) hG (dk dd_X10_nextToken 52 rfl) (v := 4) (by decide) ?_
    refine V_goto (pc := 114) hG (dk dd_X10_nextToken 53 rfl) (tgt := 118) (by decide) ?_
    rotate_left
    refine V_aload_n (pc := 104) hG (dk dd_X10_nextToken 48 rfl) rfl ?_
    refine V_getI (pc := 105) hG (dk dd_X10_nextToken 49 rfl) fl_X10_106 sh_67 rfl ?_
    refine V_bipush (pc := 108) hG (dk dd_X10_nextToken 50 rfl) (v := 59) (by decide) ?_
    refine V_icmp_ne (pc := 110) hG (dk dd_X10_nextToken 51 rfl) (tgt := 117) (by decide) (fun h110 => ?_) (fun h110 => ?_)
    refine V_iconst (pc := 117) hG (dk dd_X10_nextToken 54 rfl) (v := 0) (by decide) ?_
    rotate_left
    refine V_iconst (pc := 113) hG (dk dd_X10_nextToken 52 rfl) (v := 4) (by decide) ?_
    refine V_goto (pc := 114) hG (dk dd_X10_nextToken 53 rfl) (tgt := 118) (by decide) ?_
    rotate_left
    refine V_iconst (pc := 91) hG (dk dd_X10_nextToken 42 rfl) (v := 3) (by decide) ?_
    refine V_goto (pc := 92) hG (dk dd_X10_nextToken 43 rfl) (tgt := 118) (by decide) ?_
    rotate_left
    refine V_iconst (pc := 70) hG (dk dd_X10_nextToken 33 rfl) (v := 2) (by decide) ?_
    refine V_goto (pc := 71) hG (dk dd_X10_nextToken 34 rfl) (tgt := 118) (by decide) ?_
    rotate_left
    refine V_iconst (pc := 49) hG (dk dd_X10_nextToken 24 rfl) (v := 1) (by decide) ?_
    refine V_goto (pc := 50) hG (dk dd_X10_nextToken 25 rfl) (tgt := 118) (by decide) ?_
    rotate_left
    -- leaves: stop 118; stop 118; stop 118; stop 118; stop 118; stop 118
    rotate_left 5
    · rw [e4, e1] at h46
      have := (nI_eq (by omega) (by omega)).mp h46
      refine L118 m 1 h1 h2 ?_
      unfold tk1; rw [if_pos (by omega)]; rfl
    · rw [e4, e1] at h46
      have hl := hlt h46
      obtain ⟨e64, z64⟩ := p64; rw [h2 hl] at z64
      have n1 : ¬ (97 ≤ τ p ∧ τ p ≤ 122) := fun z => z64.no h67 ((r1 hl).mpr z)
      obtain ⟨e85, z85⟩ := p85; rw [e64, h2 hl] at z85; rw [e64] at e85
      have n2 : ¬ (48 ≤ τ p ∧ τ p ≤ 57) := fun z => z85.no h88 ((r2 hl).mpr z)
      rw [e85] at h101 ⊢
      rw [h2 hl] at h101
      refine L118 m 4 h1 h2 ?_
      have := (nI_eq (b := 44) (by have := (t3 p hl).2; omega) (by decide)).mp h101
      unfold tk1; rw [if_neg (by omega), if_neg n1, if_neg n2, if_pos (Or.inl this)]; rfl
    · rw [e4, e1] at h46
      have hl := hlt h46
      obtain ⟨e64, z64⟩ := p64; rw [h2 hl] at z64
      have n1 : ¬ (97 ≤ τ p ∧ τ p ≤ 122) := fun z => z64.no h67 ((r1 hl).mpr z)
      obtain ⟨e85, z85⟩ := p85; rw [e64, h2 hl] at z85; rw [e64] at e85
      have n2 : ¬ (48 ≤ τ p ∧ τ p ≤ 57) := fun z => z85.no h88 ((r2 hl).mpr z)
      rw [e85] at h101 h110 ⊢
      rw [h2 hl] at h101 h110
      refine L118 m 0 h1 h2 ?_
      have a1 : τ p ≠ 44 := fun z => h101 (by rw [z]; rfl)
      have a2 : τ p ≠ 59 := fun z => h110 (by rw [z]; rfl)
      unfold tk1; rw [if_neg (by omega), if_neg n1, if_neg n2, if_neg (by omega)]; rfl
    · rw [e4, e1] at h46
      have hl := hlt h46
      obtain ⟨e64, z64⟩ := p64; rw [h2 hl] at z64
      have n1 : ¬ (97 ≤ τ p ∧ τ p ≤ 122) := fun z => z64.no h67 ((r1 hl).mpr z)
      obtain ⟨e85, z85⟩ := p85; rw [e64, h2 hl] at z85; rw [e64] at e85
      have n2 : ¬ (48 ≤ τ p ∧ τ p ≤ 57) := fun z => z85.no h88 ((r2 hl).mpr z)
      rw [e85] at h101 h110 ⊢
      rw [h2 hl] at h101 h110
      refine L118 m 4 h1 h2 ?_
      have := (nI_eq (b := 59) (by have := (t3 p hl).2; omega) (by decide)).mp h110
      unfold tk1; rw [if_neg (by omega), if_neg n1, if_neg n2, if_pos (Or.inr this)]; rfl
    · rw [e4, e1] at h46
      have hl := hlt h46
      obtain ⟨e64, z64⟩ := p64; rw [h2 hl] at z64
      have n1 : ¬ (97 ≤ τ p ∧ τ p ≤ 122) := fun z => z64.no h67 ((r1 hl).mpr z)
      obtain ⟨e85, z85⟩ := p85; rw [e64, h2 hl] at z85; rw [e64] at e85
      have n2 := (r2 hl).mp (z85.yes h88)
      rw [e85]
      refine L118 m 3 h1 h2 ?_
      unfold tk1; rw [if_neg (by omega), if_neg n1, if_pos n2]; rfl
    · rw [e4, e1] at h46
      have hl := hlt h46
      obtain ⟨e64, z64⟩ := p64; rw [h2 hl] at z64
      have n1 := (r1 hl).mp (z64.yes h67)
      rw [e64]
      refine L118 m 2 h1 h2 ?_
      unfold tk1; rw [if_neg (by omega), if_pos n1]; rfl
  have b0 : NT μ p p (setc μ 67 (upd (μ 67) 13 (μ 67 12))) := ⟨fun j hj => setc_n hj, fun q hq => by rw [setc_s, upd_n (by omega)], by rw [setc_s, upd_s]; exact hc, by rw [setc_s, upd_n (by decide)]; exact hc⟩
  have e4 := b0.2.2.2
  have e1 := tn b0
  refine V_aload_n (pc := 0) hG (dk dd_X10_nextToken 0 rfl) rfl ?_
  refine V_aload_n (pc := 1) hG (dk dd_X10_nextToken 1 rfl) rfl ?_
  refine V_getI (pc := 2) hG (dk dd_X10_nextToken 2 rfl) fl_X10_102 sh_67 rfl ?_
  refine V_putI (pc := 5) hG (dk dd_X10_nextToken 3 rfl) fl_X10_96 sh_67 rfl rfl ?_
  refine V_aload_n (pc := 8) hG (dk dd_X10_nextToken 4 rfl) rfl ?_
  refine V_aload_n (pc := 9) hG (dk dd_X10_nextToken 5 rfl) rfl ?_
  refine V_getI (pc := 10) hG (dk dd_X10_nextToken 6 rfl) fl_X10_102 sh_67 rfl ?_
  refine V_aload_n (pc := 13) hG (dk dd_X10_nextToken 7 rfl) rfl ?_
  refine V_getI (pc := 14) hG (dk dd_X10_nextToken 8 rfl) fl_X10_89 sh_67 rfl ?_
  refine V_icmp_ge (pc := 17) hG (dk dd_X10_nextToken 9 rfl) (tgt := 32) (by decide) (fun h17 => ?_) (fun h17 => ?_)
  refine V_ldc (pc := 32) hG (dk dd_X10_nextToken 16 rfl) kk_X10_105 ?_
  refine V_putI (pc := 34) hG (dk dd_X10_nextToken 17 rfl) fl_X10_106 sh_67 rfl rfl ?_
  rotate_left
  refine V_aload_n (pc := 20) hG (dk dd_X10_nextToken 10 rfl) rfl ?_
  refine V_getR (pc := 21) hG (dk dd_X10_nextToken 11 rfl) fl_X10_31 sh_67 rfl ?_
  refine V_aload_n (pc := 24) hG (dk dd_X10_nextToken 12 rfl) rfl ?_
  refine V_getI (pc := 25) hG (dk dd_X10_nextToken 13 rfl) fl_X10_102 sh_67 rfl ?_
  refine V_iald (pc := 28) hG (dk dd_X10_nextToken 14 rfl) sh_75 ?_ ?_
  rotate_left
  refine V_goto (pc := 29) hG (dk dd_X10_nextToken 15 rfl) (tgt := 34) (by decide) ?_
  refine V_putI (pc := 34) hG (dk dd_X10_nextToken 17 rfl) fl_X10_106 sh_67 rfl rfl ?_
  rotate_left
  -- leaves: stop 37; iaload@28 in; stop 37
  · refine L37 _ (b0.put (Or.inr rfl)) (fun z => ?_)
    exfalso; rw [e4, e1] at h17; have := le_i h17 (by omega) (by omega); omega
  · rw [e4, e1] at h17; have h17 := nle_i h17 (by omega) (by omega)
    rw [e4]; exact vp_in_nI (by omega) (by decide)
  · rw [e4, e1] at h17; have h17 := nle_i h17 (by omega) (by omega)
    refine L37 _ (b0.put (Or.inr rfl)) (fun z => ?_)
    rw [setc_s, upd_s, e4, nI_clamp (by omega)]; exact (tp b0 p z).1
