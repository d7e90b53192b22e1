theorem room_mono {s : State} {pl : Platform} {d d' : Nat} (hd : d ≤ d') (h : s.hasRoom pl (rmD d') = true) : s.hasRoom pl (rmD d) = true := by
  unfold State.hasRoom rmD at *
  simp only [Bool.and_eq_true, decide_eq_true_eq] at h ⊢
  obtain ⟨⟨⟨⟨h1, h2, h3, h4, h5, h6⟩, h7⟩, h8⟩, h9⟩ := h
  have hF : d + 1 ≤ d' + 1 := by omega
  have hL : 256 * (d + 1) ≤ 256 * (d' + 1) := Nat.mul_le_mul_left _ hF
  exact ⟨⟨⟨⟨Nat.le_trans (Nat.add_le_add_right (Nat.add_le_add_left hL _) _) h1, Nat.le_trans (Nat.add_le_add_left hF _) h2, Nat.le_trans (Nat.add_le_add_left hF _) h3, Nat.le_trans (Nat.add_le_add_left hL _) h4, Nat.le_trans (Nat.add_le_add_left hL _) h5, h6⟩, h7⟩, h8⟩, h9⟩
theorem CtP.deeper {y : MethodName} {b : ByteArray} {n : Nat} {ret : Option FieldType} {d d' : Nat} {as : List Vl} {μ : Mem} {post : Po} (h : CtP y b n ret d as μ post) (hd : d ≤ d') : CtP y b n ret d' as μ post := by
  intro l E p e ha hc hk s m args below hf happ hP hkk
  refine h l E p e ha hc hk s m args below hf ?_ hP hkk
  rw [Spec.appliesLoose_iff hf] at happ ⊢
  obtain ⟨a1, a2, a3, a4, a5, a6, a7, a8⟩ := happ
  exact ⟨a1, a2, a3, a4, a5, a6, room_mono hd a7, a8⟩
theorem Bg.up {α : Al} {h body : Nat} {v : Int32} {tr : List Nat} {d ht d' ht' : Nat} (g : Bg α h body v tr d ht) (hd : d ≤ d') (hh : ht ≤ ht') : Bg α h body v tr d' ht' :=
  fun μ l x y z n a b c e f g2 k => (g μ l x y z n a b c e f g2 (by omega)).deeper hd
theorem bg_23 {α : Al} (hv : Val α) {h : Nat} (hh : h < α 0 6) (hk : 4 ≤ α 1 h) : Bg α h 23 (nI h - szR α h) ([23, 20] ++ szT α h) 4 3 := by
  intro μ l x y z n hA hT hl hx hy hz hn
  refine CtP.go RX1 rfl pn_X1 (Nat.le_of_ble_eq_true rfl) (fun C hG hR => ?_)
  subst hx; subst hz
  have hln : l.length + 1 ≤ 16 := by simp at hl; omega
  obtain ⟨b, hb1, hb2⟩ := bg_size hv hh hk
  refine V_iload_n (pc := 0) hG (dk dd_X1_begin 0 rfl) rfl ?_
  refine V_bipush (pc := 1) hG (dk dd_X1_begin 1 rfl) (v := 16) (by decide) ?_
  refine V_icmp_lt (pc := 3) hG (dk dd_X1_begin 2 rfl) (tgt := 8) (by decide) (fun h3 => ?_) (fun h3 => ?_)
  refine V_aload_n (pc := 8) hG (dk dd_X1_begin 5 rfl) rfl ?_
  refine V_iload_n (pc := 9) hG (dk dd_X1_begin 6 rfl) rfl ?_
  refine V_callVvp (pc := 10) hG (dk dd_X1_begin 7 rfl) ml_X1_43 mo_X1_leave sh_65 rfl (c_leave hT (by omega) rfl) (by decide) (by decide) rfl rfl rfl (fun m10 p10 => ?_)
  refine V_iload_n (pc := 13) hG (dk dd_X1_begin 8 rfl) rfl ?_
  refine V_iconst (pc := 14) hG (dk dd_X1_begin 9 rfl) (v := 1) (by decide) ?_
  refine V_iadd (pc := 15) hG (dk dd_X1_begin 10 rfl) ?_
  refine V_istore (pc := 16) hG (dk dd_X1_begin 11 rfl) (by decide) (lv' := [(0, _), (1, _), (2, _), (3, _), (4, _)]) rfl ?_
  refine V_iload_n (pc := 18) hG (dk dd_X1_begin 12 rfl) rfl ?_
  refine V_tableIn (pc := 19) hG (dk dd_X1_begin 13 rfl) (off := 179) (tgt := 198) (by decide +kernel) (by decide +kernel) (by decide +kernel) (by decide) ?_
  refine V_aload_n (pc := 198) hG (dk dd_X1_begin 78 rfl) rfl ?_
  refine V_bipush (pc := 199) hG (dk dd_X1_begin 79 rfl) (v := 20) (by decide) ?_
  refine V_iload_n (pc := 201) hG (dk dd_X1_begin 80 rfl) rfl ?_
  refine V_iload (pc := 202) hG (dk dd_X1_begin 81 rfl) rfl ?_
  refine V_callVip (pc := 204) hG (dk dd_X1_begin 82 rfl) ml_X1_28 mo_X1_begin sh_65 rfl (bg_20 hv hh _ _ _ _ _ (n + 1) (hA.off (fun x hx => p10.2 _ (by omega) (by omega))) p10.1 (by simp at hl ⊢; omega) rfl hy (nI_1 n) (by omega)) (by decide) (by decide) rfl rfl rfl (fun x204 m204 p204 => ?_)
  refine V_aload_n (pc := 207) hG (dk dd_X1_begin 83 rfl) rfl ?_
  refine V_aload_n (pc := 208) hG (dk dd_X1_begin 84 rfl) rfl ?_
  refine V_iload_n (pc := 209) hG (dk dd_X1_begin 85 rfl) rfl ?_
  refine V_callVip (pc := 210) hG (dk dd_X1_begin 86 rfl) ml_X1_21 mo_X1_sizeBody sh_65 rfl (c_sizeBody (hA.off (fun x hx => ((p204.2.2 _ (by omega) (by omega)).trans (p10.2 _ (by omega) (by omega))))) hv hh hy) (by decide) (by decide) rfl rfl rfl (fun x210 m210 p210 => ?_)
  refine V_iload_n (pc := 213) hG (dk dd_X1_begin 87 rfl) rfl ?_
  refine V_iload (pc := 214) hG (dk dd_X1_begin 88 rfl) rfl ?_
  refine V_callVip (pc := 216) hG (dk dd_X1_begin 89 rfl) ml_X1_28 mo_X1_begin sh_65 rfl (hb2 _ _ _ _ _ (n + 1) (hA.off (fun x hx => by rw [p210.1]; exact ((p204.2.2 _ (by omega) (by omega)).trans (p10.2 _ (by omega) (by omega))))) (show Tr m210 _ from p210.1 ▸ p204.2.1) (by simp at hl ⊢; omega) (p210.2.trans hb1) hy (nI_1 n) (by omega)) (by decide) (by decide) rfl rfl rfl (fun x216 m216 p216 => ?_)
  refine V_isub (pc := 219) hG (dk dd_X1_begin 90 rfl) ?_
  refine V_iretP (pc := 220) hG (dk dd_X1_begin 91 rfl) hR (Pi.mk ?_)
  rotate_left
  rotate_left
  -- leaves: return@220; stop 6
  · obtain ⟨rfl, q1, q2⟩ := p216
    obtain ⟨rfl, rfl⟩ := p210
    obtain ⟨rfl, q3, q4⟩ := p204
    exact ⟨rfl, by simpa using q1, fun a a1 a2 => (q2 a a1 a2).trans ((q4 a a1 a2).trans (p10.2 a a1 a2))⟩
  · exfalso; have := Nat.not_lt.mp (fun q => h3 ((nI_ltI (b := 16) (by omega) (by decide)).mpr q)); omega
theorem bg_11 {α : Al} (hv : Val α) {h : Nat} (hh : h < α 0 6) (hk : α 1 h ≤ 3) : Bg α h 11 (nI (α 2 h) + mkV α h) ([11, 10] ++ mkT α h) 4 3 := by
  intro μ l x y z n hA hT hl hx hy hz hn
  refine CtP.go RX1 rfl pn_X1 (Nat.le_of_ble_eq_true rfl) (fun C hG hR => ?_)
  subst hx; subst hz
  have hln : l.length + 1 ≤ 16 := by simp at hl; omega
  obtain ⟨b, hb1, hb2⟩ := bg_mark hv hh hk
  refine V_iload_n (pc := 0) hG (dk dd_X1_begin 0 rfl) rfl ?_
  refine V_bipush (pc := 1) hG (dk dd_X1_begin 1 rfl) (v := 16) (by decide) ?_
  refine V_icmp_lt (pc := 3) hG (dk dd_X1_begin 2 rfl) (tgt := 8) (by decide) (fun h3 => ?_) (fun h3 => ?_)
  refine V_aload_n (pc := 8) hG (dk dd_X1_begin 5 rfl) rfl ?_
  refine V_iload_n (pc := 9) hG (dk dd_X1_begin 6 rfl) rfl ?_
  refine V_callVvp (pc := 10) hG (dk dd_X1_begin 7 rfl) ml_X1_43 mo_X1_leave sh_65 rfl (c_leave hT (by omega) rfl) (by decide) (by decide) rfl rfl rfl (fun m10 p10 => ?_)
  refine V_iload_n (pc := 13) hG (dk dd_X1_begin 8 rfl) rfl ?_
  refine V_iconst (pc := 14) hG (dk dd_X1_begin 9 rfl) (v := 1) (by decide) ?_
  refine V_iadd (pc := 15) hG (dk dd_X1_begin 10 rfl) ?_
  refine V_istore (pc := 16) hG (dk dd_X1_begin 11 rfl) (by decide) (lv' := [(0, _), (1, _), (2, _), (3, _), (4, _)]) rfl ?_
  refine V_iload_n (pc := 18) hG (dk dd_X1_begin 12 rfl) rfl ?_
  refine V_tableIn (pc := 19) hG (dk dd_X1_begin 13 rfl) (off := 83) (tgt := 102) (by decide +kernel) (by decide +kernel) (by decide +kernel) (by decide) ?_
  refine V_aload_n (pc := 102) hG (dk dd_X1_begin 20 rfl) rfl ?_
  refine V_bipush (pc := 103) hG (dk dd_X1_begin 21 rfl) (v := 10) (by decide) ?_
  refine V_iload_n (pc := 105) hG (dk dd_X1_begin 22 rfl) rfl ?_
  refine V_iload (pc := 106) hG (dk dd_X1_begin 23 rfl) rfl ?_
  refine V_callVip (pc := 108) hG (dk dd_X1_begin 24 rfl) ml_X1_28 mo_X1_begin sh_65 rfl (bg_10 hv hh _ _ _ _ _ (n + 1) (hA.off (fun x hx => p10.2 _ (by omega) (by omega))) p10.1 (by simp at hl ⊢; omega) rfl hy (nI_1 n) (by omega)) (by decide) (by decide) rfl rfl rfl (fun x108 m108 p108 => ?_)
  refine V_aload_n (pc := 111) hG (dk dd_X1_begin 25 rfl) rfl ?_
  refine V_aload_n (pc := 112) hG (dk dd_X1_begin 26 rfl) rfl ?_
  refine V_iload_n (pc := 113) hG (dk dd_X1_begin 27 rfl) rfl ?_
  refine V_callVip (pc := 114) hG (dk dd_X1_begin 28 rfl) ml_X1_25 mo_X1_markBody sh_65 rfl (c_markBody (hA.off (fun x hx => ((p108.2.2 _ (by omega) (by omega)).trans (p10.2 _ (by omega) (by omega))))) hv hh hy) (by decide) (by decide) rfl rfl rfl (fun x114 m114 p114 => ?_)
  refine V_iload_n (pc := 117) hG (dk dd_X1_begin 29 rfl) rfl ?_
  refine V_iload (pc := 118) hG (dk dd_X1_begin 30 rfl) rfl ?_
  refine V_callVip (pc := 120) hG (dk dd_X1_begin 31 rfl) ml_X1_28 mo_X1_begin sh_65 rfl (hb2 _ _ _ _ _ (n + 1) (hA.off (fun x hx => by rw [p114.1]; exact ((p108.2.2 _ (by omega) (by omega)).trans (p10.2 _ (by omega) (by omega))))) (show Tr m114 _ from p114.1 ▸ p108.2.1) (by simp at hl ⊢; omega) (p114.2.trans hb1) hy (nI_1 n) (by omega)) (by decide) (by decide) rfl rfl rfl (fun x120 m120 p120 => ?_)
  refine V_iadd (pc := 123) hG (dk dd_X1_begin 32 rfl) ?_
  refine V_iretP (pc := 124) hG (dk dd_X1_begin 33 rfl) hR (Pi.mk ?_)
  rotate_left
  rotate_left
  -- leaves: return@124; stop 6
  · obtain ⟨rfl, q1, q2⟩ := p120
    obtain ⟨rfl, rfl⟩ := p114
    obtain ⟨rfl, q3, q4⟩ := p108
    exact ⟨rfl, by simpa using q1, fun a a1 a2 => (q2 a a1 a2).trans ((q4 a a1 a2).trans (p10.2 a a1 a2))⟩
  · exfalso; have := Nat.not_lt.mp (fun q => h3 ((nI_ltI (b := 16) (by omega) (by decide)).mpr q)); omega
theorem bg_12 {α : Al} (hv : Val α) {h : Nat} (hh : h < α 0 6) (hk : α 1 h ≤ 3) : Bg α h 12 (-(nI (α 2 h) + mkV α h)) ([12, 11, 10] ++ mkT α h) 5 4 := by
  intro μ l x y z n hA hT hl hx hy hz hn
  refine CtP.go RX1 rfl pn_X1 (Nat.le_of_ble_eq_true rfl) (fun C hG hR => ?_)
  subst hx; subst hz
  have hln : l.length + 1 ≤ 16 := by simp at hl; omega
  refine V_iload_n (pc := 0) hG (dk dd_X1_begin 0 rfl) rfl ?_
  refine V_bipush (pc := 1) hG (dk dd_X1_begin 1 rfl) (v := 16) (by decide) ?_
  refine V_icmp_lt (pc := 3) hG (dk dd_X1_begin 2 rfl) (tgt := 8) (by decide) (fun h3 => ?_) (fun h3 => ?_)
  refine V_aload_n (pc := 8) hG (dk dd_X1_begin 5 rfl) rfl ?_
  refine V_iload_n (pc := 9) hG (dk dd_X1_begin 6 rfl) rfl ?_
  refine V_callVvp (pc := 10) hG (dk dd_X1_begin 7 rfl) ml_X1_43 mo_X1_leave sh_65 rfl (c_leave hT (by omega) rfl) (by decide) (by decide) rfl rfl rfl (fun m10 p10 => ?_)
  refine V_iload_n (pc := 13) hG (dk dd_X1_begin 8 rfl) rfl ?_
  refine V_iconst (pc := 14) hG (dk dd_X1_begin 9 rfl) (v := 1) (by decide) ?_
  refine V_iadd (pc := 15) hG (dk dd_X1_begin 10 rfl) ?_
  refine V_istore (pc := 16) hG (dk dd_X1_begin 11 rfl) (by decide) (lv' := [(0, _), (1, _), (2, _), (3, _), (4, _)]) rfl ?_
  refine V_iload_n (pc := 18) hG (dk dd_X1_begin 12 rfl) rfl ?_
  refine V_tableIn (pc := 19) hG (dk dd_X1_begin 13 rfl) (off := 106) (tgt := 125) (by decide +kernel) (by decide +kernel) (by decide +kernel) (by decide) ?_
  refine V_aload_n (pc := 125) hG (dk dd_X1_begin 34 rfl) rfl ?_
  refine V_bipush (pc := 126) hG (dk dd_X1_begin 35 rfl) (v := 11) (by decide) ?_
  refine V_iload_n (pc := 128) hG (dk dd_X1_begin 36 rfl) rfl ?_
  refine V_iload (pc := 129) hG (dk dd_X1_begin 37 rfl) rfl ?_
  refine V_callVip (pc := 131) hG (dk dd_X1_begin 38 rfl) ml_X1_28 mo_X1_begin sh_65 rfl (bg_11 hv hh hk _ _ _ _ _ (n + 1) (hA.off (fun x hx => p10.2 _ (by omega) (by omega))) p10.1 (by simp at hl ⊢; omega) rfl hy (nI_1 n) (by omega)) (by decide) (by decide) rfl rfl rfl (fun x131 m131 p131 => ?_)
  refine V_ineg (pc := 134) hG (dk dd_X1_begin 39 rfl) ?_
  refine V_iretP (pc := 135) hG (dk dd_X1_begin 40 rfl) hR (Pi.mk ?_)
  rotate_left
  rotate_left
  -- leaves: return@135; stop 6
  · obtain ⟨rfl, q1, q2⟩ := p131
    exact ⟨rfl, by simpa using q1, fun a a1 a2 => (q2 a a1 a2).trans (p10.2 a a1 a2)⟩
  · exfalso; have := Nat.not_lt.mp (fun q => h3 ((nI_ltI (b := 16) (by omega) (by decide)).mpr q)); omega
def askV (α : Al) (h : Nat) (w : Int32) : Int32 := if w = 0 then (if 4 ≤ α 1 h then szR α h else if α 1 h = 2 then -(nI (α 2 h) + mkV α h) else nI (α 2 h) + mkV α h) else (if 4 ≤ α 1 h then nI h - szR α h else mkV α h)
def askT (α : Al) (h : Nat) (w : Int32) : List Nat := if w = 0 then (if 4 ≤ α 1 h then szT α h else if α 1 h = 2 then [12, 11, 10] ++ mkT α h else [11, 10] ++ mkT α h) else (if 4 ≤ α 1 h then [23, 20] ++ szT α h else mkT α h)
theorem mkT_len (α : Al) (h : Nat) : (mkT α h).length ≤ 3 := by unfold mkT; split; decide; split <;> decide
theorem szT_len (α : Al) (h : Nat) : (szT α h).length ≤ 3 := by unfold szT; split <;> decide
theorem askT_len (α : Al) (h : Nat) (w : Int32) : (askT α h w).length ≤ 6 := by
  have := mkT_len α h; have := szT_len α h
  unfold askT; split <;> split <;> try split
  all_goals simp <;> omega
theorem bg_ask {α : Al} (hv : Val α) {h : Nat} (hh : h < α 0 6) (w : Int32) : ∃ b, (if w = 0 then szB (α 1 h) else mkB (α 1 h)) = nI b ∧ Bg α h b (askV α h w) (askT α h w) 5 4 := by
  have hk := hv.h hh
  unfold askV askT
  by_cases hw : w = 0
  · simp only [if_pos hw]
    by_cases h4 : 4 ≤ α 1 h
    · simp only [if_pos h4]
      obtain ⟨b, h1, h2⟩ := bg_size hv hh h4
      exact ⟨b, h1, h2.up (by decide) (by decide)⟩
    · simp only [if_neg h4]
      by_cases h2 : α 1 h = 2
      · simp only [if_pos h2]; exact ⟨12, by rw [h2]; rfl, bg_12 hv hh (by omega)⟩
      · simp only [if_neg h2]
        refine ⟨11, ?_, (bg_11 hv hh (by omega)).up (by decide) (by decide)⟩
        have := hk.1
        rcases (show α 1 h = 1 ∨ α 1 h = 3 by omega) with e | e <;> rw [e] <;> rfl
  · simp only [if_neg hw]
    by_cases h4 : 4 ≤ α 1 h
    · simp only [if_pos h4]
      refine ⟨23, ?_, (bg_23 hv hh h4).up (by decide) (by decide)⟩
      have := hk.2.1
      rcases (show α 1 h = 4 ∨ α 1 h = 5 by omega) with e | e <;> rw [e] <;> rfl
    · simp only [if_neg h4]
      obtain ⟨b, h1, h2⟩ := bg_mark hv hh (by omega)
      exact ⟨b, h1, h2.up (by decide) (by decide)⟩
theorem c_answer {μ : Mem} {α : Al} (hA : Abs (kac μ 15) α) (hv : Val α) {h : Nat} (hh : h < α 0 6) {x w : Int32} (hx : x = nI h) : CtP yX1_answer cX1_answer 3 (some .int) 6 [vR 65, vI x, vI w] μ (Pi (fun r μ' => r = askV α h w ∧ Tr μ' (askT α h w) ∧ ∀ a, a ≠ 65 → a ≠ 66 → μ' a = μ a)) := by
  refine CtP.go RX1 rfl pn_X1 (Nat.le_of_ble_eq_true rfl) (fun C hG hR => ?_)
  obtain ⟨b, hb1, hb2⟩ := bg_ask hv hh w
  have hlen := askT_len α h w
  have hA1 : Abs (kac (setc μ 65 (upd (μ 65) 2 0)) 15) α := hA.off (fun x hx => setc_n (by omega))
  have hT1 : Tr (setc μ 65 (upd (μ 65) 2 0)) [] := ⟨by rw [setc_s, pk_us]; rfl, fun k hk => absurd hk (Nat.not_lt_zero k)⟩
  refine V_aload_n (pc := 0) hG (dk dd_X1_answer 0 rfl) rfl ?_
  refine V_iconst (pc := 1) hG (dk dd_X1_answer 1 rfl) (v := 0) (by decide) ?_
  refine V_putI (pc := 2) hG (dk dd_X1_answer 2 rfl) fl_X1_17 sh_65 rfl rfl ?_
  refine V_aload_n (pc := 5) hG (dk dd_X1_answer 3 rfl) rfl ?_
  refine V_iload_n (pc := 6) hG (dk dd_X1_answer 4 rfl) rfl ?_
  refine V_if_ne (pc := 7) hG (dk dd_X1_answer 5 rfl) (tgt := 18) (by decide) (fun h7 => ?_) (fun h7 => ?_)
  refine V_aload_n (pc := 18) hG (dk dd_X1_answer 10 rfl) rfl ?_
  refine V_iload_n (pc := 19) hG (dk dd_X1_answer 11 rfl) rfl ?_
  refine V_callVip (pc := 20) hG (dk dd_X1_answer 12 rfl) ml_X1_25 mo_X1_markBody sh_65 rfl (c_markBody hA1 hv hh hx) (by decide) (by decide) rfl rfl rfl (fun x20 m20 p20 => ?_)
  refine V_iload_n (pc := 23) hG (dk dd_X1_answer 13 rfl) rfl ?_
  refine V_iconst (pc := 24) hG (dk dd_X1_answer 14 rfl) (v := 0) (by decide) ?_
  refine V_callVip (pc := 25) hG (dk dd_X1_answer 15 rfl) ml_X1_28 mo_X1_begin sh_65 rfl (hb2 _ [] _ _ _ 0 (hA1.off (fun x hx => by rw [p20.1])) (show Tr m20 _ from p20.1 ▸ hT1) (by simp; omega) (by rw [p20.2, ← hb1, if_neg h7]) hx rfl (by decide)) (by decide) (by decide) rfl rfl rfl (fun x25 m25 p25 => ?_)
  refine V_iretP (pc := 28) hG (dk dd_X1_answer 16 rfl) hR (Pi.mk ?_)
  rotate_left
  refine V_aload_n (pc := 10) hG (dk dd_X1_answer 6 rfl) rfl ?_
  refine V_iload_n (pc := 11) hG (dk dd_X1_answer 7 rfl) rfl ?_
  refine V_callVip (pc := 12) hG (dk dd_X1_answer 8 rfl) ml_X1_21 mo_X1_sizeBody sh_65 rfl (c_sizeBody hA1 hv hh hx) (by decide) (by decide) rfl rfl rfl (fun x12 m12 p12 => ?_)
  refine V_goto (pc := 15) hG (dk dd_X1_answer 9 rfl) (tgt := 23) (by decide) ?_
  refine V_iload_n (pc := 23) hG (dk dd_X1_answer 13 rfl) rfl ?_
  refine V_iconst (pc := 24) hG (dk dd_X1_answer 14 rfl) (v := 0) (by decide) ?_
  refine V_callVip (pc := 25) hG (dk dd_X1_answer 15 rfl) ml_X1_28 mo_X1_begin sh_65 rfl (hb2 _ [] _ _ _ 0 (hA1.off (fun x hx => by rw [p12.1])) (show Tr m12 _ from p12.1 ▸ hT1) (by simp; omega) (by rw [p12.2, ← hb1, if_pos h7]) hx rfl (by decide)) (by decide) (by decide) rfl rfl rfl (fun x25 m25 p25 => ?_)
  refine V_iretP (pc := 28) hG (dk dd_X1_answer 16 rfl) hR (Pi.mk ?_)
  rotate_left
  -- leaves: return@28; return@28
  · obtain ⟨rfl, rfl⟩ := p20
    obtain ⟨rfl, q1, q2⟩ := p25
    exact ⟨rfl, q1, fun a a1 a2 => (q2 a a1 a2).trans (setc_n a1)⟩
  · obtain ⟨rfl, rfl⟩ := p12
    obtain ⟨rfl, q1, q2⟩ := p25
    exact ⟨rfl, q1, fun a a1 a2 => (q2 a a1 a2).trans (setc_n a1)⟩
