/-! ===== the model: terms by draws ===== -/
/-- the row that is laid stands as s says -/
def DrwS (α β : Al) (s : DW) : Prop := Sam α β ∧ Val β ∧ β 0 3 = s.1 ∧ ∀ c, c < α 0 7 → β 7 c = s.2 c
theorem DrwS.hear {α β : Al} {s : DW} (h : DrwS α β s) {c : Nat} (hc : c < α 0 7) (h0 : s.2 c = 0) : DrwS α (hrdA β c) (hioS α s c) := by
  obtain ⟨h1, h2, h3, h4⟩ := h
  have e : hioS α s c = (heaN α c s.1, fun j => if j = c then verN α c s.1 else s.2 j) := by unfold hioS; rw [if_pos h0]
  rw [e]
  refine ⟨h1.hrd c, val_hrd h2 (by rw [h1.2.2.2.2.1]; exact hc), ?_, fun d hd => ?_⟩
  · show heaN β c (β 0 3) = heaN α c s.1
    rw [h3, h1.hea]
  · show hrdA β c 7 d = if d = c then verN α c s.1 else s.2 d
    unfold hrdA
    rw [if_neg (by decide)]
    by_cases z : d = c
    · rw [if_pos ⟨rfl, z⟩, if_pos z, h3, h1.ver]
    · rw [if_neg (fun q => z q.2), if_neg z]; exact h4 d hd
theorem val_D {α : Al} (hv : Val α) {D : Nat} (hD : D < 2 ^ α 0 0) : Val (updA α 0 3 D) := by
  have e : ∀ i, i ≠ 3 → updA α 0 3 D 0 i = α 0 i := fun i hi => updA_n (by omega)
  obtain ⟨a1, a2, a3, a4, a5, a6, a7, a8, a9⟩ := hv
  refine ⟨?_, ?_, ?_, ?_, ?_, ?_, ?_, fun k hk => ?_, fun c hc => ?_⟩
  · rw [e 0 (by decide)]; exact a1
  · rw [e 1 (by decide)]; exact a2
  · rw [e 2 (by decide)]; exact a3
  · rw [updA_s, e 0 (by decide)]; exact hD
  · rw [e 4 (by decide), e 2 (by decide)]; exact a5
  · rw [e 6 (by decide)]; exact a6
  · rw [e 7 (by decide)]; exact a7
  · rw [e 6 (by decide)] at hk
    have := a8 k hk
    unfold HumOk at this ⊢
    rw [e 0 (by decide), updA_n (by omega), updA_n (by omega), updA_n (by omega)]; exact this
  · rw [e 7 (by decide)] at hc
    have := a9 c hc
    unfold CaseOk at this ⊢
    rw [e 0 (by decide), e 6 (by decide), updA_n (by omega), updA_n (by omega), updA_n (by omega), updA_n (by omega)]; exact this
theorem DrwS.humm {α β : Al} {s : DW} (h : DrwS α β s) {k : Nat} (hk : k < α 0 6) : DrwS α (updA β 0 3 (humN β k (β 0 3))) (humN α k s.1, s.2) := by
  obtain ⟨h1, h2, h3, h4⟩ := h
  obtain ⟨a1, a2, a3, a4, a5, a6⟩ := id h1
  refine ⟨⟨?_, ?_, ?_, ?_, ?_, fun x i q1 q2 => ?_⟩, val_D h2 (humN_lt h2 (by rw [a4]; exact hk) h2.D), ?_, fun d hd => ?_⟩
  · rw [updA_n (by omega)]; exact a1
  · rw [updA_n (by omega)]; exact a2
  · rw [updA_n (by omega)]; exact a3
  · rw [updA_n (by omega)]; exact a4
  · rw [updA_n (by omega)]; exact a5
  · rw [updA_n (by omega)]; exact a6 x i q1 q2
  · rw [updA_s, h1.hum, h3]
  · rw [updA_n (by omega)]; exact h4 d hd
theorem thoN_cg {α β : Al} {w : Nat} : ∀ {n : Nat}, (∀ c, c < n → α 7 c = β 7 c) → thoN α w n = thoN β w n
  | 0, _ => rfl
  | n + 1, h => by rw [thoN_s, thoN_s, thoN_cg (fun c hc => h c (by omega)), h n (by omega)]
def drwE (α : Al) (N seed : Nat) : DW := (drwS α N ((α 0 3, α 7), seed)).1
def DraR (α : Al) (x y w r : Int32) : Prop := (¬ 0 < α 0 0 ∧ r = -1000002) ∨ (0 < α 0 0 ∧ ¬ ((0 ≤ x ∧ x ≤ 60) ∧ (1 ≤ y ∧ y ≤ 999999) ∧ (w = 0 ∨ w = 1)) ∧ r = -1000001) ∨ (0 < α 0 0 ∧ ((0 ≤ x ∧ x ≤ 60) ∧ (1 ≤ y ∧ y ≤ 999999) ∧ (w = 0 ∨ w = 1)) ∧
  r = if w = 0 then nI (bitsN (thoN (putDW α (drwE α x.toNatClampNeg y.toNatClampNeg).1 (drwE α x.toNatClampNeg y.toNatClampNeg).2) 1 (α 0 7))) else nI (drwE α x.toNatClampNeg y.toNatClampNeg).1)
set_option maxHeartbeats 2000000 in
theorem m_drawn {μ : Mem} {α : Al} (hA : Abs (kap (μ 71)) α) (hz : Vz α) {x y w : Int32} : CtP yX10_drawn cX10_drawn 9 (some .int) 4 [vR 67, vI x, vI y, vI w] μ (Pi (fun r μ' => DraR α x y w r ∧ FrM μ none μ')) := by
  refine CtP.go RX10 rfl pn_X10 (Nat.le_of_ble_eq_true rfl) (fun C hG hR => ?_)
  have e0 : μ 71 0 = nI (α 0 0) := e_sc hA (i := 0) (by decide)
  have r6 : vp_in (6 : Int32) 46 := rr (n := 6) (by decide)
  have r4 : vp_in (4 : Int32) 46 := rr (n := 4) (by decide)
  have r3 : vp_in (3 : Int32) 46 := rr (n := 3) (by decide)
  by_cases hv : Val α
  · have h0 : 0 < α 0 0 := by have := hv.t3; omega
    have hC := hv.C
    have hH := hv.H
    have hH1 : 1 ≤ α 0 6 := hv.2.2.2.2.2.1.1
    by_cases hi : (0 ≤ x ∧ x ≤ 60) ∧ (1 ≤ y ∧ y ≤ 999999) ∧ (w = 0 ∨ w = 1)
    · obtain ⟨N, hN, hx⟩ := nI_of (Int32.not_lt.mpr hi.1.1)
      have N60 : N ≤ 60 := le_i (b := 60) (hx ▸ hi.1.2) hN (by decide)
      obtain ⟨S, hS, hy⟩ := nI_of (x := y) (fun z => by have := hi.2.1.1; clear hG hR; grind)
      have S1 : S ≤ 999999 := le_i (b := 999999) (hy ▸ hi.2.1.2) hS (by decide)
      have yl : y.toInt64 = lN S := by rw [hy]; exact nI_l hS
      have loop : ∀ k i M β s m, i + k = N → FrM μ none M → Abs (kap (M 73)) β → DrwS α β s → m < 2147483647 → (drwS α k (s, m)).1 = drwE α N S → V C 63 [(0, vR 67), (1, vI x), (2, vI y), (3, vI w), (4, vL (lN m)), (6, vI (nI i))] [] M := by
        intro k
        induction k with
        | zero =>
          intro i M β s m hik hM hB hs hm he
          have he : s = drwE α N S := he
          obtain ⟨h1, h2, h3, h4⟩ := hs
          have e6 : M 73 (Int32.toNatClampNeg 6) = nI (β 0 3) := by have := hB.1 3 (by decide); rw [kap_0] at this; exact this
          have tho : thoN β 1 (β 0 7) = thoN (putDW α (drwE α N S).1 (drwE α N S).2) 1 (α 0 7) := by
            rw [h1.2.2.2.2.1]
            exact thoN_cg (fun c hc => by rw [pd_7, ← he]; exact h4 c hc)
          have tl : thoN β 1 (β 0 7) < 256 := Nat.lt_of_lt_of_le (thoN_lt β 1 (β 0 7)) (pow8 (by have := h2.C; omega))
          refine V_iload (pc := 63) hG (dk dd_X10_drawn 35 rfl) rfl ?_
          refine V_iload_n (pc := 65) hG (dk dd_X10_drawn 36 rfl) rfl ?_
          refine V_icmp_ge (pc := 66) hG (dk dd_X10_drawn 37 rfl) (tgt := 179) (by decide) (fun h66 => ?_) (fun h66 => ?_)
          refine V_iload_n (pc := 179) hG (dk dd_X10_drawn 97 rfl) rfl ?_
          refine V_if_ne (pc := 180) hG (dk dd_X10_drawn 98 rfl) (tgt := 197) (by decide) (fun h180 => ?_) (fun h180 => ?_)
          refine V_aload_n (pc := 197) hG (dk dd_X10_drawn 105 rfl) rfl ?_
          refine V_getR (pc := 198) hG (dk dd_X10_drawn 106 rfl) fl_X10_25 sh_67 rfl ?_
          refine V_bipush (pc := 201) hG (dk dd_X10_drawn 107 rfl) (v := 6) (by decide) ?_
          refine V_iald (pc := 203) hG (dk dd_X10_drawn 108 rfl) sh_73 r6 ?_
          refine V_iretP (pc := 204) hG (dk dd_X10_drawn 109 rfl) hR (Pi.mk ?_)
          rotate_left
          refine V_aload_n (pc := 183) hG (dk dd_X10_drawn 99 rfl) rfl ?_
          refine V_getR (pc := 184) hG (dk dd_X10_drawn 100 rfl) fl_X10_25 sh_67 rfl ?_
          refine V_iconst (pc := 187) hG (dk dd_X10_drawn 101 rfl) (v := 1) (by decide) ?_
          refine V_callSip (pc := 188) hG (dk dd_X10_drawn 102 rfl) ml_X10_222 mo_X10_those (m_those (μ := M) sh_73 hB h2.C h2.w4 (w := 1) rfl (by decide)) (by decide) (by decide) rfl rfl rfl (fun x188 m188 p188 => ?_)
          refine V_callSip (pc := 191) hG (dk dd_X10_drawn 103 rfl) ml_X10_185 mo_X10_bits (m_bits p188.2 tl) (by decide) (by decide) rfl rfl rfl (fun x191 m191 p191 => ?_)
          refine V_goto (pc := 194) hG (dk dd_X10_drawn 104 rfl) (tgt := 204) (by decide) ?_
          refine V_iretP (pc := 204) hG (dk dd_X10_drawn 109 rfl) hR (Pi.mk ?_)
          rotate_left
          rotate_left
          -- leaves: return@204; return@204; stop 69
          · refine ⟨Or.inr (Or.inr ⟨h0, hi, ?_⟩), hM⟩
            rw [if_neg h180, e6, h3, he, hx, hy, nI_clamp hN, nI_clamp hS]
          · refine ⟨Or.inr (Or.inr ⟨h0, hi, ?_⟩), by rw [p191.1, p188.1]; exact hM⟩
            rw [if_pos h180, p191.2, tho, hx, hy, nI_clamp hN, nI_clamp hS]
          · exfalso; rw [hx] at h66; have := nle_i h66 (by omega) (by omega); omega
        | succ k ih =>
          intro i M β s m hik hM hB hs hm he
          rw [drwS_s] at he
          have nl : nxX m < 2147483647 := Nat.mod_lt _ (by decide)
          obtain ⟨h1, h2, h3, h4⟩ := id hs
          have a7 := h1.2.2.2.2.1
          have a6 := h1.2.2.2.1
          have m4 : M 73 (Int32.toNatClampNeg 4) = nI (α 0 7) := by have := hB.1 7 (by decide); rw [kap_0, a7] at this; exact this
          have m3 : M 73 (Int32.toNatClampNeg 3) = nI (α 0 6) := by have := hB.1 6 (by decide); rw [kap_0, a6] at this; exact this
          have m6 : M 73 (Int32.toNatClampNeg 6) = nI (β 0 3) := by have := hB.1 3 (by decide); rw [kap_0] at this; exact this
          have ex : lN m * 16807 - lN m * 16807 / 2147483647 * 2147483647 = lN (nxX m) := by
            rw [show (16807 : Int64) = lN 16807 from rfl, show (2147483647 : Int64) = lN 2147483647 from rfl, lN_mul, pk_lRem (by omega) (by decide) (by decide)]; rfl
          have e4 : lN (nxX m) - lN (nxX m) / 4 * 4 = lN (nxX m % 4) := by
            rw [show (4 : Int64) = lN 4 from rfl, pk_lRem (by omega) (by decide) (by decide)]
          have ec : 0 < α 0 7 → (M 73 (Int32.toNatClampNeg 4)).toInt64 = lN (α 0 7) ∧ ¬ (M 73 (Int32.toNatClampNeg 4)).toInt64 = 0 ∧ (lN (nxX m) - lN (nxX m) / lN (α 0 7) * lN (α 0 7)).toInt32 = nI (nxX m % α 0 7) := fun hp => by
            have e : (M 73 (Int32.toNatClampNeg 4)).toInt64 = lN (α 0 7) := by rw [m4]; exact nI_l (by omega)
            refine ⟨e, ?_, by rw [pk_lRem (by omega) hp (by omega), lN_i]⟩
            rw [e, show (0 : Int64) = lN 0 from rfl, pk_lEQ (by omega) (by decide)]; omega
          have eh : (M 73 (Int32.toNatClampNeg 3)).toInt64 = lN (α 0 6) ∧ ¬ (M 73 (Int32.toNatClampNeg 3)).toInt64 = 0 ∧ (lN (nxX m) - lN (nxX m) / lN (α 0 6) * lN (α 0 6)).toInt32 = nI (nxX m % α 0 6) := by
            have e : (M 73 (Int32.toNatClampNeg 3)).toInt64 = lN (α 0 6) := by rw [m3]; exact nI_l (by omega)
            refine ⟨e, ?_, by rw [pk_lRem (by omega) hH1 (by omega), lN_i]⟩
            rw [e, show (0 : Int64) = lN 0 from rfl, pk_lEQ (by omega) (by decide)]; omega
          have next : ∀ M2 β2 s2, FrM μ none M2 → Abs (kap (M2 73)) β2 → DrwS α β2 s2 → stpS α s (nxX m) = s2 → V C 173 [(0, vR 67), (1, vI x), (2, vI y), (3, vI w), (4, vL (lN (nxX m))), (6, vI (nI i))] [] M2 := by
            intro M2 β2 s2 q1 q2 q3 q4
            rw [q4] at he
            have hI := ih (i + 1) M2 β2 s2 (nxX m) (by omega) q1 q2 q3 nl he
            rw [nI_succ] at hI
            refine V_iinc (pc := 173) hG (dk dd_X10_drawn 95 rfl) rfl (v := _ + 1) rfl (by decide) (lv' := [(0, _), (1, _), (2, _), (3, _), (4, _), (6, _)]) rfl ?_
            refine V_goto (pc := 176) hG (dk dd_X10_drawn 96 rfl) (tgt := 63) (by decide) ?_
            rotate_left
            -- leaves: stop 63
            · exact hI
          -- a hum
          have hum : ¬ (nxX m % 4 = 0 ∧ 0 < α 0 7) → V C 141 [(0, vR 67), (1, vI x), (2, vI y), (3, vI w), (4, vL (lN (nxX m))), (6, vI (nI i))] [] M := by
            intro hn
            have lt : nxX m % α 0 6 < α 0 6 := Nat.mod_lt _ (by omega)
            have st : stpS α s (nxX m) = (humN α (nxX m % α 0 6) s.1, s.2) := by unfold stpS; rw [if_neg hn]
            refine V_aload_n (pc := 141) hG (dk dd_X10_drawn 76 rfl) rfl ?_
            refine V_getR (pc := 142) hG (dk dd_X10_drawn 77 rfl) fl_X10_25 sh_67 rfl ?_
            refine V_bipush (pc := 145) hG (dk dd_X10_drawn 78 rfl) (v := 6) (by decide) ?_
            refine V_aload_n (pc := 147) hG (dk dd_X10_drawn 79 rfl) rfl ?_
            refine V_getR (pc := 148) hG (dk dd_X10_drawn 80 rfl) fl_X10_25 sh_67 rfl ?_
            refine V_lload (pc := 151) hG (dk dd_X10_drawn 81 rfl) rfl ?_
            refine V_aload_n (pc := 153) hG (dk dd_X10_drawn 82 rfl) rfl ?_
            refine V_getR (pc := 154) hG (dk dd_X10_drawn 83 rfl) fl_X10_25 sh_67 rfl ?_
            refine V_iconst (pc := 157) hG (dk dd_X10_drawn 84 rfl) (v := 3) (by decide) ?_
            refine V_iald (pc := 158) hG (dk dd_X10_drawn 85 rfl) sh_73 r3 ?_
            refine V_i2l (pc := 159) hG (dk dd_X10_drawn 86 rfl) ?_
            refine V_lrem (pc := 160) hG (dk dd_X10_drawn 87 rfl) eh.2.1 ?_
            refine V_l2i (pc := 161) hG (dk dd_X10_drawn 88 rfl) ?_
            refine V_aload_n (pc := 162) hG (dk dd_X10_drawn 89 rfl) rfl ?_
            refine V_getR (pc := 163) hG (dk dd_X10_drawn 90 rfl) fl_X10_25 sh_67 rfl ?_
            refine V_bipush (pc := 166) hG (dk dd_X10_drawn 91 rfl) (v := 6) (by decide) ?_
            refine V_iald (pc := 168) hG (dk dd_X10_drawn 92 rfl) sh_73 r6 ?_
            refine V_callSip (pc := 169) hG (dk dd_X10_drawn 93 rfl) ml_X10_191 mo_X10_hummed (m_hummed (μ := M) sh_73 (α := β) hB h2 (h := nxX m % α 0 6) (by rw [eh.1]; exact eh.2.2) (by rw [a6]; exact lt) (D := β 0 3) m6 h2.D) (by decide) (by decide) rfl rfl rfl (fun x169 m169 p169 => ?_)
            refine V_iast (pc := 172) hG (dk dd_X10_drawn 94 rfl) sh_73 r6 ?_
            rotate_left
            -- leaves: stop 173
            · obtain ⟨z1, z2⟩ := p169
              rw [z1, z2]
              refine next _ (updA β 0 3 (humN β (nxX m % α 0 6) (β 0 3))) _ (hM.tr (fun j a b c => setc_n b) (fun q a b c => by rw [setc_n (by decide)])) ?_ (hs.humm lt) st
              rw [setc_s]
              exact kap_put (i := 3) hB (by decide)
          -- a case
          have cas : nxX m % 4 = 0 → 0 < α 0 7 → V C 101 [(0, vR 67), (1, vI x), (2, vI y), (3, vI w), (4, vL (lN (nxX m))), (6, vI (nI i))] [] M := by
            intro g0 gp
            have lt : nxX m % α 0 7 < α 0 7 := Nat.mod_lt _ gp
            have st : stpS α s (nxX m) = hioS α s (nxX m % α 0 7) := by unfold stpS; rw [if_pos ⟨g0, gp⟩]
            obtain ⟨c1, c2, c3⟩ := ec gp
            have k7 := (h2.c (k := nxX m % α 0 7) (by rw [a7]; exact lt)).2.2.2
            have e7 : M 73 (26 + 4 * (nxX m % α 0 7) + 3) = nI (β 7 (nxX m % α 0 7)) := by
              have := hB.2.2 7 (nxX m % α 0 7) (by decide) (by decide) (by rw [a7]; exact lt)
              rw [kap_c (by decide)] at this
              rw [show 26 + 4 * (nxX m % α 0 7) + 3 = 22 + 4 * (nxX m % α 0 7) + 7 by omega]; exact this
            refine V_lload (pc := 101) hG (dk dd_X10_drawn 55 rfl) rfl ?_
            refine V_aload_n (pc := 103) hG (dk dd_X10_drawn 56 rfl) rfl ?_
            refine V_getR (pc := 104) hG (dk dd_X10_drawn 57 rfl) fl_X10_25 sh_67 rfl ?_
            refine V_iconst (pc := 107) hG (dk dd_X10_drawn 58 rfl) (v := 4) (by decide) ?_
            refine V_iald (pc := 108) hG (dk dd_X10_drawn 59 rfl) sh_73 r4 ?_
            refine V_i2l (pc := 109) hG (dk dd_X10_drawn 60 rfl) ?_
            refine V_lrem (pc := 110) hG (dk dd_X10_drawn 61 rfl) c2 ?_
            refine V_l2i (pc := 111) hG (dk dd_X10_drawn 62 rfl) ?_
            refine V_istore (pc := 112) hG (dk dd_X10_drawn 63 rfl) (by decide) (lv' := [(0, _), (1, _), (2, _), (3, _), (4, _), (6, _), (7, _)]) rfl ?_
            rotate_left
            -- leaves: stop 114
            · rw [c1, c3]
              refine V_aload_n (pc := 114) hG (dk dd_X10_drawn 64 rfl) rfl ?_
              refine V_getR (pc := 115) hG (dk dd_X10_drawn 65 rfl) fl_X10_25 sh_67 rfl ?_
              refine V_iload (pc := 118) hG (dk dd_X10_drawn 66 rfl) rfl ?_
              refine V_iconst (pc := 120) hG (dk dd_X10_drawn 67 rfl) (v := 3) (by decide) ?_
              refine V_callSip (pc := 121) hG (dk dd_X10_drawn 68 rfl) ml_X10_188 mo_X10_its (m_its (μ := M) sh_73 (h := nxX m % α 0 7) rfl (by omega) (v := 3) rfl (by decide)) (by decide) (by decide) rfl rfl rfl (fun x121 m121 p121 => ?_)
              refine V_if_ne (pc := 124) hG (dk dd_X10_drawn 69 rfl) (tgt := 138) (by decide) (fun h124 => ?_) (fun h124 => ?_)
              refine V_goto (pc := 138) hG (dk dd_X10_drawn 75 rfl) (tgt := 173) (by decide) ?_
              refine V_keep [0, 1, 2, 3, 4, 6] (lv' := [(0, _), (1, _), (2, _), (3, _), (4, _), (6, _)]) rfl ?_
              rotate_left
              refine V_aload_n (pc := 127) hG (dk dd_X10_drawn 70 rfl) rfl ?_
              refine V_getR (pc := 128) hG (dk dd_X10_drawn 71 rfl) fl_X10_25 sh_67 rfl ?_
              refine V_iload (pc := 131) hG (dk dd_X10_drawn 72 rfl) rfl ?_
              refine V_callSip (pc := 133) hG (dk dd_X10_drawn 73 rfl) ml_X10_211 mo_X10_heard (m_heard (α := β) sh_73 (by rw [p121.1]; exact hB) h2 (c := nxX m % α 0 7) rfl (by rw [a7]; exact lt)) (by decide) (by decide) rfl rfl rfl (fun x133 m133 p133 => ?_)
              refine V_istore (pc := 136) hG (dk dd_X10_drawn 74 rfl) (by decide) (lv' := [(0, _), (1, _), (2, _), (3, _), (4, _), (6, _), (7, _), (8, _)]) rfl ?_
              refine V_goto (pc := 138) hG (dk dd_X10_drawn 75 rfl) (tgt := 173) (by decide) ?_
              refine V_keep [0, 1, 2, 3, 4, 6] (lv' := [(0, _), (1, _), (2, _), (3, _), (4, _), (6, _)]) rfl ?_
              rotate_left
              -- leaves: stop 173; stop 173
              · rw [p121.1]
                rw [p121.2, e7] at h124
                have nz : ¬ s.2 (nxX m % α 0 7) = 0 := fun q => h124 (by rw [h4 _ lt, q]; rfl)
                refine next M β s hM hB hs ?_
                rw [st]; unfold hioS; rw [if_neg nz]
              · rw [p121.2, e7] at h124
                have nz : s.2 (nxX m % α 0 7) = 0 := by rw [← h4 _ lt]; exact (nI_eq (b := 0) (by omega) (by decide)).mp h124
                obtain ⟨⟨u1, u2⟩, _⟩ := p133
                exact next m133 _ _ (hM.tr (fun j a b c => by rw [u2 j b, p121.1]) (fun q a b c => by rw [u2 67 (by decide), p121.1])) u1 (hs.hear lt nz) st
          refine V_iload (pc := 63) hG (dk dd_X10_drawn 35 rfl) rfl ?_
          refine V_iload_n (pc := 65) hG (dk dd_X10_drawn 36 rfl) rfl ?_
          refine V_icmp_ge (pc := 66) hG (dk dd_X10_drawn 37 rfl) (tgt := 179) (by decide) (fun h66 => ?_) (fun h66 => ?_)
          rotate_left
          refine V_lload (pc := 69) hG (dk dd_X10_drawn 38 rfl) rfl ?_
          refine V_ldc2_w (pc := 71) hG (dk dd_X10_drawn 39 rfl) kk_X10_281 ?_
          refine V_lmul (pc := 74) hG (dk dd_X10_drawn 40 rfl) ?_
          refine V_ldc2_w (pc := 75) hG (dk dd_X10_drawn 41 rfl) kk_X10_283 ?_
          refine V_lrem (pc := 78) hG (dk dd_X10_drawn 42 rfl) (by decide) ?_
          refine V_lstore (pc := 79) hG (dk dd_X10_drawn 43 rfl) (by decide) (lv' := [(0, _), (1, _), (2, _), (3, _), (4, _), (6, _)]) rfl ?_
          refine V_lload (pc := 81) hG (dk dd_X10_drawn 44 rfl) rfl ?_
          refine V_ldc2_w (pc := 83) hG (dk dd_X10_drawn 45 rfl) kk_X10_217 ?_
          refine V_lrem (pc := 86) hG (dk dd_X10_drawn 46 rfl) (by decide) ?_
          refine V_lconst (pc := 87) hG (dk dd_X10_drawn 47 rfl) (v := 0) (by decide) ?_
          refine V_lcmp (pc := 88) hG (dk dd_X10_drawn 48 rfl) ?_
          refine V_if_ne (pc := 89) hG (dk dd_X10_drawn 49 rfl) (tgt := 141) (by decide) (fun h89 => ?_) (fun h89 => ?_)
          rotate_left
          refine V_aload_n (pc := 92) hG (dk dd_X10_drawn 50 rfl) rfl ?_
          refine V_getR (pc := 93) hG (dk dd_X10_drawn 51 rfl) fl_X10_25 sh_67 rfl ?_
          refine V_iconst (pc := 96) hG (dk dd_X10_drawn 52 rfl) (v := 4) (by decide) ?_
          refine V_iald (pc := 97) hG (dk dd_X10_drawn 53 rfl) sh_73 r4 ?_
          refine V_if_le (pc := 98) hG (dk dd_X10_drawn 54 rfl) (tgt := 141) (by decide) (fun h98 => ?_) (fun h98 => ?_)
          rotate_left
          rotate_left
          -- leaves: stop 179; stop 141; stop 141; stop 101
          · exfalso; rw [hx] at h66; have := le_i h66 (by omega) (by omega); omega
          · rw [ex]
            rw [ex, e4] at h89
            exact hum (fun q => h89 ((lg0 (by omega)).mpr q.1))
          · rw [ex]
            rw [m4] at h98
            exact hum (fun q => by have := le_i (b := 0) h98 (by omega) (by decide); omega)
          · rw [ex]
            rw [ex, e4] at h89
            rw [m4] at h98
            exact cas ((lg0 (by omega)).mp h89) (nle_i (b := 0) h98 (by omega) (by decide))
      refine V_aload_n (pc := 0) hG (dk dd_X10_drawn 0 rfl) rfl ?_
      refine V_iconst (pc := 1) hG (dk dd_X10_drawn 1 rfl) (v := 0) (by decide) ?_
      refine V_putI (pc := 2) hG (dk dd_X10_drawn 2 rfl) fl_X10_62 sh_67 rfl rfl ?_
      refine V_aload_n (pc := 5) hG (dk dd_X10_drawn 3 rfl) rfl ?_
      refine V_callVip (pc := 6) hG (dk dd_X10_drawn 4 rfl) ml_X10_219 mo_X10_isThere sh_67 rfl (m_isThere) (by decide) (by decide) rfl rfl rfl (fun x6 m6 p6 => ?_)
      refine V_if_ne (pc := 9) hG (dk dd_X10_drawn 5 rfl) (tgt := 15) (by decide) (fun h9 => ?_) (fun h9 => ?_)
      refine V_iload_n (pc := 15) hG (dk dd_X10_drawn 8 rfl) rfl ?_
      refine V_i2l (pc := 16) hG (dk dd_X10_drawn 9 rfl) ?_
      refine V_lconst (pc := 17) hG (dk dd_X10_drawn 10 rfl) (v := 0) (by decide) ?_
      refine V_ldc2_w (pc := 18) hG (dk dd_X10_drawn 11 rfl) kk_X10_277 ?_
      refine V_callSip (pc := 21) hG (dk dd_X10_drawn 12 rfl) ml_X10_72 mo_X10_in (m_inI (v := x) (lo := 0) (hi := 60) rfl rfl (by decide)) (by decide) (by decide) rfl rfl rfl (fun x21 m21 p21 => ?_)
      refine V_if_eq (pc := 24) hG (dk dd_X10_drawn 13 rfl) (tgt := 49) (by decide) (fun h24 => ?_) (fun h24 => ?_)
      rotate_left
      refine V_iload_n (pc := 27) hG (dk dd_X10_drawn 14 rfl) rfl ?_
      refine V_i2l (pc := 28) hG (dk dd_X10_drawn 15 rfl) ?_
      refine V_lconst (pc := 29) hG (dk dd_X10_drawn 16 rfl) (v := 1) (by decide) ?_
      refine V_ldc2_w (pc := 30) hG (dk dd_X10_drawn 17 rfl) kk_X10_279 ?_
      refine V_callSip (pc := 33) hG (dk dd_X10_drawn 18 rfl) ml_X10_72 mo_X10_in (m_inI (v := y) (lo := 1) (hi := 999999) rfl (by decide) (by decide)) (by decide) (by decide) rfl rfl rfl (fun x33 m33 p33 => ?_)
      refine V_if_eq (pc := 36) hG (dk dd_X10_drawn 19 rfl) (tgt := 49) (by decide) (fun h36 => ?_) (fun h36 => ?_)
      rotate_left
      refine V_iload_n (pc := 39) hG (dk dd_X10_drawn 20 rfl) rfl ?_
      refine V_i2l (pc := 40) hG (dk dd_X10_drawn 21 rfl) ?_
      refine V_lconst (pc := 41) hG (dk dd_X10_drawn 22 rfl) (v := 0) (by decide) ?_
      refine V_lconst (pc := 42) hG (dk dd_X10_drawn 23 rfl) (v := 1) (by decide) ?_
      refine V_callSip (pc := 43) hG (dk dd_X10_drawn 24 rfl) ml_X10_72 mo_X10_in (m_inI (v := w) (lo := 0) (hi := 1) rfl rfl (by decide)) (by decide) (by decide) rfl rfl rfl (fun x43 m43 p43 => ?_)
      refine V_if_ne (pc := 46) hG (dk dd_X10_drawn 25 rfl) (tgt := 52) (by decide) (fun h46 => ?_) (fun h46 => ?_)
      refine V_aload_n (pc := 52) hG (dk dd_X10_drawn 28 rfl) rfl ?_
      refine V_callVvp (pc := 53) hG (dk dd_X10_drawn 29 rfl) ml_X10_251 mo_X10_layThen sh_67 rfl (m_layThen) (by decide) (by decide) rfl rfl rfl (fun m53 p53 => ?_)
      refine V_iload_n (pc := 56) hG (dk dd_X10_drawn 30 rfl) rfl ?_
      refine V_i2l (pc := 57) hG (dk dd_X10_drawn 31 rfl) ?_
      refine V_lstore (pc := 58) hG (dk dd_X10_drawn 32 rfl) (by decide) (lv' := [(0, _), (1, _), (2, _), (3, _), (4, _)]) rfl ?_
      refine V_iconst (pc := 60) hG (dk dd_X10_drawn 33 rfl) (v := 0) (by decide) ?_
      refine V_istore (pc := 61) hG (dk dd_X10_drawn 34 rfl) (by decide) (lv' := [(0, _), (1, _), (2, _), (3, _), (4, _), (6, _)]) rfl ?_
      rotate_left
      rotate_left
      rotate_left
      -- leaves: stop 49; stop 49; stop 63; stop 49; stop 12
      · exact absurd hi.1 (p21.2.no h24)
      · exact absurd hi.2.1 (p33.2.no h36)
      · obtain ⟨l1, l2⟩ := p53
        have em : m43 = th0 μ := p43.1.trans (p33.1.trans (p21.1.trans p6.1))
        rw [yl]
        refine loop N 0 m53 α (α 0 3, α 7) S (by omega) ((FrM.th μ).tr (fun j a b c => by rw [l2 j b, em]) (fun q a b c => by rw [l2 67 (by decide), em])) (kap_cg hA hH hC (fun q hq => by rw [l1 q hq, em]; rfl)) ⟨Sam.rf α, hv, rfl, fun c hc => rfl⟩ (by omega) rfl
      · exact absurd (i2c.mpr hi.2.2) (p43.2.no h46)
      · exact absurd ((hz.there e0).mpr hv) (p6.2.no h9)
    · skip
      refine V_aload_n (pc := 0) hG (dk dd_X10_drawn 0 rfl) rfl ?_
      refine V_iconst (pc := 1) hG (dk dd_X10_drawn 1 rfl) (v := 0) (by decide) ?_
      refine V_putI (pc := 2) hG (dk dd_X10_drawn 2 rfl) fl_X10_62 sh_67 rfl rfl ?_
      refine V_aload_n (pc := 5) hG (dk dd_X10_drawn 3 rfl) rfl ?_
      refine V_callVip (pc := 6) hG (dk dd_X10_drawn 4 rfl) ml_X10_219 mo_X10_isThere sh_67 rfl (m_isThere) (by decide) (by decide) rfl rfl rfl (fun x6 m6 p6 => ?_)
      refine V_if_ne (pc := 9) hG (dk dd_X10_drawn 5 rfl) (tgt := 15) (by decide) (fun h9 => ?_) (fun h9 => ?_)
      refine V_iload_n (pc := 15) hG (dk dd_X10_drawn 8 rfl) rfl ?_
      refine V_i2l (pc := 16) hG (dk dd_X10_drawn 9 rfl) ?_
      refine V_lconst (pc := 17) hG (dk dd_X10_drawn 10 rfl) (v := 0) (by decide) ?_
      refine V_ldc2_w (pc := 18) hG (dk dd_X10_drawn 11 rfl) kk_X10_277 ?_
      refine V_callSip (pc := 21) hG (dk dd_X10_drawn 12 rfl) ml_X10_72 mo_X10_in (m_inI (v := x) (lo := 0) (hi := 60) rfl rfl (by decide)) (by decide) (by decide) rfl rfl rfl (fun x21 m21 p21 => ?_)
      refine V_if_eq (pc := 24) hG (dk dd_X10_drawn 13 rfl) (tgt := 49) (by decide) (fun h24 => ?_) (fun h24 => ?_)
      refine V_ldc (pc := 49) hG (dk dd_X10_drawn 26 rfl) kk_X10_82 ?_
      refine V_iretP (pc := 51) hG (dk dd_X10_drawn 27 rfl) hR (Pi.mk ?_)
      rotate_left
      refine V_iload_n (pc := 27) hG (dk dd_X10_drawn 14 rfl) rfl ?_
      refine V_i2l (pc := 28) hG (dk dd_X10_drawn 15 rfl) ?_
      refine V_lconst (pc := 29) hG (dk dd_X10_drawn 16 rfl) (v := 1) (by decide) ?_
      refine V_ldc2_w (pc := 30) hG (dk dd_X10_drawn 17 rfl) kk_X10_279 ?_
      refine V_callSip (pc := 33) hG (dk dd_X10_drawn 18 rfl) ml_X10_72 mo_X10_in (m_inI (v := y) (lo := 1) (hi := 999999) rfl (by decide) (by decide)) (by decide) (by decide) rfl rfl rfl (fun x33 m33 p33 => ?_)
      refine V_if_eq (pc := 36) hG (dk dd_X10_drawn 19 rfl) (tgt := 49) (by decide) (fun h36 => ?_) (fun h36 => ?_)
      refine V_ldc (pc := 49) hG (dk dd_X10_drawn 26 rfl) kk_X10_82 ?_
      refine V_iretP (pc := 51) hG (dk dd_X10_drawn 27 rfl) hR (Pi.mk ?_)
      rotate_left
      refine V_iload_n (pc := 39) hG (dk dd_X10_drawn 20 rfl) rfl ?_
      refine V_i2l (pc := 40) hG (dk dd_X10_drawn 21 rfl) ?_
      refine V_lconst (pc := 41) hG (dk dd_X10_drawn 22 rfl) (v := 0) (by decide) ?_
      refine V_lconst (pc := 42) hG (dk dd_X10_drawn 23 rfl) (v := 1) (by decide) ?_
      refine V_callSip (pc := 43) hG (dk dd_X10_drawn 24 rfl) ml_X10_72 mo_X10_in (m_inI (v := w) (lo := 0) (hi := 1) rfl rfl (by decide)) (by decide) (by decide) rfl rfl rfl (fun x43 m43 p43 => ?_)
      refine V_if_ne (pc := 46) hG (dk dd_X10_drawn 25 rfl) (tgt := 52) (by decide) (fun h46 => ?_) (fun h46 => ?_)
      rotate_left
      refine V_ldc (pc := 49) hG (dk dd_X10_drawn 26 rfl) kk_X10_82 ?_
      refine V_iretP (pc := 51) hG (dk dd_X10_drawn 27 rfl) hR (Pi.mk ?_)
      rotate_left
      rotate_left
      -- leaves: return@51; return@51; stop 52; return@51; stop 12
      · exact ⟨Or.inr (Or.inl ⟨h0, hi, rfl⟩), by rw [p21.1, p6.1]; exact FrM.th μ⟩
      · exact ⟨Or.inr (Or.inl ⟨h0, hi, rfl⟩), by rw [p33.1, p21.1, p6.1]; exact FrM.th μ⟩
      · exact absurd ⟨p21.2.yes h24, p33.2.yes h36, i2c.mp (p43.2.yes h46)⟩ hi
      · exact ⟨Or.inr (Or.inl ⟨h0, hi, rfl⟩), by rw [p43.1, p33.1, p21.1, p6.1]; exact FrM.th μ⟩
      · exact absurd ((hz.there e0).mpr hv) (p6.2.no h9)
  · skip
    refine V_aload_n (pc := 0) hG (dk dd_X10_drawn 0 rfl) rfl ?_
    refine V_iconst (pc := 1) hG (dk dd_X10_drawn 1 rfl) (v := 0) (by decide) ?_
    refine V_putI (pc := 2) hG (dk dd_X10_drawn 2 rfl) fl_X10_62 sh_67 rfl rfl ?_
    refine V_aload_n (pc := 5) hG (dk dd_X10_drawn 3 rfl) rfl ?_
    refine V_callVip (pc := 6) hG (dk dd_X10_drawn 4 rfl) ml_X10_219 mo_X10_isThere sh_67 rfl (m_isThere) (by decide) (by decide) rfl rfl rfl (fun x6 m6 p6 => ?_)
    refine V_if_ne (pc := 9) hG (dk dd_X10_drawn 5 rfl) (tgt := 15) (by decide) (fun h9 => ?_) (fun h9 => ?_)
    rotate_left
    refine V_ldc (pc := 12) hG (dk dd_X10_drawn 6 rfl) kk_X10_210 ?_
    refine V_iretP (pc := 14) hG (dk dd_X10_drawn 7 rfl) hR (Pi.mk ?_)
    rotate_left
    -- leaves: stop 15; return@14
    · exact absurd ((hz.there e0).mp (p6.2.yes h9)) hv
    · exact ⟨Or.inl ⟨fun q => hv (hz.vt q), rfl⟩, by rw [p6.1]; exact FrM.th μ⟩
