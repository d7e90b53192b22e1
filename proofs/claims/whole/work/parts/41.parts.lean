theorem V_callPl {C : Cx} {b : ByteArray} {nL d pc : Nat} {lv : List (Nat × Vl)} {st : List Vl} {μ : Mem} {d' : Nat} {as : List Vl} {f : Int64 → Mem → Prop} {st0 : List Vl} (g : G C RX2 b nL d) (hd : decode b pc = .ok (.invokestatic 108, 3)) (hct : CtP yX9_power cX9_power 5 (some .long) d' as μ (Pl f)) (hdd : d' < d) (hnp : as.length = 2) (h0 : st0 = as.reverse ++ st) (hw : Nat.ble (st.map cat).sum 8 = true)
    (k : ∀ x μ', f x μ' → V C (pc + 3) lv (vL x :: st) μ') : V C pc lv st0 μ := by
  refine V_runP g hct ?_ (fun r μ' h => by obtain ⟨x, rfl, h⟩ := h; exact k x μ' h)
  obtain ⟨p, l, e, R, s, m, args, below, meth, c, Q, kn, E⟩ := C
  obtain ⟨hx, hb, hml, hown, hts, hK, hi, hst, hnw, hrm, hcs, hlk⟩ := id g
  intro H locs ls hP hS hl
  obtain ⟨⟨m1, m2, m3⟩, m4⟩ := mo_X9_power
  refine va_runSN (host := "SleepingJudge") (bytes := cX9_power) (maxL := 5) (ret := some .long) (ws := Cond.code yX9_power cX9_power 5 (some .long) :: gw_tbl) (rm := rmD d') (n := 2) (index := 108) (As := as.map (dv E)) (rest := st.map (dv E)) ⟨hx, hb, hml, hown, hts⟩ (hct l E)
    ⟨va_cnB 2 hts (gw_ok m1) rfl rfl rfl hnw (hts _ m2) m3 ⟨by show d' + 1 + 1 ≤ _; omega, by show 8 + (5 + 11) + 256 * (d' + 1) ≤ _; omega⟩, hts _ m4, trivial⟩ ⟨Wo.blind, fun U hU hW => ⟨rfl, Wo.at hU hP hK hi hst hnw hS hW⟩⟩ rfl (by rw [List.length_map]; exact hnp) (hl.1.trans hml) ?_ (lv_room (by rw [cat_sum E st]; exact Nat.le_of_ble_eq_true hw)) hd ⟨by omega, by omega⟩
  rw [h0]
  show List.map (dv E) (as.reverse ++ st) = _
  rw [List.map_append, List.map_reverse]
/-- in how many of 10 to the things dreamt a case is free -/
def prtN (α : Al) (D c p E : Nat) : Nat := if E &&& D = E ∧ verN α c E = 1 then (10 - p) ^ bitsN E * p ^ (bitsN D - bitsN E) else 0
theorem bits_mono : ∀ {E D : Nat}, E &&& D = E → ∀ n, bitN E n ≤ bitN D n
  | E, D, h, 0 => Nat.le_refl _
  | E, D, h, n + 1 => by
    have ih := bits_mono h n
    rw [bitN_s, bitN_s]
    by_cases q : E.testBit n = true
    · have : D.testBit n = true := by
        have z := congrArg (fun w => Nat.testBit w n) h
        simp only [Nat.testBit_and] at z
        rw [q] at z; simpa using z
      rw [if_pos q, if_pos this]; omega
    · rw [if_neg q]; omega
theorem prtN_le {α : Al} {D c p E : Nat} (hp : p ≤ 10) : prtN α D c p E ≤ 10000000000000000 := by
  unfold prtN
  split
  · have h1 : (10 - p) ^ bitsN E ≤ 10 ^ 8 := Nat.le_trans (Nat.pow_le_pow_left (by omega) _) (Nat.pow_le_pow_right (by decide) (bitsN_le E))
    have h2 : p ^ (bitsN D - bitsN E) ≤ 10 ^ 8 := Nat.le_trans (Nat.pow_le_pow_left hp _) (Nat.pow_le_pow_right (by decide) (by have := bitsN_le D; omega))
    exact Nat.mul_le_mul h1 h2
  · exact Nat.zero_le _
theorem c_freeParts {μ : Mem} {α : Al} (hA : Abs (kac μ 15) α) (hv : Val α) {x y : Int32} {c p : Nat} (hx : x = nI c) (hc : c < α 0 7) (hy : y = nI p) (hp : p ≤ 10) :
    CtP yX2_freeParts cX2_freeParts 7 (some .long) 4 [vR 15, vI x, vI y] μ (Pl (fun r μ' => μ' = μ ∧ r = lN (sumT (prtN α (α 0 3) c p) (2 ^ α 0 0)))) := by
  refine CtP.go RX2 rfl pn_X2 (Nat.le_of_ble_eq_true rfl) (fun C hG hR => ?_)
  have e0 : bI (μ 15 0) = nI (2 ^ α 0 0) := by rw [show μ 15 0 = nI (α 0 0) from hA.1 0 (by decide)]; exact q_pow _ (by have := hv.t; omega)
  have e3 : μ 15 3 = nI (α 0 3) := hA.1 3 (by decide)
  have hp8 := pow8 hv.t
  have hD8 := hv.lt hv.D
  have hbD := bitsN_le (α 0 3)
  have loop : ∀ k i, i + k = 2 ^ α 0 0 → V C 5 [(0, vR 15), (1, vI x), (2, vI y), (3, vL (lN (sumT (prtN α (α 0 3) c p) i))), (5, vI (nI i))] [] μ := by
    intro k
    induction k with
    | zero =>
      intro i hi
      refine V_iload (pc := 5) hG (dk dd_X2_freeParts 4 rfl) rfl ?_
      refine V_aload_n (pc := 7) hG (dk dd_X2_freeParts 5 rfl) rfl ?_
      refine V_callVi (pc := 8) hG (dk dd_X2_freeParts 6 rfl) ml_X2_70 mo_X2_dreamCount sh_15 rfl (c_dreamCount co_now) (by decide) (by decide) rfl rfl rfl ?_
      refine V_icmp_ge (pc := 11) hG (dk dd_X2_freeParts 7 rfl) (tgt := 77) (by decide) (fun h11 => ?_) (fun h11 => ?_)
      refine V_lload_n (pc := 77) hG (dk dd_X2_freeParts 42 rfl) rfl ?_
      refine V_lretP (pc := 78) hG (dk dd_X2_freeParts 43 rfl) hR (Pl.mk ?_)
      rotate_left
      rotate_left
      -- leaves: return@78; stop 14
      · exact ⟨rfl, by rw [show i = 2 ^ α 0 0 by omega]⟩
      · exfalso; rw [e0] at h11; have := nle_i h11 (by omega) (by omega); omega
    | succ k ih =>
      intro i hi
      have hi2 : i < 2 ^ α 0 0 := by omega
      have hI := ih (i + 1) (by omega)
      rw [nI_succ, sumT_s, ← lN_add] at hI
      have hbi := bitsN_le i
      have hv3 := verN_lt α c i
      have nx : ¬ (i &&& α 0 3 = i ∧ verN α c i = 1) → V C 71 [(0, vR 15), (1, vI x), (2, vI y), (3, vL (lN (sumT (prtN α (α 0 3) c p) i))), (5, vI (nI i))] [] μ := by
        intro hne
        have hz : prtN α (α 0 3) c p i = 0 := by unfold prtN; rw [if_neg hne]
        rw [hz, show lN 0 = (0 : Int64) from rfl, Int64.add_zero] at hI
        refine V_iinc (pc := 71) hG (dk dd_X2_freeParts 40 rfl) rfl (v := _ + 1) rfl (by decide) (lv' := [(0, _), (1, _), (2, _), (3, _), (5, _)]) rfl ?_
        refine V_goto (pc := 74) hG (dk dd_X2_freeParts 41 rfl) (tgt := 5) (by decide) ?_
        rotate_left
        -- leaves: stop 5
        · exact hI
      refine V_iload (pc := 5) hG (dk dd_X2_freeParts 4 rfl) rfl ?_
      refine V_aload_n (pc := 7) hG (dk dd_X2_freeParts 5 rfl) rfl ?_
      refine V_callVi (pc := 8) hG (dk dd_X2_freeParts 6 rfl) ml_X2_70 mo_X2_dreamCount sh_15 rfl (c_dreamCount co_now) (by decide) (by decide) rfl rfl rfl ?_
      refine V_icmp_ge (pc := 11) hG (dk dd_X2_freeParts 7 rfl) (tgt := 77) (by decide) (fun h11 => ?_) (fun h11 => ?_)
      rotate_left
      refine V_iload (pc := 14) hG (dk dd_X2_freeParts 8 rfl) rfl ?_
      refine V_aload_n (pc := 16) hG (dk dd_X2_freeParts 9 rfl) rfl ?_
      refine V_getI (pc := 17) hG (dk dd_X2_freeParts 10 rfl) fl_X2_43 sh_15 rfl ?_
      refine V_iconst (pc := 20) hG (dk dd_X2_freeParts 11 rfl) (v := -1) (by decide) ?_
      refine V_ixor (pc := 21) hG (dk dd_X2_freeParts 12 rfl) ?_
      refine V_iand (pc := 22) hG (dk dd_X2_freeParts 13 rfl) ?_
      refine V_if_ne (pc := 23) hG (dk dd_X2_freeParts 14 rfl) (tgt := 71) (by decide) (fun h23 => ?_) (fun h23 => ?_)
      rotate_left
      refine V_aload_n (pc := 26) hG (dk dd_X2_freeParts 15 rfl) rfl ?_
      refine V_iload_n (pc := 27) hG (dk dd_X2_freeParts 16 rfl) rfl ?_
      refine V_iload (pc := 28) hG (dk dd_X2_freeParts 17 rfl) rfl ?_
      refine V_callVi (pc := 30) hG (dk dd_X2_freeParts 18 rfl) ml_X2_100 mo_X2_verdict sh_15 rfl (c_verdict co_now hA hv hx hc rfl hi2) (by decide) (by decide) rfl rfl rfl ?_
      refine V_iconst (pc := 33) hG (dk dd_X2_freeParts 19 rfl) (v := 1) (by decide) ?_
      refine V_icmp_ne (pc := 34) hG (dk dd_X2_freeParts 20 rfl) (tgt := 71) (by decide) (fun h34 => ?_) (fun h34 => ?_)
      rotate_left
      refine V_iload (pc := 37) hG (dk dd_X2_freeParts 21 rfl) rfl ?_
      refine V_callSi (pc := 39) hG (dk dd_X2_freeParts 22 rfl) ml_X2_103 mo_J6_bitCount_0f7a4 (c_bits rfl (by omega)) (by decide) (by decide) rfl rfl rfl ?_
      refine V_istore (pc := 42) hG (dk dd_X2_freeParts 23 rfl) (by decide) (lv' := [(0, _), (1, _), (2, _), (3, _), (5, _), (6, _)]) rfl ?_
      rotate_left
      -- leaves: stop 77; stop 71; stop 71; stop 44
      · exfalso; rw [e0] at h11; have := le_i h11 (by omega) (by omega); omega
      · rw [e3] at h23
        exact nx (fun z => h23 ((q_sub (by omega) (by omega)).mpr z.1))
      · exact nx (fun z => h34 (by rw [z.2]; rfl))
      · rw [e3] at h23
        have hs := (q_sub (by omega) (by omega)).mp h23
        have hv1 := (nI_eq (b := 1) (by omega) (by decide)).mp h34
        have hmo : bitsN i ≤ bitsN (α 0 3) := bits_mono hs 8
        have hz : prtN α (α 0 3) c p i = (10 - p) ^ bitsN i * p ^ (bitsN (α 0 3) - bitsN i) := by unfold prtN; rw [if_pos ⟨hs, hv1⟩]
        rw [hz, ← lN_mul] at hI
        refine V_lload_n (pc := 44) hG (dk dd_X2_freeParts 24 rfl) rfl ?_
        refine V_bipush (pc := 45) hG (dk dd_X2_freeParts 25 rfl) (v := 10) (by decide) ?_
        refine V_iload_n (pc := 47) hG (dk dd_X2_freeParts 26 rfl) rfl ?_
        refine V_isub (pc := 48) hG (dk dd_X2_freeParts 27 rfl) ?_
        refine V_iload (pc := 49) hG (dk dd_X2_freeParts 28 rfl) rfl ?_
        refine V_callPl (pc := 51) hG (dk dd_X2_freeParts 29 rfl) (c_power (b := 10 - p) (k := bitsN i) ?_ (by omega) rfl hbi) (by decide) rfl rfl rfl (fun x51 m51 p51 => ?_)
        rotate_left
        refine V_iload_n (pc := 54) hG (dk dd_X2_freeParts 30 rfl) rfl ?_
        refine V_aload_n (pc := 55) hG (dk dd_X2_freeParts 31 rfl) rfl ?_
        refine V_getI (pc := 56) hG (dk dd_X2_freeParts 32 rfl) fl_X2_43 sh_15 rfl ?_
        refine V_callSi (pc := 59) hG (dk dd_X2_freeParts 33 rfl) ml_X2_103 mo_J6_bitCount_0f7a4 (c_bits (D := α 0 3) ?_ hD8) (by decide) (by decide) rfl rfl rfl ?_
        rotate_left
        refine V_iload (pc := 62) hG (dk dd_X2_freeParts 34 rfl) rfl ?_
        refine V_isub (pc := 64) hG (dk dd_X2_freeParts 35 rfl) ?_
        refine V_callPl (pc := 65) hG (dk dd_X2_freeParts 36 rfl) (c_power (b := p) (k := bitsN (α 0 3) - bitsN i) hy hp ?_ (by omega)) (by decide) rfl rfl rfl (fun x65 m65 p65 => ?_)
        rotate_left
        refine V_lmul (pc := 68) hG (dk dd_X2_freeParts 37 rfl) ?_
        refine V_ladd (pc := 69) hG (dk dd_X2_freeParts 38 rfl) ?_
        refine V_lstore_n (pc := 70) hG (dk dd_X2_freeParts 39 rfl) (by decide) (lv' := [(0, _), (1, _), (2, _), (3, _), (5, _), (6, _)]) rfl ?_
        refine V_iinc (pc := 71) hG (dk dd_X2_freeParts 40 rfl) rfl (v := _ + 1) rfl (by decide) (lv' := [(0, _), (1, _), (2, _), (3, _), (5, _), (6, _)]) rfl ?_
        refine V_goto (pc := 74) hG (dk dd_X2_freeParts 41 rfl) (tgt := 5) (by decide) ?_
        refine V_keep [0, 1, 2, 3, 5] (lv' := [(0, _), (1, _), (2, _), (3, _), (5, _)]) rfl ?_
        rotate_left
        -- leaves: call power@51 0; call bitCount@59 0; call power@65 0; stop 5
        · rw [hy, show (10 : Int32) = nI 10 from rfl, pk_sub hp]
        · rw [p51.1]; exact e3
        · rw [pk_sub hmo]
        · obtain ⟨rfl, rfl⟩ := p51
          obtain ⟨rfl, rfl⟩ := p65
          exact hI
  refine V_lconst (pc := 0) hG (dk dd_X2_freeParts 0 rfl) (v := 0) (by decide) ?_
  refine V_lstore_n (pc := 1) hG (dk dd_X2_freeParts 1 rfl) (by decide) (lv' := [(0, _), (1, _), (2, _), (3, _)]) rfl ?_
  refine V_iconst (pc := 2) hG (dk dd_X2_freeParts 2 rfl) (v := 0) (by decide) ?_
  refine V_istore (pc := 3) hG (dk dd_X2_freeParts 3 rfl) (by decide) (lv' := [(0, _), (1, _), (2, _), (3, _), (5, _)]) rfl ?_
  rotate_left
  -- leaves: stop 5
  · exact loop (2 ^ α 0 0) 0 (by omega)
