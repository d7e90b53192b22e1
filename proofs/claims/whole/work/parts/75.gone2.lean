def GonR (α : Al) (x y w : Int32) (r : Int64) : Prop := (¬ (inN x (α 0 7) ∧ (0 ≤ y ∧ y ≤ 10) ∧ (w = 0 ∨ w = 1)) ∧ r = -1000001) ∨ ((inN x (α 0 7) ∧ (0 ≤ y ∧ y ≤ 10) ∧ (w = 0 ∨ w = 1)) ∧
  r = lN ((if w = 0 then sumT (prtN α (α 0 3) x.toNatClampNeg y.toNatClampNeg) (2 ^ α 0 0) else 10 ^ bitsN (α 0 3)) / Nat.gcd (sumT (prtN α (α 0 3) x.toNatClampNeg y.toNatClampNeg) (2 ^ α 0 0)) (10 ^ bitsN (α 0 3))))
set_option maxHeartbeats 2000000 in
theorem m_gone {μ : Mem} {α : Al} (hA : Abs (kap (μ 71)) α) (hz : Vz α) {x y w : Int32} : CtP yX10_gone cX10_gone 15 (some .long) 3 [vR 67, vI x, vI y, vI w] μ (Pl (fun r μ' => GonR α x y w r ∧ μ' = th0 μ)) := by
  refine CtP.go RX10 rfl pn_X10 (Nat.le_of_ble_eq_true rfl) (fun C hG hR => ?_)
  have hC := hz.C
  have e4 : th0 μ 71 4 = nI (α 0 7) := e_sc hA (i := 7) (by decide)
  have r6 : vp_in (6 : Int32) 46 := rr (n := 6) (by decide)
  have r0 : vp_in (0 : Int32) 46 := rr (n := 0) (by decide)
  have e0 : th0 μ 71 (Int32.toNatClampNeg 0) = nI (α 0 0) := e_sc hA (i := 0) (by decide)
  have e6 : th0 μ 71 (Int32.toNatClampNeg 6) = nI (α 0 3) := e_sc hA (i := 3) (by decide)
  have hA2 : Abs (kap (th0 μ 71)) α := hA
  by_cases hi : inN x (α 0 7) ∧ (0 ≤ y ∧ y ≤ 10) ∧ (w = 0 ∨ w = 1)
  · obtain ⟨hx, hh⟩ := hi.1.n (by omega)
    have hv := hz.vc hh
    have ht := hv.t
    have hp := pow8 ht
    have hD := hv.D
    have hD8 := hv.lt hv.D
    obtain ⟨p, hpl, hy⟩ := nI_of (Int32.not_lt.mpr hi.2.1.1)
    have p10 : p ≤ 10 := le_i (b := 10) (hy ▸ hi.2.1.2) hpl (by decide)
    have yp : y.toNatClampNeg = p := nI_cl hy hpl
    have yl : y.toInt64 = lN p := by rw [hy]; exact nI_l hpl
    generalize hAA : sumT (prtN α (α 0 3) x.toNatClampNeg p) (2 ^ α 0 0) = A
    generalize hBB : 10 ^ bitsN (α 0 3) = B
    have pA : sumT (fun s => prtN α (α 0 3) x.toNatClampNeg p (α 0 3 - s)) (α 0 3 + 1) = A := by rw [prt_sum hD, hAA]
    have pB : sumT (wsN (α 0 3) p (α 0 0)) (α 0 3 + 1) = B := by rw [ws_sum p10 hD ht, hBB]
    have lA : A < 2 ^ 62 := by
      rw [← hAA]
      have := sumT_le (f := prtN α (α 0 3) x.toNatClampNeg p) (fun i => prtN_le p10) (2 ^ α 0 0)
      have h2 : 2 ^ α 0 0 * 10000000000000000 ≤ 256 * 10000000000000000 := Nat.mul_le_mul_right _ hp
      omega
    have lB : B < 2 ^ 62 ∧ 0 < B := by
      rw [← hBB]
      have : 10 ^ bitsN (α 0 3) ≤ 10 ^ 8 := Nat.pow_le_pow_right (by decide) (bitsN_le _)
      exact ⟨by omega, Nat.pow_pos (by decide)⟩
    have ne0 : ∀ {c : Nat}, c < 2 ^ 62 → ((lg_cmp (lN c) 0 = 0) ↔ c = 0) := by
      intro c hc
      unfold lg_cmp
      rw [show (0 : Int64) = lN 0 from rfl]
      by_cases q : c = 0
      · subst q; simp
      · rw [if_pos (show lN c > lN 0 from (pk_lLT (by decide) (by omega)).mpr (by omega))]
        exact ⟨fun z => absurd z (by decide), fun z => absurd z q⟩
    have n0 : ∀ {c : Nat}, c < 2 ^ 62 → ¬ c = 0 → ¬ lN c = 0 := fun hc h0 z => h0 ((pk_lEQ (b := 0) (by omega) (by decide)).mp z)
    -- the divisor
    have gcd : ∀ b a v4, a < 2 ^ 62 → b < 2 ^ 62 → Nat.gcd a b = Nat.gcd A B → V C 188 [(0, vR 67), (1, vI x), (2, vI y), (3, vI w), (4, vI v4), (5, vL (lN A)), (7, vL (lN B)), (9, vL (lN a)), (11, vL (lN b))] [] (th0 μ) := by
      intro b
      induction b using Nat.strongRecOn with
      | ind b ih =>
        intro a v4 ha hb hg
        by_cases b0 : b = 0
        · have ea : a = Nat.gcd A B := by rw [← hg, b0, Nat.gcd_zero_right]
          have gp : 0 < Nat.gcd A B := Nat.gcd_pos_of_pos_right A lB.2
          have ga : ¬ lN a = 0 := n0 ha (by omega)
          refine V_lload (pc := 188) hG (dk dd_X10_gone 100 rfl) rfl ?_
          refine V_lconst (pc := 190) hG (dk dd_X10_gone 101 rfl) (v := 0) (by decide) ?_
          refine V_lcmp (pc := 191) hG (dk dd_X10_gone 102 rfl) ?_
          refine V_if_eq (pc := 192) hG (dk dd_X10_gone 103 rfl) (tgt := 213) (by decide) (fun h192 => ?_) (fun h192 => ?_)
          refine V_iload_n (pc := 213) hG (dk dd_X10_gone 113 rfl) rfl ?_
          refine V_if_ne (pc := 214) hG (dk dd_X10_gone 114 rfl) (tgt := 222) (by decide) (fun h214 => ?_) (fun h214 => ?_)
          refine V_lload (pc := 222) hG (dk dd_X10_gone 117 rfl) rfl ?_
          refine V_lload (pc := 224) hG (dk dd_X10_gone 118 rfl) rfl ?_
          refine V_ldiv (pc := 226) hG (dk dd_X10_gone 119 rfl) ga ?_
          refine V_lretP (pc := 227) hG (dk dd_X10_gone 120 rfl) hR (Pl.mk ?_)
          rotate_left
          refine V_lload (pc := 217) hG (dk dd_X10_gone 115 rfl) rfl ?_
          refine V_goto (pc := 219) hG (dk dd_X10_gone 116 rfl) (tgt := 224) (by decide) ?_
          refine V_lload (pc := 224) hG (dk dd_X10_gone 118 rfl) rfl ?_
          refine V_ldiv (pc := 226) hG (dk dd_X10_gone 119 rfl) ga ?_
          refine V_lretP (pc := 227) hG (dk dd_X10_gone 120 rfl) hR (Pl.mk ?_)
          rotate_left
          rotate_left
          -- leaves: return@227; return@227; stop 195
          · refine ⟨Or.inr ⟨hi, ?_⟩, rfl⟩
            rw [yp, hAA, hBB, if_neg h214, pk_lDiv (by omega) (by omega) (by omega), ea]
          · refine ⟨Or.inr ⟨hi, ?_⟩, rfl⟩
            rw [yp, hAA, hBB, if_pos h214, pk_lDiv (by omega) (by omega) (by omega), ea]
          · exact absurd ((ne0 hb).mpr b0) h192
        · have hlt : a % b < b := Nat.mod_lt _ (by omega)
          have hI := ih (a % b) hlt b v4 hb (by omega) (by rw [← hg, Nat.gcd_comm b, ← Nat.gcd_rec, Nat.gcd_comm])
          refine V_lload (pc := 188) hG (dk dd_X10_gone 100 rfl) rfl ?_
          refine V_lconst (pc := 190) hG (dk dd_X10_gone 101 rfl) (v := 0) (by decide) ?_
          refine V_lcmp (pc := 191) hG (dk dd_X10_gone 102 rfl) ?_
          refine V_if_eq (pc := 192) hG (dk dd_X10_gone 103 rfl) (tgt := 213) (by decide) (fun h192 => ?_) (fun h192 => ?_)
          rotate_left
          refine V_lload (pc := 195) hG (dk dd_X10_gone 104 rfl) rfl ?_
          refine V_lload (pc := 197) hG (dk dd_X10_gone 105 rfl) rfl ?_
          refine V_lrem (pc := 199) hG (dk dd_X10_gone 106 rfl) (n0 hb b0) ?_
          refine V_lstore (pc := 200) hG (dk dd_X10_gone 107 rfl) (by decide) (lv' := [(0, _), (1, _), (2, _), (3, _), (4, _), (5, _), (7, _), (9, _), (11, _), (13, _)]) rfl ?_
          refine V_lload (pc := 202) hG (dk dd_X10_gone 108 rfl) rfl ?_
          refine V_lstore (pc := 204) hG (dk dd_X10_gone 109 rfl) (by decide) (lv' := [(0, _), (1, _), (2, _), (3, _), (4, _), (5, _), (7, _), (9, _), (11, _), (13, _)]) rfl ?_
          refine V_lload (pc := 206) hG (dk dd_X10_gone 110 rfl) rfl ?_
          refine V_lstore (pc := 208) hG (dk dd_X10_gone 111 rfl) (by decide) (lv' := [(0, _), (1, _), (2, _), (3, _), (4, _), (5, _), (7, _), (9, _), (11, _), (13, _)]) rfl ?_
          refine V_goto (pc := 210) hG (dk dd_X10_gone 112 rfl) (tgt := 188) (by decide) ?_
          refine V_keep [0, 1, 2, 3, 4, 5, 7, 9, 11] (lv' := [(0, _), (1, _), (2, _), (3, _), (4, _), (5, _), (7, _), (9, _), (11, _)]) rfl ?_
          rotate_left
          -- leaves: stop 213; stop 188
          · exact absurd ((ne0 hb).mp h192) b0
          · rw [pk_lRem (by omega) (by omega) (by omega)]
            exact hI
    -- over the sets
    have outer : ∀ k s, s + k = α 0 3 + 1 → V C 57 [(0, vR 67), (1, vI x), (2, vI y), (3, vI w), (4, vI (nI (α 0 3))), (5, vL (lN (sumT (fun s => prtN α (α 0 3) x.toNatClampNeg p (α 0 3 - s)) s))), (7, vL (lN (sumT (wsN (α 0 3) p (α 0 0)) s))), (9, vI (nI s))] [] (th0 μ) := by
      intro k
      induction k with
      | zero =>
        intro s hs
        refine V_iload (pc := 57) hG (dk dd_X10_gone 32 rfl) rfl ?_
        refine V_iload (pc := 59) hG (dk dd_X10_gone 33 rfl) rfl ?_
        refine V_icmp_gt (pc := 61) hG (dk dd_X10_gone 34 rfl) (tgt := 180) (by decide) (fun h61 => ?_) (fun h61 => ?_)
        refine V_lload (pc := 180) hG (dk dd_X10_gone 96 rfl) rfl ?_
        refine V_lstore (pc := 182) hG (dk dd_X10_gone 97 rfl) (by decide) (lv' := [(0, _), (1, _), (2, _), (3, _), (4, _), (5, _), (7, _), (9, _)]) rfl ?_
        refine V_lload (pc := 184) hG (dk dd_X10_gone 98 rfl) rfl ?_
        refine V_lstore (pc := 186) hG (dk dd_X10_gone 99 rfl) (by decide) (lv' := [(0, _), (1, _), (2, _), (3, _), (4, _), (5, _), (7, _), (9, _), (11, _)]) rfl ?_
        rotate_left
        rotate_left
        -- leaves: stop 188; stop 64
        · rw [show s = α 0 3 + 1 by omega, pA, pB]
          exact gcd B A _ lA lB.1 rfl
        · exfalso; have h61 := Int32.not_lt.mp h61; have := le_i h61 (by omega) (by omega); omega
      | succ k ih =>
        intro s hs
        have hI := ih (s + 1) (by omega)
        rw [sumT_s, sumT_s, nI_succ] at hI
        have s8 : s < 256 := by omega
        by_cases sd : s &&& α 0 3 = s
        · have ev : nI (α 0 3) &&& (nI s ^^^ (-1)) = nI (α 0 3 - s) := nI_andn hD8 s8 sd
          have pa := prt_at (α := α) (c := x.toNatClampNeg) (p := p) hD ht sd
          have ws : wsN (α 0 3) p (α 0 0) s = wyN (α 0 3) p s (α 0 0) := by unfold wsN; rw [if_pos sd]
          rw [pa, ws, ← lN_add, ← lN_add] at hI
          have vl := verN_lt α x.toNatClampNeg (α 0 3 - s)
          have inner : ∀ k2 t, t + k2 = α 0 0 → V C 80 [(0, vR 67), (1, vI x), (2, vI y), (3, vI w), (4, vI (nI (α 0 3))), (5, vL (lN (sumT (fun s => prtN α (α 0 3) x.toNatClampNeg p (α 0 3 - s)) s))), (7, vL (lN (sumT (wsN (α 0 3) p (α 0 0)) s))), (9, vI (nI s)), (10, vL (lN (wyN (α 0 3) p s t))), (12, vI (nI t))] [] (th0 μ) := by
            intro k2
            induction k2 with
            | zero =>
              intro t htt
              have et : t = α 0 0 := by omega
              refine V_iload (pc := 80) hG (dk dd_X10_gone 45 rfl) rfl ?_
              refine V_aload_n (pc := 82) hG (dk dd_X10_gone 46 rfl) rfl ?_
              refine V_getR (pc := 83) hG (dk dd_X10_gone 47 rfl) fl_X10_19 sh_67 rfl ?_
              refine V_iconst (pc := 86) hG (dk dd_X10_gone 48 rfl) (v := 0) (by decide) ?_
              refine V_iald (pc := 87) hG (dk dd_X10_gone 49 rfl) sh_71 r0 ?_
              refine V_icmp_ge (pc := 88) hG (dk dd_X10_gone 50 rfl) (tgt := 137) (by decide) (fun h88 => ?_) (fun h88 => ?_)
              refine V_lload (pc := 137) hG (dk dd_X10_gone 73 rfl) rfl ?_
              refine V_lload (pc := 139) hG (dk dd_X10_gone 74 rfl) rfl ?_
              refine V_ladd (pc := 141) hG (dk dd_X10_gone 75 rfl) ?_
              refine V_lstore (pc := 142) hG (dk dd_X10_gone 76 rfl) (by decide) (lv' := [(0, _), (1, _), (2, _), (3, _), (4, _), (5, _), (7, _), (9, _), (10, _), (12, _)]) rfl ?_
              refine V_lload (pc := 144) hG (dk dd_X10_gone 77 rfl) rfl ?_
              refine V_aload_n (pc := 146) hG (dk dd_X10_gone 78 rfl) rfl ?_
              refine V_getR (pc := 147) hG (dk dd_X10_gone 79 rfl) fl_X10_19 sh_67 rfl ?_
              refine V_iload_n (pc := 150) hG (dk dd_X10_gone 80 rfl) rfl ?_
              refine V_iload (pc := 151) hG (dk dd_X10_gone 81 rfl) rfl ?_
              refine V_iload (pc := 153) hG (dk dd_X10_gone 82 rfl) rfl ?_
              refine V_iconst (pc := 155) hG (dk dd_X10_gone 83 rfl) (v := -1) (by decide) ?_
              refine V_ixor (pc := 156) hG (dk dd_X10_gone 84 rfl) ?_
              refine V_iand (pc := 157) hG (dk dd_X10_gone 85 rfl) ?_
              refine V_callSip (pc := 158) hG (dk dd_X10_gone 86 rfl) ml_X10_194 mo_X10_verdict (m_verdict (μ := th0 μ) (α := α) sh_71 hA2 hv hx hh (D := α 0 3 - s) ev (by omega)) (by decide) (by decide) rfl rfl rfl (fun x158 m158 p158 => ?_)
              refine V_iconst (pc := 161) hG (dk dd_X10_gone 87 rfl) (v := 1) (by decide) ?_
              refine V_icmp_ne (pc := 162) hG (dk dd_X10_gone 88 rfl) (tgt := 170) (by decide) (fun h162 => ?_) (fun h162 => ?_)
              refine V_lconst (pc := 170) hG (dk dd_X10_gone 91 rfl) (v := 0) (by decide) ?_
              refine V_ladd (pc := 171) hG (dk dd_X10_gone 92 rfl) ?_
              refine V_lstore (pc := 172) hG (dk dd_X10_gone 93 rfl) (by decide) (lv' := [(0, _), (1, _), (2, _), (3, _), (4, _), (5, _), (7, _), (9, _), (10, _), (12, _)]) rfl ?_
              refine V_iinc (pc := 174) hG (dk dd_X10_gone 94 rfl) rfl (v := _ + 1) rfl (by decide) (lv' := [(0, _), (1, _), (2, _), (3, _), (4, _), (5, _), (7, _), (9, _), (10, _), (12, _)]) rfl ?_
              refine V_goto (pc := 177) hG (dk dd_X10_gone 95 rfl) (tgt := 57) (by decide) ?_
              refine V_keep [0, 1, 2, 3, 4, 5, 7, 9] (lv' := [(0, _), (1, _), (2, _), (3, _), (4, _), (5, _), (7, _), (9, _)]) rfl ?_
              rotate_left
              refine V_lload (pc := 165) hG (dk dd_X10_gone 89 rfl) rfl ?_
              refine V_goto (pc := 167) hG (dk dd_X10_gone 90 rfl) (tgt := 171) (by decide) ?_
              refine V_ladd (pc := 171) hG (dk dd_X10_gone 92 rfl) ?_
              refine V_lstore (pc := 172) hG (dk dd_X10_gone 93 rfl) (by decide) (lv' := [(0, _), (1, _), (2, _), (3, _), (4, _), (5, _), (7, _), (9, _), (10, _), (12, _)]) rfl ?_
              refine V_iinc (pc := 174) hG (dk dd_X10_gone 94 rfl) rfl (v := _ + 1) rfl (by decide) (lv' := [(0, _), (1, _), (2, _), (3, _), (4, _), (5, _), (7, _), (9, _), (10, _), (12, _)]) rfl ?_
              refine V_goto (pc := 177) hG (dk dd_X10_gone 95 rfl) (tgt := 57) (by decide) ?_
              refine V_keep [0, 1, 2, 3, 4, 5, 7, 9] (lv' := [(0, _), (1, _), (2, _), (3, _), (4, _), (5, _), (7, _), (9, _)]) rfl ?_
              rotate_left
              rotate_left
              -- leaves: stop 57; stop 57; stop 91
              · obtain ⟨z1, z2⟩ := p158
                rw [z2] at h162
                rw [if_neg (fun q => h162 (by rw [q]; rfl))] at hI
                rw [z1, et]; exact hI
              · obtain ⟨z1, z2⟩ := p158
                rw [z2] at h162
                rw [if_pos ((nI_eq (b := 1) (by omega) (by decide)).mp h162)] at hI
                rw [z1, et]; exact hI
              · exfalso; rw [e0] at h88; have := nle_i h88 (by omega) (by omega); omega
            | succ k2 ib =>
              intro t htt
              have hb := ib (t + 1) (by omega)
              rw [wyN_s, nI_succ, ← lN_mul] at hb
              refine V_iload (pc := 80) hG (dk dd_X10_gone 45 rfl) rfl ?_
              refine V_aload_n (pc := 82) hG (dk dd_X10_gone 46 rfl) rfl ?_
              refine V_getR (pc := 83) hG (dk dd_X10_gone 47 rfl) fl_X10_19 sh_67 rfl ?_
              refine V_iconst (pc := 86) hG (dk dd_X10_gone 48 rfl) (v := 0) (by decide) ?_
              refine V_iald (pc := 87) hG (dk dd_X10_gone 49 rfl) sh_71 r0 ?_
              refine V_icmp_ge (pc := 88) hG (dk dd_X10_gone 50 rfl) (tgt := 137) (by decide) (fun h88 => ?_) (fun h88 => ?_)
              rotate_left
              refine V_lload (pc := 91) hG (dk dd_X10_gone 51 rfl) rfl ?_
              refine V_iload (pc := 93) hG (dk dd_X10_gone 52 rfl) rfl ?_
              refine V_iload (pc := 95) hG (dk dd_X10_gone 53 rfl) rfl ?_
              refine V_callSip (pc := 97) hG (dk dd_X10_gone 54 rfl) ml_X10_181 mo_X10_has (m_has (D := α 0 3) rfl hD8 (K := t) rfl (by omega)) (by decide) (by decide) rfl rfl rfl (fun x97 m97 p97 => ?_)
              refine V_if_ne (pc := 100) hG (dk dd_X10_gone 55 rfl) (tgt := 107) (by decide) (fun h100 => ?_) (fun h100 => ?_)
              refine V_iload (pc := 107) hG (dk dd_X10_gone 58 rfl) rfl ?_
              refine V_iload (pc := 109) hG (dk dd_X10_gone 59 rfl) rfl ?_
              refine V_callSip (pc := 111) hG (dk dd_X10_gone 60 rfl) ml_X10_181 mo_X10_has (m_has (D := s) rfl s8 (K := t) rfl (by omega)) (by decide) (by decide) rfl rfl rfl (fun x111 m111 p111 => ?_)
              refine V_if_eq (pc := 114) hG (dk dd_X10_gone 61 rfl) (tgt := 122) (by decide) (fun h114 => ?_) (fun h114 => ?_)
              refine V_ldc2_w (pc := 122) hG (dk dd_X10_gone 65 rfl) kk_X10_273 ?_
              refine V_iload_n (pc := 125) hG (dk dd_X10_gone 66 rfl) rfl ?_
              refine V_i2l (pc := 126) hG (dk dd_X10_gone 67 rfl) ?_
              refine V_lsub (pc := 127) hG (dk dd_X10_gone 68 rfl) ?_
              refine V_lmul (pc := 128) hG (dk dd_X10_gone 69 rfl) ?_
              refine V_lstore (pc := 129) hG (dk dd_X10_gone 70 rfl) (by decide) (lv' := [(0, _), (1, _), (2, _), (3, _), (4, _), (5, _), (7, _), (9, _), (10, _), (12, _)]) rfl ?_
              refine V_iinc (pc := 131) hG (dk dd_X10_gone 71 rfl) rfl (v := _ + 1) rfl (by decide) (lv' := [(0, _), (1, _), (2, _), (3, _), (4, _), (5, _), (7, _), (9, _), (10, _), (12, _)]) rfl ?_
              refine V_goto (pc := 134) hG (dk dd_X10_gone 72 rfl) (tgt := 80) (by decide) ?_
              rotate_left
              refine V_iload_n (pc := 117) hG (dk dd_X10_gone 62 rfl) rfl ?_
              refine V_i2l (pc := 118) hG (dk dd_X10_gone 63 rfl) ?_
              refine V_goto (pc := 119) hG (dk dd_X10_gone 64 rfl) (tgt := 128) (by decide) ?_
              refine V_lmul (pc := 128) hG (dk dd_X10_gone 69 rfl) ?_
              refine V_lstore (pc := 129) hG (dk dd_X10_gone 70 rfl) (by decide) (lv' := [(0, _), (1, _), (2, _), (3, _), (4, _), (5, _), (7, _), (9, _), (10, _), (12, _)]) rfl ?_
              refine V_iinc (pc := 131) hG (dk dd_X10_gone 71 rfl) rfl (v := _ + 1) rfl (by decide) (lv' := [(0, _), (1, _), (2, _), (3, _), (4, _), (5, _), (7, _), (9, _), (10, _), (12, _)]) rfl ?_
              refine V_goto (pc := 134) hG (dk dd_X10_gone 72 rfl) (tgt := 80) (by decide) ?_
              rotate_left
              refine V_lconst (pc := 103) hG (dk dd_X10_gone 56 rfl) (v := 1) (by decide) ?_
              refine V_goto (pc := 104) hG (dk dd_X10_gone 57 rfl) (tgt := 128) (by decide) ?_
              refine V_lmul (pc := 128) hG (dk dd_X10_gone 69 rfl) ?_
              refine V_lstore (pc := 129) hG (dk dd_X10_gone 70 rfl) (by decide) (lv' := [(0, _), (1, _), (2, _), (3, _), (4, _), (5, _), (7, _), (9, _), (10, _), (12, _)]) rfl ?_
              refine V_iinc (pc := 131) hG (dk dd_X10_gone 71 rfl) rfl (v := _ + 1) rfl (by decide) (lv' := [(0, _), (1, _), (2, _), (3, _), (4, _), (5, _), (7, _), (9, _), (10, _), (12, _)]) rfl ?_
              refine V_goto (pc := 134) hG (dk dd_X10_gone 72 rfl) (tgt := 80) (by decide) ?_
              rotate_left
              -- leaves: stop 137; stop 80; stop 80; stop 80
              · exfalso; rw [e0] at h88; have := le_i h88 (by omega) (by omega); omega
              · obtain ⟨z1, z2⟩ := p97
                obtain ⟨z3, z4⟩ := p111
                rw [if_pos (z2.yes h100), if_neg (z4.no h114)] at hb
                rw [z3, z1, yl, show (10 : Int64) = lN 10 from rfl, lN_sub p10]; exact hb
              · obtain ⟨z1, z2⟩ := p97
                obtain ⟨z3, z4⟩ := p111
                rw [if_pos (z2.yes h100), if_pos (z4.yes h114)] at hb
                rw [z3, z1, yl]; exact hb
              · obtain ⟨z1, z2⟩ := p97
                rw [if_neg (z2.no h100)] at hb
                rw [z1]; exact hb
          refine V_iload (pc := 57) hG (dk dd_X10_gone 32 rfl) rfl ?_
          refine V_iload (pc := 59) hG (dk dd_X10_gone 33 rfl) rfl ?_
          refine V_icmp_gt (pc := 61) hG (dk dd_X10_gone 34 rfl) (tgt := 180) (by decide) (fun h61 => ?_) (fun h61 => ?_)
          rotate_left
          refine V_iload (pc := 64) hG (dk dd_X10_gone 35 rfl) rfl ?_
          refine V_iload (pc := 66) hG (dk dd_X10_gone 36 rfl) rfl ?_
          refine V_iconst (pc := 68) hG (dk dd_X10_gone 37 rfl) (v := -1) (by decide) ?_
          refine V_ixor (pc := 69) hG (dk dd_X10_gone 38 rfl) ?_
          refine V_iand (pc := 70) hG (dk dd_X10_gone 39 rfl) ?_
          refine V_if_ne (pc := 71) hG (dk dd_X10_gone 40 rfl) (tgt := 174) (by decide) (fun h71 => ?_) (fun h71 => ?_)
          rotate_left
          refine V_lconst (pc := 74) hG (dk dd_X10_gone 41 rfl) (v := 1) (by decide) ?_
          refine V_lstore (pc := 75) hG (dk dd_X10_gone 42 rfl) (by decide) (lv' := [(0, _), (1, _), (2, _), (3, _), (4, _), (5, _), (7, _), (9, _), (10, _)]) rfl ?_
          refine V_iconst (pc := 77) hG (dk dd_X10_gone 43 rfl) (v := 0) (by decide) ?_
          refine V_istore (pc := 78) hG (dk dd_X10_gone 44 rfl) (by decide) (lv' := [(0, _), (1, _), (2, _), (3, _), (4, _), (5, _), (7, _), (9, _), (10, _), (12, _)]) rfl ?_
          rotate_left
          -- leaves: stop 180; stop 174; stop 80
          · exfalso; have := (nI_ltI (by omega) (by omega)).mp h61; omega
          · exact absurd ((q_sub (by omega) (by omega)).mpr sd) h71
          · exact inner (α 0 0) 0 (by omega)
        · have ws : wsN (α 0 3) p (α 0 0) s = 0 := by unfold wsN; rw [if_neg sd]
          rw [prt_no hD8 (by omega) sd, ws, Nat.add_zero, Nat.add_zero] at hI
          refine V_iload (pc := 57) hG (dk dd_X10_gone 32 rfl) rfl ?_
          refine V_iload (pc := 59) hG (dk dd_X10_gone 33 rfl) rfl ?_
          refine V_icmp_gt (pc := 61) hG (dk dd_X10_gone 34 rfl) (tgt := 180) (by decide) (fun h61 => ?_) (fun h61 => ?_)
          rotate_left
          refine V_iload (pc := 64) hG (dk dd_X10_gone 35 rfl) rfl ?_
          refine V_iload (pc := 66) hG (dk dd_X10_gone 36 rfl) rfl ?_
          refine V_iconst (pc := 68) hG (dk dd_X10_gone 37 rfl) (v := -1) (by decide) ?_
          refine V_ixor (pc := 69) hG (dk dd_X10_gone 38 rfl) ?_
          refine V_iand (pc := 70) hG (dk dd_X10_gone 39 rfl) ?_
          refine V_if_ne (pc := 71) hG (dk dd_X10_gone 40 rfl) (tgt := 174) (by decide) (fun h71 => ?_) (fun h71 => ?_)
          refine V_iinc (pc := 174) hG (dk dd_X10_gone 94 rfl) rfl (v := _ + 1) rfl (by decide) (lv' := [(0, _), (1, _), (2, _), (3, _), (4, _), (5, _), (7, _), (9, _)]) rfl ?_
          refine V_goto (pc := 177) hG (dk dd_X10_gone 95 rfl) (tgt := 57) (by decide) ?_
          rotate_left
          rotate_left
          -- leaves: stop 180; stop 57; stop 74
          · exfalso; have := (nI_ltI (by omega) (by omega)).mp h61; omega
          · exact hI
          · exact absurd ((q_sub (by omega) (by omega)).mp h71) sd
    refine V_aload_n (pc := 0) hG (dk dd_X10_gone 0 rfl) rfl ?_
    refine V_iconst (pc := 1) hG (dk dd_X10_gone 1 rfl) (v := 0) (by decide) ?_
    refine V_putI (pc := 2) hG (dk dd_X10_gone 2 rfl) fl_X10_62 sh_67 rfl rfl ?_
    refine V_aload_n (pc := 5) hG (dk dd_X10_gone 3 rfl) rfl ?_
    refine V_iload_n (pc := 6) hG (dk dd_X10_gone 4 rfl) rfl ?_
    refine V_callVip (pc := 7) hG (dk dd_X10_gone 5 rfl) ml_X10_207 mo_X10_isCase sh_67 rfl (m_isCase (n := α 0 7) (by omega) e4) (by decide) (by decide) rfl rfl rfl (fun x7 m7 p7 => ?_)
    refine V_if_eq (pc := 10) hG (dk dd_X10_gone 6 rfl) (tgt := 35) (by decide) (fun h10 => ?_) (fun h10 => ?_)
    rotate_left
    refine V_iload_n (pc := 13) hG (dk dd_X10_gone 7 rfl) rfl ?_
    refine V_i2l (pc := 14) hG (dk dd_X10_gone 8 rfl) ?_
    refine V_lconst (pc := 15) hG (dk dd_X10_gone 9 rfl) (v := 0) (by decide) ?_
    refine V_ldc2_w (pc := 16) hG (dk dd_X10_gone 10 rfl) kk_X10_273 ?_
    refine V_callSip (pc := 19) hG (dk dd_X10_gone 11 rfl) ml_X10_72 mo_X10_in (m_inI (v := y) (lo := 0) (hi := 10) rfl rfl (by decide)) (by decide) (by decide) rfl rfl rfl (fun x19 m19 p19 => ?_)
    refine V_if_eq (pc := 22) hG (dk dd_X10_gone 12 rfl) (tgt := 35) (by decide) (fun h22 => ?_) (fun h22 => ?_)
    rotate_left
    refine V_iload_n (pc := 25) hG (dk dd_X10_gone 13 rfl) rfl ?_
    refine V_i2l (pc := 26) hG (dk dd_X10_gone 14 rfl) ?_
    refine V_lconst (pc := 27) hG (dk dd_X10_gone 15 rfl) (v := 0) (by decide) ?_
    refine V_lconst (pc := 28) hG (dk dd_X10_gone 16 rfl) (v := 1) (by decide) ?_
    refine V_callSip (pc := 29) hG (dk dd_X10_gone 17 rfl) ml_X10_72 mo_X10_in (m_inI (v := w) (lo := 0) (hi := 1) rfl rfl (by decide)) (by decide) (by decide) rfl rfl rfl (fun x29 m29 p29 => ?_)
    refine V_if_ne (pc := 32) hG (dk dd_X10_gone 18 rfl) (tgt := 39) (by decide) (fun h32 => ?_) (fun h32 => ?_)
    refine V_aload_n (pc := 39) hG (dk dd_X10_gone 21 rfl) rfl ?_
    refine V_getR (pc := 40) hG (dk dd_X10_gone 22 rfl) fl_X10_19 sh_67 rfl ?_
    refine V_bipush (pc := 43) hG (dk dd_X10_gone 23 rfl) (v := 6) (by decide) ?_
    refine V_iald (pc := 45) hG (dk dd_X10_gone 24 rfl) sh_71 r6 ?_
    refine V_istore (pc := 46) hG (dk dd_X10_gone 25 rfl) (by decide) (lv' := [(0, _), (1, _), (2, _), (3, _), (4, _)]) rfl ?_
    refine V_lconst (pc := 48) hG (dk dd_X10_gone 26 rfl) (v := 0) (by decide) ?_
    refine V_lstore (pc := 49) hG (dk dd_X10_gone 27 rfl) (by decide) (lv' := [(0, _), (1, _), (2, _), (3, _), (4, _), (5, _)]) rfl ?_
    refine V_lconst (pc := 51) hG (dk dd_X10_gone 28 rfl) (v := 0) (by decide) ?_
    refine V_lstore (pc := 52) hG (dk dd_X10_gone 29 rfl) (by decide) (lv' := [(0, _), (1, _), (2, _), (3, _), (4, _), (5, _), (7, _)]) rfl ?_
    refine V_iconst (pc := 54) hG (dk dd_X10_gone 30 rfl) (v := 0) (by decide) ?_
    refine V_istore (pc := 55) hG (dk dd_X10_gone 31 rfl) (by decide) (lv' := [(0, _), (1, _), (2, _), (3, _), (4, _), (5, _), (7, _), (9, _)]) rfl ?_
    rotate_left
    rotate_left
    -- leaves: stop 35; stop 35; stop 57; stop 35
    · exact absurd hi.1 (p7.2.no h10)
    · exact absurd hi.2.1 (p19.2.no h22)
    · have em : m29 = th0 μ := p29.1.trans (p19.1.trans p7.1)
      rw [em, e6]
      exact outer (α 0 3 + 1) 0 (by omega)
    · exact absurd (i2c.mpr hi.2.2) (p29.2.no h32)
  · skip
    refine V_aload_n (pc := 0) hG (dk dd_X10_gone 0 rfl) rfl ?_
    refine V_iconst (pc := 1) hG (dk dd_X10_gone 1 rfl) (v := 0) (by decide) ?_
    refine V_putI (pc := 2) hG (dk dd_X10_gone 2 rfl) fl_X10_62 sh_67 rfl rfl ?_
    refine V_aload_n (pc := 5) hG (dk dd_X10_gone 3 rfl) rfl ?_
    refine V_iload_n (pc := 6) hG (dk dd_X10_gone 4 rfl) rfl ?_
    refine V_callVip (pc := 7) hG (dk dd_X10_gone 5 rfl) ml_X10_207 mo_X10_isCase sh_67 rfl (m_isCase (n := α 0 7) (by omega) e4) (by decide) (by decide) rfl rfl rfl (fun x7 m7 p7 => ?_)
    refine V_if_eq (pc := 10) hG (dk dd_X10_gone 6 rfl) (tgt := 35) (by decide) (fun h10 => ?_) (fun h10 => ?_)
    refine V_ldc2_w (pc := 35) hG (dk dd_X10_gone 19 rfl) kk_X10_275 ?_
    refine V_lretP (pc := 38) hG (dk dd_X10_gone 20 rfl) hR (Pl.mk ?_)
    rotate_left
    refine V_iload_n (pc := 13) hG (dk dd_X10_gone 7 rfl) rfl ?_
    refine V_i2l (pc := 14) hG (dk dd_X10_gone 8 rfl) ?_
    refine V_lconst (pc := 15) hG (dk dd_X10_gone 9 rfl) (v := 0) (by decide) ?_
    refine V_ldc2_w (pc := 16) hG (dk dd_X10_gone 10 rfl) kk_X10_273 ?_
    refine V_callSip (pc := 19) hG (dk dd_X10_gone 11 rfl) ml_X10_72 mo_X10_in (m_inI (v := y) (lo := 0) (hi := 10) rfl rfl (by decide)) (by decide) (by decide) rfl rfl rfl (fun x19 m19 p19 => ?_)
    refine V_if_eq (pc := 22) hG (dk dd_X10_gone 12 rfl) (tgt := 35) (by decide) (fun h22 => ?_) (fun h22 => ?_)
    refine V_ldc2_w (pc := 35) hG (dk dd_X10_gone 19 rfl) kk_X10_275 ?_
    refine V_lretP (pc := 38) hG (dk dd_X10_gone 20 rfl) hR (Pl.mk ?_)
    rotate_left
    refine V_iload_n (pc := 25) hG (dk dd_X10_gone 13 rfl) rfl ?_
    refine V_i2l (pc := 26) hG (dk dd_X10_gone 14 rfl) ?_
    refine V_lconst (pc := 27) hG (dk dd_X10_gone 15 rfl) (v := 0) (by decide) ?_
    refine V_lconst (pc := 28) hG (dk dd_X10_gone 16 rfl) (v := 1) (by decide) ?_
    refine V_callSip (pc := 29) hG (dk dd_X10_gone 17 rfl) ml_X10_72 mo_X10_in (m_inI (v := w) (lo := 0) (hi := 1) rfl rfl (by decide)) (by decide) (by decide) rfl rfl rfl (fun x29 m29 p29 => ?_)
    refine V_if_ne (pc := 32) hG (dk dd_X10_gone 18 rfl) (tgt := 39) (by decide) (fun h32 => ?_) (fun h32 => ?_)
    rotate_left
    refine V_ldc2_w (pc := 35) hG (dk dd_X10_gone 19 rfl) kk_X10_275 ?_
    refine V_lretP (pc := 38) hG (dk dd_X10_gone 20 rfl) hR (Pl.mk ?_)
    rotate_left
    -- leaves: return@38; return@38; stop 39; return@38
    · exact ⟨Or.inl ⟨hi, rfl⟩, p7.1⟩
    · exact ⟨Or.inl ⟨hi, rfl⟩, p19.1.trans p7.1⟩
    · exact absurd ⟨p7.2.yes h10, p19.2.yes h22, i2c.mp (p29.2.yes h32)⟩ hi
    · exact ⟨Or.inl ⟨hi, rfl⟩, p29.1.trans (p19.1.trans p7.1)⟩
