theorem lcond {i L : Nat} (hL : L ≤ 512) (hi : i ≤ 512) (h : ¬ nI L - 8 < nI i) : i + 8 ≤ L := by
  rcases Nat.lt_or_ge L 8 with z | z
  · exfalso
    apply h
    have q : nI L - 8 < 0 := by
      rcases (show L = 0 ∨ L = 1 ∨ L = 2 ∨ L = 3 ∨ L = 4 ∨ L = 5 ∨ L = 6 ∨ L = 7 by omega) with rfl | rfl | rfl | rfl | rfl | rfl | rfl | rfl <;> decide
    exact Int32.lt_of_lt_of_le q (nI_pos' (by omega))
  · obtain ⟨q, rfl⟩ : ∃ q, L = q + 8 := ⟨L - 8, by omega⟩
    rw [← nI_add q 8, show nI 8 = 8 from rfl, Int32.add_sub_cancel] at h
    have := (nI_leI (a := i) (b := q) (by omega) (by omega)).mp (Int32.not_lt.mp h)
    omega
theorem law_loop {C : Cx} {L : Nat} {xs : Nat → Int32} (hG : G C RL code 4 12) (hSc : Scr C L xs) (hL : L ≤ 512) (hE : ∀ (i : Nat) (μ : Mem), V C 1434 [(0, vR 87), (1, vR 0), (2, vR 67), (3, vI (nI i))] [] μ) : ∀ (k i : Nat) (μ : Mem), L ≤ i + k → i ≤ 512 → Inv μ → V C 18 [(0, vR 87), (1, vR 0), (2, vR 67), (3, vI (nI i))] [] μ := by
  intro k
  induction k with
  | zero =>
    intro i μ h1 h2 hI
    refine V_iload_n (pc := 18) hG (dk dd_L_law_0 10 rfl) rfl ?_
    refine V_aload_n (pc := 19) hG (dk dd_L_law_0 11 rfl) rfl ?_
    refine V_slen (pc := 20) hG (dk dd_L_law_0 12 rfl) hSc ?_
    refine V_bipush (pc := 21) hG (dk dd_L_law_0 13 rfl) (v := 8) (by decide) ?_
    refine V_isub (pc := 23) hG (dk dd_L_law_0 14 rfl) ?_
    refine V_icmp_gt (pc := 24) hG (dk dd_L_law_0 15 rfl) (tgt := 1434) (by decide) (fun h24 => ?_) (fun h24 => ?_)
    rotate_left
    rotate_left
    -- leaves: stop 1434; stop 27
    · exact hE i μ
    · have := lcond hL h2 h24
      omega
  | succ k ih =>
    intro i μ h1 h2 hI
    refine V_iload_n (pc := 18) hG (dk dd_L_law_0 10 rfl) rfl ?_
    refine V_aload_n (pc := 19) hG (dk dd_L_law_0 11 rfl) rfl ?_
    refine V_slen (pc := 20) hG (dk dd_L_law_0 12 rfl) hSc ?_
    refine V_bipush (pc := 21) hG (dk dd_L_law_0 13 rfl) (v := 8) (by decide) ?_
    refine V_isub (pc := 23) hG (dk dd_L_law_0 14 rfl) ?_
    refine V_icmp_gt (pc := 24) hG (dk dd_L_law_0 15 rfl) (tgt := 1434) (by decide) (fun h24 => ?_) (fun h24 => ?_)
    rotate_left
    rotate_left
    -- leaves: stop 1434; stop 27
    · exact hE i μ
    · have hi := lcond hL h2 h24
      have hN : ∀ m2, Inv m2 → V C 1428 [(0, vR 87), (1, vR 0), (2, vR 67), (3, vI (nI i))] [] m2 := by
        intro m2 hm
        refine V_iinc (pc := 1428) hG (dk dd_L_law_25 6 rfl) rfl (v := _ + 8) rfl (by decide) (lv' := [(0, _), (1, _), (2, _), (3, _)]) rfl ?_
        refine V_goto (pc := 1431) hG (dk dd_L_law_25 7 rfl) (tgt := 18) (by decide) ?_
        rotate_left
        -- leaves: stop 18
        rw [show nI i + 8 = nI (i + 8) from nI_add i 8]
        exact ih (i + 8) m2 (by omega) (by omega) hm
      refine V_aload_n (pc := 27) hG (dk dd_L_law_0 16 rfl) rfl ?_
      refine V_iload_n (pc := 28) hG (dk dd_L_law_0 17 rfl) rfl ?_
      refine V_sld (pc := 29) hG (dk dd_L_law_0 18 rfl) hSc (lrg0 hi hL) ?_
      refine V_bipush (pc := 30) hG (dk dd_L_law_0 19 rfl) (v := 63) (by decide) ?_
      refine V_iand (pc := 32) hG (dk dd_L_law_0 20 rfl) ?_
      refine V_tsw (pc := 33) hG (dk dd_L_law_0 21 rfl) (cs := [(0, 204), (1, 247), (2, 290), (3, 353), (4, 376), (5, 399), (6, 412), (7, 425), (8, 438), (9, 461), (10, 484), (11, 507), (12, 530), (13, 563), (14, 596), (15, 629), (16, 652), (17, 695), (18, 728), (19, 771), (20, 804), (21, 837), (22, 860), (23, 873), (24, 896), (25, 909), (26, 932), (27, 1019), (28, 1094), (29, 1147), (30, 1191), (31, 1234), (32, 1257), (33, 1280), (34, 1303), (35, 1336), (36, 1369), (37, 1392), (38, 1415)]) (td := 1428) (by decide +kernel) ?_
      refine And.intro (fun h33_0 => ?_) (fun h33_0 => ?_)
      rotate_left
      refine And.intro (fun h33_1 => ?_) (fun h33_1 => ?_)
      rotate_left
      refine And.intro (fun h33_2 => ?_) (fun h33_2 => ?_)
      rotate_left
      refine And.intro (fun h33_3 => ?_) (fun h33_3 => ?_)
      rotate_left
      refine And.intro (fun h33_4 => ?_) (fun h33_4 => ?_)
      rotate_left
      refine And.intro (fun h33_5 => ?_) (fun h33_5 => ?_)
      rotate_left
      refine And.intro (fun h33_6 => ?_) (fun h33_6 => ?_)
      rotate_left
      refine And.intro (fun h33_7 => ?_) (fun h33_7 => ?_)
      rotate_left
      refine And.intro (fun h33_8 => ?_) (fun h33_8 => ?_)
      rotate_left
      refine And.intro (fun h33_9 => ?_) (fun h33_9 => ?_)
      rotate_left
      refine And.intro (fun h33_10 => ?_) (fun h33_10 => ?_)
      rotate_left
      refine And.intro (fun h33_11 => ?_) (fun h33_11 => ?_)
      rotate_left
      refine And.intro (fun h33_12 => ?_) (fun h33_12 => ?_)
      rotate_left
      refine And.intro (fun h33_13 => ?_) (fun h33_13 => ?_)
      rotate_left
      refine And.intro (fun h33_14 => ?_) (fun h33_14 => ?_)
      rotate_left
      refine And.intro (fun h33_15 => ?_) (fun h33_15 => ?_)
      rotate_left
      refine And.intro (fun h33_16 => ?_) (fun h33_16 => ?_)
      rotate_left
      refine And.intro (fun h33_17 => ?_) (fun h33_17 => ?_)
      rotate_left
      refine And.intro (fun h33_18 => ?_) (fun h33_18 => ?_)
      rotate_left
      refine And.intro (fun h33_19 => ?_) (fun h33_19 => ?_)
      rotate_left
      refine And.intro (fun h33_20 => ?_) (fun h33_20 => ?_)
      rotate_left
      refine And.intro (fun h33_21 => ?_) (fun h33_21 => ?_)
      rotate_left
      refine And.intro (fun h33_22 => ?_) (fun h33_22 => ?_)
      rotate_left
      refine And.intro (fun h33_23 => ?_) (fun h33_23 => ?_)
      rotate_left
      refine And.intro (fun h33_24 => ?_) (fun h33_24 => ?_)
      rotate_left
      refine And.intro (fun h33_25 => ?_) (fun h33_25 => ?_)
      rotate_left
      refine And.intro (fun h33_26 => ?_) (fun h33_26 => ?_)
      rotate_left
      refine And.intro (fun h33_27 => ?_) (fun h33_27 => ?_)
      rotate_left
      refine And.intro (fun h33_28 => ?_) (fun h33_28 => ?_)
      rotate_left
      refine And.intro (fun h33_29 => ?_) (fun h33_29 => ?_)
      rotate_left
      refine And.intro (fun h33_30 => ?_) (fun h33_30 => ?_)
      rotate_left
      refine And.intro (fun h33_31 => ?_) (fun h33_31 => ?_)
      rotate_left
      refine And.intro (fun h33_32 => ?_) (fun h33_32 => ?_)
      rotate_left
      refine And.intro (fun h33_33 => ?_) (fun h33_33 => ?_)
      rotate_left
      refine And.intro (fun h33_34 => ?_) (fun h33_34 => ?_)
      rotate_left
      refine And.intro (fun h33_35 => ?_) (fun h33_35 => ?_)
      rotate_left
      refine And.intro (fun h33_36 => ?_) (fun h33_36 => ?_)
      rotate_left
      refine And.intro (fun h33_37 => ?_) (fun h33_37 => ?_)
      rotate_left
      refine And.intro (fun h33_38 => ?_) (fun h33_38 => ?_)
      rotate_left
      show V _ _ _ _ _
      rotate_left
      -- leaves: stop 204; stop 247; stop 290; stop 353; stop 376; stop 399; stop 412; stop 425; stop 438; stop 461; stop 484; stop 507; stop 530; stop 563; stop 596; stop 629; stop 652; stop 695; stop 728; stop 771; stop 804; stop 837; stop 860; stop 873; stop 896; stop 909; stop 932; stop 1019; stop 1094; stop 1147; stop 1191; stop 1234; stop 1257; stop 1280; stop 1303; stop 1336; stop 1369; stop 1392; stop 1415; stop 1428
      · exact lc_0 hG hSc hL hi hI hN
      · exact lc_1 hG hSc hL hi hI hN
      · exact lc_2 hG hSc hL hi hI hN
      · exact lc_3 hG hSc hL hi hI hN
      · exact lc_4 hG hSc hL hi hI hN
      · exact lc_5 hG hSc hL hi hI hN
      · exact lc_6 hG hSc hL hi hI hN
      · exact lc_7 hG hSc hL hi hI hN
      · exact lc_8 hG hSc hL hi hI hN
      · exact lc_9 hG hSc hL hi hI hN
      · exact lc_10 hG hSc hL hi hI hN
      · exact lc_11 hG hSc hL hi hI hN
      · exact lc_12 hG hSc hL hi hI hN
      · exact lc_13 hG hSc hL hi hI hN
      · exact lc_14 hG hSc hL hi hI hN
      · exact lc_15 hG hSc hL hi hI hN
      · exact lc_16 hG hSc hL hi hI hN
      · exact lc_17 hG hSc hL hi hI hN
      · exact lc_18 hG hSc hL hi hI hN
      · exact lc_19 hG hSc hL hi hI hN
      · exact lc_20 hG hSc hL hi hI hN
      · exact lc_21 hG hSc hL hi hI hN
      · exact lc_22 hG hSc hL hi hI hN
      · exact lc_23 hG hSc hL hi hI hN
      · exact lc_24 hG hSc hL hi hI hN
      · exact lc_25 hG hSc hL hi hI hN
      · exact lc_26 hG hSc hL hi hI hN
      · exact lc_27 hG hSc hL hi hI hN
      · exact lc_28 hG hSc hL hi hI hN
      · exact lc_29 hG hSc hL hi hI hN
      · exact lc_30 hG hSc hL hi hI hN
      · exact lc_31 hG hSc hL hi hI hN
      · exact lc_32 hG hSc hL hi hI hN
      · exact lc_33 hG hSc hL hi hI hN
      · exact lc_34 hG hSc hL hi hI hN
      · exact lc_35 hG hSc hL hi hI hN
      · exact lc_36 hG hSc hL hi hI hN
      · exact lc_37 hG hSc hL hi hI hN
      · exact lc_38 hG hSc hL hi hI hN
      · exact hN μ hI
