/-- all orders of the cases that are left, by numbers -/
def ordM (Cn : Nat) : Nat → Nat → List (List Nat)
  | 0, _ => [[]]
  | k + 1, left => (List.range Cn).flatMap (fun c => if left.testBit c then (ordM Cn k (clr left c)).map (c :: ·) else [])
theorem ordM_s (Cn k left : Nat) : ordM Cn (k + 1) left = (List.range Cn).flatMap (fun c => if left.testBit c then (ordM Cn k (clr left c)).map (c :: ·) else []) := rfl
theorem ordM_len (Cn : Nat) : ∀ k left, ∀ p ∈ ordM Cn k left, p.length = k ∧ ∀ c ∈ p, c < Cn
  | 0, _, p, h => by
    have h : p ∈ [[]] := h
    rw [List.mem_singleton] at h; subst h
    exact ⟨rfl, fun c hc => absurd hc List.not_mem_nil⟩
  | k + 1, left, p, h => by
    rw [ordM_s] at h
    obtain ⟨c, hc, hp⟩ := List.mem_flatMap.mp h
    have hc := List.mem_range.mp hc
    by_cases hb : left.testBit c = true
    · rw [if_pos hb] at hp
      obtain ⟨q, hq, rfl⟩ := List.mem_map.mp hp
      obtain ⟨h1, h2⟩ := ordM_len Cn k _ q hq
      exact ⟨by simp [h1], fun d hd => (List.mem_cons.mp hd).elim (fun e => by omega) (h2 d)⟩
    · rw [if_neg hb] at hp; exact absurd hp List.not_mem_nil
theorem q_clrB : ∀ l, l < 32 → ∀ c, c < 5 → l.testBit c = true → bitsN (clr l c) + 1 = bitsN l ∧ clr l c < 32 := by decide +kernel
theorem q_bz : ∀ l, l < 32 → bitsN l = 0 → l = 0 := by decide +kernel
theorem q_t1g {D K : Nat} (hD : D < 256) (hK : K < 8) : ((nI D >>> (nI K &&& 31)) &&& 1 = 0) ↔ D.testBit K = false := q_t1 hD hK
theorem dhN_lt {α : Al} (hv : Val α) : ∀ {p : List Nat} {D : Nat}, D < 2 ^ α 0 0 → (∀ c ∈ p, c < α 0 7) → dhN α D p < 2 ^ α 0 0
  | [], _, hD, _ => hD
  | c :: p, D, hD, h => dhN_lt hv (p := p) (heaN_lt hv (h c List.mem_cons_self) hD) (fun d hd => h d (List.mem_cons_of_mem _ hd))
theorem getD_ap {l : List Nat} {c j : Nat} (h : j < l.length) : (l ++ [c]).getD j 0 = l.getD j 0 := by
  rw [List.getD_eq_getElem?_getD, List.getD_eq_getElem?_getD, List.getElem?_append_left h]
theorem getD_la {l : List Nat} {c : Nat} : (l ++ [c]).getD l.length 0 = c := by
  rw [List.getD_eq_getElem?_getD, List.getElem?_append_right (Nat.le_refl _), Nat.sub_self]; rfl
set_option maxHeartbeats 1000000 in
theorem c_tryBehind {α : Al} (hv : Val α) {n : Nat} (hn : n ≤ 5) : ∀ (k : Nat) {μ : Mem} {L : List (List Nat)} {pre : List Nat} {left : Nat} {a b c d e : Int32}, Abs (kac μ 15) α → OrdS μ α n L → (∀ q, q ∈ L → q.length = n) → pre.length + k = n → (∀ c ∈ pre, c < α 0 7) → (∀ j, j < pre.length → μ 59 j = nI (pre.getD j 0)) → left < 32 → bitsN left = k →
    a = nI pre.length → b = nI left → c = nI (dhN α (α 0 3) pre) → d = nI (frN α (α 0 3) pre) → e = nI (guN α (α 0 3) pre) →
    CtP yX3_tryBehind cX3_tryBehind 8 none (4 + k) [vR 58, vI a, vI b, vI c, vI d, vI e] μ (Pv (fun μ' => OrdS μ' α n (L ++ (ordM (α 0 7) k left).map (pre ++ ·)) ∧ (∀ j, j < pre.length → μ' 59 j = μ 59 j) ∧ ∀ q, (q < 58 ∨ 61 < q) → μ' q = μ q)) := by
  intro k
  induction k with
  | zero =>
    intro μ L pre left a b c d e hA hO hL hp hc ht hl hk ha hb hcD hd he
    refine CtP.go RX3 rfl pn_X3 (Nat.le_of_ble_eq_true rfl) (fun C hG hR => ?_)
    have h0 := q_bz left hl hk
    have hC5 := hv.C
    refine V_iload_n (pc := 0) hG (dk dd_X3_tryBehind 0 rfl) rfl ?_
    refine V_if_eq (pc := 1) hG (dk dd_X3_tryBehind 1 rfl) (tgt := 9) (by decide) (fun h1 => ?_) (fun h1 => ?_)
    refine V_aload_n (pc := 9) hG (dk dd_X3_tryBehind 5 rfl) rfl ?_
    refine V_iload (pc := 10) hG (dk dd_X3_tryBehind 6 rfl) rfl ?_
    refine V_iload (pc := 12) hG (dk dd_X3_tryBehind 7 rfl) rfl ?_
    refine V_callVvp (pc := 14) hG (dk dd_X3_tryBehind 8 rfl) ml_X3_59 mo_X3_compare sh_58 rfl (c_compare hO hn (by omega) hL (fun q hq => by have := hc q hq; omega) (fun j hj => ht j (by omega)) hd he) (by omega) (by decide) rfl rfl rfl (fun m14 p14 => ?_)
    refine V_vretP (pc := 17) hG (dk dd_X3_tryBehind 9 rfl) hR (Pv.mk ?_)
    rotate_left
    rotate_left
    -- leaves: return@17; stop 4
    · obtain ⟨q1, q2⟩ := p14
      refine ⟨?_, fun j hj => by rw [q2 59 (by decide) (by decide) (by decide)], fun q hq => q2 q (by omega) (by omega) (by omega)⟩
      show OrdS m14 α n (L ++ [pre ++ []])
      rw [List.append_nil]; exact q1
    · exact absurd (by rw [hb, h0]; rfl) h1
  | succ k ih =>
    intro μ L pre left a b c d e hA hO hL hp hc ht hl hk ha hb hcD hd he
    refine CtP.go RX3 rfl pn_X3 (Nat.le_of_ble_eq_true rfl) (fun C hG hR => ?_)
    have hC5 := hv.C
    have e7 : μ 15 7 = nI (α 0 7) := hA.1 7 (by decide)
    have hne : ¬ b = 0 := by
      rw [hb]; intro q
      have : left = 0 := (nI_eq (b := 0) (by omega) (by decide)).mp q
      rw [this, bits0] at hk; omega
    subst ha hb hcD hd he
    have hDl := dhN_lt hv (p := pre) hv.D hc
    have loop : ∀ m i μ1, i + m = α 0 7 → OrdS μ1 α n (L ++ ((List.range i).flatMap (fun c => if left.testBit c then (ordM (α 0 7) k (clr left c)).map (c :: ·) else [])).map (pre ++ ·)) → (∀ j, j < pre.length → μ1 59 j = μ 59 j) → (∀ q, (q < 58 ∨ 61 < q) → μ1 q = μ q) →
        V C 21 [(0, vR 58), (1, vI (nI pre.length)), (2, vI (nI left)), (3, vI (nI (dhN α (α 0 3) pre))), (4, vI (nI (frN α (α 0 3) pre))), (5, vI (nI (guN α (α 0 3) pre))), (6, vI (nI i))] [] μ1 := by
      intro m
      induction m with
      | zero =>
        intro i μ1 hi f1 f2 f3
        refine V_iload (pc := 21) hG (dk dd_X3_tryBehind 12 rfl) rfl ?_
        refine V_aload_n (pc := 23) hG (dk dd_X3_tryBehind 13 rfl) rfl ?_
        refine V_getR (pc := 24) hG (dk dd_X3_tryBehind 14 rfl) fl_X3_21 sh_58 rfl ?_
        refine V_getI (pc := 27) hG (dk dd_X3_tryBehind 15 rfl) fl_X3_63 sh_15 rfl ?_
        refine V_icmp_ge (pc := 30) hG (dk dd_X3_tryBehind 16 rfl) (tgt := 121) (by decide) (fun h30 => ?_) (fun h30 => ?_)
        refine V_vretP (pc := 121) hG (dk dd_X3_tryBehind 69 rfl) hR (Pv.mk ?_)
        rotate_left
        rotate_left
        -- leaves: return@121; stop 33
        · exact ⟨by rw [ordM_s, show α 0 7 = i by omega]; exact (by rw [show α 0 7 = i by omega] at f1; exact f1), f2, f3⟩
        · exfalso; rw [f3 15 (by omega), e7] at h30; have := nle_i h30 (by omega) (by omega); omega
      | succ m ihm =>
        intro i μ1 hi f1 f2 f3
        have hi7 : i < α 0 7 := by omega
        have hA1 : Abs (kac μ1 15) α := hA.off (fun x hx => f3 _ (by omega))
        have hI := fun μ2 z => ihm (i + 1) μ2 (by omega) z
        rw [List.range_succ, List.flatMap_append, List.map_append, ← List.append_assoc] at hI
        simp only [List.flatMap_singleton] at hI
        rw [nI_succ] at hI
        have nx : ∀ μ2, V C 21 [(0, vR 58), (1, vI (nI pre.length)), (2, vI (nI left)), (3, vI (nI (dhN α (α 0 3) pre))), (4, vI (nI (frN α (α 0 3) pre))), (5, vI (nI (guN α (α 0 3) pre))), (6, vI (nI i + 1))] [] μ2 → V C 115 [(0, vR 58), (1, vI (nI pre.length)), (2, vI (nI left)), (3, vI (nI (dhN α (α 0 3) pre))), (4, vI (nI (frN α (α 0 3) pre))), (5, vI (nI (guN α (α 0 3) pre))), (6, vI (nI i))] [] μ2 := by
          intro μ2 hq
          refine V_iinc (pc := 115) hG (dk dd_X3_tryBehind 67 rfl) rfl (v := _ + 1) rfl (by decide) (lv' := [(0, _), (1, _), (2, _), (3, _), (4, _), (5, _), (6, _)]) rfl ?_
          refine V_goto (pc := 118) hG (dk dd_X3_tryBehind 68 rfl) (tgt := 21) (by decide) ?_
          rotate_left
          -- leaves: stop 21
          · exact hq
        by_cases hbit : left.testBit i = true
        · rw [if_pos hbit] at hI
          obtain ⟨cb1, cb2⟩ := q_clrB left hl i (by omega) hbit
          have hlen : ∀ q, q ∈ L ++ ((List.range i).flatMap (fun c => if left.testBit c then (ordM (α 0 7) k (clr left c)).map (c :: ·) else [])).map (pre ++ ·) → q.length = n := by
            intro q hq
            rcases List.mem_append.mp hq with z | z
            · exact hL q z
            · obtain ⟨s, hs, rfl⟩ := List.mem_map.mp z
              obtain ⟨c', hc', hs'⟩ := List.mem_flatMap.mp hs
              by_cases w : left.testBit c' = true
              · rw [if_pos w] at hs'
                obtain ⟨s', h1, rfl⟩ := List.mem_map.mp hs'
                rw [List.length_append, List.length_cons, (ordM_len _ _ _ s' h1).1]; omega
              · rw [if_neg w] at hs'; exact absurd hs' List.not_mem_nil
          have hr : vp_in (nI pre.length) 5 := vp_in_nI (by omega) (by decide)
          have cp : (nI pre.length).toNatClampNeg = pre.length := nI_clamp (by omega)
          have el : nI left &&& (bI (nI i) ^^^ (-1)) = nI (clr left i) := q_clr left (by omega) i (by omega)
          have ev3 := verN_lt α i (dhN α (α 0 3) pre)
          have fr5 := frN_le α pre (α 0 3)
          have gu5 := guN_le α pre (α 0 3)
          have hA2 : Abs (kac (setc μ1 59 (upd (μ1 59) pre.length (nI i))) 15) α := hA1.off (fun x hx => setc_n (by omega))
          have recu : ∀ (x y : Int32), x = nI (frN α (α 0 3) (pre ++ [i])) → y = nI (guN α (α 0 3) (pre ++ [i])) → CtP yX3_tryBehind cX3_tryBehind 8 none (4 + k) [vR 58, vI (nI pre.length + 1), vI (nI left &&& (bI (nI i) ^^^ (-1))), vI (nI (heaN α i (dhN α (α 0 3) pre))), vI x, vI y] (setc μ1 59 (upd (μ1 59) pre.length (nI i))) (Pv (fun μ' => OrdS μ' α n ((L ++ ((List.range i).flatMap (fun c => if left.testBit c then (ordM (α 0 7) k (clr left c)).map (c :: ·) else [])).map (pre ++ ·)) ++ (ordM (α 0 7) k (clr left i)).map ((pre ++ [i]) ++ ·)) ∧ (∀ j, j < (pre ++ [i]).length → μ' 59 j = setc μ1 59 (upd (μ1 59) pre.length (nI i)) 59 j) ∧ ∀ q, (q < 58 ∨ 61 < q) → μ' q = setc μ1 59 (upd (μ1 59) pre.length (nI i)) q)) := by
            intro x y hx hy
            refine ih hA2 ?_ hlen (by simp; omega) (fun q hq => (List.mem_append.mp hq).elim (hc q) (fun z => by rw [List.mem_singleton.mp z]; exact hi7)) (fun j hj => ?_) cb2 (by omega) ?_ el (by rw [dhN_sn]) hx hy
            · obtain ⟨z1, z2, z3⟩ := f1
              exact ⟨by rw [setc_n (by decide)]; exact z1, by rw [setc_n (by decide), setc_n (by decide)]; exact z2, by rw [setc_n (by decide)]; exact z3⟩
            · rw [setc_s]
              by_cases w : j = pre.length
              · subst w; rw [pk_us, getD_la]
              · rw [List.length_append, List.length_singleton] at hj
                rw [pk_un w, f2 j (by omega), getD_ap (by omega)]; exact ht j (by omega)
            · rw [nI_1, List.length_append]; rfl
          have done : ∀ m2 : Mem, OrdS m2 α n ((L ++ ((List.range i).flatMap (fun c => if left.testBit c then (ordM (α 0 7) k (clr left c)).map (c :: ·) else [])).map (pre ++ ·)) ++ (ordM (α 0 7) k (clr left i)).map ((pre ++ [i]) ++ ·)) → (∀ j, j < (pre ++ [i]).length → m2 59 j = setc μ1 59 (upd (μ1 59) pre.length (nI i)) 59 j) → (∀ q, (q < 58 ∨ 61 < q) → m2 q = setc μ1 59 (upd (μ1 59) pre.length (nI i)) q) → V C 115 [(0, vR 58), (1, vI (nI pre.length)), (2, vI (nI left)), (3, vI (nI (dhN α (α 0 3) pre))), (4, vI (nI (frN α (α 0 3) pre))), (5, vI (nI (guN α (α 0 3) pre))), (6, vI (nI i))] [] m2 := by
            intro m2 g1 g2 g3
            refine nx m2 (hI m2 ?_ (fun j hj => ?_) (fun q hq => by rw [g3 q hq, setc_n (by omega)]; exact f3 q hq))
            · rw [List.map_map]
              have : ((fun s => pre ++ s) ∘ fun s => i :: s) = fun s => (pre ++ [i]) ++ s := by funext s; simp
              rw [this]; exact g1
            · rw [g2 j (by simp; omega), setc_s, pk_un (by omega)]; exact f2 j hj
          have hm2 : setc μ1 59 (upd (μ1 59) pre.length (nI i)) = setc μ1 59 (upd (μ1 59) (nI pre.length).toNatClampNeg (nI i)) := by rw [cp]
          rw [hm2] at recu hA2 done
          refine V_iload (pc := 21) hG (dk dd_X3_tryBehind 12 rfl) rfl ?_
          refine V_aload_n (pc := 23) hG (dk dd_X3_tryBehind 13 rfl) rfl ?_
          refine V_getR (pc := 24) hG (dk dd_X3_tryBehind 14 rfl) fl_X3_21 sh_58 rfl ?_
          refine V_getI (pc := 27) hG (dk dd_X3_tryBehind 15 rfl) fl_X3_63 sh_15 rfl ?_
          refine V_icmp_ge (pc := 30) hG (dk dd_X3_tryBehind 16 rfl) (tgt := 121) (by decide) (fun h30 => ?_) (fun h30 => ?_)
          rotate_left
          refine V_iload_n (pc := 33) hG (dk dd_X3_tryBehind 17 rfl) rfl ?_
          refine V_iload (pc := 34) hG (dk dd_X3_tryBehind 18 rfl) rfl ?_
          refine V_ishr (pc := 36) hG (dk dd_X3_tryBehind 19 rfl) ?_
          refine V_iconst (pc := 37) hG (dk dd_X3_tryBehind 20 rfl) (v := 1) (by decide) ?_
          refine V_iand (pc := 38) hG (dk dd_X3_tryBehind 21 rfl) ?_
          refine V_if_eq (pc := 39) hG (dk dd_X3_tryBehind 22 rfl) (tgt := 115) (by decide) (fun h39 => ?_) (fun h39 => ?_)
          rotate_left
          refine V_aload_n (pc := 42) hG (dk dd_X3_tryBehind 23 rfl) rfl ?_
          refine V_getR (pc := 43) hG (dk dd_X3_tryBehind 24 rfl) fl_X3_21 sh_58 rfl ?_
          refine V_iload (pc := 46) hG (dk dd_X3_tryBehind 25 rfl) rfl ?_
          refine V_iload_n (pc := 48) hG (dk dd_X3_tryBehind 26 rfl) rfl ?_
          refine V_callVi (pc := 49) hG (dk dd_X3_tryBehind 27 rfl) ml_X3_66 mo_X2_verdict sh_15 rfl (c_verdict co_now hA1 hv rfl hi7 rfl hDl) (by omega) (by decide) rfl rfl rfl ?_
          refine V_istore (pc := 52) hG (dk dd_X3_tryBehind 28 rfl) (by decide) (lv' := [(0, _), (1, _), (2, _), (3, _), (4, _), (5, _), (6, _), (7, _)]) rfl ?_
          refine V_aload_n (pc := 54) hG (dk dd_X3_tryBehind 29 rfl) rfl ?_
          refine V_getR (pc := 55) hG (dk dd_X3_tryBehind 30 rfl) fl_X3_9 sh_58 rfl ?_
          refine V_iload_n (pc := 58) hG (dk dd_X3_tryBehind 31 rfl) rfl ?_
          refine V_iload (pc := 59) hG (dk dd_X3_tryBehind 32 rfl) rfl ?_
          refine V_iast (pc := 61) hG (dk dd_X3_tryBehind 33 rfl) sh_59 hr ?_
          refine V_aload_n (pc := 62) hG (dk dd_X3_tryBehind 34 rfl) rfl ?_
          refine V_iload_n (pc := 63) hG (dk dd_X3_tryBehind 35 rfl) rfl ?_
          refine V_iconst (pc := 64) hG (dk dd_X3_tryBehind 36 rfl) (v := 1) (by decide) ?_
          refine V_iadd (pc := 65) hG (dk dd_X3_tryBehind 37 rfl) ?_
          refine V_iload_n (pc := 66) hG (dk dd_X3_tryBehind 38 rfl) rfl ?_
          refine V_iconst (pc := 67) hG (dk dd_X3_tryBehind 39 rfl) (v := 1) (by decide) ?_
          refine V_iload (pc := 68) hG (dk dd_X3_tryBehind 40 rfl) rfl ?_
          refine V_ishl (pc := 70) hG (dk dd_X3_tryBehind 41 rfl) ?_
          refine V_iconst (pc := 71) hG (dk dd_X3_tryBehind 42 rfl) (v := -1) (by decide) ?_
          refine V_ixor (pc := 72) hG (dk dd_X3_tryBehind 43 rfl) ?_
          refine V_iand (pc := 73) hG (dk dd_X3_tryBehind 44 rfl) ?_
          refine V_aload_n (pc := 74) hG (dk dd_X3_tryBehind 45 rfl) rfl ?_
          refine V_getR (pc := 75) hG (dk dd_X3_tryBehind 46 rfl) fl_X3_21 sh_58 rfl ?_
          refine V_iload (pc := 78) hG (dk dd_X3_tryBehind 47 rfl) rfl ?_
          refine V_iload_n (pc := 80) hG (dk dd_X3_tryBehind 48 rfl) rfl ?_
          refine V_callVi (pc := 81) hG (dk dd_X3_tryBehind 49 rfl) ml_X3_70 mo_X2_dreamHeard sh_15 rfl (c_dreamHeard co_now hA2 hv rfl hi7 rfl hDl) (by omega) (by decide) rfl rfl rfl ?_
          refine V_iload (pc := 84) hG (dk dd_X3_tryBehind 50 rfl) rfl ?_
          refine V_iload (pc := 86) hG (dk dd_X3_tryBehind 51 rfl) rfl ?_
          refine V_iconst (pc := 88) hG (dk dd_X3_tryBehind 52 rfl) (v := 1) (by decide) ?_
          refine V_icmp_ne (pc := 89) hG (dk dd_X3_tryBehind 53 rfl) (tgt := 96) (by decide) (fun h89 => ?_) (fun h89 => ?_)
          refine V_iconst (pc := 96) hG (dk dd_X3_tryBehind 56 rfl) (v := 0) (by decide) ?_
          refine V_iadd (pc := 97) hG (dk dd_X3_tryBehind 57 rfl) ?_
          refine V_iload (pc := 98) hG (dk dd_X3_tryBehind 58 rfl) rfl ?_
          refine V_iload (pc := 100) hG (dk dd_X3_tryBehind 59 rfl) rfl ?_
          refine V_iconst (pc := 102) hG (dk dd_X3_tryBehind 60 rfl) (v := 2) (by decide) ?_
          refine V_icmp_ne (pc := 103) hG (dk dd_X3_tryBehind 61 rfl) (tgt := 110) (by decide) (fun h103 => ?_) (fun h103 => ?_)
          refine V_iconst (pc := 110) hG (dk dd_X3_tryBehind 64 rfl) (v := 0) (by decide) ?_
          refine V_iadd (pc := 111) hG (dk dd_X3_tryBehind 65 rfl) ?_
          refine V_callVvp (pc := 112) hG (dk dd_X3_tryBehind 66 rfl) ml_X3_55 mo_X3_tryBehind sh_58 rfl (recu _ _ ?_ ?_) (by omega) (by decide) rfl rfl rfl (fun m112 p112 => ?_)
          rotate_left
          rotate_left
          refine V_keep [0, 1, 2, 3, 4, 5, 6] (lv' := [(0, _), (1, _), (2, _), (3, _), (4, _), (5, _), (6, _)]) rfl ?_
          rotate_left
          refine V_iconst (pc := 106) hG (dk dd_X3_tryBehind 62 rfl) (v := 1) (by decide) ?_
          refine V_goto (pc := 107) hG (dk dd_X3_tryBehind 63 rfl) (tgt := 111) (by decide) ?_
          refine V_iadd (pc := 111) hG (dk dd_X3_tryBehind 65 rfl) ?_
          refine V_callVvp (pc := 112) hG (dk dd_X3_tryBehind 66 rfl) ml_X3_55 mo_X3_tryBehind sh_58 rfl (recu _ _ ?_ ?_) (by omega) (by decide) rfl rfl rfl (fun m112 p112 => ?_)
          rotate_left
          rotate_left
          refine V_keep [0, 1, 2, 3, 4, 5, 6] (lv' := [(0, _), (1, _), (2, _), (3, _), (4, _), (5, _), (6, _)]) rfl ?_
          rotate_left
          refine V_iconst (pc := 92) hG (dk dd_X3_tryBehind 54 rfl) (v := 1) (by decide) ?_
          refine V_goto (pc := 93) hG (dk dd_X3_tryBehind 55 rfl) (tgt := 97) (by decide) ?_
          refine V_iadd (pc := 97) hG (dk dd_X3_tryBehind 57 rfl) ?_
          refine V_iload (pc := 98) hG (dk dd_X3_tryBehind 58 rfl) rfl ?_
          refine V_iload (pc := 100) hG (dk dd_X3_tryBehind 59 rfl) rfl ?_
          refine V_iconst (pc := 102) hG (dk dd_X3_tryBehind 60 rfl) (v := 2) (by decide) ?_
          refine V_icmp_ne (pc := 103) hG (dk dd_X3_tryBehind 61 rfl) (tgt := 110) (by decide) (fun h103 => ?_) (fun h103 => ?_)
          refine V_iconst (pc := 110) hG (dk dd_X3_tryBehind 64 rfl) (v := 0) (by decide) ?_
          refine V_iadd (pc := 111) hG (dk dd_X3_tryBehind 65 rfl) ?_
          refine V_callVvp (pc := 112) hG (dk dd_X3_tryBehind 66 rfl) ml_X3_55 mo_X3_tryBehind sh_58 rfl (recu _ _ ?_ ?_) (by omega) (by decide) rfl rfl rfl (fun m112 p112 => ?_)
          rotate_left
          rotate_left
          refine V_keep [0, 1, 2, 3, 4, 5, 6] (lv' := [(0, _), (1, _), (2, _), (3, _), (4, _), (5, _), (6, _)]) rfl ?_
          rotate_left
          refine V_iconst (pc := 106) hG (dk dd_X3_tryBehind 62 rfl) (v := 1) (by decide) ?_
          refine V_goto (pc := 107) hG (dk dd_X3_tryBehind 63 rfl) (tgt := 111) (by decide) ?_
          refine V_iadd (pc := 111) hG (dk dd_X3_tryBehind 65 rfl) ?_
          refine V_callVvp (pc := 112) hG (dk dd_X3_tryBehind 66 rfl) ml_X3_55 mo_X3_tryBehind sh_58 rfl (recu _ _ ?_ ?_) (by omega) (by decide) rfl rfl rfl (fun m112 p112 => ?_)
          rotate_left
          rotate_left
          refine V_keep [0, 1, 2, 3, 4, 5, 6] (lv' := [(0, _), (1, _), (2, _), (3, _), (4, _), (5, _), (6, _)]) rfl ?_
          rotate_left
          -- leaves: stop 121; stop 115; call tryBehind@112 0; call tryBehind@112 1; stop 115; call tryBehind@112 0; call tryBehind@112 1; stop 115; call tryBehind@112 0; call tryBehind@112 1; stop 115; call tryBehind@112 0; call tryBehind@112 1; stop 115
          · exfalso; rw [f3 15 (by omega), e7] at h30; have := le_i h30 (by omega) (by omega); omega
          · exact absurd ((q_t1 (by omega) (by omega)).mp h39) (by rw [hbit]; decide)
          · rw [frN_sn, if_neg (fun q => h89 (by rw [q]; rfl)), Nat.add_zero, Int32.add_zero]
          · rw [guN_sn, if_neg (fun q => h103 (by rw [q]; rfl)), Nat.add_zero, Int32.add_zero]
          · exact done m112 p112.1 p112.2.1 p112.2.2
          · rw [frN_sn, if_neg (fun q => h89 (by rw [q]; rfl)), Nat.add_zero, Int32.add_zero]
          · rw [guN_sn, if_pos ((nI_eq (b := 2) (by omega) (by decide)).mp h103), nI_succ]
          · exact done m112 p112.1 p112.2.1 p112.2.2
          · rw [frN_sn, if_pos ((nI_eq (b := 1) (by omega) (by decide)).mp h89), nI_succ]
          · rw [guN_sn, if_neg (fun q => h103 (by rw [q]; rfl)), Nat.add_zero, Int32.add_zero]
          · exact done m112 p112.1 p112.2.1 p112.2.2
          · rw [frN_sn, if_pos ((nI_eq (b := 1) (by omega) (by decide)).mp h89), nI_succ]
          · rw [guN_sn, if_pos ((nI_eq (b := 2) (by omega) (by decide)).mp h103), nI_succ]
          · exact done m112 p112.1 p112.2.1 p112.2.2
        · rw [if_neg hbit, List.map_nil, List.append_nil] at hI
          refine V_iload (pc := 21) hG (dk dd_X3_tryBehind 12 rfl) rfl ?_
          refine V_aload_n (pc := 23) hG (dk dd_X3_tryBehind 13 rfl) rfl ?_
          refine V_getR (pc := 24) hG (dk dd_X3_tryBehind 14 rfl) fl_X3_21 sh_58 rfl ?_
          refine V_getI (pc := 27) hG (dk dd_X3_tryBehind 15 rfl) fl_X3_63 sh_15 rfl ?_
          refine V_icmp_ge (pc := 30) hG (dk dd_X3_tryBehind 16 rfl) (tgt := 121) (by decide) (fun h30 => ?_) (fun h30 => ?_)
          rotate_left
          refine V_iload_n (pc := 33) hG (dk dd_X3_tryBehind 17 rfl) rfl ?_
          refine V_iload (pc := 34) hG (dk dd_X3_tryBehind 18 rfl) rfl ?_
          refine V_ishr (pc := 36) hG (dk dd_X3_tryBehind 19 rfl) ?_
          refine V_iconst (pc := 37) hG (dk dd_X3_tryBehind 20 rfl) (v := 1) (by decide) ?_
          refine V_iand (pc := 38) hG (dk dd_X3_tryBehind 21 rfl) ?_
          refine V_if_eq (pc := 39) hG (dk dd_X3_tryBehind 22 rfl) (tgt := 115) (by decide) (fun h39 => ?_) (fun h39 => ?_)
          rotate_left
          rotate_left
          -- leaves: stop 121; stop 115; stop 42
          · exfalso; rw [f3 15 (by omega), e7] at h30; have := le_i h30 (by omega) (by omega); omega
          · exact nx μ1 (hI μ1 f1 f2 f3)
          · exact absurd ((q_t1 (by omega) (by omega)).mpr (by simpa using hbit)) h39
    refine V_iload_n (pc := 0) hG (dk dd_X3_tryBehind 0 rfl) rfl ?_
    refine V_if_eq (pc := 1) hG (dk dd_X3_tryBehind 1 rfl) (tgt := 9) (by decide) (fun h1 => ?_) (fun h1 => ?_)
    rotate_left
    refine V_iload_n (pc := 4) hG (dk dd_X3_tryBehind 2 rfl) rfl ?_
    refine V_iconst (pc := 5) hG (dk dd_X3_tryBehind 3 rfl) (v := 5) (by decide) ?_
    refine V_icmp_lt (pc := 6) hG (dk dd_X3_tryBehind 4 rfl) (tgt := 18) (by decide) (fun h6 => ?_) (fun h6 => ?_)
    refine V_iconst (pc := 18) hG (dk dd_X3_tryBehind 10 rfl) (v := 0) (by decide) ?_
    refine V_istore (pc := 19) hG (dk dd_X3_tryBehind 11 rfl) (by decide) (lv' := [(0, _), (1, _), (2, _), (3, _), (4, _), (5, _), (6, _)]) rfl ?_
    rotate_left
    rotate_left
    -- leaves: stop 9; stop 21; stop 9
    · exact absurd h1 hne
    · refine loop (α 0 7) 0 μ (by omega) ?_ (fun _ _ => rfl) (fun _ _ => rfl)
      show OrdS μ α n (L ++ [])
      rw [List.append_nil]; exact hO
    · exfalso; exact h6 ((nI_ltI (b := 5) (by omega) (by decide)).mpr (by omega))
