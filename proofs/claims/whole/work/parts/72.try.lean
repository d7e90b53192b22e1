/-! ===== the model: all orders are tried ===== -/
def hrdL (α : Al) (p : List Nat) : Al := p.foldl hrdA α
theorem hrdL_sn (α : Al) (p : List Nat) (c : Nat) : hrdL α (p ++ [c]) = hrdA (hrdL α p) c := by unfold hrdL; rw [List.foldl_append]; rfl
/-- what a hearing leaves as it is -/
def Sam (α β : Al) : Prop := β 0 0 = α 0 0 ∧ β 0 1 = α 0 1 ∧ β 0 2 = α 0 2 ∧ β 0 6 = α 0 6 ∧ β 0 7 = α 0 7 ∧ ∀ x i, 1 ≤ x → x ≤ 6 → β x i = α x i
theorem Sam.hrd {α β : Al} (h : Sam α β) (c : Nat) : Sam α (hrdA β c) := by
  obtain ⟨a1, a2, a3, a4, a5, a6⟩ := h
  exact ⟨a1, a2, a3, a4, a5, fun x i h1 h2 => by unfold hrdA; rw [if_neg (by omega), if_neg (by omega)]; exact a6 x i h1 h2⟩
theorem Sam.hum {α β : Al} (h : Sam α β) (k D : Nat) : humN β k D = humN α k D := by
  unfold humN; rw [h.1, h.2.2.2.2.2 1 k (by decide) (by decide), h.2.2.2.2.2 2 k (by decide) (by decide), h.2.2.2.2.2 3 k (by decide) (by decide)]
theorem Sam.ver {α β : Al} (h : Sam α β) (c D : Nat) : verN β c D = verN α c D := by
  unfold verN judN; rw [h.2.2.2.2.2 4 c (by decide) (by decide), h.2.2.2.2.2 5 c (by decide) (by decide), h.2.2.2.2.2 6 c (by decide) (by decide), h.hum]
theorem Sam.hea {α β : Al} (h : Sam α β) (c D : Nat) : heaN β c D = heaN α c D := by
  unfold heaN; rw [h.2.1, h.2.2.2.2.2 4 c (by decide) (by decide), h.hum]
theorem Sam.rf (α : Al) : Sam α α := ⟨rfl, rfl, rfl, rfl, rfl, fun _ _ _ _ => rfl⟩
theorem val_hrd {α : Al} (hv : Val α) {c : Nat} (hc : c < α 0 7) : Val (hrdA α c) := by
  obtain ⟨a1, a2, a3, a4, a5, a6, a7, a8, a9⟩ := id hv
  refine ⟨a1, a2, a3, ?_, Nat.zero_le _, a6, a7, fun h hh => ?_, fun d hd => ?_⟩
  · exact heaN_lt hv hc hv.D
  · exact a8 h hh
  · obtain ⟨b1, b2, b3, b4⟩ := a9 d hd
    refine ⟨b1, b2, b3, ?_⟩
    unfold hrdA
    rw [if_neg (by decide)]
    split
    · have := verN_lt α c (α 0 3); omega
    · exact b4
theorem hrdL_ok2 {α : Al} : ∀ (p : List Nat) (β : Al), Sam α β → Val β → (∀ c ∈ p, c < α 0 7) → Sam α (hrdL β p) ∧ Val (hrdL β p) ∧ hrdL β p 0 3 = dhN α (β 0 3) p
  | [], β, h, hv, _ => ⟨h, hv, rfl⟩
  | c :: p, β, h, hv, hc => by
    obtain ⟨a1, a2, a3⟩ := hrdL_ok2 p (hrdA β c) (h.hrd c) (val_hrd hv (by rw [h.2.2.2.2.1]; exact hc c List.mem_cons_self)) (fun d hd => hc d (List.mem_cons_of_mem _ hd))
    refine ⟨a1, a2, a3.trans ?_⟩
    show dhN α (heaN β c (β 0 3)) p = dhN α (heaN α c (β 0 3)) p
    rw [h.hea]
theorem hrdL_ok {α : Al} (hv : Val α) (p : List Nat) (h : ∀ c ∈ p, c < α 0 7) : Sam α (hrdL α p) ∧ Val (hrdL α p) ∧ hrdL α p 0 3 = dhN α (α 0 3) p := hrdL_ok2 p α (Sam.rf α) hv h
theorem MxN {S S' : Nat → Prop} {v v' : Int32} {y : Nat} (h : MxQ S (-1000000) v) (hy : y ≤ 5) (hS : ∀ x, S' x ↔ (S x ∨ x = y)) (hv : v' = if v < nI y then nI y else v) (hb : ∀ x, S x → x ≤ 5) : MxQ S' (-1000000) v' := by
  rcases h with ⟨h1, h2⟩ | ⟨x, h1, h2, h3⟩
  · rw [h1, if_pos (by have : (0 : Int32) ≤ nI y := nI_pos' (by omega); clear hv h1; grind)] at hv
    exact Or.inr ⟨y, (hS y).mpr (Or.inr rfl), hv, fun z hz => ((hS z).mp hz).elim (fun q => absurd q (h2 z)) (fun q => by omega)⟩
  · have hx := hb x h1
    rw [h2] at hv
    by_cases q : x < y
    · rw [if_pos ((nI_ltI (by omega) (by omega)).mpr q)] at hv
      exact Or.inr ⟨y, (hS y).mpr (Or.inr rfl), hv, fun z hz => ((hS z).mp hz).elim (fun w => by have := h3 z w; omega) (fun w => by omega)⟩
    · rw [if_neg (fun z => q ((nI_ltI (by omega) (by omega)).mp z))] at hv
      exact Or.inr ⟨x, (hS x).mpr (Or.inl h1), hv, fun z hz => ((hS z).mp hz).elim (h3 z) (fun w => by omega)⟩
/-- the orders of L have been tried -/
def OrM (M : Mem) (α : Al) (n : Nat) (L : List (List Nat)) : Prop := BstQ α n (bestL α (α 0 3) L) (M 67 24) (M 67 25) (-1000000) (M 80) ∧ ∀ c, c < 5 → MxQ (ByF α (α 0 3) L c) (-1000000) (M 81 c)
/-- what the trying writes -/
def OffO (μ M : Mem) : Prop := (∀ j, j ≠ 67 → j ≠ 73 → j ≠ 79 → j ≠ 80 → j ≠ 81 → M j = μ j) ∧ ∀ q, q ≠ 24 → q ≠ 25 → M 67 q = μ 67 q
theorem ByF_sn {α : Al} {D : Nat} {L : List (List Nat)} {p : List Nat} {c x : Nat} : ByF α D (L ++ [p]) c x ↔ (ByF α D L c x ∨ (p.head? = some c ∧ x = frN α D p)) := by
  unfold ByF
  constructor
  · rintro ⟨q, h1, h2, h3⟩
    rcases List.mem_append.mp h1 with h | h
    · exact Or.inl ⟨q, h, h2, h3⟩
    · rw [List.mem_singleton.mp h] at h2 h3; exact Or.inr ⟨h2, h3⟩
  · rintro (⟨q, h1, h2, h3⟩ | ⟨h2, h3⟩)
    · exact ⟨q, List.mem_append_left _ h1, h2, h3⟩
    · exact ⟨p, by simp, h2, h3⟩
theorem nxF_cg {f g : Nat → Nat} {n : Nat} (h : f = g) : nxF f n = nxF g n := by rw [h]
theorem getD_rng {g : Nat → Nat} {n i : Nat} (h : i < n) : ((List.range n).map g).getD i 0 = g i := by simp [h]
set_option maxHeartbeats 4000000 in
theorem m_tryOrders {μ : Mem} {α : Al} (hA : Abs (kap (μ 71)) α) (hv : Val α) : CtP yX10_tryOrders cX10_tryOrders 8 (some .int) 4 [vR 67] μ (Pi (fun r μ' => r = nI (bitsN (opnN α)) ∧ OrM μ' α (bitsN (opnN α)) (ordA α) ∧ OffO μ μ')) := by
  refine CtP.go RX10 rfl pn_X10 (Nat.le_of_ble_eq_true rfl) (fun C hG hR => ?_)
  have hC := hv.C
  have ho := opn_lt hv
  have ol : opnN α < 2 ^ α 0 7 := thoN_lt α 0 (α 0 7)
  obtain ⟨ch1, ch2, ch3⟩ := q_chain (α 0 7) (by omega) (opnN α) ol
  have lens := ordM_len (α 0 7) (bitsN (opnN α)) (opnN α)
  have hn := q_b5 (opnN α) ho
  have r0 : vp_in (0 : Int32) 5 := vp_in_nI (n := 0) (by decide) (by decide)
  generalize hnn : bitsN (opnN α) = n at *
  have oa : ordA α = ordM (α 0 7) n (opnN α) := by unfold ordA; rw [hnn]
  rw [← oa] at ch1 ch2 lens
  generalize ordA α = OA at *
  -- one order
  have body : ∀ L p M, p ∈ OA → (∀ q, q ∈ L → q.length = n) → Tri M (fun i => p.getD i 0) n → OrM M α n L → OffO μ M → (∀ M', Tri M' (fun i => p.getD i 0) n → OrM M' α n (L ++ [p]) → OffO μ M' → V C 245 [(0, vR 67), (1, vI (nI (opnN α))), (2, vI (nI n)), (3, vI 1)] [] M') → V C 62 [(0, vR 67), (1, vI (nI (opnN α))), (2, vI (nI n)), (3, vI 1)] [] M := by
    intro L p M hp hL hT hO hM K
    obtain ⟨pl, pc⟩ := lens p hp
    have f5 := frN_le α p (α 0 3)
    have g5 := guN_le α p (α 0 3)
    -- the best is copied
    have copy : ∀ k i M2, i + k = n → Tri M2 (fun i => p.getD i 0) n → OffO μ M2 → M2 67 24 = nI (frN α (α 0 3) p) → M2 67 25 = nI (guN α (α 0 3) p) → (∀ c, c < 5 → MxQ (ByF α (α 0 3) (L ++ [p]) c) (-1000000) (M2 81 c)) → bestL α (α 0 3) (L ++ [p]) = some p → (∀ q, q < i → M2 80 q = nI (p.getD q 0)) → ∀ a b, V C 219 [(0, vR 67), (1, vI (nI (opnN α))), (2, vI (nI n)), (3, vI 1), (4, vI a), (5, vI b), (6, vI (nI i))] [] M2 := by
      intro k
      induction k with
      | zero =>
        intro i M2 hi t1 t2 t3 t4 t5 t6 t7 a b
        refine V_iload (pc := 219) hG (dk dd_X10_tryOrders 118 rfl) rfl ?_
        refine V_iload_n (pc := 221) hG (dk dd_X10_tryOrders 119 rfl) rfl ?_
        refine V_icmp_ge (pc := 222) hG (dk dd_X10_tryOrders 120 rfl) (tgt := 245) (by decide) (fun h222 => ?_) (fun h222 => ?_)
        refine V_keep [0, 1, 2, 3] (lv' := [(0, _), (1, _), (2, _), (3, _)]) rfl ?_
        rotate_left
        rotate_left
        -- leaves: stop 245; stop 225
        · refine K M2 t1 ⟨?_, t5⟩ t2
          rw [t6]
          exact ⟨pl, t3, t4, fun q hq => t7 q (by omega)⟩
        · exfalso; have := nle_i h222 (by omega) (by omega); omega
      | succ k ih =>
        intro i M2 hi t1 t2 t3 t4 t5 t6 t7 a b
        have ri : vp_in (nI i) 5 := vp_in_nI (by omega) (by decide)
        have ci : (nI i).toNatClampNeg = i := nI_clamp (by omega)
        refine V_iload (pc := 219) hG (dk dd_X10_tryOrders 118 rfl) rfl ?_
        refine V_iload_n (pc := 221) hG (dk dd_X10_tryOrders 119 rfl) rfl ?_
        refine V_icmp_ge (pc := 222) hG (dk dd_X10_tryOrders 120 rfl) (tgt := 245) (by decide) (fun h222 => ?_) (fun h222 => ?_)
        rotate_left
        refine V_aload_n (pc := 225) hG (dk dd_X10_tryOrders 121 rfl) rfl ?_
        refine V_getR (pc := 226) hG (dk dd_X10_tryOrders 122 rfl) fl_X10_47 sh_67 rfl ?_
        refine V_iload (pc := 229) hG (dk dd_X10_tryOrders 123 rfl) rfl ?_
        refine V_aload_n (pc := 231) hG (dk dd_X10_tryOrders 124 rfl) rfl ?_
        refine V_getR (pc := 232) hG (dk dd_X10_tryOrders 125 rfl) fl_X10_44 sh_67 rfl ?_
        refine V_iload (pc := 235) hG (dk dd_X10_tryOrders 126 rfl) rfl ?_
        refine V_iald (pc := 237) hG (dk dd_X10_tryOrders 127 rfl) sh_79 ri ?_
        refine V_iast (pc := 238) hG (dk dd_X10_tryOrders 128 rfl) sh_80 ri ?_
        refine V_iinc (pc := 239) hG (dk dd_X10_tryOrders 129 rfl) rfl (v := _ + 1) rfl (by decide) (lv' := [(0, _), (1, _), (2, _), (3, _), (4, _), (5, _), (6, _)]) rfl ?_
        refine V_goto (pc := 242) hG (dk dd_X10_tryOrders 130 rfl) (tgt := 219) (by decide) ?_
        rotate_left
        -- leaves: stop 245; stop 219
        · exfalso; have := le_i h222 (by omega) (by omega); omega
        · rw [ci, ← nI_succ]
          refine ih (i + 1) _ (by omega) (fun q hq => by rw [setc_n (by decide)]; exact t1 q hq) ⟨fun j a b c d e => by rw [setc_n d]; exact t2.1 j a b c d e, fun q a b => by rw [setc_n (by decide)]; exact t2.2 q a b⟩ (by rw [setc_n (by decide)]; exact t3) (by rw [setc_n (by decide)]; exact t4) (fun c hc => by rw [setc_n (by decide)]; exact t5 c hc) t6 (fun q hq => ?_) a b
          rw [setc_s]
          by_cases z : q = i
          · rw [z, upd_s]; exact t1 i (by omega)
          · rw [upd_n z]; exact t7 q (by omega)
    -- whether it is the best
    have bst : ∀ M2, Tri M2 (fun i => p.getD i 0) n → OffO μ M2 → BstQ α n (bestL α (α 0 3) L) (M2 67 24) (M2 67 25) (-1000000) (M2 80) → (∀ c, c < 5 → MxQ (ByF α (α 0 3) (L ++ [p]) c) (-1000000) (M2 81 c)) → V C 168 [(0, vR 67), (1, vI (nI (opnN α))), (2, vI (nI n)), (3, vI 1), (4, vI (nI (frN α (α 0 3) p))), (5, vI (nI (guN α (α 0 3) p)))] [] M2 := by
      intro M2 t1 t2 t3 t4
      have take : bestL α (α 0 3) (L ++ [p]) = some p → V C 204 [(0, vR 67), (1, vI (nI (opnN α))), (2, vI (nI n)), (3, vI 1), (4, vI (nI (frN α (α 0 3) p))), (5, vI (nI (guN α (α 0 3) p)))] [] M2 := by
        intro hb
        refine V_aload_n (pc := 204) hG (dk dd_X10_tryOrders 110 rfl) rfl ?_
        refine V_iload (pc := 205) hG (dk dd_X10_tryOrders 111 rfl) rfl ?_
        refine V_putI (pc := 207) hG (dk dd_X10_tryOrders 112 rfl) fl_X10_248 sh_67 rfl rfl ?_
        refine V_aload_n (pc := 210) hG (dk dd_X10_tryOrders 113 rfl) rfl ?_
        refine V_iload (pc := 211) hG (dk dd_X10_tryOrders 114 rfl) rfl ?_
        refine V_putI (pc := 213) hG (dk dd_X10_tryOrders 115 rfl) fl_X10_254 sh_67 rfl rfl ?_
        refine V_iconst (pc := 216) hG (dk dd_X10_tryOrders 116 rfl) (v := 0) (by decide) ?_
        refine V_istore (pc := 217) hG (dk dd_X10_tryOrders 117 rfl) (by decide) (lv' := [(0, _), (1, _), (2, _), (3, _), (4, _), (5, _), (6, _)]) rfl ?_
        rotate_left
        -- leaves: stop 219
        · refine copy n 0 _ (by omega) (fun q hq => by rw [setc_n (by decide), setc_n (by decide)]; exact t1 q hq) ⟨fun j a b c d e => by rw [setc_n a, setc_n a]; exact t2.1 j a b c d e, fun q a b => by rw [setc_s, upd_n b, setc_s, upd_n a]; exact t2.2 q a b⟩ (by rw [setc_s, upd_n (by decide), setc_s, upd_s]) (by rw [setc_s, upd_s]) (fun c hc => by rw [setc_n (by decide), setc_n (by decide)]; exact t4 c hc) hb (fun q hq => by omega) _ _
      have stay : (∃ s, bestL α (α 0 3) (L ++ [p]) = bestL α (α 0 3) L ∧ bestL α (α 0 3) L = some s) → V C 245 [(0, vR 67), (1, vI (nI (opnN α))), (2, vI (nI n)), (3, vI 1)] [] M2 := fun ⟨s, h1, h2⟩ => K M2 t1 ⟨by rw [h1]; exact t3, t4⟩ t2
      have bs := bestL_sn α (α 0 3) L p
      cases hb : bestL α (α 0 3) L with
      | none =>
        rw [hb] at t3 bs
        have t3 : M2 67 24 = -1000000 := t3
        refine V_aload_n (pc := 168) hG (dk dd_X10_tryOrders 94 rfl) rfl ?_
        refine V_getI (pc := 169) hG (dk dd_X10_tryOrders 95 rfl) fl_X10_248 sh_67 rfl ?_
        refine V_ldc (pc := 172) hG (dk dd_X10_tryOrders 96 rfl) kk_X10_105 ?_
        refine V_icmp_eq (pc := 174) hG (dk dd_X10_tryOrders 97 rfl) (tgt := 204) (by decide) (fun h174 => ?_) (fun h174 => ?_)
        rotate_left
        rotate_left
        -- leaves: stop 204; stop 177
        · exact take bs
        · exact absurd t3 h174
      | some s =>
        rw [hb] at t3 bs stay
        obtain ⟨s1, s2, s3, s4⟩ := t3
        have sf := frN_le α s (α 0 3)
        have sg := guN_le α s (α 0 3)
        unfold betO at bs
        dsimp only at bs
        refine V_aload_n (pc := 168) hG (dk dd_X10_tryOrders 94 rfl) rfl ?_
        refine V_getI (pc := 169) hG (dk dd_X10_tryOrders 95 rfl) fl_X10_248 sh_67 rfl ?_
        refine V_ldc (pc := 172) hG (dk dd_X10_tryOrders 96 rfl) kk_X10_105 ?_
        refine V_icmp_eq (pc := 174) hG (dk dd_X10_tryOrders 97 rfl) (tgt := 204) (by decide) (fun h174 => ?_) (fun h174 => ?_)
        rotate_left
        refine V_iload (pc := 177) hG (dk dd_X10_tryOrders 98 rfl) rfl ?_
        refine V_aload_n (pc := 179) hG (dk dd_X10_tryOrders 99 rfl) rfl ?_
        refine V_getI (pc := 180) hG (dk dd_X10_tryOrders 100 rfl) fl_X10_248 sh_67 rfl ?_
        refine V_icmp_gt (pc := 183) hG (dk dd_X10_tryOrders 101 rfl) (tgt := 204) (by decide) (fun h183 => ?_) (fun h183 => ?_)
        rotate_left
        refine V_iload (pc := 186) hG (dk dd_X10_tryOrders 102 rfl) rfl ?_
        refine V_aload_n (pc := 188) hG (dk dd_X10_tryOrders 103 rfl) rfl ?_
        refine V_getI (pc := 189) hG (dk dd_X10_tryOrders 104 rfl) fl_X10_248 sh_67 rfl ?_
        refine V_icmp_ne (pc := 192) hG (dk dd_X10_tryOrders 105 rfl) (tgt := 245) (by decide) (fun h192 => ?_) (fun h192 => ?_)
        refine V_keep [0, 1, 2, 3] (lv' := [(0, _), (1, _), (2, _), (3, _)]) rfl ?_
        rotate_left
        refine V_iload (pc := 195) hG (dk dd_X10_tryOrders 106 rfl) rfl ?_
        refine V_aload_n (pc := 197) hG (dk dd_X10_tryOrders 107 rfl) rfl ?_
        refine V_getI (pc := 198) hG (dk dd_X10_tryOrders 108 rfl) fl_X10_254 sh_67 rfl ?_
        refine V_icmp_ge (pc := 201) hG (dk dd_X10_tryOrders 109 rfl) (tgt := 245) (by decide) (fun h201 => ?_) (fun h201 => ?_)
        refine V_keep [0, 1, 2, 3] (lv' := [(0, _), (1, _), (2, _), (3, _)]) rfl ?_
        rotate_left
        rotate_left
        -- leaves: stop 204; stop 204; stop 245; stop 245; stop 204
        · exfalso; rw [s2] at h174; exact none_ne (by omega) h174
        · rw [s2] at h183
          have z := (nI_ltI (by omega) (by omega)).mp h183
          rw [if_pos (Or.inl z)] at bs
          exact take bs
        · rw [s2] at h183 h192
          have z1 : ¬ frN α (α 0 3) s < frN α (α 0 3) p := fun w => h183 ((nI_ltI (by omega) (by omega)).mpr w)
          have z2 : frN α (α 0 3) p ≠ frN α (α 0 3) s := fun w => h192 (by rw [w])
          rw [if_neg (fun w => w.elim z1 (fun u => z2 u.1))] at bs
          exact stay ⟨s, bs, rfl⟩
        · rw [s2] at h183 h192
          rw [s3] at h201
          have z1 : ¬ frN α (α 0 3) s < frN α (α 0 3) p := fun w => h183 ((nI_ltI (by omega) (by omega)).mpr w)
          have z3 := le_i h201 (by omega) (by omega)
          rw [if_neg (fun w => w.elim z1 (fun u => by omega))] at bs
          exact stay ⟨s, bs, rfl⟩
        · rw [s2] at h192
          rw [s3] at h201
          have z2 := (nI_eq (by omega) (by omega)).mp h192
          have z3 := nle_i h201 (by omega) (by omega)
          rw [if_pos (Or.inr ⟨z2, z3⟩)] at bs
          exact take bs
    -- all cases are heard
    have hear : ∀ (b a : List Nat) M2 w, p = a ++ b → Tri M2 (fun i => p.getD i 0) n → OffO μ M2 → M2 67 = M 67 → M2 80 = M 80 → M2 81 = M 81 → Abs (kap (M2 73)) (hrdL α a) → w = [(0, vR 67), (1, vI (nI (opnN α))), (2, vI (nI n)), (3, vI 1), (4, vI (nI (frN α (α 0 3) a))), (5, vI (nI (guN α (α 0 3) a))), (6, vI (nI a.length))] → V C 75 w [] M2 := by
      intro b
      induction b with
      | nil =>
        intro a M2 w e1 t1 t2 t3 t4 t5 t6 hw
        subst hw
        have ea : a = p := by rw [e1, List.append_nil]
        subst ea
        have b3 : BstQ α n (bestL α (α 0 3) L) (M2 67 24) (M2 67 25) (-1000000) (M2 80) := by rw [t3, t4]; exact hO.1
        have by5 : ∀ c x, ByF α (α 0 3) L c x → x ≤ 5 := fun c x ⟨q, q1, _, q3⟩ => by have := frN_le α q (α 0 3); have := hL q q1; omega
        by_cases n0 : n = 0
        · have e0 : a = [] := List.length_eq_zero_iff.mp (by omega)
          have mx : ∀ c, c < 5 → MxQ (ByF α (α 0 3) (L ++ [a]) c) (-1000000) (M2 81 c) := fun c hc => by
            rw [t5]
            have : ByF α (α 0 3) (L ++ [a]) c = ByF α (α 0 3) L c := by
              funext x; refine propext (ByF_sn.trans ⟨fun h => h.elim id (fun q => by rw [e0] at q; cases q.1), Or.inl⟩)
            rw [this]; exact hO.2 c hc
          refine V_iload (pc := 75) hG (dk dd_X10_tryOrders 44 rfl) rfl ?_
          refine V_iload_n (pc := 77) hG (dk dd_X10_tryOrders 45 rfl) rfl ?_
          refine V_icmp_ge (pc := 78) hG (dk dd_X10_tryOrders 46 rfl) (tgt := 135) (by decide) (fun h78 => ?_) (fun h78 => ?_)
          refine V_iload_n (pc := 135) hG (dk dd_X10_tryOrders 75 rfl) rfl ?_
          refine V_if_le (pc := 136) hG (dk dd_X10_tryOrders 76 rfl) (tgt := 168) (by decide) (fun h136 => ?_) (fun h136 => ?_)
          refine V_keep [0, 1, 2, 3, 4, 5] (lv' := [(0, _), (1, _), (2, _), (3, _), (4, _), (5, _)]) rfl ?_
          rotate_left
          rotate_left
          rotate_left
          -- leaves: stop 168; stop 139; stop 81
          · exact bst M2 t1 t2 b3 mx
          · exfalso; rw [n0] at h136; exact h136 (by decide)
          · exfalso; have := nle_i h78 (by omega) (by omega); omega
        · obtain ⟨c0, r, hc0⟩ : ∃ c0 r, a = c0 :: r := by
            cases a with
            | nil => simp at pl; omega
            | cons c0 r => exact ⟨c0, r, rfl⟩
          have c5 : c0 < 5 := by have := pc c0 (by rw [hc0]; exact List.mem_cons_self); omega
          have tr0 : M2 79 (Int32.toNatClampNeg 0) = nI c0 := by
            have := t1 0 (by omega)
            rw [hc0] at this; exact this
          have rc : vp_in (M2 79 (Int32.toNatClampNeg 0)) 5 := by rw [tr0]; exact vp_in_nI c5 (by decide)
          have cc : (M2 79 (Int32.toNatClampNeg 0)).toNatClampNeg = c0 := nI_cl tr0 (by omega)
          have same : ∀ c, c ≠ c0 → ByF α (α 0 3) (L ++ [a]) c = ByF α (α 0 3) L c := fun c hc => by
            funext x; refine propext (ByF_sn.trans ⟨fun h => h.elim id (fun q => by rw [hc0] at q; exact absurd (Option.some.inj q.1).symm hc), Or.inl⟩)
          have more : ∀ x, ByF α (α 0 3) (L ++ [a]) c0 x ↔ (ByF α (α 0 3) L c0 x ∨ x = frN α (α 0 3) a) := fun x => ByF_sn.trans ⟨fun h => h.elim Or.inl (fun q => Or.inr q.2), fun h => h.elim Or.inl (fun q => Or.inr ⟨by rw [hc0]; rfl, q⟩)⟩
          have up := fun v hv => MxN (hO.2 c0 c5) (v' := v) (show frN α (α 0 3) a ≤ 5 by omega) more hv (by5 c0)
          refine V_iload (pc := 75) hG (dk dd_X10_tryOrders 44 rfl) rfl ?_
          refine V_iload_n (pc := 77) hG (dk dd_X10_tryOrders 45 rfl) rfl ?_
          refine V_icmp_ge (pc := 78) hG (dk dd_X10_tryOrders 46 rfl) (tgt := 135) (by decide) (fun h78 => ?_) (fun h78 => ?_)
          refine V_iload_n (pc := 135) hG (dk dd_X10_tryOrders 75 rfl) rfl ?_
          refine V_if_le (pc := 136) hG (dk dd_X10_tryOrders 76 rfl) (tgt := 168) (by decide) (fun h136 => ?_) (fun h136 => ?_)
          refine V_keep [0, 1, 2, 3, 4, 5] (lv' := [(0, _), (1, _), (2, _), (3, _), (4, _), (5, _)]) rfl ?_
          rotate_left
          refine V_iload (pc := 139) hG (dk dd_X10_tryOrders 77 rfl) rfl ?_
          refine V_aload_n (pc := 141) hG (dk dd_X10_tryOrders 78 rfl) rfl ?_
          refine V_getR (pc := 142) hG (dk dd_X10_tryOrders 79 rfl) fl_X10_50 sh_67 rfl ?_
          refine V_aload_n (pc := 145) hG (dk dd_X10_tryOrders 80 rfl) rfl ?_
          refine V_getR (pc := 146) hG (dk dd_X10_tryOrders 81 rfl) fl_X10_44 sh_67 rfl ?_
          refine V_iconst (pc := 149) hG (dk dd_X10_tryOrders 82 rfl) (v := 0) (by decide) ?_
          refine V_iald (pc := 150) hG (dk dd_X10_tryOrders 83 rfl) sh_79 r0 ?_
          refine V_iald (pc := 151) hG (dk dd_X10_tryOrders 84 rfl) sh_81 rc ?_
          refine V_icmp_le (pc := 152) hG (dk dd_X10_tryOrders 85 rfl) (tgt := 168) (by decide) (fun h152 => ?_) (fun h152 => ?_)
          refine V_keep [0, 1, 2, 3, 4, 5] (lv' := [(0, _), (1, _), (2, _), (3, _), (4, _), (5, _)]) rfl ?_
          rotate_left
          refine V_aload_n (pc := 155) hG (dk dd_X10_tryOrders 86 rfl) rfl ?_
          refine V_getR (pc := 156) hG (dk dd_X10_tryOrders 87 rfl) fl_X10_50 sh_67 rfl ?_
          refine V_aload_n (pc := 159) hG (dk dd_X10_tryOrders 88 rfl) rfl ?_
          refine V_getR (pc := 160) hG (dk dd_X10_tryOrders 89 rfl) fl_X10_44 sh_67 rfl ?_
          refine V_iconst (pc := 163) hG (dk dd_X10_tryOrders 90 rfl) (v := 0) (by decide) ?_
          refine V_iald (pc := 164) hG (dk dd_X10_tryOrders 91 rfl) sh_79 r0 ?_
          refine V_iload (pc := 165) hG (dk dd_X10_tryOrders 92 rfl) rfl ?_
          refine V_iast (pc := 167) hG (dk dd_X10_tryOrders 93 rfl) sh_81 rc ?_
          refine V_keep [0, 1, 2, 3, 4, 5] (lv' := [(0, _), (1, _), (2, _), (3, _), (4, _), (5, _)]) rfl ?_
          rotate_left
          rotate_left
          -- leaves: stop 168; stop 168; stop 168; stop 81
          · exfalso; have := le_i (b := 0) h136 (by omega) (by decide); omega
          · rw [cc, t5] at h152
            refine bst M2 t1 t2 b3 (fun c hc => ?_)
            rw [t5]
            by_cases z : c = c0
            · rw [z]; exact up _ (by rw [if_neg (Int32.not_lt.mpr h152)])
            · rw [same c z]; exact hO.2 c hc
          · rw [cc, t5] at h152
            rw [cc]
            refine bst _ (fun q hq => by rw [setc_n (by decide)]; exact t1 q hq) ⟨fun j a b c d e => by rw [setc_n e]; exact t2.1 j a b c d e, fun q a b => by rw [setc_n (by decide)]; exact t2.2 q a b⟩ (by rw [setc_n (by decide), setc_n (by decide)]; exact b3) (fun c hc => ?_)
            rw [setc_s]
            by_cases z : c = c0
            · rw [z, upd_s]; exact up _ (by rw [if_pos (Int32.not_le.mp h152)])
            · rw [upd_n z, same c z, t5]; exact hO.2 c hc
          · exfalso; have := nle_i h78 (by omega) (by omega); omega
      | cons c b ih =>
        intro a M2 w e1 t1 t2 t3 t4 t5 t6 hw
        subst hw
        have al : a.length < n := by rw [e1] at pl; simp at pl; omega
        have cC : c < α 0 7 := pc c (by rw [e1]; simp)
        have aC : ∀ d ∈ a, d < α 0 7 := fun d hd => pc d (by rw [e1]; exact List.mem_append_left _ hd)
        obtain ⟨s1, s2, s3⟩ := hrdL_ok hv a aC
        have ck : (nI a.length).toNatClampNeg = a.length := nI_clamp (by omega)
        have rk : vp_in (nI a.length) 5 := vp_in_nI (by omega) (by decide)
        have tk : M2 79 a.length = nI c := by
          have := t1 a.length al
          rw [e1] at this
          rw [this]; congr 1; exact getD_app
        have vl := verN_lt α c (dhN α (α 0 3) a)
        have fa := frN_le α a (α 0 3)
        have ga := guN_le α a (α 0 3)
        have go : ∀ m2, Abs (kap (m2 73)) (hrdA (hrdL α a) c) → (∀ j, j ≠ 73 → m2 j = M2 j) → ∀ F G, F = nI (frN α (α 0 3) (a ++ [c])) → G = nI (guN α (α 0 3) (a ++ [c])) → V C 75 [(0, vR 67), (1, vI (nI (opnN α))), (2, vI (nI n)), (3, vI 1), (4, vI F), (5, vI G), (6, vI (nI a.length + 1))] [] m2 := fun m2 u1 u2 F G hF hG2 => by
          refine ih (a ++ [c]) m2 _ (by rw [e1]; simp) (fun q hq => by rw [u2 79 (by decide)]; exact t1 q hq) ⟨fun j a b c d e => by rw [u2 j b]; exact t2.1 j a b c d e, fun q a b => by rw [u2 67 (by decide)]; exact t2.2 q a b⟩ (by rw [u2 67 (by decide)]; exact t3) (by rw [u2 80 (by decide)]; exact t4) (by rw [u2 81 (by decide)]; exact t5) (by rw [hrdL_sn]; exact u1) ?_
          rw [hF, hG2, List.length_append, nI_1]; rfl
        have ev : ∀ y, y = nI (verN (hrdL α a) c (hrdL α a 0 3)) → y = nI (verN α c (dhN α (α 0 3) a)) := fun y hy => by rw [hy, s1.ver, s3]
        have fs := frN_sn α a (α 0 3) c
        have gs := guN_sn α a (α 0 3) c
        refine V_iload (pc := 75) hG (dk dd_X10_tryOrders 44 rfl) rfl ?_
        refine V_iload_n (pc := 77) hG (dk dd_X10_tryOrders 45 rfl) rfl ?_
        refine V_icmp_ge (pc := 78) hG (dk dd_X10_tryOrders 46 rfl) (tgt := 135) (by decide) (fun h78 => ?_) (fun h78 => ?_)
        rotate_left
        refine V_aload_n (pc := 81) hG (dk dd_X10_tryOrders 47 rfl) rfl ?_
        refine V_getR (pc := 82) hG (dk dd_X10_tryOrders 48 rfl) fl_X10_25 sh_67 rfl ?_
        refine V_aload_n (pc := 85) hG (dk dd_X10_tryOrders 49 rfl) rfl ?_
        refine V_getR (pc := 86) hG (dk dd_X10_tryOrders 50 rfl) fl_X10_44 sh_67 rfl ?_
        refine V_iload (pc := 89) hG (dk dd_X10_tryOrders 51 rfl) rfl ?_
        refine V_iald (pc := 91) hG (dk dd_X10_tryOrders 52 rfl) sh_79 rk ?_
        refine V_callSip (pc := 92) hG (dk dd_X10_tryOrders 53 rfl) ml_X10_211 mo_X10_heard (m_heard (μ := M2) sh_73 t6 s2 (by rw [ck]; exact tk) (by rw [s1.2.2.2.2.1]; exact cC)) (by decide) (by decide) rfl rfl rfl (fun x92 m92 p92 => ?_)
        refine V_istore (pc := 95) hG (dk dd_X10_tryOrders 54 rfl) (by decide) (lv' := [(0, _), (1, _), (2, _), (3, _), (4, _), (5, _), (6, _), (7, _)]) rfl ?_
        refine V_iload (pc := 97) hG (dk dd_X10_tryOrders 55 rfl) rfl ?_
        refine V_iload (pc := 99) hG (dk dd_X10_tryOrders 56 rfl) rfl ?_
        refine V_iconst (pc := 101) hG (dk dd_X10_tryOrders 57 rfl) (v := 1) (by decide) ?_
        refine V_icmp_ne (pc := 102) hG (dk dd_X10_tryOrders 58 rfl) (tgt := 109) (by decide) (fun h102 => ?_) (fun h102 => ?_)
        refine V_iconst (pc := 109) hG (dk dd_X10_tryOrders 61 rfl) (v := 0) (by decide) ?_
        refine V_iadd (pc := 110) hG (dk dd_X10_tryOrders 62 rfl) ?_
        refine V_istore (pc := 111) hG (dk dd_X10_tryOrders 63 rfl) (by decide) (lv' := [(0, _), (1, _), (2, _), (3, _), (4, _), (5, _), (6, _), (7, _)]) rfl ?_
        refine V_iload (pc := 113) hG (dk dd_X10_tryOrders 64 rfl) rfl ?_
        refine V_iload (pc := 115) hG (dk dd_X10_tryOrders 65 rfl) rfl ?_
        refine V_iconst (pc := 117) hG (dk dd_X10_tryOrders 66 rfl) (v := 2) (by decide) ?_
        refine V_icmp_ne (pc := 118) hG (dk dd_X10_tryOrders 67 rfl) (tgt := 125) (by decide) (fun h118 => ?_) (fun h118 => ?_)
        refine V_iconst (pc := 125) hG (dk dd_X10_tryOrders 70 rfl) (v := 0) (by decide) ?_
        refine V_iadd (pc := 126) hG (dk dd_X10_tryOrders 71 rfl) ?_
        refine V_istore (pc := 127) hG (dk dd_X10_tryOrders 72 rfl) (by decide) (lv' := [(0, _), (1, _), (2, _), (3, _), (4, _), (5, _), (6, _), (7, _)]) rfl ?_
        refine V_iinc (pc := 129) hG (dk dd_X10_tryOrders 73 rfl) rfl (v := _ + 1) rfl (by decide) (lv' := [(0, _), (1, _), (2, _), (3, _), (4, _), (5, _), (6, _), (7, _)]) rfl ?_
        refine V_goto (pc := 132) hG (dk dd_X10_tryOrders 74 rfl) (tgt := 75) (by decide) ?_
        refine V_keep [0, 1, 2, 3, 4, 5, 6] (lv' := [(0, _), (1, _), (2, _), (3, _), (4, _), (5, _), (6, _)]) rfl ?_
        rotate_left
        refine V_iconst (pc := 121) hG (dk dd_X10_tryOrders 68 rfl) (v := 1) (by decide) ?_
        refine V_goto (pc := 122) hG (dk dd_X10_tryOrders 69 rfl) (tgt := 126) (by decide) ?_
        refine V_iadd (pc := 126) hG (dk dd_X10_tryOrders 71 rfl) ?_
        refine V_istore (pc := 127) hG (dk dd_X10_tryOrders 72 rfl) (by decide) (lv' := [(0, _), (1, _), (2, _), (3, _), (4, _), (5, _), (6, _), (7, _)]) rfl ?_
        refine V_iinc (pc := 129) hG (dk dd_X10_tryOrders 73 rfl) rfl (v := _ + 1) rfl (by decide) (lv' := [(0, _), (1, _), (2, _), (3, _), (4, _), (5, _), (6, _), (7, _)]) rfl ?_
        refine V_goto (pc := 132) hG (dk dd_X10_tryOrders 74 rfl) (tgt := 75) (by decide) ?_
        refine V_keep [0, 1, 2, 3, 4, 5, 6] (lv' := [(0, _), (1, _), (2, _), (3, _), (4, _), (5, _), (6, _)]) rfl ?_
        rotate_left
        refine V_iconst (pc := 105) hG (dk dd_X10_tryOrders 59 rfl) (v := 1) (by decide) ?_
        refine V_goto (pc := 106) hG (dk dd_X10_tryOrders 60 rfl) (tgt := 110) (by decide) ?_
        refine V_iadd (pc := 110) hG (dk dd_X10_tryOrders 62 rfl) ?_
        refine V_istore (pc := 111) hG (dk dd_X10_tryOrders 63 rfl) (by decide) (lv' := [(0, _), (1, _), (2, _), (3, _), (4, _), (5, _), (6, _), (7, _)]) rfl ?_
        refine V_iload (pc := 113) hG (dk dd_X10_tryOrders 64 rfl) rfl ?_
        refine V_iload (pc := 115) hG (dk dd_X10_tryOrders 65 rfl) rfl ?_
        refine V_iconst (pc := 117) hG (dk dd_X10_tryOrders 66 rfl) (v := 2) (by decide) ?_
        refine V_icmp_ne (pc := 118) hG (dk dd_X10_tryOrders 67 rfl) (tgt := 125) (by decide) (fun h118 => ?_) (fun h118 => ?_)
        refine V_iconst (pc := 125) hG (dk dd_X10_tryOrders 70 rfl) (v := 0) (by decide) ?_
        refine V_iadd (pc := 126) hG (dk dd_X10_tryOrders 71 rfl) ?_
        refine V_istore (pc := 127) hG (dk dd_X10_tryOrders 72 rfl) (by decide) (lv' := [(0, _), (1, _), (2, _), (3, _), (4, _), (5, _), (6, _), (7, _)]) rfl ?_
        refine V_iinc (pc := 129) hG (dk dd_X10_tryOrders 73 rfl) rfl (v := _ + 1) rfl (by decide) (lv' := [(0, _), (1, _), (2, _), (3, _), (4, _), (5, _), (6, _), (7, _)]) rfl ?_
        refine V_goto (pc := 132) hG (dk dd_X10_tryOrders 74 rfl) (tgt := 75) (by decide) ?_
        refine V_keep [0, 1, 2, 3, 4, 5, 6] (lv' := [(0, _), (1, _), (2, _), (3, _), (4, _), (5, _), (6, _)]) rfl ?_
        rotate_left
        refine V_iconst (pc := 121) hG (dk dd_X10_tryOrders 68 rfl) (v := 1) (by decide) ?_
        refine V_goto (pc := 122) hG (dk dd_X10_tryOrders 69 rfl) (tgt := 126) (by decide) ?_
        refine V_iadd (pc := 126) hG (dk dd_X10_tryOrders 71 rfl) ?_
        refine V_istore (pc := 127) hG (dk dd_X10_tryOrders 72 rfl) (by decide) (lv' := [(0, _), (1, _), (2, _), (3, _), (4, _), (5, _), (6, _), (7, _)]) rfl ?_
        refine V_iinc (pc := 129) hG (dk dd_X10_tryOrders 73 rfl) rfl (v := _ + 1) rfl (by decide) (lv' := [(0, _), (1, _), (2, _), (3, _), (4, _), (5, _), (6, _), (7, _)]) rfl ?_
        refine V_goto (pc := 132) hG (dk dd_X10_tryOrders 74 rfl) (tgt := 75) (by decide) ?_
        refine V_keep [0, 1, 2, 3, 4, 5, 6] (lv' := [(0, _), (1, _), (2, _), (3, _), (4, _), (5, _), (6, _)]) rfl ?_
        rotate_left
        -- leaves: stop 135; stop 75; stop 75; stop 75; stop 75
        · exfalso; have := le_i h78 (by omega) (by omega); omega
        all_goals (obtain ⟨⟨u1, u2⟩, u3⟩ := p92; have u4 := ev _ u3; rw [u4] at h102 h118)
        all_goals (have y1 : nI (verN α c (dhN α (α 0 3) a)) = 1 ↔ verN α c (dhN α (α 0 3) a) = 1 := nI_eq (b := 1) (by omega) (by decide); have y2 : nI (verN α c (dhN α (α 0 3) a)) = 2 ↔ verN α c (dhN α (α 0 3) a) = 2 := nI_eq (b := 2) (by omega) (by decide); rw [y1] at h102; rw [y2] at h118)
        · exact go _ u1 u2 _ _ (by rw [fs, if_neg h102, Int32.add_zero]; rfl) (by rw [gs, if_neg h118, Int32.add_zero]; rfl)
        · exact go _ u1 u2 _ _ (by rw [fs, if_neg h102, Int32.add_zero]; rfl) (by rw [gs, if_pos h118, nI_1])
        · exact go _ u1 u2 _ _ (by rw [fs, if_pos h102, nI_1]) (by rw [gs, if_neg h118, Int32.add_zero]; rfl)
        · exact go _ u1 u2 _ _ (by rw [fs, if_pos h102, nI_1]) (by rw [gs, if_pos h118, nI_1])
    refine V_aload_n (pc := 62) hG (dk dd_X10_tryOrders 36 rfl) rfl ?_
    refine V_callVvp (pc := 63) hG (dk dd_X10_tryOrders 37 rfl) ml_X10_251 mo_X10_layThen sh_67 rfl (m_layThen) (by decide) (by decide) rfl rfl rfl (fun m63 p63 => ?_)
    refine V_iconst (pc := 66) hG (dk dd_X10_tryOrders 38 rfl) (v := 0) (by decide) ?_
    refine V_istore (pc := 67) hG (dk dd_X10_tryOrders 39 rfl) (by decide) (lv' := [(0, _), (1, _), (2, _), (3, _), (4, _)]) rfl ?_
    refine V_iconst (pc := 69) hG (dk dd_X10_tryOrders 40 rfl) (v := 0) (by decide) ?_
    refine V_istore (pc := 70) hG (dk dd_X10_tryOrders 41 rfl) (by decide) (lv' := [(0, _), (1, _), (2, _), (3, _), (4, _), (5, _)]) rfl ?_
    refine V_iconst (pc := 72) hG (dk dd_X10_tryOrders 42 rfl) (v := 0) (by decide) ?_
    refine V_istore (pc := 73) hG (dk dd_X10_tryOrders 43 rfl) (by decide) (lv' := [(0, _), (1, _), (2, _), (3, _), (4, _), (5, _), (6, _)]) rfl ?_
    rotate_left
    -- leaves: stop 75
    · obtain ⟨l1, l2⟩ := p63
      refine hear p [] m63 _ rfl (fun q hq => by rw [l2 79 (by decide)]; exact hT q hq) ⟨fun j a b c d e => by rw [l2 j b]; exact hM.1 j a b c d e, fun q a b => by rw [l2 67 (by decide)]; exact hM.2 q a b⟩ (l2 67 (by decide)) (l2 80 (by decide)) (l2 81 (by decide)) (kap_cg hA hv.H hv.C (fun q hq => ?_)) rfl
      rw [l1 q hq, hM.1 71 (by decide) (by decide) (by decide) (by decide) (by decide)]
  have main : ∀ rest L p M, OA = L ++ p :: rest → chnB (p :: rest) = true → Tri M (fun i => p.getD i 0) n → OrM M α n L → OffO μ M → V C 62 [(0, vR 67), (1, vI (nI (opnN α))), (2, vI (nI n)), (3, vI 1)] [] M := by
    intro rest
    induction rest with
    | nil =>
      intro L p M e1 e2 e3 e4 e5
      have hp : p ∈ OA := by rw [e1]; simp
      obtain ⟨pl, pc⟩ := lens p hp
      refine body L p M hp (fun q hq => (lens q (by rw [e1]; exact List.mem_append_left _ hq)).1) e3 e4 e5 (fun M' f1 f2 f3 => ?_)
      have nx : nxF (fun i => p.getD i 0) n = none := by
        have : nxL p = none := by simpa [chnB] using e2
        unfold nxL at this
        rw [pl] at this
        cases hq : nxF (fun i => p.getD i 0) n with
        | none => rfl
        | some g => rw [hq] at this; cases this
      refine V_aload_n (pc := 245) hG (dk dd_X10_tryOrders 131 rfl) rfl ?_
      refine V_iload_n (pc := 246) hG (dk dd_X10_tryOrders 132 rfl) rfl ?_
      refine V_callVip (pc := 247) hG (dk dd_X10_tryOrders 133 rfl) ml_X10_257 mo_X10_nextRow sh_67 rfl (m_nextRow (f := fun i => p.getD i 0) hn f1 (fun q hq => ?_) rfl) (by decide) (by decide) rfl rfl rfl (fun x247 m247 p247 => ?_)
      rotate_left
      refine V_istore_n (pc := 250) hG (dk dd_X10_tryOrders 134 rfl) (by decide) (lv' := [(0, _), (1, _), (2, _), (3, _)]) rfl ?_
      refine V_goto (pc := 251) hG (dk dd_X10_tryOrders 135 rfl) (tgt := 58) (by decide) ?_
      refine V_iload_n (pc := 58) hG (dk dd_X10_tryOrders 34 rfl) rfl ?_
      refine V_if_eq (pc := 59) hG (dk dd_X10_tryOrders 35 rfl) (tgt := 254) (by decide) (fun h59 => ?_) (fun h59 => ?_)
      refine V_iload_n (pc := 254) hG (dk dd_X10_tryOrders 136 rfl) rfl ?_
      refine V_iretP (pc := 255) hG (dk dd_X10_tryOrders 137 rfl) hR (Pi.mk ?_)
      rotate_left
      rotate_left
      -- leaves: call nextRow@247 0; return@255; stop 62
      · have : p.getD q 0 ∈ p := by
          rw [List.getD_eq_getElem?_getD, List.getElem?_eq_getElem (by omega)]; exact List.getElem_mem _
        have := pc _ this; omega
      · obtain ⟨b1, b2⟩ := p247
        rcases b2 with ⟨_, _, c3⟩ | ⟨g, c1, _⟩
        · rw [c3]
          refine ⟨rfl, ?_, f3⟩
          rw [e1]; exact f2
        · rw [nx] at c1; cases c1
      · obtain ⟨b1, b2⟩ := p247
        rcases b2 with ⟨_, c2, _⟩ | ⟨g, c1, _⟩
        · exact absurd c2 h59
        · rw [nx] at c1; cases c1
    | cons q rest ih =>
      intro L p M e1 e2 e3 e4 e5
      have hp : p ∈ OA := by rw [e1]; simp
      have hq : q ∈ OA := by rw [e1]; simp
      obtain ⟨pl, pc⟩ := lens p hp
      refine body L p M hp (fun q hq => (lens q (by rw [e1]; exact List.mem_append_left _ hq)).1) e3 e4 e5 (fun M' f1 f2 f3 => ?_)
      have e2' : nxL p = some q ∧ chnB (q :: rest) = true := by simpa [chnB] using e2
      have nx : ∃ g, nxF (fun i => p.getD i 0) n = some g ∧ q = (List.range n).map g := by
        have := e2'.1
        unfold nxL at this
        rw [pl] at this
        cases hq : nxF (fun i => p.getD i 0) n with
        | none => rw [hq] at this; cases this
        | some g => rw [hq] at this; exact ⟨g, rfl, (Option.some.inj this).symm⟩
      obtain ⟨g0, n1, n2⟩ := nx
      refine V_aload_n (pc := 245) hG (dk dd_X10_tryOrders 131 rfl) rfl ?_
      refine V_iload_n (pc := 246) hG (dk dd_X10_tryOrders 132 rfl) rfl ?_
      refine V_callVip (pc := 247) hG (dk dd_X10_tryOrders 133 rfl) ml_X10_257 mo_X10_nextRow sh_67 rfl (m_nextRow (f := fun i => p.getD i 0) hn f1 (fun q hq => ?_) rfl) (by decide) (by decide) rfl rfl rfl (fun x247 m247 p247 => ?_)
      rotate_left
      refine V_istore_n (pc := 250) hG (dk dd_X10_tryOrders 134 rfl) (by decide) (lv' := [(0, _), (1, _), (2, _), (3, _)]) rfl ?_
      refine V_goto (pc := 251) hG (dk dd_X10_tryOrders 135 rfl) (tgt := 58) (by decide) ?_
      refine V_iload_n (pc := 58) hG (dk dd_X10_tryOrders 34 rfl) rfl ?_
      refine V_if_eq (pc := 59) hG (dk dd_X10_tryOrders 35 rfl) (tgt := 254) (by decide) (fun h59 => ?_) (fun h59 => ?_)
      rotate_left
      rotate_left
      -- leaves: call nextRow@247 0; stop 254; stop 62
      · have : p.getD q 0 ∈ p := by
          rw [List.getD_eq_getElem?_getD, List.getElem?_eq_getElem (by omega)]; exact List.getElem_mem _
        have := pc _ this; omega
      · obtain ⟨b1, b2⟩ := p247
        rcases b2 with ⟨c1, _⟩ | ⟨g, _, c2, _⟩
        · rw [n1] at c1; cases c1
        · rw [c2] at h59; exact absurd h59 (by decide)
      · obtain ⟨b1, b2⟩ := p247
        rcases b2 with ⟨c1, _⟩ | ⟨g, c1, c2, c3, c4⟩
        · rw [n1] at c1; cases c1
        · rw [n1] at c1
          have eg := Option.some.inj c1
          rw [c2]
          refine ih (L ++ [p]) q m247 (by rw [e1]; simp) e2'.2 (fun i hi => ?_) ?_ ⟨fun j a b c d e => by rw [c4 j c]; exact f3.1 j a b c d e, fun q a b => by rw [c4 67 (by decide)]; exact f3.2 q a b⟩
          · rw [c3 i hi, n2, ← eg]
            show nI (g0 i) = nI (((List.range n).map g0).getD i 0)
            rw [getD_rng hi]
          · obtain ⟨o1, o2⟩ := f2
            refine ⟨?_, fun c hc => by rw [c4 81 (by decide)]; exact o2 c hc⟩
            rw [c4 67 (by decide), c4 80 (by decide)]; exact o1
  -- the first order
  have first : ∀ k c M, c + k = 5 → Tri M (fun i => (srtL (opnN α) c).getD i 0) (srtL (opnN α) c).length → (srtL (opnN α) c).length ≤ c → (∀ q, q < c → M 81 q = -1000000) → OffO μ M → V C 13 [(0, vR 67), (1, vI (nI (opnN α))), (2, vI (nI (srtL (opnN α) c).length)), (3, vI (nI c))] [] M := by
    intro k
    induction k with
    | zero =>
      intro c M hc t1 t2 t3 t4
      have c5 : c = 5 := by omega
      subst c5
      rw [ch3] at t1 t2 ⊢
      obtain ⟨rest, hr⟩ : ∃ rest, OA = srtL (opnN α) 5 :: rest := by
        cases OA with
        | nil => cases ch2
        | cons a r => exact ⟨r, by rw [Option.some.inj ch2]⟩
      refine V_iload_n (pc := 13) hG (dk dd_X10_tryOrders 9 rfl) rfl ?_
      refine V_iconst (pc := 14) hG (dk dd_X10_tryOrders 10 rfl) (v := 5) (by decide) ?_
      refine V_icmp_ge (pc := 15) hG (dk dd_X10_tryOrders 11 rfl) (tgt := 50) (by decide) (fun h15 => ?_) (fun h15 => ?_)
      refine V_aload_n (pc := 50) hG (dk dd_X10_tryOrders 29 rfl) rfl ?_
      refine V_ldc (pc := 51) hG (dk dd_X10_tryOrders 30 rfl) kk_X10_105 ?_
      refine V_putI (pc := 53) hG (dk dd_X10_tryOrders 31 rfl) fl_X10_248 sh_67 rfl rfl ?_
      refine V_iconst (pc := 56) hG (dk dd_X10_tryOrders 32 rfl) (v := 1) (by decide) ?_
      refine V_istore_n (pc := 57) hG (dk dd_X10_tryOrders 33 rfl) (by decide) (lv' := [(0, _), (1, _), (2, _), (3, _)]) rfl ?_
      refine V_iload_n (pc := 58) hG (dk dd_X10_tryOrders 34 rfl) rfl ?_
      refine V_if_eq (pc := 59) hG (dk dd_X10_tryOrders 35 rfl) (tgt := 254) (by decide) (fun h59 => ?_) (fun h59 => ?_)
      rotate_left
      rotate_left
      rotate_left
      -- leaves: stop 254; stop 62; stop 18
      · exact absurd h59 (by decide)
      · refine main rest [] (srtL (opnN α) 5) _ (by rw [hr]; rfl) (by rw [← hr]; exact ch1) (fun q hq => by rw [setc_n (by decide)]; exact t1 q hq) ⟨?_, fun c hc => ?_⟩ ⟨fun j a b c d e => by rw [setc_n a]; exact t4.1 j a b c d e, fun q a b => by rw [setc_s, upd_n a]; exact t4.2 q a b⟩
        · show setc M 67 (upd (M 67) 24 (-1000000)) 67 24 = -1000000
          rw [setc_s, upd_s]
        · rw [setc_n (by decide), t3 c hc]
          exact Or.inl ⟨rfl, fun x ⟨p, h, _⟩ => absurd h List.not_mem_nil⟩
      · exfalso; have := nle_i (a := 5) h15 (by omega) (by decide); omega
    | succ k ih =>
      intro c M hc t1 t2 t3 t4
      have rc : vp_in (nI c) 5 := vp_in_nI (by omega) (by decide)
      have cc : (nI c).toNatClampNeg = c := nI_clamp (by omega)
      have rl : vp_in (nI (srtL (opnN α) c).length) 5 := vp_in_nI (by omega) (by decide)
      have cl : (nI (srtL (opnN α) c).length).toNatClampNeg = (srtL (opnN α) c).length := nI_clamp (by omega)
      refine V_iload_n (pc := 13) hG (dk dd_X10_tryOrders 9 rfl) rfl ?_
      refine V_iconst (pc := 14) hG (dk dd_X10_tryOrders 10 rfl) (v := 5) (by decide) ?_
      refine V_icmp_ge (pc := 15) hG (dk dd_X10_tryOrders 11 rfl) (tgt := 50) (by decide) (fun h15 => ?_) (fun h15 => ?_)
      rotate_left
      refine V_aload_n (pc := 18) hG (dk dd_X10_tryOrders 12 rfl) rfl ?_
      refine V_getR (pc := 19) hG (dk dd_X10_tryOrders 13 rfl) fl_X10_50 sh_67 rfl ?_
      refine V_iload_n (pc := 22) hG (dk dd_X10_tryOrders 14 rfl) rfl ?_
      refine V_ldc (pc := 23) hG (dk dd_X10_tryOrders 15 rfl) kk_X10_105 ?_
      refine V_iast (pc := 25) hG (dk dd_X10_tryOrders 16 rfl) sh_81 rc ?_
      refine V_iload_n (pc := 26) hG (dk dd_X10_tryOrders 17 rfl) rfl ?_
      refine V_iload_n (pc := 27) hG (dk dd_X10_tryOrders 18 rfl) rfl ?_
      refine V_callSip (pc := 28) hG (dk dd_X10_tryOrders 19 rfl) ml_X10_181 mo_X10_has (m_has (D := opnN α) rfl (by omega) (K := c) rfl (by omega)) (by decide) (by decide) rfl rfl rfl (fun x28 m28 p28 => ?_)
      refine V_if_eq (pc := 31) hG (dk dd_X10_tryOrders 20 rfl) (tgt := 44) (by decide) (fun h31 => ?_) (fun h31 => ?_)
      refine V_iinc (pc := 44) hG (dk dd_X10_tryOrders 27 rfl) rfl (v := _ + 1) rfl (by decide) (lv' := [(0, _), (1, _), (2, _), (3, _)]) rfl ?_
      refine V_goto (pc := 47) hG (dk dd_X10_tryOrders 28 rfl) (tgt := 13) (by decide) ?_
      rotate_left
      refine V_aload_n (pc := 34) hG (dk dd_X10_tryOrders 21 rfl) rfl ?_
      refine V_getR (pc := 35) hG (dk dd_X10_tryOrders 22 rfl) fl_X10_44 sh_67 rfl ?_
      refine V_iload_n (pc := 38) hG (dk dd_X10_tryOrders 23 rfl) rfl ?_
      refine V_iload_n (pc := 39) hG (dk dd_X10_tryOrders 24 rfl) rfl ?_
      refine V_iast (pc := 40) hG (dk dd_X10_tryOrders 25 rfl) sh_79 rl ?_
      refine V_iinc (pc := 41) hG (dk dd_X10_tryOrders 26 rfl) rfl (v := _ + 1) rfl (by decide) (lv' := [(0, _), (1, _), (2, _), (3, _)]) rfl ?_
      refine V_iinc (pc := 44) hG (dk dd_X10_tryOrders 27 rfl) rfl (v := _ + 1) rfl (by decide) (lv' := [(0, _), (1, _), (2, _), (3, _)]) rfl ?_
      refine V_goto (pc := 47) hG (dk dd_X10_tryOrders 28 rfl) (tgt := 13) (by decide) ?_
      rotate_left
      -- leaves: stop 50; stop 13; stop 13
      · exfalso; have := le_i (a := 5) h15 (by decide) (by omega); omega
      · obtain ⟨b1, b2⟩ := p28
        have z := b2.no h31
        have hI := ih (c + 1) (setc M 81 (upd (M 81) c (-1000000))) (by omega)
        rw [srtL_s, if_neg z, nI_succ] at hI
        rw [b1, cc]
        refine hI (fun q hq => by rw [setc_n (by decide)]; exact t1 q hq) (by omega) (fun q hq => ?_) ⟨fun j a b c d e => by rw [setc_n e]; exact t4.1 j a b c d e, fun q a b => by rw [setc_n (by decide)]; exact t4.2 q a b⟩
        rw [setc_s]
        by_cases w : q = c
        · rw [w, upd_s]
        · rw [upd_n w]; exact t3 q (by omega)
      · obtain ⟨b1, b2⟩ := p28
        have z := b2.yes h31
        have hI := ih (c + 1) (setc (setc M 81 (upd (M 81) c (-1000000))) 79 (upd (setc M 81 (upd (M 81) c (-1000000)) 79) (srtL (opnN α) c).length (nI c))) (by omega)
        rw [srtL_s, if_pos z, nI_succ c, List.length_append, List.length_singleton, nI_succ (srtL (opnN α) c).length] at hI
        rw [b1, cc, cl]
        refine hI (fun q hq => ?_) (by omega) (fun q hq => ?_) ⟨fun j a b c d e => by rw [setc_n c, setc_n e]; exact t4.1 j a b c d e, fun q a b => by rw [setc_n (by decide), setc_n (by decide)]; exact t4.2 q a b⟩
        · rw [setc_s]
          by_cases w : q = (srtL (opnN α) c).length
          · rw [w, upd_s]; congr 1; exact getD_la.symm
          · rw [upd_n w, setc_n (by decide)]
            show M 79 q = nI ((srtL (opnN α) c ++ [c]).getD q 0)
            rw [getD_ap (by omega)]; exact t1 q (by omega)
        · rw [setc_n (by decide), setc_s]
          by_cases w : q = c
          · rw [w, upd_s]
          · rw [upd_n w]; exact t3 q (by omega)
  refine V_aload_n (pc := 0) hG (dk dd_X10_tryOrders 0 rfl) rfl ?_
  refine V_getR (pc := 1) hG (dk dd_X10_tryOrders 1 rfl) fl_X10_19 sh_67 rfl ?_
  refine V_iconst (pc := 4) hG (dk dd_X10_tryOrders 2 rfl) (v := 0) (by decide) ?_
  refine V_callSip (pc := 5) hG (dk dd_X10_tryOrders 3 rfl) ml_X10_222 mo_X10_those (m_those sh_71 hA hC hv.w4 (w := 0) rfl (by decide)) (by decide) (by decide) rfl rfl rfl (fun x5 m5 p5 => ?_)
  refine V_istore_n (pc := 8) hG (dk dd_X10_tryOrders 4 rfl) (by decide) (lv' := [(0, _), (1, _)]) rfl ?_
  refine V_iconst (pc := 9) hG (dk dd_X10_tryOrders 5 rfl) (v := 0) (by decide) ?_
  refine V_istore_n (pc := 10) hG (dk dd_X10_tryOrders 6 rfl) (by decide) (lv' := [(0, _), (1, _), (2, _)]) rfl ?_
  refine V_iconst (pc := 11) hG (dk dd_X10_tryOrders 7 rfl) (v := 0) (by decide) ?_
  refine V_istore_n (pc := 12) hG (dk dd_X10_tryOrders 8 rfl) (by decide) (lv' := [(0, _), (1, _), (2, _), (3, _)]) rfl ?_
  rotate_left
  -- leaves: stop 13
  · rw [p5.1, p5.2]
    exact first 5 0 μ (by omega) (fun q hq => absurd hq (Nat.not_lt_zero q)) (Nat.le_refl 0) (fun q hq => by omega) ⟨fun j _ _ _ _ _ => rfl, fun q _ _ => rfl⟩
