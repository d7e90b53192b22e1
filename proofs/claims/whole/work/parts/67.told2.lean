/-! ===== the model: began, snored ===== -/
/-- the least number with P from d on -/
def IsLd (P : Nat → Prop) (N d : Nat) (r : Int32) : Prop := (∃ D, d ≤ D ∧ D < N ∧ P D ∧ r = nI D ∧ ∀ E, d ≤ E → E < D → ¬ P E) ∨ ((∀ D, d ≤ D → D < N → ¬ P D) ∧ r = -1000000)
def BegR (α : Al) (ln mn : Nat → Int32) (I : Nat → Nat → Int32) (w y i u j k : Int32) (r : Int32) (o : Option Int32) : Prop :=
  (¬ 0 < α 0 0 ∧ r = -1000002 ∧ o = none) ∨ (0 < α 0 0 ∧ ¬ ((w = 0 ∨ w = 1) ∧ isR y ∧ isR u ∧ 1 ≤ k ∧ k ≤ 12) ∧ r = -1000001 ∧ o = none) ∨
  (0 < α 0 0 ∧ ((w = 0 ∨ w = 1) ∧ isR y ∧ isR u ∧ 1 ≤ k ∧ k ≤ 12) ∧ ∃ n n2 m f, y = nI n ∧ n < 8 ∧ u = nI n2 ∧ n2 < 8 ∧ k = nI m ∧ 1 ≤ m ∧ m ≤ 12 ∧ TbS ln mn I (α 0 6) n n2 m i j k f ∧ o = some f ∧
    ((f ≠ 0 ∧ r = fnd f) ∨ (f = 0 ∧ ∃ a b, i = nI a ∧ a + m ≤ 40 ∧ j = nI b ∧ b + m ≤ 40 ∧ ((w = 0 ∧ r = nI (cntT (Fit α (hsI I n a) (fun q => I n2 (b + q)) m) (2 ^ α 0 0))) ∨ (w = 1 ∧ IsL (Fit α (hsI I n a) (fun q => I n2 (b + q)) m) (2 ^ α 0 0) r)))))
set_option maxHeartbeats 2000000 in
theorem m_began {μ : Mem} {α : Al} (hA : Abs (kap (μ 71)) α) (hz : Vz α) (hk : Rok (μ 68) (μ 69)) {w y i u j k : Int32} : CtP yX10_began cX10_began 12 (some .int) 3 [vR 67, vI w, vI y, vI i, vI u, vI j, vI k] μ (Pi (fun r μ' => ∃ o, BegR α (μ 68) (μ 69) (itM μ) w y i u j k r o ∧ FrM μ o μ')) := by
  refine CtP.go RX10 rfl pn_X10 (Nat.le_of_ble_eq_true rfl) (fun C hG hR => ?_)
  have hH := hz.H
  have e0 : μ 71 0 = nI (α 0 0) := e_sc hA (i := 0) (by decide)
  have e3 : th0 μ 71 3 = nI (α 0 6) := e_sc hA (i := 6) (by decide)
  by_cases hv : Val α
  · have h0 : 0 < α 0 0 := by have := hv.t3; omega
    have ht := hv.t
    have hp := pow8 ht
    by_cases hi : (w = 0 ∨ w = 1) ∧ isR y ∧ isR u ∧ 1 ≤ k ∧ k ≤ 12
    · obtain ⟨i2, i3, i4, i5⟩ := id hi
      obtain ⟨n, hy, hn⟩ := i3.n
      obtain ⟨n2, hu, hn2⟩ := i4.n
      obtain ⟨m, hkm, m1, m2⟩ := k12 i5
      have hk0 : 0 ≤ k := by rw [hkm]; exact nI_pos' (by omega)
      have loop : ∀ a b, i = nI a → a + m ≤ 40 → j = nI b → b + m ≤ 40 → (∀ q, q < m → inN (itM μ n (a + q)) (α 0 6)) → TbS (μ 68) (μ 69) (itM μ) (α 0 6) n n2 m i j k 0 → ∀ M, FrM μ (some 0) M → Abs (kap (M 73)) α → ∀ d c l F, d ≤ 2 ^ α 0 0 → c + cntT (Fit α (hsI (itM μ) n a) (fun q => itM μ n2 (b + q)) m) d = cntT (Fit α (hsI (itM μ) n a) (fun q => itM μ n2 (b + q)) m) (2 ^ α 0 0) → IsLd (Fit α (hsI (itM μ) n a) (fun q => itM μ n2 (b + q)) m) (2 ^ α 0 0) d l → ∀ v, v = nI d - 1 → V C 115 [(0, vR 67), (1, vI w), (2, vI y), (3, vI i), (4, vI u), (5, vI j), (6, vI k), (7, vI F), (8, vI (nI c)), (9, vI l), (10, vI v)] [] M := by
        intro a b hia ha hjb hb hq hT M hM hA3 d
        have ho := hs_ok hH hq
        have q70 : M 70 = μ 70 := hM.1 70 (by decide) (by decide) (by decide)
        have a1 : (40 : Int32) * y + i = nI (40 * n + a) := by rw [hy, hia, ix40]
        have a2 : (40 : Int32) * u + j = nI (40 * n2 + b) := by rw [hu, hjb, ix40]
        have efit : ∀ D, Fit α (hsI (itM μ) n a) (fun q => M 70 (40 * n2 + b + q)) m D = Fit α (hsI (itM μ) n a) (fun q => itM μ n2 (b + q)) m D := fun D => by rw [q70]; congr 1; funext q; rw [Nat.add_assoc]
        generalize hP : Fit α (hsI (itM μ) n a) (fun q => itM μ n2 (b + q)) m = P at *
        induction d with
        | zero =>
          intro c l F hd hc hl v hv1
          subst hv1
          have hc : c = cntT P (2 ^ α 0 0) := hc
          have mk : ∀ r, ((w = 0 ∧ r = nI (cntT P (2 ^ α 0 0))) ∨ (w = 1 ∧ IsL P (2 ^ α 0 0) r)) → ∃ o, BegR α (μ 68) (μ 69) (itM μ) w y i u j k r o ∧ FrM μ o M := fun r hr => ⟨some 0, Or.inr (Or.inr ⟨h0, hi, n, n2, m, 0, hy, hn, hu, hn2, hkm, m1, m2, hT, rfl, Or.inr ⟨rfl, a, b, hia, ha, hjb, hb, by rw [hP]; exact hr⟩⟩), hM⟩
          refine V_iload (pc := 115) hG (dk dd_X10_began 59 rfl) rfl ?_
          refine V_if_lt (pc := 117) hG (dk dd_X10_began 60 rfl) (tgt := 179) (by decide) (fun h117 => ?_) (fun h117 => ?_)
          refine V_iload_n (pc := 179) hG (dk dd_X10_began 92 rfl) rfl ?_
          refine V_if_ne (pc := 180) hG (dk dd_X10_began 93 rfl) (tgt := 188) (by decide) (fun h180 => ?_) (fun h180 => ?_)
          refine V_iload (pc := 188) hG (dk dd_X10_began 96 rfl) rfl ?_
          refine V_iretP (pc := 190) hG (dk dd_X10_began 97 rfl) hR (Pi.mk ?_)
          rotate_left
          refine V_iload (pc := 183) hG (dk dd_X10_began 94 rfl) rfl ?_
          refine V_goto (pc := 185) hG (dk dd_X10_began 95 rfl) (tgt := 190) (by decide) ?_
          refine V_iretP (pc := 190) hG (dk dd_X10_began 97 rfl) hR (Pi.mk ?_)
          rotate_left
          rotate_left
          -- leaves: return@190; return@190; stop 120
          · refine mk _ (Or.inr ⟨i2.resolve_left h180, ?_⟩)
            rcases hl with ⟨D, _, l2, l3, l4, l5⟩ | ⟨l1, l2⟩
            · exact Or.inl ⟨D, l2, l3, l4, fun E hE => l5 E (Nat.zero_le E) hE⟩
            · exact Or.inr ⟨fun D hD => l1 D (Nat.zero_le D) hD, l2⟩
          · exact mk _ (Or.inl ⟨h180, by rw [hc]⟩)
          · exfalso; exact h117 (by decide)
        | succ d ih =>
          intro c l F hd hc hl v hv1
          subst hv1
          rw [nI_pred]
          rw [cntT_s] at hc
          have cl := cntT_le P (2 ^ α 0 0)
          have no : ¬ P d → IsLd P (2 ^ α 0 0) d l := fun np => by
            rcases hl with ⟨D, l1, l2, l3, l4, l5⟩ | ⟨l1, l2⟩
            · exact Or.inl ⟨D, by omega, l2, l3, l4, fun E e1 e2 => if z : E = d then z ▸ np else l5 E (by omega) e2⟩
            · exact Or.inr ⟨fun D d1 d2 => if z : D = d then z ▸ np else l1 D (by omega) d2, l2⟩
          have ye : P d → IsLd P (2 ^ α 0 0) d (nI d) := fun p => Or.inl ⟨d, Nat.le_refl d, by omega, p, rfl, fun E e1 e2 => by omega⟩
          refine V_iload (pc := 115) hG (dk dd_X10_began 59 rfl) rfl ?_
          refine V_if_lt (pc := 117) hG (dk dd_X10_began 60 rfl) (tgt := 179) (by decide) (fun h117 => ?_) (fun h117 => ?_)
          rotate_left
          refine V_aload_n (pc := 120) hG (dk dd_X10_began 61 rfl) rfl ?_
          refine V_iload (pc := 121) hG (dk dd_X10_began 62 rfl) rfl ?_
          refine V_bipush (pc := 123) hG (dk dd_X10_began 63 rfl) (v := 40) (by decide) ?_
          refine V_iload_n (pc := 125) hG (dk dd_X10_began 64 rfl) rfl ?_
          refine V_imul (pc := 126) hG (dk dd_X10_began 65 rfl) ?_
          refine V_iload_n (pc := 127) hG (dk dd_X10_began 66 rfl) rfl ?_
          refine V_iadd (pc := 128) hG (dk dd_X10_began 67 rfl) ?_
          refine V_bipush (pc := 129) hG (dk dd_X10_began 68 rfl) (v := 40) (by decide) ?_
          refine V_iload (pc := 131) hG (dk dd_X10_began 69 rfl) rfl ?_
          refine V_imul (pc := 133) hG (dk dd_X10_began 70 rfl) ?_
          refine V_iload (pc := 134) hG (dk dd_X10_began 71 rfl) rfl ?_
          refine V_iadd (pc := 136) hG (dk dd_X10_began 72 rfl) ?_
          refine V_iload (pc := 137) hG (dk dd_X10_began 73 rfl) rfl ?_
          refine V_callVip (pc := 139) hG (dk dd_X10_began 74 rfl) ml_X10_269 mo_X10_isSo sh_67 rfl (m_isSo (μ := M) hA3 hv (hs := hsI (itM μ) n a) (n := m) (D := d) (A := 40 * n + a) (B := 40 * n2 + b) m2 (by omega) (by omega) (fun q hq => by rw [q70, Nat.add_assoc]; exact (ho q hq).1) (fun q hq => (ho q hq).2) (by omega) rfl a1 a2 hkm) (by decide) (by decide) rfl rfl rfl (fun x139 m139 p139 => ?_)
          refine V_istore (pc := 142) hG (dk dd_X10_began 75 rfl) (by decide) (lv' := [(0, _), (1, _), (2, _), (3, _), (4, _), (5, _), (6, _), (7, _), (8, _), (9, _), (10, _), (11, _)]) rfl ?_
          refine V_iload (pc := 144) hG (dk dd_X10_began 76 rfl) rfl ?_
          refine V_iload (pc := 146) hG (dk dd_X10_began 77 rfl) rfl ?_
          refine V_if_eq (pc := 148) hG (dk dd_X10_began 78 rfl) (tgt := 155) (by decide) (fun h148 => ?_) (fun h148 => ?_)
          refine V_iconst (pc := 155) hG (dk dd_X10_began 81 rfl) (v := 0) (by decide) ?_
          refine V_iadd (pc := 156) hG (dk dd_X10_began 82 rfl) ?_
          refine V_istore (pc := 157) hG (dk dd_X10_began 83 rfl) (by decide) (lv' := [(0, _), (1, _), (2, _), (3, _), (4, _), (5, _), (6, _), (7, _), (8, _), (9, _), (10, _), (11, _)]) rfl ?_
          refine V_iload (pc := 159) hG (dk dd_X10_began 84 rfl) rfl ?_
          refine V_if_eq (pc := 161) hG (dk dd_X10_began 85 rfl) (tgt := 169) (by decide) (fun h161 => ?_) (fun h161 => ?_)
          refine V_iload (pc := 169) hG (dk dd_X10_began 88 rfl) rfl ?_
          refine V_istore (pc := 171) hG (dk dd_X10_began 89 rfl) (by decide) (lv' := [(0, _), (1, _), (2, _), (3, _), (4, _), (5, _), (6, _), (7, _), (8, _), (9, _), (10, _), (11, _)]) rfl ?_
          refine V_iinc (pc := 173) hG (dk dd_X10_began 90 rfl) rfl (v := _ + (-1)) rfl (by decide) (lv' := [(0, _), (1, _), (2, _), (3, _), (4, _), (5, _), (6, _), (7, _), (8, _), (9, _), (10, _), (11, _)]) rfl ?_
          refine V_goto (pc := 176) hG (dk dd_X10_began 91 rfl) (tgt := 115) (by decide) ?_
          refine V_keep [0, 1, 2, 3, 4, 5, 6, 7, 8, 9, 10] (lv' := [(0, _), (1, _), (2, _), (3, _), (4, _), (5, _), (6, _), (7, _), (8, _), (9, _), (10, _)]) rfl ?_
          rotate_left
          refine V_iload (pc := 164) hG (dk dd_X10_began 86 rfl) rfl ?_
          refine V_goto (pc := 166) hG (dk dd_X10_began 87 rfl) (tgt := 171) (by decide) ?_
          refine V_istore (pc := 171) hG (dk dd_X10_began 89 rfl) (by decide) (lv' := [(0, _), (1, _), (2, _), (3, _), (4, _), (5, _), (6, _), (7, _), (8, _), (9, _), (10, _), (11, _)]) rfl ?_
          refine V_iinc (pc := 173) hG (dk dd_X10_began 90 rfl) rfl (v := _ + (-1)) rfl (by decide) (lv' := [(0, _), (1, _), (2, _), (3, _), (4, _), (5, _), (6, _), (7, _), (8, _), (9, _), (10, _), (11, _)]) rfl ?_
          refine V_goto (pc := 176) hG (dk dd_X10_began 91 rfl) (tgt := 115) (by decide) ?_
          refine V_keep [0, 1, 2, 3, 4, 5, 6, 7, 8, 9, 10] (lv' := [(0, _), (1, _), (2, _), (3, _), (4, _), (5, _), (6, _), (7, _), (8, _), (9, _), (10, _)]) rfl ?_
          rotate_left
          refine V_iconst (pc := 151) hG (dk dd_X10_began 79 rfl) (v := 1) (by decide) ?_
          refine V_goto (pc := 152) hG (dk dd_X10_began 80 rfl) (tgt := 156) (by decide) ?_
          refine V_iadd (pc := 156) hG (dk dd_X10_began 82 rfl) ?_
          refine V_istore (pc := 157) hG (dk dd_X10_began 83 rfl) (by decide) (lv' := [(0, _), (1, _), (2, _), (3, _), (4, _), (5, _), (6, _), (7, _), (8, _), (9, _), (10, _), (11, _)]) rfl ?_
          refine V_iload (pc := 159) hG (dk dd_X10_began 84 rfl) rfl ?_
          refine V_if_eq (pc := 161) hG (dk dd_X10_began 85 rfl) (tgt := 169) (by decide) (fun h161 => ?_) (fun h161 => ?_)
          refine V_iload (pc := 169) hG (dk dd_X10_began 88 rfl) rfl ?_
          refine V_istore (pc := 171) hG (dk dd_X10_began 89 rfl) (by decide) (lv' := [(0, _), (1, _), (2, _), (3, _), (4, _), (5, _), (6, _), (7, _), (8, _), (9, _), (10, _), (11, _)]) rfl ?_
          refine V_iinc (pc := 173) hG (dk dd_X10_began 90 rfl) rfl (v := _ + (-1)) rfl (by decide) (lv' := [(0, _), (1, _), (2, _), (3, _), (4, _), (5, _), (6, _), (7, _), (8, _), (9, _), (10, _), (11, _)]) rfl ?_
          refine V_goto (pc := 176) hG (dk dd_X10_began 91 rfl) (tgt := 115) (by decide) ?_
          refine V_keep [0, 1, 2, 3, 4, 5, 6, 7, 8, 9, 10] (lv' := [(0, _), (1, _), (2, _), (3, _), (4, _), (5, _), (6, _), (7, _), (8, _), (9, _), (10, _)]) rfl ?_
          rotate_left
          refine V_iload (pc := 164) hG (dk dd_X10_began 86 rfl) rfl ?_
          refine V_goto (pc := 166) hG (dk dd_X10_began 87 rfl) (tgt := 171) (by decide) ?_
          refine V_istore (pc := 171) hG (dk dd_X10_began 89 rfl) (by decide) (lv' := [(0, _), (1, _), (2, _), (3, _), (4, _), (5, _), (6, _), (7, _), (8, _), (9, _), (10, _), (11, _)]) rfl ?_
          refine V_iinc (pc := 173) hG (dk dd_X10_began 90 rfl) rfl (v := _ + (-1)) rfl (by decide) (lv' := [(0, _), (1, _), (2, _), (3, _), (4, _), (5, _), (6, _), (7, _), (8, _), (9, _), (10, _), (11, _)]) rfl ?_
          refine V_goto (pc := 176) hG (dk dd_X10_began 91 rfl) (tgt := 115) (by decide) ?_
          refine V_keep [0, 1, 2, 3, 4, 5, 6, 7, 8, 9, 10] (lv' := [(0, _), (1, _), (2, _), (3, _), (4, _), (5, _), (6, _), (7, _), (8, _), (9, _), (10, _)]) rfl ?_
          rotate_left
          -- leaves: stop 179; stop 115; stop 115; stop 115; stop 115
          · exfalso; exact nI_pos (by omega) h117
          · obtain ⟨e1, z⟩ := p139
            rw [efit] at z
            have np := z.no h148
            rw [e1, Int32.add_zero]
            exact ih c l F (by omega) (by rw [p1_f np, Nat.add_zero] at hc; exact hc) (no np) _ (m1e _)
          · exact absurd h148 h161
          · exact absurd h161 h148
          · obtain ⟨e1, z⟩ := p139
            rw [efit] at z
            have np := z.yes h148
            rw [e1, nI_1]
            exact ih (c + 1) (nI d) F (by omega) (by rw [p1_t np] at hc; omega) (ye np) _ (m1e _)
      have res : ∀ (f F : Int32), TbS (μ 68) (μ 69) (itM μ) (α 0 6) n n2 m i j k f → (fnd f = 0 ↔ f = 0) → V C 86 [(0, vR 67), (1, vI w), (2, vI y), (3, vI i), (4, vI u), (5, vI j), (6, vI k), (7, vI F)] [vI (fnd f)] (stM (th0 μ) f) := by
        intro f F hT hz0
        refine V_istore (pc := 86) hG (dk dd_X10_began 43 rfl) (by decide) (lv' := [(0, _), (1, _), (2, _), (3, _), (4, _), (5, _), (6, _), (7, _)]) rfl ?_
        refine V_iload (pc := 88) hG (dk dd_X10_began 44 rfl) rfl ?_
        refine V_if_eq (pc := 90) hG (dk dd_X10_began 45 rfl) (tgt := 96) (by decide) (fun h90 => ?_) (fun h90 => ?_)
        rotate_left
        refine V_iload (pc := 93) hG (dk dd_X10_began 46 rfl) rfl ?_
        refine V_iretP (pc := 95) hG (dk dd_X10_began 47 rfl) hR (Pi.mk ?_)
        rotate_left
        -- leaves: stop 96; return@95
        · have f0 := hz0.mp h90
          subst f0
          obtain ⟨f1, t1, t2⟩ := id hT
          have t3 : f1 = 0 ∧ (0 : Int32) = lookS (μ 68) (μ 69) n2 j k := t2.elim (fun q => absurd q.2.symm q.1) id
          rw [t3.1] at t1
          obtain ⟨a, a1, a2, a3⟩ := t1.ok
          obtain ⟨b, b1, b2⟩ := lookS_0 (hk n2 hn2).2 hkm (by omega) t3.2.symm
          refine V_aload_n (pc := 96) hG (dk dd_X10_began 48 rfl) rfl ?_
          refine V_callVvp (pc := 97) hG (dk dd_X10_began 49 rfl) ml_X10_251 mo_X10_layThen sh_67 rfl (m_layThen) (by decide) (by decide) rfl rfl rfl (fun m97 p97 => ?_)
          refine V_iconst (pc := 100) hG (dk dd_X10_began 50 rfl) (v := 0) (by decide) ?_
          refine V_istore (pc := 101) hG (dk dd_X10_began 51 rfl) (by decide) (lv' := [(0, _), (1, _), (2, _), (3, _), (4, _), (5, _), (6, _), (7, _), (8, _)]) rfl ?_
          refine V_ldc (pc := 103) hG (dk dd_X10_began 52 rfl) kk_X10_105 ?_
          refine V_istore (pc := 105) hG (dk dd_X10_began 53 rfl) (by decide) (lv' := [(0, _), (1, _), (2, _), (3, _), (4, _), (5, _), (6, _), (7, _), (8, _), (9, _)]) rfl ?_
          refine V_aload_n (pc := 107) hG (dk dd_X10_began 54 rfl) rfl ?_
          refine V_callVip (pc := 108) hG (dk dd_X10_began 55 rfl) ml_X10_173 mo_X10_allDreams sh_67 rfl (m_allDreams (t := α 0 0) (by rw [p97.2 71 (by decide)]; exact e0) (by omega)) (by decide) (by decide) rfl rfl rfl (fun x108 m108 p108 => ?_)
          refine V_iconst (pc := 111) hG (dk dd_X10_began 56 rfl) (v := 1) (by decide) ?_
          refine V_isub (pc := 112) hG (dk dd_X10_began 57 rfl) ?_
          refine V_istore (pc := 113) hG (dk dd_X10_began 58 rfl) (by decide) (lv' := [(0, _), (1, _), (2, _), (3, _), (4, _), (5, _), (6, _), (7, _), (8, _), (9, _), (10, _)]) rfl ?_
          rotate_left
          -- leaves: stop 115
          · obtain ⟨l1, l2⟩ := p97
            obtain ⟨g1, g2⟩ := p108
            rw [g1, g2]
            refine loop a b a1 a2 b1 b2 a3 hT m97 ((FrM.st μ 0).tr (fun j a b c => l2 j b) (fun q a b c => by rw [l2 67 (by decide)])) (kap_cg hA hH hz.C (fun q hq => by rw [l1 q hq]; rfl)) (2 ^ α 0 0) 0 (-1000000) (fnd 0) (Nat.le_refl _) (Nat.zero_add _) (Or.inr ⟨fun D d1 d2 => by omega, rfl⟩) _ rfl
        · have f0 : f ≠ 0 := fun z => h90 (hz0.mpr z)
          exact ⟨some f, Or.inr (Or.inr ⟨h0, hi, n, n2, m, f, hy, hn, hu, hn2, hkm, m1, m2, hT, rfl, Or.inl ⟨f0, rfl⟩⟩), FrM.st μ f⟩
      refine V_aload_n (pc := 0) hG (dk dd_X10_began 0 rfl) rfl ?_
      refine V_iconst (pc := 1) hG (dk dd_X10_began 1 rfl) (v := 0) (by decide) ?_
      refine V_putI (pc := 2) hG (dk dd_X10_began 2 rfl) fl_X10_62 sh_67 rfl rfl ?_
      refine V_aload_n (pc := 5) hG (dk dd_X10_began 3 rfl) rfl ?_
      refine V_callVip (pc := 6) hG (dk dd_X10_began 4 rfl) ml_X10_219 mo_X10_isThere sh_67 rfl (m_isThere) (by decide) (by decide) rfl rfl rfl (fun x6 m6 p6 => ?_)
      refine V_if_ne (pc := 9) hG (dk dd_X10_began 5 rfl) (tgt := 15) (by decide) (fun h9 => ?_) (fun h9 => ?_)
      refine V_iload_n (pc := 15) hG (dk dd_X10_began 8 rfl) rfl ?_
      refine V_i2l (pc := 16) hG (dk dd_X10_began 9 rfl) ?_
      refine V_lconst (pc := 17) hG (dk dd_X10_began 10 rfl) (v := 0) (by decide) ?_
      refine V_lconst (pc := 18) hG (dk dd_X10_began 11 rfl) (v := 1) (by decide) ?_
      refine V_callSip (pc := 19) hG (dk dd_X10_began 12 rfl) ml_X10_72 mo_X10_in (m_inI (v := w) (lo := 0) (hi := 1) rfl rfl (by decide)) (by decide) (by decide) rfl rfl rfl (fun x19 m19 p19 => ?_)
      refine V_if_eq (pc := 22) hG (dk dd_X10_began 13 rfl) (tgt := 53) (by decide) (fun h22 => ?_) (fun h22 => ?_)
      rotate_left
      refine V_iload_n (pc := 25) hG (dk dd_X10_began 14 rfl) rfl ?_
      refine V_callSip (pc := 26) hG (dk dd_X10_began 15 rfl) ml_X10_76 mo_X10_isRow (m_isRow) (by decide) (by decide) rfl rfl rfl (fun x26 m26 p26 => ?_)
      refine V_if_eq (pc := 29) hG (dk dd_X10_began 16 rfl) (tgt := 53) (by decide) (fun h29 => ?_) (fun h29 => ?_)
      rotate_left
      refine V_iload (pc := 32) hG (dk dd_X10_began 17 rfl) rfl ?_
      refine V_callSip (pc := 34) hG (dk dd_X10_began 18 rfl) ml_X10_76 mo_X10_isRow (m_isRow) (by decide) (by decide) rfl rfl rfl (fun x34 m34 p34 => ?_)
      refine V_if_eq (pc := 37) hG (dk dd_X10_began 19 rfl) (tgt := 53) (by decide) (fun h37 => ?_) (fun h37 => ?_)
      rotate_left
      refine V_iload (pc := 40) hG (dk dd_X10_began 20 rfl) rfl ?_
      refine V_i2l (pc := 42) hG (dk dd_X10_began 21 rfl) ?_
      refine V_lconst (pc := 43) hG (dk dd_X10_began 22 rfl) (v := 1) (by decide) ?_
      refine V_ldc2_w (pc := 44) hG (dk dd_X10_began 23 rfl) kk_X10_229 ?_
      refine V_callSip (pc := 47) hG (dk dd_X10_began 24 rfl) ml_X10_72 mo_X10_in (m_inI (v := k) (lo := 1) (hi := 12) rfl (by decide) (by decide)) (by decide) (by decide) rfl rfl rfl (fun x47 m47 p47 => ?_)
      refine V_if_ne (pc := 50) hG (dk dd_X10_began 25 rfl) (tgt := 56) (by decide) (fun h50 => ?_) (fun h50 => ?_)
      refine V_aload_n (pc := 56) hG (dk dd_X10_began 28 rfl) rfl ?_
      refine V_iload_n (pc := 57) hG (dk dd_X10_began 29 rfl) rfl ?_
      refine V_iload_n (pc := 58) hG (dk dd_X10_began 30 rfl) rfl ?_
      refine V_iload (pc := 59) hG (dk dd_X10_began 31 rfl) rfl ?_
      refine V_callVip (pc := 61) hG (dk dd_X10_began 32 rfl) ml_X10_231 mo_X10_humsFound sh_67 rfl (m_humsFound (μ := m47) (by rw [p47.1, p34.1, p26.1, p19.1, p6.1]; exact hk) hy hn hkm m2 (H := α 0 6) (by rw [p47.1, p34.1, p26.1, p19.1, p6.1]; exact e3) hH) (by decide) (by decide) rfl rfl rfl (fun x61 m61 p61 => ?_)
      refine V_istore (pc := 64) hG (dk dd_X10_began 33 rfl) (by decide) (lv' := [(0, _), (1, _), (2, _), (3, _), (4, _), (5, _), (6, _), (7, _)]) rfl ?_
      refine V_iload (pc := 66) hG (dk dd_X10_began 34 rfl) rfl ?_
      refine V_if_ne (pc := 68) hG (dk dd_X10_began 35 rfl) (tgt := 84) (by decide) (fun h68 => ?_) (fun h68 => ?_)
      refine V_iload (pc := 84) hG (dk dd_X10_began 42 rfl) rfl ?_
      rotate_left
      refine V_aload_n (pc := 71) hG (dk dd_X10_began 36 rfl) rfl ?_
      refine V_iload (pc := 72) hG (dk dd_X10_began 37 rfl) rfl ?_
      refine V_iload (pc := 74) hG (dk dd_X10_began 38 rfl) rfl ?_
      refine V_iload (pc := 76) hG (dk dd_X10_began 39 rfl) rfl ?_
      refine V_callVip (pc := 78) hG (dk dd_X10_began 40 rfl) ml_X10_225 mo_X10_rowFound sh_67 rfl (m_rowFound (μ := m61) ?_ hu hn2 hk0) (by decide) (by decide) rfl rfl rfl (fun x78 m78 p78 => ?_)
      rotate_left
      refine V_goto (pc := 81) hG (dk dd_X10_began 41 rfl) (tgt := 86) (by decide) ?_
      rotate_left
      rotate_left
      rotate_left
      -- leaves: stop 53; stop 53; stop 53; stop 86; call rowFound@78 0; stop 86; stop 53; stop 12
      all_goals (first | exact absurd ((hz.there e0).mpr hv) (p6.2.no h9) | exact absurd (i2c.mpr i2) (p19.2.no h22) | exact absurd i3 (p26.2.no h29) | exact absurd i4 (p34.2.no h37) | exact absurd i5 (p47.2.no h50) | skip)
      all_goals (rw [p47.1, p34.1, p26.1, p19.1, p6.1] at p61; obtain ⟨f, hf, rf, em⟩ := p61)
      · have f0 : f ≠ 0 := fun z => h68 (by rw [rf, z]; rfl)
        rw [rf, em]
        exact res f _ ⟨f, hf, Or.inl ⟨f0, rfl⟩⟩ hf.z
      · rw [em]; exact hk
      · have f0 : f = 0 := hf.z.mp (rf ▸ h68)
        obtain ⟨z1, z2⟩ := p78
        rw [em] at z1 z2
        rw [z1, z2, f0]
        have es : ∀ a b, stM (stM (th0 μ) a) b = stM (th0 μ) b := fun a b => by unfold stM; rw [setc_c, setc_s, upd_upd]
        have e2 : stM (stM (setc μ 67 (upd (μ 67) 0 0)) 0) (lookS (stM (setc μ 67 (upd (μ 67) 0 0)) 0 68) (stM (setc μ 67 (upd (μ 67) 0 0)) 0 69) n2 j k) = stM (th0 μ) (lookS (μ 68) (μ 69) n2 j k) := es 0 _
        rw [e2]
        exact res (lookS (μ 68) (μ 69) n2 j k) _ ⟨0, f0 ▸ hf, Or.inr ⟨rfl, rfl⟩⟩ fnd_0
    · have bad : ∀ M, M = th0 μ → ∃ o, BegR α (μ 68) (μ 69) (itM μ) w y i u j k (-1000001) o ∧ FrM μ o M := fun M e => ⟨none, Or.inr (Or.inl ⟨h0, hi, rfl, rfl⟩), by rw [e]; exact FrM.th μ⟩
      refine V_aload_n (pc := 0) hG (dk dd_X10_began 0 rfl) rfl ?_
      refine V_iconst (pc := 1) hG (dk dd_X10_began 1 rfl) (v := 0) (by decide) ?_
      refine V_putI (pc := 2) hG (dk dd_X10_began 2 rfl) fl_X10_62 sh_67 rfl rfl ?_
      refine V_aload_n (pc := 5) hG (dk dd_X10_began 3 rfl) rfl ?_
      refine V_callVip (pc := 6) hG (dk dd_X10_began 4 rfl) ml_X10_219 mo_X10_isThere sh_67 rfl (m_isThere) (by decide) (by decide) rfl rfl rfl (fun x6 m6 p6 => ?_)
      refine V_if_ne (pc := 9) hG (dk dd_X10_began 5 rfl) (tgt := 15) (by decide) (fun h9 => ?_) (fun h9 => ?_)
      refine V_iload_n (pc := 15) hG (dk dd_X10_began 8 rfl) rfl ?_
      refine V_i2l (pc := 16) hG (dk dd_X10_began 9 rfl) ?_
      refine V_lconst (pc := 17) hG (dk dd_X10_began 10 rfl) (v := 0) (by decide) ?_
      refine V_lconst (pc := 18) hG (dk dd_X10_began 11 rfl) (v := 1) (by decide) ?_
      refine V_callSip (pc := 19) hG (dk dd_X10_began 12 rfl) ml_X10_72 mo_X10_in (m_inI (v := w) (lo := 0) (hi := 1) rfl rfl (by decide)) (by decide) (by decide) rfl rfl rfl (fun x19 m19 p19 => ?_)
      refine V_if_eq (pc := 22) hG (dk dd_X10_began 13 rfl) (tgt := 53) (by decide) (fun h22 => ?_) (fun h22 => ?_)
      refine V_ldc (pc := 53) hG (dk dd_X10_began 26 rfl) kk_X10_82 ?_
      refine V_iretP (pc := 55) hG (dk dd_X10_began 27 rfl) hR (Pi.mk ?_)
      rotate_left
      refine V_iload_n (pc := 25) hG (dk dd_X10_began 14 rfl) rfl ?_
      refine V_callSip (pc := 26) hG (dk dd_X10_began 15 rfl) ml_X10_76 mo_X10_isRow (m_isRow) (by decide) (by decide) rfl rfl rfl (fun x26 m26 p26 => ?_)
      refine V_if_eq (pc := 29) hG (dk dd_X10_began 16 rfl) (tgt := 53) (by decide) (fun h29 => ?_) (fun h29 => ?_)
      refine V_ldc (pc := 53) hG (dk dd_X10_began 26 rfl) kk_X10_82 ?_
      refine V_iretP (pc := 55) hG (dk dd_X10_began 27 rfl) hR (Pi.mk ?_)
      rotate_left
      refine V_iload (pc := 32) hG (dk dd_X10_began 17 rfl) rfl ?_
      refine V_callSip (pc := 34) hG (dk dd_X10_began 18 rfl) ml_X10_76 mo_X10_isRow (m_isRow) (by decide) (by decide) rfl rfl rfl (fun x34 m34 p34 => ?_)
      refine V_if_eq (pc := 37) hG (dk dd_X10_began 19 rfl) (tgt := 53) (by decide) (fun h37 => ?_) (fun h37 => ?_)
      refine V_ldc (pc := 53) hG (dk dd_X10_began 26 rfl) kk_X10_82 ?_
      refine V_iretP (pc := 55) hG (dk dd_X10_began 27 rfl) hR (Pi.mk ?_)
      rotate_left
      refine V_iload (pc := 40) hG (dk dd_X10_began 20 rfl) rfl ?_
      refine V_i2l (pc := 42) hG (dk dd_X10_began 21 rfl) ?_
      refine V_lconst (pc := 43) hG (dk dd_X10_began 22 rfl) (v := 1) (by decide) ?_
      refine V_ldc2_w (pc := 44) hG (dk dd_X10_began 23 rfl) kk_X10_229 ?_
      refine V_callSip (pc := 47) hG (dk dd_X10_began 24 rfl) ml_X10_72 mo_X10_in (m_inI (v := k) (lo := 1) (hi := 12) rfl (by decide) (by decide)) (by decide) (by decide) rfl rfl rfl (fun x47 m47 p47 => ?_)
      refine V_if_ne (pc := 50) hG (dk dd_X10_began 25 rfl) (tgt := 56) (by decide) (fun h50 => ?_) (fun h50 => ?_)
      rotate_left
      refine V_ldc (pc := 53) hG (dk dd_X10_began 26 rfl) kk_X10_82 ?_
      refine V_iretP (pc := 55) hG (dk dd_X10_began 27 rfl) hR (Pi.mk ?_)
      rotate_left
      rotate_left
      -- leaves: return@55; return@55; return@55; stop 56; return@55; stop 12
      · exact bad _ (p19.1.trans p6.1)
      · exact bad _ (p26.1.trans (p19.1.trans p6.1))
      · exact bad _ (p34.1.trans (p26.1.trans (p19.1.trans p6.1)))
      · exact absurd ⟨i2c.mp (p19.2.yes h22), p26.2.yes h29, p34.2.yes h37, p47.2.yes h50⟩ hi
      · exact bad _ (p47.1.trans (p34.1.trans (p26.1.trans (p19.1.trans p6.1))))
      · exact absurd ((hz.there e0).mpr hv) (p6.2.no h9)
  · skip
    refine V_aload_n (pc := 0) hG (dk dd_X10_began 0 rfl) rfl ?_
    refine V_iconst (pc := 1) hG (dk dd_X10_began 1 rfl) (v := 0) (by decide) ?_
    refine V_putI (pc := 2) hG (dk dd_X10_began 2 rfl) fl_X10_62 sh_67 rfl rfl ?_
    refine V_aload_n (pc := 5) hG (dk dd_X10_began 3 rfl) rfl ?_
    refine V_callVip (pc := 6) hG (dk dd_X10_began 4 rfl) ml_X10_219 mo_X10_isThere sh_67 rfl (m_isThere) (by decide) (by decide) rfl rfl rfl (fun x6 m6 p6 => ?_)
    refine V_if_ne (pc := 9) hG (dk dd_X10_began 5 rfl) (tgt := 15) (by decide) (fun h9 => ?_) (fun h9 => ?_)
    rotate_left
    refine V_ldc (pc := 12) hG (dk dd_X10_began 6 rfl) kk_X10_210 ?_
    refine V_iretP (pc := 14) hG (dk dd_X10_began 7 rfl) hR (Pi.mk ?_)
    rotate_left
    -- leaves: stop 15; return@14
    · exact absurd ((hz.there e0).mp (p6.2.yes h9)) hv
    · exact ⟨none, Or.inl ⟨fun q => hv (hz.vt q), rfl, rfl⟩, by rw [p6.1]; exact FrM.th μ⟩
def SnoR (α : Al) (ln mn : Nat → Int32) (I : Nat → Nat → Int32) (x y i k : Int32) (r : Int32) (o : Option Int32) : Prop :=
  (¬ 0 < α 0 0 ∧ r = -1000002 ∧ o = none) ∨ (0 < α 0 0 ∧ ¬ (inN x (2 ^ α 0 0) ∧ isR y ∧ 1 ≤ k ∧ k ≤ 12) ∧ r = -1000001 ∧ o = none) ∨
  (0 < α 0 0 ∧ (inN x (2 ^ α 0 0) ∧ isR y ∧ 1 ≤ k ∧ k ≤ 12) ∧ ∃ n m f, y = nI n ∧ n < 8 ∧ k = nI m ∧ 1 ≤ m ∧ m ≤ 12 ∧ HfS ln mn I (α 0 6) n m i k f ∧ o = some f ∧ ((f ≠ 0 ∧ r = fnd f) ∨ (f = 0 ∧ ∃ a, i = nI a ∧ a + m ≤ 40 ∧ r = nI (snoN α (hsI I n a) (α 0 3) x.toNatClampNeg m m))))
set_option maxHeartbeats 2000000 in
theorem m_snored {μ : Mem} {α : Al} (hA : Abs (kap (μ 71)) α) (hz : Vz α) (hk : Rok (μ 68) (μ 69)) {x y i k : Int32} : CtP yX10_snored cX10_snored 10 (some .int) 3 [vR 67, vI x, vI y, vI i, vI k] μ (Pi (fun r μ' => ∃ o, SnoR α (μ 68) (μ 69) (itM μ) x y i k r o ∧ FrM μ o μ')) := by
  refine CtP.go RX10 rfl pn_X10 (Nat.le_of_ble_eq_true rfl) (fun C hG hR => ?_)
  have hH := hz.H
  have r6 : vp_in (6 : Int32) 46 := rr (n := 6) (by decide)
  have e0 : μ 71 0 = nI (α 0 0) := e_sc hA (i := 0) (by decide)
  have e3 : th0 μ 71 3 = nI (α 0 6) := e_sc hA (i := 6) (by decide)
  by_cases hv : Val α
  · have h0 : 0 < α 0 0 := by have := hv.t3; omega
    have ht := hv.t
    have hp := pow8 ht
    by_cases hi : inN x (2 ^ α 0 0) ∧ isR y ∧ 1 ≤ k ∧ k ≤ 12
    · obtain ⟨i2, i3, i5⟩ := id hi
      obtain ⟨hx, hxl⟩ := i2.n (by omega)
      obtain ⟨n, hy, hn⟩ := i3.n
      obtain ⟨m, hkm, m1, m2⟩ := k12 i5
      have hM : FrM μ (some 0) (stM (th0 μ) 0) := FrM.st μ 0
      generalize hMM : stM (th0 μ) 0 = M at hM
      have q70 : M 70 = μ 70 := hM.1 70 (by decide) (by decide) (by decide)
      have q71 : M 71 = μ 71 := hM.1 71 (by decide) (by decide) (by decide)
      have hA2 : Abs (kap (M 71)) α := by rw [q71]; exact hA
      have e6 : M 71 (Int32.toNatClampNeg 6) = nI (α 0 3) := by rw [q71]; exact e_sc hA (i := 3) (by decide)
      have loop : ∀ a, i = nI a → a + m ≤ 40 → (∀ q, q < m → inN (itM μ n (a + q)) (α 0 6)) → HfS (μ 68) (μ 69) (itM μ) (α 0 6) n m i k 0 → ∀ d t s lv, t + d = m + 1 → s < 8192 → (t ≤ m → s = orT (fun q => b1 (runS α (hsI (itM μ) n a) q (α 0 3) m = x.toNatClampNeg) q) t) → (t = m + 1 → s = snoN α (hsI (itM μ) n a) (α 0 3) x.toNatClampNeg m m) → ∀ F, lv = [(0, vR 67), (1, vI x), (2, vI y), (3, vI i), (4, vI k), (5, vI F), (6, vI (nI s)), (7, vI (nI t))] → V C 70 lv [] M := by
        intro a hia ha hq hT d
        have ho := hs_ok hH hq
        induction d with
        | zero =>
          intro t s lv htd hs h1 h2 F hl
          subst hl
          refine V_iload (pc := 70) hG (dk dd_X10_snored 37 rfl) rfl ?_
          refine V_iload (pc := 72) hG (dk dd_X10_snored 38 rfl) rfl ?_
          refine V_icmp_gt (pc := 74) hG (dk dd_X10_snored 39 rfl) (tgt := 177) (by decide) (fun h74 => ?_) (fun h74 => ?_)
          refine V_iload (pc := 177) hG (dk dd_X10_snored 90 rfl) rfl ?_
          refine V_iretP (pc := 179) hG (dk dd_X10_snored 91 rfl) hR (Pi.mk ?_)
          rotate_left
          rotate_left
          -- leaves: return@179; stop 77
          · exact ⟨some 0, Or.inr (Or.inr ⟨h0, hi, n, m, 0, hy, hn, hkm, m1, m2, hT, rfl, Or.inr ⟨rfl, a, hia, ha, by rw [h2 (by omega)]⟩⟩), hM⟩
          · exfalso; rw [hkm] at h74; have h74 := Int32.not_lt.mp h74; have := le_i h74 (by omega) (by omega); omega
        | succ d ih =>
          intro t s lv htd hs h1 h2 F hl
          subst hl
          have tm : t ≤ m := by omega
          have h1 := h1 tm
          -- the dream behind all but one
          have inner : ∀ d2 q, q + d2 = m → V C 89 [(0, vR 67), (1, vI x), (2, vI y), (3, vI i), (4, vI k), (5, vI F), (6, vI (nI s)), (7, vI (nI t)), (8, vI (nI (runS α (hsI (itM μ) n a) t (α 0 3) q))), (9, vI (nI q))] [] M := by
            intro d2
            induction d2 with
            | zero =>
              intro q hqd
              have lt := hv.lt (runS_lt hv (hs := hsI (itM μ) n a) (fun j hj => (ho j hj).2) (sk := t) hv.D q (by omega))
              refine V_iload (pc := 89) hG (dk dd_X10_snored 47 rfl) rfl ?_
              refine V_iload (pc := 91) hG (dk dd_X10_snored 48 rfl) rfl ?_
              refine V_icmp_ge (pc := 93) hG (dk dd_X10_snored 49 rfl) (tgt := 139) (by decide) (fun h93 => ?_) (fun h93 => ?_)
              refine V_iload (pc := 139) hG (dk dd_X10_snored 72 rfl) rfl ?_
              refine V_iload (pc := 141) hG (dk dd_X10_snored 73 rfl) rfl ?_
              refine V_iload_n (pc := 143) hG (dk dd_X10_snored 74 rfl) rfl ?_
              refine V_icmp_ne (pc := 144) hG (dk dd_X10_snored 75 rfl) (tgt := 167) (by decide) (fun h144 => ?_) (fun h144 => ?_)
              refine V_iconst (pc := 167) hG (dk dd_X10_snored 85 rfl) (v := 0) (by decide) ?_
              refine V_ior (pc := 168) hG (dk dd_X10_snored 86 rfl) ?_
              refine V_istore (pc := 169) hG (dk dd_X10_snored 87 rfl) (by decide) (lv' := [(0, _), (1, _), (2, _), (3, _), (4, _), (5, _), (6, _), (7, _), (8, _), (9, _)]) rfl ?_
              refine V_iinc (pc := 171) hG (dk dd_X10_snored 88 rfl) rfl (v := _ + 1) rfl (by decide) (lv' := [(0, _), (1, _), (2, _), (3, _), (4, _), (5, _), (6, _), (7, _), (8, _), (9, _)]) rfl ?_
              refine V_goto (pc := 174) hG (dk dd_X10_snored 89 rfl) (tgt := 70) (by decide) ?_
              refine V_keep [0, 1, 2, 3, 4, 5, 6, 7] (lv' := [(0, _), (1, _), (2, _), (3, _), (4, _), (5, _), (6, _), (7, _)]) rfl ?_
              rotate_left
              refine V_iload (pc := 147) hG (dk dd_X10_snored 76 rfl) rfl ?_
              refine V_iload (pc := 149) hG (dk dd_X10_snored 77 rfl) rfl ?_
              refine V_icmp_ge (pc := 151) hG (dk dd_X10_snored 78 rfl) (tgt := 161) (by decide) (fun h151 => ?_) (fun h151 => ?_)
              refine V_sipush (pc := 161) hG (dk dd_X10_snored 83 rfl) (v := 4096) (by decide) ?_
              refine V_goto (pc := 164) hG (dk dd_X10_snored 84 rfl) (tgt := 168) (by decide) ?_
              refine V_ior (pc := 168) hG (dk dd_X10_snored 86 rfl) ?_
              refine V_istore (pc := 169) hG (dk dd_X10_snored 87 rfl) (by decide) (lv' := [(0, _), (1, _), (2, _), (3, _), (4, _), (5, _), (6, _), (7, _), (8, _), (9, _)]) rfl ?_
              refine V_iinc (pc := 171) hG (dk dd_X10_snored 88 rfl) rfl (v := _ + 1) rfl (by decide) (lv' := [(0, _), (1, _), (2, _), (3, _), (4, _), (5, _), (6, _), (7, _), (8, _), (9, _)]) rfl ?_
              refine V_goto (pc := 174) hG (dk dd_X10_snored 89 rfl) (tgt := 70) (by decide) ?_
              refine V_keep [0, 1, 2, 3, 4, 5, 6, 7] (lv' := [(0, _), (1, _), (2, _), (3, _), (4, _), (5, _), (6, _), (7, _)]) rfl ?_
              rotate_left
              refine V_iconst (pc := 154) hG (dk dd_X10_snored 79 rfl) (v := 1) (by decide) ?_
              refine V_iload (pc := 155) hG (dk dd_X10_snored 80 rfl) rfl ?_
              refine V_ishl (pc := 157) hG (dk dd_X10_snored 81 rfl) ?_
              refine V_goto (pc := 158) hG (dk dd_X10_snored 82 rfl) (tgt := 168) (by decide) ?_
              refine V_ior (pc := 168) hG (dk dd_X10_snored 86 rfl) ?_
              refine V_istore (pc := 169) hG (dk dd_X10_snored 87 rfl) (by decide) (lv' := [(0, _), (1, _), (2, _), (3, _), (4, _), (5, _), (6, _), (7, _), (8, _), (9, _)]) rfl ?_
              refine V_iinc (pc := 171) hG (dk dd_X10_snored 88 rfl) rfl (v := _ + 1) rfl (by decide) (lv' := [(0, _), (1, _), (2, _), (3, _), (4, _), (5, _), (6, _), (7, _), (8, _), (9, _)]) rfl ?_
              refine V_goto (pc := 174) hG (dk dd_X10_snored 89 rfl) (tgt := 70) (by decide) ?_
              refine V_keep [0, 1, 2, 3, 4, 5, 6, 7] (lv' := [(0, _), (1, _), (2, _), (3, _), (4, _), (5, _), (6, _), (7, _)]) rfl ?_
              rotate_left
              rotate_left
              -- leaves: stop 70; stop 70; stop 70; stop 96
              · rw [Int32.or_zero, ← nI_succ]
                have ne : ¬ runS α (hsI (itM μ) n a) t (α 0 3) m = x.toNatClampNeg := fun z => h144 (by rw [show q = m by omega, z, ← hx])
                refine ih (t + 1) s _ (by omega) hs (fun w => ?_) (fun w => ?_) F rfl
                · rw [orT_s, ← h1, b1_f ne, Nat.or_zero]
                · have e : t = m := by omega
                  subst e
                  unfold snoN; rw [b1_f ne, Nat.zero_or]; exact h1
              · have e : t = m := by rw [hkm] at h151; have := le_i h151 (by omega) (by omega); omega
                have ye : runS α (hsI (itM μ) n a) t (α 0 3) m = x.toNatClampNeg := by
                  rw [hx, show q = m by omega] at h144
                  exact (nI_eq (by have := lt; rw [show q = m by omega] at this; omega) (by omega)).mp h144
                rw [← nI_succ, show (4096 : Int32) = nI 4096 from rfl, q_orG (by omega) (by decide)]
                refine ih (t + 1) (s ||| 4096) _ (by omega) (Nat.or_lt_two_pow (n := 13) hs (by decide)) (fun w => by omega) (fun w => ?_) F rfl
                subst e
                unfold snoN; rw [b1_t ye, Nat.or_comm, h1]
              · have e : t < m := by rw [hkm] at h151; exact nle_i h151 (by omega) (by omega)
                have ye : runS α (hsI (itM μ) n a) t (α 0 3) m = x.toNatClampNeg := by
                  rw [hx, show q = m by omega] at h144
                  exact (nI_eq (by have := lt; rw [show q = m by omega] at this; omega) (by omega)).mp h144
                rw [← nI_succ, bI_eq, q_orB (by omega) (by omega)]
                refine ih (t + 1) (s ||| 2 ^ t) _ (by omega) (Nat.or_lt_two_pow (n := 13) hs (Nat.pow_lt_pow_right (by decide) (by omega))) (fun w => ?_) (fun w => by omega) F rfl
                rw [orT_s, ← h1, b1_t ye]
              · exfalso; rw [hkm] at h93; have := nle_i h93 (by omega) (by omega); omega
            | succ d2 ib =>
              intro q hqd
              have hI := ib (q + 1) (by omega)
              rw [runS_s, nI_succ] at hI
              obtain ⟨o1, o2⟩ := ho q (by omega)
              have lt := runS_lt hv (hs := hsI (itM μ) n a) (fun j hj => (ho j hj).2) (sk := t) hv.D q (by omega)
              have ix : (40 : Int32) * y + i + nI q = nI (40 * n + (a + q)) := by rw [hy, hia, ix40, nI_add, Nat.add_assoc]
              have r : vp_in ((40 : Int32) * y + i + nI q) 320 := by rw [ix]; exact vp_in_nI (by omega) (by decide)
              refine V_iload (pc := 89) hG (dk dd_X10_snored 47 rfl) rfl ?_
              refine V_iload (pc := 91) hG (dk dd_X10_snored 48 rfl) rfl ?_
              refine V_icmp_ge (pc := 93) hG (dk dd_X10_snored 49 rfl) (tgt := 139) (by decide) (fun h93 => ?_) (fun h93 => ?_)
              rotate_left
              refine V_iload (pc := 96) hG (dk dd_X10_snored 50 rfl) rfl ?_
              refine V_iload (pc := 98) hG (dk dd_X10_snored 51 rfl) rfl ?_
              refine V_icmp_ne (pc := 100) hG (dk dd_X10_snored 52 rfl) (tgt := 108) (by decide) (fun h100 => ?_) (fun h100 => ?_)
              refine V_aload_n (pc := 108) hG (dk dd_X10_snored 55 rfl) rfl ?_
              refine V_getR (pc := 109) hG (dk dd_X10_snored 56 rfl) fl_X10_19 sh_67 rfl ?_
              refine V_aload_n (pc := 112) hG (dk dd_X10_snored 57 rfl) rfl ?_
              refine V_getR (pc := 113) hG (dk dd_X10_snored 58 rfl) fl_X10_16 sh_67 rfl ?_
              refine V_bipush (pc := 116) hG (dk dd_X10_snored 59 rfl) (v := 40) (by decide) ?_
              refine V_iload_n (pc := 118) hG (dk dd_X10_snored 60 rfl) rfl ?_
              refine V_imul (pc := 119) hG (dk dd_X10_snored 61 rfl) ?_
              refine V_iload_n (pc := 120) hG (dk dd_X10_snored 62 rfl) rfl ?_
              refine V_iadd (pc := 121) hG (dk dd_X10_snored 63 rfl) ?_
              refine V_iload (pc := 122) hG (dk dd_X10_snored 64 rfl) rfl ?_
              refine V_iadd (pc := 124) hG (dk dd_X10_snored 65 rfl) ?_
              refine V_iald (pc := 125) hG (dk dd_X10_snored 66 rfl) sh_70 r ?_
              refine V_iload (pc := 126) hG (dk dd_X10_snored 67 rfl) rfl ?_
              refine V_callSip (pc := 128) hG (dk dd_X10_snored 68 rfl) ml_X10_191 mo_X10_hummed (m_hummed (μ := M) sh_71 (α := α) hA2 hv (h := hsI (itM μ) n a q) (by rw [ix, nI_clamp (by omega), q70]; exact o1) o2 rfl lt) (by decide) (by decide) rfl rfl rfl (fun x128 m128 p128 => ?_)
              refine V_istore (pc := 131) hG (dk dd_X10_snored 69 rfl) (by decide) (lv' := [(0, _), (1, _), (2, _), (3, _), (4, _), (5, _), (6, _), (7, _), (8, _), (9, _)]) rfl ?_
              refine V_iinc (pc := 133) hG (dk dd_X10_snored 70 rfl) rfl (v := _ + 1) rfl (by decide) (lv' := [(0, _), (1, _), (2, _), (3, _), (4, _), (5, _), (6, _), (7, _), (8, _), (9, _)]) rfl ?_
              refine V_goto (pc := 136) hG (dk dd_X10_snored 71 rfl) (tgt := 89) (by decide) ?_
              rotate_left
              refine V_iload (pc := 103) hG (dk dd_X10_snored 53 rfl) rfl ?_
              refine V_goto (pc := 105) hG (dk dd_X10_snored 54 rfl) (tgt := 131) (by decide) ?_
              refine V_istore (pc := 131) hG (dk dd_X10_snored 69 rfl) (by decide) (lv' := [(0, _), (1, _), (2, _), (3, _), (4, _), (5, _), (6, _), (7, _), (8, _), (9, _)]) rfl ?_
              refine V_iinc (pc := 133) hG (dk dd_X10_snored 70 rfl) rfl (v := _ + 1) rfl (by decide) (lv' := [(0, _), (1, _), (2, _), (3, _), (4, _), (5, _), (6, _), (7, _), (8, _), (9, _)]) rfl ?_
              refine V_goto (pc := 136) hG (dk dd_X10_snored 71 rfl) (tgt := 89) (by decide) ?_
              rotate_left
              -- leaves: stop 139; stop 89; stop 89
              · exfalso; rw [hkm] at h93; have := le_i h93 (by omega) (by omega); omega
              · obtain ⟨e1, e2⟩ := p128
                rw [if_neg (fun z => h100 (by rw [z]))] at hI
                rw [e1, e2]; exact hI
              · rw [if_pos ((nI_eq (by omega) (by omega)).mp h100)] at hI
                exact hI
          refine V_iload (pc := 70) hG (dk dd_X10_snored 37 rfl) rfl ?_
          refine V_iload (pc := 72) hG (dk dd_X10_snored 38 rfl) rfl ?_
          refine V_icmp_gt (pc := 74) hG (dk dd_X10_snored 39 rfl) (tgt := 177) (by decide) (fun h74 => ?_) (fun h74 => ?_)
          rotate_left
          refine V_aload_n (pc := 77) hG (dk dd_X10_snored 40 rfl) rfl ?_
          refine V_getR (pc := 78) hG (dk dd_X10_snored 41 rfl) fl_X10_19 sh_67 rfl ?_
          refine V_bipush (pc := 81) hG (dk dd_X10_snored 42 rfl) (v := 6) (by decide) ?_
          refine V_iald (pc := 83) hG (dk dd_X10_snored 43 rfl) sh_71 r6 ?_
          refine V_istore (pc := 84) hG (dk dd_X10_snored 44 rfl) (by decide) (lv' := [(0, _), (1, _), (2, _), (3, _), (4, _), (5, _), (6, _), (7, _), (8, _)]) rfl ?_
          refine V_iconst (pc := 86) hG (dk dd_X10_snored 45 rfl) (v := 0) (by decide) ?_
          refine V_istore (pc := 87) hG (dk dd_X10_snored 46 rfl) (by decide) (lv' := [(0, _), (1, _), (2, _), (3, _), (4, _), (5, _), (6, _), (7, _), (8, _), (9, _)]) rfl ?_
          rotate_left
          -- leaves: stop 177; stop 89
          · exfalso; rw [hkm] at h74; have := (nI_ltI (by omega) (by omega)).mp h74; omega
          · rw [e6]; exact inner m 0 (by omega)
      refine V_aload_n (pc := 0) hG (dk dd_X10_snored 0 rfl) rfl ?_
      refine V_iconst (pc := 1) hG (dk dd_X10_snored 1 rfl) (v := 0) (by decide) ?_
      refine V_putI (pc := 2) hG (dk dd_X10_snored 2 rfl) fl_X10_62 sh_67 rfl rfl ?_
      refine V_aload_n (pc := 5) hG (dk dd_X10_snored 3 rfl) rfl ?_
      refine V_callVip (pc := 6) hG (dk dd_X10_snored 4 rfl) ml_X10_219 mo_X10_isThere sh_67 rfl (m_isThere) (by decide) (by decide) rfl rfl rfl (fun x6 m6 p6 => ?_)
      refine V_if_ne (pc := 9) hG (dk dd_X10_snored 5 rfl) (tgt := 15) (by decide) (fun h9 => ?_) (fun h9 => ?_)
      refine V_aload_n (pc := 15) hG (dk dd_X10_snored 8 rfl) rfl ?_
      refine V_iload_n (pc := 16) hG (dk dd_X10_snored 9 rfl) rfl ?_
      refine V_callVip (pc := 17) hG (dk dd_X10_snored 10 rfl) ml_X10_239 mo_X10_areThings sh_67 rfl (m_areThings (t := α 0 0) (by rw [p6.1]; exact e0) (by omega)) (by decide) (by decide) rfl rfl rfl (fun x17 m17 p17 => ?_)
      refine V_if_eq (pc := 20) hG (dk dd_X10_snored 11 rfl) (tgt := 43) (by decide) (fun h20 => ?_) (fun h20 => ?_)
      rotate_left
      refine V_iload_n (pc := 23) hG (dk dd_X10_snored 12 rfl) rfl ?_
      refine V_callSip (pc := 24) hG (dk dd_X10_snored 13 rfl) ml_X10_76 mo_X10_isRow (m_isRow) (by decide) (by decide) rfl rfl rfl (fun x24 m24 p24 => ?_)
      refine V_if_eq (pc := 27) hG (dk dd_X10_snored 14 rfl) (tgt := 43) (by decide) (fun h27 => ?_) (fun h27 => ?_)
      rotate_left
      refine V_iload (pc := 30) hG (dk dd_X10_snored 15 rfl) rfl ?_
      refine V_i2l (pc := 32) hG (dk dd_X10_snored 16 rfl) ?_
      refine V_lconst (pc := 33) hG (dk dd_X10_snored 17 rfl) (v := 1) (by decide) ?_
      refine V_ldc2_w (pc := 34) hG (dk dd_X10_snored 18 rfl) kk_X10_229 ?_
      refine V_callSip (pc := 37) hG (dk dd_X10_snored 19 rfl) ml_X10_72 mo_X10_in (m_inI (v := k) (lo := 1) (hi := 12) rfl (by decide) (by decide)) (by decide) (by decide) rfl rfl rfl (fun x37 m37 p37 => ?_)
      refine V_if_ne (pc := 40) hG (dk dd_X10_snored 20 rfl) (tgt := 46) (by decide) (fun h40 => ?_) (fun h40 => ?_)
      refine V_aload_n (pc := 46) hG (dk dd_X10_snored 23 rfl) rfl ?_
      refine V_iload_n (pc := 47) hG (dk dd_X10_snored 24 rfl) rfl ?_
      refine V_iload_n (pc := 48) hG (dk dd_X10_snored 25 rfl) rfl ?_
      refine V_iload (pc := 49) hG (dk dd_X10_snored 26 rfl) rfl ?_
      refine V_callVip (pc := 51) hG (dk dd_X10_snored 27 rfl) ml_X10_231 mo_X10_humsFound sh_67 rfl (m_humsFound (μ := m37) (by rw [p37.1, p24.1, p17.1, p6.1]; exact hk) hy hn hkm m2 (H := α 0 6) (by rw [p37.1, p24.1, p17.1, p6.1]; exact e3) hH) (by decide) (by decide) rfl rfl rfl (fun x51 m51 p51 => ?_)
      refine V_istore (pc := 54) hG (dk dd_X10_snored 28 rfl) (by decide) (lv' := [(0, _), (1, _), (2, _), (3, _), (4, _), (5, _)]) rfl ?_
      refine V_iload (pc := 56) hG (dk dd_X10_snored 29 rfl) rfl ?_
      refine V_if_eq (pc := 58) hG (dk dd_X10_snored 30 rfl) (tgt := 64) (by decide) (fun h58 => ?_) (fun h58 => ?_)
      refine V_iconst (pc := 64) hG (dk dd_X10_snored 33 rfl) (v := 0) (by decide) ?_
      refine V_istore (pc := 65) hG (dk dd_X10_snored 34 rfl) (by decide) (lv' := [(0, _), (1, _), (2, _), (3, _), (4, _), (5, _), (6, _)]) rfl ?_
      refine V_iconst (pc := 67) hG (dk dd_X10_snored 35 rfl) (v := 0) (by decide) ?_
      refine V_istore (pc := 68) hG (dk dd_X10_snored 36 rfl) (by decide) (lv' := [(0, _), (1, _), (2, _), (3, _), (4, _), (5, _), (6, _), (7, _)]) rfl ?_
      rotate_left
      refine V_iload (pc := 61) hG (dk dd_X10_snored 31 rfl) rfl ?_
      refine V_iretP (pc := 63) hG (dk dd_X10_snored 32 rfl) hR (Pi.mk ?_)
      rotate_left
      rotate_left
      rotate_left
      -- leaves: stop 43; stop 43; stop 70; return@63; stop 43; stop 12
      all_goals (first | exact absurd ((hz.there e0).mpr hv) (p6.2.no h9) | exact absurd i2 (p17.2.no h20) | exact absurd i3 (p24.2.no h27) | exact absurd i5 (p37.2.no h40) | skip)
      all_goals (rw [p37.1, p24.1, p17.1, p6.1] at p51; obtain ⟨f, hf, rf, em⟩ := p51)
      · have f0 : f = 0 := hf.z.mp (rf ▸ h58)
        subst f0
        obtain ⟨a, a1, a2, a3⟩ := hf.ok
        have em : m51 = M := em.trans hMM
        rw [em]
        exact loop a a1 a2 a3 hf (m + 1) 0 0 _ (by omega) (by decide) (fun _ => rfl) (fun w => by omega) _ rfl
      · have f0 : f ≠ 0 := fun z => h58 (by rw [rf, z]; rfl)
        rw [em]
        exact ⟨some f, Or.inr (Or.inr ⟨h0, hi, n, m, f, hy, hn, hkm, m1, m2, hf, rfl, Or.inl ⟨f0, rf⟩⟩), FrM.st μ f⟩
    · have bad : ∀ M, M = th0 μ → ∃ o, SnoR α (μ 68) (μ 69) (itM μ) x y i k (-1000001) o ∧ FrM μ o M := fun M e => ⟨none, Or.inr (Or.inl ⟨h0, hi, rfl, rfl⟩), by rw [e]; exact FrM.th μ⟩
      refine V_aload_n (pc := 0) hG (dk dd_X10_snored 0 rfl) rfl ?_
      refine V_iconst (pc := 1) hG (dk dd_X10_snored 1 rfl) (v := 0) (by decide) ?_
      refine V_putI (pc := 2) hG (dk dd_X10_snored 2 rfl) fl_X10_62 sh_67 rfl rfl ?_
      refine V_aload_n (pc := 5) hG (dk dd_X10_snored 3 rfl) rfl ?_
      refine V_callVip (pc := 6) hG (dk dd_X10_snored 4 rfl) ml_X10_219 mo_X10_isThere sh_67 rfl (m_isThere) (by decide) (by decide) rfl rfl rfl (fun x6 m6 p6 => ?_)
      refine V_if_ne (pc := 9) hG (dk dd_X10_snored 5 rfl) (tgt := 15) (by decide) (fun h9 => ?_) (fun h9 => ?_)
      refine V_aload_n (pc := 15) hG (dk dd_X10_snored 8 rfl) rfl ?_
      refine V_iload_n (pc := 16) hG (dk dd_X10_snored 9 rfl) rfl ?_
      refine V_callVip (pc := 17) hG (dk dd_X10_snored 10 rfl) ml_X10_239 mo_X10_areThings sh_67 rfl (m_areThings (t := α 0 0) (by rw [p6.1]; exact e0) (by omega)) (by decide) (by decide) rfl rfl rfl (fun x17 m17 p17 => ?_)
      refine V_if_eq (pc := 20) hG (dk dd_X10_snored 11 rfl) (tgt := 43) (by decide) (fun h20 => ?_) (fun h20 => ?_)
      refine V_ldc (pc := 43) hG (dk dd_X10_snored 21 rfl) kk_X10_82 ?_
      refine V_iretP (pc := 45) hG (dk dd_X10_snored 22 rfl) hR (Pi.mk ?_)
      rotate_left
      refine V_iload_n (pc := 23) hG (dk dd_X10_snored 12 rfl) rfl ?_
      refine V_callSip (pc := 24) hG (dk dd_X10_snored 13 rfl) ml_X10_76 mo_X10_isRow (m_isRow) (by decide) (by decide) rfl rfl rfl (fun x24 m24 p24 => ?_)
      refine V_if_eq (pc := 27) hG (dk dd_X10_snored 14 rfl) (tgt := 43) (by decide) (fun h27 => ?_) (fun h27 => ?_)
      refine V_ldc (pc := 43) hG (dk dd_X10_snored 21 rfl) kk_X10_82 ?_
      refine V_iretP (pc := 45) hG (dk dd_X10_snored 22 rfl) hR (Pi.mk ?_)
      rotate_left
      refine V_iload (pc := 30) hG (dk dd_X10_snored 15 rfl) rfl ?_
      refine V_i2l (pc := 32) hG (dk dd_X10_snored 16 rfl) ?_
      refine V_lconst (pc := 33) hG (dk dd_X10_snored 17 rfl) (v := 1) (by decide) ?_
      refine V_ldc2_w (pc := 34) hG (dk dd_X10_snored 18 rfl) kk_X10_229 ?_
      refine V_callSip (pc := 37) hG (dk dd_X10_snored 19 rfl) ml_X10_72 mo_X10_in (m_inI (v := k) (lo := 1) (hi := 12) rfl (by decide) (by decide)) (by decide) (by decide) rfl rfl rfl (fun x37 m37 p37 => ?_)
      refine V_if_ne (pc := 40) hG (dk dd_X10_snored 20 rfl) (tgt := 46) (by decide) (fun h40 => ?_) (fun h40 => ?_)
      rotate_left
      refine V_ldc (pc := 43) hG (dk dd_X10_snored 21 rfl) kk_X10_82 ?_
      refine V_iretP (pc := 45) hG (dk dd_X10_snored 22 rfl) hR (Pi.mk ?_)
      rotate_left
      rotate_left
      -- leaves: return@45; return@45; stop 46; return@45; stop 12
      · exact bad _ (p17.1.trans p6.1)
      · exact bad _ (p24.1.trans (p17.1.trans p6.1))
      · exact absurd ⟨p17.2.yes h20, p24.2.yes h27, p37.2.yes h40⟩ hi
      · exact bad _ (p37.1.trans (p24.1.trans (p17.1.trans p6.1)))
      · exact absurd ((hz.there e0).mpr hv) (p6.2.no h9)
  · skip
    refine V_aload_n (pc := 0) hG (dk dd_X10_snored 0 rfl) rfl ?_
    refine V_iconst (pc := 1) hG (dk dd_X10_snored 1 rfl) (v := 0) (by decide) ?_
    refine V_putI (pc := 2) hG (dk dd_X10_snored 2 rfl) fl_X10_62 sh_67 rfl rfl ?_
    refine V_aload_n (pc := 5) hG (dk dd_X10_snored 3 rfl) rfl ?_
    refine V_callVip (pc := 6) hG (dk dd_X10_snored 4 rfl) ml_X10_219 mo_X10_isThere sh_67 rfl (m_isThere) (by decide) (by decide) rfl rfl rfl (fun x6 m6 p6 => ?_)
    refine V_if_ne (pc := 9) hG (dk dd_X10_snored 5 rfl) (tgt := 15) (by decide) (fun h9 => ?_) (fun h9 => ?_)
    rotate_left
    refine V_ldc (pc := 12) hG (dk dd_X10_snored 6 rfl) kk_X10_210 ?_
    refine V_iretP (pc := 14) hG (dk dd_X10_snored 7 rfl) hR (Pi.mk ?_)
    rotate_left
    -- leaves: stop 15; return@14
    · exact absurd ((hz.there e0).mp (p6.2.yes h9)) hv
    · exact ⟨none, Or.inl ⟨fun q => hv (hz.vt q), rfl, rfl⟩, by rw [p6.1]; exact FrM.th μ⟩
