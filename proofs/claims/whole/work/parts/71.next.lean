/-! ===== the model: the next row ===== -/
def atS (f : Nat → Nat) : Nat → Option Nat
  | 0 => none
  | a + 1 => if f (a + 1) < f a then atS f a else some a
def byS (f : Nat → Nat) (x : Nat) : Nat → Nat
  | 0 => 0
  | b + 1 => if f (b + 1) < x then byS f x b else b + 1
def swF (f : Nat → Nat) (i j : Nat) : Nat → Nat := fun q => if q = j then f i else if q = i then f j else f q
def rvF : Nat → Nat → Nat → (Nat → Nat) → (Nat → Nat)
  | 0, _, _, f => f
  | k + 1, lo, hi, f => if lo < hi then rvF k (lo + 1) (hi - 1) (swF f lo hi) else f
def nxF (f : Nat → Nat) (n : Nat) : Option (Nat → Nat) := match atS f (n - 1) with
  | none => none
  | some a => some (rvF 5 (a + 1) (n - 1) (swF f a (byS f (f a) (n - 1))))
theorem atS_s (f : Nat → Nat) (a : Nat) : atS f (a + 1) = if f (a + 1) < f a then atS f a else some a := rfl
theorem byS_s (f : Nat → Nat) (x b : Nat) : byS f x (b + 1) = if f (b + 1) < x then byS f x b else b + 1 := rfl
theorem rvF_s (k lo hi : Nat) (f : Nat → Nat) : rvF (k + 1) lo hi f = if lo < hi then rvF k (lo + 1) (hi - 1) (swF f lo hi) else f := rfl
theorem swF_i {f : Nat → Nat} {i j : Nat} : swF f i j j = f i := by unfold swF; rw [if_pos rfl]
theorem swF_lt {f : Nat → Nat} {n i j : Nat} (h : ∀ q, q < n → f q < 5) (hi : i < n) (hj : j < n) : ∀ q, q < n → swF f i j q < 5 := fun q hq => by
  unfold swF; split
  · exact h i hi
  · split
    · exact h j hj
    · exact h q hq
/-- the row holds f -/
def Tri (M : Mem) (f : Nat → Nat) (n : Nat) : Prop := ∀ i, i < n → M 79 i = nI (f i)
theorem Tri.sw {M : Mem} {f : Nat → Nat} {n i j : Nat} (h : Tri M f n) (hi : i < n) (hj : j < n) : Tri (setc (setc M 79 (upd (M 79) i (M 79 j))) 79 (upd (setc M 79 (upd (M 79) i (M 79 j)) 79) j (M 79 i))) (swF f i j) n := by
  intro q hq
  rw [setc_s, setc_s, upd_at, upd_at]
  unfold swF
  by_cases z : q = j
  · rw [if_pos z, if_pos z]; exact h i hi
  · rw [if_neg z, if_neg z]
    by_cases w : q = i
    · rw [if_pos w, if_pos w]; exact h j hj
    · rw [if_neg w, if_neg w]; exact h q hq
def NxQ (f : Nat → Nat) (n : Nat) (μ : Mem) (r : Int32) (μ' : Mem) : Prop := (nxF f n = none ∧ r = 0 ∧ μ' = μ) ∨ (∃ g, nxF f n = some g ∧ r = 1 ∧ Tri μ' g n ∧ ∀ a, a ≠ 79 → μ' a = μ a)
set_option maxHeartbeats 2000000 in
theorem m_nextRow {μ : Mem} {f : Nat → Nat} {n : Nat} (hn : n ≤ 5) (ht : Tri μ f n) (hf : ∀ q, q < n → f q < 5) {x : Int32} (hx : x = nI n) : CtP yX10_nextRow cX10_nextRow 7 (some .boolean) 0 [vR 67, vI x] μ (Pi (fun r μ' => is1 r (r = 1) ∧ NxQ f n μ r μ')) := by
  refine CtP.go RX10 rfl pn_X10 (Nat.le_of_ble_eq_true rfl) (fun C hG hR => ?_)
  have rev : ∀ a, n ≠ 0 → ∀ k lo hi M h (g : Nat → Nat) (v4 : Int32), 6 ≤ lo + k → 1 ≤ lo → lo ≤ hi + 1 → hi < n → Tri M g n → (∀ q, q < n → g q < 5) → (∀ j, j ≠ 79 → M j = μ j) → nxF f n = some (rvF k lo hi g) → V C 100 [(0, vR 67), (1, vI x), (2, vI a), (3, vI h), (4, vI v4), (5, vI (nI lo)), (6, vI (nI hi))] [] M := by
    intro a n0 k
    induction k with
    | zero =>
      intro lo hi M h g v4 k1 k2 k3 k4 k5 k6 k7 k8
      exfalso; omega
    | succ k ih =>
      intro lo hi M h g v4 k1 k2 k3 k4 k5 k6 k7 k8
      rw [rvF_s] at k8
      have clo : (nI lo).toNatClampNeg = lo := nI_clamp (by omega)
      have chi : (nI hi).toNatClampNeg = hi := nI_clamp (by omega)
      have rlo : lo < hi → vp_in (nI lo) 5 := fun q => vp_in_nI (by omega) (by decide)
      have rhi : vp_in (nI hi) 5 := vp_in_nI (by omega) (by decide)
      refine V_iload (pc := 100) hG (dk dd_X10_nextRow 64 rfl) rfl ?_
      refine V_iload (pc := 102) hG (dk dd_X10_nextRow 65 rfl) rfl ?_
      refine V_icmp_ge (pc := 104) hG (dk dd_X10_nextRow 66 rfl) (tgt := 148) (by decide) (fun h104 => ?_) (fun h104 => ?_)
      refine V_iconst (pc := 148) hG (dk dd_X10_nextRow 88 rfl) (v := 1) (by decide) ?_
      refine V_zretP (pc := 149) hG (dk dd_X10_nextRow 89 rfl) (by decide) hR (Pi.mk ?_)
      rotate_left
      rotate_left
      -- leaves: return@149; stop 107
      · have := le_i h104 (by omega) (by omega)
        rw [if_neg (by omega)] at k8
        exact ⟨is1.t rfl, Or.inr ⟨g, k8, rfl, k5, k7⟩⟩
      · have q := nle_i h104 (by omega) (by omega)
        rw [if_pos q] at k8
        have rl := rlo q
        have hI := ih (lo + 1) (hi - 1) _ h (swF g lo hi) (M 79 lo) (by omega) (by omega) (by omega) (by omega) (k5.sw (by omega) (by omega)) (swF_lt k6 (by omega) (by omega)) (fun j hj => by rw [setc_n hj, setc_n hj]; exact k7 j hj) k8
        refine V_aload_n (pc := 107) hG (dk dd_X10_nextRow 67 rfl) rfl ?_
        refine V_getR (pc := 108) hG (dk dd_X10_nextRow 68 rfl) fl_X10_44 sh_67 rfl ?_
        refine V_iload (pc := 111) hG (dk dd_X10_nextRow 69 rfl) rfl ?_
        refine V_iald (pc := 113) hG (dk dd_X10_nextRow 70 rfl) sh_79 rl ?_
        refine V_istore (pc := 114) hG (dk dd_X10_nextRow 71 rfl) (by decide) (lv' := [(0, _), (1, _), (2, _), (3, _), (4, _), (5, _), (6, _)]) rfl ?_
        refine V_aload_n (pc := 116) hG (dk dd_X10_nextRow 72 rfl) rfl ?_
        refine V_getR (pc := 117) hG (dk dd_X10_nextRow 73 rfl) fl_X10_44 sh_67 rfl ?_
        refine V_iload (pc := 120) hG (dk dd_X10_nextRow 74 rfl) rfl ?_
        refine V_aload_n (pc := 122) hG (dk dd_X10_nextRow 75 rfl) rfl ?_
        refine V_getR (pc := 123) hG (dk dd_X10_nextRow 76 rfl) fl_X10_44 sh_67 rfl ?_
        refine V_iload (pc := 126) hG (dk dd_X10_nextRow 77 rfl) rfl ?_
        refine V_iald (pc := 128) hG (dk dd_X10_nextRow 78 rfl) sh_79 rhi ?_
        refine V_iast (pc := 129) hG (dk dd_X10_nextRow 79 rfl) sh_79 rl ?_
        refine V_aload_n (pc := 130) hG (dk dd_X10_nextRow 80 rfl) rfl ?_
        refine V_getR (pc := 131) hG (dk dd_X10_nextRow 81 rfl) fl_X10_44 sh_67 rfl ?_
        refine V_iload (pc := 134) hG (dk dd_X10_nextRow 82 rfl) rfl ?_
        refine V_iload (pc := 136) hG (dk dd_X10_nextRow 83 rfl) rfl ?_
        refine V_iast (pc := 138) hG (dk dd_X10_nextRow 84 rfl) sh_79 rhi ?_
        refine V_iinc (pc := 139) hG (dk dd_X10_nextRow 85 rfl) rfl (v := _ + 1) rfl (by decide) (lv' := [(0, _), (1, _), (2, _), (3, _), (4, _), (5, _), (6, _)]) rfl ?_
        refine V_iinc (pc := 142) hG (dk dd_X10_nextRow 86 rfl) rfl (v := _ + (-1)) rfl (by decide) (lv' := [(0, _), (1, _), (2, _), (3, _), (4, _), (5, _), (6, _)]) rfl ?_
        refine V_goto (pc := 145) hG (dk dd_X10_nextRow 87 rfl) (tgt := 100) (by decide) ?_
        rotate_left
        -- leaves: stop 100
        · rw [clo, chi, ← nI_succ, m1e, nm1 (by omega)]
          exact hI
  have two : ∀ a, a + 1 < n → f a ≤ f (a + 1) → atS f (n - 1) = some a → ∀ b, a + 1 ≤ b → b < n → byS f (f a) b = byS f (f a) (n - 1) → V C 41 [(0, vR 67), (1, vI x), (2, vI (nI a)), (3, vI (nI b))] [] μ := by
    intro a a1 a2 a3 b
    have ca : (nI a).toNatClampNeg = a := nI_clamp (by omega)
    have ra : vp_in (nI a) 5 := vp_in_nI (by omega) (by decide)
    have fa := hf a (by omega)
    induction b with
    | zero => intro q1; omega
    | succ b ih =>
      intro q1 q2 q3
      have fb := hf (b + 1) q2
      have cb : (nI (b + 1)).toNatClampNeg = b + 1 := nI_clamp (by omega)
      have rb : vp_in (nI (b + 1)) 5 := vp_in_nI (by omega) (by decide)
      rw [byS_s] at q3
      have eq : nxF f n = some (rvF 5 (a + 1) (n - 1) (swF f a (byS f (f a) (n - 1)))) := by unfold nxF; rw [a3]
      refine V_aload_n (pc := 41) hG (dk dd_X10_nextRow 27 rfl) rfl ?_
      refine V_getR (pc := 42) hG (dk dd_X10_nextRow 28 rfl) fl_X10_44 sh_67 rfl ?_
      refine V_iload_n (pc := 45) hG (dk dd_X10_nextRow 29 rfl) rfl ?_
      refine V_iald (pc := 46) hG (dk dd_X10_nextRow 30 rfl) sh_79 rb ?_
      refine V_aload_n (pc := 47) hG (dk dd_X10_nextRow 31 rfl) rfl ?_
      refine V_getR (pc := 48) hG (dk dd_X10_nextRow 32 rfl) fl_X10_44 sh_67 rfl ?_
      refine V_iload_n (pc := 51) hG (dk dd_X10_nextRow 33 rfl) rfl ?_
      refine V_iald (pc := 52) hG (dk dd_X10_nextRow 34 rfl) sh_79 ra ?_
      refine V_icmp_ge (pc := 53) hG (dk dd_X10_nextRow 35 rfl) (tgt := 62) (by decide) (fun h53 => ?_) (fun h53 => ?_)
      rotate_left
      refine V_iinc (pc := 56) hG (dk dd_X10_nextRow 36 rfl) rfl (v := _ + (-1)) rfl (by decide) (lv' := [(0, _), (1, _), (2, _), (3, _)]) rfl ?_
      refine V_goto (pc := 59) hG (dk dd_X10_nextRow 37 rfl) (tgt := 41) (by decide) ?_
      rotate_left
      -- leaves: stop 62; stop 41
      · rw [ca, cb, ht a (by omega), ht (b + 1) q2] at h53
        have z := le_i h53 (by omega) (by omega)
        rw [if_neg (by omega)] at q3
        rw [← q3] at eq
        have hr := rev (nI a) (by omega) 5 (a + 1) (n - 1) _ (nI (b + 1)) (swF f a (b + 1)) (μ 79 a) (by omega) (by omega) (by omega) (by omega) (ht.sw (i := a) (j := b + 1) (by omega) q2) (swF_lt hf (by omega) q2) (fun j hj => by rw [setc_n hj, setc_n hj]) eq
        refine V_aload_n (pc := 62) hG (dk dd_X10_nextRow 38 rfl) rfl ?_
        refine V_getR (pc := 63) hG (dk dd_X10_nextRow 39 rfl) fl_X10_44 sh_67 rfl ?_
        refine V_iload_n (pc := 66) hG (dk dd_X10_nextRow 40 rfl) rfl ?_
        refine V_iald (pc := 67) hG (dk dd_X10_nextRow 41 rfl) sh_79 ra ?_
        refine V_istore (pc := 68) hG (dk dd_X10_nextRow 42 rfl) (by decide) (lv' := [(0, _), (1, _), (2, _), (3, _), (4, _)]) rfl ?_
        refine V_aload_n (pc := 70) hG (dk dd_X10_nextRow 43 rfl) rfl ?_
        refine V_getR (pc := 71) hG (dk dd_X10_nextRow 44 rfl) fl_X10_44 sh_67 rfl ?_
        refine V_iload_n (pc := 74) hG (dk dd_X10_nextRow 45 rfl) rfl ?_
        refine V_aload_n (pc := 75) hG (dk dd_X10_nextRow 46 rfl) rfl ?_
        refine V_getR (pc := 76) hG (dk dd_X10_nextRow 47 rfl) fl_X10_44 sh_67 rfl ?_
        refine V_iload_n (pc := 79) hG (dk dd_X10_nextRow 48 rfl) rfl ?_
        refine V_iald (pc := 80) hG (dk dd_X10_nextRow 49 rfl) sh_79 rb ?_
        refine V_iast (pc := 81) hG (dk dd_X10_nextRow 50 rfl) sh_79 ra ?_
        refine V_aload_n (pc := 82) hG (dk dd_X10_nextRow 51 rfl) rfl ?_
        refine V_getR (pc := 83) hG (dk dd_X10_nextRow 52 rfl) fl_X10_44 sh_67 rfl ?_
        refine V_iload_n (pc := 86) hG (dk dd_X10_nextRow 53 rfl) rfl ?_
        refine V_iload (pc := 87) hG (dk dd_X10_nextRow 54 rfl) rfl ?_
        refine V_iast (pc := 89) hG (dk dd_X10_nextRow 55 rfl) sh_79 rb ?_
        refine V_iload_n (pc := 90) hG (dk dd_X10_nextRow 56 rfl) rfl ?_
        refine V_iconst (pc := 91) hG (dk dd_X10_nextRow 57 rfl) (v := 1) (by decide) ?_
        refine V_iadd (pc := 92) hG (dk dd_X10_nextRow 58 rfl) ?_
        refine V_istore (pc := 93) hG (dk dd_X10_nextRow 59 rfl) (by decide) (lv' := [(0, _), (1, _), (2, _), (3, _), (4, _), (5, _)]) rfl ?_
        refine V_iload_n (pc := 95) hG (dk dd_X10_nextRow 60 rfl) rfl ?_
        refine V_iconst (pc := 96) hG (dk dd_X10_nextRow 61 rfl) (v := 1) (by decide) ?_
        refine V_isub (pc := 97) hG (dk dd_X10_nextRow 62 rfl) ?_
        refine V_istore (pc := 98) hG (dk dd_X10_nextRow 63 rfl) (by decide) (lv' := [(0, _), (1, _), (2, _), (3, _), (4, _), (5, _), (6, _)]) rfl ?_
        rotate_left
        -- leaves: stop 100
        · rw [ca, cb, ← nI_succ, hx, nm1 (by omega)]
          rw [hx] at hr
          exact hr
      · rw [ca, cb, ht a (by omega), ht (b + 1) q2] at h53
        have z := nle_i h53 (by omega) (by omega)
        rw [if_pos z] at q3
        have : b ≠ a := fun w => by rw [w] at z; omega
        rw [m1e, nI_pred]
        exact ih (by omega) (by omega) q3
  have one : ∀ a, a + 1 ≤ n → atS f a = atS f (n - 1) → ∀ y, y = nI a - 1 → V C 4 [(0, vR 67), (1, vI x), (2, vI y)] [] μ := by
    intro a
    induction a with
    | zero =>
      intro q1 q2 y hy
      subst hy
      refine V_iload_n (pc := 4) hG (dk dd_X10_nextRow 4 rfl) rfl ?_
      refine V_if_lt (pc := 5) hG (dk dd_X10_nextRow 5 rfl) (tgt := 31) (by decide) (fun h5 => ?_) (fun h5 => ?_)
      refine V_iload_n (pc := 31) hG (dk dd_X10_nextRow 19 rfl) rfl ?_
      refine V_if_ge (pc := 32) hG (dk dd_X10_nextRow 20 rfl) (tgt := 37) (by decide) (fun h32 => ?_) (fun h32 => ?_)
      rotate_left
      refine V_iconst (pc := 35) hG (dk dd_X10_nextRow 21 rfl) (v := 0) (by decide) ?_
      refine V_zretP (pc := 36) hG (dk dd_X10_nextRow 22 rfl) (by decide) hR (Pi.mk ?_)
      rotate_left
      rotate_left
      -- leaves: stop 37; return@36; stop 8
      · exact absurd h5 (Int32.not_lt.mpr h32)
      · exact ⟨is1.f (by decide), Or.inl ⟨by unfold nxF; rw [← q2]; rfl, rfl, rfl⟩⟩
      · exfalso; exact h5 (by decide)
    | succ a ih =>
      intro q1 q2 y hy
      subst hy
      rw [nI_pred]
      rw [atS_s] at q2
      have fa := hf a (by omega)
      have fb := hf (a + 1) (by omega)
      have ca : (nI a).toNatClampNeg = a := nI_clamp (by omega)
      have cb : (nI a + 1).toNatClampNeg = a + 1 := by rw [nI_1]; exact nI_clamp (by omega)
      have ra : vp_in (nI a) 5 := vp_in_nI (by omega) (by decide)
      have rb : vp_in (nI a + 1) 5 := by rw [nI_1]; exact vp_in_nI (by omega) (by decide)
      refine V_iload_n (pc := 4) hG (dk dd_X10_nextRow 4 rfl) rfl ?_
      refine V_if_lt (pc := 5) hG (dk dd_X10_nextRow 5 rfl) (tgt := 31) (by decide) (fun h5 => ?_) (fun h5 => ?_)
      rotate_left
      refine V_aload_n (pc := 8) hG (dk dd_X10_nextRow 6 rfl) rfl ?_
      refine V_getR (pc := 9) hG (dk dd_X10_nextRow 7 rfl) fl_X10_44 sh_67 rfl ?_
      refine V_iload_n (pc := 12) hG (dk dd_X10_nextRow 8 rfl) rfl ?_
      refine V_iald (pc := 13) hG (dk dd_X10_nextRow 9 rfl) sh_79 ra ?_
      refine V_aload_n (pc := 14) hG (dk dd_X10_nextRow 10 rfl) rfl ?_
      refine V_getR (pc := 15) hG (dk dd_X10_nextRow 11 rfl) fl_X10_44 sh_67 rfl ?_
      refine V_iload_n (pc := 18) hG (dk dd_X10_nextRow 12 rfl) rfl ?_
      refine V_iconst (pc := 19) hG (dk dd_X10_nextRow 13 rfl) (v := 1) (by decide) ?_
      refine V_iadd (pc := 20) hG (dk dd_X10_nextRow 14 rfl) ?_
      refine V_iald (pc := 21) hG (dk dd_X10_nextRow 15 rfl) sh_79 rb ?_
      refine V_icmp_le (pc := 22) hG (dk dd_X10_nextRow 16 rfl) (tgt := 31) (by decide) (fun h22 => ?_) (fun h22 => ?_)
      rotate_left
      refine V_iinc (pc := 25) hG (dk dd_X10_nextRow 17 rfl) rfl (v := _ + (-1)) rfl (by decide) (lv' := [(0, _), (1, _), (2, _)]) rfl ?_
      refine V_goto (pc := 28) hG (dk dd_X10_nextRow 18 rfl) (tgt := 4) (by decide) ?_
      rotate_left
      -- leaves: stop 31; stop 31; stop 4
      · exact absurd h5 (nI_pos (by omega))
      · rw [ca, cb, ht a (by omega), ht (a + 1) (by omega)] at h22
        have z := le_i h22 (by omega) (by omega)
        rw [if_neg (by omega)] at q2
        refine V_iload_n (pc := 31) hG (dk dd_X10_nextRow 19 rfl) rfl ?_
        refine V_if_ge (pc := 32) hG (dk dd_X10_nextRow 20 rfl) (tgt := 37) (by decide) (fun h32 => ?_) (fun h32 => ?_)
        refine V_iload_n (pc := 37) hG (dk dd_X10_nextRow 23 rfl) rfl ?_
        refine V_iconst (pc := 38) hG (dk dd_X10_nextRow 24 rfl) (v := 1) (by decide) ?_
        refine V_isub (pc := 39) hG (dk dd_X10_nextRow 25 rfl) ?_
        refine V_istore_n (pc := 40) hG (dk dd_X10_nextRow 26 rfl) (by decide) (lv' := [(0, _), (1, _), (2, _), (3, _)]) rfl ?_
        rotate_left
        rotate_left
        -- leaves: stop 41; stop 35
        · rw [hx, nm1 (by omega)]
          have := two a (by omega) z q2.symm (n - 1) (by omega) (by omega) rfl
          rw [hx] at this; exact this
        · exact absurd (nI_pos' (by omega)) h32
      · rw [ca, cb, ht a (by omega), ht (a + 1) (by omega)] at h22
        have z := nle_i h22 (by omega) (by omega)
        rw [if_pos z] at q2
        exact ih (by omega) q2 _ (m1e _)
  refine V_iload_n (pc := 0) hG (dk dd_X10_nextRow 0 rfl) rfl ?_
  refine V_iconst (pc := 1) hG (dk dd_X10_nextRow 1 rfl) (v := 2) (by decide) ?_
  refine V_isub (pc := 2) hG (dk dd_X10_nextRow 2 rfl) ?_
  refine V_istore_n (pc := 3) hG (dk dd_X10_nextRow 3 rfl) (by decide) (lv' := [(0, _), (1, _), (2, _)]) rfl ?_
  rotate_left
  -- leaves: stop 4
  · by_cases n0 : n = 0
    · subst n0
      refine V_iload_n (pc := 4) hG (dk dd_X10_nextRow 4 rfl) rfl ?_
      refine V_if_lt (pc := 5) hG (dk dd_X10_nextRow 5 rfl) (tgt := 31) (by decide) (fun h5 => ?_) (fun h5 => ?_)
      refine V_iload_n (pc := 31) hG (dk dd_X10_nextRow 19 rfl) rfl ?_
      refine V_if_ge (pc := 32) hG (dk dd_X10_nextRow 20 rfl) (tgt := 37) (by decide) (fun h32 => ?_) (fun h32 => ?_)
      rotate_left
      refine V_iconst (pc := 35) hG (dk dd_X10_nextRow 21 rfl) (v := 0) (by decide) ?_
      refine V_zretP (pc := 36) hG (dk dd_X10_nextRow 22 rfl) (by decide) hR (Pi.mk ?_)
      rotate_left
      rotate_left
      -- leaves: stop 37; return@36; stop 8
      · exact absurd h5 (Int32.not_lt.mpr h32)
      · exact ⟨is1.f (by decide), Or.inl ⟨rfl, rfl, rfl⟩⟩
      · exfalso; rw [hx] at h5; exact h5 (by decide)
    · refine one (n - 1) (by omega) rfl _ ?_
      rw [hx, ← nm1 (by omega)]
      show nI n - 2 = nI n - 1 - 1
      rw [show (2 : Int32) = 1 + 1 from rfl]; grind
/-- as lists -/
def nxL (p : List Nat) : Option (List Nat) := match nxF (fun i => p.getD i 0) p.length with
  | none => none
  | some g => some ((List.range p.length).map g)
def chnB : List (List Nat) → Bool
  | [] => true
  | [p] => nxL p == none
  | p :: q :: r => nxL p == some q && chnB (q :: r)
def srtL (l : Nat) : Nat → List Nat
  | 0 => []
  | c + 1 => if l.testBit c then srtL l c ++ [c] else srtL l c
theorem srtL_s (l c : Nat) : srtL l (c + 1) = if l.testBit c then srtL l c ++ [c] else srtL l c := rfl
theorem q_chain : ∀ n, n < 6 → ∀ l, l < 2 ^ n → chnB (ordM n (bitsN l) l) = true ∧ (ordM n (bitsN l) l).head? = some (srtL l 5) ∧ (srtL l 5).length = bitsN l := by decide +kernel
