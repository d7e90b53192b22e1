/-! ===== Told: hums and dreams that rows tell ===== -/
def runN (β : Al) (hs : Nat → Nat) (D : Nat) : Nat → Nat
  | 0 => D
  | k + 1 => humN β (hs k) (runN β hs D k)
theorem runN_s (β : Al) (hs : Nat → Nat) (D k : Nat) : runN β hs D (k + 1) = humN β (hs k) (runN β hs D k) := rfl
def runS (α : Al) (hs : Nat → Nat) (sk D : Nat) : Nat → Nat
  | 0 => D
  | k + 1 => if k = sk then runS α hs sk D k else humN α (hs k) (runS α hs sk D k)
theorem runS_s (α : Al) (hs : Nat → Nat) (sk D k : Nat) : runS α hs sk D (k + 1) = if k = sk then runS α hs sk D k else humN α (hs k) (runS α hs sk D k) := rfl
def Fit (β : Al) (hs : Nat → Nat) (ds : Nat → Int32) (n D : Nat) : Prop := ∀ k, k < n → nI (runN β hs D (k + 1)) = ds k
theorem runS_lt {α : Al} (hv : Val α) {hs : Nat → Nat} {n : Nat} (hh : ∀ k, k < n → hs k < α 0 6) {sk D : Nat} (hD : D < 2 ^ α 0 0) : ∀ k, k ≤ n → runS α hs sk D k < 2 ^ α 0 0
  | 0, _ => hD
  | k + 1, h => by
    have ih := runS_lt hv hh (sk := sk) hD k (by omega)
    rw [runS_s]
    split
    · exact ih
    · exact humN_lt hv (hh k (by omega)) ih
theorem runN_lt {α : Al} (hv : Val α) {hs : Nat → Nat} {n : Nat} (hh : ∀ k, k < n → hs k < α 0 6) {D : Nat} (hD : D < 2 ^ α 0 0) : ∀ k, k ≤ n → runN α hs D k < 2 ^ α 0 0
  | 0, _ => hD
  | k + 1, h => humN_lt hv (hh k (by omega)) (runN_lt hv hh hD k (by omega))
/-- the told hums lie in Told -/
def Told (μ : Mem) (hs : Nat → Nat) (n : Nat) : Prop := μ 62 3 = nI n ∧ ∀ k, k < n → μ 63 k = nI (hs k)
theorem c_lastDream {μ : Mem} {α : Al} (hA : Abs (kac μ 15) α) (hv : Val α) {hs : Nat → Nat} {n : Nat} (hT : Told μ hs n) (hn : n ≤ 12) (hh : ∀ k, k < n → hs k < α 0 6) {x : Int32} {sk : Nat} (hx : (x = nI sk ∧ sk < n) ∨ (x = -1 ∧ sk = n)) :
    CtP yX7_lastDream cX7_lastDream 4 (some .int) 3 [vR 62, vI x] μ (Pi (fun r μ' => μ' = μ ∧ r = nI (runS α hs sk (α 0 3) n))) := by
  refine CtP.go RX7 rfl pn_X7 (Nat.le_of_ble_eq_true rfl) (fun C hG hR => ?_)
  have e3 : μ 15 3 = nI (α 0 3) := hA.1 3 (by decide)
  obtain ⟨t1, t2⟩ := hT
  have loop : ∀ k i, i + k = n → V C 10 [(0, vR 62), (1, vI x), (2, vI (nI (runS α hs sk (α 0 3) i))), (3, vI (nI i))] [] μ := by
    intro k
    induction k with
    | zero =>
      intro i hi
      refine V_iload_n (pc := 10) hG (dk dd_X7_lastDream 6 rfl) rfl ?_
      refine V_aload_n (pc := 11) hG (dk dd_X7_lastDream 7 rfl) rfl ?_
      refine V_getI (pc := 12) hG (dk dd_X7_lastDream 8 rfl) fl_X7_34 sh_62 rfl ?_
      refine V_icmp_ge (pc := 15) hG (dk dd_X7_lastDream 9 rfl) (tgt := 48) (by decide) (fun h15 => ?_) (fun h15 => ?_)
      refine V_iload_n (pc := 48) hG (dk dd_X7_lastDream 26 rfl) rfl ?_
      refine V_iretP (pc := 49) hG (dk dd_X7_lastDream 27 rfl) hR (Pi.mk ?_)
      rotate_left
      rotate_left
      -- leaves: return@49; stop 18
      · exact ⟨rfl, by rw [show i = n by omega]⟩
      · exfalso; rw [t1] at h15; have := nle_i h15 (by omega) (by omega); omega
    | succ k ih =>
      intro i hi
      have hI := ih (i + 1) (by omega)
      rw [nI_succ, runS_s] at hI
      have hr : vp_in (nI i) 12 := vp_in_nI (by omega) (by decide)
      have e : μ 63 (nI i).toNatClampNeg = nI (hs i) := by rw [nI_clamp (by omega)]; exact t2 i (by omega)
      have hl := runS_lt hv hh (sk := sk) hv.D i (by omega)
      refine V_iload_n (pc := 10) hG (dk dd_X7_lastDream 6 rfl) rfl ?_
      refine V_aload_n (pc := 11) hG (dk dd_X7_lastDream 7 rfl) rfl ?_
      refine V_getI (pc := 12) hG (dk dd_X7_lastDream 8 rfl) fl_X7_34 sh_62 rfl ?_
      refine V_icmp_ge (pc := 15) hG (dk dd_X7_lastDream 9 rfl) (tgt := 48) (by decide) (fun h15 => ?_) (fun h15 => ?_)
      rotate_left
      refine V_iload_n (pc := 18) hG (dk dd_X7_lastDream 10 rfl) rfl ?_
      refine V_iload_n (pc := 19) hG (dk dd_X7_lastDream 11 rfl) rfl ?_
      refine V_icmp_ne (pc := 20) hG (dk dd_X7_lastDream 12 rfl) (tgt := 27) (by decide) (fun h20 => ?_) (fun h20 => ?_)
      refine V_aload_n (pc := 27) hG (dk dd_X7_lastDream 15 rfl) rfl ?_
      refine V_getR (pc := 28) hG (dk dd_X7_lastDream 16 rfl) fl_X7_18 sh_62 rfl ?_
      refine V_aload_n (pc := 31) hG (dk dd_X7_lastDream 17 rfl) rfl ?_
      refine V_getR (pc := 32) hG (dk dd_X7_lastDream 18 rfl) fl_X7_9 sh_62 rfl ?_
      refine V_iload_n (pc := 35) hG (dk dd_X7_lastDream 19 rfl) rfl ?_
      refine V_iald (pc := 36) hG (dk dd_X7_lastDream 20 rfl) sh_63 hr ?_
      refine V_iload_n (pc := 37) hG (dk dd_X7_lastDream 21 rfl) rfl ?_
      refine V_callVi (pc := 38) hG (dk dd_X7_lastDream 22 rfl) ml_X7_57 mo_X2_by sh_15 rfl (c_by co_now hA hv e (hh i (by omega)) rfl hl) (by decide) (by decide) rfl rfl rfl ?_
      refine V_istore_n (pc := 41) hG (dk dd_X7_lastDream 23 rfl) (by decide) (lv' := [(0, _), (1, _), (2, _), (3, _)]) rfl ?_
      refine V_iinc (pc := 42) hG (dk dd_X7_lastDream 24 rfl) rfl (v := _ + 1) rfl (by decide) (lv' := [(0, _), (1, _), (2, _), (3, _)]) rfl ?_
      refine V_goto (pc := 45) hG (dk dd_X7_lastDream 25 rfl) (tgt := 10) (by decide) ?_
      rotate_left
      refine V_iload_n (pc := 23) hG (dk dd_X7_lastDream 13 rfl) rfl ?_
      refine V_goto (pc := 24) hG (dk dd_X7_lastDream 14 rfl) (tgt := 41) (by decide) ?_
      refine V_istore_n (pc := 41) hG (dk dd_X7_lastDream 23 rfl) (by decide) (lv' := [(0, _), (1, _), (2, _), (3, _)]) rfl ?_
      refine V_iinc (pc := 42) hG (dk dd_X7_lastDream 24 rfl) rfl (v := _ + 1) rfl (by decide) (lv' := [(0, _), (1, _), (2, _), (3, _)]) rfl ?_
      refine V_goto (pc := 45) hG (dk dd_X7_lastDream 25 rfl) (tgt := 10) (by decide) ?_
      rotate_left
      -- leaves: stop 48; stop 10; stop 10
      · exfalso; rw [t1] at h15; have := le_i h15 (by omega) (by omega); omega
      · rw [if_neg (fun q => by rcases hx with z | z; exact h20 (by rw [z.1, q]); omega)] at hI; exact hI
      · rw [if_pos (by
          rcases hx with z | z
          · rw [z.1] at h20; exact (nI_eq (by omega) (by omega)).mp h20
          · rw [z.1] at h20; exact absurd (show nI i < 0 by rw [h20]; decide) (nI_pos (by omega)))] at hI
        exact hI
  refine V_aload_n (pc := 0) hG (dk dd_X7_lastDream 0 rfl) rfl ?_
  refine V_getR (pc := 1) hG (dk dd_X7_lastDream 1 rfl) fl_X7_18 sh_62 rfl ?_
  refine V_getI (pc := 4) hG (dk dd_X7_lastDream 2 rfl) fl_X7_54 sh_15 rfl ?_
  refine V_istore_n (pc := 7) hG (dk dd_X7_lastDream 3 rfl) (by decide) (lv' := [(0, _), (1, _), (2, _)]) rfl ?_
  refine V_iconst (pc := 8) hG (dk dd_X7_lastDream 4 rfl) (v := 0) (by decide) ?_
  refine V_istore_n (pc := 9) hG (dk dd_X7_lastDream 5 rfl) (by decide) (lv' := [(0, _), (1, _), (2, _), (3, _)]) rfl ?_
  rotate_left
  -- leaves: stop 10
  · rw [e3]; exact loop n 0 (by omega)
/-- the hum h is otherwise, all others are as they are -/
def Oth (α β : Al) (h : Nat) : Prop := α 0 0 = β 0 0 ∧ ∀ q, q ≠ h → α 1 q = β 1 q ∧ α 2 q = β 2 q ∧ α 3 q = β 3 q
theorem Oth.hum {α β : Al} {h q : Nat} (hO : Oth α β h) (hq : q ≠ h) (D : Nat) : humN α q D = humN β q D := by
  obtain ⟨a, b, c⟩ := hO.2 q hq
  unfold humN; rw [hO.1, a, b, c]
theorem c_fits {μ : Mem} {α β : Al} (hA : Abs (kac μ 15) α) (hv : Val α) {hs : Nat → Nat} {n : Nat} (hT : Told μ hs n) (hn : n ≤ 12) (hh : ∀ k, k < n → hs k < α 0 6) {f hm kd th ot : Int32} {D h : Nat} (hf : f = nI D) (hD : D < 2 ^ α 0 0)
    (hO : Oth α β h) (hc : (hm = nI h ∧ h < α 0 6 ∧ kd = nI (β 1 h) ∧ (1 ≤ β 1 h ∧ β 1 h ≤ 5) ∧ th = nI (β 2 h) ∧ β 2 h < α 0 0 ∧ ot = nI (β 3 h) ∧ β 3 h < α 0 0) ∨ (hm = -1 ∧ ∀ q, q < α 0 6 → q ≠ h)) :
    CtP yX7_fits cX7_fits 8 (some .boolean) 3 [vR 62, vI f, vI hm, vI kd, vI th, vI ot] μ (Pi (fun r μ' => μ' = μ ∧ is1 r (Fit β hs (μ 64) n D))) := by
  refine CtP.go RX7 rfl pn_X7 (Nat.le_of_ble_eq_true rfl) (fun C hG hR => ?_)
  subst hf
  obtain ⟨t1, t2⟩ := hT
  have hrun : ∀ k, k ≤ n → runN β hs D k < 2 ^ α 0 0 := by
    intro k
    induction k with
    | zero => exact fun _ => hD
    | succ k ih =>
      intro hk
      have ih := ih (by omega)
      rw [runN_s]
      by_cases e : hs k = h
      · rcases hc with z | z
        · unfold humN; rw [e, ← hO.1]; exact humB_lt ih z.2.2.2.2.2.1
        · exact absurd e (z.2 _ (hh k (by omega)))
      · rw [← hO.hum e]; exact humN_lt hv (hh k (by omega)) ih
  have hH := hv.H
  have loop : ∀ k i, i + k = n → (∀ q, q < i → nI (runN β hs D (q + 1)) = μ 64 q) → V C 6 [(0, vR 62), (1, vI (nI D)), (2, vI hm), (3, vI kd), (4, vI th), (5, vI ot), (6, vI (nI (runN β hs D i))), (7, vI (nI i))] [] μ := by
    intro k
    induction k with
    | zero =>
      intro i hi hq
      refine V_iload (pc := 6) hG (dk dd_X7_fits 4 rfl) rfl ?_
      refine V_aload_n (pc := 8) hG (dk dd_X7_fits 5 rfl) rfl ?_
      refine V_getI (pc := 9) hG (dk dd_X7_fits 6 rfl) fl_X7_34 sh_62 rfl ?_
      refine V_icmp_ge (pc := 12) hG (dk dd_X7_fits 7 rfl) (tgt := 81) (by decide) (fun h12 => ?_) (fun h12 => ?_)
      refine V_iconst (pc := 81) hG (dk dd_X7_fits 41 rfl) (v := 1) (by decide) ?_
      refine V_zretP (pc := 82) hG (dk dd_X7_fits 42 rfl) (by decide) hR (Pi.mk ?_)
      rotate_left
      rotate_left
      -- leaves: return@82; stop 15
      · exact ⟨rfl, is1.t (fun q hq' => hq q (by omega))⟩
      · exfalso; rw [t1] at h12; have := nle_i h12 (by omega) (by omega); omega
    | succ k ih =>
      intro i hi hq
      have hI := fun z => ih (i + 1) (by omega) z
      rw [nI_succ] at hI
      have hr : vp_in (nI i) 12 := vp_in_nI (by omega) (by decide)
      have ci : (nI i).toNatClampNeg = i := nI_clamp (by omega)
      have e : μ 63 (nI i).toNatClampNeg = nI (hs i) := by rw [ci]; exact t2 i (by omega)
      have hhi := hh i (by omega)
      have hl := hrun i (by omega)
      have hl2 := hv.lt (hrun (i + 1) (by omega))
      have fin : V C 59 [(0, vR 62), (1, vI (nI D)), (2, vI hm), (3, vI kd), (4, vI th), (5, vI ot), (6, vI (nI (runN β hs D i))), (7, vI (nI i))] [vI (nI (runN β hs D (i + 1)))] μ := by
        refine V_istore (pc := 59) hG (dk dd_X7_fits 30 rfl) (by decide) (lv' := [(0, _), (1, _), (2, _), (3, _), (4, _), (5, _), (6, _), (7, _)]) rfl ?_
        refine V_iload (pc := 61) hG (dk dd_X7_fits 31 rfl) rfl ?_
        refine V_aload_n (pc := 63) hG (dk dd_X7_fits 32 rfl) rfl ?_
        refine V_getR (pc := 64) hG (dk dd_X7_fits 33 rfl) fl_X7_15 sh_62 rfl ?_
        refine V_iload (pc := 67) hG (dk dd_X7_fits 34 rfl) rfl ?_
        refine V_iald (pc := 69) hG (dk dd_X7_fits 35 rfl) sh_64 hr ?_
        refine V_icmp_eq (pc := 70) hG (dk dd_X7_fits 36 rfl) (tgt := 75) (by decide) (fun h70 => ?_) (fun h70 => ?_)
        refine V_iinc (pc := 75) hG (dk dd_X7_fits 39 rfl) rfl (v := _ + 1) rfl (by decide) (lv' := [(0, _), (1, _), (2, _), (3, _), (4, _), (5, _), (6, _), (7, _)]) rfl ?_
        refine V_goto (pc := 78) hG (dk dd_X7_fits 40 rfl) (tgt := 6) (by decide) ?_
        rotate_left
        refine V_iconst (pc := 73) hG (dk dd_X7_fits 37 rfl) (v := 0) (by decide) ?_
        refine V_zretP (pc := 74) hG (dk dd_X7_fits 38 rfl) (by decide) hR (Pi.mk ?_)
        rotate_left
        -- leaves: stop 6; return@74
        · rw [ci] at h70
          refine hI (fun q hq' => ?_)
          rcases Nat.lt_succ_iff_lt_or_eq.mp hq' with z | z
          · exact hq q z
          · rw [z]; exact h70
        · rw [ci] at h70
          exact ⟨rfl, is1.f (fun z => h70 (z i (by omega)))⟩
      refine V_iload (pc := 6) hG (dk dd_X7_fits 4 rfl) rfl ?_
      refine V_aload_n (pc := 8) hG (dk dd_X7_fits 5 rfl) rfl ?_
      refine V_getI (pc := 9) hG (dk dd_X7_fits 6 rfl) fl_X7_34 sh_62 rfl ?_
      refine V_icmp_ge (pc := 12) hG (dk dd_X7_fits 7 rfl) (tgt := 81) (by decide) (fun h12 => ?_) (fun h12 => ?_)
      rotate_left
      refine V_aload_n (pc := 15) hG (dk dd_X7_fits 8 rfl) rfl ?_
      refine V_getR (pc := 16) hG (dk dd_X7_fits 9 rfl) fl_X7_9 sh_62 rfl ?_
      refine V_iload (pc := 19) hG (dk dd_X7_fits 10 rfl) rfl ?_
      refine V_iald (pc := 21) hG (dk dd_X7_fits 11 rfl) sh_63 hr ?_
      refine V_iload_n (pc := 22) hG (dk dd_X7_fits 12 rfl) rfl ?_
      refine V_icmp_ne (pc := 23) hG (dk dd_X7_fits 13 rfl) (tgt := 43) (by decide) (fun h23 => ?_) (fun h23 => ?_)
      refine V_aload_n (pc := 43) hG (dk dd_X7_fits 22 rfl) rfl ?_
      refine V_getR (pc := 44) hG (dk dd_X7_fits 23 rfl) fl_X7_18 sh_62 rfl ?_
      refine V_aload_n (pc := 47) hG (dk dd_X7_fits 24 rfl) rfl ?_
      refine V_getR (pc := 48) hG (dk dd_X7_fits 25 rfl) fl_X7_9 sh_62 rfl ?_
      refine V_iload (pc := 51) hG (dk dd_X7_fits 26 rfl) rfl ?_
      refine V_iald (pc := 53) hG (dk dd_X7_fits 27 rfl) sh_63 hr ?_
      refine V_iload (pc := 54) hG (dk dd_X7_fits 28 rfl) rfl ?_
      refine V_callVi (pc := 56) hG (dk dd_X7_fits 29 rfl) ml_X7_57 mo_X2_by sh_15 rfl (c_by co_now hA hv e hhi rfl hl) (by decide) (by decide) rfl rfl rfl ?_
      rotate_left
      refine V_aload_n (pc := 26) hG (dk dd_X7_fits 14 rfl) rfl ?_
      refine V_getR (pc := 27) hG (dk dd_X7_fits 15 rfl) fl_X7_18 sh_62 rfl ?_
      refine V_iload_n (pc := 30) hG (dk dd_X7_fits 16 rfl) rfl ?_
      refine V_iload (pc := 31) hG (dk dd_X7_fits 17 rfl) rfl ?_
      refine V_iload (pc := 33) hG (dk dd_X7_fits 18 rfl) rfl ?_
      refine V_iload (pc := 35) hG (dk dd_X7_fits 19 rfl) rfl ?_
      refine V_callVi (pc := 37) hG (dk dd_X7_fits 20 rfl) ml_X7_88 mo_X2_byKind sh_15 rfl (c_byKind (t := α 0 0) (k := β 1 h) (K := β 2 h) (O := β 3 h) co_now (hA.1 0 (by decide)) hv.t ?_ ?_ ?_ ?_ ?_ ?_ rfl (hv.lt hl)) (by decide) (by decide) rfl rfl rfl ?_
      rotate_left
      rotate_left
      rotate_left
      rotate_left
      rotate_left
      rotate_left
      refine V_goto (pc := 40) hG (dk dd_X7_fits 21 rfl) (tgt := 59) (by decide) ?_
      rotate_left
      -- leaves: stop 81; stop 59; call byKind@37 0; call byKind@37 1; call byKind@37 2; call byKind@37 3; call byKind@37 4; call byKind@37 5; stop 59
      · exfalso; rw [t1] at h12; have := le_i h12 (by omega) (by omega); omega
      · have hne : hs i ≠ h := by
          intro q
          rcases hc with z | z
          · exact h23 (by rw [e, z.1, q])
          · exact z.2 _ hhi q
        rw [hO.hum hne, ← runN_s]; exact fin
      all_goals rcases hc with z | z
      all_goals try (exfalso; rw [e, z.1] at h23; exact absurd (show nI (hs i) < 0 by rw [h23]; decide) (nI_pos (by omega)))
      · exact z.2.2.1
      · exact z.2.2.2.1
      · exact z.2.2.2.2.1
      · exact z.2.2.2.2.2.1
      · exact z.2.2.2.2.2.2.1
      · exact z.2.2.2.2.2.2.2
      · have hne : hs i = h := by rw [e, z.1] at h23; exact (nI_eq (by omega) (by omega)).mp h23
        have := fin
        rw [runN_s, hne] at this
        unfold humN at this
        rw [← hO.1] at this
        exact this
  refine V_iload_n (pc := 0) hG (dk dd_X7_fits 0 rfl) rfl ?_
  refine V_istore (pc := 1) hG (dk dd_X7_fits 1 rfl) (by decide) (lv' := [(0, _), (1, _), (2, _), (3, _), (4, _), (5, _), (6, _)]) rfl ?_
  refine V_iconst (pc := 3) hG (dk dd_X7_fits 2 rfl) (v := 0) (by decide) ?_
  refine V_istore (pc := 4) hG (dk dd_X7_fits 3 rfl) (by decide) (lv' := [(0, _), (1, _), (2, _), (3, _), (4, _), (5, _), (6, _), (7, _)]) rfl ?_
  rotate_left
  -- leaves: stop 6
  · exact loop n 0 (by omega) (fun q hq => absurd hq (Nat.not_lt_zero q))
