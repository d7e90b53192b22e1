/-! ===== the model: how likely one is free ===== -/
theorem q_sb : ∀ D, D < 256 → ∀ s, s < 256 → s &&& D = s → (D &&& (4294967295 - s)) = D - s ∧ (D - s) &&& D = D - s ∧ bitsN (D - s) + bitsN s = bitsN D ∧ s ≤ D := by decide +kernel
theorem sumT_rev (g : Nat → Nat) (N : Nat) : ∀ k, k ≤ N + 1 → sumT (fun s => g (N - s)) k + sumT g (N + 1 - k) = sumT g (N + 1)
  | 0, _ => by rw [Nat.sub_zero]; exact Nat.zero_add _
  | k + 1, h => by
    have ih := sumT_rev g N k (by omega)
    rw [sumT_s, show N + 1 - k = (N - k) + 1 by omega, sumT_s] at *
    rw [show N + 1 - (k + 1) = N - k by omega]
    omega
theorem sumT_cg {f g : Nat → Nat} : ∀ {n : Nat}, (∀ i, i < n → f i = g i) → sumT f n = sumT g n
  | 0, _ => rfl
  | n + 1, h => by rw [sumT_s, sumT_s, sumT_cg (fun i hi => h i (by omega)), h n (by omega)]
theorem sumT_add (f : Nat → Nat) (a : Nat) : ∀ b, sumT f (a + b) = sumT f a + sumT (fun i => f (a + i)) b
  | 0 => rfl
  | b + 1 => by rw [← Nat.add_assoc, sumT_s, sumT_s, sumT_add f a b, Nat.add_assoc]
theorem sumT_mul (f : Nat → Nat) (c : Nat) : ∀ n, sumT (fun i => f i * c) n = sumT f n * c
  | 0 => by rw [show sumT f 0 = 0 from rfl, Nat.zero_mul]; rfl
  | n + 1 => by rw [sumT_s, sumT_s, sumT_mul f c n, Nat.add_mul]
theorem sumT_top {f : Nat → Nat} {n : Nat} (h : ∀ i, n ≤ i → f i = 0) : ∀ k, sumT f (n + k) = sumT f n
  | 0 => rfl
  | k + 1 => by rw [← Nat.add_assoc, sumT_s, sumT_top h k, h (n + k) (by omega)]; rfl
/-- the ways of one set, as the loop multiplies them -/
def wyN (D p s : Nat) : Nat → Nat
  | 0 => 1
  | t + 1 => wyN D p s t * (if D.testBit t then (if s.testBit t then p else 10 - p) else 1)
theorem wyN_s (D p s t : Nat) : wyN D p s (t + 1) = wyN D p s t * (if D.testBit t then (if s.testBit t then p else 10 - p) else 1) := rfl
def wzN (D p s : Nat) : Nat → Nat
  | 0 => 1
  | t + 1 => wzN D p s t * (if D.testBit t then (if s.testBit t then p else 10 - p) else (if s.testBit t then 0 else 1))
theorem wzN_s (D p s t : Nat) : wzN D p s (t + 1) = wzN D p s t * (if D.testBit t then (if s.testBit t then p else 10 - p) else (if s.testBit t then 0 else 1)) := rfl
theorem wzN_cg {D p s s' : Nat} : ∀ {t : Nat}, (∀ i, i < t → s.testBit i = s'.testBit i) → wzN D p s t = wzN D p s' t
  | 0, _ => rfl
  | t + 1, h => by rw [wzN_s, wzN_s, wzN_cg (fun i hi => h i (by omega)), h t (by omega)]
theorem wz_sum {D p : Nat} (hp : p ≤ 10) : ∀ t, sumT (fun s => wzN D p s t) (2 ^ t) = 10 ^ bitN D t
  | 0 => rfl
  | t + 1 => by
    have ih := wz_sum (D := D) hp t
    rw [Nat.pow_succ, Nat.mul_two, sumT_add]
    have h1 : sumT (fun s => wzN D p s (t + 1)) (2 ^ t) = sumT (fun s => wzN D p s t * (if D.testBit t then 10 - p else 1)) (2 ^ t) := sumT_cg (fun s hs => by
      rw [wzN_s, Nat.testBit_lt_two_pow hs]; simp)
    have h2 : sumT (fun i => wzN D p (2 ^ t + i) (t + 1)) (2 ^ t) = sumT (fun s => wzN D p s t * (if D.testBit t then p else 0)) (2 ^ t) := sumT_cg (fun s hs => by
      rw [wzN_s, Nat.testBit_two_pow_add_eq, Nat.testBit_lt_two_pow hs, wzN_cg (s' := s) (fun i hi => Nat.testBit_two_pow_add_gt hi s)]; simp)
    rw [h1, h2, sumT_mul, sumT_mul, ih, ← Nat.mul_add, bitN_s]
    by_cases z : D.testBit t = true
    · rw [if_pos z, if_pos z, if_pos z, Nat.pow_succ, show 10 - p + p = 10 by omega]
    · rw [if_neg z, if_neg z, if_neg z, Nat.add_zero, Nat.mul_one, Nat.add_zero]
theorem sub_bit {s D i : Nat} (h : s &&& D = s) (hi : s.testBit i = true) : D.testBit i = true := by
  have z := congrArg (fun w => Nat.testBit w i) h
  simp only [Nat.testBit_and] at z
  rw [hi] at z; simpa using z
theorem wy_wz {D p s : Nat} (h : s &&& D = s) : ∀ t, wzN D p s t = wyN D p s t
  | 0 => rfl
  | t + 1 => by
    rw [wzN_s, wyN_s, wy_wz h t]
    by_cases z : D.testBit t = true
    · rw [if_pos z, if_pos z]
    · have : ¬ s.testBit t = true := fun w => z (sub_bit h w)
      rw [if_neg z, if_neg z, if_neg this]
theorem wz_0 {D p s t : Nat} (hs : s < 2 ^ t) (h : ¬ s &&& D = s) : wzN D p s t = 0 := by
  -- a bit of s that D has not
  have : ∃ i, s.testBit i = true ∧ ¬ D.testBit i = true := Classical.byContradiction (fun q => h (by
    apply Nat.eq_of_testBit_eq
    intro i
    rw [Nat.testBit_and]
    cases e : s.testBit i with
    | false => rfl
    | true =>
      have : D.testBit i = true := Classical.byContradiction (fun w => q ⟨i, e, w⟩)
      rw [this]; rfl))
  obtain ⟨i, h1, h2⟩ := this
  have hi : i < t := Nat.not_le.mp (fun q => by
    have : s.testBit i = false := Nat.testBit_lt_two_pow (Nat.lt_of_lt_of_le hs (Nat.pow_le_pow_right (by decide) q))
    rw [this] at h1; cases h1)
  have go : ∀ t, i < t → wzN D p s t = 0 := by
    intro t
    induction t with
    | zero => intro q; omega
    | succ t ih =>
      intro q
      rw [wzN_s]
      by_cases z : i = t
      · rw [← z, if_neg h2, if_pos h1, Nat.mul_zero]
      · rw [ih (by omega), Nat.zero_mul]
  exact go t hi
theorem wy_pow {D p s : Nat} (h : s &&& D = s) : ∀ t, wyN D p s t = p ^ bitN s t * (10 - p) ^ (bitN D t - bitN s t)
  | 0 => rfl
  | t + 1 => by
    have hm := bits_mono h t
    rw [wyN_s, wy_pow h t, bitN_s, bitN_s]
    by_cases z : D.testBit t = true
    · rw [if_pos z, if_pos z]
      by_cases w : s.testBit t = true
      · rw [if_pos w, if_pos w, Nat.pow_succ, show bitN D t + 1 - (bitN s t + 1) = bitN D t - bitN s t by omega, Nat.mul_right_comm]
      · rw [if_neg w, if_neg w, show bitN D t + 1 - (bitN s t + 0) = (bitN D t - bitN s t) + 1 by omega, Nat.pow_succ, Nat.add_zero, Nat.mul_assoc]
    · have : ¬ s.testBit t = true := fun w => z (sub_bit h w)
      rw [if_neg z, if_neg this, if_neg z, Nat.mul_one]; rfl
theorem bitN_top {D t : Nat} (h : D < 2 ^ t) : ∀ k, bitN D (t + k) = bitN D t
  | 0 => rfl
  | k + 1 => by
    rw [← Nat.add_assoc, bitN_s, bitN_top h k, Nat.testBit_lt_two_pow (Nat.lt_of_lt_of_le h (Nat.pow_le_pow_right (by decide) (by omega)))]; rfl
theorem bitN_8 {D t : Nat} (h : D < 2 ^ t) (ht : t ≤ 8) : bitN D t = bitsN D := by
  have := bitN_top h (8 - t)
  rw [show t + (8 - t) = 8 by omega] at this; exact this.symm
/-- the term of a set, below and above -/
def wsN (D p t s : Nat) : Nat := if s &&& D = s then wyN D p s t else 0
theorem ws_sum {D p t : Nat} (hp : p ≤ 10) (hD : D < 2 ^ t) (ht : t ≤ 8) : sumT (wsN D p t) (D + 1) = 10 ^ bitsN D := by
  have h1 : sumT (wsN D p t) (2 ^ t) = sumT (fun s => wzN D p s t) (2 ^ t) := sumT_cg (fun s hs => by
    unfold wsN
    by_cases z : s &&& D = s
    · rw [if_pos z, wy_wz z]
    · rw [if_neg z, wz_0 hs z])
  have h2 := sumT_top (f := wsN D p t) (n := D + 1) (fun i hi => by
    unfold wsN
    rw [if_neg (fun z => by have : i &&& D ≤ D := Nat.and_le_right; omega)]) (2 ^ t - (D + 1))
  rw [show D + 1 + (2 ^ t - (D + 1)) = 2 ^ t by omega] at h2
  rw [← h2, h1, wz_sum hp, bitN_8 hD ht]
theorem prt_sum {α : Al} {D c p t : Nat} (hD : D < 2 ^ t) : sumT (fun s => prtN α D c p (D - s)) (D + 1) = sumT (prtN α D c p) (2 ^ t) := by
  have h1 := sumT_rev (prtN α D c p) D (D + 1) (Nat.le_refl _)
  rw [Nat.sub_self, show sumT (prtN α D c p) 0 = 0 from rfl, Nat.add_zero] at h1
  have h2 := sumT_top (f := prtN α D c p) (n := D + 1) (fun i hi => by
    unfold prtN
    rw [if_neg (fun z => by have : i &&& D ≤ D := Nat.and_le_right; have := z.1; omega)]) (2 ^ t - (D + 1))
  rw [show D + 1 + (2 ^ t - (D + 1)) = 2 ^ t by omega] at h2
  rw [h1, h2]
theorem prt_at {α : Al} {D c p s t : Nat} (hD : D < 2 ^ t) (ht : t ≤ 8) (hs : s &&& D = s) : prtN α D c p (D - s) = if verN α c (D - s) = 1 then wyN D p s t else 0 := by
  have hp := pow8 ht
  have sl : s ≤ D := by have : s &&& D ≤ D := Nat.and_le_right; omega
  obtain ⟨_, b2, b3, _⟩ := q_sb D (by omega) s (by omega) hs
  have e1 : bitN s t = bitsN s := bitN_8 (by omega) ht
  have e2 : bitN D t = bitsN D := bitN_8 hD ht
  unfold prtN
  by_cases z : verN α c (D - s) = 1
  · rw [if_pos ⟨b2, z⟩, if_pos z, wy_pow hs, e1, e2, Nat.mul_comm, show bitsN D - bitsN (D - s) = bitsN s by omega, show bitsN (D - s) = bitsN D - bitsN s by omega]
  · rw [if_neg (fun q => z q.2), if_neg z]
theorem prt_no {α : Al} {D c p s : Nat} (hD : D < 256) (hl : s ≤ D) (hs : ¬ s &&& D = s) : prtN α D c p (D - s) = 0 := by
  unfold prtN
  rw [if_neg (fun q => hs ?_)]
  obtain ⟨_, b2, _, _⟩ := q_sb D hD (D - s) (by omega) q.1
  rw [show D - (D - s) = s by omega] at b2; exact b2
theorem nI_andn {D s : Nat} (hD : D < 256) (hs : s < 256) (h : s &&& D = s) : nI D &&& (nI s ^^^ (-1)) = nI (D - s) := by
  have e := (q_sb D hD s hs h).1
  apply Int32.toBitVec_inj.mp
  apply BitVec.eq_of_toNat_eq
  rw [Int32.toBitVec_and, Int32.toBitVec_xor, BitVec.toNat_and, BitVec.toNat_xor, pk_tn (n := D) (by omega), pk_tn (n := s) (by omega), pk_tn (n := D - s) (by omega), ← e]
  congr 1
  have : ∀ s, s < 256 → s ^^^ (-1 : Int32).toBitVec.toNat = 4294967295 - s := by decide +kernel
  exact this s hs
theorem wy_le {D p s : Nat} (hp : p ≤ 10) : ∀ t, wyN D p s t ≤ 10 ^ t
  | 0 => Nat.le_refl _
  | t + 1 => by
    rw [wyN_s, Nat.pow_succ]
    refine Nat.mul_le_mul (wy_le hp t) ?_
    split
    · split <;> omega
    · omega
