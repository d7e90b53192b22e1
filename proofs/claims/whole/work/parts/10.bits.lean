/-! ===== numbers: sets of things as bits of an int ===== -/
theorem pn_X0 : plainName RX0 = true := by decide +kernel
theorem pn_X1 : plainName RX1 = true := by decide +kernel
theorem pn_X2 : plainName RX2 = true := by decide +kernel
theorem pn_X3 : plainName RX3 = true := by decide +kernel
theorem pn_X4 : plainName RX4 = true := by decide +kernel
theorem pn_X5 : plainName RX5 = true := by decide +kernel
theorem pn_X6 : plainName RX6 = true := by decide +kernel
theorem pn_X7 : plainName RX7 = true := by decide +kernel
theorem pn_X8 : plainName RX8 = true := by decide +kernel
theorem pn_X9 : plainName RX9 = true := by decide +kernel
theorem pn_X10 : plainName RX10 = true := by decide +kernel
theorem pn_J6 : plainName RJ6 = true := by decide +kernel
theorem pn_J7 : plainName RJ7 = true := by decide +kernel
def bI (k : Int32) : Int32 := 1 <<< (k &&& 31)
theorem bI_eq (k : Int32) : (1 : Int32) <<< (k &&& 31) = bI k := rfl
/-! ===== the court as numbers: 0 scalars (things, wears, most, dream, hummed, night, hums, cases), 1 kinds, 2 things, 3 others, 4 pleas, 5 loses, 6 wins, 7 ways ===== -/
abbrev Al : Type := Nat → Nat → Nat
def clr (D O : Nat) : Nat := if D.testBit O then D - 2 ^ O else D
def bhN (t K : Nat) : Nat := if t ≤ K + 1 then 0 else K + 1
def humB (t kd K O D : Nat) : Nat :=
  if kd = 1 then D ||| 2 ^ K
  else if kd = 2 then D ||| 2 ^ K ||| 2 ^ bhN t K
  else if kd = 3 then (if D.testBit O then D ||| 2 ^ K else D)
  else if kd = 4 then clr D O
  else (if D.testBit O then clr D O ||| 2 ^ K else D)
def humN (α : Al) (h D : Nat) : Nat := humB (α 0 0) (α 1 h) (α 2 h) (α 3 h) D
def bitN (D : Nat) : Nat → Nat
  | 0 => 0
  | n + 1 => bitN D n + (if D.testBit n then 1 else 0)
def bitsN (D : Nat) : Nat := bitN D 8
def wcnt (w D : Nat) : Nat → Nat
  | 0 => 0
  | n + 1 => if D.testBit n ∧ wcnt w D n < w then wcnt w D n + 1 else wcnt w D n
def wset (w D : Nat) : Nat → Nat
  | 0 => 0
  | n + 1 => if D.testBit n ∧ wcnt w D n < w then wset w D n ||| 2 ^ n else wset w D n
def wornN (w D : Nat) : Nat := wset w D 8
theorem wcnt_s (w D n : Nat) : wcnt w D (n + 1) = if D.testBit n ∧ wcnt w D n < w then wcnt w D n + 1 else wcnt w D n := rfl
theorem wset_s (w D n : Nat) : wset w D (n + 1) = if D.testBit n ∧ wcnt w D n < w then wset w D n ||| 2 ^ n else wset w D n := rfl
theorem bitN_s (D n : Nat) : bitN D (n + 1) = bitN D n + (if D.testBit n then 1 else 0) := rfl
theorem bits0 : bitsN 0 = 0 := by decide +kernel
def judN (α : Al) (c D : Nat) : Nat := if D.testBit (α 5 c) then 2 else if D.testBit (α 6 c) then 1 else 0
def verN (α : Al) (c D : Nat) : Nat := judN α c (humN α (α 4 c) D)
def heaN (α : Al) (c D : Nat) : Nat := wornN (α 0 1) (humN α (α 4 c) D)
def thoN (α : Al) (w : Nat) : Nat → Nat
  | 0 => 0
  | c + 1 => thoN α w c ||| (if α 7 c = w then 2 ^ c else 0)
theorem thoN_s (α : Al) (w c : Nat) : thoN α w (c + 1) = thoN α w c ||| (if α 7 c = w then 2 ^ c else 0) := rfl
theorem q_or : ∀ D, D < 256 → ∀ K, K < 8 → nI D ||| bI (nI K) = nI (D ||| 2 ^ K) := by decide +kernel
theorem q_clr : ∀ D, D < 256 → ∀ K, K < 8 → nI D &&& (bI (nI K) ^^^ (-1)) = nI (clr D K) := by decide +kernel
theorem q_has : ∀ D, D < 256 → ∀ K, K < 8 → (nI D >>> (nI K &&& 31)) &&& 1 = nI (if D.testBit K then 1 else 0) := by decide +kernel
theorem q_and : ∀ D, D < 256 → ∀ K, K < 8 → ((nI D &&& bI (nI K) = 0) ↔ D.testBit K = false) := by decide +kernel
theorem q_pow : ∀ t, t < 31 → bI (nI t) = nI (2 ^ t) := by decide +kernel
theorem q_beh : ∀ t, t < 9 → ∀ k, k < t → (nI k + 1) - (nI k + 1) / nI t * nI t = nI (bhN t k) := by decide +kernel
theorem q_or2 : ∀ D, D < 256 → ∀ K, K < 256 → nI D ||| nI K = nI (D ||| K) := by
  intro D hD K hK
  apply Int32.toBitVec_inj.mp
  apply BitVec.eq_of_toNat_eq
  rw [Int32.toBitVec_or, BitVec.toNat_or, pk_tn (n := D) (by omega), pk_tn (n := K) (by omega), pk_tn (Nat.lt_of_lt_of_le (Nat.or_lt_two_pow (n := 8) (by omega) (by omega)) (by decide))]
theorem clr_le (D O : Nat) : clr D O ≤ D := by
  unfold clr
  split
  · exact Nat.sub_le _ _
  · exact Nat.le_refl _
theorem bhN_lt {t K : Nat} (h : K < t) : bhN t K < t := by unfold bhN; split <;> omega
theorem or_lt {t D K : Nat} (h : D < 2 ^ t) (hk : K < t) : D ||| 2 ^ K < 2 ^ t := Nat.or_lt_two_pow h (Nat.pow_lt_pow_right (by decide) hk)
theorem humB_lt {t kd K O D : Nat} (hD : D < 2 ^ t) (hK : K < t) : humB t kd K O D < 2 ^ t := by
  have hc : clr D O < 2 ^ t := Nat.lt_of_le_of_lt (clr_le D O) hD
  unfold humB
  split
  · exact or_lt hD hK
  · split
    · exact or_lt (or_lt hD hK) (bhN_lt hK)
    · split
      · split
        · exact or_lt hD hK
        · exact hD
      · split
        · exact hc
        · split
          · exact or_lt hc hK
          · exact hD
theorem pow8 {t : Nat} (h : t ≤ 8) : 2 ^ t ≤ 256 := Nat.pow_le_pow_right (by decide) h
theorem q_t1 {D K : Nat} (hD : D < 256) (hK : K < 8) : ((nI D >>> (nI K &&& 31)) &&& 1 = 0) ↔ D.testBit K = false := by
  rw [q_has D hD K hK]; cases D.testBit K <;> decide
theorem q_t2 {D K : Nat} (hD : D < 256) (hK : K < 8) : ((nI D >>> (nI K &&& 31)) &&& 1 = 1) ↔ D.testBit K = true := by
  rw [q_has D hD K hK]; cases D.testBit K <;> decide
theorem q_cmp {a b : Nat} (ha : a < 2 ^ 31) (hb : b < 2 ^ 31) : (nI a ≤ nI b ↔ a ≤ b) ∧ (nI a < nI b ↔ a < b) ∧ (nI a = nI b ↔ a = b) := ⟨nI_leI ha hb, nI_ltI ha hb, nI_eq ha hb⟩
theorem q_bits1 : ∀ n, n < 8 → ∀ x, x < 2 ^ n → bitsN (x ||| 2 ^ n) = bitsN x + 1 := by decide +kernel
theorem bitN_le (D : Nat) : ∀ n, bitN D n ≤ n
  | 0 => Nat.le_refl _
  | n + 1 => by have := bitN_le D n; rw [bitN_s]; split <;> omega
theorem bitsN_le (D : Nat) : bitsN D ≤ 8 := bitN_le D 8
theorem wset_lt (w D : Nat) : ∀ n, wset w D n < 2 ^ n
  | 0 => Nat.one_pos
  | n + 1 => by
    have h := wset_lt w D n
    have h2 : 2 ^ n < 2 ^ (n + 1) := Nat.pow_lt_pow_right (by decide) (Nat.lt_succ_self n)
    rw [wset_s]
    split
    · exact or_lt (Nat.lt_trans h h2) (Nat.lt_succ_self n)
    · exact Nat.lt_trans h h2
theorem wset_bits (w D : Nat) : ∀ n, n ≤ 8 → bitsN (wset w D n) = wcnt w D n
  | 0, _ => bits0
  | n + 1, h => by
    have ih := wset_bits w D n (by omega)
    rw [wset_s, wcnt_s]
    by_cases q : D.testBit n = true ∧ wcnt w D n < w
    · rw [if_pos q, if_pos q, q_bits1 n (by omega) _ (wset_lt w D n), ih]
    · rw [if_neg q, if_neg q]; exact ih
theorem wcnt_stop {w D n : Nat} (h : w ≤ wcnt w D n) : ∀ k, wset w D (n + k) = wset w D n ∧ wcnt w D (n + k) = wcnt w D n
  | 0 => ⟨rfl, rfl⟩
  | k + 1 => by
    obtain ⟨h1, h2⟩ := wcnt_stop h k
    have e : ¬ (D.testBit (n + k) = true ∧ wcnt w D (n + k) < w) := fun q => by rw [h2] at q; omega
    show wset w D (n + k + 1) = _ ∧ wcnt w D (n + k + 1) = _
    rw [wset_s, wcnt_s, if_neg e, if_neg e]
    exact ⟨h1, h2⟩
theorem wset_top {w D t : Nat} (hD : D < 2 ^ t) : ∀ k, wset w D (t + k) = wset w D t
  | 0 => rfl
  | k + 1 => by
    have hb : D.testBit (t + k) = false := Nat.testBit_lt_two_pow (Nat.lt_of_lt_of_le hD (Nat.pow_le_pow_right (by decide) (by omega)))
    show wset w D (t + k + 1) = _
    rw [wset_s, if_neg (by rw [hb]; exact fun q => by cases q.1)]
    exact wset_top hD k
theorem wornN_lt {w D t : Nat} (hD : D < 2 ^ t) (ht : t ≤ 8) : wornN w D < 2 ^ t := by
  unfold wornN
  have := wset_top (w := w) hD (8 - t)
  rw [show t + (8 - t) = 8 by omega] at this
  rw [this]
  exact wset_lt w D t
/-- which numbers a court is -/
def Abs (κ : Nat → Nat → Int32) (α : Al) : Prop := (∀ i, i < 8 → κ 0 i = nI (α 0 i)) ∧ (∀ x h, 1 ≤ x → x ≤ 3 → h < α 0 6 → κ x h = nI (α x h)) ∧ (∀ x c, 4 ≤ x → x ≤ 7 → c < α 0 7 → κ x c = nI (α x c))
def HumOk (α : Al) (h : Nat) : Prop := 1 ≤ α 1 h ∧ α 1 h ≤ 5 ∧ α 2 h < α 0 0 ∧ α 3 h < α 0 0
def CaseOk (α : Al) (c : Nat) : Prop := α 4 c < α 0 6 ∧ α 5 c < α 0 0 ∧ α 6 c < α 0 0 ∧ α 7 c < 4
def Val (α : Al) : Prop := (3 ≤ α 0 0 ∧ α 0 0 ≤ 8) ∧ α 0 1 ≤ 8 ∧ (1 ≤ α 0 2 ∧ α 0 2 ≤ 9) ∧ α 0 3 < 2 ^ α 0 0 ∧ α 0 4 ≤ α 0 2 ∧ (1 ≤ α 0 6 ∧ α 0 6 ≤ 6) ∧ α 0 7 ≤ 5 ∧ (∀ h, h < α 0 6 → HumOk α h) ∧ (∀ c, c < α 0 7 → CaseOk α c)
theorem Val.t {α : Al} (h : Val α) : α 0 0 ≤ 8 := h.1.2
theorem Val.w {α : Al} (h : Val α) : α 0 1 ≤ 8 := h.2.1
theorem Val.D {α : Al} (h : Val α) : α 0 3 < 2 ^ α 0 0 := h.2.2.2.1
theorem Val.H {α : Al} (h : Val α) : α 0 6 ≤ 6 := h.2.2.2.2.2.1.2
theorem Val.C {α : Al} (h : Val α) : α 0 7 ≤ 5 := h.2.2.2.2.2.2.1
theorem Val.h {α : Al} (h : Val α) {k : Nat} (hk : k < α 0 6) : HumOk α k := h.2.2.2.2.2.2.2.1 k hk
theorem Val.c {α : Al} (h : Val α) {k : Nat} (hk : k < α 0 7) : CaseOk α k := h.2.2.2.2.2.2.2.2 k hk
theorem humN_lt {α : Al} (hv : Val α) {h D : Nat} (hh : h < α 0 6) (hD : D < 2 ^ α 0 0) : humN α h D < 2 ^ α 0 0 := humB_lt hD (hv.h hh).2.2.1
theorem heaN_lt {α : Al} (hv : Val α) {c D : Nat} (hc : c < α 0 7) (hD : D < 2 ^ α 0 0) : heaN α c D < 2 ^ α 0 0 := wornN_lt (humN_lt hv (hv.c hc).1 hD) hv.t
theorem Val.lt {α : Al} (h : Val α) {D : Nat} (hD : D < 2 ^ α 0 0) : D < 256 := Nat.lt_of_lt_of_le hD (pow8 h.t)
theorem verN_lt (α : Al) (c D : Nat) : verN α c D < 3 := by
  unfold verN judN
  split
  · decide
  · split <;> decide
theorem thoN_lt (α : Al) (w : Nat) : ∀ n, thoN α w n < 2 ^ n
  | 0 => Nat.one_pos
  | n + 1 => by
    have h2 : 2 ^ n < 2 ^ (n + 1) := Nat.pow_lt_pow_right (by decide) (Nat.lt_succ_self n)
    have h := Nat.lt_trans (thoN_lt α w n) h2
    rw [thoN_s]
    split
    · exact or_lt h (Nat.lt_succ_self n)
    · rw [Nat.or_zero]; exact h
/-- the class's courts, the model's rows -/
def kac (μ : Mem) (b : Nat) : Nat → Nat → Int32 := fun x i => μ (b + x) i
def pmN (i : Nat) : Nat := match i with | 0 => 0 | 1 => 1 | 2 => 2 | 3 => 6 | 4 => 7 | 5 => 5 | 6 => 3 | _ => 4
def kap (f : Nat → Int32) : Nat → Nat → Int32 := fun x i => if x = 0 then f (pmN i) else if x < 4 then f (7 + 3 * i + x) else f (22 + 4 * i + x)
theorem nI_lt31 {n m : Nat} (h : n < m) (hm : m ≤ 2 ^ 31) : n < 2 ^ 31 := Nat.lt_of_lt_of_le h hm
theorem nI_cl {x : Int32} {n : Nat} (h : x = nI n) (hn : n < 2 ^ 31) : x.toNatClampNeg = n := by rw [h]; exact nI_clamp hn
theorem in_nI {x : Int32} {n m : Nat} (h : x = nI n) (hn : n < m) (hm : m < 2 ^ 31) : vp_in x m := by rw [h]; exact vp_in_nI hn hm
/-- a checked number is a small one -/
theorem chk {x y : Int32} {n : Nat} (hy : y = nI n) (hn : n < 2 ^ 31) (h0 : 0 ≤ x) (h : x < y) : ∃ j, j < n ∧ x = nI j := by
  obtain ⟨j, hj, rfl⟩ := nI_of (Int32.not_lt.mpr h0)
  rw [hy] at h
  exact ⟨j, (nI_ltI hj hn).mp h, rfl⟩
theorem setc_c (μ : Mem) (a : Nat) (f g : Nat → Int32) : setc (setc μ a f) a g = setc μ a g := by
  funext i; unfold setc; by_cases h : i = a <;> simp [h]
theorem setc_id (μ : Mem) (a : Nat) : setc μ a (μ a) = μ := by
  funext i; unfold setc; by_cases h : i = a <;> simp [h]
