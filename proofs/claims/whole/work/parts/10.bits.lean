/-! ===== numbers: sets of things as bits of an int ===== -/
theorem pn_X0 : plainName RX0 = true := by decide +kernel
theorem pn_X1 : plainName RX1 = true := by decide +kernel
theorem pn_X2 : plainName RX2 = true := by decide +kernel
theorem pn_X3 : plainName RX3 = true := by decide +kernel
theorem pn_X4 : plainName RX4 = true := by decide +kernel
theorem pn_X5 : plainName RX5 = true := by decide +kernel
theorem pn_X6 : plainName RX6 = true := by decide +kernel
theorem pn_X7 : plainName RX7 = true := by decide +kernel
theorem pn_X8 : plainName RX8 = true := by decide +kernel
theorem pn_X9 : plainName RX9 = true := by decide +kernel
theorem pn_X10 : plainName RX10 = true := by decide +kernel
theorem pn_J6 : plainName RJ6 = true := by decide +kernel
theorem pn_J7 : plainName RJ7 = true := by decide +kernel
def bI (k : Int32) : Int32 := 1 <<< (k &&& 31)
abbrev hasI (d k : Int32) : Prop := (d >>> (k &&& 31)) &&& 1 = 1
/-- the dream behind a hum of a kind -/
def humF (T kd th ot d : Int32) : Int32 :=
  if kd = 1 then d ||| bI th
  else if kd = 2 then d ||| bI th ||| bI ((th + 1) - (th + 1) / T * T)
  else if kd = 3 then (if hasI d ot then d ||| bI th else d)
  else if kd = 4 then d &&& (bI ot ^^^ (-1))
  else (if hasI d ot then d &&& (bI ot ^^^ (-1)) ||| bI th else d)
def bitS (d : Int32) : Nat → Int32
  | 0 => 0
  | n + 1 => bitS d n + ((d >>> (nI n &&& 31)) &&& 1)
def bitsF (d : Int32) : Int32 := bitS d 8
def wornS (w d : Int32) : Nat → Int32
  | 0 => 0
  | n + 1 => if hasI d (nI n) ∧ bitsF (wornS w d n) < w then wornS w d n ||| bI (nI n) else wornS w d n
def wornF (w d : Int32) : Int32 := wornS w d 8
theorem bq_has : ∀ d, d < 256 → ∀ k, k < 8 → ((nI d &&& bI (nI k) = 0) ↔ ¬ hasI (nI d) (nI k)) ∧ (((nI d >>> (nI k &&& 31)) &&& 1 = 0) ↔ ¬ hasI (nI d) (nI k)) := by decide +kernel
theorem bq_or : ∀ d, d < 256 → ∀ k, k < 8 → ∃ e, e < 256 ∧ nI d ||| bI (nI k) = nI e := by
  have h : ∀ d, d < 256 → ∀ k, k < 8 → nI d ||| bI (nI k) = nI (d ||| 2 ^ k) ∧ (d ||| 2 ^ k) < 256 := by decide +kernel
  exact fun d hd k hk => ⟨_, (h d hd k hk).2, (h d hd k hk).1⟩
theorem bq_behind : ∀ t, t < 9 → ∀ k, k < t → (nI k + 1) - (nI k + 1) / nI t * nI t = if nI t ≤ nI k + 1 then 0 else nI k + 1 := by decide +kernel
