/-! the class's static methods, and the reference's, as functions -/
def ushrL (x : Int64) (y : Int32) : Int64 := (x.toUInt64 >>> (y.toInt64.toUInt64 &&& Int64.toUInt64 63)).toInt64
def shlL (x : Int64) (y : Int32) : Int64 := x <<< (y.toInt64 &&& 63)
def ushrI (x y : Int32) : Int32 := (x.toUInt32 >>> (y.toUInt32 &&& Int32.toUInt32 31)).toInt32
def remI (x y : Int32) : Int32 := x - x / y * y
def remL (x y : Int64) : Int64 := x - x / y * y
def f_bitOf (r : Int64) (i : Int32) : Int32 := (ushrL r i &&& 1).toInt32
def g_bitOf (r : Int64) (i : Int32) : Int32 := (ushrL r i).toInt32 &&& 1
def f_low (n : Int32) : Int64 := if n < 64 then shlL 1 n - 1 else -1
def f_gated (g : Int32) (a b c : Int64) : Int64 := if g = 0 then a &&& b else if g = 1 then a ||| b else if g = 2 then a ^^^ b else if g = 3 then (a ^^^ b) ^^^ (-1) else if g = 4 then a &&& (b ^^^ (-1)) else if g = 5 then (b &&& c) ||| (a &&& (c ^^^ (-1))) else ((a &&& b) ||| (a &&& c)) ||| (b &&& c)
def g_gated (g a b c : Int32) : Int32 := if g = 0 then a * b else if g = 1 then (if a + b ≤ 0 then 0 else 1) else if g = 2 then (if a = b then 0 else 1) else if g = 3 then (if a = b then 1 else 0) else if g = 4 then (if a = 1 ∧ b = 0 then 1 else 0) else if g = 5 then (if c = 1 then b else a) else (if a + b + c ≤ 1 then 0 else 1)
def f_power (b : Int64) : Nat → Int64
  | 0 => 1
  | k + 1 => f_power b k * b
/-- Euclid's steps, n at most -/
def f_cd : Nat → Int64 → Int64 → Int64
  | 0, a, _ => a
  | n + 1, a, b => if b = 0 then a else f_cd n b (remL a b)
def f_common (a b : Int64) : Int64 := if 1 < f_cd 100 a b then f_cd 100 a b else 1
def f_absL (a : Int64) : Int64 := if 0 < a then a else -a
def f_terms (a b : Int64) (p : Int32) : Int64 := if p = 0 then a / f_common (f_absL a) b else b / f_common (f_absL a) b
def f_ways (m c : Int32) : Nat → Int64
  | 0 => 1
  | k + 1 => f_ways m c k * (m - c + nI (k + 1)).toInt64 / (nI (k + 1)).toInt64
def g_abs (a : Int64) : Int64 := if 0 ≤ a then a else -a
def g_chosen (j : Int32) : Nat → Int64
  | 0 => 1
  | k + 1 => g_chosen j k * (j - nI k).toInt64 / (nI k + 1).toInt64
def bi1 (x : Int32) : Int32 := x - (ushrI x 1 &&& 1431655765)
def bi2 (x : Int32) : Int32 := (x &&& 858993459) + (ushrI x 2 &&& 858993459)
def bi3 (x : Int32) : Int32 := (x + ushrI x 4) &&& 252645135
def bi4 (x : Int32) : Int32 := x + ushrI x 8
def bi5 (x : Int32) : Int32 := x + ushrI x 16
def f_bci (x : Int32) : Int32 := bi5 (bi4 (bi3 (bi2 (bi1 x)))) &&& 63
def bc1 (x : Int64) : Int64 := x - (ushrL x 1 &&& 6148914691236517205)
def bc2 (x : Int64) : Int64 := (x &&& 3689348814741910323) + (ushrL x 2 &&& 3689348814741910323)
def bc3 (x : Int64) : Int64 := (x + ushrL x 4) &&& 1085102592571150095
def bc4 (x : Int64) : Int64 := x + ushrL x 8
def bc5 (x : Int64) : Int64 := x + ushrL x 16
def bc6 (x : Int64) : Int64 := x + ushrL x 32
def f_bc (x : Int64) : Int32 := (bc6 (bc5 (bc4 (bc3 (bc2 (bc1 x)))))).toInt32 &&& 127
def f_floorDiv (x y : Int64) : Int64 := if 0 ≤ x ^^^ y then x / y else if x / y * y = x then x / y else x / y - 1
theorem cl_lt {a : Int32} : a.toNatClampNeg < 2 ^ 31 := by
  have h := fb_rng a
  show a.toInt.toNat < _
  omega
theorem cl_end {a : Int32} {k : Nat} (hk : k ≤ a.toNatClampNeg) (h : a ≤ nI k) : a.toNatClampNeg = k := by
  have h1 := cl_lt (a := a)
  have h2 := nI_toInt (n := k) (by omega)
  have h3 : a.toNatClampNeg = a.toInt.toNat := rfl
  rw [Int32.le_iff_toInt_le, h2] at h
  omega
theorem cl_go {a : Int32} {k : Nat} (hk : k ≤ a.toNatClampNeg) (h : ¬ a ≤ nI k) : k < a.toNatClampNeg := by
  have h1 := cl_lt (a := a)
  have h2 := nI_toInt (n := k) (by omega)
  have h3 : a.toNatClampNeg = a.toInt.toNat := rfl
  rw [Int32.le_iff_toInt_le, h2] at h
  omega
theorem cl_end1 {a : Int32} {k : Nat} (hN : a.toNatClampNeg < 2 ^ 30) (hk : k ≤ a.toNatClampNeg) (h : a < nI (k + 1)) : a.toNatClampNeg = k := by
  have h2 := nI_toInt (n := k + 1) (by omega)
  have h3 : a.toNatClampNeg = a.toInt.toNat := rfl
  rw [Int32.lt_iff_toInt_lt, h2] at h
  omega
theorem cl_go1 {a : Int32} {k : Nat} (hN : a.toNatClampNeg < 2 ^ 30) (hk : k ≤ a.toNatClampNeg) (h : ¬ a < nI (k + 1)) : k < a.toNatClampNeg := by
  have h2 := nI_toInt (n := k + 1) (by omega)
  have h3 : a.toNatClampNeg = a.toInt.toNat := rfl
  rw [Int32.lt_iff_toInt_lt, h2] at h
  omega
theorem nI_L_ne {k : Nat} (h : k + 1 < 2 ^ 31) : ¬ (nI (k + 1)).toInt64 = 0 := by
  rw [nI_l h]
  exact fun q => absurd ((pk_lEQ (a := k + 1) (b := 0) (by omega) (by omega)).mp q) (by omega)
theorem f_cd_0 (n : Nat) (a : Int64) : f_cd n a 0 = a := by cases n <;> simp [f_cd]
theorem f_common_ne (a b : Int64) : ¬ f_common a b = 0 := by
  unfold f_common
  split
  · rename_i h
    intro q
    rw [q] at h
    exact absurd h (by decide)
  · decide
