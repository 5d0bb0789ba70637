/-! The model's own words. -/
theorem lN_m1 {n : Nat} (hn : n < 2 ^ 31) : (lN n - lN 1).toInt = (n : Int) - 1 := by
  cases n with
  | zero => decide
  | succ k =>
    rw [lN_sub (by omega), lN_toInt (by omega)]
    omega
theorem i64_lt {x : Int32} {y : Int64} : x.toInt64 < y ↔ x.toInt < y.toInt := by
  rw [Int64.lt_iff_toInt_lt, Int32.toInt_toInt64]
theorem lt_i64 {x : Int32} {y : Int64} : y < x.toInt64 ↔ y.toInt < x.toInt := by
  rw [Int64.lt_iff_toInt_lt, Int32.toInt_toInt64]
/-- the model's way to ask whether a number is within -/
theorem in_L {x : Int32} {n : Nat} (hn : n < 2 ^ 31) : (¬ x.toInt64 < lN 0 ∧ ¬ lN n - lN 1 < x.toInt64) ↔ vp_in x n := by
  rw [i64_lt, lt_i64, lN_m1 hn, vp_in_iff, lN_toInt (by decide)]
  omega
theorem in_LN {x : Int32} {k : Nat} (hk : k < 2 ^ 31) : (¬ x.toInt64 < lN 0 ∧ ¬ lN k < x.toInt64) ↔ vp_in x (k + 1) := by
  rw [i64_lt, lt_i64, vp_in_iff, lN_toInt (by decide), lN_toInt hk]
  omega
theorem in_NL {a n : Nat} (ha : a < 2 ^ 31) (hn : n < 2 ^ 31) : (¬ lN a < lN 0 ∧ ¬ lN n - lN 1 < lN a) ↔ a < n := by
  rw [Int64.lt_iff_toInt_lt, Int64.lt_iff_toInt_lt, lN_m1 hn, lN_toInt ha, lN_toInt (n := 0) (by decide)]
  omega
theorem in_NN {a k : Nat} (ha : a < 2 ^ 31) (hk : k < 2 ^ 31) : (¬ lN a < lN 0 ∧ ¬ lN k < lN a) ↔ a ≤ k := by
  rw [Int64.lt_iff_toInt_lt, Int64.lt_iff_toInt_lt, lN_toInt hk, lN_toInt ha, lN_toInt (n := 0) (by decide)]
  omega
theorem hld_L {x : Int32} {y : Int64} {sz : Nat} (hs : sz < 2 ^ 31) (hy : y.toInt < 2 ^ 40) : hld x y sz ↔ 0 ≤ x.toInt ∧ 0 ≤ y.toInt ∧ x.toInt + y.toInt ≤ sz := by
  constructor
  · rintro ⟨a, b, rfl, rfl, h⟩
    rw [nI_toInt (by omega), lN_toInt (by omega)]
    omega
  · rintro ⟨h1, h2, h3⟩
    obtain ⟨a, ha, rfl⟩ := nI_of (x := x) (by rw [Int32.lt_iff_toInt_lt]; have : (0 : Int32).toInt = 0 := rfl; omega)
    obtain ⟨b, hb, rfl⟩ := pk_lOf (x := y) (by rw [Int64.lt_iff_toInt_lt]; have : (0 : Int64).toInt = 0 := rfl; omega)
    rw [nI_toInt (by omega)] at h3
    rw [pk_lT hb] at h3
    exact ⟨a, b, rfl, rfl, by omega⟩
theorem add_L {x : Int32} {y : Int64} (h0 : 0 ≤ y.toInt) (hy : y.toInt < 2 ^ 40) : (x.toInt64 + y).toInt = x.toInt + y.toInt := by
  have h1 := Int32.toInt_lt x
  have h2 := Int32.le_toInt x
  rw [Int64.toInt_add, Int32.toInt_toInt64, Int.bmod_eq_of_le] <;> omega
def lkP (tp : Nat → Nat) (p i q j : Nat) : Nat → Nat := va_up (va_up tp (6 * p + i) q) (6 * q + j) p
def lkJ (tj : Nat → Nat) (p i q j : Nat) : Nat → Nat := va_up (va_up tj (6 * p + i) j) (6 * q + j) i
def mjP (c : Nat → Int32) (i : Nat) (pt tp : Nat → Nat) : Nat → Nat → Nat
  | 0 => tp
  | m + 1 => lkP (mjP c i pt tp m) (cN c (i + 2 * m)) (jsPt c i pt m (cN c (i + 2 * m))) (cN c (i + 2 * m + 1)) (jsPt c i pt m (cN c (i + 2 * m + 1)))
def mjJ (c : Nat → Int32) (i : Nat) (pt tj : Nat → Nat) : Nat → Nat → Nat
  | 0 => tj
  | m + 1 => lkJ (mjJ c i pt tj m) (cN c (i + 2 * m)) (jsPt c i pt m (cN c (i + 2 * m))) (cN c (i + 2 * m + 1)) (jsPt c i pt m (cN c (i + 2 * m + 1)))
def kdOf (pt : Nat → Nat) (a : Nat) : Nat := if pt a = 0 then 0 else if pt a = 1 then 2 else 1
theorem eqTo_le6 (f : Nat → Nat) (n : Nat) (hn : n ≤ 12) : eqTo f 1 (6 * n) ≤ 72 := Nat.le_trans (eqTo_le f 1 (6 * n)) (by omega)
