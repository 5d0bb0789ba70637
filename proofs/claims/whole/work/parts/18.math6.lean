/-! Sheets, kinds, powers. -/
def rowsF (ad : Nat → Nat) : Nat → Option Nat := fun j => some (ad (20 + j))
def hld (i : Int32) (n : Int64) (sz : Nat) : Prop := ∃ a b : Nat, i = nI a ∧ n = lN b ∧ a + b ≤ sz
theorem hld_neg {i : Int32} {n : Int64} {sz : Nat} (hs : sz < 2 ^ 31) (h : i < 0) : ¬ hld i n sz := by
  rintro ⟨a, b, rfl, -, h2⟩
  exact nI_pos (by omega) h
theorem hld_big {i : Int32} {n : Int64} {sz : Nat} (hs : sz < 2 ^ 31) (h : nI sz < i) : ¬ hld i n sz := by
  rintro ⟨a, b, rfl, -, h2⟩
  have := (nI_ltI hs (by omega)).mp h
  omega
theorem hld_a {i : Int32} {sz : Nat} (hs : sz < 2 ^ 31) (h0 : ¬ i < 0) (h1 : ¬ nI sz < i) : ∃ a, a ≤ sz ∧ i = nI a := by
  obtain ⟨a, ha, rfl⟩ := nI_of h0
  exact ⟨a, Nat.le_of_not_lt fun q => h1 ((nI_ltI hs ha).mpr q), rfl⟩
theorem hld_iff {a : Nat} {n : Int64} {sz : Nat} (hs : sz < 2 ^ 31) (ha : a ≤ sz) : hld (nI a) n sz ↔ ¬ n < lN 0 ∧ ¬ lN (sz - a) < n := by
  constructor
  · rintro ⟨c, b, h1, rfl, h3⟩
    have e : a = c := (nI_eq (by omega) (by omega)).mp h1
    rw [pk_lLT (by omega) (by decide), pk_lLT (by omega) (by omega)]
    omega
  · rintro ⟨h1, h2⟩
    obtain ⟨b, hb, rfl⟩ := pk_lOf (x := n) h1
    rw [pk_lLT (by omega) hb] at h2
    exact ⟨a, b, rfl, rfl, by omega⟩
theorem sw_out {x : Int32} {n : Nat} (h : ¬ vp_in x n) : x.toInt < 0 ∨ ((n : Int) - 1) < x.toInt := by
  rw [vp_in_iff] at h
  omega
theorem in_ne {x : Int32} {n k : Nat} (h : ¬ vp_in x n) (hk : k < n) (hk2 : k < 2 ^ 31) : ¬ x = nI k := fun e => h (by rw [e]; exact (in_nI hk2).mpr hk)
/-- what a lane keeps of a number -/
def cutL (ln : Nat) (v : Int32) : Int32 := if ln = 0 then v.toInt8.toInt32 else if ln = 1 then v.toInt16.toInt32 else v
theorem lN_pow (k i : Nat) : lN (k ^ i) * lN k = lN (k ^ (i + 1)) := by
  rw [lN_mul, Nat.pow_succ]
def pwTo (t : Nat) : Nat → Nat
  | 0 => 0
  | i + 1 => pwTo t i + i ^ t
theorem js_first {n : Nat} {c : Nat → Int32} {i : Nat} {pt : Nat → Nat} {q q' : Nat} (h : jsOk n c i pt q) (h1 : ¬ rfu n (jsPt c i pt q) (c (i + 2 * q)) (c (i + 2 * q + 1)) = 0) (h' : jsOk n c i pt q') (h2 : ¬ rfu n (jsPt c i pt q') (c (i + 2 * q')) (c (i + 2 * q' + 1)) = 0) : q = q' := by
  rcases Nat.lt_trichotomy q q' with z | z | z
  · exact absurd (h' q z) h1
  · exact z
  · exact absurd (h q' z) h2
/-- the answer of the first line that is refused among m, if one is -/
def jsBad (n : Nat) (c : Nat → Int32) (i : Nat) (pt : Nat → Nat) (m : Nat) (r : Int32) : Prop := ∃ q, q < m ∧ jsOk n c i pt q ∧ r = rfu n (jsPt c i pt q) (c (i + 2 * q)) (c (i + 2 * q + 1)) ∧ ¬ r = 0
theorem jsBad.det {n : Nat} {c : Nat → Int32} {i : Nat} {pt : Nat → Nat} {m : Nat} {r r' : Int32} (h : jsBad n c i pt m r) (h' : jsBad n c i pt m r') : r = r' := by
  obtain ⟨q, -, a1, a2, a3⟩ := h
  obtain ⟨q', -, b1, b2, b3⟩ := h'
  have := js_first a1 (by rw [← a2]; exact a3) b1 (by rw [← b2]; exact b3)
  rw [a2, b2, this]
theorem jsBad.no {n : Nat} {c : Nat → Int32} {i : Nat} {pt : Nat → Nat} {m : Nat} {r : Int32} (h : jsOk n c i pt m) : ¬ jsBad n c i pt m r := by
  rintro ⟨q, h1, -, a2, a3⟩
  exact a3 (by rw [a2]; exact h q h1)
