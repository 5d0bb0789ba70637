/-! The model's comparing. -/
def cmpN (a b : Nat) : Int32 := if a < b then -1 else if b < a then 1 else 0
theorem cmpN_lt {a b : Nat} (h : a < b) : cmpN a b = -1 := by unfold cmpN; rw [if_pos h]
theorem cmpN_gt {a b : Nat} (h : b < a) : cmpN a b = 1 := by unfold cmpN; rw [if_neg (by omega), if_pos h]
theorem cmpN_eq {a b : Nat} (h : a = b) : cmpN a b = 0 := by unfold cmpN; rw [if_neg (by omega), if_neg (by omega)]
theorem cmpN_0 {a b : Nat} : cmpN a b = 0 ↔ a = b := by
  rcases Nat.lt_trichotomy a b with h | h | h
  · rw [cmpN_lt h]; exact ⟨fun z => absurd z (by decide), fun z => by omega⟩
  · rw [cmpN_eq h]; exact ⟨fun _ => h, fun _ => rfl⟩
  · rw [cmpN_gt h]; exact ⟨fun z => absurd z (by decide), fun z => by omega⟩
theorem cmpN_n {a b : Nat} : cmpN a b < 0 ↔ a < b := by
  rcases Nat.lt_trichotomy a b with h | h | h
  · rw [cmpN_lt h]; exact ⟨fun _ => h, fun _ => by decide⟩
  · rw [cmpN_eq h]; exact ⟨fun z => absurd z (by decide), fun z => by omega⟩
  · rw [cmpN_gt h]; exact ⟨fun z => absurd z (by decide), fun z => by omega⟩
theorem cmpN_of {a b c d : Nat} (h1 : a < b → c < d) (h2 : b < a → d < c) (h3 : a = b → c = d) : cmpN a b = cmpN c d := by
  rcases Nat.lt_trichotomy a b with h | h | h
  · rw [cmpN_lt h, cmpN_lt (h1 h)]
  · rw [cmpN_eq h, cmpN_eq (h3 h)]
  · rw [cmpN_gt h, cmpN_gt (h2 h)]
theorem pkTo_dig {n : Nat} {mk pt ac r : Nat → Nat} (hN : NOk n mk pt ac) (hr : ∀ q, q < n → r q < 16) {p i : Nat} (hp : p < n) (hi : i < pt p) : ac (p * 6 + i) % 6 * 16 + r (ac (p * 6 + i) / 6) < 128 := by
  obtain ⟨h2, h3, -⟩ := hN.a hp hi
  have := hr _ h2
  omega
theorem pkTo_grow {n : Nat} {mk pt ac r : Nat → Nat} (hN : NOk n mk pt ac) (hr : ∀ q, q < n → r q < 16) {p q : Nat} (hp : p < n) (hq : q < n) (he : pt p = pt q) {i j : Nat} (hij : i ≤ j) (hj : j ≤ pt p) (h : pkTo ac r p i < pkTo ac r q i) : pkTo ac r p j < pkTo ac r q j := by
  induction j with
  | zero => rw [show i = 0 by omega] at h; exact h
  | succ j ih =>
    by_cases e : i = j + 1
    · rw [e] at h; exact h
    · have h1 := ih (by omega) (by omega)
      have d1 := pkTo_dig hN hr hp (i := j) (by omega)
      show pkTo ac r p j * 128 + _ < pkTo ac r q j * 128 + _
      omega
theorem K1_lt_of {n : Nat} {mk pt ac r : Nat → Nat} (hN : NOk n mk pt ac) (hr : ∀ q, q < n → r q < 16) {p q i : Nat} (hp : p < n) (hq : q < n) (he : pt p = pt q) (hi : i ≤ pt p) (h : pkTo ac r p i < pkTo ac r q i) : K1 pt ac r p < K1 pt ac r q := by
  have h1 := pkTo_grow hN hr hp hq he hi (Nat.le_refl _) h
  unfold K1
  rw [← he]
  exact Nat.mul_lt_mul_of_pos_right h1 (Nat.two_pow_pos _)
theorem pkTo_lo {ac r : Nat → Nat} {p : Nat} (i : Nat) : r p * 2 ^ (7 * i) ≤ pkTo ac r p i := by
  induction i with
  | zero => show r p * 1 ≤ r p; omega
  | succ i ih =>
    show _ ≤ pkTo ac r p i * 128 + _
    rw [show 7 * (i + 1) = 7 * i + 7 by omega, Nat.pow_add]
    have : r p * (2 ^ (7 * i) * 2 ^ 7) = r p * 2 ^ (7 * i) * 128 := by rw [← Nat.mul_assoc]
    omega
theorem pkTo_hi {n : Nat} {mk pt ac r : Nat → Nat} (hN : NOk n mk pt ac) (hr : ∀ q, q < n → r q < 16) {p : Nat} (hp : p < n) {i : Nat} (hi : i ≤ pt p) : pkTo ac r p i < (r p + 1) * 2 ^ (7 * i) := by
  induction i with
  | zero => show r p < (r p + 1) * 1; omega
  | succ i ih =>
    have h1 := ih (by omega)
    have d1 := pkTo_dig hN hr hp (i := i) (by omega)
    show pkTo ac r p i * 128 + _ < _
    rw [show 7 * (i + 1) = 7 * i + 7 by omega, Nat.pow_add]
    have : (r p + 1) * (2 ^ (7 * i) * 2 ^ 7) = (r p + 1) * 2 ^ (7 * i) * 128 := by rw [← Nat.mul_assoc]
    omega
theorem K1_lt_r {n : Nat} {mk pt ac r : Nat → Nat} (hN : NOk n mk pt ac) (hr : ∀ q, q < n → r q < 16) {p q : Nat} (hp : p < n) (hq : q < n) (h : r p < r q) : K1 pt ac r p < K1 pt ac r q := by
  have hp6 := hN.p6 hp
  have hq6 := hN.p6 hq
  have h1 := pkTo_hi hN hr hp (Nat.le_refl _)
  have h2 := pkTo_lo (ac := ac) (r := r) (p := q) (pt q)
  have e1 : K1 pt ac r p < (r p + 1) * 2 ^ 42 := by
    unfold K1
    have : (r p + 1) * 2 ^ (7 * pt p) * 2 ^ (7 * (6 - pt p)) = (r p + 1) * 2 ^ 42 := by rw [Nat.mul_assoc, ← Nat.pow_add, show 7 * pt p + 7 * (6 - pt p) = 42 by omega]
    rw [← this]
    exact Nat.mul_lt_mul_of_pos_right h1 (Nat.two_pow_pos _)
  have e2 : r q * 2 ^ 42 ≤ K1 pt ac r q := by
    unfold K1
    have : r q * 2 ^ (7 * pt q) * 2 ^ (7 * (6 - pt q)) = r q * 2 ^ 42 := by rw [Nat.mul_assoc, ← Nat.pow_add, show 7 * pt q + 7 * (6 - pt q) = 42 by omega]
    rw [← this]
    exact Nat.mul_le_mul_right _ h2
  have e3 : (r p + 1) * 2 ^ 42 ≤ r q * 2 ^ 42 := Nat.mul_le_mul_right _ (by omega)
  omega
theorem K1_eq_of {pt ac r : Nat → Nat} {p q : Nat} (he : pt p = pt q) (h : pkTo ac r p (pt p) = pkTo ac r q (pt p)) : K1 pt ac r p = K1 pt ac r q := by
  unfold K1
  rw [← he, h]
/-- the loop's end: what is compared so far is what the keys say -/
theorem cmp_end {n : Nat} {mk pt ac r : Nat → Nat} (hN : NOk n mk pt ac) (hr : ∀ q, q < n → r q < 16) (hpe : ∀ p q, p < n → q < n → r p = r q → pt p = pt q) {p q i : Nat} (hp : p < n) (hq : q < n) (hi : i ≤ pt p) (h0 : r p ≠ r q → i = 0) (h : ¬ cmpN (pkTo ac r p i) (pkTo ac r q i) = 0 ∨ i = pt p) (hx : cmpN (pkTo ac r p i) (pkTo ac r q i) = 0 → r p = r q) : cmpN (pkTo ac r p i) (pkTo ac r q i) = cmpN (K1 pt ac r p) (K1 pt ac r q) := by
  by_cases e : r p = r q
  · have he := hpe p q hp hq e
    refine cmpN_of (fun z => K1_lt_of hN hr hp hq he hi z) (fun z => K1_lt_of hN hr hq hp he.symm (by omega) z) (fun z => ?_)
    rcases h with h | h
    · exact absurd (cmpN_0.mpr z) h
    · rw [h] at z; exact K1_eq_of he z
  · rw [h0 e]
    refine cmpN_of (fun z => K1_lt_r hN hr hp hq z) (fun z => K1_lt_r hN hr hq hp z) (fun z => absurd z e)
/-- one digit more -/
theorem cmp_dig {a b x y u v : Nat} (h : a = b) (hu : u < 16) (hv : v < 16) : (if cmpN x y = 0 then cmpN u v else cmpN x y) = cmpN (a * 128 + (x * 16 + u)) (b * 128 + (y * 16 + v)) := by
  by_cases e : x = y
  · rw [if_pos (cmpN_0.mpr e)]
    exact cmpN_of (fun _ => by omega) (fun _ => by omega) (fun _ => by omega)
  · rw [if_neg (fun z => e (cmpN_0.mp z))]
    exact cmpN_of (fun _ => by omega) (fun _ => by omega) (fun _ => by omega)
