/-! Words of my own for nets: a port of a post, a line's refusal, lines one behind another, fills. -/
def isPt (n : Nat) (pt : Nat → Nat) (x y : Int32) : Prop := ∃ a b : Nat, x = nI a ∧ y = nI b ∧ a < n ∧ b < pt a
/-- the ports of the posts there are: six at most; each port in use leads to a port in use of another post, and that one back -/
def NOk (n : Nat) (mk pt ac : Nat → Nat) : Prop := n ≤ 12 ∧ ∀ p, p < n → mk p < 10 ∧ pt p ≤ 6 ∧ ∀ i, i < pt p → ac (p * 6 + i) / 6 < n ∧ ac (p * 6 + i) % 6 < pt (ac (p * 6 + i) / 6) ∧ ac (ac (p * 6 + i)) = p * 6 + i ∧ ac (p * 6 + i) / 6 ≠ p
theorem NOk.n12 {n : Nat} {mk pt ac : Nat → Nat} (h : NOk n mk pt ac) : n ≤ 12 := h.1
theorem NOk.p6 {n : Nat} {mk pt ac : Nat → Nat} (h : NOk n mk pt ac) {p : Nat} (hp : p < n) : pt p ≤ 6 := (h.2 p hp).2.1
theorem NOk.m9 {n : Nat} {mk pt ac : Nat → Nat} (h : NOk n mk pt ac) {p : Nat} (hp : p < n) : mk p < 10 := (h.2 p hp).1
theorem NOk.a {n : Nat} {mk pt ac : Nat → Nat} (h : NOk n mk pt ac) {p i : Nat} (hp : p < n) (hi : i < pt p) : ac (p * 6 + i) / 6 < n ∧ ac (p * 6 + i) % 6 < pt (ac (p * 6 + i) / 6) ∧ ac (ac (p * 6 + i)) = p * 6 + i ∧ ac (p * 6 + i) / 6 ≠ p ∧ ac (p * 6 + i) < 72 := by
  obtain ⟨h1, h2, h3, h4⟩ := (h.2 p hp).2.2 i hi
  have := h.1
  exact ⟨h1, h2, h3, h4, by omega⟩
theorem isPt_iff {n : Nat} {pt : Nat → Nat} {x y : Int32} (hn : n ≤ 12) (hp : ∀ p, p < n → pt p ≤ 6) : isPt n pt x y ↔ vp_in x n ∧ ¬ y < 0 ∧ ¬ nI (pt x.toNatClampNeg) ≤ y := by
  constructor
  · rintro ⟨a, b, rfl, rfl, ha, hb⟩
    have := hp a ha
    rw [nI_clamp (by omega)]
    exact ⟨(in_nI (by omega)).mpr ha, (in_ge (by omega)).mp ((in_nI (by omega)).mpr hb)⟩
  · rintro ⟨h1, h2⟩
    obtain ⟨a, ha, rfl⟩ := vp_in_of h1 (by omega)
    have := hp a ha
    rw [nI_clamp (by omega)] at h2
    obtain ⟨b, hb, rfl⟩ := vp_in_of ((in_ge (by omega)).mpr h2) (by omega)
    exact ⟨a, b, rfl, rfl, ha, hb⟩
def rfu (n : Nat) (pt : Nat → Nat) (x y : Int32) : Int32 := if 0 ≤ x.toInt ∧ x.toInt < n ∧ 0 ≤ y.toInt ∧ y.toInt < n then (if x = y then -2 else if pt x.toNatClampNeg < 6 ∧ pt y.toNatClampNeg < 6 then 0 else -4) else -1
theorem rfu_x {n : Nat} {pt : Nat → Nat} {x y : Int32} (h : ¬ vp_in x n) : rfu n pt x y = -1 := by
  rw [vp_in_iff] at h
  unfold rfu
  rw [if_neg (fun q => h ⟨q.1, q.2.1⟩)]
theorem rfu_y {n : Nat} {pt : Nat → Nat} {x y : Int32} (h : ¬ vp_in y n) : rfu n pt x y = -1 := by
  rw [vp_in_iff] at h
  unfold rfu
  rw [if_neg (fun q => h ⟨q.2.2.1, q.2.2.2⟩)]
theorem rfu_in {n a b : Nat} {pt : Nat → Nat} (hn : n ≤ 12) (ha : a < n) (hb : b < n) : rfu n pt (nI a) (nI b) = if a = b then -2 else if pt a < 6 ∧ pt b < 6 then 0 else -4 := by
  unfold rfu
  rw [nI_toInt (by omega), nI_toInt (by omega), if_pos ⟨by omega, by omega, by omega, by omega⟩, nI_clamp (by omega), nI_clamp (by omega)]
  by_cases h : a = b
  · rw [if_pos h, if_pos (by rw [h])]
  · rw [if_neg h, if_neg (fun q => h ((nI_eq (by omega) (by omega)).mp q))]
theorem rfu_0 {n : Nat} {pt : Nat → Nat} {x y : Int32} (hn : n ≤ 12) (h : rfu n pt x y = 0) : ∃ a b : Nat, x = nI a ∧ y = nI b ∧ a < n ∧ b < n ∧ a ≠ b ∧ pt a < 6 ∧ pt b < 6 := by
  by_cases hx : vp_in x n
  · by_cases hy : vp_in y n
    · obtain ⟨a, ha, rfl⟩ := vp_in_of hx (by omega)
      obtain ⟨b, hb, rfl⟩ := vp_in_of hy (by omega)
      rw [rfu_in hn ha hb] at h
      by_cases hab : a = b
      · rw [if_pos hab] at h; exact absurd h (by decide)
      · rw [if_neg hab] at h
        by_cases h6 : pt a < 6 ∧ pt b < 6
        · exact ⟨a, b, rfl, rfl, ha, hb, hab, h6.1, h6.2⟩
        · rw [if_neg h6] at h; exact absurd h (by decide)
    · rw [rfu_y hy] at h; exact absurd h (by decide)
  · rw [rfu_x hx] at h; exact absurd h (by decide)
/-- a line more: the ports' counts, the ports' ends -/
def jPt (pt : Nat → Nat) (p q : Nat) : Nat → Nat := va_up (va_up pt p (pt p + 1)) q (va_up pt p (pt p + 1) q + 1)
def jAc (pt ac : Nat → Nat) (p q : Nat) : Nat → Nat := va_up (va_up ac (p * 6 + pt p) (q * 6 + pt q)) (q * 6 + pt q) (p * 6 + pt p)
theorem jPt_ne {pt : Nat → Nat} {p q : Nat} (h : p ≠ q) : jPt pt p q = va_up (va_up pt p (pt p + 1)) q (pt q + 1) := by
  unfold jPt
  rw [va_up_ne _ _ (Ne.symm h)]
/-- lines by pairs of a row: after m of them -/
def cN (c : Nat → Int32) (k : Nat) : Nat := (c k).toNatClampNeg
def jsPt (c : Nat → Int32) (i : Nat) (pt : Nat → Nat) : Nat → Nat → Nat
  | 0 => pt
  | m + 1 => jPt (jsPt c i pt m) (cN c (i + 2 * m)) (cN c (i + 2 * m + 1))
def jsAc (c : Nat → Int32) (i : Nat) (pt ac : Nat → Nat) : Nat → Nat → Nat
  | 0 => ac
  | m + 1 => jAc (jsPt c i pt m) (jsAc c i pt ac m) (cN c (i + 2 * m)) (cN c (i + 2 * m + 1))
def jsOk (n : Nat) (c : Nat → Int32) (i : Nat) (pt : Nat → Nat) (m : Nat) : Prop := ∀ j, j < m → rfu n (jsPt c i pt j) (c (i + 2 * j)) (c (i + 2 * j + 1)) = 0
theorem jsOk.at {n : Nat} {c : Nat → Int32} {i : Nat} {pt : Nat → Nat} {m : Nat} (hn : n ≤ 12) (h : jsOk n c i pt m) {j : Nat} (hj : j < m) : c (i + 2 * j) = nI (cN c (i + 2 * j)) ∧ c (i + 2 * j + 1) = nI (cN c (i + 2 * j + 1)) ∧ cN c (i + 2 * j) < n ∧ cN c (i + 2 * j + 1) < n ∧ cN c (i + 2 * j) ≠ cN c (i + 2 * j + 1) ∧ jsPt c i pt j (cN c (i + 2 * j)) < 6 ∧ jsPt c i pt j (cN c (i + 2 * j + 1)) < 6 := by
  obtain ⟨a, b, h1, h2, h3, h4, h5, h6, h7⟩ := rfu_0 hn (h j hj)
  have e1 : cN c (i + 2 * j) = a := by unfold cN; rw [h1, nI_clamp (by omega)]
  have e2 : cN c (i + 2 * j + 1) = b := by unfold cN; rw [h2, nI_clamp (by omega)]
  rw [e1, e2]
  exact ⟨h1, h2, h3, h4, h5, h6, h7⟩
theorem jsOk.succ {n : Nat} {c : Nat → Int32} {i : Nat} {pt : Nat → Nat} {m : Nat} (h : jsOk n c i pt m) (h1 : rfu n (jsPt c i pt m) (c (i + 2 * m)) (c (i + 2 * m + 1)) = 0) : jsOk n c i pt (m + 1) := by
  intro j hj
  rcases Nat.lt_succ_iff_lt_or_eq.mp hj with q | q
  · exact h j q
  · rw [q]; exact h1
theorem jsOk.le {n : Nat} {c : Nat → Int32} {i : Nat} {pt : Nat → Nat} {m k : Nat} (h : jsOk n c i pt m) (hk : k ≤ m) : jsOk n c i pt k := fun j hj => h j (by omega)
/-- a row filled up to i -/
def flI (f : Nat → Int32) (v : Int32) (i : Nat) : Nat → Int32 := fun j => if j < i then v else f j
def flN (f : Nat → Nat) (v : Nat) (i : Nat) : Nat → Nat := fun j => if j < i then v else f j
theorem flI_0 (f : Nat → Int32) (v : Int32) : flI f v 0 = f := by
  funext j
  simp [flI]
theorem flN_0 (f : Nat → Nat) (v : Nat) : flN f v 0 = f := by
  funext j
  simp [flN]
theorem flI_1 (f : Nat → Int32) (v : Int32) (i : Nat) : upd (flI f v i) i v = flI f v (i + 1) := by
  funext j
  simp only [flI, upd]
  by_cases h : j = i
  · rw [if_pos h, if_pos (by omega)]
  · rw [if_neg h]
    by_cases h2 : j < i
    · rw [if_pos h2, if_pos (by omega)]
    · rw [if_neg h2, if_neg (by omega)]
theorem flN_1 (f : Nat → Nat) (v : Nat) (i : Nat) : va_up (flN f v i) i v = flN f v (i + 1) := by
  funext j
  simp only [flN, va_up]
  by_cases h : j = i
  · rw [if_pos h, if_pos (by omega)]
  · rw [if_neg h]
    by_cases h2 : j < i
    · rw [if_pos h2, if_pos (by omega)]
    · rw [if_neg h2, if_neg (by omega)]
/-- how many of the first i posts have one port -/
def endsTo (pt : Nat → Nat) : Nat → Nat
  | 0 => 0
  | i + 1 => endsTo pt i + if pt i = 1 then 1 else 0
theorem endsTo_le (pt : Nat → Nat) (i : Nat) : endsTo pt i ≤ i := by
  induction i with
  | zero => exact Nat.le_refl _
  | succ i ih =>
    unfold endsTo
    split <;> omega
/-- a net made twice: marks, ports by posts; ends by slots -/
def dbTo (f : Nat → Nat) (n : Nat) (i : Nat) : Nat → Nat := fun j => if n ≤ j ∧ j < n + i then f (j - n) else f j
def dbAc (f : Nat → Nat) (h : Nat) (i : Nat) : Nat → Nat := fun j => if h ≤ j ∧ j < h + i then h + f (j - h) else f j
theorem dbTo_0 (f : Nat → Nat) (n : Nat) : dbTo f n 0 = f := by
  funext j
  simp only [dbTo]
  rw [if_neg (by omega)]
theorem dbAc_0 (f : Nat → Nat) (n : Nat) : dbAc f n 0 = f := by
  funext j
  simp only [dbAc]
  rw [if_neg (by omega)]
theorem dbTo_1 (f : Nat → Nat) {n i : Nat} (hi : i < n) : va_up (dbTo f n i) (n + i) (dbTo f n i i) = dbTo f n (i + 1) := by
  funext j
  simp only [dbTo, va_up]
  rw [if_neg (show ¬ (n ≤ i ∧ i < n + i) by omega)]
  by_cases h : j = n + i
  · rw [if_pos h, if_pos (by omega), h, Nat.add_sub_cancel_left]
  · rw [if_neg h]
    by_cases h2 : n ≤ j ∧ j < n + i
    · rw [if_pos h2, if_pos (by omega)]
    · rw [if_neg h2, if_neg (by omega)]
theorem dbAc_1 (f : Nat → Nat) {h i : Nat} (hi : i < h) : va_up (dbAc f h i) (h + i) (h + dbAc f h i i) = dbAc f h (i + 1) := by
  funext j
  simp only [dbAc, va_up]
  rw [if_neg (show ¬ (h ≤ i ∧ i < h + i) by omega)]
  by_cases h1 : j = h + i
  · rw [if_pos h1, if_pos (by omega), h1, Nat.add_sub_cancel_left]
  · rw [if_neg h1]
    by_cases h2 : h ≤ j ∧ j < h + i
    · rw [if_pos h2, if_pos (by omega)]
    · rw [if_neg h2, if_neg (by omega)]
theorem rfu_congr {n : Nat} {f g : Nat → Nat} {x y : Int32} (hn : n ≤ 12) (h : ∀ p, p < n → f p = g p) : rfu n f x y = rfu n g x y := by
  by_cases hx : vp_in x n
  · by_cases hy : vp_in y n
    · obtain ⟨a, ha, rfl⟩ := vp_in_of hx (by omega)
      obtain ⟨b, hb, rfl⟩ := vp_in_of hy (by omega)
      rw [rfu_in hn ha hb, rfu_in hn ha hb, h a ha, h b hb]
    · rw [rfu_y hy, rfu_y hy]
  · rw [rfu_x hx, rfu_x hx]
