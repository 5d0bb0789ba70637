def zrS (f : Nat → Int32) (s m : Nat) : Nat → Int32 := fun q => if s ≤ q ∧ q < s + m then nI 0 else f q
theorem zrS_0 (f : Nat → Int32) (s : Nat) : zrS f s 0 = f := by
  funext q
  simp only [zrS]
  rw [if_neg (by omega)]
theorem zrS_1 (f : Nat → Int32) (s i : Nat) : upd (zrS f s i) (s + i) (nI 0) = zrS f s (i + 1) := by
  funext q
  simp only [upd, zrS]
  by_cases e : q = s + i
  · rw [if_pos e, if_pos (by omega)]
  · rw [if_neg e]
    by_cases e2 : s ≤ q ∧ q < s + i
    · rw [if_pos e2, if_pos (by omega)]
    · rw [if_neg e2, if_neg (by omega)]
def cpS (f : Nat → Int32) (s1 s2 m : Nat) : Nat → Int32 := fun q => if s2 ≤ q ∧ q < s2 + m then f (s1 + (q - s2)) else f q
theorem cpS_0 (f : Nat → Int32) (s1 s2 : Nat) : cpS f s1 s2 0 = f := by
  funext q
  simp only [cpS]
  rw [if_neg (by omega)]
theorem cpS_1 (f : Nat → Int32) (s1 s2 i : Nat) : upd (cpS f s1 s2 i) (s2 + i) (f (s1 + i)) = cpS f s1 s2 (i + 1) := by
  funext q
  simp only [upd, cpS]
  by_cases e : q = s2 + i
  · rw [if_pos e, if_pos (by omega), e, Nat.add_sub_cancel_left]
  · rw [if_neg e]
    by_cases e2 : s2 ≤ q ∧ q < s2 + i
    · rw [if_pos e2, if_pos (by omega)]
    · rw [if_neg e2, if_neg (by omega)]
theorem jsPt_le {n : Nat} {c : Nat → Int32} {i : Nat} {pt : Nat → Nat} {m : Nat} (hn : n ≤ 12) (hp : ∀ p, p < n → pt p ≤ 6) (h : jsOk n c i pt m) : ∀ p, p < n → jsPt c i pt m p ≤ 6 := by
  induction m with
  | zero => exact hp
  | succ m ih =>
    obtain ⟨h1, h2, h3, h4, h5, h6, h7⟩ := h.at hn (j := m) (by omega)
    intro p hpn
    show jPt _ _ _ p ≤ 6
    rw [jPt_ne h5]
    have := ih (h.le (by omega)) p hpn
    by_cases e : p = cN c (i + 2 * m + 1)
    · rw [e, va_up_self]; omega
    · rw [va_up_ne _ _ e]
      by_cases e2 : p = cN c (i + 2 * m)
      · rw [e2, va_up_self]; omega
      · rw [va_up_ne _ _ e2]; exact this
theorem rfu_ge {n : Nat} {pt : Nat → Nat} {x y : Int32} (h : 0 ≤ rfu n pt x y) : rfu n pt x y = 0 := by
  by_cases e : rfu n pt x y = 0
  · exact e
  · exact absurd (rfu_neg e) (Int32.not_lt.mpr h)
theorem lN_toInt2 {n : Nat} (h : n < 2 ^ 63) : (lN n).toInt = (n : Int) := pk_lT h
theorem kd2 {pt : Nat → Nat} {i : Nat} : kdOf pt i = 2 ↔ pt i = 1 := by
  unfold kdOf
  split
  · omega
  · split <;> omega
