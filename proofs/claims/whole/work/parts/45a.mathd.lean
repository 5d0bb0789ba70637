def DA (n : Nat) (tp tj tp1 tj1 : Nat → Nat) : Prop := ∀ s, s < 6 * n → tp1 s = tp s ∧ tj1 s = tj s
def DB (n : Nat) (pt tp tj tp1 tj1 : Nat → Nat) (k : Nat) : Prop := ∀ p x, p < k → x < pt p → tp1 (6 * (n + p) + x) = n + tp (6 * p + x) ∧ tj1 (6 * (n + p) + x) = tj (6 * p + x)
def DC (n : Nat) (tp tj tp1 tj1 : Nat → Nat) (k x : Nat) : Prop := ∀ y, y < x → tp1 (6 * (n + k) + y) = n + tp (6 * k + y) ∧ tj1 (6 * (n + k) + y) = tj (6 * k + y)
theorem DA.up {n : Nat} {tp tj tp1 tj1 : Nat → Nat} {s u v : Nat} (h : DA n tp tj tp1 tj1) (hs : 6 * n ≤ s) : DA n tp tj (va_up tp1 s u) (va_up tj1 s v) := fun q hq => by
  rw [va_up_ne _ _ (by omega), va_up_ne _ _ (by omega)]
  exact h q hq
theorem DB.up {n : Nat} {pt tp tj tp1 tj1 : Nat → Nat} {k s u v : Nat} (h6 : ∀ p, p < n → pt p ≤ 6) (hk : k ≤ n) (h : DB n pt tp tj tp1 tj1 k) (hs : 6 * (n + k) ≤ s) : DB n pt tp tj (va_up tp1 s u) (va_up tj1 s v) k := fun p x hp hx => by
  have := h6 p (by omega)
  rw [va_up_ne _ _ (by omega), va_up_ne _ _ (by omega)]
  exact h p x hp hx
theorem DC.up {n : Nat} {tp tj tp1 tj1 : Nat → Nat} {k x : Nat} (h : DC n tp tj tp1 tj1 k x) : DC n tp tj (va_up tp1 (6 * (n + k) + x) (n + tp (6 * k + x))) (va_up tj1 (6 * (n + k) + x) (tj (6 * k + x))) k (x + 1) := fun y hy => by
  by_cases e : y = x
  · rw [e, va_up_self, va_up_self]; exact ⟨rfl, rfl⟩
  · rw [va_up_ne _ _ (by omega), va_up_ne _ _ (by omega)]
    exact h y (by omega)
theorem DB.next {n : Nat} {pt tp tj tp1 tj1 : Nat → Nat} {k : Nat} (h : DB n pt tp tj tp1 tj1 k) (hc : DC n tp tj tp1 tj1 k (pt k)) : DB n pt tp tj tp1 tj1 (k + 1) := fun p x hp hx => by
  by_cases e : p = k
  · rw [e] at hx ⊢; exact hc x hx
  · exact h p x (by omega) hx
theorem dbTo_at {f : Nat → Nat} {n i k : Nat} (hk : k < n) : dbTo f n i k = f k := by
  simp only [dbTo]
  rw [if_neg (by omega)]
theorem dbTo_2 (f : Nat → Nat) {n i : Nat} (hi : i < n) : va_up (va_up (dbTo f n i) (n + i) 0) (n + i) (va_up (dbTo f n i) (n + i) 0 i) = dbTo f n (i + 1) := by
  rw [← dbTo_1 f hi]
  funext j
  have h1 : va_up (dbTo f n i) (n + i) 0 i = dbTo f n i i := va_up_ne _ _ (by omega)
  rw [h1]
  by_cases e : j = n + i
  · rw [e, va_up_self, va_up_self]
  · rw [va_up_ne _ _ e, va_up_ne _ _ e, va_up_ne _ _ e]
