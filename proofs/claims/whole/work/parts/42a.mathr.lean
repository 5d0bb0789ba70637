theorem rfu_neg {n : Nat} {pt : Nat → Nat} {x y : Int32} (h : ¬ rfu n pt x y = 0) : rfu n pt x y < 0 := by
  unfold rfu at h ⊢
  split
  · split
    · decide
    · split
      · next h1 h2 h3 => rw [if_pos h1, if_neg h2, if_pos h3] at h; exact absurd rfl h
      · decide
  · decide
