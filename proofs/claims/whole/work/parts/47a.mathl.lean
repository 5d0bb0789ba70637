/-! The model's sorting, and the ranks that come of it. -/
theorem K1_congr {n : Nat} {mk pt ac r r' : Nat → Nat} (hN : NOk n mk pt ac) (h : ∀ q, q < n → r q = r' q) {p : Nat} (hp : p < n) : K1 pt ac r p = K1 pt ac r' p := by
  have key : ∀ i, i ≤ pt p → pkTo ac r p i = pkTo ac r' p i := by
    intro i
    induction i with
    | zero => intro _; exact h p hp
    | succ i ih =>
      intro hi
      obtain ⟨h2, h3, -⟩ := hN.a hp (i := i) (by omega)
      show pkTo ac r p i * 128 + _ = pkTo ac r' p i * 128 + _
      rw [ih (by omega), h _ h2]
  unfold K1
  rw [key _ (Nat.le_refl _)]
def SO (K ro : Nat → Nat) (i : Nat) : Prop := (∀ q, q < i → ∃ j, j < i ∧ ro j = q) ∧ (∀ j, j < i → ro j < i) ∧ ∀ j k, j < k → k < i → K (ro j) ≤ K (ro k)
theorem SO.init (K ro : Nat → Nat) : SO K ro 0 := ⟨fun q h => absurd h (Nat.not_lt_zero _), fun q h => absurd h (Nat.not_lt_zero _), fun j k h1 h2 => absurd h2 (Nat.not_lt_zero _)⟩
theorem SO.lt {K ro : Nat → Nat} {i j : Nat} (h : SO K ro i) (hj : j < i) : ro j < i := h.2.1 j hj
theorem SO.le {K ro : Nat → Nat} {i j k : Nat} (h : SO K ro i) (hjk : j ≤ k) (hk : k < i) : K (ro j) ≤ K (ro k) := by
  rcases Nat.lt_or_eq_of_le hjk with q | q
  · exact h.2.2 j k q hk
  · rw [q]; exact Nat.le_refl _
theorem SO.ins {K ro ro2 : Nat → Nat} {i b : Nat} (h : SO K ro i) (hb : b ≤ i) (h1 : ∀ j, b ≤ j → j < i → K i < K (ro j)) (h2 : 0 < b → ¬ K i < K (ro (b - 1))) (h3 : ∀ j, j ≤ i → ro2 j = if j < b then ro j else if j = b then i else ro (j - 1)) : SO K ro2 (i + 1) := by
  have a1 : ∀ j, j < b → ro2 j = ro j := fun j hj => by rw [h3 j (by omega), if_pos hj]
  have a2 : ro2 b = i := by rw [h3 b hb, if_neg (Nat.lt_irrefl _), if_pos rfl]
  have a3 : ∀ j, b < j → j ≤ i → ro2 j = ro (j - 1) := fun j hj hc => by rw [h3 j hc, if_neg (by omega), if_neg (by omega)]
  have a4 : ∀ j, j < b → K (ro j) ≤ K i := fun j hj => by
    have := h.le (j := j) (k := b - 1) (by omega) (by omega)
    have := h2 (by omega)
    omega
  refine ⟨fun q hq => ?_, fun j hj => ?_, fun j k hjk hk => ?_⟩
  · by_cases e : q = i
    · exact ⟨b, by omega, by rw [a2, e]⟩
    · obtain ⟨j, hj, ej⟩ := h.1 q (by omega)
      by_cases z : j < b
      · exact ⟨j, by omega, by rw [a1 j z, ej]⟩
      · exact ⟨j + 1, by omega, by rw [a3 (j + 1) (by omega) (by omega)]; exact ej⟩
  · rcases Nat.lt_trichotomy j b with z | z | z
    · rw [a1 j z]; have := h.lt (j := j) (by omega); omega
    · rw [z, a2]; omega
    · rw [a3 j z (by omega)]; have := h.lt (j := j - 1) (by omega); omega
  · rcases Nat.lt_trichotomy k b with z | z | z
    · rw [a1 k z, a1 j (by omega)]; exact h.le (by omega) (by omega)
    · rw [z, a2, a1 j (by omega)]; exact a4 j (by omega)
    · rw [a3 k z (by omega)]
      rcases Nat.lt_trichotomy j b with y | y | y
      · rw [a1 j y]; exact h.le (by omega) (by omega)
      · rw [y, a2]; exact Nat.le_of_lt (h1 (k - 1) (by omega) (by omega))
      · rw [a3 j y (by omega)]; exact h.le (by omega) (by omega)
/-- how many changes of keys there are up to a place -/
def chg (K ro : Nat → Nat) : Nat → Nat
  | 0 => 0
  | k + 1 => chg K ro k + if K (ro k) = K (ro (k + 1)) then 0 else 1
theorem chg_le (K ro : Nat → Nat) (k : Nat) : chg K ro k ≤ k := by
  induction k with
  | zero => exact Nat.le_refl _
  | succ k ih => unfold chg; split <;> omega
theorem chg_mono (K ro : Nat → Nat) {j k : Nat} (h : j ≤ k) : chg K ro j ≤ chg K ro k := by
  induction k with
  | zero => rw [show j = 0 by omega]; exact Nat.le_refl _
  | succ k ih =>
    by_cases e : j = k + 1
    · rw [e]; exact Nat.le_refl _
    · have := ih (by omega)
      show _ ≤ chg K ro k + _
      omega
theorem chg_eq {K ro : Nat → Nat} {i : Nat} (h : SO K ro i) {j k : Nat} (hjk : j ≤ k) (hk : k < i) : (K (ro j) = K (ro k) → chg K ro j = chg K ro k) ∧ (K (ro j) < K (ro k) → chg K ro j < chg K ro k) := by
  induction k with
  | zero => rw [show j = 0 by omega]; exact ⟨fun _ => rfl, fun z => absurd z (Nat.lt_irrefl _)⟩
  | succ k ih =>
    by_cases e : j = k + 1
    · rw [e]; exact ⟨fun _ => rfl, fun z => absurd z (Nat.lt_irrefl _)⟩
    · obtain ⟨i1, i2⟩ := ih (by omega) (by omega)
      have b1 := h.le (j := j) (k := k) (by omega) (by omega)
      have b2 := h.le (j := k) (k := k + 1) (by omega) hk
      have b3 := chg_mono K ro (j := j) (k := k) (by omega)
      show (_ → chg K ro j = chg K ro k + _) ∧ (_ → chg K ro j < chg K ro k + _)
      by_cases z : K (ro k) = K (ro (k + 1))
      · rw [if_pos z, ← z]
        exact ⟨i1, i2⟩
      · rw [if_neg z]
        exact ⟨fun w => by omega, fun _ => by omega⟩
theorem chg_iff {K ro : Nat → Nat} {i : Nat} (h : SO K ro i) {j k : Nat} (hj : j < i) (hk : k < i) : K (ro j) < K (ro k) ↔ chg K ro j < chg K ro k := by
  rcases Nat.le_total j k with q | q
  · obtain ⟨a1, a2⟩ := chg_eq h q hk
    have := h.le q hk
    exact ⟨a2, fun z => by
      rcases Nat.lt_or_eq_of_le this with w | w
      · exact w
      · have := a1 w; omega⟩
  · have a := h.le q hj
    have b := chg_mono K ro q
    exact ⟨fun z => by omega, fun z => by omega⟩
theorem chg_same {K ro : Nat → Nat} {i : Nat} (h : SO K ro i) {j k : Nat} (hj : j < i) (hk : k < i) (e : ro j = ro k) : chg K ro j = chg K ro k := by
  have a := chg_iff h hj hk
  have b := chg_iff h hk hj
  rw [e] at a b
  omega
theorem chg_sur (K ro : Nat → Nat) (k : Nat) : ∀ v, v ≤ chg K ro k → ∃ j, j ≤ k ∧ chg K ro j = v := by
  induction k with
  | zero => intro v hv; exact ⟨0, Nat.le_refl _, by have : v ≤ 0 := hv; show 0 = v; omega⟩
  | succ k ih =>
    intro v hv
    by_cases e : v = chg K ro (k + 1)
    · exact ⟨k + 1, Nat.le_refl _, e.symm⟩
    · have h1 : chg K ro (k + 1) ≤ chg K ro k + 1 := by show chg K ro k + _ ≤ _; split <;> omega
      obtain ⟨j, hj, ej⟩ := ih v (by omega)
      exact ⟨j, by omega, ej⟩
/-- the ranks written so far -/
def RW (K ro ra1 : Nat → Nat) (s k : Nat) : Prop := ∀ j, j < k → ra1 (s + ro j) = chg K ro j
theorem RW.step {K ro ra1 : Nat → Nat} {n s k : Nat} (h : SO K ro n) (hr : RW K ro ra1 s k) (hk : k < n) {r : Nat} (e : r = chg K ro k) : RW K ro (va_up ra1 (s + ro k) r) s (k + 1) := by
  intro j hj
  by_cases z : ro j = ro k
  · rw [z, va_up_self, e]; exact (chg_same h (by omega) hk z).symm
  · rw [va_up_ne _ _ (by omega)]
    by_cases w : j = k
    · exact absurd (by rw [w]) z
    · exact hr j (by omega)
theorem RW.done {K ro ra1 r : Nat → Nat} {n s : Nat} (h : SO K ro n) (hr : RW K ro ra1 s n) (he : ∀ p, p < n → r p = ra1 (s + p)) : Rk n K r (if n = 0 then 0 else chg K ro (n - 1) + 1) := by
  by_cases e0 : n = 0
  · subst e0
    rw [if_pos rfl]
    exact ⟨Nat.le_refl _, fun p q hp => absurd hp (Nat.not_lt_zero _), fun p hp => absurd hp (Nat.not_lt_zero _), fun v hv => absurd hv (Nat.not_lt_zero _)⟩
  · rw [if_neg e0]
    have hc := chg_le K ro (n - 1)
    refine ⟨by omega, fun p q hp hq => ?_, fun p hp => ?_, fun v hv => ?_⟩
    · obtain ⟨j, hj, rfl⟩ := h.1 p hp
      obtain ⟨k, hk, rfl⟩ := h.1 q hq
      rw [he _ hp, he _ hq, hr j hj, hr k hk]
      exact chg_iff h hj hk
    · obtain ⟨j, hj, rfl⟩ := h.1 p hp
      rw [he _ hp, hr j hj]
      have := chg_mono K ro (j := j) (k := n - 1) (by omega)
      omega
    · obtain ⟨j, hj, ej⟩ := chg_sur K ro (n - 1) v (by omega)
      exact ⟨ro j, h.lt (by omega), by rw [he _ (h.lt (by omega)), hr j (by omega), ej]⟩
