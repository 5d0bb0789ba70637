/-! Reach: how far posts are. -/
def Rb (n : Nat) (pt ac : Nat → Nat) : Nat → Nat → Prop
  | 0, q => q = 0
  | k + 1, q => Rb n pt ac k q ∨ ∃ p i, p < n ∧ i < pt p ∧ Rb n pt ac k p ∧ ac (p * 6 + i) / 6 = q
def cntR (far : Nat → Int32) : Nat → Nat
  | 0 => 0
  | i + 1 => cntR far i + if far i = -9 then 0 else 1
theorem cntR_le (far : Nat → Int32) (i : Nat) : cntR far i ≤ i := by
  induction i with
  | zero => exact Nat.le_refl _
  | succ i ih => unfold cntR; split <;> omega
theorem cntR_lt {far : Nat → Int32} {n q : Nat} (hq : q < n) (h : far q = -9) : cntR far n < n := by
  induction n with
  | zero => omega
  | succ n ih =>
    unfold cntR
    by_cases e : q = n
    · rw [← e, if_pos h]
      have := cntR_le far q
      omega
    · have := ih (by omega)
      split <;> omega
theorem cntR_up {far : Nat → Int32} {n q : Nat} {v : Int32} (h : far q = -9) (hv : ¬ v = -9) : cntR (upd far q v) n = cntR far n + if q < n then 1 else 0 := by
  induction n with
  | zero => rfl
  | succ n ih =>
    unfold cntR
    rw [ih]
    by_cases e : n = q
    · rw [show upd far q v n = v from by simp [upd, e], if_neg hv, if_neg (show ¬ q < n by omega), if_pos (show q < n + 1 by omega), e, if_pos h]
    · rw [show upd far q v n = far n from by simp [upd, e]]
      by_cases e2 : q < n
      · rw [if_pos e2, if_pos (show q < n + 1 by omega)]; omega
      · rw [if_neg e2, if_neg (show ¬ q < n + 1 by omega)]; omega
theorem cntR_congr {f g : Nat → Int32} {n : Nat} (h : ∀ q, q < n → f q = g q) : cntR f n = cntR g n := by
  induction n with
  | zero => rfl
  | succ n ih =>
    unfold cntR
    rw [ih (fun q hq => h q (by omega)), h n (by omega)]
theorem cntR_none {f : Nat → Int32} {n : Nat} (h : ∀ q, q < n → f q = -9) : cntR f n = 0 := by
  induction n with
  | zero => rfl
  | succ n ih =>
    unfold cntR
    rw [ih (fun q hq => h q (by omega)), h n (by omega), if_pos rfl]
def FarOk (n : Nat) (pt ac : Nat → Nat) (far : Nat → Int32) : Prop := ∀ q, q < n → (far q = -9 ∧ ∀ k, ¬ Rb n pt ac k q) ∨ ∃ k, k < n ∧ far q = nI k ∧ Rb n pt ac k q ∧ ∀ j, j < k → ¬ Rb n pt ac j q
def BQ (n : Nat) (far : Nat → Int32) (re : Nat → Nat) (m : Nat) : Prop := m = cntR far n ∧ (∀ j, j < m → re j < n ∧ ¬ far (re j) = -9) ∧ ∀ q, q < n → ¬ far q = -9 → ∃ j, j < m ∧ re j = q
theorem BQ.lt {n : Nat} {far : Nat → Int32} {re : Nat → Nat} {m q : Nat} (h : BQ n far re m) (hq : q < n) (hf : far q = -9) : m < n := by
  rw [h.1]
  exact cntR_lt hq hf
theorem BQ.le {n : Nat} {far : Nat → Int32} {re : Nat → Nat} {m : Nat} (h : BQ n far re m) : m ≤ n := by
  rw [h.1]
  exact cntR_le far n
def RS (n : Nat) (pt ac : Nat → Nat) (far : Nat → Int32) (re : Nat → Nat) (m p : Nat) (far1 : Nat → Int32) (re1 : Nat → Nat) (m1 i : Nat) : Prop :=
  BQ n far1 re1 m1 ∧ m ≤ m1 ∧ (∀ q, q < n → ¬ far q = -9 → far1 q = far q) ∧ (∀ j, j < m → re1 j = re j) ∧ (∀ j, m ≤ j → j < m1 → far1 (re1 j) = far p + nI 1 ∧ ∃ k, k < pt p ∧ ac (p * 6 + k) / 6 = re1 j) ∧ ∀ k, k < i → ¬ far1 (ac (p * 6 + k) / 6) = -9
theorem RS.init {n : Nat} {pt ac : Nat → Nat} {far : Nat → Int32} {re : Nat → Nat} {m p : Nat} (h : BQ n far re m) : RS n pt ac far re m p far re m 0 :=
  ⟨h, Nat.le_refl _, fun _ _ _ => rfl, fun _ _ => rfl, fun j h1 h2 => by omega, fun k h => by omega⟩
theorem RS.skip {n : Nat} {pt ac : Nat → Nat} {far far1 : Nat → Int32} {re re1 : Nat → Nat} {m p m1 i : Nat} (h : RS n pt ac far re m p far1 re1 m1 i) (hf : ¬ far1 (ac (p * 6 + i) / 6) = -9) : RS n pt ac far re m p far1 re1 m1 (i + 1) := by
  obtain ⟨h1, h2, h3, h4, h5, h6⟩ := h
  refine ⟨h1, h2, h3, h4, h5, fun k hk => ?_⟩
  rcases Nat.lt_succ_iff_lt_or_eq.mp hk with q | q
  · exact h6 k q
  · rw [q]; exact hf
theorem nI9 {a : Nat} (h : a < 2 ^ 31) : ¬ nI a = -9 := by
  intro e
  have := congrArg Int32.toInt e
  rw [nI_toInt h, show (-9 : Int32).toInt = -9 from rfl] at this
  omega
theorem RS.take {n : Nat} {pt ac : Nat → Nat} {far far1 : Nat → Int32} {re re1 : Nat → Nat} {m p m1 i a : Nat} (h : RS n pt ac far re m p far1 re1 m1 i) (hp : p < n) (ha : a < 12) (hfp : far p = nI a) (hi : i < pt p) (hq : ac (p * 6 + i) / 6 < n) (hf : far1 (ac (p * 6 + i) / 6) = -9) : RS n pt ac far re m p (upd far1 (ac (p * 6 + i) / 6) (far1 p + nI 1)) (va_up re1 m1 (ac (p * 6 + i) / 6)) (m1 + 1) (i + 1) := by
  obtain ⟨⟨a1, a2, a3⟩, h2, h3, h4, h5, h6⟩ := h
  have e1 : far1 p = nI a := by rw [h3 p hp (by rw [hfp]; exact nI9 (by omega)), hfp]
  have hv : ¬ far1 p + nI 1 = -9 := by rw [e1, nI_add]; exact nI9 (by omega)
  have hne : ∀ q, ¬ far1 q = -9 → upd far1 (ac (p * 6 + i) / 6) (far1 p + nI 1) q = far1 q := fun q hz => by
    simp only [upd]
    rw [if_neg (fun e => hz (by rw [e]; exact hf))]
  have heq : upd far1 (ac (p * 6 + i) / 6) (far1 p + nI 1) (ac (p * 6 + i) / 6) = far1 p + nI 1 := by simp [upd]
  refine ⟨⟨?_, ?_, ?_⟩, by omega, ?_, ?_, ?_, ?_⟩
  · rw [cntR_up hf hv, if_pos hq, a1]
  · intro j hj
    simp only [va_up]
    by_cases e : j = m1
    · rw [if_pos e, heq]
      exact ⟨hq, hv⟩
    · rw [if_neg e]
      obtain ⟨b1, b2⟩ := a2 j (by omega)
      exact ⟨b1, by rw [hne _ b2]; exact b2⟩
  · intro q hqn hz
    by_cases e : q = ac (p * 6 + i) / 6
    · exact ⟨m1, by omega, by simp [va_up, e]⟩
    · obtain ⟨j, hj, ej⟩ := a3 q hqn (fun z => hz (by simp only [upd]; rw [if_neg e]; exact z))
      exact ⟨j, by omega, by simp only [va_up]; rw [if_neg (by omega)]; exact ej⟩
  · intro q hqn hz
    have := h3 q hqn hz
    rw [hne q (by rw [this]; exact hz), this]
  · intro j hj
    simp only [va_up]
    rw [if_neg (by omega)]
    exact h4 j hj
  · intro j hj hj2
    simp only [va_up]
    by_cases e : j = m1
    · rw [if_pos e, heq, e1, hfp]
      exact ⟨rfl, i, hi, rfl⟩
    · rw [if_neg e]
      obtain ⟨b1, b2⟩ := h5 j hj (by omega)
      have b3 := (a2 j (by omega)).2
      exact ⟨by rw [hne _ b3]; exact b1, b2⟩
  · intro k hk
    rcases Nat.lt_succ_iff_lt_or_eq.mp hk with q | q
    · have b := h6 k q
      rw [hne _ b]; exact b
    · rw [q, heq]; exact hv
/-- the rows of those reached so far, the first x done with -/
def BL (n : Nat) (pt ac : Nat → Nat) (far : Nat → Int32) (re : Nat → Nat) (x m : Nat) : Prop :=
  BQ n far re m ∧ x ≤ m ∧ 0 < m ∧ re 0 = 0 ∧ ∃ lv : Nat → Nat, (∀ j, j < m → far (re j) = nI (lv j) ∧ lv j ≤ j ∧ Rb n pt ac (lv j) (re j)) ∧ (∀ i j, i ≤ j → j < m → lv i ≤ lv j) ∧ (∀ j, j < m → x < m → lv j ≤ lv x + 1) ∧ ∀ j, j < x → ∀ i, i < pt (re j) → ∃ k, k < m ∧ re k = ac (re j * 6 + i) / 6 ∧ lv k ≤ lv j + 1
theorem BL.init {n : Nat} {pt ac : Nat → Nat} {far : Nat → Int32} {re : Nat → Nat} (hn : 0 < n) (hf : ∀ q, q < n → far q = -9) : BL n pt ac (upd far 0 (nI 0)) (va_up re 0 0) 0 1 := by
  have h0 : upd far 0 (nI 0) 0 = nI 0 := by simp [upd]
  have hr : va_up re 0 0 0 = 0 := by simp [va_up]
  refine ⟨⟨?_, ?_, ?_⟩, by omega, by omega, hr, fun _ => 0, ?_, fun _ _ _ _ => Nat.le_refl _, fun _ _ _ => Nat.zero_le _, fun j h => absurd h (Nat.not_lt_zero _)⟩
  · rw [cntR_up (hf 0 hn) (nI9 (by decide)), if_pos hn, cntR_none hf]
  · intro j hj
    obtain rfl : j = 0 := by omega
    rw [hr, h0]
    exact ⟨hn, nI9 (by decide)⟩
  · intro q hq hz
    refine ⟨0, by omega, ?_⟩
    rw [hr]
    by_cases e : q = 0
    · exact e.symm
    · exact absurd (by simp only [upd]; rw [if_neg e]; exact hf q hq) hz
  · intro j hj
    obtain rfl : j = 0 := by omega
    rw [hr, h0]
    exact ⟨rfl, Nat.le_refl _, rfl⟩
theorem BL.at {n : Nat} {pt ac : Nat → Nat} {far : Nat → Int32} {re : Nat → Nat} {x m : Nat} (h : BL n pt ac far re x m) (hx : x < m) : ∃ a, a ≤ x ∧ far (re x) = nI a ∧ re x < n := by
  obtain ⟨hB, -, -, -, lv, h1, -⟩ := h
  obtain ⟨a1, a2, -⟩ := h1 x hx
  exact ⟨lv x, a2, a1, (hB.2.1 x hx).1⟩
theorem BL.step {n : Nat} {mk pt ac : Nat → Nat} {far far2 : Nat → Int32} {re re2 : Nat → Nat} {x m m2 : Nat} (hN : NOk n mk pt ac) (h : BL n pt ac far re x m) (hx : x < m) (hR : RS n pt ac far re m (re x) far2 re2 m2 (pt (re x))) : BL n pt ac far2 re2 (x + 1) m2 := by
  obtain ⟨hB, h0, h00, hr0, lv, h1, h2, h3, h4⟩ := h
  obtain ⟨g1, g2, g3, g4, g5, g6⟩ := hR
  have hn12 := hN.n12
  have hmn := hB.le
  have hold : ∀ j, j < m → far2 (re2 j) = nI (lv j) := fun j hj => by
    obtain ⟨b1, b2⟩ := hB.2.1 j hj
    rw [g4 j hj, g3 _ b1 b2]
    exact (h1 j hj).1
  have hxx := (h1 x hx).1
  obtain ⟨hxn, hx9⟩ := hB.2.1 x hx
  refine ⟨g1, by omega, by omega, by rw [g4 0 h00]; exact hr0, fun j => if j < m then lv j else lv x + 1, ?_, ?_, ?_, ?_⟩
  · intro j hj
    by_cases e : j < m
    · simp only [if_pos e]
      exact ⟨hold j e, (h1 j e).2.1, by rw [g4 j e]; exact (h1 j e).2.2⟩
    · simp only [if_neg e]
      obtain ⟨b1, k, b2, b3⟩ := g5 j (by omega) hj
      have := (h1 x hx).2.1
      refine ⟨by rw [b1, hxx, nI_add], by omega, ?_⟩
      exact Or.inr ⟨re x, k, hxn, b2, (h1 x hx).2.2, b3⟩
  · intro i j hij hj
    by_cases e : j < m
    · simp only [if_pos e, if_pos (show i < m by omega)]
      exact h2 i j hij e
    · simp only [if_neg e]
      by_cases e2 : i < m
      · simp only [if_pos e2]; exact h3 i e2 hx
      · simp only [if_neg e2]; omega
  · intro j hj hx1
    have hb : (if j < m then lv j else lv x + 1) ≤ lv x + 1 := by
      by_cases e : j < m
      · rw [if_pos e]; exact h3 j e hx
      · rw [if_neg e]; omega
    refine Nat.le_trans hb ?_
    show lv x + 1 ≤ (if x + 1 < m then lv (x + 1) else lv x + 1) + 1
    by_cases e : x + 1 < m
    · rw [if_pos e]
      have := h2 x (x + 1) (by omega) e
      omega
    · rw [if_neg e]; omega
  · intro j hj i hi
    by_cases e : j < x
    · rw [g4 j (by omega)] at hi ⊢
      obtain ⟨k, b1, b2, b3⟩ := h4 j e i hi
      exact ⟨k, by omega, by rw [g4 k b1]; exact b2, by show (if k < m then lv k else lv x + 1) ≤ (if j < m then lv j else lv x + 1) + 1; rw [if_pos b1, if_pos (show j < m by omega)]; exact b3⟩
    · obtain rfl : j = x := by omega
      rw [g4 j hx] at hi ⊢
      have b1 := g6 i hi
      have b2 := (hN.a hxn hi).1
      obtain ⟨k, b3, b4⟩ := g1.2.2 _ b2 b1
      refine ⟨k, b3, b4, ?_⟩
      show (if k < m then lv k else lv j + 1) ≤ (if j < m then lv j else lv j + 1) + 1
      rw [if_pos hx]
      by_cases e2 : k < m
      · rw [if_pos e2]; exact h3 k e2 hx
      · rw [if_neg e2]; omega
theorem BL.done {n : Nat} {mk pt ac : Nat → Nat} {far : Nat → Int32} {re : Nat → Nat} {m : Nat} (hN : NOk n mk pt ac) (h : BL n pt ac far re m m) : FarOk n pt ac far := by
  obtain ⟨hB, -, h00, hr0, lv, h1, -, -, h4⟩ := h
  have hn12 := hN.n12
  have hmn := hB.le
  have key : ∀ k q, Rb n pt ac k q → ∃ j, j < m ∧ re j = q ∧ lv j ≤ k := by
    intro k
    induction k with
    | zero =>
      intro q hq
      exact ⟨0, h00, by rw [hr0]; exact hq.symm, (h1 0 h00).2.1⟩
    | succ k ih =>
      intro q hq
      rcases hq with hq | ⟨p, i, hp, hi, hr, e⟩
      · obtain ⟨j, a1, a2, a3⟩ := ih q hq
        exact ⟨j, a1, a2, by omega⟩
      · obtain ⟨j, a1, a2, a3⟩ := ih p hr
        obtain ⟨j2, b1, b2, b3⟩ := h4 j a1 i (by rw [a2]; exact hi)
        exact ⟨j2, b1, by rw [b2, a2]; exact e, by omega⟩
  intro q hq
  by_cases e : far q = -9
  · refine Or.inl ⟨e, fun k hk => ?_⟩
    obtain ⟨j, a1, a2, -⟩ := key k q hk
    exact (hB.2.1 j a1).2 (by rw [a2]; exact e)
  · obtain ⟨j, a1, a2⟩ := hB.2.2 q hq e
    obtain ⟨b1, b2, b3⟩ := h1 j a1
    refine Or.inr ⟨lv j, by omega, by rw [← a2]; exact b1, by rw [← a2]; exact b3, fun i hi hr => ?_⟩
    obtain ⟨j2, c1, c2, c3⟩ := key i q hr
    have := (h1 j2 c1).1
    rw [c2, ← a2, b1] at this
    have := (nI_eq (by omega) (by have := (h1 j2 c1).2.1; omega)).mp this
    omega
