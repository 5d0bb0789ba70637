/-! The model's reach by levels; the model's table of ranks; both held against the class's. -/
theorem upd_id (f : Nat → Int32) (k : Nat) : upd f k (f k) = f := by
  funext j
  simp only [upd]
  split
  · next h => rw [h]
  · rfl
theorem upd_at (f : Nat → Int32) (k : Nat) (v : Int32) : upd f k v k = v := by simp [upd]
theorem upd_ne (f : Nat → Int32) {k j : Nat} (v : Int32) (h : j ≠ k) : upd f k v j = f j := by simp only [upd]; rw [if_neg h]
def RI (n : Nat) (pt ac : Nat → Nat) (far : Nat → Int32) (d : Nat) : Prop := ∀ q, q < n → (far q = -9 ∧ ∀ k, k ≤ d → ¬ Rb n pt ac k q) ∨ ∃ k, k ≤ d ∧ far q = nI k ∧ Rb n pt ac k q ∧ ∀ j, j < k → ¬ Rb n pt ac j q
def RJ (n : Nat) (pt ac : Nat → Nat) (far far1 : Nat → Int32) (d p i : Nat) : Prop :=
  (∀ q, q < n → ¬ far q = -9 → far1 q = far q) ∧ (∀ q, q < n → far q = -9 → far1 q = -9 ∨ (far1 q = nI (d + 1) ∧ Rb n pt ac (d + 1) q)) ∧ (∀ x, x < p → far x = nI d → ∀ y, y < pt x → ¬ far1 (ac (x * 6 + y) / 6) = -9) ∧ (far p = nI d → ∀ y, y < i → ¬ far1 (ac (p * 6 + y) / 6) = -9)
theorem RI.init {n : Nat} {pt ac : Nat → Nat} {far : Nat → Int32} (h : ∀ q, q < n → far q = if q = 0 then nI 0 else -9) : RI n pt ac far 0 := by
  intro q hq
  rw [h q hq]
  by_cases e : q = 0
  · rw [if_pos e]
    exact Or.inr ⟨0, Nat.le_refl _, rfl, e, fun j hj => absurd hj (Nat.not_lt_zero _)⟩
  · rw [if_neg e]
    exact Or.inl ⟨rfl, fun k hk hr => by rw [show k = 0 by omega] at hr; exact e hr⟩
theorem cntR_one {n : Nat} {far : Nat → Int32} (h : ∀ q, q < n → far q = if q = 0 then nI 0 else -9) : cntR far n = if 0 < n then 1 else 0 := by
  induction n with
  | zero => rfl
  | succ n ih =>
    unfold cntR
    rw [ih (fun q hq => h q (by omega)), h n (by omega), if_pos (Nat.succ_pos n)]
    by_cases e : n = 0
    · rw [if_pos e, if_neg (nI9 (by decide)), if_neg (by omega)]
    · rw [if_neg e, if_pos rfl, if_pos (by omega)]
theorem RJ.init {n : Nat} {pt ac : Nat → Nat} {far : Nat → Int32} {d : Nat} : RJ n pt ac far far d 0 0 := ⟨fun _ _ _ => rfl, fun _ _ h => Or.inl h, fun x h => absurd h (Nat.not_lt_zero _), fun _ y h => absurd h (Nat.not_lt_zero _)⟩
theorem RI.val {n : Nat} {pt ac : Nat → Nat} {far : Nat → Int32} {d : Nat} (h : RI n pt ac far d) {q : Nat} (hq : q < n) : far q = -9 ∨ ∃ k, k ≤ d ∧ far q = nI k := by
  rcases h q hq with ⟨a, -⟩ | ⟨k, a, b, -⟩
  · exact Or.inl a
  · exact Or.inr ⟨k, a, b⟩
theorem RJ.val {n : Nat} {pt ac : Nat → Nat} {far far1 : Nat → Int32} {d p i : Nat} (hI : RI n pt ac far d) (h : RJ n pt ac far far1 d p i) {q : Nat} (hq : q < n) : far1 q = -9 ∨ ∃ k, k ≤ d + 1 ∧ far1 q = nI k := by
  by_cases e : far q = -9
  · rcases h.2.1 q hq e with a | ⟨a, -⟩
    · exact Or.inl a
    · exact Or.inr ⟨d + 1, Nat.le_refl _, a⟩
  · rw [h.1 q hq e]
    rcases hI.val hq with a | ⟨k, a, b⟩
    · exact Or.inl a
    · exact Or.inr ⟨k, by omega, b⟩
theorem RJ.ge {n : Nat} {pt ac : Nat → Nat} {far far1 : Nat → Int32} {d p i : Nat} (hI : RI n pt ac far d) (h : RJ n pt ac far far1 d p i) (hd : d < 100) {q : Nat} (hq : q < n) : 0 ≤ far1 q ↔ ¬ far1 q = -9 := by
  rcases h.val hI hq with e | ⟨k, hk, e⟩
  · rw [e]; decide
  · rw [e]; exact ⟨fun _ => nI9 (by omega), fun _ => nI_pos' (by omega)⟩
theorem RJ.at {n : Nat} {pt ac : Nat → Nat} {far far1 : Nat → Int32} {d p i : Nat} (h : RJ n pt ac far far1 d p i) (hd : d < 100) {q : Nat} (hq : q < n) : far1 q = nI d ↔ far q = nI d := by
  by_cases e : far q = -9
  · refine ⟨fun z => ?_, fun z => ?_⟩
    · rcases h.2.1 q hq e with a | ⟨a, -⟩
      · rw [a] at z; exact absurd z.symm (nI9 (by omega))
      · rw [a] at z
        have := (nI_eq (by omega) (by omega)).mp z
        omega
    · rw [e] at z; exact absurd z.symm (nI9 (by omega))
  · rw [h.1 q hq e]
theorem RJ.next {n : Nat} {pt ac : Nat → Nat} {far far1 : Nat → Int32} {d p i : Nat} (h : RJ n pt ac far far1 d p i) (hd : d < 100) (hp : p < n) (hf : ¬ far1 p = nI d ∨ i = pt p) : RJ n pt ac far far1 d (p + 1) 0 := by
  refine ⟨h.1, h.2.1, fun x hx hf0 y hy => ?_, fun _ y hy => absurd hy (Nat.not_lt_zero _)⟩
  by_cases e : x = p
  · subst e
    rcases hf with hf | hf
    · exact absurd ((h.at hd hp).mpr hf0) hf
    · exact h.2.2.2 hf0 y (by omega)
  · exact h.2.2.1 x (by omega) hf0 y hy
theorem RJ.skip {n : Nat} {pt ac : Nat → Nat} {far far1 : Nat → Int32} {d p i : Nat} (h : RJ n pt ac far far1 d p i) (hf : ¬ far1 (ac (p * 6 + i) / 6) = -9) : RJ n pt ac far far1 d p (i + 1) := by
  refine ⟨h.1, h.2.1, h.2.2.1, fun z y hy => ?_⟩
  by_cases e : y = i
  · rw [e]; exact hf
  · exact h.2.2.2 z y (by omega)
theorem RJ.take {n : Nat} {pt ac : Nat → Nat} {far far1 : Nat → Int32} {d p i : Nat} (hI : RI n pt ac far d) (h : RJ n pt ac far far1 d p i) (hd : d < 100) (hp : p < n) (hi : i < pt p) (hfp : far1 p = nI d) (hf : far1 (ac (p * 6 + i) / 6) = -9) : RJ n pt ac far (upd far1 (ac (p * 6 + i) / 6) (nI (d + 1))) d p (i + 1) := by
  have hfp0 := (h.at hd hp).mp hfp
  have hr : Rb n pt ac d p := by
    rcases hI p hp with ⟨a, -⟩ | ⟨k, a, b, c, -⟩
    · rw [a] at hfp0; exact absurd hfp0.symm (nI9 (by omega))
    · rw [hfp0] at b
      rw [(nI_eq (by omega) (by omega)).mp b]; exact c
  have hn9 : ¬ nI (d + 1) = -9 := nI9 (by omega)
  have hkeep : ∀ q, ¬ far1 q = -9 → ¬ upd far1 (ac (p * 6 + i) / 6) (nI (d + 1)) q = -9 := fun q hq => by
    by_cases e : q = ac (p * 6 + i) / 6
    · rw [e, upd_at]; exact hn9
    · rw [upd_ne _ _ e]; exact hq
  refine ⟨fun q hq hz => ?_, fun q hq hz => ?_, fun x hx hz y hy => hkeep _ (h.2.2.1 x hx hz y hy), fun hz y hy => ?_⟩
  · have h1 := h.1 q hq hz
    by_cases e : q = ac (p * 6 + i) / 6
    · rw [← e] at hf; rw [hf] at h1; exact absurd h1.symm hz
    · rw [upd_ne _ _ e]; exact h1
  · by_cases e : q = ac (p * 6 + i) / 6
    · rw [e, upd_at]; exact Or.inr ⟨rfl, Or.inr ⟨p, i, hp, hi, hr, rfl⟩⟩
    · rw [upd_ne _ _ e]; exact h.2.1 q hq hz
  · by_cases e : y = i
    · rw [e, upd_at]; exact hn9
    · exact hkeep _ (h.2.2.2 hz y (by omega))
theorem RJ.done {n : Nat} {pt ac : Nat → Nat} {far far1 : Nat → Int32} {d i : Nat} (hd : d < 100) (hI : RI n pt ac far d) (h : RJ n pt ac far far1 d n i) : RI n pt ac far1 (d + 1) := by
  intro q hq
  by_cases e : far q = -9
  · rcases hI q hq with ⟨-, a⟩ | ⟨k, a, b, -⟩
    · rcases h.2.1 q hq e with b | ⟨b, c⟩
      · refine Or.inl ⟨b, fun k hk hr => ?_⟩
        by_cases e1 : k = d + 1
        · rw [e1] at hr
          rcases hr with hr | ⟨p, x, hp, hx, hr, rfl⟩
          · exact a d (Nat.le_refl _) hr
          · rcases hI p hp with ⟨-, a1⟩ | ⟨k1, a1, b1, c1, -⟩
            · exact a1 d (Nat.le_refl _) hr
            · by_cases e2 : k1 = d
              · rw [e2] at b1
                exact h.2.2.1 p hp b1 x hx b
              · exact a (k1 + 1) (by omega) (Or.inr ⟨p, x, hp, hx, c1, rfl⟩)
        · exact a k (by omega) hr
      · exact Or.inr ⟨d + 1, Nat.le_refl _, b, c, fun j hj => a j (by omega)⟩
    · rw [b] at e; exact absurd e (nI9 (by omega))
  · rw [h.1 q hq e]
    rcases hI q hq with ⟨a, -⟩ | ⟨k, a, b, c⟩
    · exact absurd a e
    · exact Or.inr ⟨k, by omega, b, c⟩
theorem RI.eq {n : Nat} {pt ac : Nat → Nat} {far far1 : Nat → Int32} (hn : n ≤ 12) (hF : FarOk n pt ac far) (h : RI n pt ac far1 n) : ∀ q, q < n → far1 q = far q := by
  intro q hq
  rcases hF q hq with ⟨a, b⟩ | ⟨k, a, b, c, d⟩
  · rcases h q hq with ⟨a1, -⟩ | ⟨k1, -, -, c1, -⟩
    · rw [a, a1]
    · exact absurd c1 (b k1)
  · rcases h q hq with ⟨-, b1⟩ | ⟨k1, a1, b1, c1, d1⟩
    · exact absurd c (b1 k (by omega))
    · rcases Nat.lt_trichotomy k k1 with z | z | z
      · exact absurd c (d1 k z)
      · rw [b, b1, z]
      · exact absurd c1 (d k1 z)
/-! The table of ranks. -/
theorem Rk.eqk {n : Nat} {k r : Nat → Nat} {u : Nat} (h : Rk n k r u) {p q : Nat} (hp : p < n) (hq : q < n) : r p = r q ↔ k p = k q := by
  have h1 := h.2.1 p q hp hq
  have h2 := h.2.1 q p hq hp
  omega
theorem Rk.uniq {n : Nat} {k r k' r' : Nat → Nat} {u u' : Nat} (h : Rk n k r u) (h' : Rk n k' r' u') (hk : ∀ p, p < n → k' p = k p) : u = u' ∧ ∀ p, p < n → r p = r' p := by
  have ho : ∀ p q, p < n → q < n → (r p < r q ↔ r' p < r' q) := fun p q hp hq => by
    rw [← h.2.1 p q hp hq, ← h'.2.1 p q hp hq, hk p hp, hk q hq]
  have key : ∀ v, ∀ w, w ≤ v → ∀ p, p < n → (r p = w ↔ r' p = w) := by
    intro v
    induction v with
    | zero =>
      intro w hw p hp
      have e : w = 0 := by omega
      rw [e]
      constructor
      · intro e1
        rcases Nat.eq_zero_or_pos (r' p) with z | z
        · exact z
        · obtain ⟨q, hq, eq⟩ := h'.2.2.2 0 (by have := h'.2.2.1 p hp; omega)
          have := (ho q p hq hp).mpr (by omega)
          omega
      · intro e1
        rcases Nat.eq_zero_or_pos (r p) with z | z
        · exact z
        · obtain ⟨q, hq, eq⟩ := h.2.2.2 0 (by have := h.2.2.1 p hp; omega)
          have := (ho q p hq hp).mp (by omega)
          omega
    | succ v ih =>
      intro w hw p hp
      by_cases hwv : w ≤ v
      · exact ih w hwv p hp
      · have e : w = v + 1 := by omega
        rw [e]
        constructor
        · intro e1
          rcases Nat.lt_trichotomy (r' p) (v + 1) with z | z | z
          · have := (ih (r' p) (by omega) p hp).mpr rfl
            omega
          · exact z
          · obtain ⟨q, hq, eq⟩ := h'.2.2.2 (v + 1) (by have := h'.2.2.1 p hp; omega)
            have h1 := (ho q p hq hp).mpr (by omega)
            have := (ih (r q) (by omega) q hq).mp rfl
            omega
        · intro e1
          rcases Nat.lt_trichotomy (r p) (v + 1) with z | z | z
          · have := (ih (r p) (by omega) p hp).mp rfl
            omega
          · exact z
          · obtain ⟨q, hq, eq⟩ := h.2.2.2 (v + 1) (by have := h.2.2.1 p hp; omega)
            have h1 := (ho q p hq hp).mp (by omega)
            have := (ih (r' q) (by omega) q hq).mpr rfl
            omega
  have hr : ∀ p, p < n → r p = r' p := fun p hp => ((key (r p) (r p) (Nat.le_refl _) p hp).mp rfl).symm
  refine ⟨?_, hr⟩
  rcases Nat.lt_trichotomy u u' with z | z | z
  · obtain ⟨p, hp, e⟩ := h'.2.2.2 u z
    have := h.2.2.1 p hp
    have := hr p hp
    omega
  · exact z
  · obtain ⟨p, hp, e⟩ := h.2.2.2 u' z
    have := h'.2.2.1 p hp
    have := hr p hp
    omega
theorem Rk.ueq {n : Nat} {k r k' r' : Nat → Nat} {u u' : Nat} (h : Rk n k r u) (h' : Rk n k' r' u') (hr : ∀ p, p < n → r p = r' p) : u = u' := by
  rcases Nat.lt_trichotomy u u' with z | z | z
  · obtain ⟨p, hp, e⟩ := h'.2.2.2 u z
    have := h.2.2.1 p hp
    have := hr p hp
    omega
  · exact z
  · obtain ⟨p, hp, e⟩ := h.2.2.2 u' z
    have := h'.2.2.1 p hp
    have := hr p hp
    omega
theorem Rk.fine {n : Nat} {k r k' r' : Nat → Nat} {u u' : Nat} (h : Rk n k r u) (h' : Rk n k' r' u') (hf : ∀ p q, p < n → q < n → r p < r q → r' p < r' q) : u ≤ u' ∧ (u = u' → ∀ p, p < n → r' p = r p) := by
  have lo : ∀ v p, p < n → r p = v → v ≤ r' p := by
    intro v
    induction v with
    | zero => intro p _ _; exact Nat.zero_le _
    | succ v ih =>
      intro p hp e
      obtain ⟨q, hq, eq⟩ := h.2.2.2 v (by have := h.2.2.1 p hp; omega)
      have h1 := ih q hq eq
      have h2 := hf q p hq hp (by omega)
      omega
  have hi : ∀ t p, p < n → r p + t + 1 = u → r' p + t + 1 ≤ u' := by
    intro t
    induction t with
    | zero => intro p hp _; have := h'.2.2.1 p hp; omega
    | succ t ih =>
      intro p hp e
      obtain ⟨q, hq, eq⟩ := h.2.2.2 (r p + 1) (by omega)
      have h1 := ih q hq (by omega)
      have h2 := hf p q hp hq (by omega)
      omega
  refine ⟨?_, fun e p hp => ?_⟩
  · rcases Nat.eq_zero_or_pos u with z | z
    · omega
    · obtain ⟨p, hp, e⟩ := h.2.2.2 (u - 1) (by omega)
      have h1 := lo (u - 1) p hp e
      have h2 := h'.2.2.1 p hp
      omega
  · have h1 := lo (r p) p hp rfl
    have h2 := h.2.2.1 p hp
    have h3 := hi (u - 1 - r p) p hp (by omega)
    omega
def KM (mk pt ac ra : Nat → Nat) : Nat → Nat → Nat
  | 0 => K0 mk pt
  | d + 1 => K1 pt ac (fun z => ra (12 * d + z))
def sameR (n : Nat) (ra : Nat → Nat) (e : Nat) : Prop := ∀ p, p < n → ra (12 * (e + 1) + p) = ra (12 * e + p)
def MRk (n : Nat) (mk pt ac ra ul : Nat → Nat) (d : Nat) : Prop := ∀ e, e < d → Rk n (KM mk pt ac ra e) (fun z => ra (12 * e + z)) (ul e)
def MTab (n : Nat) (mk pt ac ra ul : Nat → Nat) (e : Nat) : Prop := MRk n mk pt ac ra ul 22 ∧ e ≤ 20 ∧ sameR n ra e ∧ ∀ j, j < e → ¬ sameR n ra j
theorem MRk.le {n : Nat} {mk pt ac ra ul : Nat → Nat} {d e : Nat} (h : MRk n mk pt ac ra ul d) (he : e ≤ d) : MRk n mk pt ac ra ul e := fun j hj => h j (by omega)
theorem MRk.lt {n : Nat} {mk pt ac ra ul : Nat → Nat} {d e p : Nat} (h : MRk n mk pt ac ra ul d) (he : e < d) (hp : p < n) : ra (12 * e + p) < n := by
  have h1 := h e he
  have h2 : ra (12 * e + p) < ul e := h1.2.2.1 p hp
  have h3 := h1.1
  omega
theorem MRk.r16 {n : Nat} {mk pt ac ra ul : Nat → Nat} {d e : Nat} (hN : NOk n mk pt ac) (h : MRk n mk pt ac ra ul d) (he : e < d) : ∀ q, q < n → ra (12 * e + q) < 16 := fun q hq => by
  have h1 := h.lt he hq
  have h2 := hN.n12
  omega
theorem MRk.fine {n : Nat} {mk pt ac ra ul : Nat → Nat} {d e : Nat} (hN : NOk n mk pt ac) (h : MRk n mk pt ac ra ul d) (he : e + 1 < d) : ∀ p q, p < n → q < n → ra (12 * e + p) < ra (12 * e + q) → ra (12 * (e + 1) + p) < ra (12 * (e + 1) + q) := fun p q hp hq hlt =>
  ((h (e + 1) he).2.1 p q hp hq).mp (K1_lt_r (mk := mk) hN (h.r16 hN (by omega)) hp hq hlt)
theorem MRk.pe {n : Nat} {mk pt ac ra ul : Nat → Nat} {d : Nat} (hN : NOk n mk pt ac) (h : MRk n mk pt ac ra ul d) {e : Nat} (he : e < d) : ∀ p q, p < n → q < n → ra (12 * e + p) = ra (12 * e + q) → pt p = pt q := by
  induction e with
  | zero =>
    intro p q hp hq z
    have h1 : K0 mk pt p = K0 mk pt q := ((h 0 he).eqk hp hq).mp z
    have h2 := hN.p6 hp
    have h3 := hN.p6 hq
    unfold K0 at h1
    omega
  | succ e ih =>
    intro p q hp hq z
    refine ih (by omega) p q hp hq ?_
    have f1 := h.fine hN he p q hp hq
    have f2 := h.fine hN he q p hq hp
    omega
theorem MRk.step {n : Nat} {mk pt ac ra ra2 ul : Nat → Nat} {d u : Nat} (hN : NOk n mk pt ac) (h : MRk n mk pt ac ra ul d) (hf : ∀ j, j < 12 * d → ra2 j = ra j) (hR : Rk n (KM mk pt ac ra d) (fun z => ra2 (12 * d + z)) u) : MRk n mk pt ac ra2 (va_up ul d u) (d + 1) := by
  have h12 := hN.n12
  have hK : ∀ e, e ≤ d → ∀ p, p < n → KM mk pt ac ra2 e p = KM mk pt ac ra e p := by
    intro e he p hp
    cases e with
    | zero => rfl
    | succ e => exact K1_congr (mk := mk) hN (fun q hq => hf _ (by omega)) hp
  intro e he
  by_cases z : e = d
  · rw [z, va_up_self]
    exact hR.congr (fun p hp => hK d (Nat.le_refl _) p hp) (fun p _ => rfl)
  · rw [va_up_ne _ _ z]
    exact (h e (by omega)).congr (fun p hp => hK e (by omega) p hp) (fun p hp => hf _ (by omega))
theorem MRk.grow {n : Nat} {mk pt ac ra ul : Nat → Nat} {d : Nat} (hN : NOk n mk pt ac) (h0 : 0 < n) (h : MRk n mk pt ac ra ul d) {e : Nat} (he : e < d) (hs : ∀ j, j < e → ¬ sameR n ra j) : e + 1 ≤ ul e := by
  induction e with
  | zero =>
    have := (h 0 he).2.2.1 0 h0
    omega
  | succ e ih =>
    have h1 := ih (by omega) (fun j hj => hs j (by omega))
    obtain ⟨a, b⟩ := (h e (by omega)).fine (h (e + 1) he) (h.fine hN he)
    have : ul e ≠ ul (e + 1) := fun z => hs e (by omega) (b z)
    omega
theorem MRk.rests {n : Nat} {mk pt ac ra ul : Nat → Nat} {d : Nat} (hN : NOk n mk pt ac) (h : MRk n mk pt ac ra ul d) (hd : 13 ≤ d) : ∃ e, e ≤ 11 ∧ sameR n ra e := by
  rcases Classical.em (∃ e, e ≤ 11 ∧ sameR n ra e) with z | z
  · exact z
  · exfalso
    have h0 : 0 < n := by
      rcases Nat.eq_zero_or_pos n with w | w
      · exact absurd ⟨0, by omega, fun p hp => by omega⟩ z
      · exact w
    have h1 := h.grow hN h0 (e := 12) (by omega) (fun j hj hs => z ⟨j, by omega, hs⟩)
    have h2 := (h 12 (by omega)).1
    have h3 := hN.n12
    omega
/-- the depth of rest so far -/
def RSt (n : Nat) (ra : Nat → Nat) (d : Nat) (rs : Int32) : Prop := (rs = -1 ∧ ∀ j, j + 1 < d → ¬ sameR n ra j) ∨ ∃ e, e + 1 < d ∧ rs = nI e ∧ sameR n ra e ∧ ∀ j, j < e → ¬ sameR n ra j
theorem sameR.congr {n : Nat} {ra ra2 : Nat → Nat} {d e : Nat} (hn : n ≤ 12) (hf : ∀ j, j < 12 * d → ra2 j = ra j) (he : e + 1 < d) : sameR n ra2 e ↔ sameR n ra e := by
  constructor
  · intro h p hp
    rw [← hf _ (by omega), ← hf _ (by omega)]
    exact h p hp
  · intro h p hp
    rw [hf _ (by omega), hf _ (by omega)]
    exact h p hp
theorem RSt.init {n : Nat} {ra : Nat → Nat} : RSt n ra 0 (-1) := Or.inl ⟨rfl, fun j h => absurd h (Nat.not_lt_zero _)⟩
theorem RSt.congr {n : Nat} {ra ra2 : Nat → Nat} {d : Nat} {rs : Int32} (hn : n ≤ 12) (hf : ∀ j, j < 12 * d → ra2 j = ra j) (h : RSt n ra d rs) : RSt n ra2 d rs := by
  rcases h with ⟨a, b⟩ | ⟨e, a, b, c, f⟩
  · exact Or.inl ⟨a, fun j hj z => b j hj ((sameR.congr hn hf hj).mp z)⟩
  · exact Or.inr ⟨e, a, b, (sameR.congr hn hf a).mpr c, fun j hj z => f j hj ((sameR.congr hn hf (by omega)).mp z)⟩
theorem RSt.keep {n : Nat} {ra : Nat → Nat} {d : Nat} {rs : Int32} (h : RSt n ra d rs) (hs : d = 0 ∨ ¬ sameR n ra (d - 1)) : RSt n ra (d + 1) rs := by
  rcases h with ⟨a, b⟩ | ⟨e, a, b, c, f⟩
  · refine Or.inl ⟨a, fun j hj => ?_⟩
    by_cases z : j + 1 = d
    · rcases hs with w | w
      · omega
      · rw [show j = d - 1 by omega]; exact w
    · exact b j (by omega)
  · exact Or.inr ⟨e, by omega, b, c, f⟩
theorem RSt.keep2 {n : Nat} {ra : Nat → Nat} {d : Nat} {rs : Int32} (h : RSt n ra d rs) (hs : 0 ≤ rs) : RSt n ra (d + 1) rs := by
  rcases h with ⟨a, b⟩ | ⟨e, a, b, c, f⟩
  · rw [a] at hs; exact absurd hs (by decide)
  · exact Or.inr ⟨e, by omega, b, c, f⟩
theorem RSt.new {n : Nat} {ra : Nat → Nat} {d : Nat} {rs : Int32} (h : RSt n ra d rs) (hd : d ≤ 100) (hs : ¬ 0 ≤ rs) (h0 : 0 < d) (hsm : sameR n ra (d - 1)) : RSt n ra (d + 1) (nI (d - 1)) := by
  rcases h with ⟨a, b⟩ | ⟨e, a, b, c, f⟩
  · exact Or.inr ⟨d - 1, by omega, rfl, hsm, fun j hj => b j (by omega)⟩
  · rw [b] at hs; exact absurd (nI_pos' (by omega)) hs
theorem RSt.done {n : Nat} {mk pt ac ra ul : Nat → Nat} {rs : Int32} (hN : NOk n mk pt ac) (hM : MRk n mk pt ac ra ul 22) (h : RSt n ra 22 rs) : ∃ e, rs = nI e ∧ MTab n mk pt ac ra ul e := by
  rcases h with ⟨a, b⟩ | ⟨e, a, b, c, f⟩
  · obtain ⟨e, h1, h2⟩ := hM.rests hN (by omega)
    exact absurd h2 (b e (by omega))
  · exact ⟨e, b, hM, by omega, c, f⟩
theorem MTab.flat {n : Nat} {mk pt ac ra ul : Nat → Nat} {e : Nat} (hN : NOk n mk pt ac) (h : MTab n mk pt ac ra ul e) {d : Nat} (hd : d < 22) (he : e ≤ d) : (∀ p, p < n → ra (12 * d + p) = ra (12 * e + p)) ∧ ul d = ul e := by
  obtain ⟨h1, h2, h3, h4⟩ := h
  induction d with
  | zero => rw [show e = 0 by omega]; exact ⟨fun _ _ => rfl, rfl⟩
  | succ d ih =>
    by_cases z : e = d + 1
    · rw [z]; exact ⟨fun _ _ => rfl, rfl⟩
    · obtain ⟨i1, i2⟩ := ih (by omega) (by omega)
      obtain ⟨a, b⟩ := (h1 (d + 1) hd).uniq (h1 (e + 1) (by omega)) (fun p hp => K1_congr (mk := mk) hN (fun q hq => (i1 q hq).symm) hp)
      have hp : ∀ p, p < n → ra (12 * (d + 1) + p) = ra (12 * e + p) := fun p hp => (b p hp).trans (h3 p hp)
      exact ⟨hp, (h1 (d + 1) hd).ueq (h1 e (by omega)) hp⟩
/-- THE TWO TABLES AGREE -/
theorem tabs_eq {n : Nat} {mk pt ac tb un ra ul : Nat → Nat} {rd e : Nat} (hN : NOk n mk pt ac) (hT : RTab n mk pt ac tb un rd) (hM : MTab n mk pt ac ra ul e) : e = rd ∧ (∀ d, d < 22 → ∀ p, p < n → ra (12 * d + p) = tb (min d rd * 12 + p)) ∧ ∀ d, d < 22 → ul d = un (min d rd) := by
  obtain ⟨t1, t2, t3, t4⟩ := hT
  have hn := hN.n12
  have hM' := hM
  obtain ⟨m1, m2, m3, m4⟩ := hM
  have A : ∀ d, d ≤ rd → ul d = un d ∧ ∀ p, p < n → ra (12 * d + p) = rowT tb d p := by
    intro d
    induction d with
    | zero => intro _; exact (m1 0 (by omega)).uniq (t2 0 (by omega)) (fun p hp => rfl)
    | succ d ih =>
      intro hd
      obtain ⟨-, i2⟩ := ih (by omega)
      exact (m1 (d + 1) (by omega)).uniq (t2 (d + 1) hd) (fun p hp => K1_congr (mk := mk) hN (fun q hq => (i2 q hq).symm) hp)
  have B : ∀ d, d < rd → ¬ sameR n ra d := by
    intro d hd hs
    have h1 := (m1 (d + 1) (by omega)).ueq (m1 d (by omega)) hs
    rw [(A (d + 1) (by omega)).1, (A d (by omega)).1] at h1
    exact t3 d hd h1
  have C : sameR n ra rd := by
    have hu : ul (rd + 1) = ul rd := by
      rcases t4 with h11 | ⟨r, hr⟩
      · rcases Nat.eq_zero_or_pos n with z | z
        · have h1 := (m1 (rd + 1) (by omega)).1
          have h2 := (m1 rd (by omega)).1
          omega
        · have h1 := m1.grow hN z (e := rd) (by omega) B
          have h2 := ((m1 rd (by omega)).fine (m1 (rd + 1) (by omega)) (m1.fine hN (by omega))).1
          have h3 := (m1 (rd + 1) (by omega)).1
          omega
      · obtain ⟨a, -⟩ := (m1 (rd + 1) (by omega)).uniq hr (fun p hp => K1_congr (mk := mk) hN (fun q hq => ((A rd (Nat.le_refl _)).2 q hq).symm) hp)
        rw [a, (A rd (Nat.le_refl _)).1]
    exact ((m1 rd (by omega)).fine (m1 (rd + 1) (by omega)) (m1.fine hN (by omega))).2 hu.symm
  have e1 : e = rd := by
    rcases Nat.lt_trichotomy e rd with z | z | z
    · exact absurd m3 (B e z)
    · exact z
    · exact absurd C (m4 rd z)
  subst e1
  refine ⟨rfl, fun d hd p hp => ?_, fun d hd => ?_⟩
  · rcases Nat.le_total d e with z | z
    · rw [Nat.min_eq_left z]; exact (A d z).2 p hp
    · rw [Nat.min_eq_right z, (hM'.flat hN hd z).1 p hp]; exact (A e (Nat.le_refl _)).2 p hp
  · rcases Nat.le_total d e with z | z
    · rw [Nat.min_eq_left z]; exact (A d z).1
    · rw [Nat.min_eq_right z, (hM'.flat hN hd z).2]; exact (A e (Nat.le_refl _)).1
theorem chg_nx {K ro : Nat → Nat} {k : Nat} (h : 0 < k) : chg K ro k = chg K ro (k - 1) + if K (ro (k - 1)) = K (ro k) then 0 else 1 := by
  obtain ⟨j, rfl⟩ : ∃ j, k = j + 1 := ⟨k - 1, by omega⟩
  rw [Nat.add_sub_cancel]
  rfl
/-! Rooms may grow. -/
theorem Met.room {l : Launch} {y : MethodName} {ws : List Cond} {rm rm' : Room} {Pc : Array Value → State → Prop} {Qc : Array Value → State → Outcome → State → Prop} {mc ms : Nat} {free : Addr → Prop} (h : Met l y ws rm Pc Qc mc ms free) (hf : rm.frames ≤ rm'.frames) (hl : rm.locals ≤ rm'.locals) (hc : rm.cells ≤ rm'.cells) (hs : rm.slots ≤ rm'.slots) : Met l y ws rm' Pc Qc mc ms free := by
  intro p e h1 h2 h3 s m args below hf0 happ hP0 hK
  refine h p e h1 h2 h3 s m args below hf0 ?_ hP0 hK
  obtain ⟨a1, a2, a3, a4, a5, a6, a7, a8⟩ := (Spec.appliesLoose_iff hf0).mp happ
  refine (Spec.appliesLoose_iff hf0).mpr ⟨a1, a2, a3, a4, a5, a6, ?_, a8⟩
  have a9 : s.hasRoom e.platform rm' = true := a7
  show s.hasRoom e.platform rm = true
  simp only [State.hasRoom, Bool.and_eq_true, decide_eq_true_eq] at a9 ⊢
  obtain ⟨⟨⟨⟨y, a, b, c, d, e⟩, f⟩, g⟩, i⟩ := a9
  exact ⟨⟨⟨⟨by omega, by omega, by omega, by omega, by omega, e⟩, by omega⟩, by omega⟩, i⟩
theorem CtI.room {l : Launch} {y : MethodName} {wds : List Cond} {rm rm' : Room} {dC : Nat → ClassId} {dI : Nat → Nat → Nat} {tys : List (ClassId × FieldType)} {av : List Value} {ws0 : va_W} {S : Type} {post : Int32 → S → Prop} {ws1 : S → va_W} (h : CtI l y wds rm dC dI tys av ws0 post ws1) (hf : rm.frames ≤ rm'.frames) (hl : rm.locals ≤ rm'.locals) (hc : rm.cells ≤ rm'.cells) (hs : rm.slots ≤ rm'.slots) : CtI l y wds rm' dC dI tys av ws0 post ws1 := fun sz => (h sz).room hf hl hc hs
theorem CtL.room {l : Launch} {y : MethodName} {wds : List Cond} {rm rm' : Room} {dC : Nat → ClassId} {dI : Nat → Nat → Nat} {tys : List (ClassId × FieldType)} {av : List Value} {ws0 : va_W} {S : Type} {post : Int64 → S → Prop} {ws1 : S → va_W} (h : CtL l y wds rm dC dI tys av ws0 post ws1) (hf : rm.frames ≤ rm'.frames) (hl : rm.locals ≤ rm'.locals) (hc : rm.cells ≤ rm'.cells) (hs : rm.slots ≤ rm'.slots) : CtL l y wds rm' dC dI tys av ws0 post ws1 := fun sz => (h sz).room hf hl hc hs
theorem CtV.room {l : Launch} {y : MethodName} {wds : List Cond} {rm rm' : Room} {dC : Nat → ClassId} {dI : Nat → Nat → Nat} {tys : List (ClassId × FieldType)} {av : List Value} {ws0 : va_W} {S : Type} {post : S → Prop} {ws1 : S → va_W} (h : CtV l y wds rm dC dI tys av ws0 post ws1) (hf : rm.frames ≤ rm'.frames) (hl : rm.locals ≤ rm'.locals) (hc : rm.cells ≤ rm'.cells) (hs : rm.slots ≤ rm'.slots) : CtV l y wds rm' dC dI tys av ws0 post ws1 := fun sz => (h sz).room hf hl hc hs
