/-! Floods: one state, one step; both programs' arrays are held against it. -/
theorem eqTo_congr {f g : Nat → Nat} {x k : Nat} (h : ∀ j, j < k → (f j = x ↔ g j = x)) : eqTo f x k = eqTo g x k := by
  induction k with
  | zero => rfl
  | succ k ih =>
    unfold eqTo
    rw [ih (fun j hj => h j (by omega))]
    by_cases e : f k = x
    · rw [if_pos e, if_pos ((h k (by omega)).mp e)]
    · rw [if_neg e, if_neg (fun q => e ((h k (by omega)).mpr q))]
theorem eqTo_up {f : Nat → Nat} {x k s v : Nat} (hs : s < k) : eqTo (va_up f s v) x k + (if f s = x then 1 else 0) = eqTo f x k + (if v = x then 1 else 0) := by
  induction k with
  | zero => omega
  | succ k ih =>
    unfold eqTo
    by_cases e : s = k
    · rw [← e, show va_up f s v s = v from by simp [va_up]]
      have : eqTo (va_up f s v) x s = eqTo f x s := eqTo_congr (fun j hj => by simp only [va_up]; rw [if_neg (by omega)])
      rw [this]
      omega
    · have := ih (by omega)
      rw [show va_up f s v k = f k from by simp only [va_up]; rw [if_neg (by omega)]]
      omega
theorem eqTo_mono {f : Nat → Nat} {x i k : Nat} (h : i ≤ k) : eqTo f x i ≤ eqTo f x k := by
  induction k with
  | zero => rw [show i = 0 by omega]; exact Nat.le_refl _
  | succ k ih =>
    by_cases e : i = k + 1
    · rw [e]; exact Nat.le_refl _
    · have := ih (by omega)
      show _ ≤ eqTo f x k + _
      omega
theorem eqTo_lt {f : Nat → Nat} {x s k : Nat} (hs : s < k) (h : f s = x) : eqTo f x s < eqTo f x k := by
  have h1 : eqTo f x (s + 1) ≤ eqTo f x k := eqTo_mono (by omega)
  have h2 : eqTo f x (s + 1) = eqTo f x s + 1 := by
    show eqTo f x s + _ = _
    rw [if_pos h]
  omega
theorem eqTo_pos {f : Nat → Nat} {x k : Nat} (h : 0 < eqTo f x k) : ∃ s, s < k ∧ f s = x := by
  induction k with
  | zero => exact absurd h (Nat.lt_irrefl _)
  | succ k ih =>
    by_cases e : f k = x
    · exact ⟨k, by omega, e⟩
    · have h2 : eqTo f x (k + 1) = eqTo f x k + _ := rfl
      rw [if_neg e] at h2
      obtain ⟨s, hs, e2⟩ := ih (by omega)
      exact ⟨s, by omega, e2⟩
theorem eqTo_12 (f : Nat → Nat) (k : Nat) : eqTo f 1 k + eqTo f 2 k ≤ k := by
  induction k with
  | zero => exact Nat.le_refl _
  | succ k ih =>
    show (eqTo f 1 k + _) + (eqTo f 2 k + _) ≤ k + 1
    by_cases e : f k = 1
    · rw [if_pos e, if_neg (by omega)]; omega
    · rw [if_neg e]; split <;> omega
def sdU (p : Nat) (v : Int32) (f : Nat → Nat) : Nat → Nat → Nat
  | 0 => f
  | i + 1 => if nI i = v then sdU p v f i else va_up (sdU p v f i) (p * 6 + i) 1
theorem sdU_val (p : Nat) (v : Int32) (f : Nat → Nat) (i j : Nat) : sdU p v f i j = if p * 6 ≤ j ∧ j < p * 6 + i ∧ ¬ nI (j - p * 6) = v then 1 else f j := by
  induction i with
  | zero => rw [if_neg (by omega)]; rfl
  | succ i ih =>
    unfold sdU
    by_cases e : nI i = v
    · rw [if_pos e, ih]
      by_cases h : p * 6 ≤ j ∧ j < p * 6 + i ∧ ¬ nI (j - p * 6) = v
      · rw [if_pos h, if_pos ⟨h.1, by omega, h.2.2⟩]
      · rw [if_neg h, if_neg]
        rintro ⟨h1, h2, h3⟩
        by_cases q : j = p * 6 + i
        · exact h3 (by rw [q, Nat.add_sub_cancel_left]; exact e)
        · exact h ⟨h1, by omega, h3⟩
    · rw [if_neg e]
      simp only [va_up]
      by_cases q : j = p * 6 + i
      · rw [if_pos q, if_pos ⟨by omega, by omega, by rw [q, Nat.add_sub_cancel_left]; exact e⟩]
      · rw [if_neg q, ih]
        by_cases h : p * 6 ≤ j ∧ j < p * 6 + i ∧ ¬ nI (j - p * 6) = v
        · rw [if_pos h, if_pos ⟨h.1, by omega, h.2.2⟩]
        · rw [if_neg h, if_neg (fun q => h ⟨q.1, by omega, q.2.2⟩)]
/-- how many of the numbers below i aren't v -/
def neTo (v : Int32) : Nat → Nat
  | 0 => 0
  | i + 1 => neTo v i + if nI i = v then 0 else 1
theorem neTo_le (v : Int32) (i : Nat) : neTo v i ≤ i := by
  induction i with
  | zero => exact Nat.le_refl _
  | succ i ih => unfold neTo; split <;> omega
theorem sdU_cnt {p : Nat} {v : Int32} {f : Nat → Nat} {i : Nat} (hb : p * 6 + i ≤ 72) (h : ∀ k, k < i → ¬ f (p * 6 + k) = 1) : eqTo (sdU p v f i) 1 72 = eqTo f 1 72 + neTo v i := by
  induction i with
  | zero => rfl
  | succ i ih =>
    have ih := ih (by omega) (fun k hk => h k (by omega))
    unfold sdU neTo
    by_cases e : nI i = v
    · rw [if_pos e, if_pos e, ih]; rfl
    · rw [if_neg e, if_neg e]
      have h1 := eqTo_up (f := sdU p v f i) (x := 1) (k := 72) (s := p * 6 + i) (v := 1) (by omega)
      rw [if_pos rfl, if_neg (by rw [sdU_val, if_neg (by omega)]; exact h i (by omega))] at h1
      omega
theorem sdU_ind {p : Nat} {v : Int32} {uw se : Nat → Nat} {i : Nat} (h : ∀ j, j < 72 → uw j = if se j = 1 then 1 else 0) : ∀ j, j < 72 → sdU p v uw i j = if sdU p v se i j = 1 then 1 else 0 := by
  intro j hj
  rw [sdU_val, sdU_val]
  by_cases e : p * 6 ≤ j ∧ j < p * 6 + i ∧ ¬ nI (j - p * 6) = v
  · rw [if_pos e, if_pos e]; rfl
  · rw [if_neg e, if_neg e]; exact h j hj
/-- the draw, the number below k -/
def drN (d : Int64) : Int64 := d * (6364136223846793005) + lN 1442695040888963407
def NB (d : Int64) (k : Nat) : Nat := d.toBitVec.toNat % 2 ^ 31 / 4096 % k
theorem NB_lt (d : Int64) {k : Nat} (h : 0 < k) : NB d k < k := Nat.mod_lt _ h
theorem and31 (d : Int64) : d &&& lN 2147483647 = lN (d.toBitVec.toNat % 2 ^ 31) := by
  apply Int64.toBitVec_inj.mp
  apply BitVec.eq_of_toNat_eq
  rw [Int64.toBitVec_and, BitVec.toNat_and, lN_bv, lN_bv, BitVec.toNat_ofNat, BitVec.toNat_ofNat]
  have h1 : d.toBitVec.toNat % 2 ^ 31 < 2 ^ 31 := Nat.mod_lt _ (by decide)
  rw [show 2147483647 % 2 ^ 64 = 2 ^ 31 - 1 from rfl, Nat.and_two_pow_sub_one_eq_mod, Nat.mod_eq_of_lt (by omega : d.toBitVec.toNat % 2 ^ 31 < 2 ^ 64)]
theorem nb_eq (d : Int64) {k : Nat} (h0 : 0 < k) (hk : k < 2 ^ 31) : ((d &&& lN 2147483647) / lN 4096 - (d &&& lN 2147483647) / lN 4096 / lN k * lN k).toInt32 = nI (NB d k) := by
  have h1 : d.toBitVec.toNat % 2 ^ 31 < 2 ^ 31 := Nat.mod_lt _ (by decide)
  rw [and31, pk_lDiv (by omega) (by decide) (by decide), pk_lRem (by omega) h0 (by omega), lN_i]
  rfl
abbrev FS : Type := Int64 × (Nat → Nat) × Nat × (Nat → Nat) × (Nat → Int32) × (Nat → Int32) × (Nat → Nat)
def fDr (s : FS) : Int64 := s.1
def fSe (s : FS) : Nat → Nat := s.2.1
def fW (s : FS) : Nat := s.2.2.1
def fCo (s : FS) : Nat → Nat := s.2.2.2.1
def fPp (s : FS) : Nat → Int32 := s.2.2.2.2.1
def fDe (s : FS) : Nat → Int32 := s.2.2.2.2.2.1
def fLo (s : FS) : Nat → Nat := s.2.2.2.2.2.2
noncomputable def fNext (pt ac : Nat → Nat) (s : FS) (t : Nat) : FS :=
  (drN (fDr s), if fDe s (ac t / 6) = -9 then sdU (ac t / 6) (nI (ac t % 6)) (va_up (fSe s) t 2) (pt (ac t / 6)) else va_up (fSe s) t 2, fW s + 1, va_up (fCo s) (fW s) (ac t / 6),
    if fDe s (ac t / 6) = -9 then upd (fPp s) (ac t / 6) (nI (ac t % 6)) else fPp s, if fDe s (ac t / 6) = -9 then upd (fDe s) (ac t / 6) (fDe s (t / 6) + nI 1) else fDe s, va_up (fLo s) (ac t / 6) (fLo s (ac t / 6) + 1))
def f0 (pt : Nat → Nat) (p : Nat) (seed : Int64) : FS := (seed, sdU p (-9) (fun _ => 0) (pt p), 0, fun _ => 0, fun _ => -9, upd (fun _ => -9) p (nI 0), fun _ => 0)
def FSel (s : FS) (t : Nat) : Prop := t < 72 ∧ fSe s t = 1 ∧ eqTo (fSe s) 1 t = NB (drN (fDr s)) (eqTo (fSe s) 1 72)
def FStep (pt ac : Nat → Nat) (s s' : FS) : Prop := ∃ t, FSel s t ∧ s' = fNext pt ac s t
def FRun (pt ac : Nat → Nat) (s0 : FS) : Nat → FS → Prop
  | 0, s => s = s0
  | i + 1, s => ∃ t, FRun pt ac s0 i t ∧ FStep pt ac t s
theorem FSel.det {s : FS} {t t' : Nat} (h : FSel s t) (h' : FSel s t') : t = t' := by
  obtain ⟨h1, h2, h3⟩ := h
  obtain ⟨g1, g2, g3⟩ := h'
  rcases Nat.lt_trichotomy t t' with q | q | q
  · have := eqTo_lt q h2; omega
  · exact q
  · have := eqTo_lt q g2; omega
theorem FStep.det {pt ac : Nat → Nat} {s a b : FS} (h : FStep pt ac s a) (h' : FStep pt ac s b) : a = b := by
  obtain ⟨t, h1, h2⟩ := h
  obtain ⟨t', g1, g2⟩ := h'
  rw [h2, g2, h1.det g1]
theorem FRun.det {pt ac : Nat → Nat} {s0 : FS} {i : Nat} : ∀ {a b : FS}, FRun pt ac s0 i a → FRun pt ac s0 i b → a = b := by
  induction i with
  | zero => intro a b h h'; exact h.trans h'.symm
  | succ i ih =>
    rintro a b ⟨t, h1, h2⟩ ⟨t', g1, g2⟩
    rw [ih h1 g1] at h2
    exact h2.det g2
theorem FRun.pre {pt ac : Nat → Nat} {s0 : FS} {i j : Nat} (hij : i ≤ j) : ∀ {b : FS}, FRun pt ac s0 j b → ∃ a, FRun pt ac s0 i a ∧ (i < j → ∃ c, FStep pt ac a c) := by
  induction j with
  | zero =>
    intro b h
    have e : i = 0 := by omega
    exact ⟨b, by rw [e]; exact h, fun q => absurd q (by omega)⟩
  | succ j ih =>
    rintro b ⟨t, h1, h2⟩
    by_cases e : i = j + 1
    · exact ⟨b, by rw [e]; exact ⟨t, h1, h2⟩, fun q => by omega⟩
    · by_cases e2 : i = j
      · exact ⟨t, by rw [e2]; exact h1, fun _ => ⟨b, h2⟩⟩
      · obtain ⟨a, a1, a2⟩ := ih (by omega) h1
        exact ⟨a, a1, fun _ => a2 (by omega)⟩
def FFin (s : FS) : Prop := eqTo (fSe s) 1 72 = 0
theorem FStep.not {pt ac : Nat → Nat} {a c : FS} (h : FStep pt ac a c) (hf : FFin a) : False := by
  obtain ⟨t, ⟨h1, h2, -⟩, -⟩ := h
  have := eqTo_lt h1 h2
  unfold FFin at hf
  omega
theorem FRun.same {pt ac : Nat → Nat} {s0 : FS} {i j : Nat} {a b : FS} (h : FRun pt ac s0 i a) (ha : FFin a) (h' : FRun pt ac s0 j b) (hb : FFin b) : a = b := by
  rcases Nat.lt_trichotomy i j with q | q | q
  · obtain ⟨a', a1, a2⟩ := h'.pre (Nat.le_of_lt q)
    obtain ⟨c, hc⟩ := a2 q
    rw [← h.det a1] at hc
    exact absurd ha hc.not
  · rw [← q] at h'
    exact h.det h'
  · obtain ⟨a', a1, a2⟩ := h.pre (Nat.le_of_lt q)
    obtain ⟨c, hc⟩ := a2 q
    rw [← h'.det a1] at hc
    exact absurd hb hc.not
def FWf (n : Nat) (pt : Nat → Nat) (s : FS) : Prop := (∀ j, j < 72 → fSe s j ≤ 2 ∧ (¬ fSe s j = 0 → j / 6 < n ∧ j % 6 < pt (j / 6) ∧ ¬ fDe s (j / 6) = -9)) ∧ fW s = eqTo (fSe s) 2 72 ∧ ∀ q, q < 12 → fDe s q = -9 ∨ ∃ k, k ≤ fW s ∧ fDe s q = nI k
theorem FWf.w72 {n : Nat} {pt : Nat → Nat} {s : FS} (h : FWf n pt s) : fW s + eqTo (fSe s) 1 72 ≤ 72 := by
  rw [h.2.1]
  have := eqTo_12 (fSe s) 72
  omega
theorem FWf.init {n : Nat} {mk pt ac : Nat → Nat} {p : Nat} {seed : Int64} (hN : NOk n mk pt ac) (hp : p < n) : FWf n pt (f0 pt p seed) := by
  have hpp := hN.p6 hp
  have hn := hN.n12
  refine ⟨fun j hj => ?_, ?_, fun q hq => ?_⟩
  · show sdU p (-9) (fun _ => 0) (pt p) j ≤ 2 ∧ (¬ sdU p (-9) (fun _ => 0) (pt p) j = 0 → _ ∧ _ ∧ ¬ upd (fun _ => -9) p (nI 0) (j / 6) = -9)
    rw [sdU_val]
    by_cases e : p * 6 ≤ j ∧ j < p * 6 + pt p ∧ ¬ nI (j - p * 6) = -9
    · rw [if_pos e]
      refine ⟨by omega, fun _ => ?_⟩
      have e1 : j / 6 = p := by omega
      have e2 : j % 6 = j - p * 6 := by omega
      rw [e1, e2]
      exact ⟨hp, by omega, by simp only [upd]; rw [if_pos trivial]; exact nI9 (by decide)⟩
    · rw [if_neg e]
      exact ⟨by omega, fun q => absurd rfl q⟩
  · show 0 = eqTo (sdU p (-9) (fun _ => 0) (pt p)) 2 72
    rw [eqTo_congr (g := fun _ => 0) (fun j hj => ?_)]
    · exact (by decide : (0 : Nat) = eqTo (fun _ => 0) 2 72)
    · rw [sdU_val]; split <;> omega
  · show upd (fun _ => -9) p (nI 0) q = -9 ∨ _
    simp only [upd]
    by_cases e : q = p
    · rw [if_pos e]; exact Or.inr ⟨0, Nat.zero_le _, by show upd (fun _ => -9) p (nI 0) q = _; simp [upd, e]⟩
    · rw [if_neg e]; exact Or.inl rfl
