/-! Ranks: what an order of keys gives, packed keys, sorted rows. -/
/-- r is the rank of each of the first n by its key: u unlike ones, without gaps -/
def Rk (n : Nat) (key r : Nat → Nat) (u : Nat) : Prop := u ≤ n ∧ (∀ p q, p < n → q < n → (key p < key q ↔ r p < r q)) ∧ (∀ p, p < n → r p < u) ∧ ∀ v, v < u → ∃ p, p < n ∧ r p = v
def SD (uk : Nat → Nat) (c : Nat) : Prop := ∀ i j, i < j → j < c → uk i < uk j
theorem SD.inj {uk : Nat → Nat} {c i j : Nat} (h : SD uk c) (hi : i < c) (hj : j < c) (e : uk i = uk j) : i = j := by
  rcases Nat.lt_trichotomy i j with q | q | q
  · have := h i j q hj; omega
  · exact q
  · have := h j i q hi; omega
def K0 (mk pt : Nat → Nat) (p : Nat) : Nat := mk p * 8 + pt p
def pkTo (ac r : Nat → Nat) (p : Nat) : Nat → Nat
  | 0 => r p
  | i + 1 => pkTo ac r p i * 128 + (ac (p * 6 + i) % 6 * 16 + r (ac (p * 6 + i) / 6))
def K1 (pt ac r : Nat → Nat) (p : Nat) : Nat := pkTo ac r p (pt p) * 2 ^ (7 * (6 - pt p))
def rowT (tb : Nat → Nat) (d : Nat) : Nat → Nat := fun p => tb (d * 12 + p)
def KYd (mk pt ac tb : Nat → Nat) : Nat → Nat → Nat
  | 0 => K0 mk pt
  | d + 1 => K1 pt ac (rowT tb d)
def RTab (n : Nat) (mk pt ac tb un : Nat → Nat) (rd : Nat) : Prop := rd < 12 ∧ (∀ d, d ≤ rd → Rk n (KYd mk pt ac tb d) (rowT tb d) (un d)) ∧ (∀ d, d < rd → un (d + 1) ≠ un d) ∧ (rd = 11 ∨ ∃ r, Rk n (K1 pt ac (rowT tb rd)) r (un rd))
theorem pkTo_le {n : Nat} {mk pt ac r : Nat → Nat} (hN : NOk n mk pt ac) (hr : ∀ q, q < n → r q < 16) {p i : Nat} (hp : p < n) (hi : i ≤ pt p) : pkTo ac r p i < 16 * 2 ^ (7 * i) := by
  induction i with
  | zero => exact hr p hp
  | succ i ih =>
    have h1 := ih (by omega)
    obtain ⟨h2, h3, -⟩ := hN.a hp (i := i) (by omega)
    have h4 := hr _ h2
    show pkTo ac r p i * 128 + (ac (p * 6 + i) % 6 * 16 + r (ac (p * 6 + i) / 6)) < _
    rw [show 7 * (i + 1) = 7 * i + 7 by omega, Nat.pow_add]
    omega
theorem pkTo_lt {n : Nat} {mk pt ac r : Nat → Nat} (hN : NOk n mk pt ac) (hr : ∀ q, q < n → r q < 16) {p i : Nat} (hp : p < n) (hi : i ≤ pt p) : pkTo ac r p i < 2 ^ 46 := by
  have h1 := pkTo_le hN hr hp hi
  have h2 := hN.p6 hp
  have h3 : 2 ^ (7 * i) ≤ 2 ^ 42 := Nat.pow_le_pow_right (by decide) (by omega)
  omega
theorem K1_lt {n : Nat} {mk pt ac r : Nat → Nat} (hN : NOk n mk pt ac) (hr : ∀ q, q < n → r q < 16) {p : Nat} (hp : p < n) : K1 pt ac r p < 2 ^ 46 := by
  have h1 := pkTo_le hN hr hp (Nat.le_refl _)
  have h2 := hN.p6 hp
  unfold K1
  have h3 : (16 * 2 ^ (7 * pt p)) * 2 ^ (7 * (6 - pt p)) = 2 ^ 46 := by
    rw [Nat.mul_assoc, ← Nat.pow_add, show 7 * pt p + 7 * (6 - pt p) = 42 by omega]
  rw [← h3]
  exact Nat.mul_lt_mul_of_pos_right h1 (Nat.two_pow_pos _)
theorem K0_lt {n : Nat} {mk pt ac : Nat → Nat} (hN : NOk n mk pt ac) {p : Nat} (hp : p < n) : K0 mk pt p < 2 ^ 46 := by
  have h1 := hN.p6 hp
  have h2 := hN.m9 hp
  unfold K0
  omega
/-- a key put into its place -/
theorem ins_ok {uk uk2 : Nat → Nat} {cnt b key : Nat} (hsd : SD uk cnt) (hb : b ≤ cnt) (h1 : ∀ j, j < b → uk j < key) (h2 : b < cnt → key < uk b) (h3 : ∀ j, j ≤ cnt → uk2 j = if j < b then uk j else if j = b then key else uk (j - 1)) : SD uk2 (cnt + 1) ∧ ∀ v, (∃ j, j < cnt + 1 ∧ uk2 j = v) ↔ (v = key ∨ ∃ j, j < cnt ∧ uk j = v) := by
  have a1 : ∀ j, j < b → uk2 j = uk j := fun j hj => by rw [h3 j (by omega), if_pos hj]
  have a2 : uk2 b = key := by rw [h3 b hb, if_neg (Nat.lt_irrefl _), if_pos rfl]
  have a3 : ∀ j, b < j → j ≤ cnt → uk2 j = uk (j - 1) := fun j hj hc => by rw [h3 j hc, if_neg (by omega), if_neg (by omega)]
  have a4 : ∀ j, b ≤ j → j < cnt → key < uk j := fun j hj hc => by
    rcases Nat.lt_or_eq_of_le hj with q | q
    · exact Nat.lt_trans (h2 (by omega)) (hsd b j q hc)
    · rw [← q]; exact h2 (by omega)
  refine ⟨fun i j hij hj => ?_, fun v => ⟨?_, ?_⟩⟩
  · rcases Nat.lt_trichotomy j b with q | q | q
    · rw [a1 i (by omega), a1 j q]; exact hsd i j hij (by omega)
    · rw [q, a2, a1 i (by omega)]; exact h1 i (by omega)
    · rw [a3 j q (by omega)]
      rcases Nat.lt_trichotomy i b with r | r | r
      · rw [a1 i r]; exact Nat.lt_trans (h1 i r) (a4 (j - 1) (by omega) (by omega))
      · rw [r, a2]; exact a4 (j - 1) (by omega) (by omega)
      · rw [a3 i r (by omega)]; exact hsd (i - 1) (j - 1) (by omega) (by omega)
  · rintro ⟨j, hj, e⟩
    rcases Nat.lt_trichotomy j b with q | q | q
    · exact Or.inr ⟨j, by omega, by rw [← a1 j q]; exact e⟩
    · exact Or.inl (by rw [← e, q, a2])
    · exact Or.inr ⟨j - 1, by omega, by rw [← a3 j q (by omega)]; exact e⟩
  · rintro (e | ⟨j, hj, e⟩)
    · exact ⟨b, by omega, by rw [a2, e]⟩
    · by_cases q : j < b
      · exact ⟨j, by omega, by rw [a1 j q, e]⟩
      · exact ⟨j + 1, by omega, by rw [a3 (j + 1) (by omega) (by omega)]; exact e⟩
theorem SD.rk {uk ky r : Nat → Nat} {n c : Nat} (hsd : SD uk c) (hc : c ≤ n) (hs : ∀ v, (∃ j, j < c ∧ uk j = v) ↔ ∃ p, p < n ∧ ky p = v) (hr : ∀ p, p < n → (∀ j, j < r p → uk j < ky p) ∧ (r p < c → ky p ≤ uk (r p))) : Rk n ky r c := by
  have key : ∀ p, p < n → r p < c ∧ uk (r p) = ky p := by
    intro p hp
    obtain ⟨j, hj, e⟩ := (hs (ky p)).mpr ⟨p, hp, rfl⟩
    obtain ⟨h1, h2⟩ := hr p hp
    have e2 : r p = j := by
      rcases Nat.lt_trichotomy (r p) j with q | q | q
      · have := hsd (r p) j q hj
        have := h2 (by omega)
        omega
      · exact q
      · have := h1 j q
        omega
    rw [e2]
    exact ⟨hj, e⟩
  refine ⟨hc, fun p q hp hq => ?_, fun p hp => (key p hp).1, fun v hv => ?_⟩
  · rw [← (key p hp).2, ← (key q hq).2]
    constructor
    · intro h
      rcases Nat.lt_trichotomy (r p) (r q) with z | z | z
      · exact z
      · rw [z] at h; omega
      · have := hsd _ _ z (key p hp).1; omega
    · intro h
      exact hsd _ _ h (key q hq).1
  · obtain ⟨p, hp, e⟩ := (hs (uk v)).mp ⟨v, hv, rfl⟩
    exact ⟨p, hp, hsd.inj (key p hp).1 hv ((key p hp).2.trans e)⟩
theorem Rk.congr {n : Nat} {k k' r r' : Nat → Nat} {u : Nat} (h : Rk n k r u) (hk : ∀ p, p < n → k' p = k p) (hr : ∀ p, p < n → r' p = r p) : Rk n k' r' u := by
  obtain ⟨h0, h1, h2, h3⟩ := h
  refine ⟨h0, fun p q hp hq => ?_, fun p hp => by rw [hr p hp]; exact h2 p hp, fun v hv => ?_⟩
  · rw [hk p hp, hk q hq, hr p hp, hr q hq]; exact h1 p q hp hq
  · obtain ⟨p, hp, e⟩ := h3 v hv
    exact ⟨p, hp, by rw [hr p hp]; exact e⟩
/-- longs as naturals: shifts, joined bits -/
theorem lN_bv (n : Nat) : (lN n).toBitVec = BitVec.ofNat 64 n := rfl
theorem lN_or {a b : Nat} (hb : b < 2 ^ 7) : lN (a * 128) ||| lN b = lN (a * 128 + b) := by
  apply Int64.toBitVec_inj.mp
  rw [Int64.toBitVec_or, lN_bv, lN_bv, lN_bv, ← BitVec.ofNat_or]
  congr 1
  rw [show a * 128 = 2 ^ 7 * a by omega]
  exact (Nat.two_pow_add_eq_or_of_lt hb a).symm
theorem lN_or2 {k x t : Nat} (hx : x < 8) (ht : t < 16) : lN (k * 128 + x * 16) ||| lN t = lN (k * 128 + (x * 16 + t)) := by
  apply Int64.toBitVec_inj.mp
  rw [Int64.toBitVec_or, lN_bv, lN_bv, lN_bv, ← BitVec.ofNat_or]
  congr 1
  rw [show k * 128 + x * 16 = 2 ^ 4 * (k * 8 + x) by omega, show k * 128 + (x * 16 + t) = 2 ^ 4 * (k * 8 + x) + t by omega]
  exact (Nat.two_pow_add_eq_or_of_lt (i := 4) (by omega) (k * 8 + x)).symm
theorem lN_sh : ∀ s, s < 64 → ((nI s).toInt64 &&& 63).toBitVec.smod 64 = BitVec.ofNat 64 s := by decide +kernel
theorem lN_shl (a s : Nat) (hs : s < 64) : lN a <<< ((nI s).toInt64 &&& 63) = lN (a * 2 ^ s) := by
  apply Int64.toBitVec_inj.mp
  rw [Int64.toBitVec_shiftLeft, lN_sh s hs, lN_bv, lN_bv]
  apply BitVec.eq_of_toNat_eq
  have h9 : (BitVec.ofNat 64 s).toNat = s := by simp; omega
  rw [BitVec.shiftLeft_eq', BitVec.toNat_shiftLeft, h9, BitVec.toNat_ofNat, BitVec.toNat_ofNat, Nat.shiftLeft_eq, Nat.mod_mul_mod]
theorem nI_shl4 {p : Nat} (h : p < 8) : nI p <<< ((nI 4) &&& 31) = nI (p * 16) := pk_shlN ((nI 4) &&& 31) 4 (by decide +kernel) (by omega)
/-- a row up to a place -/
theorem up_to {f g : Nat → Nat} {i x : Nat} (h : ∀ p, p < i → f p = g p) (hx : x = g i) : ∀ p, p < i + 1 → va_up f i x p = g p := by
  intro p hp
  simp only [va_up]
  by_cases e : p = i
  · rw [if_pos e, hx, e]
  · rw [if_neg e]; exact h p (by omega)
theorem sh_step {uk uk1 : Nat → Nat} {i cnt : Nat} (hf : ∀ j, uk1 j = if i < j ∧ j ≤ cnt then uk (j - 1) else uk j) (h0 : 0 < i) (hi : i ≤ cnt) : ∀ j, va_up uk1 i (uk1 (i - 1)) j = if i - 1 < j ∧ j ≤ cnt then uk (j - 1) else uk j := by
  intro j
  simp only [va_up]
  by_cases e : j = i
  · rw [if_pos e, hf, if_neg (by omega), if_pos (by omega), e]
  · rw [if_neg e, hf]
    by_cases e2 : i < j ∧ j ≤ cnt
    · rw [if_pos e2, if_pos (by omega)]
    · rw [if_neg e2, if_neg (by omega)]
theorem sh_end {uk uk1 : Nat → Nat} {b cnt key : Nat} (hf : ∀ j, uk1 j = if b < j ∧ j ≤ cnt then uk (j - 1) else uk j) : ∀ j, j ≤ cnt → va_up uk1 b key j = if j < b then uk j else if j = b then key else uk (j - 1) := by
  intro j hj
  simp only [va_up]
  by_cases e : j = b
  · rw [if_pos e, if_neg (by omega), if_pos e]
  · rw [if_neg e, hf]
    by_cases e2 : b < j ∧ j ≤ cnt
    · rw [if_pos e2, if_neg (by omega), if_neg e]
    · rw [if_neg e2, if_pos (by omega)]
theorem set_step {uk uk2 ky : Nat → Nat} {c c2 i : Nat} (hs : ∀ v, (∃ j, j < c ∧ uk j = v) ↔ ∃ p, p < i ∧ ky p = v) (h : ∀ v, (∃ j, j < c2 ∧ uk2 j = v) ↔ (v = ky i ∨ ∃ j, j < c ∧ uk j = v)) : ∀ v, (∃ j, j < c2 ∧ uk2 j = v) ↔ ∃ p, p < i + 1 ∧ ky p = v := by
  intro v
  rw [h v, hs v]
  constructor
  · rintro (e | ⟨p, hp, e⟩)
    · exact ⟨i, by omega, e.symm⟩
    · exact ⟨p, by omega, e⟩
  · rintro ⟨p, hp, e⟩
    by_cases q : p = i
    · exact Or.inl (by rw [← e, q])
    · exact Or.inr ⟨p, by omega, e⟩
theorem rk_step {uk ky tb : Nat → Nat} {s c e b : Nat} (ht : ∀ p, p < e → (∀ j, j < tb (s + p) → uk j < ky p) ∧ (tb (s + p) < c → ky p ≤ uk (tb (s + p)))) (h1 : ∀ j, j < b → uk j < ky e) (h2 : b < c → ky e ≤ uk b) : ∀ p, p < e + 1 → (∀ j, j < va_up tb (s + e) b (s + p) → uk j < ky p) ∧ (va_up tb (s + e) b (s + p) < c → ky p ≤ uk (va_up tb (s + e) b (s + p))) := by
  intro p hp
  by_cases q : p = e
  · rw [q, show va_up tb (s + e) b (s + e) = b from by simp [va_up]]
    exact ⟨h1, h2⟩
  · rw [show va_up tb (s + e) b (s + p) = tb (s + p) from by simp only [va_up]; rw [if_neg (by omega)]]
    exact ht p (by omega)
theorem fr_step {tb tb0 : Nat → Nat} {s e b : Nat} (h : ∀ j, (j < s ∨ s + e ≤ j) → tb j = tb0 j) : ∀ j, (j < s ∨ s + (e + 1) ≤ j) → va_up tb (s + e) b j = tb0 j := by
  intro j hj
  simp only [va_up]
  rw [if_neg (by omega)]
  exact h j (by omega)
theorem rt_step {n : Nat} {mk pt ac tb1 tb2 un1 ky : Nat → Nat} {rd c : Nat} (hN : NOk n mk pt ac) (hR : ∀ e, e ≤ rd → Rk n (KYd mk pt ac tb1 e) (rowT tb1 e) (un1 e)) (hf : ∀ j, j < (rd + 1) * 12 → tb2 j = tb1 j) (hk : ∀ p, p < n → ky p = K1 pt ac (rowT tb1 rd) p) (hr : Rk n ky (rowT tb2 (rd + 1)) c) : ∀ e, e ≤ rd + 1 → Rk n (KYd mk pt ac tb2 e) (rowT tb2 e) (va_up un1 (rd + 1) c e) := by
  have hrow : ∀ e, e ≤ rd → ∀ p, p < 12 → rowT tb2 e p = rowT tb1 e p := fun e he p hp => hf _ (by omega)
  have hK1 : ∀ e, e ≤ rd → ∀ p, p < n → K1 pt ac (rowT tb2 e) p = K1 pt ac (rowT tb1 e) p := by
    intro e he p hp
    have h12 := hN.n12
    have key : ∀ i, i ≤ pt p → pkTo ac (rowT tb2 e) p i = pkTo ac (rowT tb1 e) p i := by
      intro i
      induction i with
      | zero => intro _; exact hrow e he p (by omega)
      | succ i ih =>
        intro hi
        obtain ⟨h2, h3, -⟩ := hN.a hp (i := i) (by omega)
        show pkTo ac (rowT tb2 e) p i * 128 + _ = pkTo ac (rowT tb1 e) p i * 128 + _
        rw [ih (by omega), hrow e he _ (by omega)]
    unfold K1
    rw [key _ (Nat.le_refl _)]
  have h12 := hN.n12
  intro e he
  by_cases q : e = rd + 1
  · rw [q, show va_up un1 (rd + 1) c (rd + 1) = c from by simp [va_up]]
    exact hr.congr (fun p hp => by rw [hk p hp]; exact hK1 rd (Nat.le_refl _) p hp) (fun p _ => rfl)
  · rw [show va_up un1 (rd + 1) c e = un1 e from by simp only [va_up]; rw [if_neg q]]
    refine (hR e (by omega)).congr (fun p hp => ?_) (fun p hp => hrow e (by omega) p (by omega))
    cases e with
    | zero => rfl
    | succ e => exact hK1 e (by omega) p hp
/-- how many of the first i are v -/
def eqTo (f : Nat → Nat) (v : Nat) : Nat → Nat
  | 0 => 0
  | i + 1 => eqTo f v i + if f i = v then 1 else 0
theorem eqTo_le (f : Nat → Nat) (v i : Nat) : eqTo f v i ≤ i := by
  induction i with
  | zero => exact Nat.le_refl _
  | succ i ih =>
    unfold eqTo
    split <;> omega
