/-! What calls do to the net: both programs' arrays stay a net, and the same one. -/
def Vs (n : Nat) (pt : Nat → Nat) (x : Nat) : Prop := x / 6 < n ∧ x % 6 < pt (x / 6)
theorem NOk.sl {n : Nat} {mk pt ac : Nat → Nat} (h : NOk n mk pt ac) {x : Nat} (hx : Vs n pt x) : Vs n pt (ac x) ∧ ac (ac x) = x ∧ ac x / 6 ≠ x / 6 := by
  obtain ⟨h1, h2, h3, h4, -⟩ := h.a hx.1 hx.2
  rw [show x / 6 * 6 + x % 6 = x by omega] at h1 h2 h3 h4
  exact ⟨⟨h1, h2⟩, h3, h4⟩
theorem Vs.at {n p i : Nat} {pt : Nat → Nat} (hp : p < n) (hi : i < pt p) (h6 : pt p ≤ 6) : Vs n pt (p * 6 + i) := by
  have e1 : (p * 6 + i) / 6 = p := by omega
  have e2 : (p * 6 + i) % 6 = i := by omega
  unfold Vs
  rw [e1, e2]
  exact ⟨hp, hi⟩
theorem NOk.of {n : Nat} {mk pt ac : Nat → Nat} (h1 : n ≤ 12) (h2 : ∀ p, p < n → mk p < 10 ∧ pt p ≤ 6) (h3 : ∀ x, Vs n pt x → Vs n pt (ac x) ∧ ac (ac x) = x ∧ ac x / 6 ≠ x / 6) : NOk n mk pt ac := by
  refine ⟨h1, fun p hp => ⟨(h2 p hp).1, (h2 p hp).2, fun i hi => ?_⟩⟩
  have h6 := (h2 p hp).2
  obtain ⟨a, b, c⟩ := h3 _ (Vs.at hp hi h6)
  rw [show (p * 6 + i) / 6 = p by omega] at c
  exact ⟨a.1, a.2, b, c⟩
theorem NOk.c2 {n : Nat} {mk pt ac : Nat → Nat} (h : NOk n mk pt ac) : ∀ p, p < n → mk p < 10 ∧ pt p ≤ 6 := fun p hp => ⟨h.m9 hp, h.p6 hp⟩
/-- a slot's end told by post and port -/
def ES (ac tp tj : Nat → Nat) (x : Nat) : Prop := tj x < 6 ∧ ac x = tp x * 6 + tj x
theorem NR.es {n : Nat} {pt ac tp tj : Nat → Nat} (h6 : ∀ p, p < n → pt p ≤ 6) : NR n pt ac tp tj ↔ ∀ x, Vs n pt x → ES ac tp tj x := by
  constructor
  · intro h x hx
    obtain ⟨a, b⟩ := h _ _ hx.1 hx.2
    rw [show 6 * (x / 6) + x % 6 = x by omega] at a b
    rw [show x / 6 * 6 + x % 6 = x by omega] at b
    exact ⟨a, b⟩
  · intro h p i hp hi
    obtain ⟨a, b⟩ := h _ (Vs.at hp hi (h6 p hp))
    rw [show p * 6 + i = 6 * p + i by omega] at a b ⊢
    exact ⟨a, b⟩
def tie (ac : Nat → Nat) (s t : Nat) : Nat → Nat := va_up (va_up ac s t) t s
theorem tie_t (ac : Nat → Nat) (s t : Nat) : tie ac s t t = s := va_up_self _ _ _
theorem tie_s (ac : Nat → Nat) {s t : Nat} (h : s ≠ t) : tie ac s t s = t := by unfold tie; rw [va_up_ne _ _ h, va_up_self]
theorem tie_ne (ac : Nat → Nat) {s t x : Nat} (h1 : x ≠ s) (h2 : x ≠ t) : tie ac s t x = ac x := by unfold tie; rw [va_up_ne _ _ h2, va_up_ne _ _ h1]
theorem ES.tie {ac tp tj : Nat → Nat} {p i q j x s t : Nat} (hi : i < 6) (hj : j < 6) (hs : s = 6 * p + i) (ht : t = 6 * q + j) (h : x ≠ s → x ≠ t → ES ac tp tj x) : ES (tie ac s t) (lkP tp p i q j) (lkJ tj p i q j) x := by
  unfold ES lkP lkJ
  rw [← hs, ← ht]
  by_cases e1 : x = t
  · rw [e1, tie_t, va_up_self, va_up_self]
    exact ⟨hi, by omega⟩
  · rw [va_up_ne _ _ e1, va_up_ne _ _ e1]
    by_cases e2 : x = s
    · rw [e2, va_up_self, va_up_self, tie_s _ (by rw [← e2]; exact e1)]
      exact ⟨hj, by omega⟩
    · rw [va_up_ne _ _ e2, va_up_ne _ _ e2, tie_ne _ e2 e1]
      exact h e2 e1
theorem NOk.zero (mk pt ac : Nat → Nat) : NOk 0 mk pt ac := ⟨by omega, fun p h => absurd h (Nat.not_lt_zero _)⟩
theorem NR.zero (pt ac tp tj : Nat → Nat) : NR 0 pt ac tp tj := fun p i h => absurd h (Nat.not_lt_zero _)
theorem NOk.post {n k : Nat} {mk pt ac : Nat → Nat} (h : NOk n mk pt ac) (hn : n < 12) (hk : k < 10) : NOk (n + 1) (va_up mk n k) (va_up pt n 0) ac := by
  refine ⟨by omega, fun p hp => ?_⟩
  by_cases e : p = n
  · rw [e, va_up_self, va_up_self]
    exact ⟨hk, by omega, fun i hi => absurd hi (Nat.not_lt_zero _)⟩
  · rw [va_up_ne _ _ e, va_up_ne _ _ e]
    refine ⟨h.m9 (by omega), h.p6 (by omega), fun i hi => ?_⟩
    obtain ⟨a, b, c, d, -⟩ := h.a (p := p) (by omega) hi
    rw [va_up_ne _ _ (show ac (p * 6 + i) / 6 ≠ n by omega)]
    exact ⟨by omega, b, c, d⟩
theorem NR.post {n : Nat} {pt ac tp tj : Nat → Nat} (h : NR n pt ac tp tj) : NR (n + 1) (va_up pt n 0) ac tp tj := by
  intro p i hp hi
  by_cases e : p = n
  · rw [e, va_up_self] at hi; exact absurd hi (Nat.not_lt_zero _)
  · rw [va_up_ne _ _ e] at hi
    exact h p i (by omega) hi
theorem NOk.mark {n a k : Nat} {mk pt ac : Nat → Nat} (h : NOk n mk pt ac) (hk : k < 10) : NOk n (va_up mk a k) pt ac := by
  refine ⟨h.1, fun p hp => ?_⟩
  obtain ⟨x, y, z⟩ := h.2 p hp
  refine ⟨?_, y, z⟩
  by_cases e : p = a
  · rw [e, va_up_self]; exact hk
  · rw [va_up_ne _ _ e]; exact x
theorem jPt_at {pt : Nat → Nat} {a b : Nat} (hab : a ≠ b) (p : Nat) : jPt pt a b p = pt p + (if p = a then 1 else 0) + (if p = b then 1 else 0) := by
  rw [jPt_ne hab]
  by_cases e1 : p = b
  · rw [e1, va_up_self, if_neg (fun z => hab z.symm), if_pos rfl]
  · rw [va_up_ne _ _ e1, if_neg e1]
    by_cases e2 : p = a
    · rw [e2, va_up_self, if_pos rfl]
    · rw [va_up_ne _ _ e2, if_neg e2]; rfl
theorem Vs.join {n a b x : Nat} {pt : Nat → Nat} (hab : a ≠ b) (ha6 : pt a < 6) (hb6 : pt b < 6) : Vs n (jPt pt a b) x → x ≠ a * 6 + pt a → x ≠ b * 6 + pt b → Vs n pt x := by
  rintro ⟨h1, h2⟩ h3 h4
  refine ⟨h1, ?_⟩
  rw [jPt_at hab] at h2
  by_cases e1 : x / 6 = a
  · rw [if_pos e1, if_neg (by omega)] at h2
    have : x % 6 ≠ pt a := fun z => h3 (by omega)
    rw [e1] at h2 ⊢
    omega
  · by_cases e2 : x / 6 = b
    · rw [if_neg e1, if_pos e2] at h2
      have : x % 6 ≠ pt b := fun z => h4 (by omega)
      rw [e2] at h2 ⊢
      omega
    · rw [if_neg e1, if_neg e2] at h2
      exact h2
theorem NOk.join {n a b : Nat} {mk pt ac : Nat → Nat} (h : NOk n mk pt ac) (ha : a < n) (hb : b < n) (hab : a ≠ b) (ha6 : pt a < 6) (hb6 : pt b < 6) : NOk n mk (jPt pt a b) (jAc pt ac a b) := by
  have hE : jAc pt ac a b = tie ac (a * 6 + pt a) (b * 6 + pt b) := rfl
  have hmono : ∀ x, Vs n pt x → Vs n (jPt pt a b) x := fun x hx => ⟨hx.1, by rw [jPt_at hab]; have := hx.2; omega⟩
  have a1 : (a * 6 + pt a) / 6 = a := by omega
  have a2 : (a * 6 + pt a) % 6 = pt a := by omega
  have b1 : (b * 6 + pt b) / 6 = b := by omega
  have b2 : (b * 6 + pt b) % 6 = pt b := by omega
  have hst : a * 6 + pt a ≠ b * 6 + pt b := by omega
  have va : Vs n (jPt pt a b) (a * 6 + pt a) := by
    unfold Vs; rw [a1, a2, jPt_at hab, if_pos rfl]; exact ⟨ha, by omega⟩
  have vb : Vs n (jPt pt a b) (b * 6 + pt b) := by
    unfold Vs; rw [b1, b2, jPt_at hab, if_neg (Ne.symm hab), if_pos rfl]; exact ⟨hb, by omega⟩
  refine NOk.of h.1 (fun p hp => ⟨h.m9 hp, ?_⟩) (fun x hx => ?_)
  · have := h.p6 hp
    rw [jPt_at hab]
    by_cases e1 : p = a
    · rw [if_pos e1, if_neg (by omega), e1]; omega
    · by_cases e2 : p = b
      · rw [if_neg e1, if_pos e2, e2]; omega
      · rw [if_neg e1, if_neg e2]; omega
  · rw [hE]
    by_cases e1 : x = a * 6 + pt a
    · rw [e1, tie_s _ hst, tie_t, a1, b1]
      exact ⟨vb, rfl, fun z => hab z.symm⟩
    · by_cases e2 : x = b * 6 + pt b
      · rw [e2, tie_t, tie_s _ hst, a1, b1]
        exact ⟨va, rfl, hab⟩
      · rw [tie_ne _ e1 e2]
        obtain ⟨c1, c2, c3⟩ := h.sl (Vs.join hab ha6 hb6 hx e1 e2)
        have n1 : ac x ≠ a * 6 + pt a := fun z => by have := c1.2; rw [z, a1, a2] at this; omega
        have n2 : ac x ≠ b * 6 + pt b := fun z => by have := c1.2; rw [z, b1, b2] at this; omega
        rw [tie_ne _ n1 n2]
        exact ⟨hmono _ c1, c2, c3⟩
theorem NR.join {n a b : Nat} {mk pt ac tp tj : Nat → Nat} (h : NOk n mk pt ac) (hR : NR n pt ac tp tj) (ha : a < n) (hb : b < n) (hab : a ≠ b) (ha6 : pt a < 6) (hb6 : pt b < 6) : NR n (jPt pt a b) (jAc pt ac a b) (lkP tp a (pt a) b (pt b)) (lkJ tj a (pt a) b (pt b)) := by
  have hR := (NR.es (fun p hp => h.p6 hp)).mp hR
  refine (NR.es (fun p hp => (h.join ha hb hab ha6 hb6).p6 hp)).mpr (fun x hx => ?_)
  exact ES.tie ha6 hb6 (by omega) (by omega) (fun e1 e2 => hR x (Vs.join hab ha6 hb6 hx e1 e2))
/-- two lines change their ends -/
theorem NOk.cross {n s1 s2 : Nat} {mk pt ac : Nat → Nat} (h : NOk n mk pt ac) (v1 : Vs n pt s1) (v2 : Vs n pt s2) (h12 : s1 ≠ s2) (hne : ac s1 ≠ s2) (p1 : ac s2 / 6 ≠ s1 / 6) (p2 : ac s1 / 6 ≠ s2 / 6) : NOk n mk pt (tie (tie ac s1 (ac s2)) s2 (ac s1)) := by
  obtain ⟨a1, a2, a3⟩ := h.sl v1
  obtain ⟨b1, b2, b3⟩ := h.sl v2
  have n1 : s1 ≠ ac s2 := fun z => p1 (by rw [← z])
  have n2 : s2 ≠ ac s1 := fun z => hne z.symm
  have n3 : ac s1 ≠ ac s2 := fun z => h12 (by rw [← a2, z, b2])
  have n4 : s1 ≠ ac s1 := fun z => a3 (by rw [← z])
  have n5 : s2 ≠ ac s2 := fun z => b3 (by rw [← z])
  generalize ht1 : ac s1 = t1 at *
  generalize ht2 : ac s2 = t2 at *
  have g1 : tie (tie ac s1 t2) s2 t1 s1 = t2 := by rw [tie_ne _ h12 n4, tie_s _ n1]
  have g2 : tie (tie ac s1 t2) s2 t1 t2 = s1 := by rw [tie_ne _ (Ne.symm n5) (Ne.symm n3), tie_t]
  have g3 : tie (tie ac s1 t2) s2 t1 s2 = t1 := tie_s _ n2
  have g4 : tie (tie ac s1 t2) s2 t1 t1 = s2 := tie_t _ _ _
  have g5 : ∀ x, x ≠ s1 → x ≠ s2 → x ≠ t1 → x ≠ t2 → tie (tie ac s1 t2) s2 t1 x = ac x := fun x e1 e2 e3 e4 => by rw [tie_ne _ e2 e3, tie_ne _ e1 e4]
  refine NOk.of h.1 h.c2 (fun x hx => ?_)
  by_cases e1 : x = s1
  · rw [e1, g1, g2]; exact ⟨b1, rfl, p1⟩
  · by_cases e2 : x = s2
    · rw [e2, g3, g4]; exact ⟨a1, rfl, p2⟩
    · by_cases e3 : x = t1
      · rw [e3, g4, g3]; exact ⟨v2, rfl, Ne.symm p2⟩
      · by_cases e4 : x = t2
        · rw [e4, g2, g1]; exact ⟨v1, rfl, Ne.symm p1⟩
        · obtain ⟨c1, c2, c3⟩ := h.sl hx
          rw [g5 x e1 e2 e3 e4]
          have m1 : ac x ≠ s1 := fun z => e3 (by rw [← ht1, ← z, c2])
          have m2 : ac x ≠ s2 := fun z => e4 (by rw [← ht2, ← z, c2])
          have m3 : ac x ≠ t1 := fun z => e1 (by rw [← a2, ← z, c2])
          have m4 : ac x ≠ t2 := fun z => e2 (by rw [← b2, ← z, c2])
          rw [g5 _ m1 m2 m3 m4]
          exact ⟨c1, c2, c3⟩
theorem NOk.swap {n a i j : Nat} {mk pt ac : Nat → Nat} (h : NOk n mk pt ac) (ha : a < n) (hi : i < pt a) (hj : j < pt a) (hij : ¬ i = j) : NOk n mk pt (tie (tie ac (a * 6 + i) (ac (a * 6 + j))) (a * 6 + j) (ac (a * 6 + i))) := by
  have h6 := h.p6 ha
  have v1 := Vs.at ha hi h6
  have v2 := Vs.at ha hj h6
  obtain ⟨a1, a2, a3⟩ := h.sl v1
  obtain ⟨b1, b2, b3⟩ := h.sl v2
  have e1 : (a * 6 + i) / 6 = a := by omega
  have e2 : (a * 6 + j) / 6 = a := by omega
  rw [e1] at a3
  rw [e2] at b3
  refine h.cross v1 v2 (by omega) (fun z => ?_) (by rw [e1]; exact b3) (by rw [e2]; exact a3)
  rw [z] at a3
  exact a3 e2
theorem NR.end {n a i : Nat} {mk pt ac tp tj : Nat → Nat} (h : NOk n mk pt ac) (hR : NR n pt ac tp tj) (ha : a < n) (hi : i < pt a) : tp (6 * a + i) < n ∧ tj (6 * a + i) < 6 ∧ ac (a * 6 + i) = 6 * tp (6 * a + i) + tj (6 * a + i) ∧ ac (a * 6 + i) / 6 = tp (6 * a + i) ∧ ac (a * 6 + i) % 6 = tj (6 * a + i) := by
  obtain ⟨r1, r2⟩ := hR a i ha hi
  obtain ⟨s1, -⟩ := h.a ha hi
  have e1 : ac (a * 6 + i) / 6 = tp (6 * a + i) := by omega
  have e2 : ac (a * 6 + i) % 6 = tj (6 * a + i) := by omega
  exact ⟨by omega, r1, by omega, e1, e2⟩
theorem NR.swap {n a i j : Nat} {mk pt ac tp tj : Nat → Nat} (h : NOk n mk pt ac) (hR : NR n pt ac tp tj) (ha : a < n) (hi : i < pt a) (hj : j < pt a) : NR n pt (tie (tie ac (a * 6 + i) (ac (a * 6 + j))) (a * 6 + j) (ac (a * 6 + i))) (lkP (lkP tp a i (tp (6 * a + j)) (tj (6 * a + j))) a j (tp (6 * a + i)) (tj (6 * a + i))) (lkJ (lkJ tj a i (tp (6 * a + j)) (tj (6 * a + j))) a j (tp (6 * a + i)) (tj (6 * a + i))) := by
  have h6 := h.p6 ha
  obtain ⟨-, q1, q2, -⟩ := hR.end h ha hi
  obtain ⟨-, r1, r2, -⟩ := hR.end h ha hj
  have hE := (NR.es (fun p hp => h.p6 hp)).mp hR
  refine (NR.es (fun p hp => h.p6 hp)).mpr (fun x hx => ?_)
  exact ES.tie (by omega) q1 (by omega) (by rw [q2]) (fun _ _ => ES.tie (by omega) r1 (by omega) (by rw [r2]) (fun _ _ => hE x hx))
theorem tie_id {ac : Nat → Nat} {s : Nat} (h : ac (ac s) = s) : tie ac s (ac s) = ac := by
  unfold tie
  rw [up_id]
  have := up_id ac (ac s)
  rw [h] at this
  exact this
theorem NR.swap0 {n a i : Nat} {mk pt ac tp tj : Nat → Nat} (h : NOk n mk pt ac) (hR : NR n pt ac tp tj) (ha : a < n) (hi : i < pt a) : NR n pt ac (lkP (lkP tp a i (tp (6 * a + i)) (tj (6 * a + i))) a i (tp (6 * a + i)) (tj (6 * a + i))) (lkJ (lkJ tj a i (tp (6 * a + i)) (tj (6 * a + i))) a i (tp (6 * a + i)) (tj (6 * a + i))) := by
  have h1 := NR.swap h hR ha hi hi
  have h2 := (h.a ha hi).2.2.1
  rw [tie_id h2, tie_id h2] at h1
  exact h1
/-- doubled: first two nets -/
theorem Vs.twice {n x : Nat} {pt : Nat → Nat} (h : Vs (n + n) (dbTo pt n n) x) : (x < n * 6 ∧ Vs n pt x) ∨ ∃ y, x = n * 6 + y ∧ Vs n pt y := by
  obtain ⟨h1, h2⟩ := h
  simp only [dbTo] at h2
  by_cases e : x / 6 < n
  · rw [if_neg (by omega)] at h2
    exact Or.inl ⟨by omega, e, h2⟩
  · rw [if_pos ⟨by omega, by omega⟩] at h2
    refine Or.inr ⟨x - n * 6, by omega, ?_⟩
    have e1 : (x - n * 6) / 6 = x / 6 - n := by omega
    have e2 : (x - n * 6) % 6 = x % 6 := by omega
    unfold Vs
    rw [e1, e2]
    exact ⟨by omega, h2⟩
theorem Vs.lo {n x : Nat} {pt : Nat → Nat} (h : Vs n pt x) : Vs (n + n) (dbTo pt n n) x := by
  obtain ⟨h1, h2⟩ := h
  refine ⟨by omega, ?_⟩
  simp only [dbTo]
  rw [if_neg (by omega)]
  exact h2
theorem Vs.hi {n x : Nat} {pt : Nat → Nat} (h : Vs n pt x) : Vs (n + n) (dbTo pt n n) (n * 6 + x) := by
  obtain ⟨h1, h2⟩ := h
  have e1 : (n * 6 + x) / 6 = n + x / 6 := by omega
  have e2 : (n * 6 + x) % 6 = x % 6 := by omega
  unfold Vs
  rw [e1, e2]
  simp only [dbTo]
  rw [if_pos ⟨by omega, by omega⟩, Nat.add_sub_cancel_left]
  exact ⟨by omega, h2⟩
theorem Vs.lt {n x : Nat} {pt : Nat → Nat} (h : Vs n pt x) : x < n * 6 := by
  have := h.1
  omega
theorem NOk.twice {n : Nat} {mk pt ac : Nat → Nat} (h : NOk n mk pt ac) (hn : n ≤ 6) : NOk (n + n) (dbTo mk n n) (dbTo pt n n) (dbAc ac (n * 6) (n * 6)) := by
  refine NOk.of (by omega) (fun p hp => ?_) (fun x hx => ?_)
  · simp only [dbTo]
    by_cases e : n ≤ p ∧ p < n + n
    · rw [if_pos e, if_pos e]; exact ⟨h.m9 (by omega), h.p6 (by omega)⟩
    · rw [if_neg e, if_neg e]; exact ⟨h.m9 (by omega), h.p6 (by omega)⟩
  · rcases hx.twice with ⟨hx1, hv⟩ | ⟨y, rfl, hv⟩
    · obtain ⟨a, b, c⟩ := h.sl hv
      have e1 : dbAc ac (n * 6) (n * 6) x = ac x := by simp only [dbAc]; rw [if_neg (by omega)]
      have e2 : dbAc ac (n * 6) (n * 6) (ac x) = ac (ac x) := by have := a.lt; simp only [dbAc]; rw [if_neg (by omega)]
      rw [e1, e2]
      exact ⟨a.lo, b, c⟩
    · obtain ⟨a, b, c⟩ := h.sl hv
      have hy := hv.lt
      have ha := a.lt
      have e1 : dbAc ac (n * 6) (n * 6) (n * 6 + y) = n * 6 + ac y := by simp only [dbAc]; rw [if_pos ⟨by omega, by omega⟩, Nat.add_sub_cancel_left]
      have e2 : dbAc ac (n * 6) (n * 6) (n * 6 + ac y) = n * 6 + ac (ac y) := by simp only [dbAc]; rw [if_pos ⟨by omega, by omega⟩, Nat.add_sub_cancel_left]
      rw [e1, e2, b]
      exact ⟨a.hi, rfl, by omega⟩
theorem NR.twice {n : Nat} {mk pt ac tp tj tp1 tj1 : Nat → Nat} (h : NOk n mk pt ac) (hn : n ≤ 6) (hR : NR n pt ac tp tj) (hA : DA n tp tj tp1 tj1) (hB : DB n pt tp tj tp1 tj1 n) : ∀ x, Vs (n + n) (dbTo pt n n) x → ES (dbAc ac (n * 6) (n * 6)) tp1 tj1 x := by
  have hE := (NR.es (fun p hp => h.p6 hp)).mp hR
  intro x hx
  rcases hx.twice with ⟨hx1, hv⟩ | ⟨y, rfl, hv⟩
  · obtain ⟨a1, a2⟩ := hA x (by omega)
    obtain ⟨b1, b2⟩ := hE x hv
    have e1 : dbAc ac (n * 6) (n * 6) x = ac x := by simp only [dbAc]; rw [if_neg (by omega)]
    unfold ES
    rw [a1, a2, e1]
    exact ⟨b1, b2⟩
  · obtain ⟨a1, a2⟩ := hB (y / 6) (y % 6) hv.1 hv.2
    rw [show 6 * (n + y / 6) + y % 6 = n * 6 + y by omega, show 6 * (y / 6) + y % 6 = y by omega] at a1 a2
    obtain ⟨b1, b2⟩ := hE y hv
    have hy := hv.lt
    have e1 : dbAc ac (n * 6) (n * 6) (n * 6 + y) = n * 6 + ac y := by simp only [dbAc]; rw [if_pos ⟨by omega, by omega⟩, Nat.add_sub_cancel_left]
    unfold ES
    rw [a1, a2, e1]
    exact ⟨b1, by omega⟩
theorem NOk.doubled {n a i : Nat} {mk pt ac : Nat → Nat} (h : NOk n mk pt ac) (hn : n ≤ 6) (ha : a < n) (hi : i < pt a) : NOk (n + n) (dbTo mk n n) (dbTo pt n n) (tie (tie (dbAc ac (n * 6) (n * 6)) (a * 6 + i) (n * 6 + ac (a * 6 + i))) (n * 6 + (a * 6 + i)) (ac (a * 6 + i))) := by
  have v := Vs.at ha hi (h.p6 ha)
  obtain ⟨a1, a2, a3⟩ := h.sl v
  have l1 := v.lt
  have l2 := a1.lt
  have e1 : dbAc ac (n * 6) (n * 6) (a * 6 + i) = ac (a * 6 + i) := by simp only [dbAc]; rw [if_neg (by omega)]
  have e2 : dbAc ac (n * 6) (n * 6) (n * 6 + (a * 6 + i)) = n * 6 + ac (a * 6 + i) := by simp only [dbAc]; rw [if_pos ⟨by omega, by omega⟩, Nat.add_sub_cancel_left]
  have hx := (h.twice hn).cross (s1 := a * 6 + i) (s2 := n * 6 + (a * 6 + i)) v.lo v.hi (by omega) (by rw [e1]; omega) (by rw [e2]; omega) (by rw [e1]; omega)
  rw [e1, e2] at hx
  exact hx
theorem NR.doubled {n a i : Nat} {mk pt ac tp tj tp1 tj1 : Nat → Nat} (h : NOk n mk pt ac) (hn : n ≤ 6) (hR : NR n pt ac tp tj) (ha : a < n) (hi : i < pt a) (hA : DA n tp tj tp1 tj1) (hB : DB n pt tp tj tp1 tj1 n) :
    NR (n + n) (dbTo pt n n) (tie (tie (dbAc ac (n * 6) (n * 6)) (a * 6 + i) (n * 6 + ac (a * 6 + i))) (n * 6 + (a * 6 + i)) (ac (a * 6 + i))) (lkP (lkP tp1 a i (n + tp (6 * a + i)) (tj (6 * a + i))) (n + a) i (tp (6 * a + i)) (tj (6 * a + i))) (lkJ (lkJ tj1 a i (n + tp (6 * a + i)) (tj (6 * a + i))) (n + a) i (tp (6 * a + i)) (tj (6 * a + i))) := by
  have h6 := h.p6 ha
  obtain ⟨-, q1, q2, -⟩ := hR.end h ha hi
  have hE := NR.twice h hn hR hA hB
  refine (NR.es (fun p hp => (h.twice hn).p6 hp)).mpr (fun x hx => ?_)
  exact ES.tie (by omega) q1 (by omega) (by rw [q2]) (fun _ _ => ES.tie (by omega) q1 (by omega) (by rw [q2]; omega) (fun _ _ => hE x hx))
/-! Lines by cells. -/
theorem js_congr {c c' : Nat → Int32} {i i' : Nat} {pt : Nat → Nat} {m : Nat} (h : ∀ t, t < 2 * m → c (i + t) = c' (i' + t)) : ∀ q, q ≤ m → jsPt c i pt q = jsPt c' i' pt q := by
  intro q
  induction q with
  | zero => intro _; rfl
  | succ q ih =>
    intro hq
    have h1 : cN c (i + 2 * q) = cN c' (i' + 2 * q) := by unfold cN; rw [h _ (by omega)]
    have h2 : cN c (i + 2 * q + 1) = cN c' (i' + 2 * q + 1) := by unfold cN; rw [Nat.add_assoc, Nat.add_assoc, h _ (by omega)]
    show jPt _ _ _ = jPt _ _ _
    rw [ih (by omega), h1, h2]
theorem jsAc_congr {c c' : Nat → Int32} {i i' : Nat} {pt ac : Nat → Nat} {m : Nat} (h : ∀ t, t < 2 * m → c (i + t) = c' (i' + t)) : ∀ q, q ≤ m → jsAc c i pt ac q = jsAc c' i' pt ac q := by
  intro q
  induction q with
  | zero => intro _; rfl
  | succ q ih =>
    intro hq
    have h1 : cN c (i + 2 * q) = cN c' (i' + 2 * q) := by unfold cN; rw [h _ (by omega)]
    have h2 : cN c (i + 2 * q + 1) = cN c' (i' + 2 * q + 1) := by unfold cN; rw [Nat.add_assoc, Nat.add_assoc, h _ (by omega)]
    show jAc _ _ _ _ = jAc _ _ _ _
    rw [ih (by omega), h1, h2, js_congr h q (by omega)]
theorem jsOk_congr {n : Nat} {c c' : Nat → Int32} {i i' : Nat} {pt : Nat → Nat} {m : Nat} (h : ∀ t, t < 2 * m → c (i + t) = c' (i' + t)) {q : Nat} (hq : q ≤ m) (hk : jsOk n c i pt q) : jsOk n c' i' pt q := by
  intro j hj
  have h1 := hk j hj
  rw [js_congr h j (by omega), h _ (by omega), Nat.add_assoc, h _ (by omega), ← Nat.add_assoc] at h1
  exact h1
theorem jsBad_congr {n : Nat} {c c' : Nat → Int32} {i i' : Nat} {pt : Nat → Nat} {m : Nat} {r : Int32} (h : ∀ t, t < 2 * m → c (i + t) = c' (i' + t)) (hb : jsBad n c i pt m r) : jsBad n c' i' pt m r := by
  obtain ⟨q, h1, h2, h3, h4⟩ := hb
  refine ⟨q, h1, jsOk_congr h (by omega) h2, ?_, h4⟩
  rw [h3, js_congr h q (by omega), h _ (by omega), Nat.add_assoc, h _ (by omega), ← Nat.add_assoc]
theorem js_cases (n : Nat) (c : Nat → Int32) (i : Nat) (pt : Nat → Nat) (m : Nat) : jsOk n c i pt m ∨ ∃ r, jsBad n c i pt m r := by
  induction m with
  | zero => exact Or.inl (fun j hj => absurd hj (Nat.not_lt_zero _))
  | succ m ih =>
    rcases ih with h | ⟨r, q, h1, h2⟩
    · by_cases e : rfu n (jsPt c i pt m) (c (i + 2 * m)) (c (i + 2 * m + 1)) = 0
      · exact Or.inl (h.succ e)
      · exact Or.inr ⟨_, m, Nat.lt_succ_self m, h, rfl, e⟩
    · exact Or.inr ⟨r, q, by omega, h2⟩
theorem NOk.js {n : Nat} {mk pt ac tp tj : Nat → Nat} {c : Nat → Int32} {i m : Nat} (h : NOk n mk pt ac) (hR : NR n pt ac tp tj) (hk : jsOk n c i pt m) : NOk n mk (jsPt c i pt m) (jsAc c i pt ac m) ∧ NR n (jsPt c i pt m) (jsAc c i pt ac m) (mjP c i pt tp m) (mjJ c i pt tj m) := by
  induction m with
  | zero => exact ⟨h, hR⟩
  | succ m ih =>
    obtain ⟨i1, i2⟩ := ih (hk.le (by omega))
    obtain ⟨-, -, o3, o4, o5, o6, o7⟩ := hk.at h.n12 (j := m) (by omega)
    exact ⟨i1.join o3 o4 o5 o6 o7, NR.join i1 i2 o3 o4 o5 o6 o7⟩
theorem js_up {n : Nat} {mk pt ac tp tj : Nat → Nat} {c : Nat → Int32} {i m : Nat} (h : NOk n mk pt ac) (hk : jsOk n c i pt m) : (∀ p, pt p ≤ jsPt c i pt m p) ∧ ∀ x, Vs n pt x → mjP c i pt tp m x = tp x ∧ mjJ c i pt tj m x = tj x := by
  induction m with
  | zero => exact ⟨fun _ => Nat.le_refl _, fun _ _ => ⟨rfl, rfl⟩⟩
  | succ m ih =>
    obtain ⟨i1, i2⟩ := ih (hk.le (by omega))
    obtain ⟨-, -, o3, o4, o5, o6, o7⟩ := hk.at h.n12 (j := m) (by omega)
    refine ⟨fun p => ?_, fun x hx => ?_⟩
    · have := i1 p
      show _ ≤ jPt _ _ _ p
      rw [jPt_at o5]
      omega
    · obtain ⟨j1, j2⟩ := i2 x hx
      have k1 := i1 (cN c (i + 2 * m))
      have k2 := i1 (cN c (i + 2 * m + 1))
      have e1 : x ≠ 6 * cN c (i + 2 * m) + jsPt c i pt m (cN c (i + 2 * m)) := fun z => by
        have h1 := hx.2
        rw [show x / 6 = cN c (i + 2 * m) by omega] at h1
        omega
      have e2 : x ≠ 6 * cN c (i + 2 * m + 1) + jsPt c i pt m (cN c (i + 2 * m + 1)) := fun z => by
        have h1 := hx.2
        rw [show x / 6 = cN c (i + 2 * m + 1) by omega] at h1
        omega
      show lkP _ _ _ _ _ x = _ ∧ lkJ _ _ _ _ _ x = _
      unfold lkP lkJ
      rw [va_up_ne _ _ e2, va_up_ne _ _ e1, va_up_ne _ _ e2, va_up_ne _ _ e1]
      exact ⟨j1, j2⟩
theorem NR.back {n : Nat} {mk pt ac tp tj : Nat → Nat} {c : Nat → Int32} {i m : Nat} (h : NOk n mk pt ac) (hR : NR n pt ac tp tj) (hk : jsOk n c i pt m) : NR n pt ac (mjP c i pt tp m) (mjJ c i pt tj m) := by
  have hE := (NR.es (fun p hp => h.p6 hp)).mp hR
  refine (NR.es (fun p hp => h.p6 hp)).mpr (fun x hx => ?_)
  obtain ⟨a, b⟩ := (js_up (tp := tp) (tj := tj) h hk).2 x hx
  unfold ES
  rw [a, b]
  exact hE x hx
/-! What the two programs share beside the net. -/
def FlR (wo : Nat) (co : Nat → Nat) (pp de : Nat → Int32) (lo uw wt : Nat → Nat) (pa dp : Nat → Int32) (lom : Nat → Nat) : Prop := wo ≤ 72 ∧ (∀ j, j < 72 → uw j = 0) ∧ (∀ j, j < wo → co j = wt j) ∧ ∀ q, q < 12 → pp q = pa q ∧ de q = dp q ∧ lo q = lom q
theorem fl_same {n : Nat} {pt ac uw co wt lo lom se : Nat → Nat} {a wo wom : Nat} {seed dr drm : Int64} {pp de pa dp : Nat → Int32} (h1 : ∃ i s, FRun pt ac (f0 pt a seed) i s ∧ FFin s ∧ FWf n pt s ∧ CRep s uw 0 wo co pp de lo dr) (h2 : ∃ i s, FRun pt ac (f0 pt a seed) i s ∧ FFin s ∧ FWf n pt s ∧ MRep s se wom wt pa dp lom drm) : wo = wom ∧ FlR wo co pp de lo uw wt pa dp lom := by
  obtain ⟨i, s, a1, a2, a3, a4⟩ := h1
  obtain ⟨j, s2, b1, b2, b3, b4⟩ := h2
  obtain rfl : s = s2 := a1.same a2 b1 b2
  obtain ⟨c1, c2, c3, c4, c5, c6⟩ := a4
  obtain ⟨d1, d2, d3, d4, d5⟩ := b4
  have hw := a3.w72
  refine ⟨by rw [c2, d2], by omega, fun q hq => ?_, fun q hq => ?_, fun q hq => ?_⟩
  · rw [c4 q hq]
    by_cases e : fSe s q = 1
    · have := eqTo_lt hq e
      unfold FFin at a2
      omega
    · rw [if_neg e]
  · rw [c5 q hq, d4 q (by omega)]
  · obtain ⟨e1, e2, e3⟩ := c6 q hq
    obtain ⟨f1, f2, f3⟩ := d5 q hq
    exact ⟨by rw [e1, f1], by rw [e2, f2], by rw [e3, f3]⟩
def RkR (n : Nat) (mk pt ac tb un : Nat → Nat) (rd rk : Nat) (ra ul : Nat → Nat) (rs : Int32) (rkm : Nat) : Prop := rk ≤ 1 ∧ (rk = 1 → RTab n mk pt ac tb un rd) ∧ rkm ≤ 1 ∧ (rkm = 1 → ∃ e, rs = nI e ∧ MTab n mk pt ac ra ul e)
theorem RkR.no {n : Nat} {mk pt ac tb un : Nat → Nat} {rd : Nat} {ra ul : Nat → Nat} {rs : Int32} : RkR n mk pt ac tb un rd 0 ra ul rs 0 := ⟨by omega, fun h => by omega, by omega, fun h => by omega⟩
theorem RkR.yes {n : Nat} {mk pt ac tb un : Nat → Nat} {rd e : Nat} {ra ul : Nat → Nat} (h : RTab n mk pt ac tb un rd) (h2 : MTab n mk pt ac ra ul e) : RkR n mk pt ac tb un rd 1 ra ul (nI e) 1 := ⟨by omega, fun _ => h, by omega, fun _ => ⟨e, rfl, h2⟩⟩
theorem RkR.cy {n : Nat} {mk pt ac tb un : Nat → Nat} {rd rk rkm : Nat} {tb2 un2 ra ul : Nat → Nat} {rs : Int32} {rd2 : Nat} (h : RkR n mk pt ac tb un rd rk ra ul rs rkm) (h2 : RTab n mk pt ac tb2 un2 rd2) : RkR n mk pt ac tb2 un2 rd2 1 ra ul rs rkm := ⟨by omega, fun _ => h2, h.2.2⟩
theorem RkR.my {n : Nat} {mk pt ac tb un : Nat → Nat} {rd rk rkm : Nat} {ra2 ul2 ra ul : Nat → Nat} {rs : Int32} {e : Nat} (h : RkR n mk pt ac tb un rd rk ra ul rs rkm) (h2 : MTab n mk pt ac ra2 ul2 e) : RkR n mk pt ac tb un rd rk ra2 ul2 (nI e) 1 := ⟨h.1, h.2.1, by omega, fun _ => ⟨e, rfl, h2⟩⟩
/-- one sheet -/
def ShR (k th ln sz : Nat) (cl ss : Nat → Int32) (sl : Nat → Nat) (sh : Nat → Int32) : Prop := th ≤ 1 ∧ ln < 3 ∧ sl k = ln ∧ sz ≤ 60 ∧ (th = 0 → ss k = -1) ∧ (th = 1 → ss k = nI sz) ∧ ∀ i, i < sz → cl i = sh (60 * k + i)
theorem ShR.keep {k th ln sz : Nat} {cl ss ss2 : Nat → Int32} {sl sl2 : Nat → Nat} {sh sh2 : Nat → Int32} (h : ShR k th ln sz cl ss sl sh) (h1 : ss2 k = ss k) (h2 : sl2 k = sl k) (h3 : ∀ i, i < 60 → sh2 (60 * k + i) = sh (60 * k + i)) : ShR k th ln sz cl ss2 sl2 sh2 := by
  obtain ⟨a, b, c, d, e, f, g⟩ := h
  exact ⟨a, b, by rw [h2]; exact c, d, fun z => by rw [h1]; exact e z, fun z => by rw [h1]; exact f z, fun i hi => by rw [h3 i (by omega)]; exact g i hi⟩
theorem ShR.lose {k th ln sz : Nat} {cl ss : Nat → Int32} {sl : Nat → Nat} {sh : Nat → Int32} (h : ShR k th ln sz cl ss sl sh) : ShR k 0 ln sz cl (upd ss k (-1)) sl sh := by
  obtain ⟨a, b, c, d, e, f, g⟩ := h
  exact ⟨by omega, b, c, d, fun _ => upd_at _ _ _, fun z => by omega, g⟩
theorem ShR.sheet {k b m : Nat} {cl ss : Nat → Int32} {sl : Nat → Nat} {sh : Nat → Int32} (hb : b < 3) (hm : m ≤ 60) : ShR k 1 b m (flI cl (nI 0) 60) (upd ss k (nI m)) (va_up sl k b) (zrS sh (60 * k) m) := by
  refine ⟨by omega, hb, va_up_self _ _ _, hm, fun z => by omega, fun _ => upd_at _ _ _, fun i hi => ?_⟩
  simp only [flI, zrS]
  rw [if_pos (by omega), if_pos (by omega)]
theorem ShR.put {k th ln sz i : Nat} {v : Int32} {cl ss : Nat → Int32} {sl : Nat → Nat} {sh : Nat → Int32} (h : ShR k th ln sz cl ss sl sh) : ShR k th ln sz (upd cl i v) ss sl (upd sh (60 * k + i) v) := by
  obtain ⟨a, b, c, d, e, f, g⟩ := h
  refine ⟨a, b, c, d, e, f, fun j hj => ?_⟩
  by_cases z : j = i
  · rw [z, upd_at, upd_at]
  · rw [upd_ne _ _ z, upd_ne _ _ (by omega)]; exact g j hj
theorem ShR.copy {j q th ln sz th2 ln2 sz2 i k m : Nat} {cl cl2 ss : Nat → Int32} {sl : Nat → Nat} {sh : Nat → Int32} (h : ShR j th ln sz cl ss sl sh) (h' : ShR q th2 ln2 sz2 cl2 ss sl sh) (h1 : i + m ≤ sz) (h2 : k + m ≤ sz2) : ShR q th2 ln2 sz2 (va_cpy cl cl2 i k m) ss sl (cpS sh (60 * j + i) (60 * q + k) m) := by
  obtain ⟨-, -, -, d0, -, -, g0⟩ := h
  obtain ⟨a, b, c, d, e, f, g⟩ := h'
  refine ⟨a, b, c, d, e, f, fun x hx => ?_⟩
  simp only [va_cpy, cpS]
  by_cases z : k ≤ x ∧ x < k + m
  · rw [if_pos z, if_pos (by omega), g0 _ (by omega)]
    congr 1
    omega
  · rw [if_neg z, if_neg (by omega)]; exact g x hx
theorem ShR.sheet_o {k j m b th ln sz : Nat} {cl ss : Nat → Int32} {sl : Nat → Nat} {sh : Nat → Int32} (hk : k ≠ j) (hm : m ≤ 60) (h : ShR k th ln sz cl ss sl sh) : ShR k th ln sz cl (upd ss j (nI m)) (va_up sl j b) (zrS sh (60 * j) m) :=
  h.keep (upd_ne _ _ hk) (va_up_ne _ _ hk) (fun i hi => by simp only [zrS]; rw [if_neg (by omega)])
theorem ShR.lose_o {k j th ln sz : Nat} {cl ss : Nat → Int32} {sl : Nat → Nat} {sh : Nat → Int32} (hk : k ≠ j) (h : ShR k th ln sz cl ss sl sh) : ShR k th ln sz cl (upd ss j (-1)) sl sh :=
  h.keep (upd_ne _ _ hk) rfl (fun i hi => rfl)
theorem ShR.put_o {k j i th ln sz : Nat} {v : Int32} {cl ss : Nat → Int32} {sl : Nat → Nat} {sh : Nat → Int32} (hk : k ≠ j) (hi : i < 60) (h : ShR k th ln sz cl ss sl sh) : ShR k th ln sz cl ss sl (upd sh (60 * j + i) v) :=
  h.keep rfl rfl (fun x hx => upd_ne _ _ (by omega))
theorem ShR.copy_o {k q s m i th ln sz : Nat} {cl ss : Nat → Int32} {sl : Nat → Nat} {sh : Nat → Int32} (hk : k ≠ q) (hi : i + m ≤ 60) (h : ShR k th ln sz cl ss sl sh) : ShR k th ln sz cl ss sl (cpS sh s (60 * q + i) m) :=
  h.keep rfl rfl (fun x hx => by simp only [cpS]; rw [if_neg (by omega)])
