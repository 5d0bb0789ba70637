/-! The model's flood against the same state. -/
theorem up_id (f : Nat → Nat) (k : Nat) : va_up f k (f k) = f := by
  funext j
  simp only [va_up]
  split
  · next h => rw [h]
  · rfl
theorem sdU_m1 (p : Nat) (f : Nat → Nat) {i : Nat} (hi : i ≤ 6) : sdU p (-1) f i = sdU p (-9) f i := by
  induction i with
  | zero => rfl
  | succ i ih =>
    have h1 : ¬ nI i = -9 := nI9 (by omega)
    have h2 : ¬ nI i = -1 := by
      intro e
      have := congrArg Int32.toInt e
      rw [nI_toInt (by omega), show (-1 : Int32).toInt = -1 from rfl] at this
      omega
    unfold sdU
    rw [if_neg h1, if_neg h2, ih (by omega)]
def NR (n : Nat) (pt ac tp tj : Nat → Nat) : Prop := ∀ p i, p < n → i < pt p → tj (6 * p + i) < 6 ∧ ac (p * 6 + i) = tp (6 * p + i) * 6 + tj (6 * p + i)
theorem NR.at {n : Nat} {mk pt ac tp tj : Nat → Nat} (h : NR n pt ac tp tj) {t : Nat} (h1 : t / 6 < n) (h2 : t % 6 < pt (t / 6)) : tj t < 6 ∧ ac t = tp t * 6 + tj t ∧ ac t / 6 = tp t ∧ ac t % 6 = tj t := by
  obtain ⟨a, b⟩ := h (t / 6) (t % 6) h1 h2
  rw [show 6 * (t / 6) + t % 6 = t by omega] at a b
  rw [show t / 6 * 6 + t % 6 = t by omega] at b
  exact ⟨a, b, by omega, by omega⟩
def MRep (s : FS) (se : Nat → Nat) (wo : Nat) (wt : Nat → Nat) (pa dp : Nat → Int32) (lo : Nat → Nat) (dr : Int64) : Prop := dr = fDr s ∧ wo = fW s ∧ (∀ j, j < 72 → se j = fSe s j) ∧ (∀ j, j < wo → wt j = fCo s j) ∧ ∀ q, q < 12 → pa q = fPp s q ∧ dp q = fDe s q ∧ lo q = fLo s q
theorem nI_lt0 {k : Nat} (h : k < 2 ^ 31) : ¬ nI k < 0 := nI_pos h
theorem MRep.neg {n : Nat} {pt : Nat → Nat} {s : FS} {se : Nat → Nat} {wo : Nat} {wt : Nat → Nat} {pa dp : Nat → Int32} {lo : Nat → Nat} {dr : Int64} (hW : FWf n pt s) (hR : MRep s se wo wt pa dp lo dr) {q : Nat} (hq : q < 12) : dp q < 0 ↔ fDe s q = -9 := by
  rw [(hR.2.2.2.2 q hq).2.1]
  have h72 := hW.w72
  rcases hW.2.2 q hq with e | ⟨k, hk, e⟩
  · rw [e]; exact ⟨fun _ => rfl, fun _ => by decide⟩
  · rw [e]; exact ⟨fun z => absurd z (nI_pos (by omega)), fun z => absurd z (nI9 (by omega))⟩
theorem sdU_congr {p : Nat} {v : Int32} {f g : Nat → Nat} {i k : Nat} (h : ∀ j, j < k → f j = g j) : ∀ j, j < k → sdU p v f i j = sdU p v g i j := by
  intro j hj
  rw [sdU_val, sdU_val, h j hj]
theorem eqTo_cut {f : Nat → Nat} {k m : Nat} (hk : k ≤ m) (h : ∀ j, k ≤ j → j < m → ¬ f j = 1) : eqTo f 1 m = eqTo f 1 k := by
  induction m with
  | zero => rw [show k = 0 by omega]
  | succ m ih =>
    by_cases e : k = m + 1
    · rw [e]
    · show eqTo f 1 m + _ = _
      rw [if_neg (h m (by omega) (by omega)), ih (by omega) (fun j h1 h2 => h j h1 (by omega))]; rfl
theorem MRep.cnt {n : Nat} {pt : Nat → Nat} {s : FS} {se : Nat → Nat} {wo : Nat} {wt : Nat → Nat} {pa dp : Nat → Int32} {lo : Nat → Nat} {dr : Int64} (hn : n ≤ 12) (hW : FWf n pt s) (hR : MRep s se wo wt pa dp lo dr) : eqTo se 1 (6 * n) = eqTo (fSe s) 1 72 := by
  have h1 : eqTo se 1 72 = eqTo (fSe s) 1 72 := eqTo_congr (fun j hj => by rw [hR.2.2.1 j hj])
  rw [← h1]
  refine (eqTo_cut (by omega) (fun j h2 h3 e => ?_)).symm
  rw [hR.2.2.1 j h3] at e
  have := ((hW.1 j h3).2 (by omega)).1
  omega
theorem MRep.sel {s : FS} {se : Nat → Nat} {wo : Nat} {wt : Nat → Nat} {pa dp : Nat → Int32} {lo : Nat → Nat} {dr : Int64} {t : Nat} (hR : MRep s se wo wt pa dp lo dr) (ht : t < 72) (h1 : se t = 1) (h2 : eqTo se 1 t = NB (drN dr) (eqTo (fSe s) 1 72)) : FSel s t := by
  refine ⟨ht, by rw [← hR.2.2.1 t ht]; exact h1, ?_⟩
  rw [← hR.1, ← h2]
  exact eqTo_congr (fun j hj => by rw [hR.2.2.1 j (by omega)])
theorem MRep.step {n : Nat} {mk pt ac tp tj : Nat → Nat} {s : FS} {se se2 : Nat → Nat} {wo : Nat} {wt : Nat → Nat} {pa dp pa2 dp2 : Nat → Int32} {lo : Nat → Nat} {dr : Int64} {t : Nat} (hN : NOk n mk pt ac) (hNR : NR n pt ac tp tj) (hW : FWf n pt s) (hR : MRep s se wo wt pa dp lo dr) (ht : t < 72) (h1 : fSe s t = 1)
    (hb : (dp (tp t) < 0 ∧ se2 = sdU (tp t) (nI (tj t)) (va_up se t 2) (pt (tp t)) ∧ pa2 = upd pa (tp t) (nI (tj t)) ∧ dp2 = upd dp (tp t) (dp (t / 6) + nI 1)) ∨ (¬ dp (tp t) < 0 ∧ se2 = va_up se t 2 ∧ pa2 = pa ∧ dp2 = dp)) :
    MRep (fNext pt ac s t) se2 (wo + 1) (va_up wt wo (tp t)) pa2 dp2 (va_up lo (tp t) (lo (tp t) + 1)) (drN dr) := by
  obtain ⟨a1, a2, a3, a4, a5, a6⟩ := hW.slot hN ht h1
  obtain ⟨n1, n2, n3, n4⟩ := hNR.at (mk := mk) a1 a2
  have hn := hN.n12
  have hneg := hR.neg hW (q := tp t) (by omega)
  obtain ⟨r1, r2, r3, r4, r5⟩ := hR
  have hu : ∀ j, j < 72 → va_up se t 2 j = va_up (fSe s) t 2 j := fun j hj => by
    by_cases e : j = t
    · rw [e, va_up_self, va_up_self]
    · rw [va_up_ne _ _ e, va_up_ne _ _ e]; exact r3 j hj
  obtain ⟨f1, f2, f3, f4⟩ := fNext_a (pt := pt) (ac := ac) (s := s) (t := t)
  rw [n3] at f3 f4
  have hcl : ∀ j, j < wo + 1 → va_up wt wo (tp t) j = fCo (fNext pt ac s t) j := fun j hj => by
    rw [f3, ← r2]
    by_cases e : j = wo
    · rw [e, va_up_self, va_up_self]
    · rw [va_up_ne _ _ e, va_up_ne _ _ e]; exact r4 j (by omega)
  have hll : ∀ q, q < 12 → va_up lo (tp t) (lo (tp t) + 1) q = fLo (fNext pt ac s t) q := fun q hq => by
    rw [f4, ← (r5 (tp t) (by omega)).2.2]
    by_cases e : q = tp t
    · rw [e, va_up_self, va_up_self]
    · rw [va_up_ne _ _ e, va_up_ne _ _ e]; exact (r5 q hq).2.2
  rcases hb with ⟨hd, b1, b3, b4⟩ | ⟨hd, b1, b3, b4⟩
  · obtain ⟨g1, g2, g3⟩ := fNext_y (pt := pt) (ac := ac) (t := t) (by rw [n3]; exact hneg.mp hd)
    rw [n3] at g1 g2 g3
    rw [n4] at g1 g2
    refine ⟨by rw [f1, r1], by rw [f2, r2], fun j hj => ?_, hcl, fun q hq => ⟨?_, ?_, hll q hq⟩⟩
    · rw [g1, b1]; exact sdU_congr hu j hj
    · rw [g2, b3]
      simp only [upd]
      rw [(r5 q hq).1]
    · rw [g3, b4, (r5 (t / 6) (by omega)).2.1]
      simp only [upd]
      rw [(r5 q hq).2.1]
  · obtain ⟨g1, g2, g3⟩ := fNext_n (pt := pt) (ac := ac) (t := t) (by rw [n3]; exact fun z => hd (hneg.mpr z))
    refine ⟨by rw [f1, r1], by rw [f2, r2], fun j hj => ?_, hcl, fun q hq => ⟨?_, ?_, hll q hq⟩⟩
    · rw [g1, b1]; exact hu j hj
    · rw [g2, b3]; exact (r5 q hq).1
    · rw [g3, b4]; exact (r5 q hq).2.1
theorem up_toI {f g : Nat → Int32} {i : Nat} {x : Int32} (h : ∀ p, p < i → f p = g p) (hx : x = g i) : ∀ p, p < i + 1 → upd f i x p = g p := by
  intro p hp
  simp only [upd]
  by_cases e : p = i
  · rw [if_pos e, hx, e]
  · rw [if_neg e]; exact h p (by omega)
theorem MRep.init {pt : Nat → Nat} {a : Nat} {seed : Int64} {se1 wt lo1 : Nat → Nat} {pa1 dp1 : Nat → Int32} (hpa : pt a ≤ 6) (hz : ∀ j, j < 72 → se1 j = 0) (h1 : ∀ j, j < 12 → pa1 j = -9) (h2 : ∀ j, j < 12 → dp1 j = upd (fun _ => -9) a (nI 0) j) (h3 : ∀ j, j < 12 → lo1 j = 0) : MRep (f0 pt a seed) (sdU a (-1) se1 (pt a)) 0 wt pa1 dp1 lo1 seed := by
  refine ⟨rfl, rfl, fun j hj => ?_, fun j hj => absurd hj (Nat.not_lt_zero _), fun q hq => ⟨h1 q hq, h2 q hq, h3 q hq⟩⟩
  show _ = sdU a (-9) (fun _ => 0) (pt a) j
  rw [sdU_m1 a se1 hpa]
  exact sdU_congr (g := fun _ => 0) hz j hj
theorem MRep.le2 {n : Nat} {pt : Nat → Nat} {s : FS} {se : Nat → Nat} {wo : Nat} {wt : Nat → Nat} {pa dp : Nat → Int32} {lo : Nat → Nat} {dr : Int64} (hW : FWf n pt s) (hR : MRep s se wo wt pa dp lo dr) : ∀ j, j < 72 → se j ≤ 2 := fun j hj => by
  rw [hR.2.2.1 j hj]
  exact (hW.1 j hj).1
theorem MRep.zero {n : Nat} {mk pt ac : Nat → Nat} {s : FS} {se : Nat → Nat} {wo : Nat} {wt : Nat → Nat} {pa dp : Nat → Int32} {lo : Nat → Nat} {dr : Int64} {t p : Nat} (hN : NOk n mk pt ac) (hW : FWf n pt s) (hR : MRep s se wo wt pa dp lo dr) (ht : se t = 1) (hp : p < n) (hd : dp p < 0) {i : Nat} (hi : i < pt p) : va_up se t 2 (6 * p + i) = 0 := by
  have hn := hN.n12
  have h6 := hN.p6 hp
  have hf := hW.free hN hp ((hR.neg hW (by omega)).mp hd) (k := i) (by omega)
  rw [← hR.2.2.1 _ (by omega), Nat.mul_comm] at hf
  rw [va_up_ne _ _ (by intro e; rw [e] at hf; omega)]
  exact hf
theorem MRep.sel' {n : Nat} {pt : Nat → Nat} {s : FS} {se : Nat → Nat} {wo : Nat} {wt : Nat → Nat} {pa dp : Nat → Int32} {lo : Nat → Nat} {dr : Int64} {t c : Nat} (hn : n ≤ 12) (hW : FWf n pt s) (hR : MRep s se wo wt pa dp lo dr) (hc : c = eqTo se 1 (6 * n)) (ht : t < 72) (h1 : se t = 1) (h2 : eqTo se 1 t = NB (drN dr) c) : FSel s t := hR.sel ht h1 (by rw [h2, hc, hR.cnt hn hW])
theorem MRep.lt72 {n : Nat} {pt : Nat → Nat} {s : FS} {se : Nat → Nat} {wo : Nat} {wt : Nat → Nat} {pa dp : Nat → Int32} {lo : Nat → Nat} {dr : Int64} {k c l m : Nat} (hn : n ≤ 12) (hW : FWf n pt s) (hR : MRep s se wo wt pa dp lo dr) (hc : c = eqTo se 1 (6 * n)) (hk : k ≤ 72) (hl : l + eqTo se 1 k = m) (hm : m < c) : k < 72 := by
  rcases Nat.lt_or_ge k 72 with z | z
  · exact z
  · have e : k = 72 := by omega
    have h1 := hR.cnt hn hW
    have h2 : eqTo se 1 72 = eqTo (fSe s) 1 72 := eqTo_congr (fun j hj => by rw [hR.2.2.1 j hj])
    rw [e, h2] at hl
    omega
theorem MRep.fin {n : Nat} {pt : Nat → Nat} {s : FS} {se : Nat → Nat} {wo : Nat} {wt : Nat → Nat} {pa dp : Nat → Int32} {lo : Nat → Nat} {dr : Int64} {c : Nat} (hn : n ≤ 12) (hW : FWf n pt s) (hR : MRep s se wo wt pa dp lo dr) (hc : c = eqTo se 1 (6 * n)) (h0 : c = 0) : FFin s := by
  unfold FFin
  rw [← hR.cnt hn hW, ← hc]
  exact h0
