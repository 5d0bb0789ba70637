theorem FWf.slot {n : Nat} {mk pt ac : Nat → Nat} {s : FS} {t : Nat} (hN : NOk n mk pt ac) (hW : FWf n pt s) (ht : t < 72) (h1 : fSe s t = 1) : t / 6 < n ∧ t % 6 < pt (t / 6) ∧ ac t / 6 < n ∧ ac t < 72 ∧ ac t % 6 < pt (ac t / 6) ∧ ¬ fDe s (t / 6) = -9 := by
  obtain ⟨-, h2⟩ := hW.1 t ht
  obtain ⟨a1, a2, a3⟩ := h2 (by omega)
  obtain ⟨b1, b2, -, -, b5⟩ := hN.a a1 a2
  rw [show t / 6 * 6 + t % 6 = t by omega] at b1 b2 b5
  exact ⟨a1, a2, b1, b5, b2, a3⟩
theorem FWf.free {n : Nat} {mk pt ac : Nat → Nat} {s : FS} (hN : NOk n mk pt ac) (hW : FWf n pt s) {p : Nat} (hp : p < n) (hd : fDe s p = -9) {k : Nat} (hk : k < 6) : fSe s (p * 6 + k) = 0 := by
  have hn := hN.n12
  obtain ⟨-, h2⟩ := hW.1 (p * 6 + k) (by omega)
  rcases Nat.eq_zero_or_pos (fSe s (p * 6 + k)) with e | e
  · exact e
  · obtain ⟨-, -, a3⟩ := h2 (by omega)
    rw [show (p * 6 + k) / 6 = p by omega] at a3
    exact absurd hd a3
theorem FWf.next {n : Nat} {mk pt ac : Nat → Nat} {s : FS} {t : Nat} (hN : NOk n mk pt ac) (hW : FWf n pt s) (ht : t < 72) (h1 : fSe s t = 1) : FWf n pt (fNext pt ac s t) := by
  obtain ⟨a1, a2, a3, a4, a5, a6⟩ := hW.slot hN ht h1
  have hn := hN.n12
  have hpp := hN.p6 a3
  obtain ⟨w1, w2, w3⟩ := hW
  have hW : FWf n pt s := ⟨w1, w2, w3⟩
  have e2 := eqTo_up (f := fSe s) (x := 2) (k := 72) (s := t) (v := 2) ht
  rw [if_neg (by omega), if_pos rfl] at e2
  by_cases hd : fDe s (ac t / 6) = -9
  · have hne : ¬ t / 6 = ac t / 6 := fun e => a6 (by rw [e]; exact hd)
    obtain ⟨k0, hk0, ek0⟩ : ∃ k, k ≤ fW s ∧ fDe s (t / 6) = nI k := by
      rcases w3 (t / 6) (by omega) with e | e
      · exact absurd e a6
      · exact e
    have hw72 := hW.w72
    have hv : ¬ fDe s (t / 6) + nI 1 = -9 := by rw [ek0, nI_add]; exact nI9 (by omega)
    have hSe : fSe (fNext pt ac s t) = sdU (ac t / 6) (nI (ac t % 6)) (va_up (fSe s) t 2) (pt (ac t / 6)) := by show (if _ then _ else _) = _; rw [if_pos hd]
    have hDe : fDe (fNext pt ac s t) = upd (fDe s) (ac t / 6) (fDe s (t / 6) + nI 1) := by show (if _ then _ else _) = _; rw [if_pos hd]
    refine ⟨fun j hj => ?_, ?_, fun q hq => ?_⟩
    · rw [hSe, hDe, sdU_val]
      by_cases e : ac t / 6 * 6 ≤ j ∧ j < ac t / 6 * 6 + pt (ac t / 6) ∧ ¬ nI (j - ac t / 6 * 6) = nI (ac t % 6)
      · rw [if_pos e]
        have e1 : j / 6 = ac t / 6 := by omega
        have e2 : j % 6 = j - ac t / 6 * 6 := by omega
        rw [e1, e2]
        exact ⟨by omega, fun _ => ⟨a3, by omega, by simp only [upd]; rw [if_pos trivial]; exact hv⟩⟩
      · rw [if_neg e]
        have hkeep : ∀ q, ¬ fDe s q = -9 → ¬ upd (fDe s) (ac t / 6) (fDe s (t / 6) + nI 1) q = -9 := fun q hq => by
          simp only [upd]
          split
          · exact hv
          · exact hq
        simp only [va_up]
        by_cases e3 : j = t
        · rw [if_pos e3, e3]
          exact ⟨Nat.le_refl _, fun _ => ⟨a1, a2, hkeep _ a6⟩⟩
        · rw [if_neg e3]
          obtain ⟨b1, b2⟩ := w1 j hj
          refine ⟨b1, fun h => ?_⟩
          obtain ⟨c1, c2, c3⟩ := b2 h
          exact ⟨c1, c2, hkeep _ c3⟩
    · rw [hSe]
      show fW s + 1 = _
      rw [eqTo_congr (g := va_up (fSe s) t 2) (fun j hj => ?_)]
      · omega
      · rw [sdU_val]
        by_cases e : ac t / 6 * 6 ≤ j ∧ j < ac t / 6 * 6 + pt (ac t / 6) ∧ ¬ nI (j - ac t / 6 * 6) = nI (ac t % 6)
        · rw [if_pos e]
          have hz : fSe s j = 0 := by
            have := hW.free hN a3 hd (k := j - ac t / 6 * 6) (by omega)
            rw [show ac t / 6 * 6 + (j - ac t / 6 * 6) = j by omega] at this
            exact this
          simp only [va_up]
          rw [if_neg (by omega), hz]
          omega
        · rw [if_neg e]
    · rw [hDe]
      show upd (fDe s) (ac t / 6) (fDe s (t / 6) + nI 1) q = -9 ∨ ∃ k, k ≤ fW s + 1 ∧ upd (fDe s) (ac t / 6) (fDe s (t / 6) + nI 1) q = nI k
      simp only [upd]
      by_cases e : q = ac t / 6
      · rw [if_pos e, ek0, nI_add]; exact Or.inr ⟨k0 + 1, by omega, rfl⟩
      · rw [if_neg e]
        rcases w3 q hq with b | ⟨k, b1, b2⟩
        · exact Or.inl b
        · exact Or.inr ⟨k, by omega, b2⟩
  · have hSe : fSe (fNext pt ac s t) = va_up (fSe s) t 2 := by show (if _ then _ else _) = _; rw [if_neg hd]
    have hDe : fDe (fNext pt ac s t) = fDe s := by show (if _ then _ else _) = _; rw [if_neg hd]
    refine ⟨fun j hj => ?_, ?_, fun q hq => ?_⟩
    · rw [hSe, hDe]
      simp only [va_up]
      by_cases e3 : j = t
      · rw [if_pos e3, e3]
        exact ⟨Nat.le_refl _, fun _ => ⟨a1, a2, a6⟩⟩
      · rw [if_neg e3]
        exact w1 j hj
    · rw [hSe]
      show fW s + 1 = _
      omega
    · rw [hDe]
      show _ ∨ ∃ k, k ≤ fW s + 1 ∧ _
      rcases w3 q hq with b | ⟨k, b1, b2⟩
      · exact Or.inl b
      · exact Or.inr ⟨k, by omega, b2⟩
theorem fNext_y {pt ac : Nat → Nat} {s : FS} {t : Nat} (hd : fDe s (ac t / 6) = -9) : fSe (fNext pt ac s t) = sdU (ac t / 6) (nI (ac t % 6)) (va_up (fSe s) t 2) (pt (ac t / 6)) ∧ fPp (fNext pt ac s t) = upd (fPp s) (ac t / 6) (nI (ac t % 6)) ∧ fDe (fNext pt ac s t) = upd (fDe s) (ac t / 6) (fDe s (t / 6) + nI 1) := ⟨if_pos hd, if_pos hd, if_pos hd⟩
theorem fNext_n {pt ac : Nat → Nat} {s : FS} {t : Nat} (hd : ¬ fDe s (ac t / 6) = -9) : fSe (fNext pt ac s t) = va_up (fSe s) t 2 ∧ fPp (fNext pt ac s t) = fPp s ∧ fDe (fNext pt ac s t) = fDe s := ⟨if_neg hd, if_neg hd, if_neg hd⟩
theorem fNext_a {pt ac : Nat → Nat} {s : FS} {t : Nat} : fDr (fNext pt ac s t) = drN (fDr s) ∧ fW (fNext pt ac s t) = fW s + 1 ∧ fCo (fNext pt ac s t) = va_up (fCo s) (fW s) (ac t / 6) ∧ fLo (fNext pt ac s t) = va_up (fLo s) (ac t / 6) (fLo s (ac t / 6) + 1) := ⟨rfl, rfl, rfl, rfl⟩
def CRep (s : FS) (uw : Nat → Nat) (wa wo : Nat) (co : Nat → Nat) (pp de : Nat → Int32) (lo : Nat → Nat) (dr : Int64) : Prop := dr = fDr s ∧ wo = fW s ∧ wa = eqTo (fSe s) 1 72 ∧ (∀ j, j < 72 → uw j = if fSe s j = 1 then 1 else 0) ∧ (∀ j, j < wo → co j = fCo s j) ∧ ∀ q, q < 12 → pp q = fPp s q ∧ de q = fDe s q ∧ lo q = fLo s q
theorem CRep.cnt {s : FS} {uw : Nat → Nat} {wa wo : Nat} {co : Nat → Nat} {pp de : Nat → Int32} {lo : Nat → Nat} {dr : Int64} (h : CRep s uw wa wo co pp de lo dr) {k : Nat} (hk : k ≤ 72) : eqTo uw 1 k = eqTo (fSe s) 1 k := by
  refine eqTo_congr (fun j hj => ?_)
  rw [h.2.2.2.1 j (by omega)]
  by_cases e : fSe s j = 1
  · rw [if_pos e]; exact ⟨fun _ => e, fun _ => rfl⟩
  · rw [if_neg e]; exact ⟨fun q => by omega, fun q => absurd q e⟩
theorem CRep.init {n : Nat} {mk pt ac : Nat → Nat} {p : Nat} {seed : Int64} {pp0 de0 : Nat → Int32} {lo0 co0 uw0 : Nat → Nat} (hN : NOk n mk pt ac) (hp : p < n) (hu : ∀ j, j < 72 → uw0 j = 0) : CRep (f0 pt p seed) (sdU p (-9) uw0 (pt p)) (0 + neTo (-9) (pt p)) 0 co0 (flI pp0 (-9) 12) (upd (flI de0 (-9) 12) p (nI 0)) (flN lo0 0 12) seed := by
  have hpp := hN.p6 hp
  have hn := hN.n12
  refine ⟨rfl, rfl, ?_, ?_, fun j h => absurd h (Nat.not_lt_zero _), fun q hq => ?_⟩
  · show _ = eqTo (sdU p (-9) (fun _ => 0) (pt p)) 1 72
    rw [sdU_cnt (by omega) (fun k hk => by decide)]
    rfl
  · intro j hj
    show _ = if sdU p (-9) (fun _ => 0) (pt p) j = 1 then 1 else 0
    exact sdU_ind (fun j hj => by rw [hu j hj]; rfl) j hj
  · refine ⟨?_, ?_, ?_⟩
    · show flI pp0 (-9) 12 q = -9
      simp only [flI]; rw [if_pos hq]
    · show upd (flI de0 (-9) 12) p (nI 0) q = upd (fun _ => -9) p (nI 0) q
      simp only [upd]
      by_cases e : q = p
      · rw [if_pos e, if_pos e]
      · rw [if_neg e, if_neg e]; simp only [flI]; rw [if_pos hq]
    · show flN lo0 0 12 q = 0
      simp only [flN]; rw [if_pos hq]
theorem CRep.sel {s : FS} {uw : Nat → Nat} {wa wo : Nat} {co : Nat → Nat} {pp de : Nat → Int32} {lo : Nat → Nat} {dr : Int64} {t : Nat} (hR : CRep s uw wa wo co pp de lo dr) (ht : t < 72) (h1 : uw t = 1) (h2 : eqTo uw 1 t = NB (drN dr) wa) : FSel s t := by
  refine ⟨ht, ?_, ?_⟩
  · have := hR.2.2.2.1 t ht
    by_cases e : fSe s t = 1
    · exact e
    · rw [if_neg e] at this; omega
  · rw [← hR.cnt (by omega), h2, hR.2.2.1, hR.1]
theorem CRep.step {n : Nat} {mk pt ac : Nat → Nat} {s : FS} {uw uw2 : Nat → Nat} {wa wa2 wo : Nat} {co : Nat → Nat} {pp de pp2 de2 : Nat → Int32} {lo : Nat → Nat} {dr : Int64} {t : Nat} (hN : NOk n mk pt ac) (hW : FWf n pt s) (hR : CRep s uw wa wo co pp de lo dr) (ht : t < 72) (h1 : uw t = 1) (h2 : eqTo uw 1 t = NB (drN dr) wa)
    (hb : (de (ac t / 6) = -9 ∧ uw2 = sdU (ac t / 6) (nI (ac t % 6)) (va_up uw t 0) (pt (ac t / 6)) ∧ wa2 = wa - 1 + neTo (nI (ac t % 6)) (pt (ac t / 6)) ∧ pp2 = upd pp (ac t / 6) (nI (ac t % 6)) ∧ de2 = upd de (ac t / 6) (de (t / 6) + nI 1)) ∨ (¬ de (ac t / 6) = -9 ∧ uw2 = va_up uw t 0 ∧ wa2 = wa - 1 ∧ pp2 = pp ∧ de2 = de)) :
    CRep (fNext pt ac s t) uw2 wa2 (wo + 1) (va_up co wo (ac t / 6)) pp2 de2 (va_up lo (ac t / 6) (lo (ac t / 6) + 1)) (drN dr) := by
  obtain ⟨-, hs1, -⟩ := hR.sel ht h1 h2
  obtain ⟨a1, a2, a3, a4, a5, a6⟩ := hW.slot hN ht hs1
  have hn := hN.n12
  have hpp := hN.p6 a3
  obtain ⟨r1, r2, r3, r4, r5, r6⟩ := hR
  have e1 := eqTo_up (f := fSe s) (x := 1) (k := 72) (s := t) (v := 2) ht
  rw [if_pos hs1, if_neg (by omega)] at e1
  have hu : ∀ j, j < 72 → va_up uw t 0 j = if va_up (fSe s) t 2 j = 1 then 1 else 0 := fun j hj => by
    by_cases e : j = t
    · rw [e, va_up_self, va_up_self]; rfl
    · rw [va_up_ne _ _ e, va_up_ne _ _ e]; exact r4 j hj
  have hde : ∀ q, q < 12 → de q = fDe s q := fun q hq => (r6 q hq).2.1
  obtain ⟨f1, f2, f3, f4⟩ := fNext_a (pt := pt) (ac := ac) (s := s) (t := t)
  have hcl : ∀ j, j < wo + 1 → va_up co wo (ac t / 6) j = fCo (fNext pt ac s t) j := fun j hj => by
    rw [f3, ← r2]
    by_cases e : j = wo
    · rw [e, va_up_self, va_up_self]
    · rw [va_up_ne _ _ e, va_up_ne _ _ e]; exact r5 j (by omega)
  have hll : ∀ q, q < 12 → va_up lo (ac t / 6) (lo (ac t / 6) + 1) q = fLo (fNext pt ac s t) q := fun q hq => by
    rw [f4, ← (r6 (ac t / 6) (by omega)).2.2]
    by_cases e : q = ac t / 6
    · rw [e, va_up_self, va_up_self]
    · rw [va_up_ne _ _ e, va_up_ne _ _ e]; exact (r6 q hq).2.2
  rcases hb with ⟨hd, b1, b2, b3, b4⟩ | ⟨hd, b1, b2, b3, b4⟩
  · rw [hde _ (by omega)] at hd
    obtain ⟨g1, g2, g3⟩ := fNext_y (pt := pt) hd
    refine ⟨by rw [f1, r1], by rw [f2, r2], ?_, fun j hj => ?_, hcl, fun q hq => ⟨?_, ?_, hll q hq⟩⟩
    · rw [g1, b2, sdU_cnt (by omega) (fun k hk => ?_)]
      · omega
      · have := hW.free hN a3 hd (k := k) (by omega)
        by_cases e : ac t / 6 * 6 + k = t
        · rw [e, va_up_self]; omega
        · rw [va_up_ne _ _ e, this]; omega
    · rw [g1, b1]; exact sdU_ind hu j hj
    · rw [g2, b3]
      simp only [upd]
      rw [(r6 q hq).1]
    · rw [g3, b4, hde _ (show t / 6 < 12 by omega)]
      simp only [upd]
      rw [hde q hq]
  · rw [hde _ (by omega)] at hd
    obtain ⟨g1, g2, g3⟩ := fNext_n (pt := pt) hd
    refine ⟨by rw [f1, r1], by rw [f2, r2], ?_, fun j hj => ?_, hcl, fun q hq => ⟨?_, ?_, hll q hq⟩⟩
    · rw [g1, b2]; omega
    · rw [g1, b1]; exact hu j hj
    · rw [g2, b3]; exact (r6 q hq).1
    · rw [g3, b4]; exact hde q hq
theorem FRun.w {pt ac : Nat → Nat} {p : Nat} {seed : Int64} : ∀ {i : Nat} {s : FS}, FRun pt ac (f0 pt p seed) i s → fW s = i := by
  intro i
  induction i with
  | zero => intro s h; rw [show s = _ from h]; rfl
  | succ i ih =>
    rintro s ⟨t, h1, x, -, rfl⟩
    show fW t + 1 = _
    rw [ih h1]
