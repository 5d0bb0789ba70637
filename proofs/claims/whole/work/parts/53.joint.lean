/-! The two worlds whole; what holds them together; a step of both. -/
def wC (cyI cyJ cyZ cyS : ClassId) (ad : Nat → Nat) (tq ft L : Int32) (n th wo : Nat) (mk pt ac re tr tb un ky uk co lo uw : Nat → Nat) (far pp de : Nat → Int32) (rd rk : Nat) (dr : Int64) (t0 l0 z0 t1 l1 z1 t2 l2 z2 t3 l3 z3 : Nat) (c0 c1 c2 c3 : Nat → Int32) : va_W := [((ad 0), .inr (4, [.ref ((ad 1)), .ref ((ad 8)), .ref ((ad 13)), .ref ((ad 19)), .int (tq), .int (ft)])), ((ad 1), .inr (1, [.int (nI (n)), .int (L), .ref ((ad 2)), .ref ((ad 3)), .ref ((ad 4)), .ref ((ad 5)), .ref ((ad 6)), .ref ((ad 7))])), ((ad 2), .inl (cyI, 12, .inl (fun zj => nI (mk zj)))), ((ad 3), .inl (cyI, 12, .inl (fun zj => nI (pt zj)))), ((ad 4), .inl (cyI, 72, .inl (fun zj => nI (ac zj)))), ((ad 5), .inl (cyI, 12, .inl far)), ((ad 6), .inl (cyI, 12, .inl (fun zj => nI (re zj)))), ((ad 7), .inl (cyI, 12, .inl (fun zj => nI (tr zj)))), ((ad 8), .inr (2, [.ref ((ad 1)), .ref ((ad 9)), .ref ((ad 10)), .ref ((ad 11)), .ref ((ad 12)), .int (nI (rd)), .int (nI (rk))])), ((ad 9), .inl (cyI, 144, .inl (fun zj => nI (tb zj)))), ((ad 10), .inl (cyI, 12, .inl (fun zj => nI (un zj)))), ((ad 11), .inl (cyJ, 12, .inr (.inl (fun zj => lN (ky zj))))), ((ad 12), .inl (cyJ, 12, .inr (.inl (fun zj => lN (uk zj))))), ((ad 13), .inr (0, [.ref ((ad 1)), .int (nI (th)), .int (nI (wo)), .ref ((ad 14)), .ref ((ad 15)), .ref ((ad 16)), .ref ((ad 17)), .ref ((ad 18)), .int (nI (0)), .long (dr)])), ((ad 14), .inl (cyI, 72, .inl (fun zj => nI (co zj)))), ((ad 15), .inl (cyI, 12, .inl pp)), ((ad 16), .inl (cyI, 12, .inl de)), ((ad 17), .inl (cyI, 12, .inl (fun zj => nI (lo zj)))), ((ad 18), .inl (cyZ, 72, .inl (fun zj => nI (uw zj)))), ((ad 19), .inl (cyS, 4, .inr (.inr (.inr (.inr (rowsF ad)))))), ((ad 20), .inr (3, [.int (nI (t0)), .int (nI (l0)), .int (nI (z0)), .ref ((ad 24))])), ((ad 24), .inl (cyI, 60, .inl c0)), ((ad 21), .inr (3, [.int (nI (t1)), .int (nI (l1)), .int (nI (z1)), .ref ((ad 25))])), ((ad 25), .inl (cyI, 60, .inl c1)), ((ad 22), .inr (3, [.int (nI (t2)), .int (nI (l2)), .int (nI (z2)), .ref ((ad 26))])), ((ad 26), .inl (cyI, 60, .inl c2)), ((ad 23), .inr (3, [.int (nI (t3)), .int (nI (l3)), .int (nI (z3)), .ref ((ad 27))])), ((ad 27), .inl (cyI, 60, .inl c3))]
def wM (cyI cyJ cyZ cyS : ClassId) (ad : Nat → Nat) (tq ft L : Int32) (n th wo : Nat) (mk pt : Nat → Nat) (rkm : Nat) (rs : Int32) (drm : Int64) (tp tj ra ul ro wt lom se pw sl : Nat → Nat) (fa pa dp ss sh hd : Nat → Int32) : va_W := [((ad 40), .inr (5, [.int (ft), .int (nI (n)), .int (L), .ref ((ad 41)), .ref ((ad 42)), .ref ((ad 43)), .ref ((ad 44)), .int (nI (th)), .int (nI (rkm)), .ref ((ad 45)), .ref ((ad 46)), .ref ((ad 47)), .int (rs), .ref ((ad 48)), .long (drm), .int (nI (wo)), .ref ((ad 49)), .ref ((ad 50)), .ref ((ad 51)), .ref ((ad 52)), .ref ((ad 53)), .ref ((ad 54)), .ref ((ad 55)), .ref ((ad 56)), .ref ((ad 57)), .ref ((ad 58)), .int (tq)])), ((ad 41), .inl (cyI, 12, .inl (fun zj => nI (mk zj)))), ((ad 42), .inl (cyI, 12, .inl (fun zj => nI (pt zj)))), ((ad 43), .inl (cyI, 72, .inl (fun zj => nI (tp zj)))), ((ad 44), .inl (cyI, 72, .inl (fun zj => nI (tj zj)))), ((ad 45), .inl (cyI, 12, .inl fa)), ((ad 46), .inl (cyI, 264, .inl (fun zj => nI (ra zj)))), ((ad 47), .inl (cyI, 22, .inl (fun zj => nI (ul zj)))), ((ad 48), .inl (cyI, 12, .inl (fun zj => nI (ro zj)))), ((ad 49), .inl (cyI, 72, .inl (fun zj => nI (wt zj)))), ((ad 50), .inl (cyI, 12, .inl pa)), ((ad 51), .inl (cyI, 12, .inl dp)), ((ad 52), .inl (cyI, 12, .inl (fun zj => nI (lom zj)))), ((ad 53), .inl (cyI, 72, .inl (fun zj => nI (se zj)))), ((ad 54), .inl (cyI, 4, .inl ss)), ((ad 55), .inl (cyI, 4, .inl (fun zj => nI (sl zj)))), ((ad 56), .inl (cyI, 240, .inl sh)), ((ad 57), .inl (cyI, 60, .inl hd)), ((ad 58), .inl (cyI, 12, .inl (fun zj => nI (pw zj))))]
def JR (cyI cyJ cyZ cyS : ClassId) (ad : Nat → Nat) (w1 w2 : va_W) : Prop := ∃ (tq ft L : Int32) (n th wo : Nat) (mk pt : Nat → Nat) (ac re tr tb un ky uk co lo uw : Nat → Nat) (far pp de : Nat → Int32) (rd rk : Nat) (dr : Int64) (t0 l0 z0 t1 l1 z1 t2 l2 z2 t3 l3 z3 : Nat) (c0 c1 c2 c3 : Nat → Int32) (rkm : Nat) (rs : Int32) (drm : Int64) (tp tj ra ul ro wt lom se pw sl : Nat → Nat) (fa pa dp ss sh hd : Nat → Int32), w1 = wC cyI cyJ cyZ cyS ad tq ft L n th wo mk pt ac re tr tb un ky uk co lo uw far pp de rd rk dr t0 l0 z0 t1 l1 z1 t2 l2 z2 t3 l3 z3 c0 c1 c2 c3 ∧ w2 = wM cyI cyJ cyZ cyS ad tq ft L n th wo mk pt rkm rs drm tp tj ra ul ro wt lom se pw sl fa pa dp ss sh hd ∧ NOk n mk pt ac ∧ NR n pt ac tp tj ∧ th ≤ 1 ∧ FlR wo co pp de lo uw wt pa dp lom ∧ RkR n mk pt ac tb un rd rk ra ul rs rkm ∧ ShR 0 t0 l0 z0 c0 ss sl sh ∧ ShR 1 t1 l1 z1 c1 ss sl sh ∧ ShR 2 t2 l2 z2 c2 ss sl sh ∧ ShR 3 t3 l3 z3 c3 ss sl sh
theorem JR.mk {cyI cyJ cyZ cyS : ClassId} {ad : Nat → Nat} {tq ft L : Int32} {n th wo : Nat} {mk pt : Nat → Nat} {ac re tr tb un ky uk co lo uw : Nat → Nat} {far pp de : Nat → Int32} {rd rk : Nat} {dr : Int64} {t0 l0 z0 t1 l1 z1 t2 l2 z2 t3 l3 z3 : Nat} {c0 c1 c2 c3 : Nat → Int32} {rkm : Nat} {rs : Int32} {drm : Int64} {tp tj ra ul ro wt lom se pw sl : Nat → Nat} {fa pa dp ss sh hd : Nat → Int32} (g0 : NOk n mk pt ac) (g1 : NR n pt ac tp tj) (g2 : th ≤ 1) (g3 : FlR wo co pp de lo uw wt pa dp lom) (g4 : RkR n mk pt ac tb un rd rk ra ul rs rkm) (g5 : ShR 0 t0 l0 z0 c0 ss sl sh) (g6 : ShR 1 t1 l1 z1 c1 ss sl sh) (g7 : ShR 2 t2 l2 z2 c2 ss sl sh) (g8 : ShR 3 t3 l3 z3 c3 ss sl sh) : JR cyI cyJ cyZ cyS ad (wC cyI cyJ cyZ cyS ad tq ft L n th wo mk pt ac re tr tb un ky uk co lo uw far pp de rd rk dr t0 l0 z0 t1 l1 z1 t2 l2 z2 t3 l3 z3 c0 c1 c2 c3) (wM cyI cyJ cyZ cyS ad tq ft L n th wo mk pt rkm rs drm tp tj ra ul ro wt lom se pw sl fa pa dp ss sh hd) :=
  ⟨tq, ft, L, n, th, wo, mk, pt, ac, re, tr, tb, un, ky, uk, co, lo, uw, far, pp, de, rd, rk, dr, t0, l0, z0, t1, l1, z1, t2, l2, z2, t3, l3, z3, c0, c1, c2, c3, rkm, rs, drm, tp, tj, ra, ul, ro, wt, lom, se, pw, sl, fa, pa, dp, ss, sh, hd, rfl, rfl, g0, g1, g2, g3, g4, g5, g6, g7, g8⟩
theorem JR.elim {cyI cyJ cyZ cyS : ClassId} {ad : Nat → Nat} {P : va_W → va_W → Prop} {w1 w2 : va_W} (h : JR cyI cyJ cyZ cyS ad w1 w2) (k : ∀ (tq ft L : Int32) (n th wo : Nat) (mk pt : Nat → Nat) (ac re tr tb un ky uk co lo uw : Nat → Nat) (far pp de : Nat → Int32) (rd rk : Nat) (dr : Int64) (t0 l0 z0 t1 l1 z1 t2 l2 z2 t3 l3 z3 : Nat) (c0 c1 c2 c3 : Nat → Int32) (rkm : Nat) (rs : Int32) (drm : Int64) (tp tj ra ul ro wt lom se pw sl : Nat → Nat) (fa pa dp ss sh hd : Nat → Int32), NOk n mk pt ac → NR n pt ac tp tj → th ≤ 1 → FlR wo co pp de lo uw wt pa dp lom → RkR n mk pt ac tb un rd rk ra ul rs rkm → ShR 0 t0 l0 z0 c0 ss sl sh → ShR 1 t1 l1 z1 c1 ss sl sh → ShR 2 t2 l2 z2 c2 ss sl sh → ShR 3 t3 l3 z3 c3 ss sl sh → P (wC cyI cyJ cyZ cyS ad tq ft L n th wo mk pt ac re tr tb un ky uk co lo uw far pp de rd rk dr t0 l0 z0 t1 l1 z1 t2 l2 z2 t3 l3 z3 c0 c1 c2 c3) (wM cyI cyJ cyZ cyS ad tq ft L n th wo mk pt rkm rs drm tp tj ra ul ro wt lom se pw sl fa pa dp ss sh hd)) : P w1 w2 := by
  obtain ⟨tq, ft, L, n, th, wo, mk, pt, ac, re, tr, tb, un, ky, uk, co, lo, uw, far, pp, de, rd, rk, dr, t0, l0, z0, t1, l1, z1, t2, l2, z2, t3, l3, z3, c0, c1, c2, c3, rkm, rs, drm, tp, tj, ra, ul, ro, wt, lom, se, pw, sl, fa, pa, dp, ss, sh, hd, rfl, rfl, g0, g1, g2, g3, g4, g5, g6, g7, g8⟩ := h
  exact k tq ft L n th wo mk pt ac re tr tb un ky uk co lo uw far pp de rd rk dr t0 l0 z0 t1 l1 z1 t2 l2 z2 t3 l3 z3 c0 c1 c2 c3 rkm rs drm tp tj ra ul ro wt lom se pw sl fa pa dp ss sh hd g0 g1 g2 g3 g4 g5 g6 g7 g8
def StpI (l : Launch) (dC : Nat → ClassId) (dI : Nat → Nat → Nat) (cyI cyJ cyZ cyS : ClassId) (ad : Nat → Nat) (yc ym : MethodName) (wdc wdm : List Cond) (av : List Value) (w1 w2 : va_W) : Prop := ∃ (S1 S2 : Type) (p1 : Int32 → S1 → Prop) (v1 : S1 → va_W) (p2 : Int32 → S2 → Prop) (v2 : S2 → va_W), CtI l yc wdc ({ frames := 8, cells := 0, slots := 0, locals := 260 } : Room) dC dI (tysA cyI cyJ cyZ cyS) (.ref (ad 0) :: av) w1 p1 v1 ∧ CtI l ym wdm ({ frames := 8, cells := 0, slots := 0, locals := 260 } : Room) dC dI (tysA cyI cyJ cyZ cyS) (.ref (ad 40) :: av) w2 p2 v2 ∧ ∀ (r : Int32) (u : S1) (r' : Int32) (u' : S2), p1 r u → p2 r' u' → r = r' ∧ JR cyI cyJ cyZ cyS ad (v1 u) (v2 u')
def StpL (l : Launch) (dC : Nat → ClassId) (dI : Nat → Nat → Nat) (cyI cyJ cyZ cyS : ClassId) (ad : Nat → Nat) (yc ym : MethodName) (wdc wdm : List Cond) (av : List Value) (w1 w2 : va_W) : Prop := ∃ (S1 S2 : Type) (p1 : Int64 → S1 → Prop) (v1 : S1 → va_W) (p2 : Int64 → S2 → Prop) (v2 : S2 → va_W), CtL l yc wdc ({ frames := 8, cells := 0, slots := 0, locals := 260 } : Room) dC dI (tysA cyI cyJ cyZ cyS) (.ref (ad 0) :: av) w1 p1 v1 ∧ CtL l ym wdm ({ frames := 8, cells := 0, slots := 0, locals := 260 } : Room) dC dI (tysA cyI cyJ cyZ cyS) (.ref (ad 40) :: av) w2 p2 v2 ∧ ∀ (r : Int64) (u : S1) (r' : Int64) (u' : S2), p1 r u → p2 r' u' → r = r' ∧ JR cyI cyJ cyZ cyS ad (v1 u) (v2 u')
theorem k_of {x : Int32} (h : 1 ≤ x.toInt ∧ x.toInt ≤ 6) : ∃ k, x = nI k ∧ 1 ≤ k ∧ k ≤ 6 := by
  obtain ⟨k, hk, rfl⟩ := nI_of (x := x) (by rw [Int32.lt_iff_toInt_lt]; have : (0 : Int32).toInt = 0 := rfl; omega)
  rw [nI_toInt (by omega)] at h
  exact ⟨k, rfl, by omega, by omega⟩
theorem n_of {x : Int32} (h : ¬ x < 0) : ∃ k, x = nI k ∧ k < 2 ^ 31 := by
  obtain ⟨k, hk, rfl⟩ := nI_of h
  exact ⟨k, rfl, hk⟩
theorem n60_of {x : Int32} (h : ¬ x < 0) (h2 : ¬ nI 60 < x) : ∃ k, x = nI k ∧ k ≤ 60 := by
  obtain ⟨k, hk, rfl⟩ := nI_of h
  rw [nI_ltI (by decide) hk] at h2
  exact ⟨k, rfl, by omega⟩
theorem hld_1 {x : Int32} {z : Nat} (hz : z ≤ 60) : hld x (lN 1) z ↔ vp_in x z := by
  constructor
  · rintro ⟨a, b, rfl, h, h2⟩
    have : 1 = b := (pk_lEQ (by decide) (by omega)).mp h
    exact (in_nI (by omega)).mpr (by omega)
  · intro h
    obtain ⟨a, ha, rfl⟩ := vp_in_of h (by omega)
    exact ⟨a, 1, rfl, rfl, by omega⟩
theorem hld_w {x w : Int32} {z : Nat} (hz : z ≤ 60) (h : hld x w.toInt64 z) : ∃ a b, x = nI a ∧ w = nI b ∧ a + b ≤ z := by
  have hw := Int32.toInt_lt w
  rw [hld_L (by omega) (by rw [Int32.toInt_toInt64]; omega), Int32.toInt_toInt64] at h
  obtain ⟨a, ha, rfl⟩ := nI_of (x := x) (by rw [Int32.lt_iff_toInt_lt]; have : (0 : Int32).toInt = 0 := rfl; omega)
  obtain ⟨b, hb, rfl⟩ := nI_of (x := w) (by rw [Int32.lt_iff_toInt_lt]; have : (0 : Int32).toInt = 0 := rfl; omega)
  rw [nI_toInt ha, nI_toInt hb] at h
  exact ⟨a, b, rfl, rfl, by omega⟩
theorem hld_n {x : Int32} {m z : Nat} (hz : z ≤ 60) (hm : m < 2 ^ 31) (h : hld x (lN (2 * m)) z) : ∃ a, x = nI a ∧ a + 2 * m ≤ z := by
  rw [hld_L (by omega) (by rw [lN_toInt2 (by omega)]; omega), lN_toInt2 (by omega)] at h
  obtain ⟨a, ha, rfl⟩ := nI_of (x := x) (by rw [Int32.lt_iff_toInt_lt]; have : (0 : Int32).toInt = 0 := rfl; omega)
  rw [nI_toInt ha] at h
  exact ⟨a, rfl, by omega⟩
theorem va_P.setc {D : va_G} {cl : List vw_C} {ws : va_W} {H : Heap} {k a N : Nat} {c : ClassId} {f g : Nat → Int32} (hk : ws[k]? = some (a, .inl (c, N, .inl f))) (hfg : ∀ j, j < N → f j = g j) (h : va_P D cl ws H) : va_P D cl (ws.set k (a, .inl (c, N, .inl g))) H := by
  intro i q hi
  by_cases e : i = k
  · subst e
    rw [List.getElem?_set_self (List.getElem?_eq_some_iff.mp hk).1] at hi
    cases hi
    have h1 : H[a]? = some (vp_cell c (N, .inl f)) := h i _ hk
    have h2 : vp_cell c (N, .inl f) = vp_cell c (N, .inl g) := by
      show arrV c N (fun j => .int (f j)) = arrV c N (fun j => .int (g j))
      unfold arrV
      congr 1
      apply congrArg
      funext j
      show Value.int (f j.val) = Value.int (g j.val)
      rw [hfg j.val j.isLt]
    show H[a]? = some (vp_cell c (N, .inl g))
    rw [← h2]
    exact h1
  · rw [List.getElem?_set_ne (Ne.symm e)] at hi
    exact h i q hi
theorem va_D.setc {A : Nat → Prop} {ws : va_W} {k a N : Nat} {c : ClassId} {f g : Nat → Int32} (hk : ws[k]? = some (a, .inl (c, N, .inl f))) (h : va_D A ws) : va_D A (ws.set k (a, .inl (c, N, .inl g))) := by
  have key : ∀ (i : Nat) (q : Nat × va_E), (ws.set k (a, .inl (c, N, .inl g)))[i]? = some q → ∃ q' : Nat × va_E, ws[i]? = some q' ∧ q'.1 = q.1 := by
    intro i q hi
    by_cases e : i = k
    · subst e
      rw [List.getElem?_set_self (List.getElem?_eq_some_iff.mp hk).1] at hi
      cases hi
      exact ⟨_, hk, rfl⟩
    · rw [List.getElem?_set_ne (Ne.symm e)] at hi
      exact ⟨q, hi, rfl⟩
  refine ⟨fun i j p q hi hj e => ?_, fun i q hi => ?_⟩
  · obtain ⟨p1, a1, a2⟩ := key i p hi
    obtain ⟨q1, b1, b2⟩ := key j q hj
    exact h.1 i j p1 q1 a1 b1 (by rw [a2, b2]; exact e)
  · obtain ⟨q1, b1, b2⟩ := key i q hi
    rw [← b2]
    exact h.2 i q1 b1
theorem CtI.setc {l : Launch} {y : MethodName} {wds : List Cond} {rm : Room} {dC : Nat → ClassId} {dI : Nat → Nat → Nat} {tys : List (ClassId × FieldType)} {av : List Value} {ws0 : va_W} {S : Type} {post : Int32 → S → Prop} {ws1 : S → va_W} (h : CtI l y wds rm dC dI tys av ws0 post ws1) (k a N : Nat) (c : ClassId) (f g : S → Nat → Int32) (hk : ∀ u, (ws1 u)[k]? = some (a, .inl (c, N, .inl (f u)))) (hfg : ∀ r u, post r u → ∀ j, j < N → f u j = g u j) : CtI l y wds rm dC dI tys av ws0 post (fun u => (ws1 u).set k (a, .inl (c, N, .inl (g u)))) :=
  fun sz => Met.mono (h sz) (fun _ _ z => z) (fun _ _ o t _ hq => by
    obtain ⟨⟨r, u, q1, q2, e1, e2, e3⟩, q4⟩ := hq
    exact ⟨⟨r, u, q1, q2, va_P.setc (hk u) (hfg r u q2) e1, e2, va_D.setc (hk u) e3⟩, q4⟩) (fun _ z => z)
