set_option maxHeartbeats 4000000 in
set_option maxRecDepth 100000 in
theorem s_about (l : Launch) (dC : Nat → ClassId) (dI : Nat → Nat → Nat) (cyI cyJ cyZ cyS : ClassId) (ad : Nat → Nat) (w1 w2 : va_W) (hJ : JR cyI cyJ cyZ cyS ad w1 w2) (x y : Int32) : StpI l dC dI cyI cyJ cyZ cyS ad yX4_about yX5_about wsX4_about wsX5_about [.int x, .int y] w1 w2 := by
  refine JR.elim (P := fun w1 w2 => StpI l dC dI cyI cyJ cyZ cyS ad yX4_about yX5_about wsX4_about wsX5_about [.int x, .int y] w1 w2) hJ ?_
  intro tq ft L n th wo mk pt ac re tr tb un ky uk co lo uw far pp de rd rk dr t0 l0 z0 t1 l1 z1 t2 l2 z2 t3 l3 z3 c0 c1 c2 c3 rkm rs drm tp tj ra ul ro wt lom se pw sl fa pa dp ss sh hd hN hNR hth hF hK h0 h1 h2 h3
  have hn := hN.n12
  have hpt : ∀ p, p < n → pt p ≤ 6 := fun p hp => hN.p6 hp
  have hrk := hK.1
  have hkT := hK.2.1
  have hrkm := hK.2.2.1
  have hkM := hK.2.2.2
  have hwo := hF.1
  by_cases hx : vp_in x n
  · obtain ⟨a, ha, rfl⟩ := vp_in_of hx (by omega)
    by_cases hw0 : vp_in y 5
    · obtain ⟨k, hk, rfl⟩ := vp_in_of hw0 (by decide)
      obtain rfl | rfl | rfl | rfl | rfl : k = 0 ∨ k = 1 ∨ k = 2 ∨ k = 3 ∨ k = 4 := by omega
      · skip
        refine ⟨_, _, _, _, _, _, (fwI_C1 (l := l) (dC := dC) (dI := dI) (cyI := cyI) (cyJ := cyJ) (cyZ := cyZ) (cyS := cyS) (ad := ad) (S := Unit) tq ft L n th wo mk pt ac re tr tb un ky uk co lo uw far pp de rd rk dr t0 l0 z0 t1 l1 z1 t2 l2 z2 t3 l3 z3 c0 c1 c2 c3 (fun u => tq) (fun u => ft) (fun u => n) (fun u => L) (fun u => mk) (fun u => pt) (fun u => ac) (fun u => far) (fun u => re) (fun u => tr) (fun u => rd) (fun u => rk) (fun u => tb) (fun u => un) (fun u => ky) (fun u => uk) (fun u => th) (fun u => wo) (fun u => dr) (fun u => co) (fun u => pp) (fun u => de) (fun u => lo) (fun u => uw) (Nat.le_of_ble_eq_true rfl) (Nat.le_of_ble_eq_true rfl) (c_X4_about_0 l dC dI cyI cyJ cyZ cyS ad tq ft n L mk pt ac far re tr tb un ky uk rd rk th wo 0 co pp de lo uw dr a (by exact hN) (by first | assumption | omega))), (fwI_M4 (l := l) (dC := dC) (dI := dI) (cyI := cyI) (cyJ := cyJ) (cyZ := cyZ) (cyS := cyS) (ad := ad) (S := (Nat → Nat) × (Nat → Nat) × (Nat → Nat) × Nat) tq ft L n th wo mk pt rkm rs drm tp tj ra ul ro wt lom se pw sl fa pa dp ss sh hd (fun u => ft) (fun u => n) (fun u => L) (fun u => th) (fun u => 1) (fun u => nI (u.2.2.2)) (fun u => drm) (fun u => wo) (fun u => tq) (fun u => mk) (fun u => pt) (fun u => tp) (fun u => tj) (fun u => fa) (fun u => u.1) (fun u => u.2.1) (fun u => u.2.2.1) (Nat.le_of_ble_eq_true rfl) (Nat.le_of_ble_eq_true rfl) (c_X5_about_0 l dC dI cyI cyJ cyZ cyS ad ft n L th rkm rs drm wo tq mk pt tp tj fa ra ul ro ac (by exact hN) (by exact hNR) (by exact hrkm) (by exact hkM) a (by first | assumption | omega))), fun r u r' u' h h' => ?_⟩
        try dsimp only at h
        try dsimp only at h'
        obtain ⟨ra2, ul2, ro2, e2⟩ := u'
        dsimp only at h'
        obtain ⟨h', hM⟩ := h'
        exact ⟨by rw [h, h'], JR.mk (hN) (hNR) (hth) (hF) (hK.my hM) (h0) (h1) (h2) (h3)⟩
      · skip
        refine ⟨_, _, _, _, _, _, (fwI_C1 (l := l) (dC := dC) (dI := dI) (cyI := cyI) (cyJ := cyJ) (cyZ := cyZ) (cyS := cyS) (ad := ad) (S := Unit) tq ft L n th wo mk pt ac re tr tb un ky uk co lo uw far pp de rd rk dr t0 l0 z0 t1 l1 z1 t2 l2 z2 t3 l3 z3 c0 c1 c2 c3 (fun u => tq) (fun u => ft) (fun u => n) (fun u => L) (fun u => mk) (fun u => pt) (fun u => ac) (fun u => far) (fun u => re) (fun u => tr) (fun u => rd) (fun u => rk) (fun u => tb) (fun u => un) (fun u => ky) (fun u => uk) (fun u => th) (fun u => wo) (fun u => dr) (fun u => co) (fun u => pp) (fun u => de) (fun u => lo) (fun u => uw) (Nat.le_of_ble_eq_true rfl) (Nat.le_of_ble_eq_true rfl) (c_X4_about_1 l dC dI cyI cyJ cyZ cyS ad tq ft n L mk pt ac far re tr tb un ky uk rd rk th wo 0 co pp de lo uw dr a (by exact hN) (by first | assumption | omega))), (fwI_M4 (l := l) (dC := dC) (dI := dI) (cyI := cyI) (cyJ := cyJ) (cyZ := cyZ) (cyS := cyS) (ad := ad) (S := (Nat → Nat) × (Nat → Nat) × (Nat → Nat) × Nat) tq ft L n th wo mk pt rkm rs drm tp tj ra ul ro wt lom se pw sl fa pa dp ss sh hd (fun u => ft) (fun u => n) (fun u => L) (fun u => th) (fun u => 1) (fun u => nI (u.2.2.2)) (fun u => drm) (fun u => wo) (fun u => tq) (fun u => mk) (fun u => pt) (fun u => tp) (fun u => tj) (fun u => fa) (fun u => u.1) (fun u => u.2.1) (fun u => u.2.2.1) (Nat.le_of_ble_eq_true rfl) (Nat.le_of_ble_eq_true rfl) (c_X5_about_1 l dC dI cyI cyJ cyZ cyS ad ft n L th rkm rs drm wo tq mk pt tp tj fa ra ul ro ac (by exact hN) (by exact hNR) (by exact hrkm) (by exact hkM) a (by first | assumption | omega))), fun r u r' u' h h' => ?_⟩
        try dsimp only at h
        try dsimp only at h'
        obtain ⟨ra2, ul2, ro2, e2⟩ := u'
        dsimp only at h'
        obtain ⟨h', hM⟩ := h'
        exact ⟨by rw [h, h'], JR.mk (hN) (hNR) (hth) (hF) (hK.my hM) (h0) (h1) (h2) (h3)⟩
      · skip
        refine ⟨_, _, _, _, _, _, (fwI_C1 (l := l) (dC := dC) (dI := dI) (cyI := cyI) (cyJ := cyJ) (cyZ := cyZ) (cyS := cyS) (ad := ad) (S := (Nat → Nat) × (Nat → Nat) × (Nat → Nat) × (Nat → Nat) × Nat) tq ft L n th wo mk pt ac re tr tb un ky uk co lo uw far pp de rd rk dr t0 l0 z0 t1 l1 z1 t2 l2 z2 t3 l3 z3 c0 c1 c2 c3 (fun u => tq) (fun u => ft) (fun u => n) (fun u => L) (fun u => mk) (fun u => pt) (fun u => ac) (fun u => far) (fun u => re) (fun u => tr) (fun u => u.2.2.2.2) (fun u => 1) (fun u => u.1) (fun u => u.2.1) (fun u => u.2.2.1) (fun u => u.2.2.2.1) (fun u => th) (fun u => wo) (fun u => dr) (fun u => co) (fun u => pp) (fun u => de) (fun u => lo) (fun u => uw) (Nat.le_of_ble_eq_true rfl) (Nat.le_of_ble_eq_true rfl) (c_X4_about_2 l dC dI cyI cyJ cyZ cyS ad tq ft n L mk pt ac far re tr tb un ky uk rd rk th wo 0 co pp de lo uw dr a (by exact hN) (by first | assumption | omega) (by exact hrk) (by exact hkT))), (fwI_M4 (l := l) (dC := dC) (dI := dI) (cyI := cyI) (cyJ := cyJ) (cyZ := cyZ) (cyS := cyS) (ad := ad) (S := (Nat → Nat) × (Nat → Nat) × (Nat → Nat) × Nat) tq ft L n th wo mk pt rkm rs drm tp tj ra ul ro wt lom se pw sl fa pa dp ss sh hd (fun u => ft) (fun u => n) (fun u => L) (fun u => th) (fun u => 1) (fun u => nI (u.2.2.2)) (fun u => drm) (fun u => wo) (fun u => tq) (fun u => mk) (fun u => pt) (fun u => tp) (fun u => tj) (fun u => fa) (fun u => u.1) (fun u => u.2.1) (fun u => u.2.2.1) (Nat.le_of_ble_eq_true rfl) (Nat.le_of_ble_eq_true rfl) (c_X5_about_2 l dC dI cyI cyJ cyZ cyS ad ft n L th rkm rs drm wo tq mk pt tp tj fa ra ul ro ac (by exact hN) (by exact hNR) (by exact hrkm) (by exact hkM) a (by first | assumption | omega))), fun r u r' u' h h' => ?_⟩
        try dsimp only at h
        try dsimp only at h'
        obtain ⟨ra2, ul2, ro2, e2⟩ := u'
        obtain ⟨tb2, un2, ky2, uk2, rd2⟩ := u
        dsimp only at h h'
        obtain ⟨h', hM⟩ := h'
        obtain ⟨h, hT, -⟩ := h
        obtain ⟨te, t1, t2⟩ := tabs_eq hN hT hM
        subst te
        exact ⟨by rw [h, h', t1 _ (by have := hM.2.1; omega) _ ha, Nat.min_self], JR.mk (hN) (hNR) (hth) (hF) (RkR.yes hT hM) (h0) (h1) (h2) (h3)⟩
      · skip
        refine ⟨_, _, _, _, _, _, (fwI_C1 (l := l) (dC := dC) (dI := dI) (cyI := cyI) (cyJ := cyJ) (cyZ := cyZ) (cyS := cyS) (ad := ad) (S := (Nat → Nat) × (Nat → Nat) × (Nat → Nat) × (Nat → Nat) × Nat) tq ft L n th wo mk pt ac re tr tb un ky uk co lo uw far pp de rd rk dr t0 l0 z0 t1 l1 z1 t2 l2 z2 t3 l3 z3 c0 c1 c2 c3 (fun u => tq) (fun u => ft) (fun u => n) (fun u => L) (fun u => mk) (fun u => pt) (fun u => ac) (fun u => far) (fun u => re) (fun u => tr) (fun u => u.2.2.2.2) (fun u => 1) (fun u => u.1) (fun u => u.2.1) (fun u => u.2.2.1) (fun u => u.2.2.2.1) (fun u => th) (fun u => wo) (fun u => dr) (fun u => co) (fun u => pp) (fun u => de) (fun u => lo) (fun u => uw) (Nat.le_of_ble_eq_true rfl) (Nat.le_of_ble_eq_true rfl) (c_X4_about_3 l dC dI cyI cyJ cyZ cyS ad tq ft n L mk pt ac far re tr tb un ky uk rd rk th wo 0 co pp de lo uw dr a (by exact hN) (by first | assumption | omega) (by exact hrk) (by exact hkT))), (fwI_M4 (l := l) (dC := dC) (dI := dI) (cyI := cyI) (cyJ := cyJ) (cyZ := cyZ) (cyS := cyS) (ad := ad) (S := (Nat → Nat) × (Nat → Nat) × (Nat → Nat) × Nat) tq ft L n th wo mk pt rkm rs drm tp tj ra ul ro wt lom se pw sl fa pa dp ss sh hd (fun u => ft) (fun u => n) (fun u => L) (fun u => th) (fun u => 1) (fun u => nI (u.2.2.2)) (fun u => drm) (fun u => wo) (fun u => tq) (fun u => mk) (fun u => pt) (fun u => tp) (fun u => tj) (fun u => fa) (fun u => u.1) (fun u => u.2.1) (fun u => u.2.2.1) (Nat.le_of_ble_eq_true rfl) (Nat.le_of_ble_eq_true rfl) (c_X5_about_3 l dC dI cyI cyJ cyZ cyS ad ft n L th rkm rs drm wo tq mk pt tp tj fa ra ul ro ac (by exact hN) (by exact hNR) (by exact hrkm) (by exact hkM) a (by first | assumption | omega))), fun r u r' u' h h' => ?_⟩
        try dsimp only at h
        try dsimp only at h'
        obtain ⟨ra2, ul2, ro2, e2⟩ := u'
        obtain ⟨tb2, un2, ky2, uk2, rd2⟩ := u
        dsimp only at h h'
        obtain ⟨h', hM⟩ := h'
        obtain ⟨h, hT, -⟩ := h
        obtain ⟨te, t1, t2⟩ := tabs_eq hN hT hM
        subst te
        have t3 : ∀ p, p < n → ra2 (12 * e2 + p) = tb2 (e2 * 12 + p) := fun p hp => by rw [t1 _ (by have := hM.2.1; omega) _ hp, Nat.min_self]
        exact ⟨by rw [h, h']; congr 1; rw [t3 _ ha]; exact eqTo_congr (fun j hj => by rw [t3 j hj]; exact Iff.rfl), JR.mk (hN) (hNR) (hth) (hF) (RkR.yes hT hM) (h0) (h1) (h2) (h3)⟩
      · skip
        refine ⟨_, _, _, _, _, _, (fwI_C1 (l := l) (dC := dC) (dI := dI) (cyI := cyI) (cyJ := cyJ) (cyZ := cyZ) (cyS := cyS) (ad := ad) (S := (Nat → Int32) × (Nat → Nat)) tq ft L n th wo mk pt ac re tr tb un ky uk co lo uw far pp de rd rk dr t0 l0 z0 t1 l1 z1 t2 l2 z2 t3 l3 z3 c0 c1 c2 c3 (fun u => tq) (fun u => ft) (fun u => n) (fun u => L) (fun u => mk) (fun u => pt) (fun u => ac) (fun u => u.1) (fun u => u.2) (fun u => tr) (fun u => rd) (fun u => rk) (fun u => tb) (fun u => un) (fun u => ky) (fun u => uk) (fun u => th) (fun u => wo) (fun u => dr) (fun u => co) (fun u => pp) (fun u => de) (fun u => lo) (fun u => uw) (Nat.le_of_ble_eq_true rfl) (Nat.le_of_ble_eq_true rfl) (c_X4_about_4 l dC dI cyI cyJ cyZ cyS ad tq ft n L mk pt ac far re tr tb un ky uk rd rk th wo 0 co pp de lo uw dr a (by exact hN) (by first | assumption | omega))), (fwI_M4 (l := l) (dC := dC) (dI := dI) (cyI := cyI) (cyJ := cyJ) (cyZ := cyZ) (cyS := cyS) (ad := ad) (S := (Nat → Nat) × (Nat → Nat) × (Nat → Nat) × Nat × (Nat → Int32)) tq ft L n th wo mk pt rkm rs drm tp tj ra ul ro wt lom se pw sl fa pa dp ss sh hd (fun u => ft) (fun u => n) (fun u => L) (fun u => th) (fun u => 1) (fun u => nI (u.2.2.2.1)) (fun u => drm) (fun u => wo) (fun u => tq) (fun u => mk) (fun u => pt) (fun u => tp) (fun u => tj) (fun u => u.2.2.2.2) (fun u => u.1) (fun u => u.2.1) (fun u => u.2.2.1) (Nat.le_of_ble_eq_true rfl) (Nat.le_of_ble_eq_true rfl) (c_X5_about_4 l dC dI cyI cyJ cyZ cyS ad ft n L th rkm rs drm wo tq mk pt tp tj fa ra ul ro ac (by exact hN) (by exact hNR) (by exact hrkm) (by exact hkM) a (by first | assumption | omega))), fun r u r' u' h h' => ?_⟩
        try dsimp only at h
        try dsimp only at h'
        obtain ⟨ra2, ul2, ro2, e2, fa2⟩ := u'
        obtain ⟨far2, re2⟩ := u
        dsimp only at h h'
        obtain ⟨h', hM, hR⟩ := h'
        obtain ⟨h, hFo⟩ := h
        exact ⟨by rw [h, h', RI.eq hn hFo hR _ ha], JR.mk (hN) (hNR) (hth) (hF) (hK.my hM) (h0) (h1) (h2) (h3)⟩
    · skip
      refine ⟨_, _, _, _, _, _, (fwI_C1 (l := l) (dC := dC) (dI := dI) (cyI := cyI) (cyJ := cyJ) (cyZ := cyZ) (cyS := cyS) (ad := ad) (S := Unit) tq ft L n th wo mk pt ac re tr tb un ky uk co lo uw far pp de rd rk dr t0 l0 z0 t1 l1 z1 t2 l2 z2 t3 l3 z3 c0 c1 c2 c3 (fun u => tq) (fun u => ft) (fun u => n) (fun u => L) (fun u => mk) (fun u => pt) (fun u => ac) (fun u => far) (fun u => re) (fun u => tr) (fun u => rd) (fun u => rk) (fun u => tb) (fun u => un) (fun u => ky) (fun u => uk) (fun u => th) (fun u => wo) (fun u => dr) (fun u => co) (fun u => pp) (fun u => de) (fun u => lo) (fun u => uw) (Nat.le_of_ble_eq_true rfl) (Nat.le_of_ble_eq_true rfl) (c_X4_about_5 l dC dI cyI cyJ cyZ cyS ad tq ft n L mk pt ac far re tr tb un ky uk rd rk th wo 0 co pp de lo uw dr a (by exact hN) (by first | assumption | omega) y (by first | assumption | omega))), (fwI_M4 (l := l) (dC := dC) (dI := dI) (cyI := cyI) (cyJ := cyJ) (cyZ := cyZ) (cyS := cyS) (ad := ad) (S := (Nat → Nat) × (Nat → Nat) × (Nat → Nat) × Nat) tq ft L n th wo mk pt rkm rs drm tp tj ra ul ro wt lom se pw sl fa pa dp ss sh hd (fun u => ft) (fun u => n) (fun u => L) (fun u => th) (fun u => 1) (fun u => nI (u.2.2.2)) (fun u => drm) (fun u => wo) (fun u => tq) (fun u => mk) (fun u => pt) (fun u => tp) (fun u => tj) (fun u => fa) (fun u => u.1) (fun u => u.2.1) (fun u => u.2.2.1) (Nat.le_of_ble_eq_true rfl) (Nat.le_of_ble_eq_true rfl) (c_X5_about_5 l dC dI cyI cyJ cyZ cyS ad ft n L th rkm rs drm wo tq mk pt tp tj fa ra ul ro ac (by exact hN) (by exact hNR) (by exact hrkm) (by exact hkM) a (by first | assumption | omega) y (by first | assumption | omega))), fun r u r' u' h h' => ?_⟩
      try dsimp only at h
      try dsimp only at h'
      obtain ⟨ra2, ul2, ro2, e2⟩ := u'
      dsimp only at h'
      obtain ⟨h', hM⟩ := h'
      exact ⟨by rw [h, h'], JR.mk (hN) (hNR) (hth) (hF) (hK.my hM) (h0) (h1) (h2) (h3)⟩
  · skip
    refine ⟨_, _, _, _, _, _, (fwI_C1 (l := l) (dC := dC) (dI := dI) (cyI := cyI) (cyJ := cyJ) (cyZ := cyZ) (cyS := cyS) (ad := ad) (S := Unit) tq ft L n th wo mk pt ac re tr tb un ky uk co lo uw far pp de rd rk dr t0 l0 z0 t1 l1 z1 t2 l2 z2 t3 l3 z3 c0 c1 c2 c3 (fun u => tq) (fun u => ft) (fun u => n) (fun u => L) (fun u => mk) (fun u => pt) (fun u => ac) (fun u => far) (fun u => re) (fun u => tr) (fun u => rd) (fun u => rk) (fun u => tb) (fun u => un) (fun u => ky) (fun u => uk) (fun u => th) (fun u => wo) (fun u => dr) (fun u => co) (fun u => pp) (fun u => de) (fun u => lo) (fun u => uw) (Nat.le_of_ble_eq_true rfl) (Nat.le_of_ble_eq_true rfl) (c_X4_about_x l dC dI cyI cyJ cyZ cyS ad tq ft n L mk pt ac far re tr tb un ky uk rd rk th wo 0 co pp de lo uw dr x y (by exact hN) (by first | assumption | omega))), (fwI_M4 (l := l) (dC := dC) (dI := dI) (cyI := cyI) (cyJ := cyJ) (cyZ := cyZ) (cyS := cyS) (ad := ad) (S := Unit) tq ft L n th wo mk pt rkm rs drm tp tj ra ul ro wt lom se pw sl fa pa dp ss sh hd (fun u => ft) (fun u => n) (fun u => L) (fun u => th) (fun u => rkm) (fun u => rs) (fun u => drm) (fun u => wo) (fun u => tq) (fun u => mk) (fun u => pt) (fun u => tp) (fun u => tj) (fun u => fa) (fun u => ra) (fun u => ul) (fun u => ro) (Nat.le_of_ble_eq_true rfl) (Nat.le_of_ble_eq_true rfl) (c_X5_about_x l dC dI cyI cyJ cyZ cyS ad ft n L th rkm rs drm wo tq mk pt tp tj fa ra ul ro x y (by first | exact hn | omega) (by first | assumption | omega))), fun r u r' u' h h' => ?_⟩
    try dsimp only at h
    try dsimp only at h'
    exact ⟨by rw [h, h'], JR.mk (hN) (hNR) (hth) (hF) (hK) (h0) (h1) (h2) (h3)⟩
set_option maxHeartbeats 4000000 in
set_option maxRecDepth 100000 in
theorem s_together (l : Launch) (dC : Nat → ClassId) (dI : Nat → Nat → Nat) (cyI cyJ cyZ cyS : ClassId) (ad : Nat → Nat) (w1 w2 : va_W) (hJ : JR cyI cyJ cyZ cyS ad w1 w2)  : StpI l dC dI cyI cyJ cyZ cyS ad yX4_together yX5_together wsX4_together wsX5_together [] w1 w2 := by
  refine JR.elim (P := fun w1 w2 => StpI l dC dI cyI cyJ cyZ cyS ad yX4_together yX5_together wsX4_together wsX5_together [] w1 w2) hJ ?_
  intro tq ft L n th wo mk pt ac re tr tb un ky uk co lo uw far pp de rd rk dr t0 l0 z0 t1 l1 z1 t2 l2 z2 t3 l3 z3 c0 c1 c2 c3 rkm rs drm tp tj ra ul ro wt lom se pw sl fa pa dp ss sh hd hN hNR hth hF hK h0 h1 h2 h3
  have hn := hN.n12
  have hpt : ∀ p, p < n → pt p ≤ 6 := fun p hp => hN.p6 hp
  have hrk := hK.1
  have hkT := hK.2.1
  have hrkm := hK.2.2.1
  have hkM := hK.2.2.2
  have hwo := hF.1
  refine ⟨_, _, _, _, _, _, (fwI_C1 (l := l) (dC := dC) (dI := dI) (cyI := cyI) (cyJ := cyJ) (cyZ := cyZ) (cyS := cyS) (ad := ad) (S := (Nat → Int32) × (Nat → Nat)) tq ft L n th wo mk pt ac re tr tb un ky uk co lo uw far pp de rd rk dr t0 l0 z0 t1 l1 z1 t2 l2 z2 t3 l3 z3 c0 c1 c2 c3 (fun u => tq) (fun u => ft) (fun u => n) (fun u => L) (fun u => mk) (fun u => pt) (fun u => ac) (fun u => u.1) (fun u => u.2) (fun u => tr) (fun u => rd) (fun u => rk) (fun u => tb) (fun u => un) (fun u => ky) (fun u => uk) (fun u => th) (fun u => wo) (fun u => dr) (fun u => co) (fun u => pp) (fun u => de) (fun u => lo) (fun u => uw) (Nat.le_of_ble_eq_true rfl) (Nat.le_of_ble_eq_true rfl) (c_X4_together_ l dC dI cyI cyJ cyZ cyS ad tq ft n L mk pt ac far re tr tb un ky uk rd rk th wo 0 co pp de lo uw dr (by exact hN))), (fwI_M5 (l := l) (dC := dC) (dI := dI) (cyI := cyI) (cyJ := cyJ) (cyZ := cyZ) (cyS := cyS) (ad := ad) (S := (Nat → Int32)) tq ft L n th wo mk pt rkm rs drm tp tj ra ul ro wt lom se pw sl fa pa dp ss sh hd (fun u => ft) (fun u => n) (fun u => L) (fun u => th) (fun u => rkm) (fun u => rs) (fun u => drm) (fun u => wo) (fun u => tq) (fun u => mk) (fun u => pt) (fun u => tp) (fun u => tj) (fun u => u) (Nat.le_of_ble_eq_true rfl) (Nat.le_of_ble_eq_true rfl) (c_X5_together_ l dC dI cyI cyJ cyZ cyS ad ft n L th rkm rs drm wo tq mk pt tp tj fa ac (by exact hN) (by exact hNR))), fun r u r' u' h h' => ?_⟩
  try dsimp only at h
  try dsimp only at h'
  obtain ⟨far2, re2⟩ := u
  obtain ⟨fa2, rfl⟩ : ∃ z, z = u' := ⟨_, rfl⟩
  dsimp only at h h'
  obtain ⟨h, hFo⟩ := h
  obtain ⟨h', hR⟩ := h'
  have hc : cntR fa2 n = cntR far2 n := cntR_congr (RI.eq hn hFo hR)
  rw [hc] at h'
  have hq : r = r' := by
    rw [h']
    by_cases z : 0 < n ∧ cntR far2 n = n
    · rw [if_pos z]; exact h.1 z
    · rw [if_neg z]; exact h.2 z
  exact ⟨hq, JR.mk (hN) (hNR) (hth) (hF) (hK) (h0) (h1) (h2) (h3)⟩
set_option maxHeartbeats 4000000 in
set_option maxRecDepth 100000 in
theorem s_rank (l : Launch) (dC : Nat → ClassId) (dI : Nat → Nat → Nat) (cyI cyJ cyZ cyS : ClassId) (ad : Nat → Nat) (w1 w2 : va_W) (hJ : JR cyI cyJ cyZ cyS ad w1 w2) (x y : Int32) : StpI l dC dI cyI cyJ cyZ cyS ad yX4_rank yX5_rank wsX4_rank wsX5_rank [.int x, .int y] w1 w2 := by
  refine JR.elim (P := fun w1 w2 => StpI l dC dI cyI cyJ cyZ cyS ad yX4_rank yX5_rank wsX4_rank wsX5_rank [.int x, .int y] w1 w2) hJ ?_
  intro tq ft L n th wo mk pt ac re tr tb un ky uk co lo uw far pp de rd rk dr t0 l0 z0 t1 l1 z1 t2 l2 z2 t3 l3 z3 c0 c1 c2 c3 rkm rs drm tp tj ra ul ro wt lom se pw sl fa pa dp ss sh hd hN hNR hth hF hK h0 h1 h2 h3
  have hn := hN.n12
  have hpt : ∀ p, p < n → pt p ≤ 6 := fun p hp => hN.p6 hp
  have hrk := hK.1
  have hkT := hK.2.1
  have hrkm := hK.2.2.1
  have hkM := hK.2.2.2
  have hwo := hF.1
  by_cases hx : vp_in x n
  · obtain ⟨a, ha, rfl⟩ := vp_in_of hx (by omega)
    by_cases hy : vp_in y 21
    · obtain ⟨d, hdd, rfl⟩ := vp_in_of hy (by decide)
      refine ⟨_, _, _, _, _, _, (fwI_C1 (l := l) (dC := dC) (dI := dI) (cyI := cyI) (cyJ := cyJ) (cyZ := cyZ) (cyS := cyS) (ad := ad) (S := (Nat → Nat) × (Nat → Nat) × (Nat → Nat) × (Nat → Nat) × Nat) tq ft L n th wo mk pt ac re tr tb un ky uk co lo uw far pp de rd rk dr t0 l0 z0 t1 l1 z1 t2 l2 z2 t3 l3 z3 c0 c1 c2 c3 (fun u => tq) (fun u => ft) (fun u => n) (fun u => L) (fun u => mk) (fun u => pt) (fun u => ac) (fun u => far) (fun u => re) (fun u => tr) (fun u => u.2.2.2.2) (fun u => 1) (fun u => u.1) (fun u => u.2.1) (fun u => u.2.2.1) (fun u => u.2.2.2.1) (fun u => th) (fun u => wo) (fun u => dr) (fun u => co) (fun u => pp) (fun u => de) (fun u => lo) (fun u => uw) (Nat.le_of_ble_eq_true rfl) (Nat.le_of_ble_eq_true rfl) (c_X4_rank_3 l dC dI cyI cyJ cyZ cyS ad tq ft n L mk pt ac far re tr tb un ky uk rd rk th wo 0 co pp de lo uw dr a (by exact hN) (by first | assumption | omega) d (by first | assumption | omega) (by exact hrk) (by exact hkT))), (fwI_M6 (l := l) (dC := dC) (dI := dI) (cyI := cyI) (cyJ := cyJ) (cyZ := cyZ) (cyS := cyS) (ad := ad) (S := (Nat → Nat) × (Nat → Nat) × (Nat → Nat) × Nat) tq ft L n th wo mk pt rkm rs drm tp tj ra ul ro wt lom se pw sl fa pa dp ss sh hd (fun u => ft) (fun u => n) (fun u => L) (fun u => th) (fun u => 1) (fun u => nI (u.2.2.2)) (fun u => drm) (fun u => wo) (fun u => tq) (fun u => mk) (fun u => pt) (fun u => tp) (fun u => tj) (fun u => u.1) (fun u => u.2.1) (fun u => u.2.2.1) (Nat.le_of_ble_eq_true rfl) (Nat.le_of_ble_eq_true rfl) (c_X5_rank_3 l dC dI cyI cyJ cyZ cyS ad ft n L th rkm rs drm wo tq mk pt tp tj ra ul ro ac (by exact hN) (by exact hNR) (by exact hrkm) (by exact hkM) a (by first | assumption | omega) d (by first | assumption | omega))), fun r u r' u' h h' => ?_⟩
      try dsimp only at h
      try dsimp only at h'
      obtain ⟨ra2, ul2, ro2, e2⟩ := u'
      obtain ⟨tb2, un2, ky2, uk2, rd2⟩ := u
      dsimp only at h h'
      obtain ⟨h', hM⟩ := h'
      obtain ⟨h, hT, -⟩ := h
      obtain ⟨te, t1, t2⟩ := tabs_eq hN hT hM
      subst te
      have he2 := hM.2.1
      exact ⟨by rw [h, h', t1 d (by omega) _ ha], JR.mk (hN) (hNR) (hth) (hF) (RkR.yes hT hM) (h0) (h1) (h2) (h3)⟩
    · skip
      refine ⟨_, _, _, _, _, _, (fwI_C1 (l := l) (dC := dC) (dI := dI) (cyI := cyI) (cyJ := cyJ) (cyZ := cyZ) (cyS := cyS) (ad := ad) (S := Unit) tq ft L n th wo mk pt ac re tr tb un ky uk co lo uw far pp de rd rk dr t0 l0 z0 t1 l1 z1 t2 l2 z2 t3 l3 z3 c0 c1 c2 c3 (fun u => tq) (fun u => ft) (fun u => n) (fun u => L) (fun u => mk) (fun u => pt) (fun u => ac) (fun u => far) (fun u => re) (fun u => tr) (fun u => rd) (fun u => rk) (fun u => tb) (fun u => un) (fun u => ky) (fun u => uk) (fun u => th) (fun u => wo) (fun u => dr) (fun u => co) (fun u => pp) (fun u => de) (fun u => lo) (fun u => uw) (Nat.le_of_ble_eq_true rfl) (Nat.le_of_ble_eq_true rfl) (c_X4_rank_2 l dC dI cyI cyJ cyZ cyS ad tq ft n L mk pt ac far re tr tb un ky uk rd rk th wo 0 co pp de lo uw dr a (by exact hN) (by first | assumption | omega) y (by first | assumption | omega))), (fwI_M6 (l := l) (dC := dC) (dI := dI) (cyI := cyI) (cyJ := cyJ) (cyZ := cyZ) (cyS := cyS) (ad := ad) (S := Unit) tq ft L n th wo mk pt rkm rs drm tp tj ra ul ro wt lom se pw sl fa pa dp ss sh hd (fun u => ft) (fun u => n) (fun u => L) (fun u => th) (fun u => rkm) (fun u => rs) (fun u => drm) (fun u => wo) (fun u => tq) (fun u => mk) (fun u => pt) (fun u => tp) (fun u => tj) (fun u => ra) (fun u => ul) (fun u => ro) (Nat.le_of_ble_eq_true rfl) (Nat.le_of_ble_eq_true rfl) (c_X5_rank_2 l dC dI cyI cyJ cyZ cyS ad ft n L th rkm rs drm wo tq mk pt tp tj ra ul ro a y (by first | exact hn | omega) (by first | assumption | omega) (by first | assumption | omega))), fun r u r' u' h h' => ?_⟩
      try dsimp only at h
      try dsimp only at h'
      exact ⟨by rw [h, h'], JR.mk (hN) (hNR) (hth) (hF) (hK) (h0) (h1) (h2) (h3)⟩
  · skip
    refine ⟨_, _, _, _, _, _, (fwI_C1 (l := l) (dC := dC) (dI := dI) (cyI := cyI) (cyJ := cyJ) (cyZ := cyZ) (cyS := cyS) (ad := ad) (S := Unit) tq ft L n th wo mk pt ac re tr tb un ky uk co lo uw far pp de rd rk dr t0 l0 z0 t1 l1 z1 t2 l2 z2 t3 l3 z3 c0 c1 c2 c3 (fun u => tq) (fun u => ft) (fun u => n) (fun u => L) (fun u => mk) (fun u => pt) (fun u => ac) (fun u => far) (fun u => re) (fun u => tr) (fun u => rd) (fun u => rk) (fun u => tb) (fun u => un) (fun u => ky) (fun u => uk) (fun u => th) (fun u => wo) (fun u => dr) (fun u => co) (fun u => pp) (fun u => de) (fun u => lo) (fun u => uw) (Nat.le_of_ble_eq_true rfl) (Nat.le_of_ble_eq_true rfl) (c_X4_rank_1 l dC dI cyI cyJ cyZ cyS ad tq ft n L mk pt ac far re tr tb un ky uk rd rk th wo 0 co pp de lo uw dr x y (by exact hN) (by first | assumption | omega))), (fwI_M6 (l := l) (dC := dC) (dI := dI) (cyI := cyI) (cyJ := cyJ) (cyZ := cyZ) (cyS := cyS) (ad := ad) (S := Unit) tq ft L n th wo mk pt rkm rs drm tp tj ra ul ro wt lom se pw sl fa pa dp ss sh hd (fun u => ft) (fun u => n) (fun u => L) (fun u => th) (fun u => rkm) (fun u => rs) (fun u => drm) (fun u => wo) (fun u => tq) (fun u => mk) (fun u => pt) (fun u => tp) (fun u => tj) (fun u => ra) (fun u => ul) (fun u => ro) (Nat.le_of_ble_eq_true rfl) (Nat.le_of_ble_eq_true rfl) (c_X5_rank_1 l dC dI cyI cyJ cyZ cyS ad ft n L th rkm rs drm wo tq mk pt tp tj ra ul ro x y (by first | exact hn | omega) (by first | assumption | omega))), fun r u r' u' h h' => ?_⟩
    try dsimp only at h
    try dsimp only at h'
    exact ⟨by rw [h, h'], JR.mk (hN) (hNR) (hth) (hF) (hK) (h0) (h1) (h2) (h3)⟩
set_option maxHeartbeats 4000000 in
set_option maxRecDepth 100000 in
theorem s_rest (l : Launch) (dC : Nat → ClassId) (dI : Nat → Nat → Nat) (cyI cyJ cyZ cyS : ClassId) (ad : Nat → Nat) (w1 w2 : va_W) (hJ : JR cyI cyJ cyZ cyS ad w1 w2)  : StpI l dC dI cyI cyJ cyZ cyS ad yX4_rest yX5_rest wsX4_rest wsX5_rest [] w1 w2 := by
  refine JR.elim (P := fun w1 w2 => StpI l dC dI cyI cyJ cyZ cyS ad yX4_rest yX5_rest wsX4_rest wsX5_rest [] w1 w2) hJ ?_
  intro tq ft L n th wo mk pt ac re tr tb un ky uk co lo uw far pp de rd rk dr t0 l0 z0 t1 l1 z1 t2 l2 z2 t3 l3 z3 c0 c1 c2 c3 rkm rs drm tp tj ra ul ro wt lom se pw sl fa pa dp ss sh hd hN hNR hth hF hK h0 h1 h2 h3
  have hn := hN.n12
  have hpt : ∀ p, p < n → pt p ≤ 6 := fun p hp => hN.p6 hp
  have hrk := hK.1
  have hkT := hK.2.1
  have hrkm := hK.2.2.1
  have hkM := hK.2.2.2
  have hwo := hF.1
  by_cases h00 : n = 0
  · skip
    refine ⟨_, _, _, _, _, _, (fwI_C1 (l := l) (dC := dC) (dI := dI) (cyI := cyI) (cyJ := cyJ) (cyZ := cyZ) (cyS := cyS) (ad := ad) (S := Unit) tq ft L n th wo mk pt ac re tr tb un ky uk co lo uw far pp de rd rk dr t0 l0 z0 t1 l1 z1 t2 l2 z2 t3 l3 z3 c0 c1 c2 c3 (fun u => tq) (fun u => ft) (fun u => n) (fun u => L) (fun u => mk) (fun u => pt) (fun u => ac) (fun u => far) (fun u => re) (fun u => tr) (fun u => rd) (fun u => rk) (fun u => tb) (fun u => un) (fun u => ky) (fun u => uk) (fun u => th) (fun u => wo) (fun u => dr) (fun u => co) (fun u => pp) (fun u => de) (fun u => lo) (fun u => uw) (Nat.le_of_ble_eq_true rfl) (Nat.le_of_ble_eq_true rfl) (c_X4_rest_1 l dC dI cyI cyJ cyZ cyS ad tq ft n L mk pt ac far re tr tb un ky uk rd rk th wo 0 co pp de lo uw dr (by first | exact hn | omega))), (fwI_M6 (l := l) (dC := dC) (dI := dI) (cyI := cyI) (cyJ := cyJ) (cyZ := cyZ) (cyS := cyS) (ad := ad) (S := Unit) tq ft L n th wo mk pt rkm rs drm tp tj ra ul ro wt lom se pw sl fa pa dp ss sh hd (fun u => ft) (fun u => n) (fun u => L) (fun u => th) (fun u => rkm) (fun u => rs) (fun u => drm) (fun u => wo) (fun u => tq) (fun u => mk) (fun u => pt) (fun u => tp) (fun u => tj) (fun u => ra) (fun u => ul) (fun u => ro) (Nat.le_of_ble_eq_true rfl) (Nat.le_of_ble_eq_true rfl) (c_X5_rest_1 l dC dI cyI cyJ cyZ cyS ad ft n L th rkm rs drm wo tq mk pt tp tj ra ul ro (by first | exact hn | omega))), fun r u r' u' h h' => ?_⟩
    try dsimp only at h
    try dsimp only at h'
    exact ⟨by rw [h, h'], JR.mk (hN) (hNR) (hth) (hF) (hK) (h0) (h1) (h2) (h3)⟩
  · have hn0 : 0 < n := by omega
    refine ⟨_, _, _, _, _, _, (fwI_C1 (l := l) (dC := dC) (dI := dI) (cyI := cyI) (cyJ := cyJ) (cyZ := cyZ) (cyS := cyS) (ad := ad) (S := (Nat → Nat) × (Nat → Nat) × (Nat → Nat) × (Nat → Nat) × Nat) tq ft L n th wo mk pt ac re tr tb un ky uk co lo uw far pp de rd rk dr t0 l0 z0 t1 l1 z1 t2 l2 z2 t3 l3 z3 c0 c1 c2 c3 (fun u => tq) (fun u => ft) (fun u => n) (fun u => L) (fun u => mk) (fun u => pt) (fun u => ac) (fun u => far) (fun u => re) (fun u => tr) (fun u => u.2.2.2.2) (fun u => 1) (fun u => u.1) (fun u => u.2.1) (fun u => u.2.2.1) (fun u => u.2.2.2.1) (fun u => th) (fun u => wo) (fun u => dr) (fun u => co) (fun u => pp) (fun u => de) (fun u => lo) (fun u => uw) (Nat.le_of_ble_eq_true rfl) (Nat.le_of_ble_eq_true rfl) (c_X4_rest_2 l dC dI cyI cyJ cyZ cyS ad tq ft n L mk pt ac far re tr tb un ky uk rd rk th wo 0 co pp de lo uw dr (by exact hN) (by first | assumption | omega) (by exact hrk) (by exact hkT))), (fwI_M6 (l := l) (dC := dC) (dI := dI) (cyI := cyI) (cyJ := cyJ) (cyZ := cyZ) (cyS := cyS) (ad := ad) (S := (Nat → Nat) × (Nat → Nat) × (Nat → Nat) × Nat) tq ft L n th wo mk pt rkm rs drm tp tj ra ul ro wt lom se pw sl fa pa dp ss sh hd (fun u => ft) (fun u => n) (fun u => L) (fun u => th) (fun u => 1) (fun u => nI (u.2.2.2)) (fun u => drm) (fun u => wo) (fun u => tq) (fun u => mk) (fun u => pt) (fun u => tp) (fun u => tj) (fun u => u.1) (fun u => u.2.1) (fun u => u.2.2.1) (Nat.le_of_ble_eq_true rfl) (Nat.le_of_ble_eq_true rfl) (c_X5_rest_2 l dC dI cyI cyJ cyZ cyS ad ft n L th rkm rs drm wo tq mk pt tp tj ra ul ro ac (by exact hN) (by exact hNR) (by exact hrkm) (by exact hkM) (by first | assumption | omega))), fun r u r' u' h h' => ?_⟩
    try dsimp only at h
    try dsimp only at h'
    obtain ⟨ra2, ul2, ro2, e2⟩ := u'
    obtain ⟨tb2, un2, ky2, uk2, rd2⟩ := u
    dsimp only at h h'
    obtain ⟨h', hM⟩ := h'
    obtain ⟨h, hT, -⟩ := h
    obtain ⟨te, t1, t2⟩ := tabs_eq hN hT hM
    subst te
    have he2 := hM.2.1
    exact ⟨by rw [h, h'], JR.mk (hN) (hNR) (hth) (hF) (RkR.yes hT hM) (h0) (h1) (h2) (h3)⟩
set_option maxHeartbeats 4000000 in
set_option maxRecDepth 100000 in
theorem s_ranks (l : Launch) (dC : Nat → ClassId) (dI : Nat → Nat → Nat) (cyI cyJ cyZ cyS : ClassId) (ad : Nat → Nat) (w1 w2 : va_W) (hJ : JR cyI cyJ cyZ cyS ad w1 w2) (y : Int32) : StpI l dC dI cyI cyJ cyZ cyS ad yX4_ranks yX5_ranks wsX4_ranks wsX5_ranks [.int y] w1 w2 := by
  refine JR.elim (P := fun w1 w2 => StpI l dC dI cyI cyJ cyZ cyS ad yX4_ranks yX5_ranks wsX4_ranks wsX5_ranks [.int y] w1 w2) hJ ?_
  intro tq ft L n th wo mk pt ac re tr tb un ky uk co lo uw far pp de rd rk dr t0 l0 z0 t1 l1 z1 t2 l2 z2 t3 l3 z3 c0 c1 c2 c3 rkm rs drm tp tj ra ul ro wt lom se pw sl fa pa dp ss sh hd hN hNR hth hF hK h0 h1 h2 h3
  have hn := hN.n12
  have hpt : ∀ p, p < n → pt p ≤ 6 := fun p hp => hN.p6 hp
  have hrk := hK.1
  have hkT := hK.2.1
  have hrkm := hK.2.2.1
  have hkM := hK.2.2.2
  have hwo := hF.1
  by_cases hy : vp_in y 21
  · obtain ⟨d, hdd, rfl⟩ := vp_in_of hy (by decide)
    refine ⟨_, _, _, _, _, _, (fwI_C1 (l := l) (dC := dC) (dI := dI) (cyI := cyI) (cyJ := cyJ) (cyZ := cyZ) (cyS := cyS) (ad := ad) (S := (Nat → Nat) × (Nat → Nat) × (Nat → Nat) × (Nat → Nat) × Nat) tq ft L n th wo mk pt ac re tr tb un ky uk co lo uw far pp de rd rk dr t0 l0 z0 t1 l1 z1 t2 l2 z2 t3 l3 z3 c0 c1 c2 c3 (fun u => tq) (fun u => ft) (fun u => n) (fun u => L) (fun u => mk) (fun u => pt) (fun u => ac) (fun u => far) (fun u => re) (fun u => tr) (fun u => u.2.2.2.2) (fun u => 1) (fun u => u.1) (fun u => u.2.1) (fun u => u.2.2.1) (fun u => u.2.2.2.1) (fun u => th) (fun u => wo) (fun u => dr) (fun u => co) (fun u => pp) (fun u => de) (fun u => lo) (fun u => uw) (Nat.le_of_ble_eq_true rfl) (Nat.le_of_ble_eq_true rfl) (c_X4_ranks_2 l dC dI cyI cyJ cyZ cyS ad tq ft n L mk pt ac far re tr tb un ky uk rd rk th wo 0 co pp de lo uw dr (by exact hN) d (by first | assumption | omega) (by exact hrk) (by exact hkT))), (fwI_M6 (l := l) (dC := dC) (dI := dI) (cyI := cyI) (cyJ := cyJ) (cyZ := cyZ) (cyS := cyS) (ad := ad) (S := (Nat → Nat) × (Nat → Nat) × (Nat → Nat) × Nat) tq ft L n th wo mk pt rkm rs drm tp tj ra ul ro wt lom se pw sl fa pa dp ss sh hd (fun u => ft) (fun u => n) (fun u => L) (fun u => th) (fun u => 1) (fun u => nI (u.2.2.2)) (fun u => drm) (fun u => wo) (fun u => tq) (fun u => mk) (fun u => pt) (fun u => tp) (fun u => tj) (fun u => u.1) (fun u => u.2.1) (fun u => u.2.2.1) (Nat.le_of_ble_eq_true rfl) (Nat.le_of_ble_eq_true rfl) (c_X5_ranks_2 l dC dI cyI cyJ cyZ cyS ad ft n L th rkm rs drm wo tq mk pt tp tj ra ul ro ac (by exact hN) (by exact hNR) (by exact hrkm) (by exact hkM) d (by first | assumption | omega))), fun r u r' u' h h' => ?_⟩
    try dsimp only at h
    try dsimp only at h'
    obtain ⟨ra2, ul2, ro2, e2⟩ := u'
    obtain ⟨tb2, un2, ky2, uk2, rd2⟩ := u
    dsimp only at h h'
    obtain ⟨h', hM⟩ := h'
    obtain ⟨h, hT, -⟩ := h
    obtain ⟨te, t1, t2⟩ := tabs_eq hN hT hM
    subst te
    have he2 := hM.2.1
    exact ⟨by rw [h, h', t2 d (by omega)], JR.mk (hN) (hNR) (hth) (hF) (RkR.yes hT hM) (h0) (h1) (h2) (h3)⟩
  · skip
    refine ⟨_, _, _, _, _, _, (fwI_C1 (l := l) (dC := dC) (dI := dI) (cyI := cyI) (cyJ := cyJ) (cyZ := cyZ) (cyS := cyS) (ad := ad) (S := Unit) tq ft L n th wo mk pt ac re tr tb un ky uk co lo uw far pp de rd rk dr t0 l0 z0 t1 l1 z1 t2 l2 z2 t3 l3 z3 c0 c1 c2 c3 (fun u => tq) (fun u => ft) (fun u => n) (fun u => L) (fun u => mk) (fun u => pt) (fun u => ac) (fun u => far) (fun u => re) (fun u => tr) (fun u => rd) (fun u => rk) (fun u => tb) (fun u => un) (fun u => ky) (fun u => uk) (fun u => th) (fun u => wo) (fun u => dr) (fun u => co) (fun u => pp) (fun u => de) (fun u => lo) (fun u => uw) (Nat.le_of_ble_eq_true rfl) (Nat.le_of_ble_eq_true rfl) (c_X4_ranks_1 l dC dI cyI cyJ cyZ cyS ad tq ft n L mk pt ac far re tr tb un ky uk rd rk th wo 0 co pp de lo uw dr y (by first | assumption | omega))), (fwI_M6 (l := l) (dC := dC) (dI := dI) (cyI := cyI) (cyJ := cyJ) (cyZ := cyZ) (cyS := cyS) (ad := ad) (S := Unit) tq ft L n th wo mk pt rkm rs drm tp tj ra ul ro wt lom se pw sl fa pa dp ss sh hd (fun u => ft) (fun u => n) (fun u => L) (fun u => th) (fun u => rkm) (fun u => rs) (fun u => drm) (fun u => wo) (fun u => tq) (fun u => mk) (fun u => pt) (fun u => tp) (fun u => tj) (fun u => ra) (fun u => ul) (fun u => ro) (Nat.le_of_ble_eq_true rfl) (Nat.le_of_ble_eq_true rfl) (c_X5_ranks_1 l dC dI cyI cyJ cyZ cyS ad ft n L th rkm rs drm wo tq mk pt tp tj ra ul ro y (by first | assumption | omega))), fun r u r' u' h h' => ?_⟩
    try dsimp only at h
    try dsimp only at h'
    exact ⟨by rw [h, h'], JR.mk (hN) (hNR) (hth) (hF) (hK) (h0) (h1) (h2) (h3)⟩
set_option maxHeartbeats 4000000 in
set_option maxRecDepth 100000 in
theorem s_apart (l : Launch) (dC : Nat → ClassId) (dI : Nat → Nat → Nat) (cyI cyJ cyZ cyS : ClassId) (ad : Nat → Nat) (w1 w2 : va_W) (hJ : JR cyI cyJ cyZ cyS ad w1 w2) (x y : Int32) : StpI l dC dI cyI cyJ cyZ cyS ad yX4_apart yX5_apart wsX4_apart wsX5_apart [.int x, .int y] w1 w2 := by
  refine JR.elim (P := fun w1 w2 => StpI l dC dI cyI cyJ cyZ cyS ad yX4_apart yX5_apart wsX4_apart wsX5_apart [.int x, .int y] w1 w2) hJ ?_
  intro tq ft L n th wo mk pt ac re tr tb un ky uk co lo uw far pp de rd rk dr t0 l0 z0 t1 l1 z1 t2 l2 z2 t3 l3 z3 c0 c1 c2 c3 rkm rs drm tp tj ra ul ro wt lom se pw sl fa pa dp ss sh hd hN hNR hth hF hK h0 h1 h2 h3
  have hn := hN.n12
  have hpt : ∀ p, p < n → pt p ≤ 6 := fun p hp => hN.p6 hp
  have hrk := hK.1
  have hkT := hK.2.1
  have hrkm := hK.2.2.1
  have hkM := hK.2.2.2
  have hwo := hF.1
  by_cases hx : vp_in x n
  · obtain ⟨a, ha, rfl⟩ := vp_in_of hx (by omega)
    by_cases hy : vp_in y n
    · obtain ⟨b, hb, rfl⟩ := vp_in_of hy (by omega)
      refine ⟨_, _, _, _, _, _, (fwI_C1 (l := l) (dC := dC) (dI := dI) (cyI := cyI) (cyJ := cyJ) (cyZ := cyZ) (cyS := cyS) (ad := ad) (S := (Nat → Nat) × (Nat → Nat) × (Nat → Nat) × (Nat → Nat) × Nat) tq ft L n th wo mk pt ac re tr tb un ky uk co lo uw far pp de rd rk dr t0 l0 z0 t1 l1 z1 t2 l2 z2 t3 l3 z3 c0 c1 c2 c3 (fun u => tq) (fun u => ft) (fun u => n) (fun u => L) (fun u => mk) (fun u => pt) (fun u => ac) (fun u => far) (fun u => re) (fun u => tr) (fun u => u.2.2.2.2) (fun u => 1) (fun u => u.1) (fun u => u.2.1) (fun u => u.2.2.1) (fun u => u.2.2.2.1) (fun u => th) (fun u => wo) (fun u => dr) (fun u => co) (fun u => pp) (fun u => de) (fun u => lo) (fun u => uw) (Nat.le_of_ble_eq_true rfl) (Nat.le_of_ble_eq_true rfl) (c_X4_apart_3 l dC dI cyI cyJ cyZ cyS ad tq ft n L mk pt ac far re tr tb un ky uk rd rk th wo 0 co pp de lo uw dr a (by exact hN) (by first | assumption | omega) b (by first | assumption | omega) (by exact hrk) (by exact hkT))), (fwI_M6 (l := l) (dC := dC) (dI := dI) (cyI := cyI) (cyJ := cyJ) (cyZ := cyZ) (cyS := cyS) (ad := ad) (S := (Nat → Nat) × (Nat → Nat) × (Nat → Nat) × Nat) tq ft L n th wo mk pt rkm rs drm tp tj ra ul ro wt lom se pw sl fa pa dp ss sh hd (fun u => ft) (fun u => n) (fun u => L) (fun u => th) (fun u => 1) (fun u => nI (u.2.2.2)) (fun u => drm) (fun u => wo) (fun u => tq) (fun u => mk) (fun u => pt) (fun u => tp) (fun u => tj) (fun u => u.1) (fun u => u.2.1) (fun u => u.2.2.1) (Nat.le_of_ble_eq_true rfl) (Nat.le_of_ble_eq_true rfl) (c_X5_apart_3 l dC dI cyI cyJ cyZ cyS ad ft n L th rkm rs drm wo tq mk pt tp tj ra ul ro ac (by exact hN) (by exact hNR) (by exact hrkm) (by exact hkM) a (by first | assumption | omega) b (by first | assumption | omega))), fun r u r' u' h h' => ?_⟩
      try dsimp only at h
      try dsimp only at h'
      obtain ⟨ra2, ul2, ro2, e2⟩ := u'
      obtain ⟨tb2, un2, ky2, uk2, rd2⟩ := u
      dsimp only at h h'
      obtain ⟨h', hM⟩ := h'
      obtain ⟨h, hT, -⟩ := h
      obtain ⟨te, t1, t2⟩ := tabs_eq hN hT hM
      subst te
      have he2 := hM.2.1
      have t3 : ∀ d, d ≤ e2 → ∀ p, p < n → ra2 (12 * d + p) = tb2 (d * 12 + p) := fun d hd p hp => by rw [t1 d (by omega) p hp, Nat.min_eq_left hd]
      have hq : r = r' := by
        rcases h with ⟨d, a1, a2, a3, a4⟩ | ⟨a2, a4⟩ <;> rcases h' with ⟨d', b1, b2, b3, b4⟩ | ⟨b2, b4⟩
        · rw [a2, b2]
          rw [t3 _ b1 _ ha, t3 _ b1 _ hb] at b3
          rcases Nat.lt_trichotomy d d' with z | z | z
          · have := b4 d z; rw [t3 _ a1 _ ha, t3 _ a1 _ hb] at this; exact absurd this a3
          · rw [z]
          · exact absurd (a4 d' z) b3
        · have := b4 d a1; rw [t3 _ a1 _ ha, t3 _ a1 _ hb] at this; exact absurd this a3
        · rw [t3 _ b1 _ ha, t3 _ b1 _ hb] at b3; exact absurd (a4 d' b1) b3
        · rw [a2, b2]
      exact ⟨hq, JR.mk (hN) (hNR) (hth) (hF) (RkR.yes hT hM) (h0) (h1) (h2) (h3)⟩
    · skip
      refine ⟨_, _, _, _, _, _, (fwI_C1 (l := l) (dC := dC) (dI := dI) (cyI := cyI) (cyJ := cyJ) (cyZ := cyZ) (cyS := cyS) (ad := ad) (S := Unit) tq ft L n th wo mk pt ac re tr tb un ky uk co lo uw far pp de rd rk dr t0 l0 z0 t1 l1 z1 t2 l2 z2 t3 l3 z3 c0 c1 c2 c3 (fun u => tq) (fun u => ft) (fun u => n) (fun u => L) (fun u => mk) (fun u => pt) (fun u => ac) (fun u => far) (fun u => re) (fun u => tr) (fun u => rd) (fun u => rk) (fun u => tb) (fun u => un) (fun u => ky) (fun u => uk) (fun u => th) (fun u => wo) (fun u => dr) (fun u => co) (fun u => pp) (fun u => de) (fun u => lo) (fun u => uw) (Nat.le_of_ble_eq_true rfl) (Nat.le_of_ble_eq_true rfl) (c_X4_apart_2 l dC dI cyI cyJ cyZ cyS ad tq ft n L mk pt ac far re tr tb un ky uk rd rk th wo 0 co pp de lo uw dr a (by exact hN) (by first | assumption | omega) y (by first | assumption | omega))), (fwI_M6 (l := l) (dC := dC) (dI := dI) (cyI := cyI) (cyJ := cyJ) (cyZ := cyZ) (cyS := cyS) (ad := ad) (S := Unit) tq ft L n th wo mk pt rkm rs drm tp tj ra ul ro wt lom se pw sl fa pa dp ss sh hd (fun u => ft) (fun u => n) (fun u => L) (fun u => th) (fun u => rkm) (fun u => rs) (fun u => drm) (fun u => wo) (fun u => tq) (fun u => mk) (fun u => pt) (fun u => tp) (fun u => tj) (fun u => ra) (fun u => ul) (fun u => ro) (Nat.le_of_ble_eq_true rfl) (Nat.le_of_ble_eq_true rfl) (c_X5_apart_2 l dC dI cyI cyJ cyZ cyS ad ft n L th rkm rs drm wo tq mk pt tp tj ra ul ro a y (by first | exact hn | omega) (by first | assumption | omega) (by first | assumption | omega))), fun r u r' u' h h' => ?_⟩
      try dsimp only at h
      try dsimp only at h'
      exact ⟨by rw [h, h'], JR.mk (hN) (hNR) (hth) (hF) (hK) (h0) (h1) (h2) (h3)⟩
  · skip
    refine ⟨_, _, _, _, _, _, (fwI_C1 (l := l) (dC := dC) (dI := dI) (cyI := cyI) (cyJ := cyJ) (cyZ := cyZ) (cyS := cyS) (ad := ad) (S := Unit) tq ft L n th wo mk pt ac re tr tb un ky uk co lo uw far pp de rd rk dr t0 l0 z0 t1 l1 z1 t2 l2 z2 t3 l3 z3 c0 c1 c2 c3 (fun u => tq) (fun u => ft) (fun u => n) (fun u => L) (fun u => mk) (fun u => pt) (fun u => ac) (fun u => far) (fun u => re) (fun u => tr) (fun u => rd) (fun u => rk) (fun u => tb) (fun u => un) (fun u => ky) (fun u => uk) (fun u => th) (fun u => wo) (fun u => dr) (fun u => co) (fun u => pp) (fun u => de) (fun u => lo) (fun u => uw) (Nat.le_of_ble_eq_true rfl) (Nat.le_of_ble_eq_true rfl) (c_X4_apart_1 l dC dI cyI cyJ cyZ cyS ad tq ft n L mk pt ac far re tr tb un ky uk rd rk th wo 0 co pp de lo uw dr x y (by exact hN) (by first | assumption | omega))), (fwI_M6 (l := l) (dC := dC) (dI := dI) (cyI := cyI) (cyJ := cyJ) (cyZ := cyZ) (cyS := cyS) (ad := ad) (S := Unit) tq ft L n th wo mk pt rkm rs drm tp tj ra ul ro wt lom se pw sl fa pa dp ss sh hd (fun u => ft) (fun u => n) (fun u => L) (fun u => th) (fun u => rkm) (fun u => rs) (fun u => drm) (fun u => wo) (fun u => tq) (fun u => mk) (fun u => pt) (fun u => tp) (fun u => tj) (fun u => ra) (fun u => ul) (fun u => ro) (Nat.le_of_ble_eq_true rfl) (Nat.le_of_ble_eq_true rfl) (c_X5_apart_1 l dC dI cyI cyJ cyZ cyS ad ft n L th rkm rs drm wo tq mk pt tp tj ra ul ro x y (by first | exact hn | omega) (by first | assumption | omega))), fun r u r' u' h h' => ?_⟩
    try dsimp only at h
    try dsimp only at h'
    exact ⟨by rw [h, h'], JR.mk (hN) (hNR) (hth) (hF) (hK) (h0) (h1) (h2) (h3)⟩
set_option maxHeartbeats 4000000 in
set_option maxRecDepth 100000 in
theorem s_chosen (l : Launch) (dC : Nat → ClassId) (dI : Nat → Nat → Nat) (cyI cyJ cyZ cyS : ClassId) (ad : Nat → Nat) (w1 w2 : va_W) (hJ : JR cyI cyJ cyZ cyS ad w1 w2)  : StpI l dC dI cyI cyJ cyZ cyS ad yX4_chosen yX5_chosen wsX4_chosen wsX5_chosen [] w1 w2 := by
  refine JR.elim (P := fun w1 w2 => StpI l dC dI cyI cyJ cyZ cyS ad yX4_chosen yX5_chosen wsX4_chosen wsX5_chosen [] w1 w2) hJ ?_
  intro tq ft L n th wo mk pt ac re tr tb un ky uk co lo uw far pp de rd rk dr t0 l0 z0 t1 l1 z1 t2 l2 z2 t3 l3 z3 c0 c1 c2 c3 rkm rs drm tp tj ra ul ro wt lom se pw sl fa pa dp ss sh hd hN hNR hth hF hK h0 h1 h2 h3
  have hn := hN.n12
  have hpt : ∀ p, p < n → pt p ≤ 6 := fun p hp => hN.p6 hp
  have hrk := hK.1
  have hkT := hK.2.1
  have hrkm := hK.2.2.1
  have hkM := hK.2.2.2
  have hwo := hF.1
  refine ⟨_, _, _, _, _, _, (fwI_C1 (l := l) (dC := dC) (dI := dI) (cyI := cyI) (cyJ := cyJ) (cyZ := cyZ) (cyS := cyS) (ad := ad) (S := (Nat → Int32) × (Nat → Nat) × (Nat → Nat) × (Nat → Nat) × (Nat → Nat) × (Nat → Nat) × Nat × Nat) tq ft L n th wo mk pt ac re tr tb un ky uk co lo uw far pp de rd rk dr t0 l0 z0 t1 l1 z1 t2 l2 z2 t3 l3 z3 c0 c1 c2 c3 (fun u => tq) (fun u => ft) (fun u => n) (fun u => L) (fun u => mk) (fun u => pt) (fun u => ac) (fun u => u.1) (fun u => u.2.1) (fun u => tr) (fun u => u.2.2.2.2.2.2.1) (fun u => u.2.2.2.2.2.2.2) (fun u => u.2.2.1) (fun u => u.2.2.2.1) (fun u => u.2.2.2.2.1) (fun u => u.2.2.2.2.2.1) (fun u => th) (fun u => wo) (fun u => dr) (fun u => co) (fun u => pp) (fun u => de) (fun u => lo) (fun u => uw) (Nat.le_of_ble_eq_true rfl) (Nat.le_of_ble_eq_true rfl) (c_X4_chosen_ l dC dI cyI cyJ cyZ cyS ad tq ft n L mk pt ac far re tr tb un ky uk rd rk th wo 0 co pp de lo uw dr (by exact hN) (by exact hrk) (by exact hkT))), (fwI_M4 (l := l) (dC := dC) (dI := dI) (cyI := cyI) (cyJ := cyJ) (cyZ := cyZ) (cyS := cyS) (ad := ad) (S := (Nat → Int32) × (Nat → Nat) × (Nat → Nat) × (Nat → Nat) × Int32 × Nat) tq ft L n th wo mk pt rkm rs drm tp tj ra ul ro wt lom se pw sl fa pa dp ss sh hd (fun u => ft) (fun u => n) (fun u => L) (fun u => th) (fun u => u.2.2.2.2.2) (fun u => u.2.2.2.2.1) (fun u => drm) (fun u => wo) (fun u => tq) (fun u => mk) (fun u => pt) (fun u => tp) (fun u => tj) (fun u => u.1) (fun u => u.2.1) (fun u => u.2.2.1) (fun u => u.2.2.2.1) (Nat.le_of_ble_eq_true rfl) (Nat.le_of_ble_eq_true rfl) (c_X5_chosen_ l dC dI cyI cyJ cyZ cyS ad ft n L th rkm rs drm wo tq mk pt tp tj fa ra ul ro ac (by exact hN) (by exact hNR) (by exact hrkm) (by exact hkM))), fun r u r' u' h h' => ?_⟩
  try dsimp only at h
  try dsimp only at h'
  obtain ⟨far2, re2, tb2, un2, ky2, uk2, rd2, rk2⟩ := u
  obtain ⟨fa2, ra2, ul2, ro2, rs2, rk3⟩ := u'
  dsimp only at h h'
  obtain ⟨h, hFo⟩ := h
  obtain ⟨h', hR⟩ := h'
  have hc : cntR fa2 n = cntR far2 n := cntR_congr (RI.eq hn hFo hR)
  rw [hc] at h'
  rcases h with ⟨z, a1, rfl, rfl, rfl, rfl⟩ | ⟨z, rfl, hT, hz⟩
  · rcases h' with ⟨-, b1, rfl, rfl, rfl, rfl⟩ | ⟨z', -⟩
    · exact ⟨by rw [a1, b1], JR.mk hN hNR hth hF hK h0 h1 h2 h3⟩
    · exact absurd z' z
  · rcases h' with ⟨z', -⟩ | ⟨-, rfl, e2, rfl, hM, hz'⟩
    · exact absurd z z'
    · obtain ⟨te, t1, t2⟩ := tabs_eq hN hT hM
      subst te
      have he2 := hM.2.1
      have t3 : ∀ p, p < n → ra2 (12 * e2 + p) = tb2 (e2 * 12 + p) := fun p hp => by rw [t1 e2 (by omega) p hp, Nat.min_self]
      have t4 : ul2 e2 = un2 e2 := by rw [t2 e2 (by omega), Nat.min_self]
      have hm : min 20 e2 = e2 := Nat.min_eq_right he2
      have hu := (hM.1 e2 (by omega)).1
      rw [hm, ← t4] at hz
      refine ⟨?_, JR.mk hN hNR hth hF (RkR.yes hT hM) h0 h1 h2 h3⟩
      rcases hz with ⟨y1, y2⟩ | ⟨y1, y2⟩ <;> rcases hz' with ⟨x1, x2⟩ | ⟨x1, p, x2, x3, x4, x5⟩
      · rw [y2, x2]
      · omega
      · omega
      · rcases y2 with ⟨q, q1, q2, q3, q4⟩ | ⟨-, q4⟩
        · rw [q2, x3]
          rcases Nat.lt_trichotomy q p with w | w | w
          · exact absurd (by rw [t3 q q1]; exact q3) (x5 q w)
          · rw [w]
          · exact absurd (by rw [← t3 p x2]; exact x4) (q4 p w)
        · exact absurd (by rw [← t3 p x2]; exact x4) (q4 p x2)
