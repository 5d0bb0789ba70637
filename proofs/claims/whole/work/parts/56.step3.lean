set_option maxHeartbeats 4000000 in
set_option maxRecDepth 100000 in
theorem s_flood (l : Launch) (dC : Nat → ClassId) (dI : Nat → Nat → Nat) (cyI cyJ cyZ cyS : ClassId) (ad : Nat → Nat) (w1 w2 : va_W) (hJ : JR cyI cyJ cyZ cyS ad w1 w2) (x : Int32) (sd : Int64) : StpI l dC dI cyI cyJ cyZ cyS ad yX4_flood yX5_flood wsX4_flood wsX5_flood [.int x, .long sd] w1 w2 := by
  refine JR.elim (P := fun w1 w2 => StpI l dC dI cyI cyJ cyZ cyS ad yX4_flood yX5_flood wsX4_flood wsX5_flood [.int x, .long sd] w1 w2) hJ ?_
  intro tq ft L n th wo mk pt ac re tr tb un ky uk co lo uw far pp de rd rk dr t0 l0 z0 t1 l1 z1 t2 l2 z2 t3 l3 z3 c0 c1 c2 c3 rkm rs drm tp tj ra ul ro wt lom se pw sl fa pa dp ss sh hd hN hNR hth hF hK h0 h1 h2 h3
  have hn := hN.n12
  have hpt : ∀ p, p < n → pt p ≤ 6 := fun p hp => hN.p6 hp
  have hrk := hK.1
  have hkT := hK.2.1
  have hrkm := hK.2.2.1
  have hkM := hK.2.2.2
  have hwo := hF.1
  by_cases hx : vp_in x n
  · obtain ⟨a, ha, rfl⟩ := vp_in_of hx (by omega)
    refine ⟨_, _, _, _, _, _, (fwI_C1 (l := l) (dC := dC) (dI := dI) (cyI := cyI) (cyJ := cyJ) (cyZ := cyZ) (cyS := cyS) (ad := ad) (S := Nat × (Nat → Nat) × (Nat → Int32) × (Nat → Int32) × (Nat → Nat) × (Nat → Nat) × Int64) tq ft L n th wo mk pt ac re tr tb un ky uk co lo uw far pp de rd rk dr t0 l0 z0 t1 l1 z1 t2 l2 z2 t3 l3 z3 c0 c1 c2 c3 (fun u => tq) (fun u => ft) (fun u => n) (fun u => L) (fun u => mk) (fun u => pt) (fun u => ac) (fun u => far) (fun u => re) (fun u => tr) (fun u => rd) (fun u => rk) (fun u => tb) (fun u => un) (fun u => ky) (fun u => uk) (fun u => 1) (fun u => u.1) (fun u => u.2.2.2.2.2.2) (fun u => u.2.1) (fun u => u.2.2.1) (fun u => u.2.2.2.1) (fun u => u.2.2.2.2.1) (fun u => u.2.2.2.2.2.1) (Nat.le_of_ble_eq_true rfl) (Nat.le_of_ble_eq_true rfl) (c_X4_flood_2 l dC dI cyI cyJ cyZ cyS ad tq ft n L mk pt ac far re tr tb un ky uk rd rk th wo co pp de lo uw dr a sd (by exact hN) (by first | assumption | omega) (by exact hF.2.1))), (fwI_M7 (l := l) (dC := dC) (dI := dI) (cyI := cyI) (cyJ := cyJ) (cyZ := cyZ) (cyS := cyS) (ad := ad) (S := Nat × (Nat → Nat) × (Nat → Int32) × (Nat → Int32) × (Nat → Nat) × (Nat → Nat) × Int64) tq ft L n th wo mk pt rkm rs drm tp tj ra ul ro wt lom se pw sl fa pa dp ss sh hd (fun u => ft) (fun u => n) (fun u => L) (fun u => 1) (fun u => rkm) (fun u => rs) (fun u => u.2.2.2.2.2.2) (fun u => u.1) (fun u => tq) (fun u => pt) (fun u => tp) (fun u => tj) (fun u => u.2.1) (fun u => u.2.2.1) (fun u => u.2.2.2.1) (fun u => u.2.2.2.2.1) (fun u => u.2.2.2.2.2.1) (Nat.le_of_ble_eq_true rfl) (Nat.le_of_ble_eq_true rfl) (c_X5_flood_2 l dC dI cyI cyJ cyZ cyS ad ft n L th rkm rs drm wo tq pt tp tj wt pa dp lom se a sd mk ac (by exact hN) (by exact hNR) (by first | assumption | omega))), fun r u r' u' h h' => ?_⟩
    try dsimp only at h
    try dsimp only at h'
    obtain ⟨wo2, co2, pp2, de2, lo2, uw2, dr2⟩ := u
    obtain ⟨wo3, wt3, pa3, dp3, lo3, se3, dr3⟩ := u'
    dsimp only at h h'
    obtain ⟨h, f1⟩ := h
    obtain ⟨h', f2⟩ := h'
    obtain ⟨rfl, f3⟩ := fl_same f1 f2
    exact ⟨by rw [h, h'], JR.mk (hN) (hNR) (Nat.le_refl _) (f3) (hK) (h0) (h1) (h2) (h3)⟩
  · skip
    refine ⟨_, _, _, _, _, _, (fwI_C1 (l := l) (dC := dC) (dI := dI) (cyI := cyI) (cyJ := cyJ) (cyZ := cyZ) (cyS := cyS) (ad := ad) (S := Unit) tq ft L n th wo mk pt ac re tr tb un ky uk co lo uw far pp de rd rk dr t0 l0 z0 t1 l1 z1 t2 l2 z2 t3 l3 z3 c0 c1 c2 c3 (fun u => tq) (fun u => ft) (fun u => n) (fun u => L) (fun u => mk) (fun u => pt) (fun u => ac) (fun u => far) (fun u => re) (fun u => tr) (fun u => rd) (fun u => rk) (fun u => tb) (fun u => un) (fun u => ky) (fun u => uk) (fun u => th) (fun u => wo) (fun u => dr) (fun u => co) (fun u => pp) (fun u => de) (fun u => lo) (fun u => uw) (Nat.le_of_ble_eq_true rfl) (Nat.le_of_ble_eq_true rfl) (c_X4_flood_1 l dC dI cyI cyJ cyZ cyS ad tq ft n L mk pt ac far re tr tb un ky uk rd rk th wo co pp de lo uw dr x sd (by exact hN) (by first | assumption | omega))), (fwI_M7 (l := l) (dC := dC) (dI := dI) (cyI := cyI) (cyJ := cyJ) (cyZ := cyZ) (cyS := cyS) (ad := ad) (S := Unit) tq ft L n th wo mk pt rkm rs drm tp tj ra ul ro wt lom se pw sl fa pa dp ss sh hd (fun u => ft) (fun u => n) (fun u => L) (fun u => th) (fun u => rkm) (fun u => rs) (fun u => drm) (fun u => wo) (fun u => tq) (fun u => pt) (fun u => tp) (fun u => tj) (fun u => wt) (fun u => pa) (fun u => dp) (fun u => lom) (fun u => se) (Nat.le_of_ble_eq_true rfl) (Nat.le_of_ble_eq_true rfl) (c_X5_flood_1 l dC dI cyI cyJ cyZ cyS ad ft n L th rkm rs drm wo tq pt tp tj wt pa dp lom se x sd (by first | exact hn | omega) (by first | assumption | omega))), fun r u r' u' h h' => ?_⟩
    try dsimp only at h
    try dsimp only at h'
    exact ⟨by rw [h, h'], JR.mk (hN) (hNR) (hth) (hF) (hK) (h0) (h1) (h2) (h3)⟩
set_option maxHeartbeats 4000000 in
set_option maxRecDepth 100000 in
theorem s_flooded (l : Launch) (dC : Nat → ClassId) (dI : Nat → Nat → Nat) (cyI cyJ cyZ cyS : ClassId) (ad : Nat → Nat) (w1 w2 : va_W) (hJ : JR cyI cyJ cyZ cyS ad w1 w2) (x y : Int32) : StpI l dC dI cyI cyJ cyZ cyS ad yX4_flooded yX5_flooded wsX4_flooded wsX5_flooded [.int x, .int y] w1 w2 := by
  refine JR.elim (P := fun w1 w2 => StpI l dC dI cyI cyJ cyZ cyS ad yX4_flooded yX5_flooded wsX4_flooded wsX5_flooded [.int x, .int y] w1 w2) hJ ?_
  intro tq ft L n th wo mk pt ac re tr tb un ky uk co lo uw far pp de rd rk dr t0 l0 z0 t1 l1 z1 t2 l2 z2 t3 l3 z3 c0 c1 c2 c3 rkm rs drm tp tj ra ul ro wt lom se pw sl fa pa dp ss sh hd hN hNR hth hF hK h0 h1 h2 h3
  have hn := hN.n12
  have hpt : ∀ p, p < n → pt p ≤ 6 := fun p hp => hN.p6 hp
  have hrk := hK.1
  have hkT := hK.2.1
  have hrkm := hK.2.2.1
  have hkM := hK.2.2.2
  have hwo := hF.1
  by_cases hf : th = 0
  · skip
    refine ⟨_, _, _, _, _, _, (fwI_C1 (l := l) (dC := dC) (dI := dI) (cyI := cyI) (cyJ := cyJ) (cyZ := cyZ) (cyS := cyS) (ad := ad) (S := Unit) tq ft L n th wo mk pt ac re tr tb un ky uk co lo uw far pp de rd rk dr t0 l0 z0 t1 l1 z1 t2 l2 z2 t3 l3 z3 c0 c1 c2 c3 (fun u => tq) (fun u => ft) (fun u => n) (fun u => L) (fun u => mk) (fun u => pt) (fun u => ac) (fun u => far) (fun u => re) (fun u => tr) (fun u => rd) (fun u => rk) (fun u => tb) (fun u => un) (fun u => ky) (fun u => uk) (fun u => th) (fun u => wo) (fun u => dr) (fun u => co) (fun u => pp) (fun u => de) (fun u => lo) (fun u => uw) (Nat.le_of_ble_eq_true rfl) (Nat.le_of_ble_eq_true rfl) (c_X4_flooded_1 l dC dI cyI cyJ cyZ cyS ad tq ft n L mk pt ac far re tr tb un ky uk rd rk th wo 0 co pp de lo uw dr x y (by first | assumption | omega))), (fwI_M8 (l := l) (dC := dC) (dI := dI) (cyI := cyI) (cyJ := cyJ) (cyZ := cyZ) (cyS := cyS) (ad := ad) (S := Unit) tq ft L n th wo mk pt rkm rs drm tp tj ra ul ro wt lom se pw sl fa pa dp ss sh hd (fun u => ft) (fun u => n) (fun u => L) (fun u => th) (fun u => rkm) (fun u => rs) (fun u => drm) (fun u => wo) (fun u => tq) (fun u => wt) (fun u => pa) (fun u => dp) (fun u => lom) (Nat.le_of_ble_eq_true rfl) (Nat.le_of_ble_eq_true rfl) (c_X5_flooded_1 l dC dI cyI cyJ cyZ cyS ad ft n L th rkm rs drm wo tq wt pa dp lom x y (by first | assumption | omega))), fun r u r' u' h h' => ?_⟩
    try dsimp only at h
    try dsimp only at h'
    exact ⟨by rw [h, h'], JR.mk (hN) (hNR) (hth) (hF) (hK) (h0) (h1) (h2) (h3)⟩
  · have hf1 : th = 1 := by omega
    by_cases hx : vp_in x n
    · obtain ⟨a, ha, rfl⟩ := vp_in_of hx (by omega)
      obtain ⟨f1, f2, f3⟩ := hF.2.2.2 a (by omega)
      by_cases hw0 : vp_in y 3
      · obtain ⟨k, hk, rfl⟩ := vp_in_of hw0 (by decide)
        obtain rfl | rfl | rfl : k = 0 ∨ k = 1 ∨ k = 2 := by omega
        · skip
          refine ⟨_, _, _, _, _, _, (fwI_C1 (l := l) (dC := dC) (dI := dI) (cyI := cyI) (cyJ := cyJ) (cyZ := cyZ) (cyS := cyS) (ad := ad) (S := Unit) tq ft L n th wo mk pt ac re tr tb un ky uk co lo uw far pp de rd rk dr t0 l0 z0 t1 l1 z1 t2 l2 z2 t3 l3 z3 c0 c1 c2 c3 (fun u => tq) (fun u => ft) (fun u => n) (fun u => L) (fun u => mk) (fun u => pt) (fun u => ac) (fun u => far) (fun u => re) (fun u => tr) (fun u => rd) (fun u => rk) (fun u => tb) (fun u => un) (fun u => ky) (fun u => uk) (fun u => th) (fun u => wo) (fun u => dr) (fun u => co) (fun u => pp) (fun u => de) (fun u => lo) (fun u => uw) (Nat.le_of_ble_eq_true rfl) (Nat.le_of_ble_eq_true rfl) (c_X4_flooded_3 l dC dI cyI cyJ cyZ cyS ad tq ft n L mk pt ac far re tr tb un ky uk rd rk th wo 0 co pp de lo uw dr a (by first | assumption | omega) (by first | exact hn | omega) (by first | assumption | omega))), (fwI_M8 (l := l) (dC := dC) (dI := dI) (cyI := cyI) (cyJ := cyJ) (cyZ := cyZ) (cyS := cyS) (ad := ad) (S := Unit) tq ft L n th wo mk pt rkm rs drm tp tj ra ul ro wt lom se pw sl fa pa dp ss sh hd (fun u => ft) (fun u => n) (fun u => L) (fun u => th) (fun u => rkm) (fun u => rs) (fun u => drm) (fun u => wo) (fun u => tq) (fun u => wt) (fun u => pa) (fun u => dp) (fun u => lom) (Nat.le_of_ble_eq_true rfl) (Nat.le_of_ble_eq_true rfl) (c_X5_flooded_3 l dC dI cyI cyJ cyZ cyS ad ft n L th rkm rs drm wo tq wt pa dp lom a (by first | assumption | omega) (by first | exact hn | omega) (by first | assumption | omega))), fun r u r' u' h h' => ?_⟩
          try dsimp only at h
          try dsimp only at h'
          exact ⟨by rw [h, h', f1], JR.mk (hN) (hNR) (hth) (hF) (hK) (h0) (h1) (h2) (h3)⟩
        · skip
          refine ⟨_, _, _, _, _, _, (fwI_C1 (l := l) (dC := dC) (dI := dI) (cyI := cyI) (cyJ := cyJ) (cyZ := cyZ) (cyS := cyS) (ad := ad) (S := Unit) tq ft L n th wo mk pt ac re tr tb un ky uk co lo uw far pp de rd rk dr t0 l0 z0 t1 l1 z1 t2 l2 z2 t3 l3 z3 c0 c1 c2 c3 (fun u => tq) (fun u => ft) (fun u => n) (fun u => L) (fun u => mk) (fun u => pt) (fun u => ac) (fun u => far) (fun u => re) (fun u => tr) (fun u => rd) (fun u => rk) (fun u => tb) (fun u => un) (fun u => ky) (fun u => uk) (fun u => th) (fun u => wo) (fun u => dr) (fun u => co) (fun u => pp) (fun u => de) (fun u => lo) (fun u => uw) (Nat.le_of_ble_eq_true rfl) (Nat.le_of_ble_eq_true rfl) (c_X4_flooded_4 l dC dI cyI cyJ cyZ cyS ad tq ft n L mk pt ac far re tr tb un ky uk rd rk th wo 0 co pp de lo uw dr a (by first | assumption | omega) (by first | exact hn | omega) (by first | assumption | omega))), (fwI_M8 (l := l) (dC := dC) (dI := dI) (cyI := cyI) (cyJ := cyJ) (cyZ := cyZ) (cyS := cyS) (ad := ad) (S := Unit) tq ft L n th wo mk pt rkm rs drm tp tj ra ul ro wt lom se pw sl fa pa dp ss sh hd (fun u => ft) (fun u => n) (fun u => L) (fun u => th) (fun u => rkm) (fun u => rs) (fun u => drm) (fun u => wo) (fun u => tq) (fun u => wt) (fun u => pa) (fun u => dp) (fun u => lom) (Nat.le_of_ble_eq_true rfl) (Nat.le_of_ble_eq_true rfl) (c_X5_flooded_4 l dC dI cyI cyJ cyZ cyS ad ft n L th rkm rs drm wo tq wt pa dp lom a (by first | assumption | omega) (by first | exact hn | omega) (by first | assumption | omega))), fun r u r' u' h h' => ?_⟩
          try dsimp only at h
          try dsimp only at h'
          exact ⟨by rw [h, h', f2], JR.mk (hN) (hNR) (hth) (hF) (hK) (h0) (h1) (h2) (h3)⟩
        · skip
          refine ⟨_, _, _, _, _, _, (fwI_C1 (l := l) (dC := dC) (dI := dI) (cyI := cyI) (cyJ := cyJ) (cyZ := cyZ) (cyS := cyS) (ad := ad) (S := Unit) tq ft L n th wo mk pt ac re tr tb un ky uk co lo uw far pp de rd rk dr t0 l0 z0 t1 l1 z1 t2 l2 z2 t3 l3 z3 c0 c1 c2 c3 (fun u => tq) (fun u => ft) (fun u => n) (fun u => L) (fun u => mk) (fun u => pt) (fun u => ac) (fun u => far) (fun u => re) (fun u => tr) (fun u => rd) (fun u => rk) (fun u => tb) (fun u => un) (fun u => ky) (fun u => uk) (fun u => th) (fun u => wo) (fun u => dr) (fun u => co) (fun u => pp) (fun u => de) (fun u => lo) (fun u => uw) (Nat.le_of_ble_eq_true rfl) (Nat.le_of_ble_eq_true rfl) (c_X4_flooded_5 l dC dI cyI cyJ cyZ cyS ad tq ft n L mk pt ac far re tr tb un ky uk rd rk th wo 0 co pp de lo uw dr a (by first | assumption | omega) (by first | exact hn | omega) (by first | assumption | omega))), (fwI_M8 (l := l) (dC := dC) (dI := dI) (cyI := cyI) (cyJ := cyJ) (cyZ := cyZ) (cyS := cyS) (ad := ad) (S := Unit) tq ft L n th wo mk pt rkm rs drm tp tj ra ul ro wt lom se pw sl fa pa dp ss sh hd (fun u => ft) (fun u => n) (fun u => L) (fun u => th) (fun u => rkm) (fun u => rs) (fun u => drm) (fun u => wo) (fun u => tq) (fun u => wt) (fun u => pa) (fun u => dp) (fun u => lom) (Nat.le_of_ble_eq_true rfl) (Nat.le_of_ble_eq_true rfl) (c_X5_flooded_5 l dC dI cyI cyJ cyZ cyS ad ft n L th rkm rs drm wo tq wt pa dp lom a (by first | assumption | omega) (by first | exact hn | omega) (by first | assumption | omega))), fun r u r' u' h h' => ?_⟩
          try dsimp only at h
          try dsimp only at h'
          exact ⟨by rw [h, h', f3], JR.mk (hN) (hNR) (hth) (hF) (hK) (h0) (h1) (h2) (h3)⟩
      · skip
        refine ⟨_, _, _, _, _, _, (fwI_C1 (l := l) (dC := dC) (dI := dI) (cyI := cyI) (cyJ := cyJ) (cyZ := cyZ) (cyS := cyS) (ad := ad) (S := Unit) tq ft L n th wo mk pt ac re tr tb un ky uk co lo uw far pp de rd rk dr t0 l0 z0 t1 l1 z1 t2 l2 z2 t3 l3 z3 c0 c1 c2 c3 (fun u => tq) (fun u => ft) (fun u => n) (fun u => L) (fun u => mk) (fun u => pt) (fun u => ac) (fun u => far) (fun u => re) (fun u => tr) (fun u => rd) (fun u => rk) (fun u => tb) (fun u => un) (fun u => ky) (fun u => uk) (fun u => th) (fun u => wo) (fun u => dr) (fun u => co) (fun u => pp) (fun u => de) (fun u => lo) (fun u => uw) (Nat.le_of_ble_eq_true rfl) (Nat.le_of_ble_eq_true rfl) (c_X4_flooded_6 l dC dI cyI cyJ cyZ cyS ad tq ft n L mk pt ac far re tr tb un ky uk rd rk th wo 0 co pp de lo uw dr a (by first | assumption | omega) (by first | exact hn | omega) (by first | assumption | omega) y (by first | assumption | omega))), (fwI_M8 (l := l) (dC := dC) (dI := dI) (cyI := cyI) (cyJ := cyJ) (cyZ := cyZ) (cyS := cyS) (ad := ad) (S := Unit) tq ft L n th wo mk pt rkm rs drm tp tj ra ul ro wt lom se pw sl fa pa dp ss sh hd (fun u => ft) (fun u => n) (fun u => L) (fun u => th) (fun u => rkm) (fun u => rs) (fun u => drm) (fun u => wo) (fun u => tq) (fun u => wt) (fun u => pa) (fun u => dp) (fun u => lom) (Nat.le_of_ble_eq_true rfl) (Nat.le_of_ble_eq_true rfl) (c_X5_flooded_6 l dC dI cyI cyJ cyZ cyS ad ft n L th rkm rs drm wo tq wt pa dp lom a (by first | assumption | omega) (by first | exact hn | omega) (by first | assumption | omega) y (by first | assumption | omega))), fun r u r' u' h h' => ?_⟩
        try dsimp only at h
        try dsimp only at h'
        exact ⟨by rw [h, h'], JR.mk (hN) (hNR) (hth) (hF) (hK) (h0) (h1) (h2) (h3)⟩
    · skip
      refine ⟨_, _, _, _, _, _, (fwI_C1 (l := l) (dC := dC) (dI := dI) (cyI := cyI) (cyJ := cyJ) (cyZ := cyZ) (cyS := cyS) (ad := ad) (S := Unit) tq ft L n th wo mk pt ac re tr tb un ky uk co lo uw far pp de rd rk dr t0 l0 z0 t1 l1 z1 t2 l2 z2 t3 l3 z3 c0 c1 c2 c3 (fun u => tq) (fun u => ft) (fun u => n) (fun u => L) (fun u => mk) (fun u => pt) (fun u => ac) (fun u => far) (fun u => re) (fun u => tr) (fun u => rd) (fun u => rk) (fun u => tb) (fun u => un) (fun u => ky) (fun u => uk) (fun u => th) (fun u => wo) (fun u => dr) (fun u => co) (fun u => pp) (fun u => de) (fun u => lo) (fun u => uw) (Nat.le_of_ble_eq_true rfl) (Nat.le_of_ble_eq_true rfl) (c_X4_flooded_2 l dC dI cyI cyJ cyZ cyS ad tq ft n L mk pt ac far re tr tb un ky uk rd rk th wo 0 co pp de lo uw dr x y (by first | assumption | omega) (by first | exact hn | omega) (by first | assumption | omega))), (fwI_M8 (l := l) (dC := dC) (dI := dI) (cyI := cyI) (cyJ := cyJ) (cyZ := cyZ) (cyS := cyS) (ad := ad) (S := Unit) tq ft L n th wo mk pt rkm rs drm tp tj ra ul ro wt lom se pw sl fa pa dp ss sh hd (fun u => ft) (fun u => n) (fun u => L) (fun u => th) (fun u => rkm) (fun u => rs) (fun u => drm) (fun u => wo) (fun u => tq) (fun u => wt) (fun u => pa) (fun u => dp) (fun u => lom) (Nat.le_of_ble_eq_true rfl) (Nat.le_of_ble_eq_true rfl) (c_X5_flooded_2 l dC dI cyI cyJ cyZ cyS ad ft n L th rkm rs drm wo tq wt pa dp lom x y (by first | assumption | omega) (by first | exact hn | omega) (by first | assumption | omega))), fun r u r' u' h h' => ?_⟩
      try dsimp only at h
      try dsimp only at h'
      exact ⟨by rw [h, h'], JR.mk (hN) (hNR) (hth) (hF) (hK) (h0) (h1) (h2) (h3)⟩
set_option maxHeartbeats 4000000 in
set_option maxRecDepth 100000 in
theorem s_word (l : Launch) (dC : Nat → ClassId) (dI : Nat → Nat → Nat) (cyI cyJ cyZ cyS : ClassId) (ad : Nat → Nat) (w1 w2 : va_W) (hJ : JR cyI cyJ cyZ cyS ad w1 w2) (x : Int32) : StpI l dC dI cyI cyJ cyZ cyS ad yX4_word yX5_word wsX4_word wsX5_word [.int x] w1 w2 := by
  refine JR.elim (P := fun w1 w2 => StpI l dC dI cyI cyJ cyZ cyS ad yX4_word yX5_word wsX4_word wsX5_word [.int x] w1 w2) hJ ?_
  intro tq ft L n th wo mk pt ac re tr tb un ky uk co lo uw far pp de rd rk dr t0 l0 z0 t1 l1 z1 t2 l2 z2 t3 l3 z3 c0 c1 c2 c3 rkm rs drm tp tj ra ul ro wt lom se pw sl fa pa dp ss sh hd hN hNR hth hF hK h0 h1 h2 h3
  have hn := hN.n12
  have hpt : ∀ p, p < n → pt p ≤ 6 := fun p hp => hN.p6 hp
  have hrk := hK.1
  have hkT := hK.2.1
  have hrkm := hK.2.2.1
  have hkM := hK.2.2.2
  have hwo := hF.1
  by_cases hf : th = 0
  · skip
    refine ⟨_, _, _, _, _, _, (fwI_C1 (l := l) (dC := dC) (dI := dI) (cyI := cyI) (cyJ := cyJ) (cyZ := cyZ) (cyS := cyS) (ad := ad) (S := Unit) tq ft L n th wo mk pt ac re tr tb un ky uk co lo uw far pp de rd rk dr t0 l0 z0 t1 l1 z1 t2 l2 z2 t3 l3 z3 c0 c1 c2 c3 (fun u => tq) (fun u => ft) (fun u => n) (fun u => L) (fun u => mk) (fun u => pt) (fun u => ac) (fun u => far) (fun u => re) (fun u => tr) (fun u => rd) (fun u => rk) (fun u => tb) (fun u => un) (fun u => ky) (fun u => uk) (fun u => th) (fun u => wo) (fun u => dr) (fun u => co) (fun u => pp) (fun u => de) (fun u => lo) (fun u => uw) (Nat.le_of_ble_eq_true rfl) (Nat.le_of_ble_eq_true rfl) (c_X4_word_1 l dC dI cyI cyJ cyZ cyS ad tq ft n L mk pt ac far re tr tb un ky uk rd rk th wo 0 co pp de lo uw dr x (by first | assumption | omega))), (fwI_M8 (l := l) (dC := dC) (dI := dI) (cyI := cyI) (cyJ := cyJ) (cyZ := cyZ) (cyS := cyS) (ad := ad) (S := Unit) tq ft L n th wo mk pt rkm rs drm tp tj ra ul ro wt lom se pw sl fa pa dp ss sh hd (fun u => ft) (fun u => n) (fun u => L) (fun u => th) (fun u => rkm) (fun u => rs) (fun u => drm) (fun u => wo) (fun u => tq) (fun u => wt) (fun u => pa) (fun u => dp) (fun u => lom) (Nat.le_of_ble_eq_true rfl) (Nat.le_of_ble_eq_true rfl) (c_X5_word_1 l dC dI cyI cyJ cyZ cyS ad ft n L th rkm rs drm wo tq wt pa dp lom x (by first | assumption | omega))), fun r u r' u' h h' => ?_⟩
    try dsimp only at h
    try dsimp only at h'
    exact ⟨by rw [h, h'], JR.mk (hN) (hNR) (hth) (hF) (hK) (h0) (h1) (h2) (h3)⟩
  · have hf1 : th = 1 := by omega
    by_cases hx : vp_in x wo
    · obtain ⟨i, hi, rfl⟩ := vp_in_of hx (by omega)
      refine ⟨_, _, _, _, _, _, (fwI_C1 (l := l) (dC := dC) (dI := dI) (cyI := cyI) (cyJ := cyJ) (cyZ := cyZ) (cyS := cyS) (ad := ad) (S := Unit) tq ft L n th wo mk pt ac re tr tb un ky uk co lo uw far pp de rd rk dr t0 l0 z0 t1 l1 z1 t2 l2 z2 t3 l3 z3 c0 c1 c2 c3 (fun u => tq) (fun u => ft) (fun u => n) (fun u => L) (fun u => mk) (fun u => pt) (fun u => ac) (fun u => far) (fun u => re) (fun u => tr) (fun u => rd) (fun u => rk) (fun u => tb) (fun u => un) (fun u => ky) (fun u => uk) (fun u => th) (fun u => wo) (fun u => dr) (fun u => co) (fun u => pp) (fun u => de) (fun u => lo) (fun u => uw) (Nat.le_of_ble_eq_true rfl) (Nat.le_of_ble_eq_true rfl) (c_X4_word_3 l dC dI cyI cyJ cyZ cyS ad tq ft n L mk pt ac far re tr tb un ky uk rd rk th wo 0 co pp de lo uw dr i (by first | assumption | omega) (by first | assumption | omega) (by first | assumption | omega))), (fwI_M8 (l := l) (dC := dC) (dI := dI) (cyI := cyI) (cyJ := cyJ) (cyZ := cyZ) (cyS := cyS) (ad := ad) (S := Unit) tq ft L n th wo mk pt rkm rs drm tp tj ra ul ro wt lom se pw sl fa pa dp ss sh hd (fun u => ft) (fun u => n) (fun u => L) (fun u => th) (fun u => rkm) (fun u => rs) (fun u => drm) (fun u => wo) (fun u => tq) (fun u => wt) (fun u => pa) (fun u => dp) (fun u => lom) (Nat.le_of_ble_eq_true rfl) (Nat.le_of_ble_eq_true rfl) (c_X5_word_3 l dC dI cyI cyJ cyZ cyS ad ft n L th rkm rs drm wo tq wt pa dp lom i (by first | assumption | omega) (by first | assumption | omega) (by first | assumption | omega))), fun r u r' u' h h' => ?_⟩
      try dsimp only at h
      try dsimp only at h'
      exact ⟨by rw [h, h', hF.2.2.1 i hi], JR.mk (hN) (hNR) (hth) (hF) (hK) (h0) (h1) (h2) (h3)⟩
    · skip
      refine ⟨_, _, _, _, _, _, (fwI_C1 (l := l) (dC := dC) (dI := dI) (cyI := cyI) (cyJ := cyJ) (cyZ := cyZ) (cyS := cyS) (ad := ad) (S := Unit) tq ft L n th wo mk pt ac re tr tb un ky uk co lo uw far pp de rd rk dr t0 l0 z0 t1 l1 z1 t2 l2 z2 t3 l3 z3 c0 c1 c2 c3 (fun u => tq) (fun u => ft) (fun u => n) (fun u => L) (fun u => mk) (fun u => pt) (fun u => ac) (fun u => far) (fun u => re) (fun u => tr) (fun u => rd) (fun u => rk) (fun u => tb) (fun u => un) (fun u => ky) (fun u => uk) (fun u => th) (fun u => wo) (fun u => dr) (fun u => co) (fun u => pp) (fun u => de) (fun u => lo) (fun u => uw) (Nat.le_of_ble_eq_true rfl) (Nat.le_of_ble_eq_true rfl) (c_X4_word_2 l dC dI cyI cyJ cyZ cyS ad tq ft n L mk pt ac far re tr tb un ky uk rd rk th wo 0 co pp de lo uw dr x (by first | assumption | omega) (by first | assumption | omega) (by first | assumption | omega))), (fwI_M8 (l := l) (dC := dC) (dI := dI) (cyI := cyI) (cyJ := cyJ) (cyZ := cyZ) (cyS := cyS) (ad := ad) (S := Unit) tq ft L n th wo mk pt rkm rs drm tp tj ra ul ro wt lom se pw sl fa pa dp ss sh hd (fun u => ft) (fun u => n) (fun u => L) (fun u => th) (fun u => rkm) (fun u => rs) (fun u => drm) (fun u => wo) (fun u => tq) (fun u => wt) (fun u => pa) (fun u => dp) (fun u => lom) (Nat.le_of_ble_eq_true rfl) (Nat.le_of_ble_eq_true rfl) (c_X5_word_2 l dC dI cyI cyJ cyZ cyS ad ft n L th rkm rs drm wo tq wt pa dp lom x (by first | assumption | omega) (by first | assumption | omega) (by first | assumption | omega))), fun r u r' u' h h' => ?_⟩
      try dsimp only at h
      try dsimp only at h'
      exact ⟨by rw [h, h'], JR.mk (hN) (hNR) (hth) (hF) (hK) (h0) (h1) (h2) (h3)⟩
set_option maxHeartbeats 4000000 in
set_option maxRecDepth 100000 in
theorem s_lots (l : Launch) (dC : Nat → ClassId) (dI : Nat → Nat → Nat) (cyI cyJ cyZ cyS : ClassId) (ad : Nat → Nat) (w1 w2 : va_W) (hJ : JR cyI cyJ cyZ cyS ad w1 w2) (x y : Int32) : StpL l dC dI cyI cyJ cyZ cyS ad yX4_lots yX5_lots wsX4_lots wsX5_lots [.int x, .int y] w1 w2 := by
  refine JR.elim (P := fun w1 w2 => StpL l dC dI cyI cyJ cyZ cyS ad yX4_lots yX5_lots wsX4_lots wsX5_lots [.int x, .int y] w1 w2) hJ ?_
  intro tq ft L n th wo mk pt ac re tr tb un ky uk co lo uw far pp de rd rk dr t0 l0 z0 t1 l1 z1 t2 l2 z2 t3 l3 z3 c0 c1 c2 c3 rkm rs drm tp tj ra ul ro wt lom se pw sl fa pa dp ss sh hd hN hNR hth hF hK h0 h1 h2 h3
  have hn := hN.n12
  have hpt : ∀ p, p < n → pt p ≤ 6 := fun p hp => hN.p6 hp
  have hrk := hK.1
  have hkT := hK.2.1
  have hrkm := hK.2.2.1
  have hkM := hK.2.2.2
  have hwo := hF.1
  by_cases hx : 1 ≤ x.toInt ∧ x.toInt ≤ 6
  · obtain ⟨k, rfl, hk1, hk6⟩ := k_of hx
    by_cases h00 : n = 0
    · skip
      refine ⟨_, _, _, _, _, _, (fwL_C9 (l := l) (dC := dC) (dI := dI) (cyI := cyI) (cyJ := cyJ) (cyZ := cyZ) (cyS := cyS) (ad := ad) (S := Unit) tq ft L n th wo mk pt ac re tr tb un ky uk co lo uw far pp de rd rk dr t0 l0 z0 t1 l1 z1 t2 l2 z2 t3 l3 z3 c0 c1 c2 c3 (fun u => tq) (fun u => ft) (fun u => n) (fun u => L) (fun u => mk) (fun u => pt) (fun u => ac) (fun u => far) (fun u => re) (fun u => tr) (fun u => rd) (fun u => rk) (fun u => tb) (fun u => un) (fun u => ky) (fun u => uk) (fun u => th) (fun u => wo) (fun u => dr) (fun u => co) (fun u => pp) (fun u => de) (fun u => lo) (fun u => uw) (Nat.le_of_ble_eq_true rfl) (Nat.le_of_ble_eq_true rfl) (c_X4_lots_2 l dC dI cyI cyJ cyZ cyS ad tq ft n L mk pt ac far re tr tb un ky uk rd rk th wo 0 co pp de lo uw dr k (by first | assumption | omega) (by first | assumption | omega) y (by first | exact hn | omega))), (fwL_M10 (l := l) (dC := dC) (dI := dI) (cyI := cyI) (cyJ := cyJ) (cyZ := cyZ) (cyS := cyS) (ad := ad) (S := Unit) tq ft L n th wo mk pt rkm rs drm tp tj ra ul ro wt lom se pw sl fa pa dp ss sh hd (fun u => ft) (fun u => n) (fun u => L) (fun u => th) (fun u => rkm) (fun u => rs) (fun u => drm) (fun u => wo) (fun u => tq) (Nat.le_of_ble_eq_true rfl) (Nat.le_of_ble_eq_true rfl) (c_X5_lots_2 l dC dI cyI cyJ cyZ cyS ad ft n L th rkm rs drm wo tq k (by first | assumption | omega) (by first | assumption | omega) y (by first | exact hn | omega))), fun r u r' u' h h' => ?_⟩
      try dsimp only at h
      try dsimp only at h'
      exact ⟨by rw [h, h'], JR.mk (hN) (hNR) (hth) (hF) (hK) (h0) (h1) (h2) (h3)⟩
    · have hn0 : 0 < n := by omega
      by_cases hw0 : vp_in y 3
      · obtain ⟨w, hw, rfl⟩ := vp_in_of hw0 (by decide)
        obtain rfl | rfl | rfl : w = 0 ∨ w = 1 ∨ w = 2 := by omega
        · skip
          refine ⟨_, _, _, _, _, _, (fwL_C9 (l := l) (dC := dC) (dI := dI) (cyI := cyI) (cyJ := cyJ) (cyZ := cyZ) (cyS := cyS) (ad := ad) (S := Unit) tq ft L n th wo mk pt ac re tr tb un ky uk co lo uw far pp de rd rk dr t0 l0 z0 t1 l1 z1 t2 l2 z2 t3 l3 z3 c0 c1 c2 c3 (fun u => tq) (fun u => ft) (fun u => n) (fun u => L) (fun u => mk) (fun u => pt) (fun u => ac) (fun u => far) (fun u => re) (fun u => tr) (fun u => rd) (fun u => rk) (fun u => tb) (fun u => un) (fun u => ky) (fun u => uk) (fun u => th) (fun u => wo) (fun u => dr) (fun u => co) (fun u => pp) (fun u => de) (fun u => lo) (fun u => uw) (Nat.le_of_ble_eq_true rfl) (Nat.le_of_ble_eq_true rfl) (c_X4_lots_3 l dC dI cyI cyJ cyZ cyS ad tq ft n L mk pt ac far re tr tb un ky uk rd rk th wo 0 co pp de lo uw dr k (by first | assumption | omega) (by first | assumption | omega) (by first | assumption | omega) (by first | exact hn | omega))), (fwL_M10 (l := l) (dC := dC) (dI := dI) (cyI := cyI) (cyJ := cyJ) (cyZ := cyZ) (cyS := cyS) (ad := ad) (S := Unit) tq ft L n th wo mk pt rkm rs drm tp tj ra ul ro wt lom se pw sl fa pa dp ss sh hd (fun u => ft) (fun u => n) (fun u => L) (fun u => th) (fun u => rkm) (fun u => rs) (fun u => drm) (fun u => wo) (fun u => tq) (Nat.le_of_ble_eq_true rfl) (Nat.le_of_ble_eq_true rfl) (c_X5_lots_3 l dC dI cyI cyJ cyZ cyS ad ft n L th rkm rs drm wo tq k (by first | assumption | omega) (by first | assumption | omega) (by first | assumption | omega) (by first | exact hn | omega))), fun r u r' u' h h' => ?_⟩
          try dsimp only at h
          try dsimp only at h'
          exact ⟨by rw [h, h'], JR.mk (hN) (hNR) (hth) (hF) (hK) (h0) (h1) (h2) (h3)⟩
        · skip
          refine ⟨_, _, _, _, _, _, (fwL_C9 (l := l) (dC := dC) (dI := dI) (cyI := cyI) (cyJ := cyJ) (cyZ := cyZ) (cyS := cyS) (ad := ad) (S := Unit) tq ft L n th wo mk pt ac re tr tb un ky uk co lo uw far pp de rd rk dr t0 l0 z0 t1 l1 z1 t2 l2 z2 t3 l3 z3 c0 c1 c2 c3 (fun u => tq) (fun u => ft) (fun u => n) (fun u => L) (fun u => mk) (fun u => pt) (fun u => ac) (fun u => far) (fun u => re) (fun u => tr) (fun u => rd) (fun u => rk) (fun u => tb) (fun u => un) (fun u => ky) (fun u => uk) (fun u => th) (fun u => wo) (fun u => dr) (fun u => co) (fun u => pp) (fun u => de) (fun u => lo) (fun u => uw) (Nat.le_of_ble_eq_true rfl) (Nat.le_of_ble_eq_true rfl) (c_X4_lots_4 l dC dI cyI cyJ cyZ cyS ad tq ft n L mk pt ac far re tr tb un ky uk rd rk th wo 0 co pp de lo uw dr k (by first | assumption | omega) (by first | assumption | omega) (by first | assumption | omega) (by first | exact hn | omega))), (fwL_M10 (l := l) (dC := dC) (dI := dI) (cyI := cyI) (cyJ := cyJ) (cyZ := cyZ) (cyS := cyS) (ad := ad) (S := Unit) tq ft L n th wo mk pt rkm rs drm tp tj ra ul ro wt lom se pw sl fa pa dp ss sh hd (fun u => ft) (fun u => n) (fun u => L) (fun u => th) (fun u => rkm) (fun u => rs) (fun u => drm) (fun u => wo) (fun u => tq) (Nat.le_of_ble_eq_true rfl) (Nat.le_of_ble_eq_true rfl) (c_X5_lots_4 l dC dI cyI cyJ cyZ cyS ad ft n L th rkm rs drm wo tq k (by first | assumption | omega) (by first | assumption | omega) (by first | assumption | omega) (by first | exact hn | omega))), fun r u r' u' h h' => ?_⟩
          try dsimp only at h
          try dsimp only at h'
          exact ⟨by rw [h, h'], JR.mk (hN) (hNR) (hth) (hF) (hK) (h0) (h1) (h2) (h3)⟩
        · skip
          refine ⟨_, _, _, _, _, _, (fwL_C9 (l := l) (dC := dC) (dI := dI) (cyI := cyI) (cyJ := cyJ) (cyZ := cyZ) (cyS := cyS) (ad := ad) (S := Unit) tq ft L n th wo mk pt ac re tr tb un ky uk co lo uw far pp de rd rk dr t0 l0 z0 t1 l1 z1 t2 l2 z2 t3 l3 z3 c0 c1 c2 c3 (fun u => tq) (fun u => ft) (fun u => n) (fun u => L) (fun u => mk) (fun u => pt) (fun u => ac) (fun u => far) (fun u => re) (fun u => tr) (fun u => rd) (fun u => rk) (fun u => tb) (fun u => un) (fun u => ky) (fun u => uk) (fun u => th) (fun u => wo) (fun u => dr) (fun u => co) (fun u => pp) (fun u => de) (fun u => lo) (fun u => uw) (Nat.le_of_ble_eq_true rfl) (Nat.le_of_ble_eq_true rfl) (c_X4_lots_5 l dC dI cyI cyJ cyZ cyS ad tq ft n L mk pt ac far re tr tb un ky uk rd rk th wo 0 co pp de lo uw dr k (by first | assumption | omega) (by first | assumption | omega) (by first | assumption | omega) (by first | exact hn | omega))), (fwL_M10 (l := l) (dC := dC) (dI := dI) (cyI := cyI) (cyJ := cyJ) (cyZ := cyZ) (cyS := cyS) (ad := ad) (S := Unit) tq ft L n th wo mk pt rkm rs drm tp tj ra ul ro wt lom se pw sl fa pa dp ss sh hd (fun u => ft) (fun u => n) (fun u => L) (fun u => th) (fun u => rkm) (fun u => rs) (fun u => drm) (fun u => wo) (fun u => tq) (Nat.le_of_ble_eq_true rfl) (Nat.le_of_ble_eq_true rfl) (c_X5_lots_5 l dC dI cyI cyJ cyZ cyS ad ft n L th rkm rs drm wo tq k (by first | assumption | omega) (by first | assumption | omega) (by first | assumption | omega) (by first | exact hn | omega))), fun r u r' u' h h' => ?_⟩
          try dsimp only at h
          try dsimp only at h'
          exact ⟨by rw [h, h'], JR.mk (hN) (hNR) (hth) (hF) (hK) (h0) (h1) (h2) (h3)⟩
      · skip
        refine ⟨_, _, _, _, _, _, (fwL_C9 (l := l) (dC := dC) (dI := dI) (cyI := cyI) (cyJ := cyJ) (cyZ := cyZ) (cyS := cyS) (ad := ad) (S := Unit) tq ft L n th wo mk pt ac re tr tb un ky uk co lo uw far pp de rd rk dr t0 l0 z0 t1 l1 z1 t2 l2 z2 t3 l3 z3 c0 c1 c2 c3 (fun u => tq) (fun u => ft) (fun u => n) (fun u => L) (fun u => mk) (fun u => pt) (fun u => ac) (fun u => far) (fun u => re) (fun u => tr) (fun u => rd) (fun u => rk) (fun u => tb) (fun u => un) (fun u => ky) (fun u => uk) (fun u => th) (fun u => wo) (fun u => dr) (fun u => co) (fun u => pp) (fun u => de) (fun u => lo) (fun u => uw) (Nat.le_of_ble_eq_true rfl) (Nat.le_of_ble_eq_true rfl) (c_X4_lots_6 l dC dI cyI cyJ cyZ cyS ad tq ft n L mk pt ac far re tr tb un ky uk rd rk th wo 0 co pp de lo uw dr k (by first | assumption | omega) (by first | assumption | omega) (by first | assumption | omega) (by first | exact hn | omega) y (by first | assumption | omega))), (fwL_M10 (l := l) (dC := dC) (dI := dI) (cyI := cyI) (cyJ := cyJ) (cyZ := cyZ) (cyS := cyS) (ad := ad) (S := Unit) tq ft L n th wo mk pt rkm rs drm tp tj ra ul ro wt lom se pw sl fa pa dp ss sh hd (fun u => ft) (fun u => n) (fun u => L) (fun u => th) (fun u => rkm) (fun u => rs) (fun u => drm) (fun u => wo) (fun u => tq) (Nat.le_of_ble_eq_true rfl) (Nat.le_of_ble_eq_true rfl) (c_X5_lots_6 l dC dI cyI cyJ cyZ cyS ad ft n L th rkm rs drm wo tq k (by first | assumption | omega) (by first | assumption | omega) y (by first | assumption | omega))), fun r u r' u' h h' => ?_⟩
        try dsimp only at h
        try dsimp only at h'
        exact ⟨by rw [h, h'], JR.mk (hN) (hNR) (hth) (hF) (hK) (h0) (h1) (h2) (h3)⟩
  · skip
    refine ⟨_, _, _, _, _, _, (fwL_C9 (l := l) (dC := dC) (dI := dI) (cyI := cyI) (cyJ := cyJ) (cyZ := cyZ) (cyS := cyS) (ad := ad) (S := Unit) tq ft L n th wo mk pt ac re tr tb un ky uk co lo uw far pp de rd rk dr t0 l0 z0 t1 l1 z1 t2 l2 z2 t3 l3 z3 c0 c1 c2 c3 (fun u => tq) (fun u => ft) (fun u => n) (fun u => L) (fun u => mk) (fun u => pt) (fun u => ac) (fun u => far) (fun u => re) (fun u => tr) (fun u => rd) (fun u => rk) (fun u => tb) (fun u => un) (fun u => ky) (fun u => uk) (fun u => th) (fun u => wo) (fun u => dr) (fun u => co) (fun u => pp) (fun u => de) (fun u => lo) (fun u => uw) (Nat.le_of_ble_eq_true rfl) (Nat.le_of_ble_eq_true rfl) (c_X4_lots_1 l dC dI cyI cyJ cyZ cyS ad tq ft n L mk pt ac far re tr tb un ky uk rd rk th wo 0 co pp de lo uw dr x y (by first | assumption | omega))), (fwL_M10 (l := l) (dC := dC) (dI := dI) (cyI := cyI) (cyJ := cyJ) (cyZ := cyZ) (cyS := cyS) (ad := ad) (S := Unit) tq ft L n th wo mk pt rkm rs drm tp tj ra ul ro wt lom se pw sl fa pa dp ss sh hd (fun u => ft) (fun u => n) (fun u => L) (fun u => th) (fun u => rkm) (fun u => rs) (fun u => drm) (fun u => wo) (fun u => tq) (Nat.le_of_ble_eq_true rfl) (Nat.le_of_ble_eq_true rfl) (c_X5_lots_1 l dC dI cyI cyJ cyZ cyS ad ft n L th rkm rs drm wo tq x y (by first | assumption | omega))), fun r u r' u' h h' => ?_⟩
    try dsimp only at h
    try dsimp only at h'
    exact ⟨by rw [h, h'], JR.mk (hN) (hNR) (hth) (hF) (hK) (h0) (h1) (h2) (h3)⟩
set_option maxHeartbeats 4000000 in
set_option maxRecDepth 100000 in
theorem s_tell (l : Launch) (dC : Nat → ClassId) (dI : Nat → Nat → Nat) (cyI cyJ cyZ cyS : ClassId) (ad : Nat → Nat) (w1 w2 : va_W) (hJ : JR cyI cyJ cyZ cyS ad w1 w2) (x : Int32) : StpI l dC dI cyI cyJ cyZ cyS ad yX4_tell yX5_tell wsX4_tell wsX5_tell [.int x] w1 w2 := by
  refine JR.elim (P := fun w1 w2 => StpI l dC dI cyI cyJ cyZ cyS ad yX4_tell yX5_tell wsX4_tell wsX5_tell [.int x] w1 w2) hJ ?_
  intro tq ft L n th wo mk pt ac re tr tb un ky uk co lo uw far pp de rd rk dr t0 l0 z0 t1 l1 z1 t2 l2 z2 t3 l3 z3 c0 c1 c2 c3 rkm rs drm tp tj ra ul ro wt lom se pw sl fa pa dp ss sh hd hN hNR hth hF hK h0 h1 h2 h3
  have hn := hN.n12
  have hpt : ∀ p, p < n → pt p ≤ 6 := fun p hp => hN.p6 hp
  have hrk := hK.1
  have hkT := hK.2.1
  have hrkm := hK.2.2.1
  have hkM := hK.2.2.2
  have hwo := hF.1
  by_cases hx : vp_in x n
  · obtain ⟨a, ha, rfl⟩ := vp_in_of hx (by omega)
    have hpa := hN.p6 ha
    rcases (show pt a = 0 ∨ pt a = 1 ∨ 1 < pt a by omega) with hp | hp | hp
    · skip
      refine ⟨_, _, _, _, _, _, (fwI_C11 (l := l) (dC := dC) (dI := dI) (cyI := cyI) (cyJ := cyJ) (cyZ := cyZ) (cyS := cyS) (ad := ad) (S := Unit) tq ft L n th wo mk pt ac re tr tb un ky uk co lo uw far pp de rd rk dr t0 l0 z0 t1 l1 z1 t2 l2 z2 t3 l3 z3 c0 c1 c2 c3 (fun u => nI 31 * tq + nI 1) (fun u => ft) (fun u => n) (fun u => L) (fun u => mk) (fun u => pt) (fun u => ac) (fun u => far) (fun u => re) (fun u => tr) (Nat.le_of_ble_eq_true rfl) (Nat.le_of_ble_eq_true rfl) (c_X4_tell_2 l dC dI cyI cyJ cyZ cyS ad tq ft n L mk pt ac far re tr a (by exact hN) (by first | assumption | omega) (by first | assumption | omega))), (fwI_M3 (l := l) (dC := dC) (dI := dI) (cyI := cyI) (cyJ := cyJ) (cyZ := cyZ) (cyS := cyS) (ad := ad) (S := Unit) tq ft L n th wo mk pt rkm rs drm tp tj ra ul ro wt lom se pw sl fa pa dp ss sh hd (fun u => ft) (fun u => n) (fun u => L) (fun u => th) (fun u => rkm) (fun u => rs) (fun u => drm) (fun u => wo) (fun u => nI 31 * tq + nI 1) (fun u => mk) (fun u => pt) (fun u => tp) (fun u => tj) (Nat.le_of_ble_eq_true rfl) (Nat.le_of_ble_eq_true rfl) (c_X5_tell_2 l dC dI cyI cyJ cyZ cyS ad ft n L th rkm rs drm wo tq mk pt tp tj a (by first | exact hn | omega) (by first | assumption | omega) (by first | assumption | omega) (by first | assumption | omega))), fun r u r' u' h h' => ?_⟩
      try dsimp only at h
      try dsimp only at h'
      exact ⟨by rw [h, h'], JR.mk (hN) (hNR) (hth) (hF) (hK) (h0) (h1) (h2) (h3)⟩
    · skip
      refine ⟨_, _, _, _, _, _, (fwI_C11 (l := l) (dC := dC) (dI := dI) (cyI := cyI) (cyJ := cyJ) (cyZ := cyZ) (cyS := cyS) (ad := ad) (S := Unit) tq ft L n th wo mk pt ac re tr tb un ky uk co lo uw far pp de rd rk dr t0 l0 z0 t1 l1 z1 t2 l2 z2 t3 l3 z3 c0 c1 c2 c3 (fun u => nI 31 * (nI 31 * tq + nI 3) + nI 1) (fun u => ft) (fun u => n) (fun u => L) (fun u => mk) (fun u => pt) (fun u => ac) (fun u => far) (fun u => re) (fun u => tr) (Nat.le_of_ble_eq_true rfl) (Nat.le_of_ble_eq_true rfl) (c_X4_tell_4 l dC dI cyI cyJ cyZ cyS ad tq ft n L mk pt ac far re tr a (by exact hN) (by first | assumption | omega) (by first | assumption | omega))), (fwI_M3 (l := l) (dC := dC) (dI := dI) (cyI := cyI) (cyJ := cyJ) (cyZ := cyZ) (cyS := cyS) (ad := ad) (S := Unit) tq ft L n th wo mk pt rkm rs drm tp tj ra ul ro wt lom se pw sl fa pa dp ss sh hd (fun u => ft) (fun u => n) (fun u => L) (fun u => th) (fun u => rkm) (fun u => rs) (fun u => drm) (fun u => wo) (fun u => nI 31 * (nI 31 * tq + nI 3) + nI 1) (fun u => mk) (fun u => pt) (fun u => tp) (fun u => tj) (Nat.le_of_ble_eq_true rfl) (Nat.le_of_ble_eq_true rfl) (c_X5_tell_4 l dC dI cyI cyJ cyZ cyS ad ft n L th rkm rs drm wo tq mk pt tp tj a (by first | exact hn | omega) (by first | assumption | omega) (by first | assumption | omega) (by first | assumption | omega))), fun r u r' u' h h' => ?_⟩
      try dsimp only at h
      try dsimp only at h'
      exact ⟨by rw [h, h'], JR.mk (hN) (hNR) (hth) (hF) (hK) (h0) (h1) (h2) (h3)⟩
    · skip
      refine ⟨_, _, _, _, _, _, (fwI_C11 (l := l) (dC := dC) (dI := dI) (cyI := cyI) (cyJ := cyJ) (cyZ := cyZ) (cyS := cyS) (ad := ad) (S := Unit) tq ft L n th wo mk pt ac re tr tb un ky uk co lo uw far pp de rd rk dr t0 l0 z0 t1 l1 z1 t2 l2 z2 t3 l3 z3 c0 c1 c2 c3 (fun u => nI 31 * (nI 31 * tq + nI 2) + nI 1) (fun u => ft) (fun u => n) (fun u => L) (fun u => mk) (fun u => pt) (fun u => ac) (fun u => far) (fun u => re) (fun u => tr) (Nat.le_of_ble_eq_true rfl) (Nat.le_of_ble_eq_true rfl) (c_X4_tell_3 l dC dI cyI cyJ cyZ cyS ad tq ft n L mk pt ac far re tr a (by exact hN) (by first | assumption | omega) (by first | assumption | omega))), (fwI_M3 (l := l) (dC := dC) (dI := dI) (cyI := cyI) (cyJ := cyJ) (cyZ := cyZ) (cyS := cyS) (ad := ad) (S := Unit) tq ft L n th wo mk pt rkm rs drm tp tj ra ul ro wt lom se pw sl fa pa dp ss sh hd (fun u => ft) (fun u => n) (fun u => L) (fun u => th) (fun u => rkm) (fun u => rs) (fun u => drm) (fun u => wo) (fun u => nI 31 * (nI 31 * tq + nI 2) + nI 1) (fun u => mk) (fun u => pt) (fun u => tp) (fun u => tj) (Nat.le_of_ble_eq_true rfl) (Nat.le_of_ble_eq_true rfl) (c_X5_tell_3 l dC dI cyI cyJ cyZ cyS ad ft n L th rkm rs drm wo tq mk pt tp tj a (by first | exact hn | omega) (by first | assumption | omega) (by first | assumption | omega) (by first | assumption | omega))), fun r u r' u' h h' => ?_⟩
      try dsimp only at h
      try dsimp only at h'
      exact ⟨by rw [h, h'], JR.mk (hN) (hNR) (hth) (hF) (hK) (h0) (h1) (h2) (h3)⟩
  · skip
    refine ⟨_, _, _, _, _, _, (fwI_C11 (l := l) (dC := dC) (dI := dI) (cyI := cyI) (cyJ := cyJ) (cyZ := cyZ) (cyS := cyS) (ad := ad) (S := Unit) tq ft L n th wo mk pt ac re tr tb un ky uk co lo uw far pp de rd rk dr t0 l0 z0 t1 l1 z1 t2 l2 z2 t3 l3 z3 c0 c1 c2 c3 (fun u => tq) (fun u => ft) (fun u => n) (fun u => L) (fun u => mk) (fun u => pt) (fun u => ac) (fun u => far) (fun u => re) (fun u => tr) (Nat.le_of_ble_eq_true rfl) (Nat.le_of_ble_eq_true rfl) (c_X4_tell_1 l dC dI cyI cyJ cyZ cyS ad tq ft n L mk pt ac far re tr x (by exact hN) (by first | assumption | omega))), (fwI_M3 (l := l) (dC := dC) (dI := dI) (cyI := cyI) (cyJ := cyJ) (cyZ := cyZ) (cyS := cyS) (ad := ad) (S := Unit) tq ft L n th wo mk pt rkm rs drm tp tj ra ul ro wt lom se pw sl fa pa dp ss sh hd (fun u => ft) (fun u => n) (fun u => L) (fun u => th) (fun u => rkm) (fun u => rs) (fun u => drm) (fun u => wo) (fun u => tq) (fun u => mk) (fun u => pt) (fun u => tp) (fun u => tj) (Nat.le_of_ble_eq_true rfl) (Nat.le_of_ble_eq_true rfl) (c_X5_tell_1 l dC dI cyI cyJ cyZ cyS ad ft n L th rkm rs drm wo tq mk pt tp tj x (by first | exact hn | omega) (by first | assumption | omega))), fun r u r' u' h h' => ?_⟩
    try dsimp only at h
    try dsimp only at h'
    exact ⟨by rw [h, h'], JR.mk (hN) (hNR) (hth) (hF) (hK) (h0) (h1) (h2) (h3)⟩
set_option maxHeartbeats 4000000 in
set_option maxRecDepth 100000 in
theorem s_hear (l : Launch) (dC : Nat → ClassId) (dI : Nat → Nat → Nat) (cyI cyJ cyZ cyS : ClassId) (ad : Nat → Nat) (w1 w2 : va_W) (hJ : JR cyI cyJ cyZ cyS ad w1 w2) (x : Int32) : StpI l dC dI cyI cyJ cyZ cyS ad yX4_hear yX5_hear wsX4_hear wsX5_hear [.int x] w1 w2 := by
  refine JR.elim (P := fun w1 w2 => StpI l dC dI cyI cyJ cyZ cyS ad yX4_hear yX5_hear wsX4_hear wsX5_hear [.int x] w1 w2) hJ ?_
  intro tq ft L n th wo mk pt ac re tr tb un ky uk co lo uw far pp de rd rk dr t0 l0 z0 t1 l1 z1 t2 l2 z2 t3 l3 z3 c0 c1 c2 c3 rkm rs drm tp tj ra ul ro wt lom se pw sl fa pa dp ss sh hd hN hNR hth hF hK h0 h1 h2 h3
  have hn := hN.n12
  have hpt : ∀ p, p < n → pt p ≤ 6 := fun p hp => hN.p6 hp
  have hrk := hK.1
  have hkT := hK.2.1
  have hrkm := hK.2.2.1
  have hkM := hK.2.2.2
  have hwo := hF.1
  by_cases hx : vp_in x n
  · obtain ⟨a, ha, rfl⟩ := vp_in_of hx (by omega)
    have hpa := hN.p6 ha
    rcases (show pt a = 0 ∨ pt a = 1 ∨ 1 < pt a by omega) with hp | hp | hp
    · skip
      refine ⟨_, _, _, _, _, _, (fwI_C11 (l := l) (dC := dC) (dI := dI) (cyI := cyI) (cyJ := cyJ) (cyZ := cyZ) (cyS := cyS) (ad := ad) (S := Unit) tq ft L n th wo mk pt ac re tr tb un ky uk co lo uw far pp de rd rk dr t0 l0 z0 t1 l1 z1 t2 l2 z2 t3 l3 z3 c0 c1 c2 c3 (fun u => nI 31 * tq + nI 4) (fun u => ft) (fun u => n) (fun u => L) (fun u => mk) (fun u => pt) (fun u => ac) (fun u => far) (fun u => re) (fun u => tr) (Nat.le_of_ble_eq_true rfl) (Nat.le_of_ble_eq_true rfl) (c_X4_hear_2 l dC dI cyI cyJ cyZ cyS ad tq ft n L mk pt ac far re tr a (by exact hN) (by first | assumption | omega) (by first | assumption | omega))), (fwI_M3 (l := l) (dC := dC) (dI := dI) (cyI := cyI) (cyJ := cyJ) (cyZ := cyZ) (cyS := cyS) (ad := ad) (S := Unit) tq ft L n th wo mk pt rkm rs drm tp tj ra ul ro wt lom se pw sl fa pa dp ss sh hd (fun u => ft) (fun u => n) (fun u => L) (fun u => th) (fun u => rkm) (fun u => rs) (fun u => drm) (fun u => wo) (fun u => nI 31 * tq + nI 4) (fun u => mk) (fun u => pt) (fun u => tp) (fun u => tj) (Nat.le_of_ble_eq_true rfl) (Nat.le_of_ble_eq_true rfl) (c_X5_hear_k0 l dC dI cyI cyJ cyZ cyS ad ft n L th rkm rs drm wo tq mk pt tp tj a (by first | exact hn | omega) (by first | assumption | omega) (by first | assumption | omega) (by first | assumption | omega))), fun r u r' u' h h' => ?_⟩
      try dsimp only at h
      try dsimp only at h'
      exact ⟨by rw [h, h'], JR.mk (hN) (hNR) (hth) (hF) (hK) (h0) (h1) (h2) (h3)⟩
    · skip
      refine ⟨_, _, _, _, _, _, (fwI_C11 (l := l) (dC := dC) (dI := dI) (cyI := cyI) (cyJ := cyJ) (cyZ := cyZ) (cyS := cyS) (ad := ad) (S := Unit) tq ft L n th wo mk pt ac re tr tb un ky uk co lo uw far pp de rd rk dr t0 l0 z0 t1 l1 z1 t2 l2 z2 t3 l3 z3 c0 c1 c2 c3 (fun u => nI 31 * tq + nI 5) (fun u => ft) (fun u => n) (fun u => L) (fun u => mk) (fun u => pt) (fun u => ac) (fun u => far) (fun u => re) (fun u => tr) (Nat.le_of_ble_eq_true rfl) (Nat.le_of_ble_eq_true rfl) (c_X4_hear_3 l dC dI cyI cyJ cyZ cyS ad tq ft n L mk pt ac far re tr a (by exact hN) (by first | assumption | omega) (by first | assumption | omega))), (fwI_M3 (l := l) (dC := dC) (dI := dI) (cyI := cyI) (cyJ := cyJ) (cyZ := cyZ) (cyS := cyS) (ad := ad) (S := Unit) tq ft L n th wo mk pt rkm rs drm tp tj ra ul ro wt lom se pw sl fa pa dp ss sh hd (fun u => ft) (fun u => n) (fun u => L) (fun u => th) (fun u => rkm) (fun u => rs) (fun u => drm) (fun u => wo) (fun u => nI 31 * tq + nI 5) (fun u => mk) (fun u => pt) (fun u => tp) (fun u => tj) (Nat.le_of_ble_eq_true rfl) (Nat.le_of_ble_eq_true rfl) (c_X5_hear_k1 l dC dI cyI cyJ cyZ cyS ad ft n L th rkm rs drm wo tq mk pt tp tj a (by first | exact hn | omega) (by first | assumption | omega) (by first | assumption | omega) (by first | assumption | omega))), fun r u r' u' h h' => ?_⟩
      try dsimp only at h
      try dsimp only at h'
      exact ⟨by rw [h, h'], JR.mk (hN) (hNR) (hth) (hF) (hK) (h0) (h1) (h2) (h3)⟩
    · skip
      refine ⟨_, _, _, _, _, _, (fwI_C11 (l := l) (dC := dC) (dI := dI) (cyI := cyI) (cyJ := cyJ) (cyZ := cyZ) (cyS := cyS) (ad := ad) (S := Unit) tq ft L n th wo mk pt ac re tr tb un ky uk co lo uw far pp de rd rk dr t0 l0 z0 t1 l1 z1 t2 l2 z2 t3 l3 z3 c0 c1 c2 c3 (fun u => nI 31 * tq + nI 4) (fun u => ft) (fun u => n) (fun u => L) (fun u => mk) (fun u => pt) (fun u => ac) (fun u => far) (fun u => re) (fun u => tr) (Nat.le_of_ble_eq_true rfl) (Nat.le_of_ble_eq_true rfl) (c_X4_hear_2 l dC dI cyI cyJ cyZ cyS ad tq ft n L mk pt ac far re tr a (by exact hN) (by first | assumption | omega) (by first | assumption | omega))), (fwI_M3 (l := l) (dC := dC) (dI := dI) (cyI := cyI) (cyJ := cyJ) (cyZ := cyZ) (cyS := cyS) (ad := ad) (S := Unit) tq ft L n th wo mk pt rkm rs drm tp tj ra ul ro wt lom se pw sl fa pa dp ss sh hd (fun u => ft) (fun u => n) (fun u => L) (fun u => th) (fun u => rkm) (fun u => rs) (fun u => drm) (fun u => wo) (fun u => nI 31 * tq + nI 4) (fun u => mk) (fun u => pt) (fun u => tp) (fun u => tj) (Nat.le_of_ble_eq_true rfl) (Nat.le_of_ble_eq_true rfl) (c_X5_hear_k2 l dC dI cyI cyJ cyZ cyS ad ft n L th rkm rs drm wo tq mk pt tp tj a (by first | exact hn | omega) (by first | assumption | omega) (by first | assumption | omega) (by first | assumption | omega))), fun r u r' u' h h' => ?_⟩
      try dsimp only at h
      try dsimp only at h'
      exact ⟨by rw [h, h'], JR.mk (hN) (hNR) (hth) (hF) (hK) (h0) (h1) (h2) (h3)⟩
  · skip
    refine ⟨_, _, _, _, _, _, (fwI_C11 (l := l) (dC := dC) (dI := dI) (cyI := cyI) (cyJ := cyJ) (cyZ := cyZ) (cyS := cyS) (ad := ad) (S := Unit) tq ft L n th wo mk pt ac re tr tb un ky uk co lo uw far pp de rd rk dr t0 l0 z0 t1 l1 z1 t2 l2 z2 t3 l3 z3 c0 c1 c2 c3 (fun u => tq) (fun u => ft) (fun u => n) (fun u => L) (fun u => mk) (fun u => pt) (fun u => ac) (fun u => far) (fun u => re) (fun u => tr) (Nat.le_of_ble_eq_true rfl) (Nat.le_of_ble_eq_true rfl) (c_X4_hear_1 l dC dI cyI cyJ cyZ cyS ad tq ft n L mk pt ac far re tr x (by exact hN) (by first | assumption | omega))), (fwI_M3 (l := l) (dC := dC) (dI := dI) (cyI := cyI) (cyJ := cyJ) (cyZ := cyZ) (cyS := cyS) (ad := ad) (S := Unit) tq ft L n th wo mk pt rkm rs drm tp tj ra ul ro wt lom se pw sl fa pa dp ss sh hd (fun u => ft) (fun u => n) (fun u => L) (fun u => th) (fun u => rkm) (fun u => rs) (fun u => drm) (fun u => wo) (fun u => tq) (fun u => mk) (fun u => pt) (fun u => tp) (fun u => tj) (Nat.le_of_ble_eq_true rfl) (Nat.le_of_ble_eq_true rfl) (c_X5_hear_1 l dC dI cyI cyJ cyZ cyS ad ft n L th rkm rs drm wo tq mk pt tp tj x (by first | exact hn | omega) (by first | assumption | omega))), fun r u r' u' h h' => ?_⟩
    try dsimp only at h
    try dsimp only at h'
    exact ⟨by rw [h, h'], JR.mk (hN) (hNR) (hth) (hF) (hK) (h0) (h1) (h2) (h3)⟩
set_option maxHeartbeats 4000000 in
set_option maxRecDepth 100000 in
theorem s_as (l : Launch) (dC : Nat → ClassId) (dI : Nat → Nat → Nat) (cyI cyJ cyZ cyS : ClassId) (ad : Nat → Nat) (w1 w2 : va_W) (hJ : JR cyI cyJ cyZ cyS ad w1 w2) (x y : Int32) : StpI l dC dI cyI cyJ cyZ cyS ad yX4_as yX5_as wsX4_as wsX5_as [.int x, .int y] w1 w2 := by
  refine JR.elim (P := fun w1 w2 => StpI l dC dI cyI cyJ cyZ cyS ad yX4_as yX5_as wsX4_as wsX5_as [.int x, .int y] w1 w2) hJ ?_
  intro tq ft L n th wo mk pt ac re tr tb un ky uk co lo uw far pp de rd rk dr t0 l0 z0 t1 l1 z1 t2 l2 z2 t3 l3 z3 c0 c1 c2 c3 rkm rs drm tp tj ra ul ro wt lom se pw sl fa pa dp ss sh hd hN hNR hth hF hK h0 h1 h2 h3
  have hn := hN.n12
  have hpt : ∀ p, p < n → pt p ≤ 6 := fun p hp => hN.p6 hp
  have hrk := hK.1
  have hkT := hK.2.1
  have hrkm := hK.2.2.1
  have hkM := hK.2.2.2
  have hwo := hF.1
  by_cases hx : vp_in x n
  · obtain ⟨a, ha, rfl⟩ := vp_in_of hx (by omega)
    have hpa := hN.p6 ha
    by_cases hy : vp_in y 3
    · obtain ⟨k, hk, rfl⟩ := vp_in_of hy (by decide)
      obtain rfl | rfl | rfl : k = 0 ∨ k = 1 ∨ k = 2 := by omega
      · skip
        rcases (show pt a = 0 ∨ pt a = 1 ∨ 1 < pt a by omega) with hp | hp | hp
        · skip
          refine ⟨_, _, _, _, _, _, (fwI_C11 (l := l) (dC := dC) (dI := dI) (cyI := cyI) (cyJ := cyJ) (cyZ := cyZ) (cyS := cyS) (ad := ad) (S := Unit) tq ft L n th wo mk pt ac re tr tb un ky uk co lo uw far pp de rd rk dr t0 l0 z0 t1 l1 z1 t2 l2 z2 t3 l3 z3 c0 c1 c2 c3 (fun u => tq) (fun u => nI 0) (fun u => n) (fun u => L) (fun u => mk) (fun u => pt) (fun u => ac) (fun u => far) (fun u => re) (fun u => tr) (Nat.le_of_ble_eq_true rfl) (Nat.le_of_ble_eq_true rfl) (c_X4_as_k0y l dC dI cyI cyJ cyZ cyS ad tq ft n L mk pt ac far re tr a (by exact hN) (by first | assumption | omega))), (fwI_M3 (l := l) (dC := dC) (dI := dI) (cyI := cyI) (cyJ := cyJ) (cyZ := cyZ) (cyS := cyS) (ad := ad) (S := Unit) tq ft L n th wo mk pt rkm rs drm tp tj ra ul ro wt lom se pw sl fa pa dp ss sh hd (fun u => nI 0) (fun u => n) (fun u => L) (fun u => th) (fun u => rkm) (fun u => rs) (fun u => drm) (fun u => wo) (fun u => tq) (fun u => mk) (fun u => pt) (fun u => tp) (fun u => tj) (Nat.le_of_ble_eq_true rfl) (Nat.le_of_ble_eq_true rfl) (c_X5_as_k00 l dC dI cyI cyJ cyZ cyS ad ft n L th rkm rs drm wo tq mk pt tp tj a (by first | exact hn | omega) (by first | assumption | omega) (by first | assumption | omega) (by first | assumption | omega))), fun r u r' u' h h' => ?_⟩
          try dsimp only at h
          try dsimp only at h'
          exact ⟨by rw [h, h'], JR.mk (hN) (hNR) (hth) (hF) (hK) (h0) (h1) (h2) (h3)⟩
        · skip
          refine ⟨_, _, _, _, _, _, (fwI_C11 (l := l) (dC := dC) (dI := dI) (cyI := cyI) (cyJ := cyJ) (cyZ := cyZ) (cyS := cyS) (ad := ad) (S := Unit) tq ft L n th wo mk pt ac re tr tb un ky uk co lo uw far pp de rd rk dr t0 l0 z0 t1 l1 z1 t2 l2 z2 t3 l3 z3 c0 c1 c2 c3 (fun u => tq) (fun u => nI 0) (fun u => n) (fun u => L) (fun u => mk) (fun u => pt) (fun u => ac) (fun u => far) (fun u => re) (fun u => tr) (Nat.le_of_ble_eq_true rfl) (Nat.le_of_ble_eq_true rfl) (c_X4_as_k0y l dC dI cyI cyJ cyZ cyS ad tq ft n L mk pt ac far re tr a (by exact hN) (by first | assumption | omega))), (fwI_M3 (l := l) (dC := dC) (dI := dI) (cyI := cyI) (cyJ := cyJ) (cyZ := cyZ) (cyS := cyS) (ad := ad) (S := Unit) tq ft L n th wo mk pt rkm rs drm tp tj ra ul ro wt lom se pw sl fa pa dp ss sh hd (fun u => nI 0) (fun u => n) (fun u => L) (fun u => th) (fun u => rkm) (fun u => rs) (fun u => drm) (fun u => wo) (fun u => tq) (fun u => mk) (fun u => pt) (fun u => tp) (fun u => tj) (Nat.le_of_ble_eq_true rfl) (Nat.le_of_ble_eq_true rfl) (c_X5_as_k10 l dC dI cyI cyJ cyZ cyS ad ft n L th rkm rs drm wo tq mk pt tp tj a (by first | exact hn | omega) (by first | assumption | omega) (by first | assumption | omega) (by first | assumption | omega))), fun r u r' u' h h' => ?_⟩
          try dsimp only at h
          try dsimp only at h'
          exact ⟨by rw [h, h'], JR.mk (hN) (hNR) (hth) (hF) (hK) (h0) (h1) (h2) (h3)⟩
        · skip
          refine ⟨_, _, _, _, _, _, (fwI_C11 (l := l) (dC := dC) (dI := dI) (cyI := cyI) (cyJ := cyJ) (cyZ := cyZ) (cyS := cyS) (ad := ad) (S := Unit) tq ft L n th wo mk pt ac re tr tb un ky uk co lo uw far pp de rd rk dr t0 l0 z0 t1 l1 z1 t2 l2 z2 t3 l3 z3 c0 c1 c2 c3 (fun u => tq) (fun u => nI 0) (fun u => n) (fun u => L) (fun u => mk) (fun u => pt) (fun u => ac) (fun u => far) (fun u => re) (fun u => tr) (Nat.le_of_ble_eq_true rfl) (Nat.le_of_ble_eq_true rfl) (c_X4_as_k0y l dC dI cyI cyJ cyZ cyS ad tq ft n L mk pt ac far re tr a (by exact hN) (by first | assumption | omega))), (fwI_M3 (l := l) (dC := dC) (dI := dI) (cyI := cyI) (cyJ := cyJ) (cyZ := cyZ) (cyS := cyS) (ad := ad) (S := Unit) tq ft L n th wo mk pt rkm rs drm tp tj ra ul ro wt lom se pw sl fa pa dp ss sh hd (fun u => nI 0) (fun u => n) (fun u => L) (fun u => th) (fun u => rkm) (fun u => rs) (fun u => drm) (fun u => wo) (fun u => tq) (fun u => mk) (fun u => pt) (fun u => tp) (fun u => tj) (Nat.le_of_ble_eq_true rfl) (Nat.le_of_ble_eq_true rfl) (c_X5_as_k20 l dC dI cyI cyJ cyZ cyS ad ft n L th rkm rs drm wo tq mk pt tp tj a (by first | exact hn | omega) (by first | assumption | omega) (by first | assumption | omega) (by first | assumption | omega))), fun r u r' u' h h' => ?_⟩
          try dsimp only at h
          try dsimp only at h'
          exact ⟨by rw [h, h'], JR.mk (hN) (hNR) (hth) (hF) (hK) (h0) (h1) (h2) (h3)⟩
      · skip
        rcases (show pt a = 0 ∨ pt a = 1 ∨ 1 < pt a by omega) with hp | hp | hp
        · skip
          refine ⟨_, _, _, _, _, _, (fwI_C11 (l := l) (dC := dC) (dI := dI) (cyI := cyI) (cyJ := cyJ) (cyZ := cyZ) (cyS := cyS) (ad := ad) (S := Unit) tq ft L n th wo mk pt ac re tr tb un ky uk co lo uw far pp de rd rk dr t0 l0 z0 t1 l1 z1 t2 l2 z2 t3 l3 z3 c0 c1 c2 c3 (fun u => tq) (fun u => nI 2) (fun u => n) (fun u => L) (fun u => mk) (fun u => pt) (fun u => ac) (fun u => far) (fun u => re) (fun u => tr) (Nat.le_of_ble_eq_true rfl) (Nat.le_of_ble_eq_true rfl) (c_X4_as_k1n l dC dI cyI cyJ cyZ cyS ad tq ft n L mk pt ac far re tr a (by exact hN) (by first | assumption | omega) (by first | assumption | omega))), (fwI_M3 (l := l) (dC := dC) (dI := dI) (cyI := cyI) (cyJ := cyJ) (cyZ := cyZ) (cyS := cyS) (ad := ad) (S := Unit) tq ft L n th wo mk pt rkm rs drm tp tj ra ul ro wt lom se pw sl fa pa dp ss sh hd (fun u => nI 2) (fun u => n) (fun u => L) (fun u => th) (fun u => rkm) (fun u => rs) (fun u => drm) (fun u => wo) (fun u => tq) (fun u => mk) (fun u => pt) (fun u => tp) (fun u => tj) (Nat.le_of_ble_eq_true rfl) (Nat.le_of_ble_eq_true rfl) (c_X5_as_k01 l dC dI cyI cyJ cyZ cyS ad ft n L th rkm rs drm wo tq mk pt tp tj a (by first | exact hn | omega) (by first | assumption | omega) (by first | assumption | omega) (by first | assumption | omega))), fun r u r' u' h h' => ?_⟩
          try dsimp only at h
          try dsimp only at h'
          exact ⟨by rw [h, h'], JR.mk (hN) (hNR) (hth) (hF) (hK) (h0) (h1) (h2) (h3)⟩
        · skip
          refine ⟨_, _, _, _, _, _, (fwI_C11 (l := l) (dC := dC) (dI := dI) (cyI := cyI) (cyJ := cyJ) (cyZ := cyZ) (cyS := cyS) (ad := ad) (S := Unit) tq ft L n th wo mk pt ac re tr tb un ky uk co lo uw far pp de rd rk dr t0 l0 z0 t1 l1 z1 t2 l2 z2 t3 l3 z3 c0 c1 c2 c3 (fun u => tq) (fun u => nI 0) (fun u => n) (fun u => L) (fun u => mk) (fun u => pt) (fun u => ac) (fun u => far) (fun u => re) (fun u => tr) (Nat.le_of_ble_eq_true rfl) (Nat.le_of_ble_eq_true rfl) (c_X4_as_k1y l dC dI cyI cyJ cyZ cyS ad tq ft n L mk pt ac far re tr a (by exact hN) (by first | assumption | omega) (by first | assumption | omega))), (fwI_M3 (l := l) (dC := dC) (dI := dI) (cyI := cyI) (cyJ := cyJ) (cyZ := cyZ) (cyS := cyS) (ad := ad) (S := Unit) tq ft L n th wo mk pt rkm rs drm tp tj ra ul ro wt lom se pw sl fa pa dp ss sh hd (fun u => nI 0) (fun u => n) (fun u => L) (fun u => th) (fun u => rkm) (fun u => rs) (fun u => drm) (fun u => wo) (fun u => tq) (fun u => mk) (fun u => pt) (fun u => tp) (fun u => tj) (Nat.le_of_ble_eq_true rfl) (Nat.le_of_ble_eq_true rfl) (c_X5_as_k11 l dC dI cyI cyJ cyZ cyS ad ft n L th rkm rs drm wo tq mk pt tp tj a (by first | exact hn | omega) (by first | assumption | omega) (by first | assumption | omega) (by first | assumption | omega))), fun r u r' u' h h' => ?_⟩
          try dsimp only at h
          try dsimp only at h'
          exact ⟨by rw [h, h'], JR.mk (hN) (hNR) (hth) (hF) (hK) (h0) (h1) (h2) (h3)⟩
        · skip
          refine ⟨_, _, _, _, _, _, (fwI_C11 (l := l) (dC := dC) (dI := dI) (cyI := cyI) (cyJ := cyJ) (cyZ := cyZ) (cyS := cyS) (ad := ad) (S := Unit) tq ft L n th wo mk pt ac re tr tb un ky uk co lo uw far pp de rd rk dr t0 l0 z0 t1 l1 z1 t2 l2 z2 t3 l3 z3 c0 c1 c2 c3 (fun u => tq) (fun u => nI 0) (fun u => n) (fun u => L) (fun u => mk) (fun u => pt) (fun u => ac) (fun u => far) (fun u => re) (fun u => tr) (Nat.le_of_ble_eq_true rfl) (Nat.le_of_ble_eq_true rfl) (c_X4_as_k1y l dC dI cyI cyJ cyZ cyS ad tq ft n L mk pt ac far re tr a (by exact hN) (by first | assumption | omega) (by first | assumption | omega))), (fwI_M3 (l := l) (dC := dC) (dI := dI) (cyI := cyI) (cyJ := cyJ) (cyZ := cyZ) (cyS := cyS) (ad := ad) (S := Unit) tq ft L n th wo mk pt rkm rs drm tp tj ra ul ro wt lom se pw sl fa pa dp ss sh hd (fun u => nI 0) (fun u => n) (fun u => L) (fun u => th) (fun u => rkm) (fun u => rs) (fun u => drm) (fun u => wo) (fun u => tq) (fun u => mk) (fun u => pt) (fun u => tp) (fun u => tj) (Nat.le_of_ble_eq_true rfl) (Nat.le_of_ble_eq_true rfl) (c_X5_as_k21 l dC dI cyI cyJ cyZ cyS ad ft n L th rkm rs drm wo tq mk pt tp tj a (by first | exact hn | omega) (by first | assumption | omega) (by first | assumption | omega) (by first | assumption | omega))), fun r u r' u' h h' => ?_⟩
          try dsimp only at h
          try dsimp only at h'
          exact ⟨by rw [h, h'], JR.mk (hN) (hNR) (hth) (hF) (hK) (h0) (h1) (h2) (h3)⟩
      · skip
        rcases (show pt a = 0 ∨ pt a = 1 ∨ 1 < pt a by omega) with hp | hp | hp
        · skip
          refine ⟨_, _, _, _, _, _, (fwI_C11 (l := l) (dC := dC) (dI := dI) (cyI := cyI) (cyJ := cyJ) (cyZ := cyZ) (cyS := cyS) (ad := ad) (S := Unit) tq ft L n th wo mk pt ac re tr tb un ky uk co lo uw far pp de rd rk dr t0 l0 z0 t1 l1 z1 t2 l2 z2 t3 l3 z3 c0 c1 c2 c3 (fun u => tq) (fun u => nI 2) (fun u => n) (fun u => L) (fun u => mk) (fun u => pt) (fun u => ac) (fun u => far) (fun u => re) (fun u => tr) (Nat.le_of_ble_eq_true rfl) (Nat.le_of_ble_eq_true rfl) (c_X4_as_k2n l dC dI cyI cyJ cyZ cyS ad tq ft n L mk pt ac far re tr a (by exact hN) (by first | assumption | omega) (by first | assumption | omega))), (fwI_M3 (l := l) (dC := dC) (dI := dI) (cyI := cyI) (cyJ := cyJ) (cyZ := cyZ) (cyS := cyS) (ad := ad) (S := Unit) tq ft L n th wo mk pt rkm rs drm tp tj ra ul ro wt lom se pw sl fa pa dp ss sh hd (fun u => nI 2) (fun u => n) (fun u => L) (fun u => th) (fun u => rkm) (fun u => rs) (fun u => drm) (fun u => wo) (fun u => tq) (fun u => mk) (fun u => pt) (fun u => tp) (fun u => tj) (Nat.le_of_ble_eq_true rfl) (Nat.le_of_ble_eq_true rfl) (c_X5_as_k02 l dC dI cyI cyJ cyZ cyS ad ft n L th rkm rs drm wo tq mk pt tp tj a (by first | exact hn | omega) (by first | assumption | omega) (by first | assumption | omega) (by first | assumption | omega))), fun r u r' u' h h' => ?_⟩
          try dsimp only at h
          try dsimp only at h'
          exact ⟨by rw [h, h'], JR.mk (hN) (hNR) (hth) (hF) (hK) (h0) (h1) (h2) (h3)⟩
        · skip
          refine ⟨_, _, _, _, _, _, (fwI_C11 (l := l) (dC := dC) (dI := dI) (cyI := cyI) (cyJ := cyJ) (cyZ := cyZ) (cyS := cyS) (ad := ad) (S := Unit) tq ft L n th wo mk pt ac re tr tb un ky uk co lo uw far pp de rd rk dr t0 l0 z0 t1 l1 z1 t2 l2 z2 t3 l3 z3 c0 c1 c2 c3 (fun u => tq) (fun u => nI 0) (fun u => n) (fun u => L) (fun u => mk) (fun u => pt) (fun u => ac) (fun u => far) (fun u => re) (fun u => tr) (Nat.le_of_ble_eq_true rfl) (Nat.le_of_ble_eq_true rfl) (c_X4_as_k2y l dC dI cyI cyJ cyZ cyS ad tq ft n L mk pt ac far re tr a (by exact hN) (by first | assumption | omega) (by first | assumption | omega))), (fwI_M3 (l := l) (dC := dC) (dI := dI) (cyI := cyI) (cyJ := cyJ) (cyZ := cyZ) (cyS := cyS) (ad := ad) (S := Unit) tq ft L n th wo mk pt rkm rs drm tp tj ra ul ro wt lom se pw sl fa pa dp ss sh hd (fun u => nI 0) (fun u => n) (fun u => L) (fun u => th) (fun u => rkm) (fun u => rs) (fun u => drm) (fun u => wo) (fun u => tq) (fun u => mk) (fun u => pt) (fun u => tp) (fun u => tj) (Nat.le_of_ble_eq_true rfl) (Nat.le_of_ble_eq_true rfl) (c_X5_as_k12 l dC dI cyI cyJ cyZ cyS ad ft n L th rkm rs drm wo tq mk pt tp tj a (by first | exact hn | omega) (by first | assumption | omega) (by first | assumption | omega) (by first | assumption | omega))), fun r u r' u' h h' => ?_⟩
          try dsimp only at h
          try dsimp only at h'
          exact ⟨by rw [h, h'], JR.mk (hN) (hNR) (hth) (hF) (hK) (h0) (h1) (h2) (h3)⟩
        · skip
          refine ⟨_, _, _, _, _, _, (fwI_C11 (l := l) (dC := dC) (dI := dI) (cyI := cyI) (cyJ := cyJ) (cyZ := cyZ) (cyS := cyS) (ad := ad) (S := Unit) tq ft L n th wo mk pt ac re tr tb un ky uk co lo uw far pp de rd rk dr t0 l0 z0 t1 l1 z1 t2 l2 z2 t3 l3 z3 c0 c1 c2 c3 (fun u => tq) (fun u => nI 2) (fun u => n) (fun u => L) (fun u => mk) (fun u => pt) (fun u => ac) (fun u => far) (fun u => re) (fun u => tr) (Nat.le_of_ble_eq_true rfl) (Nat.le_of_ble_eq_true rfl) (c_X4_as_k2n l dC dI cyI cyJ cyZ cyS ad tq ft n L mk pt ac far re tr a (by exact hN) (by first | assumption | omega) (by first | assumption | omega))), (fwI_M3 (l := l) (dC := dC) (dI := dI) (cyI := cyI) (cyJ := cyJ) (cyZ := cyZ) (cyS := cyS) (ad := ad) (S := Unit) tq ft L n th wo mk pt rkm rs drm tp tj ra ul ro wt lom se pw sl fa pa dp ss sh hd (fun u => nI 2) (fun u => n) (fun u => L) (fun u => th) (fun u => rkm) (fun u => rs) (fun u => drm) (fun u => wo) (fun u => tq) (fun u => mk) (fun u => pt) (fun u => tp) (fun u => tj) (Nat.le_of_ble_eq_true rfl) (Nat.le_of_ble_eq_true rfl) (c_X5_as_k22 l dC dI cyI cyJ cyZ cyS ad ft n L th rkm rs drm wo tq mk pt tp tj a (by first | exact hn | omega) (by first | assumption | omega) (by first | assumption | omega) (by first | assumption | omega))), fun r u r' u' h h' => ?_⟩
          try dsimp only at h
          try dsimp only at h'
          exact ⟨by rw [h, h'], JR.mk (hN) (hNR) (hth) (hF) (hK) (h0) (h1) (h2) (h3)⟩
    · skip
      refine ⟨_, _, _, _, _, _, (fwI_C11 (l := l) (dC := dC) (dI := dI) (cyI := cyI) (cyJ := cyJ) (cyZ := cyZ) (cyS := cyS) (ad := ad) (S := Unit) tq ft L n th wo mk pt ac re tr tb un ky uk co lo uw far pp de rd rk dr t0 l0 z0 t1 l1 z1 t2 l2 z2 t3 l3 z3 c0 c1 c2 c3 (fun u => tq) (fun u => nI 0) (fun u => n) (fun u => L) (fun u => mk) (fun u => pt) (fun u => ac) (fun u => far) (fun u => re) (fun u => tr) (Nat.le_of_ble_eq_true rfl) (Nat.le_of_ble_eq_true rfl) (c_X4_as_2 l dC dI cyI cyJ cyZ cyS ad tq ft n L mk pt ac far re tr a (by exact hN) (by first | assumption | omega) y (by first | assumption | omega))), (fwI_M3 (l := l) (dC := dC) (dI := dI) (cyI := cyI) (cyJ := cyJ) (cyZ := cyZ) (cyS := cyS) (ad := ad) (S := Unit) tq ft L n th wo mk pt rkm rs drm tp tj ra ul ro wt lom se pw sl fa pa dp ss sh hd (fun u => nI 0) (fun u => n) (fun u => L) (fun u => th) (fun u => rkm) (fun u => rs) (fun u => drm) (fun u => wo) (fun u => tq) (fun u => mk) (fun u => pt) (fun u => tp) (fun u => tj) (Nat.le_of_ble_eq_true rfl) (Nat.le_of_ble_eq_true rfl) (c_X5_as_2 l dC dI cyI cyJ cyZ cyS ad ft n L th rkm rs drm wo tq mk pt tp tj a (by first | exact hn | omega) (by first | assumption | omega) (by first | assumption | omega) y (by first | assumption | omega))), fun r u r' u' h h' => ?_⟩
      try dsimp only at h
      try dsimp only at h'
      exact ⟨by rw [h, h'], JR.mk (hN) (hNR) (hth) (hF) (hK) (h0) (h1) (h2) (h3)⟩
  · skip
    refine ⟨_, _, _, _, _, _, (fwI_C11 (l := l) (dC := dC) (dI := dI) (cyI := cyI) (cyJ := cyJ) (cyZ := cyZ) (cyS := cyS) (ad := ad) (S := Unit) tq ft L n th wo mk pt ac re tr tb un ky uk co lo uw far pp de rd rk dr t0 l0 z0 t1 l1 z1 t2 l2 z2 t3 l3 z3 c0 c1 c2 c3 (fun u => tq) (fun u => nI 0) (fun u => n) (fun u => L) (fun u => mk) (fun u => pt) (fun u => ac) (fun u => far) (fun u => re) (fun u => tr) (Nat.le_of_ble_eq_true rfl) (Nat.le_of_ble_eq_true rfl) (c_X4_as_1 l dC dI cyI cyJ cyZ cyS ad tq ft n L mk pt ac far re tr x y (by exact hN) (by first | assumption | omega))), (fwI_M3 (l := l) (dC := dC) (dI := dI) (cyI := cyI) (cyJ := cyJ) (cyZ := cyZ) (cyS := cyS) (ad := ad) (S := Unit) tq ft L n th wo mk pt rkm rs drm tp tj ra ul ro wt lom se pw sl fa pa dp ss sh hd (fun u => nI 0) (fun u => n) (fun u => L) (fun u => th) (fun u => rkm) (fun u => rs) (fun u => drm) (fun u => wo) (fun u => tq) (fun u => mk) (fun u => pt) (fun u => tp) (fun u => tj) (Nat.le_of_ble_eq_true rfl) (Nat.le_of_ble_eq_true rfl) (c_X5_as_1 l dC dI cyI cyJ cyZ cyS ad ft n L th rkm rs drm wo tq mk pt tp tj x y (by first | exact hn | omega) (by first | assumption | omega))), fun r u r' u' h h' => ?_⟩
    try dsimp only at h
    try dsimp only at h'
    exact ⟨by rw [h, h'], JR.mk (hN) (hNR) (hth) (hF) (hK) (h0) (h1) (h2) (h3)⟩
set_option maxHeartbeats 4000000 in
set_option maxRecDepth 100000 in
theorem s_trace (l : Launch) (dC : Nat → ClassId) (dI : Nat → Nat → Nat) (cyI cyJ cyZ cyS : ClassId) (ad : Nat → Nat) (w1 w2 : va_W) (hJ : JR cyI cyJ cyZ cyS ad w1 w2)  : StpI l dC dI cyI cyJ cyZ cyS ad yX4_trace yX5_trace wsX4_trace wsX5_trace [] w1 w2 := by
  refine JR.elim (P := fun w1 w2 => StpI l dC dI cyI cyJ cyZ cyS ad yX4_trace yX5_trace wsX4_trace wsX5_trace [] w1 w2) hJ ?_
  intro tq ft L n th wo mk pt ac re tr tb un ky uk co lo uw far pp de rd rk dr t0 l0 z0 t1 l1 z1 t2 l2 z2 t3 l3 z3 c0 c1 c2 c3 rkm rs drm tp tj ra ul ro wt lom se pw sl fa pa dp ss sh hd hN hNR hth hF hK h0 h1 h2 h3
  have hn := hN.n12
  have hpt : ∀ p, p < n → pt p ≤ 6 := fun p hp => hN.p6 hp
  have hrk := hK.1
  have hkT := hK.2.1
  have hrkm := hK.2.2.1
  have hkM := hK.2.2.2
  have hwo := hF.1
  refine ⟨_, _, _, _, _, _, (fwI_C12 (l := l) (dC := dC) (dI := dI) (cyI := cyI) (cyJ := cyJ) (cyZ := cyZ) (cyS := cyS) (ad := ad) (S := Unit) tq ft L n th wo mk pt ac re tr tb un ky uk co lo uw far pp de rd rk dr t0 l0 z0 t1 l1 z1 t2 l2 z2 t3 l3 z3 c0 c1 c2 c3 (fun u => tq) (fun u => ft) (Nat.le_of_ble_eq_true rfl) (Nat.le_of_ble_eq_true rfl) (c_X4_trace_ l dC dI cyI cyJ cyZ cyS ad tq ft)), (fwI_M2 (l := l) (dC := dC) (dI := dI) (cyI := cyI) (cyJ := cyJ) (cyZ := cyZ) (cyS := cyS) (ad := ad) (S := Unit) tq ft L n th wo mk pt rkm rs drm tp tj ra ul ro wt lom se pw sl fa pa dp ss sh hd (fun u => ft) (fun u => n) (fun u => L) (fun u => th) (fun u => rkm) (fun u => rs) (fun u => drm) (fun u => wo) (fun u => tq) (Nat.le_of_ble_eq_true rfl) (Nat.le_of_ble_eq_true rfl) (c_X5_trace l dC dI cyI cyJ cyZ cyS ad ft n L th rkm rs drm wo tq)), fun r u r' u' h h' => ?_⟩
  try dsimp only at h
  try dsimp only at h'
  exact ⟨by rw [h, h'], JR.mk (hN) (hNR) (hth) (hF) (hK) (h0) (h1) (h2) (h3)⟩
set_option maxHeartbeats 4000000 in
set_option maxRecDepth 100000 in
theorem s_fault (l : Launch) (dC : Nat → ClassId) (dI : Nat → Nat → Nat) (cyI cyJ cyZ cyS : ClassId) (ad : Nat → Nat) (w1 w2 : va_W) (hJ : JR cyI cyJ cyZ cyS ad w1 w2)  : StpI l dC dI cyI cyJ cyZ cyS ad yX4_fault yX5_fault wsX4_fault wsX5_fault [] w1 w2 := by
  refine JR.elim (P := fun w1 w2 => StpI l dC dI cyI cyJ cyZ cyS ad yX4_fault yX5_fault wsX4_fault wsX5_fault [] w1 w2) hJ ?_
  intro tq ft L n th wo mk pt ac re tr tb un ky uk co lo uw far pp de rd rk dr t0 l0 z0 t1 l1 z1 t2 l2 z2 t3 l3 z3 c0 c1 c2 c3 rkm rs drm tp tj ra ul ro wt lom se pw sl fa pa dp ss sh hd hN hNR hth hF hK h0 h1 h2 h3
  have hn := hN.n12
  have hpt : ∀ p, p < n → pt p ≤ 6 := fun p hp => hN.p6 hp
  have hrk := hK.1
  have hkT := hK.2.1
  have hrkm := hK.2.2.1
  have hkM := hK.2.2.2
  have hwo := hF.1
  refine ⟨_, _, _, _, _, _, (fwI_C12 (l := l) (dC := dC) (dI := dI) (cyI := cyI) (cyJ := cyJ) (cyZ := cyZ) (cyS := cyS) (ad := ad) (S := Unit) tq ft L n th wo mk pt ac re tr tb un ky uk co lo uw far pp de rd rk dr t0 l0 z0 t1 l1 z1 t2 l2 z2 t3 l3 z3 c0 c1 c2 c3 (fun u => tq) (fun u => ft) (Nat.le_of_ble_eq_true rfl) (Nat.le_of_ble_eq_true rfl) (c_X4_fault_ l dC dI cyI cyJ cyZ cyS ad tq ft)), (fwI_M2 (l := l) (dC := dC) (dI := dI) (cyI := cyI) (cyJ := cyJ) (cyZ := cyZ) (cyS := cyS) (ad := ad) (S := Unit) tq ft L n th wo mk pt rkm rs drm tp tj ra ul ro wt lom se pw sl fa pa dp ss sh hd (fun u => ft) (fun u => n) (fun u => L) (fun u => th) (fun u => rkm) (fun u => rs) (fun u => drm) (fun u => wo) (fun u => tq) (Nat.le_of_ble_eq_true rfl) (Nat.le_of_ble_eq_true rfl) (c_X5_fault l dC dI cyI cyJ cyZ cyS ad ft n L th rkm rs drm wo tq)), fun r u r' u' h h' => ?_⟩
  try dsimp only at h
  try dsimp only at h'
  exact ⟨by rw [h, h'], JR.mk (hN) (hNR) (hth) (hF) (hK) (h0) (h1) (h2) (h3)⟩
set_option maxHeartbeats 4000000 in
set_option maxRecDepth 100000 in
theorem s_told (l : Launch) (dC : Nat → ClassId) (dI : Nat → Nat → Nat) (cyI cyJ cyZ cyS : ClassId) (ad : Nat → Nat) (w1 w2 : va_W) (hJ : JR cyI cyJ cyZ cyS ad w1 w2) (x : Int32) : StpI l dC dI cyI cyJ cyZ cyS ad yX4_told yX5_told wsX4_told wsX5_told [.int x] w1 w2 := by
  refine JR.elim (P := fun w1 w2 => StpI l dC dI cyI cyJ cyZ cyS ad yX4_told yX5_told wsX4_told wsX5_told [.int x] w1 w2) hJ ?_
  intro tq ft L n th wo mk pt ac re tr tb un ky uk co lo uw far pp de rd rk dr t0 l0 z0 t1 l1 z1 t2 l2 z2 t3 l3 z3 c0 c1 c2 c3 rkm rs drm tp tj ra ul ro wt lom se pw sl fa pa dp ss sh hd hN hNR hth hF hK h0 h1 h2 h3
  have hn := hN.n12
  have hpt : ∀ p, p < n → pt p ≤ 6 := fun p hp => hN.p6 hp
  have hrk := hK.1
  have hkT := hK.2.1
  have hrkm := hK.2.2.1
  have hkM := hK.2.2.2
  have hwo := hF.1
  by_cases hw0 : vp_in x 5
  · obtain ⟨k, hk, rfl⟩ := vp_in_of hw0 (by decide)
    obtain rfl | rfl | rfl | rfl | rfl : k = 0 ∨ k = 1 ∨ k = 2 ∨ k = 3 ∨ k = 4 := by omega
    · skip
      refine ⟨_, _, _, _, _, _, (fwI_C1 (l := l) (dC := dC) (dI := dI) (cyI := cyI) (cyJ := cyJ) (cyZ := cyZ) (cyS := cyS) (ad := ad) (S := Unit) tq ft L n th wo mk pt ac re tr tb un ky uk co lo uw far pp de rd rk dr t0 l0 z0 t1 l1 z1 t2 l2 z2 t3 l3 z3 c0 c1 c2 c3 (fun u => tq) (fun u => ft) (fun u => n) (fun u => L) (fun u => mk) (fun u => pt) (fun u => ac) (fun u => far) (fun u => re) (fun u => tr) (fun u => rd) (fun u => rk) (fun u => tb) (fun u => un) (fun u => ky) (fun u => uk) (fun u => th) (fun u => wo) (fun u => dr) (fun u => co) (fun u => pp) (fun u => de) (fun u => lo) (fun u => uw) (Nat.le_of_ble_eq_true rfl) (Nat.le_of_ble_eq_true rfl) (c_X4_told_0 l dC dI cyI cyJ cyZ cyS ad tq ft n L mk pt ac far re tr tb un ky uk rd rk th wo 0 co pp de lo uw dr)), (fwI_M13 (l := l) (dC := dC) (dI := dI) (cyI := cyI) (cyJ := cyJ) (cyZ := cyZ) (cyS := cyS) (ad := ad) (S := Unit) tq ft L n th wo mk pt rkm rs drm tp tj ra ul ro wt lom se pw sl fa pa dp ss sh hd (fun u => ft) (fun u => n) (fun u => L) (fun u => th) (fun u => rkm) (fun u => rs) (fun u => drm) (fun u => wo) (fun u => tq) (fun u => pt) (Nat.le_of_ble_eq_true rfl) (Nat.le_of_ble_eq_true rfl) (c_X5_told_0 l dC dI cyI cyJ cyZ cyS ad ft n L th rkm rs drm wo tq pt)), fun r u r' u' h h' => ?_⟩
      try dsimp only at h
      try dsimp only at h'
      exact ⟨by rw [h, h'], JR.mk (hN) (hNR) (hth) (hF) (hK) (h0) (h1) (h2) (h3)⟩
    · skip
      refine ⟨_, _, _, _, _, _, (fwI_C1 (l := l) (dC := dC) (dI := dI) (cyI := cyI) (cyJ := cyJ) (cyZ := cyZ) (cyS := cyS) (ad := ad) (S := Unit) tq ft L n th wo mk pt ac re tr tb un ky uk co lo uw far pp de rd rk dr t0 l0 z0 t1 l1 z1 t2 l2 z2 t3 l3 z3 c0 c1 c2 c3 (fun u => tq) (fun u => ft) (fun u => n) (fun u => L) (fun u => mk) (fun u => pt) (fun u => ac) (fun u => far) (fun u => re) (fun u => tr) (fun u => rd) (fun u => rk) (fun u => tb) (fun u => un) (fun u => ky) (fun u => uk) (fun u => th) (fun u => wo) (fun u => dr) (fun u => co) (fun u => pp) (fun u => de) (fun u => lo) (fun u => uw) (Nat.le_of_ble_eq_true rfl) (Nat.le_of_ble_eq_true rfl) (c_X4_told_1 l dC dI cyI cyJ cyZ cyS ad tq ft n L mk pt ac far re tr tb un ky uk rd rk th wo 0 co pp de lo uw dr)), (fwI_M13 (l := l) (dC := dC) (dI := dI) (cyI := cyI) (cyJ := cyJ) (cyZ := cyZ) (cyS := cyS) (ad := ad) (S := Unit) tq ft L n th wo mk pt rkm rs drm tp tj ra ul ro wt lom se pw sl fa pa dp ss sh hd (fun u => ft) (fun u => n) (fun u => L) (fun u => th) (fun u => rkm) (fun u => rs) (fun u => drm) (fun u => wo) (fun u => tq) (fun u => pt) (Nat.le_of_ble_eq_true rfl) (Nat.le_of_ble_eq_true rfl) (c_X5_told_1 l dC dI cyI cyJ cyZ cyS ad ft n L th rkm rs drm wo tq pt)), fun r u r' u' h h' => ?_⟩
      try dsimp only at h
      try dsimp only at h'
      exact ⟨by rw [h, h'], JR.mk (hN) (hNR) (hth) (hF) (hK) (h0) (h1) (h2) (h3)⟩
    · skip
      refine ⟨_, _, _, _, _, _, (fwI_C1 (l := l) (dC := dC) (dI := dI) (cyI := cyI) (cyJ := cyJ) (cyZ := cyZ) (cyS := cyS) (ad := ad) (S := (Nat → Nat) × (Nat → Nat) × (Nat → Nat) × (Nat → Nat) × Nat) tq ft L n th wo mk pt ac re tr tb un ky uk co lo uw far pp de rd rk dr t0 l0 z0 t1 l1 z1 t2 l2 z2 t3 l3 z3 c0 c1 c2 c3 (fun u => tq) (fun u => ft) (fun u => n) (fun u => L) (fun u => mk) (fun u => pt) (fun u => ac) (fun u => far) (fun u => re) (fun u => tr) (fun u => u.2.2.2.2) (fun u => 1) (fun u => u.1) (fun u => u.2.1) (fun u => u.2.2.1) (fun u => u.2.2.2.1) (fun u => th) (fun u => wo) (fun u => dr) (fun u => co) (fun u => pp) (fun u => de) (fun u => lo) (fun u => uw) (Nat.le_of_ble_eq_true rfl) (Nat.le_of_ble_eq_true rfl) (c_X4_told_2 l dC dI cyI cyJ cyZ cyS ad tq ft n L mk pt ac far re tr tb un ky uk rd rk th wo 0 co pp de lo uw dr (by exact hN) (by exact hrk) (by exact hkT))), (fwI_M6 (l := l) (dC := dC) (dI := dI) (cyI := cyI) (cyJ := cyJ) (cyZ := cyZ) (cyS := cyS) (ad := ad) (S := (Nat → Nat) × (Nat → Nat) × (Nat → Nat) × Nat) tq ft L n th wo mk pt rkm rs drm tp tj ra ul ro wt lom se pw sl fa pa dp ss sh hd (fun u => ft) (fun u => n) (fun u => L) (fun u => th) (fun u => 1) (fun u => nI (u.2.2.2)) (fun u => drm) (fun u => wo) (fun u => tq) (fun u => mk) (fun u => pt) (fun u => tp) (fun u => tj) (fun u => u.1) (fun u => u.2.1) (fun u => u.2.2.1) (Nat.le_of_ble_eq_true rfl) (Nat.le_of_ble_eq_true rfl) (c_X5_told_2 l dC dI cyI cyJ cyZ cyS ad ft n L th rkm rs drm wo tq mk pt tp tj ra ul ro ac (by exact hN) (by exact hNR) (by exact hrkm) (by exact hkM))), fun r u r' u' h h' => ?_⟩
      try dsimp only at h
      try dsimp only at h'
      obtain ⟨ra2, ul2, ro2, e2⟩ := u'
      obtain ⟨tb2, un2, ky2, uk2, rd2⟩ := u
      dsimp only at h h'
      obtain ⟨h', hM⟩ := h'
      obtain ⟨h, hT, -⟩ := h
      obtain ⟨te, t1, t2⟩ := tabs_eq hN hT hM
      subst te
      have he2 := hM.2.1
      exact ⟨by rw [h, h', t2 e2 (by omega), Nat.min_self, Nat.min_eq_right he2], JR.mk (hN) (hNR) (hth) (hF) (RkR.yes hT hM) (h0) (h1) (h2) (h3)⟩
    · skip
      refine ⟨_, _, _, _, _, _, (fwI_C1 (l := l) (dC := dC) (dI := dI) (cyI := cyI) (cyJ := cyJ) (cyZ := cyZ) (cyS := cyS) (ad := ad) (S := Unit) tq ft L n th wo mk pt ac re tr tb un ky uk co lo uw far pp de rd rk dr t0 l0 z0 t1 l1 z1 t2 l2 z2 t3 l3 z3 c0 c1 c2 c3 (fun u => tq) (fun u => ft) (fun u => n) (fun u => L) (fun u => mk) (fun u => pt) (fun u => ac) (fun u => far) (fun u => re) (fun u => tr) (fun u => rd) (fun u => rk) (fun u => tb) (fun u => un) (fun u => ky) (fun u => uk) (fun u => th) (fun u => wo) (fun u => dr) (fun u => co) (fun u => pp) (fun u => de) (fun u => lo) (fun u => uw) (Nat.le_of_ble_eq_true rfl) (Nat.le_of_ble_eq_true rfl) (c_X4_told_3 l dC dI cyI cyJ cyZ cyS ad tq ft n L mk pt ac far re tr tb un ky uk rd rk th wo 0 co pp de lo uw dr (by exact hN))), (fwI_M13 (l := l) (dC := dC) (dI := dI) (cyI := cyI) (cyJ := cyJ) (cyZ := cyZ) (cyS := cyS) (ad := ad) (S := Unit) tq ft L n th wo mk pt rkm rs drm tp tj ra ul ro wt lom se pw sl fa pa dp ss sh hd (fun u => ft) (fun u => n) (fun u => L) (fun u => th) (fun u => rkm) (fun u => rs) (fun u => drm) (fun u => wo) (fun u => tq) (fun u => pt) (Nat.le_of_ble_eq_true rfl) (Nat.le_of_ble_eq_true rfl) (c_X5_told_3 l dC dI cyI cyJ cyZ cyS ad ft n L th rkm rs drm wo tq pt (by first | exact hn | omega) (by exact hpt))), fun r u r' u' h h' => ?_⟩
      try dsimp only at h
      try dsimp only at h'
      exact ⟨by rw [h, h'], JR.mk (hN) (hNR) (hth) (hF) (hK) (h0) (h1) (h2) (h3)⟩
    · skip
      refine ⟨_, _, _, _, _, _, (fwI_C1 (l := l) (dC := dC) (dI := dI) (cyI := cyI) (cyJ := cyJ) (cyZ := cyZ) (cyS := cyS) (ad := ad) (S := (Nat → Int32) × (Nat → Nat)) tq ft L n th wo mk pt ac re tr tb un ky uk co lo uw far pp de rd rk dr t0 l0 z0 t1 l1 z1 t2 l2 z2 t3 l3 z3 c0 c1 c2 c3 (fun u => tq) (fun u => ft) (fun u => n) (fun u => L) (fun u => mk) (fun u => pt) (fun u => ac) (fun u => u.1) (fun u => u.2) (fun u => tr) (fun u => rd) (fun u => rk) (fun u => tb) (fun u => un) (fun u => ky) (fun u => uk) (fun u => th) (fun u => wo) (fun u => dr) (fun u => co) (fun u => pp) (fun u => de) (fun u => lo) (fun u => uw) (Nat.le_of_ble_eq_true rfl) (Nat.le_of_ble_eq_true rfl) (c_X4_told_4 l dC dI cyI cyJ cyZ cyS ad tq ft n L mk pt ac far re tr tb un ky uk rd rk th wo 0 co pp de lo uw dr (by exact hN))), (fwI_M5 (l := l) (dC := dC) (dI := dI) (cyI := cyI) (cyJ := cyJ) (cyZ := cyZ) (cyS := cyS) (ad := ad) (S := (Nat → Int32)) tq ft L n th wo mk pt rkm rs drm tp tj ra ul ro wt lom se pw sl fa pa dp ss sh hd (fun u => ft) (fun u => n) (fun u => L) (fun u => th) (fun u => rkm) (fun u => rs) (fun u => drm) (fun u => wo) (fun u => tq) (fun u => mk) (fun u => pt) (fun u => tp) (fun u => tj) (fun u => u) (Nat.le_of_ble_eq_true rfl) (Nat.le_of_ble_eq_true rfl) (c_X5_told_4 l dC dI cyI cyJ cyZ cyS ad ft n L th rkm rs drm wo tq mk pt tp tj fa ac (by exact hN) (by exact hNR))), fun r u r' u' h h' => ?_⟩
      try dsimp only at h
      try dsimp only at h'
      obtain ⟨far2, re2⟩ := u
      obtain ⟨fa2, rfl⟩ : ∃ z, z = u' := ⟨_, rfl⟩
      dsimp only at h h'
      obtain ⟨h, hFo⟩ := h
      obtain ⟨h', hR⟩ := h'
      exact ⟨by rw [h, h', cntR_congr (RI.eq hn hFo hR)], JR.mk (hN) (hNR) (hth) (hF) (hK) (h0) (h1) (h2) (h3)⟩
  · skip
    refine ⟨_, _, _, _, _, _, (fwI_C1 (l := l) (dC := dC) (dI := dI) (cyI := cyI) (cyJ := cyJ) (cyZ := cyZ) (cyS := cyS) (ad := ad) (S := Unit) tq ft L n th wo mk pt ac re tr tb un ky uk co lo uw far pp de rd rk dr t0 l0 z0 t1 l1 z1 t2 l2 z2 t3 l3 z3 c0 c1 c2 c3 (fun u => tq) (fun u => ft) (fun u => n) (fun u => L) (fun u => mk) (fun u => pt) (fun u => ac) (fun u => far) (fun u => re) (fun u => tr) (fun u => rd) (fun u => rk) (fun u => tb) (fun u => un) (fun u => ky) (fun u => uk) (fun u => th) (fun u => wo) (fun u => dr) (fun u => co) (fun u => pp) (fun u => de) (fun u => lo) (fun u => uw) (Nat.le_of_ble_eq_true rfl) (Nat.le_of_ble_eq_true rfl) (c_X4_told_5 l dC dI cyI cyJ cyZ cyS ad tq ft n L mk pt ac far re tr tb un ky uk rd rk th wo 0 co pp de lo uw dr x (by first | assumption | omega))), (fwI_M13 (l := l) (dC := dC) (dI := dI) (cyI := cyI) (cyJ := cyJ) (cyZ := cyZ) (cyS := cyS) (ad := ad) (S := Unit) tq ft L n th wo mk pt rkm rs drm tp tj ra ul ro wt lom se pw sl fa pa dp ss sh hd (fun u => ft) (fun u => n) (fun u => L) (fun u => th) (fun u => rkm) (fun u => rs) (fun u => drm) (fun u => wo) (fun u => tq) (fun u => pt) (Nat.le_of_ble_eq_true rfl) (Nat.le_of_ble_eq_true rfl) (c_X5_told_5 l dC dI cyI cyJ cyZ cyS ad ft n L th rkm rs drm wo tq pt x (by first | assumption | omega))), fun r u r' u' h h' => ?_⟩
    try dsimp only at h
    try dsimp only at h'
    exact ⟨by rw [h, h'], JR.mk (hN) (hNR) (hth) (hF) (hK) (h0) (h1) (h2) (h3)⟩
