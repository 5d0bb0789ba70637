set_option maxHeartbeats 4000000 in
set_option maxRecDepth 100000 in
theorem s_clear (l : Launch) (dC : Nat → ClassId) (dI : Nat → Nat → Nat) (cyI cyJ cyZ cyS : ClassId) (ad : Nat → Nat) (w1 w2 : va_W) (hJ : JR cyI cyJ cyZ cyS ad w1 w2)  : StpI l dC dI cyI cyJ cyZ cyS ad yX4_clear yX5_clear wsX4_clear wsX5_clear [] w1 w2 := by
  refine JR.elim (P := fun w1 w2 => StpI l dC dI cyI cyJ cyZ cyS ad yX4_clear yX5_clear wsX4_clear wsX5_clear [] w1 w2) hJ ?_
  intro tq ft L n th wo mk pt ac re tr tb un ky uk co lo uw far pp de rd rk dr t0 l0 z0 t1 l1 z1 t2 l2 z2 t3 l3 z3 c0 c1 c2 c3 rkm rs drm tp tj ra ul ro wt lom se pw sl fa pa dp ss sh hd hN hNR hth hF hK h0 h1 h2 h3
  have hn := hN.n12
  have hpt : ∀ p, p < n → pt p ≤ 6 := fun p hp => hN.p6 hp
  have hrk := hK.1
  have hkT := hK.2.1
  have hrkm := hK.2.2.1
  have hkM := hK.2.2.2
  have hwo := hF.1
  refine ⟨_, _, _, _, _, _, (fwI_C1 (l := l) (dC := dC) (dI := dI) (cyI := cyI) (cyJ := cyJ) (cyZ := cyZ) (cyS := cyS) (ad := ad) (S := Unit) tq ft L n th wo mk pt ac re tr tb un ky uk co lo uw far pp de rd rk dr t0 l0 z0 t1 l1 z1 t2 l2 z2 t3 l3 z3 c0 c1 c2 c3 (fun u => tq) (fun u => ft) (fun u => 0) (fun u => nI 0) (fun u => mk) (fun u => pt) (fun u => ac) (fun u => far) (fun u => re) (fun u => tr) (fun u => rd) (fun u => 0) (fun u => tb) (fun u => un) (fun u => ky) (fun u => uk) (fun u => 0) (fun u => wo) (fun u => dr) (fun u => co) (fun u => pp) (fun u => de) (fun u => lo) (fun u => uw) (Nat.le_of_ble_eq_true rfl) (Nat.le_of_ble_eq_true rfl) (c_X4_clear_ l dC dI cyI cyJ cyZ cyS ad tq ft n L mk pt ac far re tr tb un ky uk rd rk th wo 0 co pp de lo uw dr)), (fwI_M2 (l := l) (dC := dC) (dI := dI) (cyI := cyI) (cyJ := cyJ) (cyZ := cyZ) (cyS := cyS) (ad := ad) (S := Unit) tq ft L n th wo mk pt rkm rs drm tp tj ra ul ro wt lom se pw sl fa pa dp ss sh hd (fun u => ft) (fun u => 0) (fun u => nI 0) (fun u => 0) (fun u => 0) (fun u => rs) (fun u => drm) (fun u => wo) (fun u => tq) (Nat.le_of_ble_eq_true rfl) (Nat.le_of_ble_eq_true rfl) (c_X5_clear_ l dC dI cyI cyJ cyZ cyS ad ft n L th rkm rs drm wo tq)), fun r u r' u' h h' => ?_⟩
  try dsimp only at h
  try dsimp only at h'
  exact ⟨by rw [h, h'], JR.mk (NOk.zero _ _ _) (NR.zero _ _ _ _) (Nat.zero_le _) (hF) (RkR.no) (h0) (h1) (h2) (h3)⟩
set_option maxHeartbeats 4000000 in
set_option maxRecDepth 100000 in
theorem s_post (l : Launch) (dC : Nat → ClassId) (dI : Nat → Nat → Nat) (cyI cyJ cyZ cyS : ClassId) (ad : Nat → Nat) (w1 w2 : va_W) (hJ : JR cyI cyJ cyZ cyS ad w1 w2) (x : Int32) : StpI l dC dI cyI cyJ cyZ cyS ad yX4_post yX5_post wsX4_post wsX5_post [.int x] w1 w2 := by
  refine JR.elim (P := fun w1 w2 => StpI l dC dI cyI cyJ cyZ cyS ad yX4_post yX5_post wsX4_post wsX5_post [.int x] w1 w2) hJ ?_
  intro tq ft L n th wo mk pt ac re tr tb un ky uk co lo uw far pp de rd rk dr t0 l0 z0 t1 l1 z1 t2 l2 z2 t3 l3 z3 c0 c1 c2 c3 rkm rs drm tp tj ra ul ro wt lom se pw sl fa pa dp ss sh hd hN hNR hth hF hK h0 h1 h2 h3
  have hn := hN.n12
  have hpt : ∀ p, p < n → pt p ≤ 6 := fun p hp => hN.p6 hp
  have hrk := hK.1
  have hkT := hK.2.1
  have hrkm := hK.2.2.1
  have hkM := hK.2.2.2
  have hwo := hF.1
  by_cases hx : vp_in x 10
  · obtain ⟨k, hk, rfl⟩ := vp_in_of hx (by decide)
    by_cases hn2 : n = 12
    · skip
      refine ⟨_, _, _, _, _, _, (fwI_C1 (l := l) (dC := dC) (dI := dI) (cyI := cyI) (cyJ := cyJ) (cyZ := cyZ) (cyS := cyS) (ad := ad) (S := Unit) tq ft L n th wo mk pt ac re tr tb un ky uk co lo uw far pp de rd rk dr t0 l0 z0 t1 l1 z1 t2 l2 z2 t3 l3 z3 c0 c1 c2 c3 (fun u => tq) (fun u => ft) (fun u => n) (fun u => L) (fun u => mk) (fun u => pt) (fun u => ac) (fun u => far) (fun u => re) (fun u => tr) (fun u => rd) (fun u => rk) (fun u => tb) (fun u => un) (fun u => ky) (fun u => uk) (fun u => th) (fun u => wo) (fun u => dr) (fun u => co) (fun u => pp) (fun u => de) (fun u => lo) (fun u => uw) (Nat.le_of_ble_eq_true rfl) (Nat.le_of_ble_eq_true rfl) (c_X4_post_2 l dC dI cyI cyJ cyZ cyS ad tq ft n L mk pt ac far re tr tb un ky uk rd rk th wo 0 co pp de lo uw dr k (by first | assumption | omega) (by first | exact hn | omega))), (fwI_M3 (l := l) (dC := dC) (dI := dI) (cyI := cyI) (cyJ := cyJ) (cyZ := cyZ) (cyS := cyS) (ad := ad) (S := Unit) tq ft L n th wo mk pt rkm rs drm tp tj ra ul ro wt lom se pw sl fa pa dp ss sh hd (fun u => ft) (fun u => n) (fun u => L) (fun u => th) (fun u => rkm) (fun u => rs) (fun u => drm) (fun u => wo) (fun u => tq) (fun u => mk) (fun u => pt) (fun u => tp) (fun u => tj) (Nat.le_of_ble_eq_true rfl) (Nat.le_of_ble_eq_true rfl) (c_X5_post_2 l dC dI cyI cyJ cyZ cyS ad ft n L th rkm rs drm wo tq mk pt tp tj k (by first | assumption | omega) (by first | exact hn | omega))), fun r u r' u' h h' => ?_⟩
      try dsimp only at h
      try dsimp only at h'
      exact ⟨by rw [h, h'], JR.mk (hN) (hNR) (hth) (hF) (hK) (h0) (h1) (h2) (h3)⟩
    · have hn3 : n < 12 := by omega
      refine ⟨_, _, _, _, _, _, (fwI_C1 (l := l) (dC := dC) (dI := dI) (cyI := cyI) (cyJ := cyJ) (cyZ := cyZ) (cyS := cyS) (ad := ad) (S := Unit) tq ft L n th wo mk pt ac re tr tb un ky uk co lo uw far pp de rd rk dr t0 l0 z0 t1 l1 z1 t2 l2 z2 t3 l3 z3 c0 c1 c2 c3 (fun u => tq) (fun u => ft) (fun u => n + 1) (fun u => L) (fun u => va_up mk n k) (fun u => va_up pt n 0) (fun u => ac) (fun u => far) (fun u => re) (fun u => tr) (fun u => rd) (fun u => 0) (fun u => tb) (fun u => un) (fun u => ky) (fun u => uk) (fun u => 0) (fun u => wo) (fun u => dr) (fun u => co) (fun u => pp) (fun u => de) (fun u => lo) (fun u => uw) (Nat.le_of_ble_eq_true rfl) (Nat.le_of_ble_eq_true rfl) (c_X4_post_3 l dC dI cyI cyJ cyZ cyS ad tq ft n L mk pt ac far re tr tb un ky uk rd rk th wo 0 co pp de lo uw dr k (by first | assumption | omega) (by first | exact hn | omega))), (fwI_M3 (l := l) (dC := dC) (dI := dI) (cyI := cyI) (cyJ := cyJ) (cyZ := cyZ) (cyS := cyS) (ad := ad) (S := Unit) tq ft L n th wo mk pt rkm rs drm tp tj ra ul ro wt lom se pw sl fa pa dp ss sh hd (fun u => ft) (fun u => n + 1) (fun u => L) (fun u => 0) (fun u => 0) (fun u => rs) (fun u => drm) (fun u => wo) (fun u => tq) (fun u => va_up mk n k) (fun u => va_up pt n 0) (fun u => tp) (fun u => tj) (Nat.le_of_ble_eq_true rfl) (Nat.le_of_ble_eq_true rfl) (c_X5_post_3 l dC dI cyI cyJ cyZ cyS ad ft n L th rkm rs drm wo tq mk pt tp tj k (by first | assumption | omega) (by first | exact hn | omega))), fun r u r' u' h h' => ?_⟩
      try dsimp only at h
      try dsimp only at h'
      exact ⟨by rw [h, h'], JR.mk (hN.post hn3 hk) (hNR.post) (Nat.zero_le _) (hF) (RkR.no) (h0) (h1) (h2) (h3)⟩
  · skip
    refine ⟨_, _, _, _, _, _, (fwI_C1 (l := l) (dC := dC) (dI := dI) (cyI := cyI) (cyJ := cyJ) (cyZ := cyZ) (cyS := cyS) (ad := ad) (S := Unit) tq ft L n th wo mk pt ac re tr tb un ky uk co lo uw far pp de rd rk dr t0 l0 z0 t1 l1 z1 t2 l2 z2 t3 l3 z3 c0 c1 c2 c3 (fun u => tq) (fun u => ft) (fun u => n) (fun u => L) (fun u => mk) (fun u => pt) (fun u => ac) (fun u => far) (fun u => re) (fun u => tr) (fun u => rd) (fun u => rk) (fun u => tb) (fun u => un) (fun u => ky) (fun u => uk) (fun u => th) (fun u => wo) (fun u => dr) (fun u => co) (fun u => pp) (fun u => de) (fun u => lo) (fun u => uw) (Nat.le_of_ble_eq_true rfl) (Nat.le_of_ble_eq_true rfl) (c_X4_post_1 l dC dI cyI cyJ cyZ cyS ad tq ft n L mk pt ac far re tr tb un ky uk rd rk th wo 0 co pp de lo uw dr x (by first | assumption | omega))), (fwI_M3 (l := l) (dC := dC) (dI := dI) (cyI := cyI) (cyJ := cyJ) (cyZ := cyZ) (cyS := cyS) (ad := ad) (S := Unit) tq ft L n th wo mk pt rkm rs drm tp tj ra ul ro wt lom se pw sl fa pa dp ss sh hd (fun u => ft) (fun u => n) (fun u => L) (fun u => th) (fun u => rkm) (fun u => rs) (fun u => drm) (fun u => wo) (fun u => tq) (fun u => mk) (fun u => pt) (fun u => tp) (fun u => tj) (Nat.le_of_ble_eq_true rfl) (Nat.le_of_ble_eq_true rfl) (c_X5_post_1 l dC dI cyI cyJ cyZ cyS ad ft n L th rkm rs drm wo tq mk pt tp tj x (by first | assumption | omega))), fun r u r' u' h h' => ?_⟩
    try dsimp only at h
    try dsimp only at h'
    exact ⟨by rw [h, h'], JR.mk (hN) (hNR) (hth) (hF) (hK) (h0) (h1) (h2) (h3)⟩
set_option maxHeartbeats 4000000 in
set_option maxRecDepth 100000 in
theorem s_mark (l : Launch) (dC : Nat → ClassId) (dI : Nat → Nat → Nat) (cyI cyJ cyZ cyS : ClassId) (ad : Nat → Nat) (w1 w2 : va_W) (hJ : JR cyI cyJ cyZ cyS ad w1 w2) (x y : Int32) : StpI l dC dI cyI cyJ cyZ cyS ad yX4_mark yX5_mark wsX4_mark wsX5_mark [.int x, .int y] w1 w2 := by
  refine JR.elim (P := fun w1 w2 => StpI l dC dI cyI cyJ cyZ cyS ad yX4_mark yX5_mark wsX4_mark wsX5_mark [.int x, .int y] w1 w2) hJ ?_
  intro tq ft L n th wo mk pt ac re tr tb un ky uk co lo uw far pp de rd rk dr t0 l0 z0 t1 l1 z1 t2 l2 z2 t3 l3 z3 c0 c1 c2 c3 rkm rs drm tp tj ra ul ro wt lom se pw sl fa pa dp ss sh hd hN hNR hth hF hK h0 h1 h2 h3
  have hn := hN.n12
  have hpt : ∀ p, p < n → pt p ≤ 6 := fun p hp => hN.p6 hp
  have hrk := hK.1
  have hkT := hK.2.1
  have hrkm := hK.2.2.1
  have hkM := hK.2.2.2
  have hwo := hF.1
  by_cases hx : vp_in x n
  · obtain ⟨a, ha, rfl⟩ := vp_in_of hx (by omega)
    by_cases hy : vp_in y 10
    · obtain ⟨k, hk, rfl⟩ := vp_in_of hy (by decide)
      refine ⟨_, _, _, _, _, _, (fwI_C1 (l := l) (dC := dC) (dI := dI) (cyI := cyI) (cyJ := cyJ) (cyZ := cyZ) (cyS := cyS) (ad := ad) (S := Unit) tq ft L n th wo mk pt ac re tr tb un ky uk co lo uw far pp de rd rk dr t0 l0 z0 t1 l1 z1 t2 l2 z2 t3 l3 z3 c0 c1 c2 c3 (fun u => tq) (fun u => ft) (fun u => n) (fun u => L) (fun u => va_up mk a k) (fun u => pt) (fun u => ac) (fun u => far) (fun u => re) (fun u => tr) (fun u => rd) (fun u => 0) (fun u => tb) (fun u => un) (fun u => ky) (fun u => uk) (fun u => th) (fun u => wo) (fun u => dr) (fun u => co) (fun u => pp) (fun u => de) (fun u => lo) (fun u => uw) (Nat.le_of_ble_eq_true rfl) (Nat.le_of_ble_eq_true rfl) (c_X4_mark_3 l dC dI cyI cyJ cyZ cyS ad tq ft n L mk pt ac far re tr tb un ky uk rd rk th wo 0 co pp de lo uw dr a k (by first | exact hn | omega) (by first | assumption | omega) (by first | assumption | omega))), (fwI_M3 (l := l) (dC := dC) (dI := dI) (cyI := cyI) (cyJ := cyJ) (cyZ := cyZ) (cyS := cyS) (ad := ad) (S := Unit) tq ft L n th wo mk pt rkm rs drm tp tj ra ul ro wt lom se pw sl fa pa dp ss sh hd (fun u => ft) (fun u => n) (fun u => L) (fun u => th) (fun u => 0) (fun u => rs) (fun u => drm) (fun u => wo) (fun u => tq) (fun u => va_up mk a k) (fun u => pt) (fun u => tp) (fun u => tj) (Nat.le_of_ble_eq_true rfl) (Nat.le_of_ble_eq_true rfl) (c_X5_mark_3 l dC dI cyI cyJ cyZ cyS ad ft n L th rkm rs drm wo tq mk pt tp tj a k (by first | exact hn | omega) (by first | assumption | omega) (by first | assumption | omega))), fun r u r' u' h h' => ?_⟩
      try dsimp only at h
      try dsimp only at h'
      exact ⟨by rw [h, h'], JR.mk (hN.mark hk) (hNR) (hth) (hF) (RkR.no) (h0) (h1) (h2) (h3)⟩
    · skip
      refine ⟨_, _, _, _, _, _, (fwI_C1 (l := l) (dC := dC) (dI := dI) (cyI := cyI) (cyJ := cyJ) (cyZ := cyZ) (cyS := cyS) (ad := ad) (S := Unit) tq ft L n th wo mk pt ac re tr tb un ky uk co lo uw far pp de rd rk dr t0 l0 z0 t1 l1 z1 t2 l2 z2 t3 l3 z3 c0 c1 c2 c3 (fun u => tq) (fun u => ft) (fun u => n) (fun u => L) (fun u => mk) (fun u => pt) (fun u => ac) (fun u => far) (fun u => re) (fun u => tr) (fun u => rd) (fun u => rk) (fun u => tb) (fun u => un) (fun u => ky) (fun u => uk) (fun u => th) (fun u => wo) (fun u => dr) (fun u => co) (fun u => pp) (fun u => de) (fun u => lo) (fun u => uw) (Nat.le_of_ble_eq_true rfl) (Nat.le_of_ble_eq_true rfl) (c_X4_mark_2 l dC dI cyI cyJ cyZ cyS ad tq ft n L mk pt ac far re tr tb un ky uk rd rk th wo 0 co pp de lo uw dr a y (by first | exact hn | omega) (by first | assumption | omega) (by first | assumption | omega))), (fwI_M3 (l := l) (dC := dC) (dI := dI) (cyI := cyI) (cyJ := cyJ) (cyZ := cyZ) (cyS := cyS) (ad := ad) (S := Unit) tq ft L n th wo mk pt rkm rs drm tp tj ra ul ro wt lom se pw sl fa pa dp ss sh hd (fun u => ft) (fun u => n) (fun u => L) (fun u => th) (fun u => rkm) (fun u => rs) (fun u => drm) (fun u => wo) (fun u => tq) (fun u => mk) (fun u => pt) (fun u => tp) (fun u => tj) (Nat.le_of_ble_eq_true rfl) (Nat.le_of_ble_eq_true rfl) (c_X5_mark_2 l dC dI cyI cyJ cyZ cyS ad ft n L th rkm rs drm wo tq mk pt tp tj a y (by first | exact hn | omega) (by first | assumption | omega) (by first | assumption | omega))), fun r u r' u' h h' => ?_⟩
      try dsimp only at h
      try dsimp only at h'
      exact ⟨by rw [h, h'], JR.mk (hN) (hNR) (hth) (hF) (hK) (h0) (h1) (h2) (h3)⟩
  · skip
    refine ⟨_, _, _, _, _, _, (fwI_C1 (l := l) (dC := dC) (dI := dI) (cyI := cyI) (cyJ := cyJ) (cyZ := cyZ) (cyS := cyS) (ad := ad) (S := Unit) tq ft L n th wo mk pt ac re tr tb un ky uk co lo uw far pp de rd rk dr t0 l0 z0 t1 l1 z1 t2 l2 z2 t3 l3 z3 c0 c1 c2 c3 (fun u => tq) (fun u => ft) (fun u => n) (fun u => L) (fun u => mk) (fun u => pt) (fun u => ac) (fun u => far) (fun u => re) (fun u => tr) (fun u => rd) (fun u => rk) (fun u => tb) (fun u => un) (fun u => ky) (fun u => uk) (fun u => th) (fun u => wo) (fun u => dr) (fun u => co) (fun u => pp) (fun u => de) (fun u => lo) (fun u => uw) (Nat.le_of_ble_eq_true rfl) (Nat.le_of_ble_eq_true rfl) (c_X4_mark_1 l dC dI cyI cyJ cyZ cyS ad tq ft n L mk pt ac far re tr tb un ky uk rd rk th wo 0 co pp de lo uw dr x y (by first | exact hn | omega) (by first | assumption | omega))), (fwI_M3 (l := l) (dC := dC) (dI := dI) (cyI := cyI) (cyJ := cyJ) (cyZ := cyZ) (cyS := cyS) (ad := ad) (S := Unit) tq ft L n th wo mk pt rkm rs drm tp tj ra ul ro wt lom se pw sl fa pa dp ss sh hd (fun u => ft) (fun u => n) (fun u => L) (fun u => th) (fun u => rkm) (fun u => rs) (fun u => drm) (fun u => wo) (fun u => tq) (fun u => mk) (fun u => pt) (fun u => tp) (fun u => tj) (Nat.le_of_ble_eq_true rfl) (Nat.le_of_ble_eq_true rfl) (c_X5_mark_1 l dC dI cyI cyJ cyZ cyS ad ft n L th rkm rs drm wo tq mk pt tp tj x y (by first | exact hn | omega) (by first | assumption | omega))), fun r u r' u' h h' => ?_⟩
    try dsimp only at h
    try dsimp only at h'
    exact ⟨by rw [h, h'], JR.mk (hN) (hNR) (hth) (hF) (hK) (h0) (h1) (h2) (h3)⟩
set_option maxHeartbeats 4000000 in
set_option maxRecDepth 100000 in
theorem s_line (l : Launch) (dC : Nat → ClassId) (dI : Nat → Nat → Nat) (cyI cyJ cyZ cyS : ClassId) (ad : Nat → Nat) (w1 w2 : va_W) (hJ : JR cyI cyJ cyZ cyS ad w1 w2) (x y : Int32) : StpI l dC dI cyI cyJ cyZ cyS ad yX4_line yX5_line wsX4_line wsX5_line [.int x, .int y] w1 w2 := by
  refine JR.elim (P := fun w1 w2 => StpI l dC dI cyI cyJ cyZ cyS ad yX4_line yX5_line wsX4_line wsX5_line [.int x, .int y] w1 w2) hJ ?_
  intro tq ft L n th wo mk pt ac re tr tb un ky uk co lo uw far pp de rd rk dr t0 l0 z0 t1 l1 z1 t2 l2 z2 t3 l3 z3 c0 c1 c2 c3 rkm rs drm tp tj ra ul ro wt lom se pw sl fa pa dp ss sh hd hN hNR hth hF hK h0 h1 h2 h3
  have hn := hN.n12
  have hpt : ∀ p, p < n → pt p ≤ 6 := fun p hp => hN.p6 hp
  have hrk := hK.1
  have hkT := hK.2.1
  have hrkm := hK.2.2.1
  have hkM := hK.2.2.2
  have hwo := hF.1
  by_cases hz : rfu n pt x y = 0
  · obtain ⟨a, b, rfl, rfl, ha, hb, hab, ha6, hb6⟩ := rfu_0 hn hz
    refine ⟨_, _, _, _, _, _, (fwI_C1 (l := l) (dC := dC) (dI := dI) (cyI := cyI) (cyJ := cyJ) (cyZ := cyZ) (cyS := cyS) (ad := ad) (S := Unit) tq ft L n th wo mk pt ac re tr tb un ky uk co lo uw far pp de rd rk dr t0 l0 z0 t1 l1 z1 t2 l2 z2 t3 l3 z3 c0 c1 c2 c3 (fun u => tq) (fun u => ft) (fun u => n) (fun u => L + nI 1) (fun u => mk) (fun u => jPt pt a b) (fun u => jAc pt ac a b) (fun u => far) (fun u => re) (fun u => tr) (fun u => rd) (fun u => 0) (fun u => tb) (fun u => un) (fun u => ky) (fun u => uk) (fun u => 0) (fun u => wo) (fun u => dr) (fun u => co) (fun u => pp) (fun u => de) (fun u => lo) (fun u => uw) (Nat.le_of_ble_eq_true rfl) (Nat.le_of_ble_eq_true rfl) (c_X4_line_2 l dC dI cyI cyJ cyZ cyS ad tq ft n L mk pt ac far re tr tb un ky uk rd rk th wo 0 co pp de lo uw dr a b (by first | exact hn | omega) (by exact hpt) (by first | assumption | omega) (by first | assumption | omega) (by first | assumption | omega) (by first | assumption | omega) (by first | assumption | omega))), (fwI_M3 (l := l) (dC := dC) (dI := dI) (cyI := cyI) (cyJ := cyJ) (cyZ := cyZ) (cyS := cyS) (ad := ad) (S := Unit) tq ft L n th wo mk pt rkm rs drm tp tj ra ul ro wt lom se pw sl fa pa dp ss sh hd (fun u => ft) (fun u => n) (fun u => L + nI 1) (fun u => 0) (fun u => 0) (fun u => rs) (fun u => drm) (fun u => wo) (fun u => tq) (fun u => mk) (fun u => jPt pt a b) (fun u => lkP tp a (pt a) b (pt b)) (fun u => lkJ tj a (pt a) b (pt b)) (Nat.le_of_ble_eq_true rfl) (Nat.le_of_ble_eq_true rfl) (c_X5_line_2 l dC dI cyI cyJ cyZ cyS ad ft n L th rkm rs drm wo tq mk pt tp tj a b (by first | exact hn | omega) (by exact hpt) (by first | assumption | omega) (by first | assumption | omega) (by first | assumption | omega) (by first | assumption | omega) (by first | assumption | omega))), fun r u r' u' h h' => ?_⟩
    try dsimp only at h
    try dsimp only at h'
    exact ⟨by rw [h, h'], JR.mk (hN.join ha hb hab ha6 hb6) (NR.join hN hNR ha hb hab ha6 hb6) (Nat.zero_le _) (hF) (RkR.no) (h0) (h1) (h2) (h3)⟩
  · skip
    refine ⟨_, _, _, _, _, _, (fwI_C1 (l := l) (dC := dC) (dI := dI) (cyI := cyI) (cyJ := cyJ) (cyZ := cyZ) (cyS := cyS) (ad := ad) (S := Unit) tq ft L n th wo mk pt ac re tr tb un ky uk co lo uw far pp de rd rk dr t0 l0 z0 t1 l1 z1 t2 l2 z2 t3 l3 z3 c0 c1 c2 c3 (fun u => tq) (fun u => ft) (fun u => n) (fun u => L) (fun u => mk) (fun u => pt) (fun u => ac) (fun u => far) (fun u => re) (fun u => tr) (fun u => rd) (fun u => rk) (fun u => tb) (fun u => un) (fun u => ky) (fun u => uk) (fun u => th) (fun u => wo) (fun u => dr) (fun u => co) (fun u => pp) (fun u => de) (fun u => lo) (fun u => uw) (Nat.le_of_ble_eq_true rfl) (Nat.le_of_ble_eq_true rfl) (c_X4_line_1 l dC dI cyI cyJ cyZ cyS ad tq ft n L mk pt ac far re tr tb un ky uk rd rk th wo 0 co pp de lo uw dr x y (by first | exact hn | omega) (by exact hpt) (by first | assumption | omega))), (fwI_M3 (l := l) (dC := dC) (dI := dI) (cyI := cyI) (cyJ := cyJ) (cyZ := cyZ) (cyS := cyS) (ad := ad) (S := Unit) tq ft L n th wo mk pt rkm rs drm tp tj ra ul ro wt lom se pw sl fa pa dp ss sh hd (fun u => ft) (fun u => n) (fun u => L) (fun u => th) (fun u => rkm) (fun u => rs) (fun u => drm) (fun u => wo) (fun u => tq) (fun u => mk) (fun u => pt) (fun u => tp) (fun u => tj) (Nat.le_of_ble_eq_true rfl) (Nat.le_of_ble_eq_true rfl) (c_X5_line_1 l dC dI cyI cyJ cyZ cyS ad ft n L th rkm rs drm wo tq mk pt tp tj x y (by first | exact hn | omega) (by exact hpt) (by first | assumption | omega))), fun r u r' u' h h' => ?_⟩
    try dsimp only at h
    try dsimp only at h'
    exact ⟨by rw [h, h'], JR.mk (hN) (hNR) (hth) (hF) (hK) (h0) (h1) (h2) (h3)⟩
set_option maxHeartbeats 4000000 in
set_option maxRecDepth 100000 in
theorem s_swap (l : Launch) (dC : Nat → ClassId) (dI : Nat → Nat → Nat) (cyI cyJ cyZ cyS : ClassId) (ad : Nat → Nat) (w1 w2 : va_W) (hJ : JR cyI cyJ cyZ cyS ad w1 w2) (x y z : Int32) : StpI l dC dI cyI cyJ cyZ cyS ad yX4_swap yX5_swap wsX4_swap wsX5_swap [.int x, .int y, .int z] w1 w2 := by
  refine JR.elim (P := fun w1 w2 => StpI l dC dI cyI cyJ cyZ cyS ad yX4_swap yX5_swap wsX4_swap wsX5_swap [.int x, .int y, .int z] w1 w2) hJ ?_
  intro tq ft L n th wo mk pt ac re tr tb un ky uk co lo uw far pp de rd rk dr t0 l0 z0 t1 l1 z1 t2 l2 z2 t3 l3 z3 c0 c1 c2 c3 rkm rs drm tp tj ra ul ro wt lom se pw sl fa pa dp ss sh hd hN hNR hth hF hK h0 h1 h2 h3
  have hn := hN.n12
  have hpt : ∀ p, p < n → pt p ≤ 6 := fun p hp => hN.p6 hp
  have hrk := hK.1
  have hkT := hK.2.1
  have hrkm := hK.2.2.1
  have hkM := hK.2.2.2
  have hwo := hF.1
  by_cases hx : isPt n pt x y
  · obtain ⟨a, i, rfl, rfl, ha, hi⟩ := hx
    have e1 := hNR.end hN ha hi
    by_cases hx : isPt n pt (nI a) z
    · obtain ⟨a2, j, ea, rfl, ha2, hj⟩ := hx
      obtain rfl : a = a2 := (nI_eq (by omega) (by omega)).mp ea
      have e2 := hNR.end hN ha hj
      have hs1 : 6 * tp (6 * a + i) + tj (6 * a + i) < 72 := by omega
      have hs2 : 6 * tp (6 * a + j) + tj (6 * a + j) < 72 := by omega
      by_cases hij : i = j
      · skip
        refine ⟨_, _, _, _, _, _, (fwI_C1 (l := l) (dC := dC) (dI := dI) (cyI := cyI) (cyJ := cyJ) (cyZ := cyZ) (cyS := cyS) (ad := ad) (S := Unit) tq ft L n th wo mk pt ac re tr tb un ky uk co lo uw far pp de rd rk dr t0 l0 z0 t1 l1 z1 t2 l2 z2 t3 l3 z3 c0 c1 c2 c3 (fun u => tq) (fun u => ft) (fun u => n) (fun u => L) (fun u => mk) (fun u => pt) (fun u => ac) (fun u => far) (fun u => re) (fun u => tr) (fun u => rd) (fun u => 0) (fun u => tb) (fun u => un) (fun u => ky) (fun u => uk) (fun u => 0) (fun u => wo) (fun u => dr) (fun u => co) (fun u => pp) (fun u => de) (fun u => lo) (fun u => uw) (Nat.le_of_ble_eq_true rfl) (Nat.le_of_ble_eq_true rfl) (c_X4_swap_3 l dC dI cyI cyJ cyZ cyS ad tq ft n L mk pt ac far re tr tb un ky uk rd rk th wo 0 co pp de lo uw dr a i j (by exact hN) (by first | assumption | omega) (by first | assumption | omega) (by first | assumption | omega) (by first | assumption | omega))), (fwI_M3 (l := l) (dC := dC) (dI := dI) (cyI := cyI) (cyJ := cyJ) (cyZ := cyZ) (cyS := cyS) (ad := ad) (S := Unit) tq ft L n th wo mk pt rkm rs drm tp tj ra ul ro wt lom se pw sl fa pa dp ss sh hd (fun u => ft) (fun u => n) (fun u => L) (fun u => 0) (fun u => 0) (fun u => rs) (fun u => drm) (fun u => wo) (fun u => tq) (fun u => mk) (fun u => pt) (fun u => lkP (lkP tp a i (tp (6 * a + j)) (tj (6 * a + j))) a j (tp (6 * a + i)) (tj (6 * a + i))) (fun u => lkJ (lkJ tj a i (tp (6 * a + j)) (tj (6 * a + j))) a j (tp (6 * a + i)) (tj (6 * a + i))) (Nat.le_of_ble_eq_true rfl) (Nat.le_of_ble_eq_true rfl) (c_X5_swap_3 l dC dI cyI cyJ cyZ cyS ad ft n L th rkm rs drm wo tq mk pt tp tj a i (by first | exact hn | omega) (by exact hpt) (by first | assumption | omega) (by first | assumption | omega) j (by first | assumption | omega) (by first | assumption | omega) (by first | assumption | omega) (by first | assumption | omega))), fun r u r' u' h h' => ?_⟩
        try dsimp only at h
        try dsimp only at h'
        subst hij
        exact ⟨by rw [h, h'], JR.mk (hN) (NR.swap0 hN hNR ha hi) (Nat.zero_le _) (hF) (RkR.no) (h0) (h1) (h2) (h3)⟩
      · skip
        refine ⟨_, _, _, _, _, _, (fwI_C1 (l := l) (dC := dC) (dI := dI) (cyI := cyI) (cyJ := cyJ) (cyZ := cyZ) (cyS := cyS) (ad := ad) (S := Unit) tq ft L n th wo mk pt ac re tr tb un ky uk co lo uw far pp de rd rk dr t0 l0 z0 t1 l1 z1 t2 l2 z2 t3 l3 z3 c0 c1 c2 c3 (fun u => tq) (fun u => ft) (fun u => n) (fun u => L) (fun u => mk) (fun u => pt) (fun u => va_up (va_up (va_up (va_up ac (a * 6 + i) (ac (a * 6 + j))) (ac (a * 6 + j)) (a * 6 + i)) (a * 6 + j) (ac (a * 6 + i))) (ac (a * 6 + i)) (a * 6 + j)) (fun u => far) (fun u => re) (fun u => tr) (fun u => rd) (fun u => 0) (fun u => tb) (fun u => un) (fun u => ky) (fun u => uk) (fun u => 0) (fun u => wo) (fun u => dr) (fun u => co) (fun u => pp) (fun u => de) (fun u => lo) (fun u => uw) (Nat.le_of_ble_eq_true rfl) (Nat.le_of_ble_eq_true rfl) (c_X4_swap_4 l dC dI cyI cyJ cyZ cyS ad tq ft n L mk pt ac far re tr tb un ky uk rd rk th wo 0 co pp de lo uw dr a i j (by exact hN) (by first | assumption | omega) (by first | assumption | omega) (by first | assumption | omega) (by first | assumption | omega))), (fwI_M3 (l := l) (dC := dC) (dI := dI) (cyI := cyI) (cyJ := cyJ) (cyZ := cyZ) (cyS := cyS) (ad := ad) (S := Unit) tq ft L n th wo mk pt rkm rs drm tp tj ra ul ro wt lom se pw sl fa pa dp ss sh hd (fun u => ft) (fun u => n) (fun u => L) (fun u => 0) (fun u => 0) (fun u => rs) (fun u => drm) (fun u => wo) (fun u => tq) (fun u => mk) (fun u => pt) (fun u => lkP (lkP tp a i (tp (6 * a + j)) (tj (6 * a + j))) a j (tp (6 * a + i)) (tj (6 * a + i))) (fun u => lkJ (lkJ tj a i (tp (6 * a + j)) (tj (6 * a + j))) a j (tp (6 * a + i)) (tj (6 * a + i))) (Nat.le_of_ble_eq_true rfl) (Nat.le_of_ble_eq_true rfl) (c_X5_swap_4 l dC dI cyI cyJ cyZ cyS ad ft n L th rkm rs drm wo tq mk pt tp tj a i (by first | exact hn | omega) (by exact hpt) (by first | assumption | omega) (by first | assumption | omega) j (by first | assumption | omega) (by first | assumption | omega) (by first | assumption | omega) (by first | assumption | omega))), fun r u r' u' h h' => ?_⟩
        try dsimp only at h
        try dsimp only at h'
        exact ⟨by rw [h, h'], JR.mk (NOk.swap hN ha hi hj hij) (NR.swap hN hNR ha hi hj) (Nat.zero_le _) (hF) (RkR.no) (h0) (h1) (h2) (h3)⟩
    · skip
      refine ⟨_, _, _, _, _, _, (fwI_C1 (l := l) (dC := dC) (dI := dI) (cyI := cyI) (cyJ := cyJ) (cyZ := cyZ) (cyS := cyS) (ad := ad) (S := Unit) tq ft L n th wo mk pt ac re tr tb un ky uk co lo uw far pp de rd rk dr t0 l0 z0 t1 l1 z1 t2 l2 z2 t3 l3 z3 c0 c1 c2 c3 (fun u => tq) (fun u => ft) (fun u => n) (fun u => L) (fun u => mk) (fun u => pt) (fun u => ac) (fun u => far) (fun u => re) (fun u => tr) (fun u => rd) (fun u => rk) (fun u => tb) (fun u => un) (fun u => ky) (fun u => uk) (fun u => th) (fun u => wo) (fun u => dr) (fun u => co) (fun u => pp) (fun u => de) (fun u => lo) (fun u => uw) (Nat.le_of_ble_eq_true rfl) (Nat.le_of_ble_eq_true rfl) (c_X4_swap_2 l dC dI cyI cyJ cyZ cyS ad tq ft n L mk pt ac far re tr tb un ky uk rd rk th wo 0 co pp de lo uw dr a i z (by exact hN) (by first | assumption | omega) (by first | assumption | omega) (by first | assumption | omega))), (fwI_M3 (l := l) (dC := dC) (dI := dI) (cyI := cyI) (cyJ := cyJ) (cyZ := cyZ) (cyS := cyS) (ad := ad) (S := Unit) tq ft L n th wo mk pt rkm rs drm tp tj ra ul ro wt lom se pw sl fa pa dp ss sh hd (fun u => ft) (fun u => n) (fun u => L) (fun u => th) (fun u => rkm) (fun u => rs) (fun u => drm) (fun u => wo) (fun u => tq) (fun u => mk) (fun u => pt) (fun u => tp) (fun u => tj) (Nat.le_of_ble_eq_true rfl) (Nat.le_of_ble_eq_true rfl) (c_X5_swap_2 l dC dI cyI cyJ cyZ cyS ad ft n L th rkm rs drm wo tq mk pt tp tj a i (by first | exact hn | omega) (by exact hpt) (by first | assumption | omega) (by first | assumption | omega) z (by first | assumption | omega))), fun r u r' u' h h' => ?_⟩
      try dsimp only at h
      try dsimp only at h'
      exact ⟨by rw [h, h'], JR.mk (hN) (hNR) (hth) (hF) (hK) (h0) (h1) (h2) (h3)⟩
  · skip
    refine ⟨_, _, _, _, _, _, (fwI_C1 (l := l) (dC := dC) (dI := dI) (cyI := cyI) (cyJ := cyJ) (cyZ := cyZ) (cyS := cyS) (ad := ad) (S := Unit) tq ft L n th wo mk pt ac re tr tb un ky uk co lo uw far pp de rd rk dr t0 l0 z0 t1 l1 z1 t2 l2 z2 t3 l3 z3 c0 c1 c2 c3 (fun u => tq) (fun u => ft) (fun u => n) (fun u => L) (fun u => mk) (fun u => pt) (fun u => ac) (fun u => far) (fun u => re) (fun u => tr) (fun u => rd) (fun u => rk) (fun u => tb) (fun u => un) (fun u => ky) (fun u => uk) (fun u => th) (fun u => wo) (fun u => dr) (fun u => co) (fun u => pp) (fun u => de) (fun u => lo) (fun u => uw) (Nat.le_of_ble_eq_true rfl) (Nat.le_of_ble_eq_true rfl) (c_X4_swap_1 l dC dI cyI cyJ cyZ cyS ad tq ft n L mk pt ac far re tr tb un ky uk rd rk th wo 0 co pp de lo uw dr x y z (by exact hN) (by first | assumption | omega))), (fwI_M3 (l := l) (dC := dC) (dI := dI) (cyI := cyI) (cyJ := cyJ) (cyZ := cyZ) (cyS := cyS) (ad := ad) (S := Unit) tq ft L n th wo mk pt rkm rs drm tp tj ra ul ro wt lom se pw sl fa pa dp ss sh hd (fun u => ft) (fun u => n) (fun u => L) (fun u => th) (fun u => rkm) (fun u => rs) (fun u => drm) (fun u => wo) (fun u => tq) (fun u => mk) (fun u => pt) (fun u => tp) (fun u => tj) (Nat.le_of_ble_eq_true rfl) (Nat.le_of_ble_eq_true rfl) (c_X5_swap_1 l dC dI cyI cyJ cyZ cyS ad ft n L th rkm rs drm wo tq mk pt tp tj x y z (by first | exact hn | omega) (by exact hpt) (by first | assumption | omega))), fun r u r' u' h h' => ?_⟩
    try dsimp only at h
    try dsimp only at h'
    exact ⟨by rw [h, h'], JR.mk (hN) (hNR) (hth) (hF) (hK) (h0) (h1) (h2) (h3)⟩
set_option maxHeartbeats 4000000 in
set_option maxRecDepth 100000 in
theorem s_end (l : Launch) (dC : Nat → ClassId) (dI : Nat → Nat → Nat) (cyI cyJ cyZ cyS : ClassId) (ad : Nat → Nat) (w1 w2 : va_W) (hJ : JR cyI cyJ cyZ cyS ad w1 w2) (x y z : Int32) : StpI l dC dI cyI cyJ cyZ cyS ad yX4_end yX5_end wsX4_end wsX5_end [.int x, .int y, .int z] w1 w2 := by
  refine JR.elim (P := fun w1 w2 => StpI l dC dI cyI cyJ cyZ cyS ad yX4_end yX5_end wsX4_end wsX5_end [.int x, .int y, .int z] w1 w2) hJ ?_
  intro tq ft L n th wo mk pt ac re tr tb un ky uk co lo uw far pp de rd rk dr t0 l0 z0 t1 l1 z1 t2 l2 z2 t3 l3 z3 c0 c1 c2 c3 rkm rs drm tp tj ra ul ro wt lom se pw sl fa pa dp ss sh hd hN hNR hth hF hK h0 h1 h2 h3
  have hn := hN.n12
  have hpt : ∀ p, p < n → pt p ≤ 6 := fun p hp => hN.p6 hp
  have hrk := hK.1
  have hkT := hK.2.1
  have hrkm := hK.2.2.1
  have hkM := hK.2.2.2
  have hwo := hF.1
  by_cases hx : isPt n pt x y
  · obtain ⟨a, i, rfl, rfl, ha, hi⟩ := hx
    obtain ⟨e1, e2, e3, e4, e5⟩ := hNR.end hN ha hi
    by_cases hw0 : vp_in z 2
    · obtain ⟨k, hk, rfl⟩ := vp_in_of hw0 (by decide)
      obtain rfl | rfl : k = 0 ∨ k = 1 := by omega
      · skip
        refine ⟨_, _, _, _, _, _, (fwI_C1 (l := l) (dC := dC) (dI := dI) (cyI := cyI) (cyJ := cyJ) (cyZ := cyZ) (cyS := cyS) (ad := ad) (S := Unit) tq ft L n th wo mk pt ac re tr tb un ky uk co lo uw far pp de rd rk dr t0 l0 z0 t1 l1 z1 t2 l2 z2 t3 l3 z3 c0 c1 c2 c3 (fun u => tq) (fun u => ft) (fun u => n) (fun u => L) (fun u => mk) (fun u => pt) (fun u => ac) (fun u => far) (fun u => re) (fun u => tr) (fun u => rd) (fun u => rk) (fun u => tb) (fun u => un) (fun u => ky) (fun u => uk) (fun u => th) (fun u => wo) (fun u => dr) (fun u => co) (fun u => pp) (fun u => de) (fun u => lo) (fun u => uw) (Nat.le_of_ble_eq_true rfl) (Nat.le_of_ble_eq_true rfl) (c_X4_end_2 l dC dI cyI cyJ cyZ cyS ad tq ft n L mk pt ac far re tr tb un ky uk rd rk th wo 0 co pp de lo uw dr a i (by exact hN) (by first | assumption | omega) (by first | assumption | omega))), (fwI_M3 (l := l) (dC := dC) (dI := dI) (cyI := cyI) (cyJ := cyJ) (cyZ := cyZ) (cyS := cyS) (ad := ad) (S := Unit) tq ft L n th wo mk pt rkm rs drm tp tj ra ul ro wt lom se pw sl fa pa dp ss sh hd (fun u => ft) (fun u => n) (fun u => L) (fun u => th) (fun u => rkm) (fun u => rs) (fun u => drm) (fun u => wo) (fun u => tq) (fun u => mk) (fun u => pt) (fun u => tp) (fun u => tj) (Nat.le_of_ble_eq_true rfl) (Nat.le_of_ble_eq_true rfl) (c_X5_end_2 l dC dI cyI cyJ cyZ cyS ad ft n L th rkm rs drm wo tq mk pt tp tj a i (by first | exact hn | omega) (by exact hpt) (by first | assumption | omega) (by first | assumption | omega))), fun r u r' u' h h' => ?_⟩
        try dsimp only at h
        try dsimp only at h'
        exact ⟨by rw [h, h', e4], JR.mk (hN) (hNR) (hth) (hF) (hK) (h0) (h1) (h2) (h3)⟩
      · skip
        refine ⟨_, _, _, _, _, _, (fwI_C1 (l := l) (dC := dC) (dI := dI) (cyI := cyI) (cyJ := cyJ) (cyZ := cyZ) (cyS := cyS) (ad := ad) (S := Unit) tq ft L n th wo mk pt ac re tr tb un ky uk co lo uw far pp de rd rk dr t0 l0 z0 t1 l1 z1 t2 l2 z2 t3 l3 z3 c0 c1 c2 c3 (fun u => tq) (fun u => ft) (fun u => n) (fun u => L) (fun u => mk) (fun u => pt) (fun u => ac) (fun u => far) (fun u => re) (fun u => tr) (fun u => rd) (fun u => rk) (fun u => tb) (fun u => un) (fun u => ky) (fun u => uk) (fun u => th) (fun u => wo) (fun u => dr) (fun u => co) (fun u => pp) (fun u => de) (fun u => lo) (fun u => uw) (Nat.le_of_ble_eq_true rfl) (Nat.le_of_ble_eq_true rfl) (c_X4_end_3 l dC dI cyI cyJ cyZ cyS ad tq ft n L mk pt ac far re tr tb un ky uk rd rk th wo 0 co pp de lo uw dr a i (by exact hN) (by first | assumption | omega) (by first | assumption | omega))), (fwI_M3 (l := l) (dC := dC) (dI := dI) (cyI := cyI) (cyJ := cyJ) (cyZ := cyZ) (cyS := cyS) (ad := ad) (S := Unit) tq ft L n th wo mk pt rkm rs drm tp tj ra ul ro wt lom se pw sl fa pa dp ss sh hd (fun u => ft) (fun u => n) (fun u => L) (fun u => th) (fun u => rkm) (fun u => rs) (fun u => drm) (fun u => wo) (fun u => tq) (fun u => mk) (fun u => pt) (fun u => tp) (fun u => tj) (Nat.le_of_ble_eq_true rfl) (Nat.le_of_ble_eq_true rfl) (c_X5_end_3 l dC dI cyI cyJ cyZ cyS ad ft n L th rkm rs drm wo tq mk pt tp tj a i (by first | exact hn | omega) (by exact hpt) (by first | assumption | omega) (by first | assumption | omega))), fun r u r' u' h h' => ?_⟩
        try dsimp only at h
        try dsimp only at h'
        exact ⟨by rw [h, h', e5], JR.mk (hN) (hNR) (hth) (hF) (hK) (h0) (h1) (h2) (h3)⟩
    · skip
      refine ⟨_, _, _, _, _, _, (fwI_C1 (l := l) (dC := dC) (dI := dI) (cyI := cyI) (cyJ := cyJ) (cyZ := cyZ) (cyS := cyS) (ad := ad) (S := Unit) tq ft L n th wo mk pt ac re tr tb un ky uk co lo uw far pp de rd rk dr t0 l0 z0 t1 l1 z1 t2 l2 z2 t3 l3 z3 c0 c1 c2 c3 (fun u => tq) (fun u => ft) (fun u => n) (fun u => L) (fun u => mk) (fun u => pt) (fun u => ac) (fun u => far) (fun u => re) (fun u => tr) (fun u => rd) (fun u => rk) (fun u => tb) (fun u => un) (fun u => ky) (fun u => uk) (fun u => th) (fun u => wo) (fun u => dr) (fun u => co) (fun u => pp) (fun u => de) (fun u => lo) (fun u => uw) (Nat.le_of_ble_eq_true rfl) (Nat.le_of_ble_eq_true rfl) (c_X4_end_4 l dC dI cyI cyJ cyZ cyS ad tq ft n L mk pt ac far re tr tb un ky uk rd rk th wo 0 co pp de lo uw dr a i (by exact hN) (by first | assumption | omega) (by first | assumption | omega) z (by first | assumption | omega))), (fwI_M3 (l := l) (dC := dC) (dI := dI) (cyI := cyI) (cyJ := cyJ) (cyZ := cyZ) (cyS := cyS) (ad := ad) (S := Unit) tq ft L n th wo mk pt rkm rs drm tp tj ra ul ro wt lom se pw sl fa pa dp ss sh hd (fun u => ft) (fun u => n) (fun u => L) (fun u => th) (fun u => rkm) (fun u => rs) (fun u => drm) (fun u => wo) (fun u => tq) (fun u => mk) (fun u => pt) (fun u => tp) (fun u => tj) (Nat.le_of_ble_eq_true rfl) (Nat.le_of_ble_eq_true rfl) (c_X5_end_4 l dC dI cyI cyJ cyZ cyS ad ft n L th rkm rs drm wo tq mk pt tp tj a i (by first | exact hn | omega) (by exact hpt) (by first | assumption | omega) (by first | assumption | omega) z (by first | assumption | omega))), fun r u r' u' h h' => ?_⟩
      try dsimp only at h
      try dsimp only at h'
      exact ⟨by rw [h, h'], JR.mk (hN) (hNR) (hth) (hF) (hK) (h0) (h1) (h2) (h3)⟩
  · skip
    refine ⟨_, _, _, _, _, _, (fwI_C1 (l := l) (dC := dC) (dI := dI) (cyI := cyI) (cyJ := cyJ) (cyZ := cyZ) (cyS := cyS) (ad := ad) (S := Unit) tq ft L n th wo mk pt ac re tr tb un ky uk co lo uw far pp de rd rk dr t0 l0 z0 t1 l1 z1 t2 l2 z2 t3 l3 z3 c0 c1 c2 c3 (fun u => tq) (fun u => ft) (fun u => n) (fun u => L) (fun u => mk) (fun u => pt) (fun u => ac) (fun u => far) (fun u => re) (fun u => tr) (fun u => rd) (fun u => rk) (fun u => tb) (fun u => un) (fun u => ky) (fun u => uk) (fun u => th) (fun u => wo) (fun u => dr) (fun u => co) (fun u => pp) (fun u => de) (fun u => lo) (fun u => uw) (Nat.le_of_ble_eq_true rfl) (Nat.le_of_ble_eq_true rfl) (c_X4_end_1 l dC dI cyI cyJ cyZ cyS ad tq ft n L mk pt ac far re tr tb un ky uk rd rk th wo 0 co pp de lo uw dr x y z (by exact hN) (by first | assumption | omega))), (fwI_M3 (l := l) (dC := dC) (dI := dI) (cyI := cyI) (cyJ := cyJ) (cyZ := cyZ) (cyS := cyS) (ad := ad) (S := Unit) tq ft L n th wo mk pt rkm rs drm tp tj ra ul ro wt lom se pw sl fa pa dp ss sh hd (fun u => ft) (fun u => n) (fun u => L) (fun u => th) (fun u => rkm) (fun u => rs) (fun u => drm) (fun u => wo) (fun u => tq) (fun u => mk) (fun u => pt) (fun u => tp) (fun u => tj) (Nat.le_of_ble_eq_true rfl) (Nat.le_of_ble_eq_true rfl) (c_X5_end_1 l dC dI cyI cyJ cyZ cyS ad ft n L th rkm rs drm wo tq mk pt tp tj x y z (by first | exact hn | omega) (by exact hpt) (by first | assumption | omega))), fun r u r' u' h h' => ?_⟩
    try dsimp only at h
    try dsimp only at h'
    exact ⟨by rw [h, h'], JR.mk (hN) (hNR) (hth) (hF) (hK) (h0) (h1) (h2) (h3)⟩
set_option maxHeartbeats 4000000 in
set_option maxRecDepth 100000 in
theorem s_doubled (l : Launch) (dC : Nat → ClassId) (dI : Nat → Nat → Nat) (cyI cyJ cyZ cyS : ClassId) (ad : Nat → Nat) (w1 w2 : va_W) (hJ : JR cyI cyJ cyZ cyS ad w1 w2) (x y : Int32) : StpI l dC dI cyI cyJ cyZ cyS ad yX4_doubled yX5_doubled wsX4_doubled wsX5_doubled [.int x, .int y] w1 w2 := by
  refine JR.elim (P := fun w1 w2 => StpI l dC dI cyI cyJ cyZ cyS ad yX4_doubled yX5_doubled wsX4_doubled wsX5_doubled [.int x, .int y] w1 w2) hJ ?_
  intro tq ft L n th wo mk pt ac re tr tb un ky uk co lo uw far pp de rd rk dr t0 l0 z0 t1 l1 z1 t2 l2 z2 t3 l3 z3 c0 c1 c2 c3 rkm rs drm tp tj ra ul ro wt lom se pw sl fa pa dp ss sh hd hN hNR hth hF hK h0 h1 h2 h3
  have hn := hN.n12
  have hpt : ∀ p, p < n → pt p ≤ 6 := fun p hp => hN.p6 hp
  have hrk := hK.1
  have hkT := hK.2.1
  have hrkm := hK.2.2.1
  have hkM := hK.2.2.2
  have hwo := hF.1
  by_cases hx : isPt n pt x y
  · obtain ⟨a, i, rfl, rfl, ha, hi⟩ := hx
    obtain ⟨e1, e2, e3, e4, e5⟩ := hNR.end hN ha hi
    by_cases h6 : 6 < n
    · skip
      refine ⟨_, _, _, _, _, _, (fwI_C1 (l := l) (dC := dC) (dI := dI) (cyI := cyI) (cyJ := cyJ) (cyZ := cyZ) (cyS := cyS) (ad := ad) (S := Unit) tq ft L n th wo mk pt ac re tr tb un ky uk co lo uw far pp de rd rk dr t0 l0 z0 t1 l1 z1 t2 l2 z2 t3 l3 z3 c0 c1 c2 c3 (fun u => tq) (fun u => ft) (fun u => n) (fun u => L) (fun u => mk) (fun u => pt) (fun u => ac) (fun u => far) (fun u => re) (fun u => tr) (fun u => rd) (fun u => rk) (fun u => tb) (fun u => un) (fun u => ky) (fun u => uk) (fun u => th) (fun u => wo) (fun u => dr) (fun u => co) (fun u => pp) (fun u => de) (fun u => lo) (fun u => uw) (Nat.le_of_ble_eq_true rfl) (Nat.le_of_ble_eq_true rfl) (c_X4_doubled_2 l dC dI cyI cyJ cyZ cyS ad tq ft n L mk pt ac far re tr tb un ky uk rd rk th wo 0 co pp de lo uw dr a i (by exact hN) (by first | assumption | omega) (by first | assumption | omega) (by first | assumption | omega))), (fwI_M3 (l := l) (dC := dC) (dI := dI) (cyI := cyI) (cyJ := cyJ) (cyZ := cyZ) (cyS := cyS) (ad := ad) (S := Unit) tq ft L n th wo mk pt rkm rs drm tp tj ra ul ro wt lom se pw sl fa pa dp ss sh hd (fun u => ft) (fun u => n) (fun u => L) (fun u => th) (fun u => rkm) (fun u => rs) (fun u => drm) (fun u => wo) (fun u => tq) (fun u => mk) (fun u => pt) (fun u => tp) (fun u => tj) (Nat.le_of_ble_eq_true rfl) (Nat.le_of_ble_eq_true rfl) (c_X5_doubled_2 l dC dI cyI cyJ cyZ cyS ad ft n L th rkm rs drm wo tq mk pt tp tj a i (by first | exact hn | omega) (by exact hpt) (by first | assumption | omega) (by first | assumption | omega) (by first | assumption | omega))), fun r u r' u' h h' => ?_⟩
      try dsimp only at h
      try dsimp only at h'
      exact ⟨by rw [h, h'], JR.mk (hN) (hNR) (hth) (hF) (hK) (h0) (h1) (h2) (h3)⟩
    · have hn6 : n ≤ 6 := by omega
      refine ⟨_, _, _, _, _, _, (fwI_C1 (l := l) (dC := dC) (dI := dI) (cyI := cyI) (cyJ := cyJ) (cyZ := cyZ) (cyS := cyS) (ad := ad) (S := Unit) tq ft L n th wo mk pt ac re tr tb un ky uk co lo uw far pp de rd rk dr t0 l0 z0 t1 l1 z1 t2 l2 z2 t3 l3 z3 c0 c1 c2 c3 (fun u => tq) (fun u => ft) (fun u => n * 2) (fun u => L * nI 2) (fun u => dbTo mk n n) (fun u => dbTo pt n n) (fun u => va_up (va_up (va_up (va_up (dbAc ac (n * 6) (n * 6)) (a * 6 + i) (n * 6 + ac (a * 6 + i))) (n * 6 + ac (a * 6 + i)) (a * 6 + i)) (n * 6 + (a * 6 + i)) (ac (a * 6 + i))) (ac (a * 6 + i)) (n * 6 + (a * 6 + i))) (fun u => far) (fun u => re) (fun u => tr) (fun u => rd) (fun u => 0) (fun u => tb) (fun u => un) (fun u => ky) (fun u => uk) (fun u => 0) (fun u => wo) (fun u => dr) (fun u => co) (fun u => pp) (fun u => de) (fun u => lo) (fun u => uw) (Nat.le_of_ble_eq_true rfl) (Nat.le_of_ble_eq_true rfl) (c_X4_doubled_3 l dC dI cyI cyJ cyZ cyS ad tq ft n L mk pt ac far re tr tb un ky uk rd rk th wo 0 co pp de lo uw dr a i (by exact hN) (by first | assumption | omega) (by first | assumption | omega) (by first | assumption | omega))), (fwI_M3 (l := l) (dC := dC) (dI := dI) (cyI := cyI) (cyJ := cyJ) (cyZ := cyZ) (cyS := cyS) (ad := ad) (S := (Nat → Nat) × (Nat → Nat)) tq ft L n th wo mk pt rkm rs drm tp tj ra ul ro wt lom se pw sl fa pa dp ss sh hd (fun u => ft) (fun u => n + n) (fun u => L * nI 2) (fun u => 0) (fun u => 0) (fun u => rs) (fun u => drm) (fun u => wo) (fun u => tq) (fun u => dbTo mk n n) (fun u => dbTo pt n n) (fun u => u.1) (fun u => u.2) (Nat.le_of_ble_eq_true rfl) (Nat.le_of_ble_eq_true rfl) (c_X5_doubled_3 l dC dI cyI cyJ cyZ cyS ad ft n L th rkm rs drm wo tq mk pt tp tj a i (by first | exact hn | omega) (by exact hpt) (by first | assumption | omega) (by first | assumption | omega) (by first | assumption | omega) (by first | assumption | omega) (by first | assumption | omega))), fun r u r' u' h h' => ?_⟩
      try dsimp only at h
      try dsimp only at h'
      obtain ⟨tp2, tj2⟩ := u'
      dsimp only at h'
      obtain ⟨h', tp1, tj1, hA, hB, rfl, rfl⟩ := h'
      have e9 : n * 2 = n + n := by omega
      rw [e9] at h
      rw [e9]
      exact ⟨by rw [h, h'], JR.mk (NOk.doubled hN hn6 ha hi) (NR.doubled hN hn6 hNR ha hi hA hB) (Nat.zero_le _) (hF) (RkR.no) (h0) (h1) (h2) (h3)⟩
  · skip
    refine ⟨_, _, _, _, _, _, (fwI_C1 (l := l) (dC := dC) (dI := dI) (cyI := cyI) (cyJ := cyJ) (cyZ := cyZ) (cyS := cyS) (ad := ad) (S := Unit) tq ft L n th wo mk pt ac re tr tb un ky uk co lo uw far pp de rd rk dr t0 l0 z0 t1 l1 z1 t2 l2 z2 t3 l3 z3 c0 c1 c2 c3 (fun u => tq) (fun u => ft) (fun u => n) (fun u => L) (fun u => mk) (fun u => pt) (fun u => ac) (fun u => far) (fun u => re) (fun u => tr) (fun u => rd) (fun u => rk) (fun u => tb) (fun u => un) (fun u => ky) (fun u => uk) (fun u => th) (fun u => wo) (fun u => dr) (fun u => co) (fun u => pp) (fun u => de) (fun u => lo) (fun u => uw) (Nat.le_of_ble_eq_true rfl) (Nat.le_of_ble_eq_true rfl) (c_X4_doubled_1 l dC dI cyI cyJ cyZ cyS ad tq ft n L mk pt ac far re tr tb un ky uk rd rk th wo 0 co pp de lo uw dr x y (by exact hN) (by first | assumption | omega))), (fwI_M3 (l := l) (dC := dC) (dI := dI) (cyI := cyI) (cyJ := cyJ) (cyZ := cyZ) (cyS := cyS) (ad := ad) (S := Unit) tq ft L n th wo mk pt rkm rs drm tp tj ra ul ro wt lom se pw sl fa pa dp ss sh hd (fun u => ft) (fun u => n) (fun u => L) (fun u => th) (fun u => rkm) (fun u => rs) (fun u => drm) (fun u => wo) (fun u => tq) (fun u => mk) (fun u => pt) (fun u => tp) (fun u => tj) (Nat.le_of_ble_eq_true rfl) (Nat.le_of_ble_eq_true rfl) (c_X5_doubled_1 l dC dI cyI cyJ cyZ cyS ad ft n L th rkm rs drm wo tq mk pt tp tj x y (by first | exact hn | omega) (by exact hpt) (by first | assumption | omega))), fun r u r' u' h h' => ?_⟩
    try dsimp only at h
    try dsimp only at h'
    exact ⟨by rw [h, h'], JR.mk (hN) (hNR) (hth) (hF) (hK) (h0) (h1) (h2) (h3)⟩
