set_option maxHeartbeats 4000000 in
set_option maxRecDepth 100000 in
theorem c_X5_in (l : Launch) (dC : Nat → ClassId) (dI : Nat → Nat → Nat) (cyI cyJ cyZ cyS : ClassId) (ad : Nat → Nat) (x y z : Int64) : CtI l yX5_in wsX5_in ({ frames := 0, cells := 0, slots := 0, locals := 0 } : Room) dC dI (tysA cyI cyJ cyZ cyS) [.long (x), .long (y), .long (z)] [] (S := Unit) (fun (r : Int32) (u : Unit) => (((¬ x < y ∧ ¬ z < x) → r = nI 1) ∧ (¬ (¬ x < y ∧ ¬ z < x) → r = nI 0))) (fun (u : Unit) => []) := by
  refine CtI.mk (cc := cX5_in) (maxL := 6) (by decide) rfl (Nat.le_of_ble_eq_true rfl) ?_
  intro zp ze zs zm za zb zt zc zA zQ ls hC hw hl hret
  replace hC : CallFix zp zm zc cX5_in 6 zs za wsX5_in RX5 := hC
  replace hl : lv_has ls 6 [(0, .long (x)), (2, .long (y)), (4, .long (z))] := hl
  refine lv_lload_n hC.1 hC.2.1 dX5_in_0 rfl (lv_at hl 0 rfl) ?_
  refine lv_lload_n hC.1 hC.2.1 dX5_in_1 rfl (lv_at hl 1 rfl) ?_
  refine g_lcmp_lt (tgt := 17) hC dX5_in_2 dX5_in_3 (by decide) (fun c_2 => ?_) (fun c_2 => ?_)
  · skip
    refine lv_iconst (v := nI 0) hC.1 hC.2.1 dX5_in_17 (by decide) ?_
    exact hret _ _ _ ls (nI (0)) () dX5_in_18 (by first | rfl | decide) ⟨fun h9 => by first | rfl | (exfalso; (try dsimp only at h9); simp_all), fun h9 => by first | rfl | (exfalso; (try dsimp only at h9); simp_all)⟩ hw
  · skip
    refine lv_lload_n hC.1 hC.2.1 dX5_in_6 rfl (lv_at hl 0 rfl) ?_
    refine lv_lload hC.1 hC.2.1 dX5_in_7 (lv_at hl 2 rfl) ?_
    refine g_lcmp_gt (tgt := 17) hC dX5_in_9 dX5_in_10 (by decide) (fun c_9 => ?_) (fun c_9 => ?_)
    · skip
      refine lv_iconst (v := nI 0) hC.1 hC.2.1 dX5_in_17 (by decide) ?_
      exact hret _ _ _ ls (nI (0)) () dX5_in_18 (by first | rfl | decide) ⟨fun h9 => by first | rfl | (exfalso; (try dsimp only at h9); simp_all), fun h9 => by first | rfl | (exfalso; (try dsimp only at h9); simp_all)⟩ hw
    · skip
      refine lv_iconst (v := nI 1) hC.1 hC.2.1 dX5_in_13 (by decide) ?_
      refine lv_goto (tgt := 18) hC.1 hC.2.1 dX5_in_14 (by decide) ?_
      exact hret _ _ _ ls (nI (1)) () dX5_in_18 (by first | rfl | decide) ⟨fun h9 => by first | rfl | (exfalso; (try dsimp only at h9); simp_all), fun h9 => by first | rfl | (exfalso; (try dsimp only at h9); simp_all)⟩ hw

set_option maxHeartbeats 4000000 in
set_option maxRecDepth 100000 in
theorem c_X5_lost (l : Launch) (dC : Nat → ClassId) (dI : Nat → Nat → Nat) (cyI cyJ cyZ cyS : ClassId) (ad : Nat → Nat)  : CtL l yX5_lost wsX5_lost ({ frames := 0, cells := 0, slots := 0, locals := 0 } : Room) dC dI (tysA cyI cyJ cyZ cyS) [] [] (S := Unit) (fun (r : Int64) (u : Unit) => (r = (-9223372036854775808))) (fun (u : Unit) => []) := by
  refine CtL.mk (cc := cX5_lost) (maxL := 0) (by decide) rfl (Nat.le_of_ble_eq_true rfl) ?_
  intro zp ze zs zm za zb zt zc zA zQ ls hC hw hl hret
  replace hC : CallFix zp zm zc cX5_lost 0 zs za wsX5_lost RX5 := hC
  replace hl : lv_has ls 0 [] := hl
  refine lv_ldc2 hC.1 hC.2.1 (own := RX5) (v := (-9223372036854775808)) hC.2.2.2.1 (hC.2.2.2.2 _ (by decide +kernel)) dX5_lost_0 ?_
  exact hret _ _ _ ls ((-9223372036854775808)) () dX5_lost_3 (by first | rfl | decide) hw

set_option maxHeartbeats 4000000 in
set_option maxRecDepth 100000 in
theorem c_X5_refused (l : Launch) (dC : Nat → ClassId) (dI : Nat → Nat → Nat) (cyI cyJ cyZ cyS : ClassId) (ad : Nat → Nat) (ft : Int32) (n : Nat) (L : Int32) (fl rk : Nat) (rs : Int32) (dr : Int64) (wo : Nat) (tc : Int32) (x : Int32) : CtI l yX5_refused wsX5_refused ({ frames := 0, cells := 0, slots := 0, locals := 0 } : Room) dC dI (tysA cyI cyJ cyZ cyS) [.ref ((ad 40)), .int (x)] [((ad 40), .inr (5, [.int (ft), .int (nI (n)), .int (L), .ref ((ad 41)), .ref ((ad 42)), .ref ((ad 43)), .ref ((ad 44)), .int (nI (fl)), .int (nI (rk)), .ref ((ad 45)), .ref ((ad 46)), .ref ((ad 47)), .int (rs), .ref ((ad 48)), .long (dr), .int (nI (wo)), .ref ((ad 49)), .ref ((ad 50)), .ref ((ad 51)), .ref ((ad 52)), .ref ((ad 53)), .ref ((ad 54)), .ref ((ad 55)), .ref ((ad 56)), .ref ((ad 57)), .ref ((ad 58)), .int (tc)]))] (S := Unit) (fun (r : Int32) (u : Unit) => (r = x)) (fun (u : Unit) => [((ad 40), .inr (5, [.int (nI 0), .int (nI (n)), .int (L), .ref ((ad 41)), .ref ((ad 42)), .ref ((ad 43)), .ref ((ad 44)), .int (nI (fl)), .int (nI (rk)), .ref ((ad 45)), .ref ((ad 46)), .ref ((ad 47)), .int (rs), .ref ((ad 48)), .long (dr), .int (nI (wo)), .ref ((ad 49)), .ref ((ad 50)), .ref ((ad 51)), .ref ((ad 52)), .ref ((ad 53)), .ref ((ad 54)), .ref ((ad 55)), .ref ((ad 56)), .ref ((ad 57)), .ref ((ad 58)), .int (tc)]))]) := by
  refine CtI.mk (cc := cX5_refused) (maxL := 2) (by decide) rfl (Nat.le_of_ble_eq_true rfl) ?_
  intro zp ze zs zm za zb zt zc zA zQ ls hC hw hl hret
  replace hC : CallFix zp zm zc cX5_refused 2 zs za wsX5_refused RX5 := hC
  replace hl : lv_has ls 2 [(0, .ref ((ad 40))), (1, .int (x))] := hl
  have hin5 : ∀ w ∈ u_ws RX5 TX5 27, w ∈ wsX5_refused := by decide +kernel
  have lk66 : Cond.fieldLink RX5 66 (TX5 0).1 (TX5 0).2.1 (TX5 0).2.2.1 ∈ wsX5_refused := by decide +kernel
  refine lv_aload_n hC.1 hC.2.1 dX5_refused_0 rfl (lv_at hl 0 rfl) ?_
  refine lv_iconst (v := nI 0) hC.1 hC.2.1 dX5_refused_1 (by decide) ?_
  refine g_put hC hw hin5 tyX5 tyX5_ok nmX5 0 rfl rfl 0 (by decide) lk66 rfl rfl (by first | rfl | decide) (Nat.le_of_ble_eq_true rfl) dX5_refused_2 (fun H locs hw => ?_)
  replace hw : Wd dC dI (tysA cyI cyJ cyZ cyS) [((ad 40), .inr (5, [.int (nI (0)), .int (nI (n)), .int (L), .ref ((ad 41)), .ref ((ad 42)), .ref ((ad 43)), .ref ((ad 44)), .int (nI (fl)), .int (nI (rk)), .ref ((ad 45)), .ref ((ad 46)), .ref ((ad 47)), .int (rs), .ref ((ad 48)), .long (dr), .int (nI (wo)), .ref ((ad 49)), .ref ((ad 50)), .ref ((ad 51)), .ref ((ad 52)), .ref ((ad 53)), .ref ((ad 54)), .ref ((ad 55)), .ref ((ad 56)), .ref ((ad 57)), .ref ((ad 58)), .int (tc)]))] zA zs H locs := hw
  refine lv_iload_n hC.1 hC.2.1 dX5_refused_5 rfl (lv_at hl 1 rfl) ?_
  exact hret _ _ _ ls (x) () dX5_refused_6 rfl rfl hw

set_option maxHeartbeats 4000000 in
set_option maxRecDepth 100000 in
theorem c_X5_failed_1 (l : Launch) (dC : Nat → ClassId) (dI : Nat → Nat → Nat) (cyI cyJ cyZ cyS : ClassId) (ad : Nat → Nat) (ft : Int32) (n : Nat) (L : Int32) (fl rk : Nat) (rs : Int32) (dr : Int64) (wo : Nat) (tc : Int32) : CtI l yX5_failed wsX5_failed ({ frames := 0, cells := 0, slots := 0, locals := 0 } : Room) dC dI (tysA cyI cyJ cyZ cyS) [.ref ((ad 40)), .int (nI (1))] [((ad 40), .inr (5, [.int (ft), .int (nI (n)), .int (L), .ref ((ad 41)), .ref ((ad 42)), .ref ((ad 43)), .ref ((ad 44)), .int (nI (fl)), .int (nI (rk)), .ref ((ad 45)), .ref ((ad 46)), .ref ((ad 47)), .int (rs), .ref ((ad 48)), .long (dr), .int (nI (wo)), .ref ((ad 49)), .ref ((ad 50)), .ref ((ad 51)), .ref ((ad 52)), .ref ((ad 53)), .ref ((ad 54)), .ref ((ad 55)), .ref ((ad 56)), .ref ((ad 57)), .ref ((ad 58)), .int (tc)]))] (S := Unit) (fun (r : Int32) (u : Unit) => (r = (-11))) (fun (u : Unit) => [((ad 40), .inr (5, [.int (nI 1), .int (nI (n)), .int (L), .ref ((ad 41)), .ref ((ad 42)), .ref ((ad 43)), .ref ((ad 44)), .int (nI (fl)), .int (nI (rk)), .ref ((ad 45)), .ref ((ad 46)), .ref ((ad 47)), .int (rs), .ref ((ad 48)), .long (dr), .int (nI (wo)), .ref ((ad 49)), .ref ((ad 50)), .ref ((ad 51)), .ref ((ad 52)), .ref ((ad 53)), .ref ((ad 54)), .ref ((ad 55)), .ref ((ad 56)), .ref ((ad 57)), .ref ((ad 58)), .int (tc)]))]) := by
  refine CtI.mk (cc := cX5_failed) (maxL := 2) (by decide) rfl (Nat.le_of_ble_eq_true rfl) ?_
  intro zp ze zs zm za zb zt zc zA zQ ls hC hw hl hret
  replace hC : CallFix zp zm zc cX5_failed 2 zs za wsX5_failed RX5 := hC
  replace hl : lv_has ls 2 [(0, .ref ((ad 40))), (1, .int (nI (1)))] := hl
  have hin5 : ∀ w ∈ u_ws RX5 TX5 27, w ∈ wsX5_failed := by decide +kernel
  have lk66 : Cond.fieldLink RX5 66 (TX5 0).1 (TX5 0).2.1 (TX5 0).2.2.1 ∈ wsX5_failed := by decide +kernel
  refine lv_aload_n hC.1 hC.2.1 dX5_failed_0 rfl (lv_at hl 0 rfl) ?_
  refine lv_iload_n hC.1 hC.2.1 dX5_failed_1 rfl (lv_at hl 1 rfl) ?_
  refine g_put hC hw hin5 tyX5 tyX5_ok nmX5 0 rfl rfl 0 (by decide) lk66 rfl rfl (by first | rfl | decide) (Nat.le_of_ble_eq_true rfl) dX5_failed_2 (fun H locs hw => ?_)
  replace hw : Wd dC dI (tysA cyI cyJ cyZ cyS) [((ad 40), .inr (5, [.int (nI (1)), .int (nI (n)), .int (L), .ref ((ad 41)), .ref ((ad 42)), .ref ((ad 43)), .ref ((ad 44)), .int (nI (fl)), .int (nI (rk)), .ref ((ad 45)), .ref ((ad 46)), .ref ((ad 47)), .int (rs), .ref ((ad 48)), .long (dr), .int (nI (wo)), .ref ((ad 49)), .ref ((ad 50)), .ref ((ad 51)), .ref ((ad 52)), .ref ((ad 53)), .ref ((ad 54)), .ref ((ad 55)), .ref ((ad 56)), .ref ((ad 57)), .ref ((ad 58)), .int (tc)]))] zA zs H locs := hw
  refine lv_bipush (v := (-10)) hC.1 hC.2.1 dX5_failed_5 (by decide) ?_
  refine lv_iload_n hC.1 hC.2.1 dX5_failed_7 rfl (lv_at hl 1 rfl) ?_
  refine lv_isub hC.1 hC.2.1 dX5_failed_8 ?_
  exact hret _ _ _ ls ((-10) - (nI (1))) () dX5_failed_9 rfl (by rfl) hw

set_option maxHeartbeats 4000000 in
set_option maxRecDepth 100000 in
theorem c_X5_failedLong_1 (l : Launch) (dC : Nat → ClassId) (dI : Nat → Nat → Nat) (cyI cyJ cyZ cyS : ClassId) (ad : Nat → Nat) (ft : Int32) (n : Nat) (L : Int32) (fl rk : Nat) (rs : Int32) (dr : Int64) (wo : Nat) (tc : Int32) : CtL l yX5_failedLong wsX5_failedLong ({ frames := 1, cells := 0, slots := 0, locals := 19 } : Room) dC dI (tysA cyI cyJ cyZ cyS) [.ref ((ad 40)), .int (nI (1))] [((ad 40), .inr (5, [.int (ft), .int (nI (n)), .int (L), .ref ((ad 41)), .ref ((ad 42)), .ref ((ad 43)), .ref ((ad 44)), .int (nI (fl)), .int (nI (rk)), .ref ((ad 45)), .ref ((ad 46)), .ref ((ad 47)), .int (rs), .ref ((ad 48)), .long (dr), .int (nI (wo)), .ref ((ad 49)), .ref ((ad 50)), .ref ((ad 51)), .ref ((ad 52)), .ref ((ad 53)), .ref ((ad 54)), .ref ((ad 55)), .ref ((ad 56)), .ref ((ad 57)), .ref ((ad 58)), .int (tc)]))] (S := Unit) (fun (r : Int64) (u : Unit) => (r = (-9223372036854775808))) (fun (u : Unit) => [((ad 40), .inr (5, [.int (nI 1), .int (nI (n)), .int (L), .ref ((ad 41)), .ref ((ad 42)), .ref ((ad 43)), .ref ((ad 44)), .int (nI (fl)), .int (nI (rk)), .ref ((ad 45)), .ref ((ad 46)), .ref ((ad 47)), .int (rs), .ref ((ad 48)), .long (dr), .int (nI (wo)), .ref ((ad 49)), .ref ((ad 50)), .ref ((ad 51)), .ref ((ad 52)), .ref ((ad 53)), .ref ((ad 54)), .ref ((ad 55)), .ref ((ad 56)), .ref ((ad 57)), .ref ((ad 58)), .int (tc)]))]) := by
  refine CtL.mk (cc := cX5_failedLong) (maxL := 2) (by decide) rfl (Nat.le_of_ble_eq_true rfl) ?_
  intro zp ze zs zm za zb zt zc zA zQ ls hC hw hl hret
  replace hC : CallFix zp zm zc cX5_failedLong 2 zs za wsX5_failedLong RX5 := hC
  replace hl : lv_has ls 2 [(0, .ref ((ad 40))), (1, .int (nI (1)))] := hl
  have hin5 : ∀ w ∈ u_ws RX5 TX5 27, w ∈ wsX5_failedLong := by decide +kernel
  have lk66 : Cond.fieldLink RX5 66 (TX5 0).1 (TX5 0).2.1 (TX5 0).2.2.1 ∈ wsX5_failedLong := by decide +kernel
  refine lv_aload_n hC.1 hC.2.1 dX5_failedLong_0 rfl (lv_at hl 0 rfl) ?_
  refine lv_iload_n hC.1 hC.2.1 dX5_failedLong_1 rfl (lv_at hl 1 rfl) ?_
  refine g_put hC hw hin5 tyX5 tyX5_ok nmX5 0 rfl rfl 0 (by decide) lk66 rfl rfl (by first | rfl | decide) (Nat.le_of_ble_eq_true rfl) dX5_failedLong_2 (fun H locs hw => ?_)
  replace hw : Wd dC dI (tysA cyI cyJ cyZ cyS) [((ad 40), .inr (5, [.int (nI (1)), .int (nI (n)), .int (L), .ref ((ad 41)), .ref ((ad 42)), .ref ((ad 43)), .ref ((ad 44)), .int (nI (fl)), .int (nI (rk)), .ref ((ad 45)), .ref ((ad 46)), .ref ((ad 47)), .int (rs), .ref ((ad 48)), .long (dr), .int (nI (wo)), .ref ((ad 49)), .ref ((ad 50)), .ref ((ad 51)), .ref ((ad 52)), .ref ((ad 53)), .ref ((ad 54)), .ref ((ad 55)), .ref ((ad 56)), .ref ((ad 57)), .ref ((ad 58)), .int (tc)]))] zA zs H locs := hw
  refine W.ccL (wc := []) (wr := [((ad 40), .inr (5, [.int (nI (1)), .int (nI (n)), .int (L), .ref ((ad 41)), .ref ((ad 42)), .ref ((ad 43)), .ref ((ad 44)), .int (nI (fl)), .int (nI (rk)), .ref ((ad 45)), .ref ((ad 46)), .ref ((ad 47)), .int (rs), .ref ((ad 48)), .long (dr), .int (nI (wo)), .ref ((ad 49)), .ref ((ad 50)), .ref ((ad 51)), .ref ((ad 52)), .ref ((ad 53)), .ref ((ad 54)), .ref ((ad 55)), .ref ((ad 56)), .ref ((ad 57)), .ref ((ad 58)), .int (tc)]))]) (ws1 := fun (u : Unit) => []) (ws2 := fun (u : Unit) => [((ad 40), .inr (5, [.int (nI (1)), .int (nI (n)), .int (L), .ref ((ad 41)), .ref ((ad 42)), .ref ((ad 43)), .ref ((ad 44)), .int (nI (fl)), .int (nI (rk)), .ref ((ad 45)), .ref ((ad 46)), .ref ((ad 47)), .int (rs), .ref ((ad 48)), .long (dr), .int (nI (wo)), .ref ((ad 49)), .ref ((ad 50)), .ref ((ad 51)), .ref ((ad 52)), .ref ((ad 53)), .ref ((ad 54)), .ref ((ad 55)), .ref ((ad 56)), .ref ((ad 57)), .ref ((ad 58)), .int (tc)]))]) hw [] [0] [0] rfl rfl (by decide) (by decide) (by decide) (fun _ => rfl) (Wd.runS (wc := []) (rest := []) (As := []) hC hw [] rfl (by decide) (va_cwS 0 hC.2.2.2.2 gX5_failedLong_X5_lost rfl rfl rfl (by decide +kernel) ⟨Nat.le_of_ble_eq_true rfl, Nat.le_of_ble_eq_true rfl⟩) (c_X5_lost l dC dI cyI cyJ cyZ cyS ad  _) rfl hl.1 rfl (Nat.le_of_ble_eq_true rfl) dX5_failedLong_5 ⟨Nat.zero_le _, Nat.zero_le _⟩) (fun r_5 u H locs hr_5 hw => ?_)
  replace hw : Wd dC dI (tysA cyI cyJ cyZ cyS) [((ad 40), .inr (5, [.int (nI (1)), .int (nI (n)), .int (L), .ref ((ad 41)), .ref ((ad 42)), .ref ((ad 43)), .ref ((ad 44)), .int (nI (fl)), .int (nI (rk)), .ref ((ad 45)), .ref ((ad 46)), .ref ((ad 47)), .int (rs), .ref ((ad 48)), .long (dr), .int (nI (wo)), .ref ((ad 49)), .ref ((ad 50)), .ref ((ad 51)), .ref ((ad 52)), .ref ((ad 53)), .ref ((ad 54)), .ref ((ad 55)), .ref ((ad 56)), .ref ((ad 57)), .ref ((ad 58)), .int (tc)]))] zA zs H locs := hw
  subst hr_5
  exact hret _ _ _ ls ((-9223372036854775808)) () dX5_failedLong_8 rfl hw

set_option maxHeartbeats 4000000 in
set_option maxRecDepth 100000 in
theorem c_X5_failed_2 (l : Launch) (dC : Nat → ClassId) (dI : Nat → Nat → Nat) (cyI cyJ cyZ cyS : ClassId) (ad : Nat → Nat) (ft : Int32) (n : Nat) (L : Int32) (fl rk : Nat) (rs : Int32) (dr : Int64) (wo : Nat) (tc : Int32) : CtI l yX5_failed wsX5_failed ({ frames := 0, cells := 0, slots := 0, locals := 0 } : Room) dC dI (tysA cyI cyJ cyZ cyS) [.ref ((ad 40)), .int (nI (2))] [((ad 40), .inr (5, [.int (ft), .int (nI (n)), .int (L), .ref ((ad 41)), .ref ((ad 42)), .ref ((ad 43)), .ref ((ad 44)), .int (nI (fl)), .int (nI (rk)), .ref ((ad 45)), .ref ((ad 46)), .ref ((ad 47)), .int (rs), .ref ((ad 48)), .long (dr), .int (nI (wo)), .ref ((ad 49)), .ref ((ad 50)), .ref ((ad 51)), .ref ((ad 52)), .ref ((ad 53)), .ref ((ad 54)), .ref ((ad 55)), .ref ((ad 56)), .ref ((ad 57)), .ref ((ad 58)), .int (tc)]))] (S := Unit) (fun (r : Int32) (u : Unit) => (r = (-12))) (fun (u : Unit) => [((ad 40), .inr (5, [.int (nI 2), .int (nI (n)), .int (L), .ref ((ad 41)), .ref ((ad 42)), .ref ((ad 43)), .ref ((ad 44)), .int (nI (fl)), .int (nI (rk)), .ref ((ad 45)), .ref ((ad 46)), .ref ((ad 47)), .int (rs), .ref ((ad 48)), .long (dr), .int (nI (wo)), .ref ((ad 49)), .ref ((ad 50)), .ref ((ad 51)), .ref ((ad 52)), .ref ((ad 53)), .ref ((ad 54)), .ref ((ad 55)), .ref ((ad 56)), .ref ((ad 57)), .ref ((ad 58)), .int (tc)]))]) := by
  refine CtI.mk (cc := cX5_failed) (maxL := 2) (by decide) rfl (Nat.le_of_ble_eq_true rfl) ?_
  intro zp ze zs zm za zb zt zc zA zQ ls hC hw hl hret
  replace hC : CallFix zp zm zc cX5_failed 2 zs za wsX5_failed RX5 := hC
  replace hl : lv_has ls 2 [(0, .ref ((ad 40))), (1, .int (nI (2)))] := hl
  have hin5 : ∀ w ∈ u_ws RX5 TX5 27, w ∈ wsX5_failed := by decide +kernel
  have lk66 : Cond.fieldLink RX5 66 (TX5 0).1 (TX5 0).2.1 (TX5 0).2.2.1 ∈ wsX5_failed := by decide +kernel
  refine lv_aload_n hC.1 hC.2.1 dX5_failed_0 rfl (lv_at hl 0 rfl) ?_
  refine lv_iload_n hC.1 hC.2.1 dX5_failed_1 rfl (lv_at hl 1 rfl) ?_
  refine g_put hC hw hin5 tyX5 tyX5_ok nmX5 0 rfl rfl 0 (by decide) lk66 rfl rfl (by first | rfl | decide) (Nat.le_of_ble_eq_true rfl) dX5_failed_2 (fun H locs hw => ?_)
  replace hw : Wd dC dI (tysA cyI cyJ cyZ cyS) [((ad 40), .inr (5, [.int (nI (2)), .int (nI (n)), .int (L), .ref ((ad 41)), .ref ((ad 42)), .ref ((ad 43)), .ref ((ad 44)), .int (nI (fl)), .int (nI (rk)), .ref ((ad 45)), .ref ((ad 46)), .ref ((ad 47)), .int (rs), .ref ((ad 48)), .long (dr), .int (nI (wo)), .ref ((ad 49)), .ref ((ad 50)), .ref ((ad 51)), .ref ((ad 52)), .ref ((ad 53)), .ref ((ad 54)), .ref ((ad 55)), .ref ((ad 56)), .ref ((ad 57)), .ref ((ad 58)), .int (tc)]))] zA zs H locs := hw
  refine lv_bipush (v := (-10)) hC.1 hC.2.1 dX5_failed_5 (by decide) ?_
  refine lv_iload_n hC.1 hC.2.1 dX5_failed_7 rfl (lv_at hl 1 rfl) ?_
  refine lv_isub hC.1 hC.2.1 dX5_failed_8 ?_
  exact hret _ _ _ ls ((-10) - (nI (2))) () dX5_failed_9 rfl (by rfl) hw

set_option maxHeartbeats 4000000 in
set_option maxRecDepth 100000 in
theorem c_X5_failedLong_2 (l : Launch) (dC : Nat → ClassId) (dI : Nat → Nat → Nat) (cyI cyJ cyZ cyS : ClassId) (ad : Nat → Nat) (ft : Int32) (n : Nat) (L : Int32) (fl rk : Nat) (rs : Int32) (dr : Int64) (wo : Nat) (tc : Int32) : CtL l yX5_failedLong wsX5_failedLong ({ frames := 1, cells := 0, slots := 0, locals := 19 } : Room) dC dI (tysA cyI cyJ cyZ cyS) [.ref ((ad 40)), .int (nI (2))] [((ad 40), .inr (5, [.int (ft), .int (nI (n)), .int (L), .ref ((ad 41)), .ref ((ad 42)), .ref ((ad 43)), .ref ((ad 44)), .int (nI (fl)), .int (nI (rk)), .ref ((ad 45)), .ref ((ad 46)), .ref ((ad 47)), .int (rs), .ref ((ad 48)), .long (dr), .int (nI (wo)), .ref ((ad 49)), .ref ((ad 50)), .ref ((ad 51)), .ref ((ad 52)), .ref ((ad 53)), .ref ((ad 54)), .ref ((ad 55)), .ref ((ad 56)), .ref ((ad 57)), .ref ((ad 58)), .int (tc)]))] (S := Unit) (fun (r : Int64) (u : Unit) => (r = (-9223372036854775808))) (fun (u : Unit) => [((ad 40), .inr (5, [.int (nI 2), .int (nI (n)), .int (L), .ref ((ad 41)), .ref ((ad 42)), .ref ((ad 43)), .ref ((ad 44)), .int (nI (fl)), .int (nI (rk)), .ref ((ad 45)), .ref ((ad 46)), .ref ((ad 47)), .int (rs), .ref ((ad 48)), .long (dr), .int (nI (wo)), .ref ((ad 49)), .ref ((ad 50)), .ref ((ad 51)), .ref ((ad 52)), .ref ((ad 53)), .ref ((ad 54)), .ref ((ad 55)), .ref ((ad 56)), .ref ((ad 57)), .ref ((ad 58)), .int (tc)]))]) := by
  refine CtL.mk (cc := cX5_failedLong) (maxL := 2) (by decide) rfl (Nat.le_of_ble_eq_true rfl) ?_
  intro zp ze zs zm za zb zt zc zA zQ ls hC hw hl hret
  replace hC : CallFix zp zm zc cX5_failedLong 2 zs za wsX5_failedLong RX5 := hC
  replace hl : lv_has ls 2 [(0, .ref ((ad 40))), (1, .int (nI (2)))] := hl
  have hin5 : ∀ w ∈ u_ws RX5 TX5 27, w ∈ wsX5_failedLong := by decide +kernel
  have lk66 : Cond.fieldLink RX5 66 (TX5 0).1 (TX5 0).2.1 (TX5 0).2.2.1 ∈ wsX5_failedLong := by decide +kernel
  refine lv_aload_n hC.1 hC.2.1 dX5_failedLong_0 rfl (lv_at hl 0 rfl) ?_
  refine lv_iload_n hC.1 hC.2.1 dX5_failedLong_1 rfl (lv_at hl 1 rfl) ?_
  refine g_put hC hw hin5 tyX5 tyX5_ok nmX5 0 rfl rfl 0 (by decide) lk66 rfl rfl (by first | rfl | decide) (Nat.le_of_ble_eq_true rfl) dX5_failedLong_2 (fun H locs hw => ?_)
  replace hw : Wd dC dI (tysA cyI cyJ cyZ cyS) [((ad 40), .inr (5, [.int (nI (2)), .int (nI (n)), .int (L), .ref ((ad 41)), .ref ((ad 42)), .ref ((ad 43)), .ref ((ad 44)), .int (nI (fl)), .int (nI (rk)), .ref ((ad 45)), .ref ((ad 46)), .ref ((ad 47)), .int (rs), .ref ((ad 48)), .long (dr), .int (nI (wo)), .ref ((ad 49)), .ref ((ad 50)), .ref ((ad 51)), .ref ((ad 52)), .ref ((ad 53)), .ref ((ad 54)), .ref ((ad 55)), .ref ((ad 56)), .ref ((ad 57)), .ref ((ad 58)), .int (tc)]))] zA zs H locs := hw
  refine W.ccL (wc := []) (wr := [((ad 40), .inr (5, [.int (nI (2)), .int (nI (n)), .int (L), .ref ((ad 41)), .ref ((ad 42)), .ref ((ad 43)), .ref ((ad 44)), .int (nI (fl)), .int (nI (rk)), .ref ((ad 45)), .ref ((ad 46)), .ref ((ad 47)), .int (rs), .ref ((ad 48)), .long (dr), .int (nI (wo)), .ref ((ad 49)), .ref ((ad 50)), .ref ((ad 51)), .ref ((ad 52)), .ref ((ad 53)), .ref ((ad 54)), .ref ((ad 55)), .ref ((ad 56)), .ref ((ad 57)), .ref ((ad 58)), .int (tc)]))]) (ws1 := fun (u : Unit) => []) (ws2 := fun (u : Unit) => [((ad 40), .inr (5, [.int (nI (2)), .int (nI (n)), .int (L), .ref ((ad 41)), .ref ((ad 42)), .ref ((ad 43)), .ref ((ad 44)), .int (nI (fl)), .int (nI (rk)), .ref ((ad 45)), .ref ((ad 46)), .ref ((ad 47)), .int (rs), .ref ((ad 48)), .long (dr), .int (nI (wo)), .ref ((ad 49)), .ref ((ad 50)), .ref ((ad 51)), .ref ((ad 52)), .ref ((ad 53)), .ref ((ad 54)), .ref ((ad 55)), .ref ((ad 56)), .ref ((ad 57)), .ref ((ad 58)), .int (tc)]))]) hw [] [0] [0] rfl rfl (by decide) (by decide) (by decide) (fun _ => rfl) (Wd.runS (wc := []) (rest := []) (As := []) hC hw [] rfl (by decide) (va_cwS 0 hC.2.2.2.2 gX5_failedLong_X5_lost rfl rfl rfl (by decide +kernel) ⟨Nat.le_of_ble_eq_true rfl, Nat.le_of_ble_eq_true rfl⟩) (c_X5_lost l dC dI cyI cyJ cyZ cyS ad  _) rfl hl.1 rfl (Nat.le_of_ble_eq_true rfl) dX5_failedLong_5 ⟨Nat.zero_le _, Nat.zero_le _⟩) (fun r_5 u H locs hr_5 hw => ?_)
  replace hw : Wd dC dI (tysA cyI cyJ cyZ cyS) [((ad 40), .inr (5, [.int (nI (2)), .int (nI (n)), .int (L), .ref ((ad 41)), .ref ((ad 42)), .ref ((ad 43)), .ref ((ad 44)), .int (nI (fl)), .int (nI (rk)), .ref ((ad 45)), .ref ((ad 46)), .ref ((ad 47)), .int (rs), .ref ((ad 48)), .long (dr), .int (nI (wo)), .ref ((ad 49)), .ref ((ad 50)), .ref ((ad 51)), .ref ((ad 52)), .ref ((ad 53)), .ref ((ad 54)), .ref ((ad 55)), .ref ((ad 56)), .ref ((ad 57)), .ref ((ad 58)), .int (tc)]))] zA zs H locs := hw
  subst hr_5
  exact hret _ _ _ ls ((-9223372036854775808)) () dX5_failedLong_8 rfl hw

set_option maxHeartbeats 4000000 in
set_option maxRecDepth 100000 in
theorem c_X5_failed_3 (l : Launch) (dC : Nat → ClassId) (dI : Nat → Nat → Nat) (cyI cyJ cyZ cyS : ClassId) (ad : Nat → Nat) (ft : Int32) (n : Nat) (L : Int32) (fl rk : Nat) (rs : Int32) (dr : Int64) (wo : Nat) (tc : Int32) : CtI l yX5_failed wsX5_failed ({ frames := 0, cells := 0, slots := 0, locals := 0 } : Room) dC dI (tysA cyI cyJ cyZ cyS) [.ref ((ad 40)), .int (nI (3))] [((ad 40), .inr (5, [.int (ft), .int (nI (n)), .int (L), .ref ((ad 41)), .ref ((ad 42)), .ref ((ad 43)), .ref ((ad 44)), .int (nI (fl)), .int (nI (rk)), .ref ((ad 45)), .ref ((ad 46)), .ref ((ad 47)), .int (rs), .ref ((ad 48)), .long (dr), .int (nI (wo)), .ref ((ad 49)), .ref ((ad 50)), .ref ((ad 51)), .ref ((ad 52)), .ref ((ad 53)), .ref ((ad 54)), .ref ((ad 55)), .ref ((ad 56)), .ref ((ad 57)), .ref ((ad 58)), .int (tc)]))] (S := Unit) (fun (r : Int32) (u : Unit) => (r = (-13))) (fun (u : Unit) => [((ad 40), .inr (5, [.int (nI 3), .int (nI (n)), .int (L), .ref ((ad 41)), .ref ((ad 42)), .ref ((ad 43)), .ref ((ad 44)), .int (nI (fl)), .int (nI (rk)), .ref ((ad 45)), .ref ((ad 46)), .ref ((ad 47)), .int (rs), .ref ((ad 48)), .long (dr), .int (nI (wo)), .ref ((ad 49)), .ref ((ad 50)), .ref ((ad 51)), .ref ((ad 52)), .ref ((ad 53)), .ref ((ad 54)), .ref ((ad 55)), .ref ((ad 56)), .ref ((ad 57)), .ref ((ad 58)), .int (tc)]))]) := by
  refine CtI.mk (cc := cX5_failed) (maxL := 2) (by decide) rfl (Nat.le_of_ble_eq_true rfl) ?_
  intro zp ze zs zm za zb zt zc zA zQ ls hC hw hl hret
  replace hC : CallFix zp zm zc cX5_failed 2 zs za wsX5_failed RX5 := hC
  replace hl : lv_has ls 2 [(0, .ref ((ad 40))), (1, .int (nI (3)))] := hl
  have hin5 : ∀ w ∈ u_ws RX5 TX5 27, w ∈ wsX5_failed := by decide +kernel
  have lk66 : Cond.fieldLink RX5 66 (TX5 0).1 (TX5 0).2.1 (TX5 0).2.2.1 ∈ wsX5_failed := by decide +kernel
  refine lv_aload_n hC.1 hC.2.1 dX5_failed_0 rfl (lv_at hl 0 rfl) ?_
  refine lv_iload_n hC.1 hC.2.1 dX5_failed_1 rfl (lv_at hl 1 rfl) ?_
  refine g_put hC hw hin5 tyX5 tyX5_ok nmX5 0 rfl rfl 0 (by decide) lk66 rfl rfl (by first | rfl | decide) (Nat.le_of_ble_eq_true rfl) dX5_failed_2 (fun H locs hw => ?_)
  replace hw : Wd dC dI (tysA cyI cyJ cyZ cyS) [((ad 40), .inr (5, [.int (nI (3)), .int (nI (n)), .int (L), .ref ((ad 41)), .ref ((ad 42)), .ref ((ad 43)), .ref ((ad 44)), .int (nI (fl)), .int (nI (rk)), .ref ((ad 45)), .ref ((ad 46)), .ref ((ad 47)), .int (rs), .ref ((ad 48)), .long (dr), .int (nI (wo)), .ref ((ad 49)), .ref ((ad 50)), .ref ((ad 51)), .ref ((ad 52)), .ref ((ad 53)), .ref ((ad 54)), .ref ((ad 55)), .ref ((ad 56)), .ref ((ad 57)), .ref ((ad 58)), .int (tc)]))] zA zs H locs := hw
  refine lv_bipush (v := (-10)) hC.1 hC.2.1 dX5_failed_5 (by decide) ?_
  refine lv_iload_n hC.1 hC.2.1 dX5_failed_7 rfl (lv_at hl 1 rfl) ?_
  refine lv_isub hC.1 hC.2.1 dX5_failed_8 ?_
  exact hret _ _ _ ls ((-10) - (nI (3))) () dX5_failed_9 rfl (by rfl) hw

set_option maxHeartbeats 4000000 in
set_option maxRecDepth 100000 in
theorem c_X5_failedLong_3 (l : Launch) (dC : Nat → ClassId) (dI : Nat → Nat → Nat) (cyI cyJ cyZ cyS : ClassId) (ad : Nat → Nat) (ft : Int32) (n : Nat) (L : Int32) (fl rk : Nat) (rs : Int32) (dr : Int64) (wo : Nat) (tc : Int32) : CtL l yX5_failedLong wsX5_failedLong ({ frames := 1, cells := 0, slots := 0, locals := 19 } : Room) dC dI (tysA cyI cyJ cyZ cyS) [.ref ((ad 40)), .int (nI (3))] [((ad 40), .inr (5, [.int (ft), .int (nI (n)), .int (L), .ref ((ad 41)), .ref ((ad 42)), .ref ((ad 43)), .ref ((ad 44)), .int (nI (fl)), .int (nI (rk)), .ref ((ad 45)), .ref ((ad 46)), .ref ((ad 47)), .int (rs), .ref ((ad 48)), .long (dr), .int (nI (wo)), .ref ((ad 49)), .ref ((ad 50)), .ref ((ad 51)), .ref ((ad 52)), .ref ((ad 53)), .ref ((ad 54)), .ref ((ad 55)), .ref ((ad 56)), .ref ((ad 57)), .ref ((ad 58)), .int (tc)]))] (S := Unit) (fun (r : Int64) (u : Unit) => (r = (-9223372036854775808))) (fun (u : Unit) => [((ad 40), .inr (5, [.int (nI 3), .int (nI (n)), .int (L), .ref ((ad 41)), .ref ((ad 42)), .ref ((ad 43)), .ref ((ad 44)), .int (nI (fl)), .int (nI (rk)), .ref ((ad 45)), .ref ((ad 46)), .ref ((ad 47)), .int (rs), .ref ((ad 48)), .long (dr), .int (nI (wo)), .ref ((ad 49)), .ref ((ad 50)), .ref ((ad 51)), .ref ((ad 52)), .ref ((ad 53)), .ref ((ad 54)), .ref ((ad 55)), .ref ((ad 56)), .ref ((ad 57)), .ref ((ad 58)), .int (tc)]))]) := by
  refine CtL.mk (cc := cX5_failedLong) (maxL := 2) (by decide) rfl (Nat.le_of_ble_eq_true rfl) ?_
  intro zp ze zs zm za zb zt zc zA zQ ls hC hw hl hret
  replace hC : CallFix zp zm zc cX5_failedLong 2 zs za wsX5_failedLong RX5 := hC
  replace hl : lv_has ls 2 [(0, .ref ((ad 40))), (1, .int (nI (3)))] := hl
  have hin5 : ∀ w ∈ u_ws RX5 TX5 27, w ∈ wsX5_failedLong := by decide +kernel
  have lk66 : Cond.fieldLink RX5 66 (TX5 0).1 (TX5 0).2.1 (TX5 0).2.2.1 ∈ wsX5_failedLong := by decide +kernel
  refine lv_aload_n hC.1 hC.2.1 dX5_failedLong_0 rfl (lv_at hl 0 rfl) ?_
  refine lv_iload_n hC.1 hC.2.1 dX5_failedLong_1 rfl (lv_at hl 1 rfl) ?_
  refine g_put hC hw hin5 tyX5 tyX5_ok nmX5 0 rfl rfl 0 (by decide) lk66 rfl rfl (by first | rfl | decide) (Nat.le_of_ble_eq_true rfl) dX5_failedLong_2 (fun H locs hw => ?_)
  replace hw : Wd dC dI (tysA cyI cyJ cyZ cyS) [((ad 40), .inr (5, [.int (nI (3)), .int (nI (n)), .int (L), .ref ((ad 41)), .ref ((ad 42)), .ref ((ad 43)), .ref ((ad 44)), .int (nI (fl)), .int (nI (rk)), .ref ((ad 45)), .ref ((ad 46)), .ref ((ad 47)), .int (rs), .ref ((ad 48)), .long (dr), .int (nI (wo)), .ref ((ad 49)), .ref ((ad 50)), .ref ((ad 51)), .ref ((ad 52)), .ref ((ad 53)), .ref ((ad 54)), .ref ((ad 55)), .ref ((ad 56)), .ref ((ad 57)), .ref ((ad 58)), .int (tc)]))] zA zs H locs := hw
  refine W.ccL (wc := []) (wr := [((ad 40), .inr (5, [.int (nI (3)), .int (nI (n)), .int (L), .ref ((ad 41)), .ref ((ad 42)), .ref ((ad 43)), .ref ((ad 44)), .int (nI (fl)), .int (nI (rk)), .ref ((ad 45)), .ref ((ad 46)), .ref ((ad 47)), .int (rs), .ref ((ad 48)), .long (dr), .int (nI (wo)), .ref ((ad 49)), .ref ((ad 50)), .ref ((ad 51)), .ref ((ad 52)), .ref ((ad 53)), .ref ((ad 54)), .ref ((ad 55)), .ref ((ad 56)), .ref ((ad 57)), .ref ((ad 58)), .int (tc)]))]) (ws1 := fun (u : Unit) => []) (ws2 := fun (u : Unit) => [((ad 40), .inr (5, [.int (nI (3)), .int (nI (n)), .int (L), .ref ((ad 41)), .ref ((ad 42)), .ref ((ad 43)), .ref ((ad 44)), .int (nI (fl)), .int (nI (rk)), .ref ((ad 45)), .ref ((ad 46)), .ref ((ad 47)), .int (rs), .ref ((ad 48)), .long (dr), .int (nI (wo)), .ref ((ad 49)), .ref ((ad 50)), .ref ((ad 51)), .ref ((ad 52)), .ref ((ad 53)), .ref ((ad 54)), .ref ((ad 55)), .ref ((ad 56)), .ref ((ad 57)), .ref ((ad 58)), .int (tc)]))]) hw [] [0] [0] rfl rfl (by decide) (by decide) (by decide) (fun _ => rfl) (Wd.runS (wc := []) (rest := []) (As := []) hC hw [] rfl (by decide) (va_cwS 0 hC.2.2.2.2 gX5_failedLong_X5_lost rfl rfl rfl (by decide +kernel) ⟨Nat.le_of_ble_eq_true rfl, Nat.le_of_ble_eq_true rfl⟩) (c_X5_lost l dC dI cyI cyJ cyZ cyS ad  _) rfl hl.1 rfl (Nat.le_of_ble_eq_true rfl) dX5_failedLong_5 ⟨Nat.zero_le _, Nat.zero_le _⟩) (fun r_5 u H locs hr_5 hw => ?_)
  replace hw : Wd dC dI (tysA cyI cyJ cyZ cyS) [((ad 40), .inr (5, [.int (nI (3)), .int (nI (n)), .int (L), .ref ((ad 41)), .ref ((ad 42)), .ref ((ad 43)), .ref ((ad 44)), .int (nI (fl)), .int (nI (rk)), .ref ((ad 45)), .ref ((ad 46)), .ref ((ad 47)), .int (rs), .ref ((ad 48)), .long (dr), .int (nI (wo)), .ref ((ad 49)), .ref ((ad 50)), .ref ((ad 51)), .ref ((ad 52)), .ref ((ad 53)), .ref ((ad 54)), .ref ((ad 55)), .ref ((ad 56)), .ref ((ad 57)), .ref ((ad 58)), .int (tc)]))] zA zs H locs := hw
  subst hr_5
  exact hret _ _ _ ls ((-9223372036854775808)) () dX5_failedLong_8 rfl hw

set_option maxHeartbeats 4000000 in
set_option maxRecDepth 100000 in
theorem c_X5_failed_4 (l : Launch) (dC : Nat → ClassId) (dI : Nat → Nat → Nat) (cyI cyJ cyZ cyS : ClassId) (ad : Nat → Nat) (ft : Int32) (n : Nat) (L : Int32) (fl rk : Nat) (rs : Int32) (dr : Int64) (wo : Nat) (tc : Int32) : CtI l yX5_failed wsX5_failed ({ frames := 0, cells := 0, slots := 0, locals := 0 } : Room) dC dI (tysA cyI cyJ cyZ cyS) [.ref ((ad 40)), .int (nI (4))] [((ad 40), .inr (5, [.int (ft), .int (nI (n)), .int (L), .ref ((ad 41)), .ref ((ad 42)), .ref ((ad 43)), .ref ((ad 44)), .int (nI (fl)), .int (nI (rk)), .ref ((ad 45)), .ref ((ad 46)), .ref ((ad 47)), .int (rs), .ref ((ad 48)), .long (dr), .int (nI (wo)), .ref ((ad 49)), .ref ((ad 50)), .ref ((ad 51)), .ref ((ad 52)), .ref ((ad 53)), .ref ((ad 54)), .ref ((ad 55)), .ref ((ad 56)), .ref ((ad 57)), .ref ((ad 58)), .int (tc)]))] (S := Unit) (fun (r : Int32) (u : Unit) => (r = (-14))) (fun (u : Unit) => [((ad 40), .inr (5, [.int (nI 4), .int (nI (n)), .int (L), .ref ((ad 41)), .ref ((ad 42)), .ref ((ad 43)), .ref ((ad 44)), .int (nI (fl)), .int (nI (rk)), .ref ((ad 45)), .ref ((ad 46)), .ref ((ad 47)), .int (rs), .ref ((ad 48)), .long (dr), .int (nI (wo)), .ref ((ad 49)), .ref ((ad 50)), .ref ((ad 51)), .ref ((ad 52)), .ref ((ad 53)), .ref ((ad 54)), .ref ((ad 55)), .ref ((ad 56)), .ref ((ad 57)), .ref ((ad 58)), .int (tc)]))]) := by
  refine CtI.mk (cc := cX5_failed) (maxL := 2) (by decide) rfl (Nat.le_of_ble_eq_true rfl) ?_
  intro zp ze zs zm za zb zt zc zA zQ ls hC hw hl hret
  replace hC : CallFix zp zm zc cX5_failed 2 zs za wsX5_failed RX5 := hC
  replace hl : lv_has ls 2 [(0, .ref ((ad 40))), (1, .int (nI (4)))] := hl
  have hin5 : ∀ w ∈ u_ws RX5 TX5 27, w ∈ wsX5_failed := by decide +kernel
  have lk66 : Cond.fieldLink RX5 66 (TX5 0).1 (TX5 0).2.1 (TX5 0).2.2.1 ∈ wsX5_failed := by decide +kernel
  refine lv_aload_n hC.1 hC.2.1 dX5_failed_0 rfl (lv_at hl 0 rfl) ?_
  refine lv_iload_n hC.1 hC.2.1 dX5_failed_1 rfl (lv_at hl 1 rfl) ?_
  refine g_put hC hw hin5 tyX5 tyX5_ok nmX5 0 rfl rfl 0 (by decide) lk66 rfl rfl (by first | rfl | decide) (Nat.le_of_ble_eq_true rfl) dX5_failed_2 (fun H locs hw => ?_)
  replace hw : Wd dC dI (tysA cyI cyJ cyZ cyS) [((ad 40), .inr (5, [.int (nI (4)), .int (nI (n)), .int (L), .ref ((ad 41)), .ref ((ad 42)), .ref ((ad 43)), .ref ((ad 44)), .int (nI (fl)), .int (nI (rk)), .ref ((ad 45)), .ref ((ad 46)), .ref ((ad 47)), .int (rs), .ref ((ad 48)), .long (dr), .int (nI (wo)), .ref ((ad 49)), .ref ((ad 50)), .ref ((ad 51)), .ref ((ad 52)), .ref ((ad 53)), .ref ((ad 54)), .ref ((ad 55)), .ref ((ad 56)), .ref ((ad 57)), .ref ((ad 58)), .int (tc)]))] zA zs H locs := hw
  refine lv_bipush (v := (-10)) hC.1 hC.2.1 dX5_failed_5 (by decide) ?_
  refine lv_iload_n hC.1 hC.2.1 dX5_failed_7 rfl (lv_at hl 1 rfl) ?_
  refine lv_isub hC.1 hC.2.1 dX5_failed_8 ?_
  exact hret _ _ _ ls ((-10) - (nI (4))) () dX5_failed_9 rfl (by rfl) hw

set_option maxHeartbeats 4000000 in
set_option maxRecDepth 100000 in
theorem c_X5_failedLong_4 (l : Launch) (dC : Nat → ClassId) (dI : Nat → Nat → Nat) (cyI cyJ cyZ cyS : ClassId) (ad : Nat → Nat) (ft : Int32) (n : Nat) (L : Int32) (fl rk : Nat) (rs : Int32) (dr : Int64) (wo : Nat) (tc : Int32) : CtL l yX5_failedLong wsX5_failedLong ({ frames := 1, cells := 0, slots := 0, locals := 19 } : Room) dC dI (tysA cyI cyJ cyZ cyS) [.ref ((ad 40)), .int (nI (4))] [((ad 40), .inr (5, [.int (ft), .int (nI (n)), .int (L), .ref ((ad 41)), .ref ((ad 42)), .ref ((ad 43)), .ref ((ad 44)), .int (nI (fl)), .int (nI (rk)), .ref ((ad 45)), .ref ((ad 46)), .ref ((ad 47)), .int (rs), .ref ((ad 48)), .long (dr), .int (nI (wo)), .ref ((ad 49)), .ref ((ad 50)), .ref ((ad 51)), .ref ((ad 52)), .ref ((ad 53)), .ref ((ad 54)), .ref ((ad 55)), .ref ((ad 56)), .ref ((ad 57)), .ref ((ad 58)), .int (tc)]))] (S := Unit) (fun (r : Int64) (u : Unit) => (r = (-9223372036854775808))) (fun (u : Unit) => [((ad 40), .inr (5, [.int (nI 4), .int (nI (n)), .int (L), .ref ((ad 41)), .ref ((ad 42)), .ref ((ad 43)), .ref ((ad 44)), .int (nI (fl)), .int (nI (rk)), .ref ((ad 45)), .ref ((ad 46)), .ref ((ad 47)), .int (rs), .ref ((ad 48)), .long (dr), .int (nI (wo)), .ref ((ad 49)), .ref ((ad 50)), .ref ((ad 51)), .ref ((ad 52)), .ref ((ad 53)), .ref ((ad 54)), .ref ((ad 55)), .ref ((ad 56)), .ref ((ad 57)), .ref ((ad 58)), .int (tc)]))]) := by
  refine CtL.mk (cc := cX5_failedLong) (maxL := 2) (by decide) rfl (Nat.le_of_ble_eq_true rfl) ?_
  intro zp ze zs zm za zb zt zc zA zQ ls hC hw hl hret
  replace hC : CallFix zp zm zc cX5_failedLong 2 zs za wsX5_failedLong RX5 := hC
  replace hl : lv_has ls 2 [(0, .ref ((ad 40))), (1, .int (nI (4)))] := hl
  have hin5 : ∀ w ∈ u_ws RX5 TX5 27, w ∈ wsX5_failedLong := by decide +kernel
  have lk66 : Cond.fieldLink RX5 66 (TX5 0).1 (TX5 0).2.1 (TX5 0).2.2.1 ∈ wsX5_failedLong := by decide +kernel
  refine lv_aload_n hC.1 hC.2.1 dX5_failedLong_0 rfl (lv_at hl 0 rfl) ?_
  refine lv_iload_n hC.1 hC.2.1 dX5_failedLong_1 rfl (lv_at hl 1 rfl) ?_
  refine g_put hC hw hin5 tyX5 tyX5_ok nmX5 0 rfl rfl 0 (by decide) lk66 rfl rfl (by first | rfl | decide) (Nat.le_of_ble_eq_true rfl) dX5_failedLong_2 (fun H locs hw => ?_)
  replace hw : Wd dC dI (tysA cyI cyJ cyZ cyS) [((ad 40), .inr (5, [.int (nI (4)), .int (nI (n)), .int (L), .ref ((ad 41)), .ref ((ad 42)), .ref ((ad 43)), .ref ((ad 44)), .int (nI (fl)), .int (nI (rk)), .ref ((ad 45)), .ref ((ad 46)), .ref ((ad 47)), .int (rs), .ref ((ad 48)), .long (dr), .int (nI (wo)), .ref ((ad 49)), .ref ((ad 50)), .ref ((ad 51)), .ref ((ad 52)), .ref ((ad 53)), .ref ((ad 54)), .ref ((ad 55)), .ref ((ad 56)), .ref ((ad 57)), .ref ((ad 58)), .int (tc)]))] zA zs H locs := hw
  refine W.ccL (wc := []) (wr := [((ad 40), .inr (5, [.int (nI (4)), .int (nI (n)), .int (L), .ref ((ad 41)), .ref ((ad 42)), .ref ((ad 43)), .ref ((ad 44)), .int (nI (fl)), .int (nI (rk)), .ref ((ad 45)), .ref ((ad 46)), .ref ((ad 47)), .int (rs), .ref ((ad 48)), .long (dr), .int (nI (wo)), .ref ((ad 49)), .ref ((ad 50)), .ref ((ad 51)), .ref ((ad 52)), .ref ((ad 53)), .ref ((ad 54)), .ref ((ad 55)), .ref ((ad 56)), .ref ((ad 57)), .ref ((ad 58)), .int (tc)]))]) (ws1 := fun (u : Unit) => []) (ws2 := fun (u : Unit) => [((ad 40), .inr (5, [.int (nI (4)), .int (nI (n)), .int (L), .ref ((ad 41)), .ref ((ad 42)), .ref ((ad 43)), .ref ((ad 44)), .int (nI (fl)), .int (nI (rk)), .ref ((ad 45)), .ref ((ad 46)), .ref ((ad 47)), .int (rs), .ref ((ad 48)), .long (dr), .int (nI (wo)), .ref ((ad 49)), .ref ((ad 50)), .ref ((ad 51)), .ref ((ad 52)), .ref ((ad 53)), .ref ((ad 54)), .ref ((ad 55)), .ref ((ad 56)), .ref ((ad 57)), .ref ((ad 58)), .int (tc)]))]) hw [] [0] [0] rfl rfl (by decide) (by decide) (by decide) (fun _ => rfl) (Wd.runS (wc := []) (rest := []) (As := []) hC hw [] rfl (by decide) (va_cwS 0 hC.2.2.2.2 gX5_failedLong_X5_lost rfl rfl rfl (by decide +kernel) ⟨Nat.le_of_ble_eq_true rfl, Nat.le_of_ble_eq_true rfl⟩) (c_X5_lost l dC dI cyI cyJ cyZ cyS ad  _) rfl hl.1 rfl (Nat.le_of_ble_eq_true rfl) dX5_failedLong_5 ⟨Nat.zero_le _, Nat.zero_le _⟩) (fun r_5 u H locs hr_5 hw => ?_)
  replace hw : Wd dC dI (tysA cyI cyJ cyZ cyS) [((ad 40), .inr (5, [.int (nI (4)), .int (nI (n)), .int (L), .ref ((ad 41)), .ref ((ad 42)), .ref ((ad 43)), .ref ((ad 44)), .int (nI (fl)), .int (nI (rk)), .ref ((ad 45)), .ref ((ad 46)), .ref ((ad 47)), .int (rs), .ref ((ad 48)), .long (dr), .int (nI (wo)), .ref ((ad 49)), .ref ((ad 50)), .ref ((ad 51)), .ref ((ad 52)), .ref ((ad 53)), .ref ((ad 54)), .ref ((ad 55)), .ref ((ad 56)), .ref ((ad 57)), .ref ((ad 58)), .int (tc)]))] zA zs H locs := hw
  subst hr_5
  exact hret _ _ _ ls ((-9223372036854775808)) () dX5_failedLong_8 rfl hw

set_option maxHeartbeats 4000000 in
set_option maxRecDepth 100000 in
theorem c_X5_noPost (l : Launch) (dC : Nat → ClassId) (dI : Nat → Nat → Nat) (cyI cyJ cyZ cyS : ClassId) (ad : Nat → Nat) (ft : Int32) (n : Nat) (L : Int32) (fl rk : Nat) (rs : Int32) (dr : Int64) (wo : Nat) (tc : Int32) (x : Int32) (hn : n < 2 ^ 31) : CtI l yX5_noPost wsX5_noPost ({ frames := 1, cells := 0, slots := 0, locals := 25 } : Room) dC dI (tysA cyI cyJ cyZ cyS) [.ref ((ad 40)), .int (x)] [((ad 40), .inr (5, [.int (ft), .int (nI (n)), .int (L), .ref ((ad 41)), .ref ((ad 42)), .ref ((ad 43)), .ref ((ad 44)), .int (nI (fl)), .int (nI (rk)), .ref ((ad 45)), .ref ((ad 46)), .ref ((ad 47)), .int (rs), .ref ((ad 48)), .long (dr), .int (nI (wo)), .ref ((ad 49)), .ref ((ad 50)), .ref ((ad 51)), .ref ((ad 52)), .ref ((ad 53)), .ref ((ad 54)), .ref ((ad 55)), .ref ((ad 56)), .ref ((ad 57)), .ref ((ad 58)), .int (tc)]))] (S := Unit) (fun (r : Int32) (u : Unit) => (((¬ vp_in x n) → r = nI 1) ∧ (¬ (¬ vp_in x n) → r = nI 0))) (fun (u : Unit) => [((ad 40), .inr (5, [.int (ft), .int (nI (n)), .int (L), .ref ((ad 41)), .ref ((ad 42)), .ref ((ad 43)), .ref ((ad 44)), .int (nI (fl)), .int (nI (rk)), .ref ((ad 45)), .ref ((ad 46)), .ref ((ad 47)), .int (rs), .ref ((ad 48)), .long (dr), .int (nI (wo)), .ref ((ad 49)), .ref ((ad 50)), .ref ((ad 51)), .ref ((ad 52)), .ref ((ad 53)), .ref ((ad 54)), .ref ((ad 55)), .ref ((ad 56)), .ref ((ad 57)), .ref ((ad 58)), .int (tc)]))]) := by
  refine CtI.mk (cc := cX5_noPost) (maxL := 2) (by decide) rfl (Nat.le_of_ble_eq_true rfl) ?_
  intro zp ze zs zm za zb zt zc zA zQ ls hC hw hl hret
  replace hC : CallFix zp zm zc cX5_noPost 2 zs za wsX5_noPost RX5 := hC
  replace hl : lv_has ls 2 [(0, .ref ((ad 40))), (1, .int (x))] := hl
  have hin5 : ∀ w ∈ u_ws RX5 TX5 27, w ∈ wsX5_noPost := by decide +kernel
  have lk74 : Cond.fieldLink RX5 74 (TX5 1).1 (TX5 1).2.1 (TX5 1).2.2.1 ∈ wsX5_noPost := by decide +kernel
  refine lv_iload_n hC.1 hC.2.1 dX5_noPost_0 rfl (lv_at hl 1 rfl) ?_
  refine lv_i2l hC.1 hC.2.1 dX5_noPost_1 rfl ?_
  refine lv_lconst (v := lN 0) hC.1 hC.2.1 dX5_noPost_2 (by decide) ?_
  refine lv_aload_n hC.1 hC.2.1 dX5_noPost_3 rfl (lv_at hl 0 rfl) ?_
  refine g_get hC hw hin5 0 rfl rfl 1 (by decide) lk74 rfl dX5_noPost_4 ?_
  refine n_i2l hC dX5_noPost_7 (by omega) ?_
  refine lv_lconst (v := lN 1) hC.1 hC.2.1 dX5_noPost_8 (by decide) ?_
  refine lv_lsub hC.1 hC.2.1 dX5_noPost_9 ?_
  refine W.ccI (wc := []) (wr := [((ad 40), .inr (5, [.int (ft), .int (nI (n)), .int (L), .ref ((ad 41)), .ref ((ad 42)), .ref ((ad 43)), .ref ((ad 44)), .int (nI (fl)), .int (nI (rk)), .ref ((ad 45)), .ref ((ad 46)), .ref ((ad 47)), .int (rs), .ref ((ad 48)), .long (dr), .int (nI (wo)), .ref ((ad 49)), .ref ((ad 50)), .ref ((ad 51)), .ref ((ad 52)), .ref ((ad 53)), .ref ((ad 54)), .ref ((ad 55)), .ref ((ad 56)), .ref ((ad 57)), .ref ((ad 58)), .int (tc)]))]) (ws1 := fun (u : Unit) => []) (ws2 := fun (u : Unit) => [((ad 40), .inr (5, [.int (ft), .int (nI (n)), .int (L), .ref ((ad 41)), .ref ((ad 42)), .ref ((ad 43)), .ref ((ad 44)), .int (nI (fl)), .int (nI (rk)), .ref ((ad 45)), .ref ((ad 46)), .ref ((ad 47)), .int (rs), .ref ((ad 48)), .long (dr), .int (nI (wo)), .ref ((ad 49)), .ref ((ad 50)), .ref ((ad 51)), .ref ((ad 52)), .ref ((ad 53)), .ref ((ad 54)), .ref ((ad 55)), .ref ((ad 56)), .ref ((ad 57)), .ref ((ad 58)), .int (tc)]))]) hw [] [0] [0] rfl rfl (by decide) (by decide) (by decide) (fun _ => rfl) (Wd.runS (wc := []) (rest := []) (As := [.long (x.toInt64), .long (lN (0)), .long ((lN (n)) - (lN (1)))]) hC hw [] rfl (by decide) (va_cwS 3 hC.2.2.2.2 gX5_noPost_X5_in rfl rfl rfl (by decide +kernel) ⟨Nat.le_of_ble_eq_true rfl, Nat.le_of_ble_eq_true rfl⟩) (c_X5_in l dC dI cyI cyJ cyZ cyS ad x.toInt64 (lN (0)) ((lN (n)) - (lN (1))) _) rfl hl.1 rfl (Nat.le_of_ble_eq_true rfl) dX5_noPost_10 ⟨Nat.zero_le _, Nat.zero_le _⟩) (fun r_10 u H locs hr_10 hw => ?_)
  replace hw : Wd dC dI (tysA cyI cyJ cyZ cyS) [((ad 40), .inr (5, [.int (ft), .int (nI (n)), .int (L), .ref ((ad 41)), .ref ((ad 42)), .ref ((ad 43)), .ref ((ad 44)), .int (nI (fl)), .int (nI (rk)), .ref ((ad 45)), .ref ((ad 46)), .ref ((ad 47)), .int (rs), .ref ((ad 48)), .long (dr), .int (nI (wo)), .ref ((ad 49)), .ref ((ad 50)), .ref ((ad 51)), .ref ((ad 52)), .ref ((ad 53)), .ref ((ad 54)), .ref ((ad 55)), .ref ((ad 56)), .ref ((ad 57)), .ref ((ad 58)), .int (tc)]))] zA zs H locs := hw
  rcases Classical.em (¬ x.toInt64 < (lN (0)) ∧ ¬ ((lN (n)) - (lN (1))) < x.toInt64) with c_10 | c_10
  · skip
    obtain rfl := hr_10.1 c_10
    refine lv_if_ne (tgt := 20) hC.1 hC.2.1 dX5_noPost_13 (by decide) (fun _ => ?_) (fun h9 => False.elim (by revert h9; decide))
    refine lv_iconst (v := nI 0) hC.1 hC.2.1 dX5_noPost_20 (by decide) ?_
    exact hret _ _ _ ls (nI (0)) () dX5_noPost_21 (by first | rfl | decide) ⟨fun h9 => by first | rfl | (exfalso; (try dsimp only at h9); rw [in_L (by omega)] at c_10; first | exact h9 c_10 | exact c_10 h9 | exact absurd c_10 h9), fun h9 => by first | rfl | (exfalso; (try dsimp only at h9); rw [in_L (by omega)] at c_10; first | exact h9 c_10 | exact c_10 h9 | exact absurd c_10 h9)⟩ hw
  · skip
    obtain rfl := hr_10.2 c_10
    refine lv_if_ne (tgt := 20) hC.1 hC.2.1 dX5_noPost_13 (by decide) (fun h9 => False.elim (by revert h9; decide)) (fun _ => ?_)
    refine lv_iconst (v := nI 1) hC.1 hC.2.1 dX5_noPost_16 (by decide) ?_
    refine lv_goto (tgt := 21) hC.1 hC.2.1 dX5_noPost_17 (by decide) ?_
    exact hret _ _ _ ls (nI (1)) () dX5_noPost_21 (by first | rfl | decide) ⟨fun h9 => by first | rfl | (exfalso; (try dsimp only at h9); rw [in_L (by omega)] at c_10; first | exact h9 c_10 | exact c_10 h9 | exact absurd c_10 h9), fun h9 => by first | rfl | (exfalso; (try dsimp only at h9); rw [in_L (by omega)] at c_10; first | exact h9 c_10 | exact c_10 h9 | exact absurd c_10 h9)⟩ hw

set_option maxHeartbeats 4000000 in
set_option maxRecDepth 100000 in
theorem c_X5_noPort (l : Launch) (dC : Nat → ClassId) (dI : Nat → Nat → Nat) (cyI cyJ cyZ cyS : ClassId) (ad : Nat → Nat) (ft : Int32) (n : Nat) (L : Int32) (fl rk : Nat) (rs : Int32) (dr : Int64) (wo : Nat) (tc : Int32) (pt : Nat → Nat) (x y : Int32) (hn : n ≤ 12) (hpt : ∀ p, p < n → pt p ≤ 6) : CtI l yX5_noPort wsX5_noPort ({ frames := 2, cells := 0, slots := 0, locals := 46 } : Room) dC dI (tysA cyI cyJ cyZ cyS) [.ref ((ad 40)), .int (x), .int (y)] [((ad 40), .inr (5, [.int (ft), .int (nI (n)), .int (L), .ref ((ad 41)), .ref ((ad 42)), .ref ((ad 43)), .ref ((ad 44)), .int (nI (fl)), .int (nI (rk)), .ref ((ad 45)), .ref ((ad 46)), .ref ((ad 47)), .int (rs), .ref ((ad 48)), .long (dr), .int (nI (wo)), .ref ((ad 49)), .ref ((ad 50)), .ref ((ad 51)), .ref ((ad 52)), .ref ((ad 53)), .ref ((ad 54)), .ref ((ad 55)), .ref ((ad 56)), .ref ((ad 57)), .ref ((ad 58)), .int (tc)])), ((ad 42), .inl (cyI, 12, .inl (fun zj => nI (pt zj))))] (S := Unit) (fun (r : Int32) (u : Unit) => (((¬ isPt n pt x y) → r = nI 1) ∧ (¬ (¬ isPt n pt x y) → r = nI 0))) (fun (u : Unit) => [((ad 40), .inr (5, [.int (ft), .int (nI (n)), .int (L), .ref ((ad 41)), .ref ((ad 42)), .ref ((ad 43)), .ref ((ad 44)), .int (nI (fl)), .int (nI (rk)), .ref ((ad 45)), .ref ((ad 46)), .ref ((ad 47)), .int (rs), .ref ((ad 48)), .long (dr), .int (nI (wo)), .ref ((ad 49)), .ref ((ad 50)), .ref ((ad 51)), .ref ((ad 52)), .ref ((ad 53)), .ref ((ad 54)), .ref ((ad 55)), .ref ((ad 56)), .ref ((ad 57)), .ref ((ad 58)), .int (tc)])), ((ad 42), .inl (cyI, 12, .inl (fun zj => nI (pt zj))))]) := by
  refine CtI.mk (cc := cX5_noPort) (maxL := 3) (by decide) rfl (Nat.le_of_ble_eq_true rfl) ?_
  intro zp ze zs zm za zb zt zc zA zQ ls hC hw hl hret
  replace hC : CallFix zp zm zc cX5_noPort 3 zs za wsX5_noPort RX5 := hC
  replace hl : lv_has ls 3 [(0, .ref ((ad 40))), (1, .int (x)), (2, .int (y))] := hl
  have hin5 : ∀ w ∈ u_ws RX5 TX5 27, w ∈ wsX5_noPort := by decide +kernel
  have lk13 : Cond.fieldLink RX5 13 (TX5 4).1 (TX5 4).2.1 (TX5 4).2.2.1 ∈ wsX5_noPort := by decide +kernel
  refine lv_aload_n hC.1 hC.2.1 dX5_noPort_0 rfl (lv_at hl 0 rfl) ?_
  refine lv_iload_n hC.1 hC.2.1 dX5_noPort_1 rfl (lv_at hl 1 rfl) ?_
  refine W.ccI (wc := [((ad 40), .inr (5, [.int (ft), .int (nI (n)), .int (L), .ref ((ad 41)), .ref ((ad 42)), .ref ((ad 43)), .ref ((ad 44)), .int (nI (fl)), .int (nI (rk)), .ref ((ad 45)), .ref ((ad 46)), .ref ((ad 47)), .int (rs), .ref ((ad 48)), .long (dr), .int (nI (wo)), .ref ((ad 49)), .ref ((ad 50)), .ref ((ad 51)), .ref ((ad 52)), .ref ((ad 53)), .ref ((ad 54)), .ref ((ad 55)), .ref ((ad 56)), .ref ((ad 57)), .ref ((ad 58)), .int (tc)]))]) (wr := [((ad 42), .inl (cyI, 12, .inl (fun zj => nI (pt zj))))]) (ws1 := fun (u : Unit) => [((ad 40), .inr (5, [.int (ft), .int (nI (n)), .int (L), .ref ((ad 41)), .ref ((ad 42)), .ref ((ad 43)), .ref ((ad 44)), .int (nI (fl)), .int (nI (rk)), .ref ((ad 45)), .ref ((ad 46)), .ref ((ad 47)), .int (rs), .ref ((ad 48)), .long (dr), .int (nI (wo)), .ref ((ad 49)), .ref ((ad 50)), .ref ((ad 51)), .ref ((ad 52)), .ref ((ad 53)), .ref ((ad 54)), .ref ((ad 55)), .ref ((ad 56)), .ref ((ad 57)), .ref ((ad 58)), .int (tc)]))]) (ws2 := fun (u : Unit) => [((ad 40), .inr (5, [.int (ft), .int (nI (n)), .int (L), .ref ((ad 41)), .ref ((ad 42)), .ref ((ad 43)), .ref ((ad 44)), .int (nI (fl)), .int (nI (rk)), .ref ((ad 45)), .ref ((ad 46)), .ref ((ad 47)), .int (rs), .ref ((ad 48)), .long (dr), .int (nI (wo)), .ref ((ad 49)), .ref ((ad 50)), .ref ((ad 51)), .ref ((ad 52)), .ref ((ad 53)), .ref ((ad 54)), .ref ((ad 55)), .ref ((ad 56)), .ref ((ad 57)), .ref ((ad 58)), .int (tc)])), ((ad 42), .inl (cyI, 12, .inl (fun zj => nI (pt zj))))]) hw [0] [1] [1, 0] rfl rfl (by decide) (by decide) (by decide) (fun _ => rfl) (Wd.runV (wc := [((ad 40), .inr (5, [.int (ft), .int (nI (n)), .int (L), .ref ((ad 41)), .ref ((ad 42)), .ref ((ad 43)), .ref ((ad 44)), .int (nI (fl)), .int (nI (rk)), .ref ((ad 45)), .ref ((ad 46)), .ref ((ad 47)), .int (rs), .ref ((ad 48)), .long (dr), .int (nI (wo)), .ref ((ad 49)), .ref ((ad 50)), .ref ((ad 51)), .ref ((ad 52)), .ref ((ad 53)), .ref ((ad 54)), .ref ((ad 55)), .ref ((ad 56)), .ref ((ad 57)), .ref ((ad 58)), .int (tc)]))]) (rest := []) (As := [.int (x)]) hC hw [0] rfl (by decide) 0 rfl rfl (cwV 1 hC.2.2.2.2 gX5_noPort_X5_noPost rfl rfl rfl (by decide +kernel) ⟨Nat.le_of_ble_eq_true rfl, Nat.le_of_ble_eq_true rfl⟩) (c_X5_noPost l dC dI cyI cyJ cyZ cyS ad ft n L fl rk rs dr wo tc x (by first | assumption | omega) _) rfl hl.1 rfl (Nat.le_of_ble_eq_true rfl) dX5_noPort_2 ⟨Nat.zero_le _, Nat.zero_le _⟩) (fun r_2 u H locs hr_2 hw => ?_)
  replace hw : Wd dC dI (tysA cyI cyJ cyZ cyS) [((ad 40), .inr (5, [.int (ft), .int (nI (n)), .int (L), .ref ((ad 41)), .ref ((ad 42)), .ref ((ad 43)), .ref ((ad 44)), .int (nI (fl)), .int (nI (rk)), .ref ((ad 45)), .ref ((ad 46)), .ref ((ad 47)), .int (rs), .ref ((ad 48)), .long (dr), .int (nI (wo)), .ref ((ad 49)), .ref ((ad 50)), .ref ((ad 51)), .ref ((ad 52)), .ref ((ad 53)), .ref ((ad 54)), .ref ((ad 55)), .ref ((ad 56)), .ref ((ad 57)), .ref ((ad 58)), .int (tc)])), ((ad 42), .inl (cyI, 12, .inl (fun zj => nI (pt zj))))] zA zs H locs := hw
  rcases Classical.em (¬ vp_in x n) with c_2 | c_2
  · skip
    obtain rfl := hr_2.1 c_2
    refine lv_if_ne (tgt := 26) hC.1 hC.2.1 dX5_noPort_5 (by decide) (fun _ => ?_) (fun h9 => False.elim (by revert h9; decide))
    refine lv_iconst (v := nI 1) hC.1 hC.2.1 dX5_noPort_26 (by decide) ?_
    refine lv_goto (tgt := 31) hC.1 hC.2.1 dX5_noPort_27 (by decide) ?_
    exact hret _ _ _ ls (nI (1)) () dX5_noPort_31 (by first | rfl | decide) ⟨fun h9 => by first | rfl | (exfalso; (try dsimp only at h9); first | (rw [isPt_iff hn hpt, e9, ← in_ge (n := pt a) (by omega)] at h9; simp_all; done) | (rw [isPt_iff hn hpt] at h9; simp_all; done)), fun h9 => by first | rfl | (exfalso; (try dsimp only at h9); first | (rw [isPt_iff hn hpt, e9, ← in_ge (n := pt a) (by omega)] at h9; simp_all; done) | (rw [isPt_iff hn hpt] at h9; simp_all; done))⟩ hw
  · skip
    obtain rfl := hr_2.2 c_2
    obtain ⟨a, ha, rfl⟩ := vp_in_of (Classical.not_not.mp c_2) (by omega)
    have hpa := hpt a ha
    have e9 : (nI a).toNatClampNeg = a := nI_clamp (by omega)
    have i9 : vp_in (nI a) n := (in_nI (by omega)).mpr ha
    refine lv_if_ne (tgt := 26) hC.1 hC.2.1 dX5_noPort_5 (by decide) (fun h9 => False.elim (by revert h9; decide)) (fun _ => ?_)
    refine lv_iload_n hC.1 hC.2.1 dX5_noPort_8 rfl (lv_at hl 2 rfl) ?_
    refine lv_i2l hC.1 hC.2.1 dX5_noPort_9 rfl ?_
    refine lv_lconst (v := lN 0) hC.1 hC.2.1 dX5_noPort_10 (by decide) ?_
    refine lv_aload_n hC.1 hC.2.1 dX5_noPort_11 rfl (lv_at hl 0 rfl) ?_
    refine g_get hC hw hin5 0 rfl rfl 4 (by decide) lk13 rfl dX5_noPort_12 ?_
    refine lv_iload_n hC.1 hC.2.1 dX5_noPort_15 rfl (lv_at hl 1 rfl) ?_
    refine g_ialdN hC hw 1 0 rfl rfl (by omega) (by first | decide | omega) dX5_noPort_16 ?_
    refine n_i2l hC dX5_noPort_17 (by omega) ?_
    refine lv_lconst (v := lN 1) hC.1 hC.2.1 dX5_noPort_18 (by decide) ?_
    refine lv_lsub hC.1 hC.2.1 dX5_noPort_19 ?_
    refine W.ccI (wc := []) (wr := [((ad 40), .inr (5, [.int (ft), .int (nI (n)), .int (L), .ref ((ad 41)), .ref ((ad 42)), .ref ((ad 43)), .ref ((ad 44)), .int (nI (fl)), .int (nI (rk)), .ref ((ad 45)), .ref ((ad 46)), .ref ((ad 47)), .int (rs), .ref ((ad 48)), .long (dr), .int (nI (wo)), .ref ((ad 49)), .ref ((ad 50)), .ref ((ad 51)), .ref ((ad 52)), .ref ((ad 53)), .ref ((ad 54)), .ref ((ad 55)), .ref ((ad 56)), .ref ((ad 57)), .ref ((ad 58)), .int (tc)])), ((ad 42), .inl (cyI, 12, .inl (fun zj => nI (pt zj))))]) (ws1 := fun (u : Unit) => []) (ws2 := fun (u : Unit) => [((ad 40), .inr (5, [.int (ft), .int (nI (n)), .int (L), .ref ((ad 41)), .ref ((ad 42)), .ref ((ad 43)), .ref ((ad 44)), .int (nI (fl)), .int (nI (rk)), .ref ((ad 45)), .ref ((ad 46)), .ref ((ad 47)), .int (rs), .ref ((ad 48)), .long (dr), .int (nI (wo)), .ref ((ad 49)), .ref ((ad 50)), .ref ((ad 51)), .ref ((ad 52)), .ref ((ad 53)), .ref ((ad 54)), .ref ((ad 55)), .ref ((ad 56)), .ref ((ad 57)), .ref ((ad 58)), .int (tc)])), ((ad 42), .inl (cyI, 12, .inl (fun zj => nI (pt zj))))]) hw [] [0, 1] [0, 1] rfl rfl (by decide) (by decide) (by decide) (fun _ => rfl) (Wd.runS (wc := []) (rest := []) (As := [.long (y.toInt64), .long (lN (0)), .long ((lN (pt a)) - (lN (1)))]) hC hw [] rfl (by decide) (va_cwS 3 hC.2.2.2.2 gX5_noPort_X5_in rfl rfl rfl (by decide +kernel) ⟨Nat.le_of_ble_eq_true rfl, Nat.le_of_ble_eq_true rfl⟩) (c_X5_in l dC dI cyI cyJ cyZ cyS ad y.toInt64 (lN (0)) ((lN (pt a)) - (lN (1))) _) rfl hl.1 rfl (Nat.le_of_ble_eq_true rfl) dX5_noPort_20 ⟨Nat.zero_le _, Nat.zero_le _⟩) (fun r_20 u H locs hr_20 hw => ?_)
    replace hw : Wd dC dI (tysA cyI cyJ cyZ cyS) [((ad 40), .inr (5, [.int (ft), .int (nI (n)), .int (L), .ref ((ad 41)), .ref ((ad 42)), .ref ((ad 43)), .ref ((ad 44)), .int (nI (fl)), .int (nI (rk)), .ref ((ad 45)), .ref ((ad 46)), .ref ((ad 47)), .int (rs), .ref ((ad 48)), .long (dr), .int (nI (wo)), .ref ((ad 49)), .ref ((ad 50)), .ref ((ad 51)), .ref ((ad 52)), .ref ((ad 53)), .ref ((ad 54)), .ref ((ad 55)), .ref ((ad 56)), .ref ((ad 57)), .ref ((ad 58)), .int (tc)])), ((ad 42), .inl (cyI, 12, .inl (fun zj => nI (pt zj))))] zA zs H locs := hw
    rcases Classical.em (¬ y.toInt64 < (lN (0)) ∧ ¬ ((lN (pt a)) - (lN (1))) < y.toInt64) with c_20 | c_20
    · skip
      obtain rfl := hr_20.1 c_20
      rw [in_L (by omega)] at c_20
      refine lv_if_ne (tgt := 30) hC.1 hC.2.1 dX5_noPort_23 (by decide) (fun _ => ?_) (fun h9 => False.elim (by revert h9; decide))
      refine lv_iconst (v := nI 0) hC.1 hC.2.1 dX5_noPort_30 (by decide) ?_
      exact hret _ _ _ ls (nI (0)) () dX5_noPort_31 (by first | rfl | decide) ⟨fun h9 => by first | rfl | (exfalso; (try dsimp only at h9); first | (rw [isPt_iff hn hpt, e9, ← in_ge (n := pt a) (by omega)] at h9; simp_all; done) | (rw [isPt_iff hn hpt] at h9; simp_all; done)), fun h9 => by first | rfl | (exfalso; (try dsimp only at h9); first | (rw [isPt_iff hn hpt, e9, ← in_ge (n := pt a) (by omega)] at h9; simp_all; done) | (rw [isPt_iff hn hpt] at h9; simp_all; done))⟩ hw
    · skip
      obtain rfl := hr_20.2 c_20
      rw [in_L (by omega)] at c_20
      refine lv_if_ne (tgt := 30) hC.1 hC.2.1 dX5_noPort_23 (by decide) (fun h9 => False.elim (by revert h9; decide)) (fun _ => ?_)
      refine lv_iconst (v := nI 1) hC.1 hC.2.1 dX5_noPort_26 (by decide) ?_
      refine lv_goto (tgt := 31) hC.1 hC.2.1 dX5_noPort_27 (by decide) ?_
      exact hret _ _ _ ls (nI (1)) () dX5_noPort_31 (by first | rfl | decide) ⟨fun h9 => by first | rfl | (exfalso; (try dsimp only at h9); first | (rw [isPt_iff hn hpt, e9, ← in_ge (n := pt a) (by omega)] at h9; simp_all; done) | (rw [isPt_iff hn hpt] at h9; simp_all; done)), fun h9 => by first | rfl | (exfalso; (try dsimp only at h9); first | (rw [isPt_iff hn hpt, e9, ← in_ge (n := pt a) (by omega)] at h9; simp_all; done) | (rw [isPt_iff hn hpt] at h9; simp_all; done))⟩ hw

set_option maxHeartbeats 4000000 in
set_option maxRecDepth 100000 in
theorem c_X5_other (l : Launch) (dC : Nat → ClassId) (dI : Nat → Nat → Nat) (cyI cyJ cyZ cyS : ClassId) (ad : Nat → Nat) (ft : Int32) (n : Nat) (L : Int32) (fl rk : Nat) (rs : Int32) (dr : Int64) (wo : Nat) (tc : Int32) : CtV l yX5_other wsX5_other ({ frames := 0, cells := 0, slots := 0, locals := 0 } : Room) dC dI (tysA cyI cyJ cyZ cyS) [.ref ((ad 40))] [((ad 40), .inr (5, [.int (ft), .int (nI (n)), .int (L), .ref ((ad 41)), .ref ((ad 42)), .ref ((ad 43)), .ref ((ad 44)), .int (nI (fl)), .int (nI (rk)), .ref ((ad 45)), .ref ((ad 46)), .ref ((ad 47)), .int (rs), .ref ((ad 48)), .long (dr), .int (nI (wo)), .ref ((ad 49)), .ref ((ad 50)), .ref ((ad 51)), .ref ((ad 52)), .ref ((ad 53)), .ref ((ad 54)), .ref ((ad 55)), .ref ((ad 56)), .ref ((ad 57)), .ref ((ad 58)), .int (tc)]))] (S := Unit) (fun (u : Unit) => True) (fun (u : Unit) => [((ad 40), .inr (5, [.int (ft), .int (nI (n)), .int (L), .ref ((ad 41)), .ref ((ad 42)), .ref ((ad 43)), .ref ((ad 44)), .int (nI (0)), .int (nI (0)), .ref ((ad 45)), .ref ((ad 46)), .ref ((ad 47)), .int (rs), .ref ((ad 48)), .long (dr), .int (nI (wo)), .ref ((ad 49)), .ref ((ad 50)), .ref ((ad 51)), .ref ((ad 52)), .ref ((ad 53)), .ref ((ad 54)), .ref ((ad 55)), .ref ((ad 56)), .ref ((ad 57)), .ref ((ad 58)), .int (tc)]))]) := by
  refine CtV.mk (cc := cX5_other) (maxL := 1) (by decide) rfl (Nat.le_of_ble_eq_true rfl) ?_
  intro zp ze zs zm za zb zt zc zA zQ ls hC hw hl hret
  replace hC : CallFix zp zm zc cX5_other 1 zs za wsX5_other RX5 := hC
  replace hl : lv_has ls 1 [(0, .ref ((ad 40)))] := hl
  have hin5 : ∀ w ∈ u_ws RX5 TX5 27, w ∈ wsX5_other := by decide +kernel
  have lk85 : Cond.fieldLink RX5 85 (TX5 7).1 (TX5 7).2.1 (TX5 7).2.2.1 ∈ wsX5_other := by decide +kernel
  have lk89 : Cond.fieldLink RX5 89 (TX5 8).1 (TX5 8).2.1 (TX5 8).2.2.1 ∈ wsX5_other := by decide +kernel
  refine lv_aload_n hC.1 hC.2.1 dX5_other_0 rfl (lv_at hl 0 rfl) ?_
  refine lv_iconst (v := nI 0) hC.1 hC.2.1 dX5_other_1 (by decide) ?_
  refine g_put hC hw hin5 tyX5 tyX5_ok nmX5 0 rfl rfl 7 (by decide) lk85 rfl (by first | rfl | decide) (by first | rfl | decide) (Nat.le_of_ble_eq_true rfl) dX5_other_2 (fun H locs hw => ?_)
  replace hw : Wd dC dI (tysA cyI cyJ cyZ cyS) [((ad 40), .inr (5, [.int (ft), .int (nI (n)), .int (L), .ref ((ad 41)), .ref ((ad 42)), .ref ((ad 43)), .ref ((ad 44)), .int (nI (0)), .int (nI (rk)), .ref ((ad 45)), .ref ((ad 46)), .ref ((ad 47)), .int (rs), .ref ((ad 48)), .long (dr), .int (nI (wo)), .ref ((ad 49)), .ref ((ad 50)), .ref ((ad 51)), .ref ((ad 52)), .ref ((ad 53)), .ref ((ad 54)), .ref ((ad 55)), .ref ((ad 56)), .ref ((ad 57)), .ref ((ad 58)), .int (tc)]))] zA zs H locs := hw
  refine lv_aload_n hC.1 hC.2.1 dX5_other_5 rfl (lv_at hl 0 rfl) ?_
  refine lv_iconst (v := nI 0) hC.1 hC.2.1 dX5_other_6 (by decide) ?_
  refine g_put hC hw hin5 tyX5 tyX5_ok nmX5 0 rfl rfl 8 (by decide) lk89 rfl (by first | rfl | decide) (by first | rfl | decide) (Nat.le_of_ble_eq_true rfl) dX5_other_7 (fun H locs hw => ?_)
  replace hw : Wd dC dI (tysA cyI cyJ cyZ cyS) [((ad 40), .inr (5, [.int (ft), .int (nI (n)), .int (L), .ref ((ad 41)), .ref ((ad 42)), .ref ((ad 43)), .ref ((ad 44)), .int (nI (0)), .int (nI (0)), .ref ((ad 45)), .ref ((ad 46)), .ref ((ad 47)), .int (rs), .ref ((ad 48)), .long (dr), .int (nI (wo)), .ref ((ad 49)), .ref ((ad 50)), .ref ((ad 51)), .ref ((ad 52)), .ref ((ad 53)), .ref ((ad 54)), .ref ((ad 55)), .ref ((ad 56)), .ref ((ad 57)), .ref ((ad 58)), .int (tc)]))] zA zs H locs := hw
  exact hret _ _ _ ls  () dX5_other_10 trivial hw

set_option maxHeartbeats 4000000 in
set_option maxRecDepth 100000 in
theorem c_X5_addPost (l : Launch) (dC : Nat → ClassId) (dI : Nat → Nat → Nat) (cyI cyJ cyZ cyS : ClassId) (ad : Nat → Nat) (ft : Int32) (n : Nat) (L : Int32) (fl rk : Nat) (rs : Int32) (dr : Int64) (wo : Nat) (tc : Int32) (mk : Nat → Nat) (pt : Nat → Nat) (k : Nat) (hn : n < 12) : CtV l yX5_addPost wsX5_addPost ({ frames := 0, cells := 0, slots := 0, locals := 0 } : Room) dC dI (tysA cyI cyJ cyZ cyS) [.ref ((ad 40)), .int (nI (k))] [((ad 40), .inr (5, [.int (ft), .int (nI (n)), .int (L), .ref ((ad 41)), .ref ((ad 42)), .ref ((ad 43)), .ref ((ad 44)), .int (nI (fl)), .int (nI (rk)), .ref ((ad 45)), .ref ((ad 46)), .ref ((ad 47)), .int (rs), .ref ((ad 48)), .long (dr), .int (nI (wo)), .ref ((ad 49)), .ref ((ad 50)), .ref ((ad 51)), .ref ((ad 52)), .ref ((ad 53)), .ref ((ad 54)), .ref ((ad 55)), .ref ((ad 56)), .ref ((ad 57)), .ref ((ad 58)), .int (tc)])), ((ad 41), .inl (cyI, 12, .inl (fun zj => nI (mk zj)))), ((ad 42), .inl (cyI, 12, .inl (fun zj => nI (pt zj))))] (S := Unit) (fun (u : Unit) => True) (fun (u : Unit) => [((ad 40), .inr (5, [.int (ft), .int (nI (n + 1)), .int (L), .ref ((ad 41)), .ref ((ad 42)), .ref ((ad 43)), .ref ((ad 44)), .int (nI (fl)), .int (nI (rk)), .ref ((ad 45)), .ref ((ad 46)), .ref ((ad 47)), .int (rs), .ref ((ad 48)), .long (dr), .int (nI (wo)), .ref ((ad 49)), .ref ((ad 50)), .ref ((ad 51)), .ref ((ad 52)), .ref ((ad 53)), .ref ((ad 54)), .ref ((ad 55)), .ref ((ad 56)), .ref ((ad 57)), .ref ((ad 58)), .int (tc)])), ((ad 41), .inl (cyI, 12, .inl (fun zj => nI ((va_up mk n k) zj)))), ((ad 42), .inl (cyI, 12, .inl (fun zj => nI ((va_up pt n 0) zj))))]) := by
  refine CtV.mk (cc := cX5_addPost) (maxL := 2) (by decide) rfl (Nat.le_of_ble_eq_true rfl) ?_
  intro zp ze zs zm za zb zt zc zA zQ ls hC hw hl hret
  replace hC : CallFix zp zm zc cX5_addPost 2 zs za wsX5_addPost RX5 := hC
  replace hl : lv_has ls 2 [(0, .ref ((ad 40))), (1, .int (nI (k)))] := hl
  have hin5 : ∀ w ∈ u_ws RX5 TX5 27, w ∈ wsX5_addPost := by decide +kernel
  have lk7 : Cond.fieldLink RX5 7 (TX5 3).1 (TX5 3).2.1 (TX5 3).2.2.1 ∈ wsX5_addPost := by decide +kernel
  have lk13 : Cond.fieldLink RX5 13 (TX5 4).1 (TX5 4).2.1 (TX5 4).2.2.1 ∈ wsX5_addPost := by decide +kernel
  have lk74 : Cond.fieldLink RX5 74 (TX5 1).1 (TX5 1).2.1 (TX5 1).2.2.1 ∈ wsX5_addPost := by decide +kernel
  refine lv_aload_n hC.1 hC.2.1 dX5_addPost_0 rfl (lv_at hl 0 rfl) ?_
  refine g_get hC hw hin5 0 rfl rfl 3 (by decide) lk7 rfl dX5_addPost_1 ?_
  refine lv_aload_n hC.1 hC.2.1 dX5_addPost_4 rfl (lv_at hl 0 rfl) ?_
  refine g_get hC hw hin5 0 rfl rfl 1 (by decide) lk74 rfl dX5_addPost_5 ?_
  refine lv_iload_n hC.1 hC.2.1 dX5_addPost_8 rfl (lv_at hl 1 rfl) ?_
  refine g_iastN hC hw 1 0 rfl rfl (by omega) (by first | decide | omega) dX5_addPost_9 (fun H locs hw => ?_)
  replace hw : Wd dC dI (tysA cyI cyJ cyZ cyS) [((ad 40), .inr (5, [.int (ft), .int (nI (n)), .int (L), .ref ((ad 41)), .ref ((ad 42)), .ref ((ad 43)), .ref ((ad 44)), .int (nI (fl)), .int (nI (rk)), .ref ((ad 45)), .ref ((ad 46)), .ref ((ad 47)), .int (rs), .ref ((ad 48)), .long (dr), .int (nI (wo)), .ref ((ad 49)), .ref ((ad 50)), .ref ((ad 51)), .ref ((ad 52)), .ref ((ad 53)), .ref ((ad 54)), .ref ((ad 55)), .ref ((ad 56)), .ref ((ad 57)), .ref ((ad 58)), .int (tc)])), ((ad 41), .inl (cyI, 12, .inl (fun zj => nI ((va_up mk n k) zj)))), ((ad 42), .inl (cyI, 12, .inl (fun zj => nI (pt zj))))] zA zs H locs := hw
  refine lv_aload_n hC.1 hC.2.1 dX5_addPost_10 rfl (lv_at hl 0 rfl) ?_
  refine g_get hC hw hin5 0 rfl rfl 4 (by decide) lk13 rfl dX5_addPost_11 ?_
  refine lv_aload_n hC.1 hC.2.1 dX5_addPost_14 rfl (lv_at hl 0 rfl) ?_
  refine g_get hC hw hin5 0 rfl rfl 1 (by decide) lk74 rfl dX5_addPost_15 ?_
  refine lv_iconst (v := nI 0) hC.1 hC.2.1 dX5_addPost_18 (by decide) ?_
  refine g_iastN hC hw 2 0 rfl rfl (by omega) (by first | decide | omega) dX5_addPost_19 (fun H locs hw => ?_)
  replace hw : Wd dC dI (tysA cyI cyJ cyZ cyS) [((ad 40), .inr (5, [.int (ft), .int (nI (n)), .int (L), .ref ((ad 41)), .ref ((ad 42)), .ref ((ad 43)), .ref ((ad 44)), .int (nI (fl)), .int (nI (rk)), .ref ((ad 45)), .ref ((ad 46)), .ref ((ad 47)), .int (rs), .ref ((ad 48)), .long (dr), .int (nI (wo)), .ref ((ad 49)), .ref ((ad 50)), .ref ((ad 51)), .ref ((ad 52)), .ref ((ad 53)), .ref ((ad 54)), .ref ((ad 55)), .ref ((ad 56)), .ref ((ad 57)), .ref ((ad 58)), .int (tc)])), ((ad 41), .inl (cyI, 12, .inl (fun zj => nI ((va_up mk n k) zj)))), ((ad 42), .inl (cyI, 12, .inl (fun zj => nI ((va_up pt n 0) zj))))] zA zs H locs := hw
  refine lv_aload_n hC.1 hC.2.1 dX5_addPost_20 rfl (lv_at hl 0 rfl) ?_
  refine lv_dup hC.1 hC.2.1 dX5_addPost_21 rfl ?_
  refine g_get hC hw hin5 0 rfl rfl 1 (by decide) lk74 rfl dX5_addPost_22 ?_
  refine lv_iconst (v := nI 1) hC.1 hC.2.1 dX5_addPost_25 (by decide) ?_
  refine n_iadd hC dX5_addPost_26 ?_
  refine g_put hC hw hin5 tyX5 tyX5_ok nmX5 0 rfl rfl 1 (by decide) lk74 rfl rfl (by first | rfl | decide) (Nat.le_of_ble_eq_true rfl) dX5_addPost_27 (fun H locs hw => ?_)
  replace hw : Wd dC dI (tysA cyI cyJ cyZ cyS) [((ad 40), .inr (5, [.int (ft), .int (nI (n + 1)), .int (L), .ref ((ad 41)), .ref ((ad 42)), .ref ((ad 43)), .ref ((ad 44)), .int (nI (fl)), .int (nI (rk)), .ref ((ad 45)), .ref ((ad 46)), .ref ((ad 47)), .int (rs), .ref ((ad 48)), .long (dr), .int (nI (wo)), .ref ((ad 49)), .ref ((ad 50)), .ref ((ad 51)), .ref ((ad 52)), .ref ((ad 53)), .ref ((ad 54)), .ref ((ad 55)), .ref ((ad 56)), .ref ((ad 57)), .ref ((ad 58)), .int (tc)])), ((ad 41), .inl (cyI, 12, .inl (fun zj => nI ((va_up mk n k) zj)))), ((ad 42), .inl (cyI, 12, .inl (fun zj => nI ((va_up pt n 0) zj))))] zA zs H locs := hw
  exact hret _ _ _ ls  () dX5_addPost_30 trivial hw

set_option maxHeartbeats 4000000 in
set_option maxRecDepth 100000 in
theorem c_X5_link (l : Launch) (dC : Nat → ClassId) (dI : Nat → Nat → Nat) (cyI cyJ cyZ cyS : ClassId) (ad : Nat → Nat) (ft : Int32) (n : Nat) (L : Int32) (fl rk : Nat) (rs : Int32) (dr : Int64) (wo : Nat) (tc : Int32) (tp : Nat → Nat) (tj : Nat → Nat) (p i q j : Nat) (h1 : 6 * p + i < 72) (h2 : 6 * q + j < 72) : CtV l yX5_link wsX5_link ({ frames := 0, cells := 0, slots := 0, locals := 0 } : Room) dC dI (tysA cyI cyJ cyZ cyS) [.ref ((ad 40)), .int (nI (p)), .int (nI (i)), .int (nI (q)), .int (nI (j))] [((ad 40), .inr (5, [.int (ft), .int (nI (n)), .int (L), .ref ((ad 41)), .ref ((ad 42)), .ref ((ad 43)), .ref ((ad 44)), .int (nI (fl)), .int (nI (rk)), .ref ((ad 45)), .ref ((ad 46)), .ref ((ad 47)), .int (rs), .ref ((ad 48)), .long (dr), .int (nI (wo)), .ref ((ad 49)), .ref ((ad 50)), .ref ((ad 51)), .ref ((ad 52)), .ref ((ad 53)), .ref ((ad 54)), .ref ((ad 55)), .ref ((ad 56)), .ref ((ad 57)), .ref ((ad 58)), .int (tc)])), ((ad 43), .inl (cyI, 72, .inl (fun zj => nI (tp zj)))), ((ad 44), .inl (cyI, 72, .inl (fun zj => nI (tj zj))))] (S := Unit) (fun (u : Unit) => True) (fun (u : Unit) => [((ad 40), .inr (5, [.int (ft), .int (nI (n)), .int (L), .ref ((ad 41)), .ref ((ad 42)), .ref ((ad 43)), .ref ((ad 44)), .int (nI (fl)), .int (nI (rk)), .ref ((ad 45)), .ref ((ad 46)), .ref ((ad 47)), .int (rs), .ref ((ad 48)), .long (dr), .int (nI (wo)), .ref ((ad 49)), .ref ((ad 50)), .ref ((ad 51)), .ref ((ad 52)), .ref ((ad 53)), .ref ((ad 54)), .ref ((ad 55)), .ref ((ad 56)), .ref ((ad 57)), .ref ((ad 58)), .int (tc)])), ((ad 43), .inl (cyI, 72, .inl (fun zj => nI ((lkP tp p i q j) zj)))), ((ad 44), .inl (cyI, 72, .inl (fun zj => nI ((lkJ tj p i q j) zj))))]) := by
  refine CtV.mk (cc := cX5_link) (maxL := 5) (by decide) rfl (Nat.le_of_ble_eq_true rfl) ?_
  intro zp ze zs zm za zb zt zc zA zQ ls hC hw hl hret
  replace hC : CallFix zp zm zc cX5_link 5 zs za wsX5_link RX5 := hC
  replace hl : lv_has ls 5 [(0, .ref ((ad 40))), (1, .int (nI (p))), (2, .int (nI (i))), (3, .int (nI (q))), (4, .int (nI (j)))] := hl
  have hin5 : ∀ w ∈ u_ws RX5 TX5 27, w ∈ wsX5_link := by decide +kernel
  have lk16 : Cond.fieldLink RX5 16 (TX5 5).1 (TX5 5).2.1 (TX5 5).2.2.1 ∈ wsX5_link := by decide +kernel
  have lk19 : Cond.fieldLink RX5 19 (TX5 6).1 (TX5 6).2.1 (TX5 6).2.2.1 ∈ wsX5_link := by decide +kernel
  refine lv_aload_n hC.1 hC.2.1 dX5_link_0 rfl (lv_at hl 0 rfl) ?_
  refine g_get hC hw hin5 0 rfl rfl 5 (by decide) lk16 rfl dX5_link_1 ?_
  refine lv_bipush (v := nI 6) hC.1 hC.2.1 dX5_link_4 (by decide) ?_
  refine lv_iload_n hC.1 hC.2.1 dX5_link_6 rfl (lv_at hl 1 rfl) ?_
  refine n_imul hC dX5_link_7 ?_
  refine lv_iload_n hC.1 hC.2.1 dX5_link_8 rfl (lv_at hl 2 rfl) ?_
  refine n_iadd hC dX5_link_9 ?_
  refine lv_iload_n hC.1 hC.2.1 dX5_link_10 rfl (lv_at hl 3 rfl) ?_
  refine g_iastN hC hw 1 0 rfl rfl (by omega) (by first | decide | omega) dX5_link_11 (fun H locs hw => ?_)
  replace hw : Wd dC dI (tysA cyI cyJ cyZ cyS) [((ad 40), .inr (5, [.int (ft), .int (nI (n)), .int (L), .ref ((ad 41)), .ref ((ad 42)), .ref ((ad 43)), .ref ((ad 44)), .int (nI (fl)), .int (nI (rk)), .ref ((ad 45)), .ref ((ad 46)), .ref ((ad 47)), .int (rs), .ref ((ad 48)), .long (dr), .int (nI (wo)), .ref ((ad 49)), .ref ((ad 50)), .ref ((ad 51)), .ref ((ad 52)), .ref ((ad 53)), .ref ((ad 54)), .ref ((ad 55)), .ref ((ad 56)), .ref ((ad 57)), .ref ((ad 58)), .int (tc)])), ((ad 43), .inl (cyI, 72, .inl (fun zj => nI ((va_up tp ((6 * p) + i) q) zj)))), ((ad 44), .inl (cyI, 72, .inl (fun zj => nI (tj zj))))] zA zs H locs := hw
  refine lv_aload_n hC.1 hC.2.1 dX5_link_12 rfl (lv_at hl 0 rfl) ?_
  refine g_get hC hw hin5 0 rfl rfl 6 (by decide) lk19 rfl dX5_link_13 ?_
  refine lv_bipush (v := nI 6) hC.1 hC.2.1 dX5_link_16 (by decide) ?_
  refine lv_iload_n hC.1 hC.2.1 dX5_link_18 rfl (lv_at hl 1 rfl) ?_
  refine n_imul hC dX5_link_19 ?_
  refine lv_iload_n hC.1 hC.2.1 dX5_link_20 rfl (lv_at hl 2 rfl) ?_
  refine n_iadd hC dX5_link_21 ?_
  refine lv_iload hC.1 hC.2.1 dX5_link_22 (lv_at hl 4 rfl) ?_
  refine g_iastN hC hw 2 0 rfl rfl (by omega) (by first | decide | omega) dX5_link_24 (fun H locs hw => ?_)
  replace hw : Wd dC dI (tysA cyI cyJ cyZ cyS) [((ad 40), .inr (5, [.int (ft), .int (nI (n)), .int (L), .ref ((ad 41)), .ref ((ad 42)), .ref ((ad 43)), .ref ((ad 44)), .int (nI (fl)), .int (nI (rk)), .ref ((ad 45)), .ref ((ad 46)), .ref ((ad 47)), .int (rs), .ref ((ad 48)), .long (dr), .int (nI (wo)), .ref ((ad 49)), .ref ((ad 50)), .ref ((ad 51)), .ref ((ad 52)), .ref ((ad 53)), .ref ((ad 54)), .ref ((ad 55)), .ref ((ad 56)), .ref ((ad 57)), .ref ((ad 58)), .int (tc)])), ((ad 43), .inl (cyI, 72, .inl (fun zj => nI ((va_up tp ((6 * p) + i) q) zj)))), ((ad 44), .inl (cyI, 72, .inl (fun zj => nI ((va_up tj ((6 * p) + i) j) zj))))] zA zs H locs := hw
  refine lv_aload_n hC.1 hC.2.1 dX5_link_25 rfl (lv_at hl 0 rfl) ?_
  refine g_get hC hw hin5 0 rfl rfl 5 (by decide) lk16 rfl dX5_link_26 ?_
  refine lv_bipush (v := nI 6) hC.1 hC.2.1 dX5_link_29 (by decide) ?_
  refine lv_iload_n hC.1 hC.2.1 dX5_link_31 rfl (lv_at hl 3 rfl) ?_
  refine n_imul hC dX5_link_32 ?_
  refine lv_iload hC.1 hC.2.1 dX5_link_33 (lv_at hl 4 rfl) ?_
  refine n_iadd hC dX5_link_35 ?_
  refine lv_iload_n hC.1 hC.2.1 dX5_link_36 rfl (lv_at hl 1 rfl) ?_
  refine g_iastN hC hw 1 0 rfl rfl (by omega) (by first | decide | omega) dX5_link_37 (fun H locs hw => ?_)
  replace hw : Wd dC dI (tysA cyI cyJ cyZ cyS) [((ad 40), .inr (5, [.int (ft), .int (nI (n)), .int (L), .ref ((ad 41)), .ref ((ad 42)), .ref ((ad 43)), .ref ((ad 44)), .int (nI (fl)), .int (nI (rk)), .ref ((ad 45)), .ref ((ad 46)), .ref ((ad 47)), .int (rs), .ref ((ad 48)), .long (dr), .int (nI (wo)), .ref ((ad 49)), .ref ((ad 50)), .ref ((ad 51)), .ref ((ad 52)), .ref ((ad 53)), .ref ((ad 54)), .ref ((ad 55)), .ref ((ad 56)), .ref ((ad 57)), .ref ((ad 58)), .int (tc)])), ((ad 43), .inl (cyI, 72, .inl (fun zj => nI ((va_up (va_up tp ((6 * p) + i) q) ((6 * q) + j) p) zj)))), ((ad 44), .inl (cyI, 72, .inl (fun zj => nI ((va_up tj ((6 * p) + i) j) zj))))] zA zs H locs := hw
  refine lv_aload_n hC.1 hC.2.1 dX5_link_38 rfl (lv_at hl 0 rfl) ?_
  refine g_get hC hw hin5 0 rfl rfl 6 (by decide) lk19 rfl dX5_link_39 ?_
  refine lv_bipush (v := nI 6) hC.1 hC.2.1 dX5_link_42 (by decide) ?_
  refine lv_iload_n hC.1 hC.2.1 dX5_link_44 rfl (lv_at hl 3 rfl) ?_
  refine n_imul hC dX5_link_45 ?_
  refine lv_iload hC.1 hC.2.1 dX5_link_46 (lv_at hl 4 rfl) ?_
  refine n_iadd hC dX5_link_48 ?_
  refine lv_iload_n hC.1 hC.2.1 dX5_link_49 rfl (lv_at hl 2 rfl) ?_
  refine g_iastN hC hw 2 0 rfl rfl (by omega) (by first | decide | omega) dX5_link_50 (fun H locs hw => ?_)
  replace hw : Wd dC dI (tysA cyI cyJ cyZ cyS) [((ad 40), .inr (5, [.int (ft), .int (nI (n)), .int (L), .ref ((ad 41)), .ref ((ad 42)), .ref ((ad 43)), .ref ((ad 44)), .int (nI (fl)), .int (nI (rk)), .ref ((ad 45)), .ref ((ad 46)), .ref ((ad 47)), .int (rs), .ref ((ad 48)), .long (dr), .int (nI (wo)), .ref ((ad 49)), .ref ((ad 50)), .ref ((ad 51)), .ref ((ad 52)), .ref ((ad 53)), .ref ((ad 54)), .ref ((ad 55)), .ref ((ad 56)), .ref ((ad 57)), .ref ((ad 58)), .int (tc)])), ((ad 43), .inl (cyI, 72, .inl (fun zj => nI ((va_up (va_up tp ((6 * p) + i) q) ((6 * q) + j) p) zj)))), ((ad 44), .inl (cyI, 72, .inl (fun zj => nI ((va_up (va_up tj ((6 * p) + i) j) ((6 * q) + j) i) zj))))] zA zs H locs := hw
  exact hret _ _ _ ls  () dX5_link_51 trivial hw

set_option maxHeartbeats 4000000 in
set_option maxRecDepth 100000 in
theorem c_X5_refusalOf (l : Launch) (dC : Nat → ClassId) (dI : Nat → Nat → Nat) (cyI cyJ cyZ cyS : ClassId) (ad : Nat → Nat) (ft : Int32) (n : Nat) (L : Int32) (fl rk : Nat) (rs : Int32) (dr : Int64) (wo : Nat) (tc : Int32) (pt : Nat → Nat) (x y : Int32) (hn : n ≤ 12) (hpt : ∀ p, p < n → pt p ≤ 6) : CtI l yX5_refusalOf wsX5_refusalOf ({ frames := 2, cells := 0, slots := 0, locals := 46 } : Room) dC dI (tysA cyI cyJ cyZ cyS) [.ref ((ad 40)), .int (x), .int (y)] [((ad 40), .inr (5, [.int (ft), .int (nI (n)), .int (L), .ref ((ad 41)), .ref ((ad 42)), .ref ((ad 43)), .ref ((ad 44)), .int (nI (fl)), .int (nI (rk)), .ref ((ad 45)), .ref ((ad 46)), .ref ((ad 47)), .int (rs), .ref ((ad 48)), .long (dr), .int (nI (wo)), .ref ((ad 49)), .ref ((ad 50)), .ref ((ad 51)), .ref ((ad 52)), .ref ((ad 53)), .ref ((ad 54)), .ref ((ad 55)), .ref ((ad 56)), .ref ((ad 57)), .ref ((ad 58)), .int (tc)])), ((ad 42), .inl (cyI, 12, .inl (fun zj => nI (pt zj))))] (S := Unit) (fun (r : Int32) (u : Unit) => (r = rfu n pt x y)) (fun (u : Unit) => [((ad 40), .inr (5, [.int (ft), .int (nI (n)), .int (L), .ref ((ad 41)), .ref ((ad 42)), .ref ((ad 43)), .ref ((ad 44)), .int (nI (fl)), .int (nI (rk)), .ref ((ad 45)), .ref ((ad 46)), .ref ((ad 47)), .int (rs), .ref ((ad 48)), .long (dr), .int (nI (wo)), .ref ((ad 49)), .ref ((ad 50)), .ref ((ad 51)), .ref ((ad 52)), .ref ((ad 53)), .ref ((ad 54)), .ref ((ad 55)), .ref ((ad 56)), .ref ((ad 57)), .ref ((ad 58)), .int (tc)])), ((ad 42), .inl (cyI, 12, .inl (fun zj => nI (pt zj))))]) := by
  refine CtI.mk (cc := cX5_refusalOf) (maxL := 3) (by decide) rfl (Nat.le_of_ble_eq_true rfl) ?_
  intro zp ze zs zm za zb zt zc zA zQ ls hC hw hl hret
  replace hC : CallFix zp zm zc cX5_refusalOf 3 zs za wsX5_refusalOf RX5 := hC
  replace hl : lv_has ls 3 [(0, .ref ((ad 40))), (1, .int (x)), (2, .int (y))] := hl
  have hin5 : ∀ w ∈ u_ws RX5 TX5 27, w ∈ wsX5_refusalOf := by decide +kernel
  have lk13 : Cond.fieldLink RX5 13 (TX5 4).1 (TX5 4).2.1 (TX5 4).2.2.1 ∈ wsX5_refusalOf := by decide +kernel
  refine lv_aload_n hC.1 hC.2.1 dX5_refusalOf_0 rfl (lv_at hl 0 rfl) ?_
  refine lv_iload_n hC.1 hC.2.1 dX5_refusalOf_1 rfl (lv_at hl 1 rfl) ?_
  refine W.ccI (wc := [((ad 40), .inr (5, [.int (ft), .int (nI (n)), .int (L), .ref ((ad 41)), .ref ((ad 42)), .ref ((ad 43)), .ref ((ad 44)), .int (nI (fl)), .int (nI (rk)), .ref ((ad 45)), .ref ((ad 46)), .ref ((ad 47)), .int (rs), .ref ((ad 48)), .long (dr), .int (nI (wo)), .ref ((ad 49)), .ref ((ad 50)), .ref ((ad 51)), .ref ((ad 52)), .ref ((ad 53)), .ref ((ad 54)), .ref ((ad 55)), .ref ((ad 56)), .ref ((ad 57)), .ref ((ad 58)), .int (tc)]))]) (wr := [((ad 42), .inl (cyI, 12, .inl (fun zj => nI (pt zj))))]) (ws1 := fun (u : Unit) => [((ad 40), .inr (5, [.int (ft), .int (nI (n)), .int (L), .ref ((ad 41)), .ref ((ad 42)), .ref ((ad 43)), .ref ((ad 44)), .int (nI (fl)), .int (nI (rk)), .ref ((ad 45)), .ref ((ad 46)), .ref ((ad 47)), .int (rs), .ref ((ad 48)), .long (dr), .int (nI (wo)), .ref ((ad 49)), .ref ((ad 50)), .ref ((ad 51)), .ref ((ad 52)), .ref ((ad 53)), .ref ((ad 54)), .ref ((ad 55)), .ref ((ad 56)), .ref ((ad 57)), .ref ((ad 58)), .int (tc)]))]) (ws2 := fun (u : Unit) => [((ad 40), .inr (5, [.int (ft), .int (nI (n)), .int (L), .ref ((ad 41)), .ref ((ad 42)), .ref ((ad 43)), .ref ((ad 44)), .int (nI (fl)), .int (nI (rk)), .ref ((ad 45)), .ref ((ad 46)), .ref ((ad 47)), .int (rs), .ref ((ad 48)), .long (dr), .int (nI (wo)), .ref ((ad 49)), .ref ((ad 50)), .ref ((ad 51)), .ref ((ad 52)), .ref ((ad 53)), .ref ((ad 54)), .ref ((ad 55)), .ref ((ad 56)), .ref ((ad 57)), .ref ((ad 58)), .int (tc)])), ((ad 42), .inl (cyI, 12, .inl (fun zj => nI (pt zj))))]) hw [0] [1] [1, 0] rfl rfl (by decide) (by decide) (by decide) (fun _ => rfl) (Wd.runV (wc := [((ad 40), .inr (5, [.int (ft), .int (nI (n)), .int (L), .ref ((ad 41)), .ref ((ad 42)), .ref ((ad 43)), .ref ((ad 44)), .int (nI (fl)), .int (nI (rk)), .ref ((ad 45)), .ref ((ad 46)), .ref ((ad 47)), .int (rs), .ref ((ad 48)), .long (dr), .int (nI (wo)), .ref ((ad 49)), .ref ((ad 50)), .ref ((ad 51)), .ref ((ad 52)), .ref ((ad 53)), .ref ((ad 54)), .ref ((ad 55)), .ref ((ad 56)), .ref ((ad 57)), .ref ((ad 58)), .int (tc)]))]) (rest := []) (As := [.int (x)]) hC hw [0] rfl (by decide) 0 rfl rfl (cwV 1 hC.2.2.2.2 gX5_refusalOf_X5_noPost rfl rfl rfl (by decide +kernel) ⟨Nat.le_of_ble_eq_true rfl, Nat.le_of_ble_eq_true rfl⟩) (c_X5_noPost l dC dI cyI cyJ cyZ cyS ad ft n L fl rk rs dr wo tc x (by first | assumption | omega) _) rfl hl.1 rfl (Nat.le_of_ble_eq_true rfl) dX5_refusalOf_2 ⟨Nat.zero_le _, Nat.zero_le _⟩) (fun r_2 u H locs hr_2 hw => ?_)
  replace hw : Wd dC dI (tysA cyI cyJ cyZ cyS) [((ad 40), .inr (5, [.int (ft), .int (nI (n)), .int (L), .ref ((ad 41)), .ref ((ad 42)), .ref ((ad 43)), .ref ((ad 44)), .int (nI (fl)), .int (nI (rk)), .ref ((ad 45)), .ref ((ad 46)), .ref ((ad 47)), .int (rs), .ref ((ad 48)), .long (dr), .int (nI (wo)), .ref ((ad 49)), .ref ((ad 50)), .ref ((ad 51)), .ref ((ad 52)), .ref ((ad 53)), .ref ((ad 54)), .ref ((ad 55)), .ref ((ad 56)), .ref ((ad 57)), .ref ((ad 58)), .int (tc)])), ((ad 42), .inl (cyI, 12, .inl (fun zj => nI (pt zj))))] zA zs H locs := hw
  rcases Classical.em (¬ vp_in x n) with cx | cx
  · skip
    obtain rfl := hr_2.1 cx
    refine lv_if_ne (tgt := 16) hC.1 hC.2.1 dX5_refusalOf_5 (by decide) (fun _ => ?_) (fun h9 => False.elim (by revert h9; decide))
    refine lv_iconst (v := (-1)) hC.1 hC.2.1 dX5_refusalOf_16 (by decide) ?_
    exact hret _ _ _ ls ((-1)) () dX5_refusalOf_17 rfl (by first | rw [rfu_x cx] | rw [rfu_y cy]) hw
  · skip
    obtain rfl := hr_2.2 cx
    obtain ⟨a, ha, rfl⟩ := vp_in_of (Classical.not_not.mp cx) (by omega)
    have hqa := hpt a ha
    refine lv_if_ne (tgt := 16) hC.1 hC.2.1 dX5_refusalOf_5 (by decide) (fun h9 => False.elim (by revert h9; decide)) (fun _ => ?_)
    refine lv_aload_n hC.1 hC.2.1 dX5_refusalOf_8 rfl (lv_at hl 0 rfl) ?_
    refine lv_iload_n hC.1 hC.2.1 dX5_refusalOf_9 rfl (lv_at hl 2 rfl) ?_
    refine W.ccI (wc := [((ad 40), .inr (5, [.int (ft), .int (nI (n)), .int (L), .ref ((ad 41)), .ref ((ad 42)), .ref ((ad 43)), .ref ((ad 44)), .int (nI (fl)), .int (nI (rk)), .ref ((ad 45)), .ref ((ad 46)), .ref ((ad 47)), .int (rs), .ref ((ad 48)), .long (dr), .int (nI (wo)), .ref ((ad 49)), .ref ((ad 50)), .ref ((ad 51)), .ref ((ad 52)), .ref ((ad 53)), .ref ((ad 54)), .ref ((ad 55)), .ref ((ad 56)), .ref ((ad 57)), .ref ((ad 58)), .int (tc)]))]) (wr := [((ad 42), .inl (cyI, 12, .inl (fun zj => nI (pt zj))))]) (ws1 := fun (u : Unit) => [((ad 40), .inr (5, [.int (ft), .int (nI (n)), .int (L), .ref ((ad 41)), .ref ((ad 42)), .ref ((ad 43)), .ref ((ad 44)), .int (nI (fl)), .int (nI (rk)), .ref ((ad 45)), .ref ((ad 46)), .ref ((ad 47)), .int (rs), .ref ((ad 48)), .long (dr), .int (nI (wo)), .ref ((ad 49)), .ref ((ad 50)), .ref ((ad 51)), .ref ((ad 52)), .ref ((ad 53)), .ref ((ad 54)), .ref ((ad 55)), .ref ((ad 56)), .ref ((ad 57)), .ref ((ad 58)), .int (tc)]))]) (ws2 := fun (u : Unit) => [((ad 40), .inr (5, [.int (ft), .int (nI (n)), .int (L), .ref ((ad 41)), .ref ((ad 42)), .ref ((ad 43)), .ref ((ad 44)), .int (nI (fl)), .int (nI (rk)), .ref ((ad 45)), .ref ((ad 46)), .ref ((ad 47)), .int (rs), .ref ((ad 48)), .long (dr), .int (nI (wo)), .ref ((ad 49)), .ref ((ad 50)), .ref ((ad 51)), .ref ((ad 52)), .ref ((ad 53)), .ref ((ad 54)), .ref ((ad 55)), .ref ((ad 56)), .ref ((ad 57)), .ref ((ad 58)), .int (tc)])), ((ad 42), .inl (cyI, 12, .inl (fun zj => nI (pt zj))))]) hw [0] [1] [1, 0] rfl rfl (by decide) (by decide) (by decide) (fun _ => rfl) (Wd.runV (wc := [((ad 40), .inr (5, [.int (ft), .int (nI (n)), .int (L), .ref ((ad 41)), .ref ((ad 42)), .ref ((ad 43)), .ref ((ad 44)), .int (nI (fl)), .int (nI (rk)), .ref ((ad 45)), .ref ((ad 46)), .ref ((ad 47)), .int (rs), .ref ((ad 48)), .long (dr), .int (nI (wo)), .ref ((ad 49)), .ref ((ad 50)), .ref ((ad 51)), .ref ((ad 52)), .ref ((ad 53)), .ref ((ad 54)), .ref ((ad 55)), .ref ((ad 56)), .ref ((ad 57)), .ref ((ad 58)), .int (tc)]))]) (rest := []) (As := [.int (y)]) hC hw [0] rfl (by decide) 0 rfl rfl (cwV 1 hC.2.2.2.2 gX5_refusalOf_X5_noPost rfl rfl rfl (by decide +kernel) ⟨Nat.le_of_ble_eq_true rfl, Nat.le_of_ble_eq_true rfl⟩) (c_X5_noPost l dC dI cyI cyJ cyZ cyS ad ft n L fl rk rs dr wo tc y (by first | assumption | omega) _) rfl hl.1 rfl (Nat.le_of_ble_eq_true rfl) dX5_refusalOf_10 ⟨Nat.zero_le _, Nat.zero_le _⟩) (fun r_10 u H locs hr_10 hw => ?_)
    replace hw : Wd dC dI (tysA cyI cyJ cyZ cyS) [((ad 40), .inr (5, [.int (ft), .int (nI (n)), .int (L), .ref ((ad 41)), .ref ((ad 42)), .ref ((ad 43)), .ref ((ad 44)), .int (nI (fl)), .int (nI (rk)), .ref ((ad 45)), .ref ((ad 46)), .ref ((ad 47)), .int (rs), .ref ((ad 48)), .long (dr), .int (nI (wo)), .ref ((ad 49)), .ref ((ad 50)), .ref ((ad 51)), .ref ((ad 52)), .ref ((ad 53)), .ref ((ad 54)), .ref ((ad 55)), .ref ((ad 56)), .ref ((ad 57)), .ref ((ad 58)), .int (tc)])), ((ad 42), .inl (cyI, 12, .inl (fun zj => nI (pt zj))))] zA zs H locs := hw
    rcases Classical.em (¬ vp_in y n) with cy | cy
    · skip
      obtain rfl := hr_10.1 cy
      refine lv_if_eq (tgt := 18) hC.1 hC.2.1 dX5_refusalOf_13 (by decide) (fun h9 => False.elim (by revert h9; decide)) (fun _ => ?_)
      refine lv_iconst (v := (-1)) hC.1 hC.2.1 dX5_refusalOf_16 (by decide) ?_
      exact hret _ _ _ ls ((-1)) () dX5_refusalOf_17 rfl (by first | rw [rfu_x cx] | rw [rfu_y cy]) hw
    · skip
      obtain rfl := hr_10.2 cy
      obtain ⟨b, hb, rfl⟩ := vp_in_of (Classical.not_not.mp cy) (by omega)
      have hqb := hpt b hb
      refine lv_if_eq (tgt := 18) hC.1 hC.2.1 dX5_refusalOf_13 (by decide) (fun _ => ?_) (fun h9 => False.elim (by revert h9; decide))
      refine lv_iload_n hC.1 hC.2.1 dX5_refusalOf_18 rfl (lv_at hl 1 rfl) ?_
      refine lv_iload_n hC.1 hC.2.1 dX5_refusalOf_19 rfl (lv_at hl 2 rfl) ?_
      refine n_icmp_ne (tgt := 28) hC dX5_refusalOf_20 (by decide) (by omega) (by omega) (fun c20 => ?_) (fun c20 => ?_)
      · skip
        refine lv_aload_n hC.1 hC.2.1 dX5_refusalOf_28 rfl (lv_at hl 0 rfl) ?_
        refine g_get hC hw hin5 0 rfl rfl 4 (by decide) lk13 rfl dX5_refusalOf_29 ?_
        refine lv_iload_n hC.1 hC.2.1 dX5_refusalOf_32 rfl (lv_at hl 1 rfl) ?_
        refine g_ialdN hC hw 1 0 rfl rfl (by omega) (by first | decide | omega) dX5_refusalOf_33 ?_
        refine lv_bipush (v := nI 6) hC.1 hC.2.1 dX5_refusalOf_34 (by decide) ?_
        refine n_icmp_eq (tgt := 50) hC dX5_refusalOf_36 (by decide) (by omega) (by omega) (fun c_36 => ?_) (fun c_36 => ?_)
        · skip
          refine lv_bipush (v := (-4)) hC.1 hC.2.1 dX5_refusalOf_50 (by decide) ?_
          refine lv_goto (tgt := 56) hC.1 hC.2.1 dX5_refusalOf_52 (by decide) ?_
          exact hret _ _ _ ls ((-4)) () dX5_refusalOf_56 rfl (by rw [rfu_in hn ha hb]; first | (rw [if_pos c20]; done) | (rw [if_neg c20, if_neg (by omega)]; done) | (rw [if_neg c20, if_pos ⟨by omega, by omega⟩]; rfl)) hw
        · skip
          refine lv_aload_n hC.1 hC.2.1 dX5_refusalOf_39 rfl (lv_at hl 0 rfl) ?_
          refine g_get hC hw hin5 0 rfl rfl 4 (by decide) lk13 rfl dX5_refusalOf_40 ?_
          refine lv_iload_n hC.1 hC.2.1 dX5_refusalOf_43 rfl (lv_at hl 2 rfl) ?_
          refine g_ialdN hC hw 1 0 rfl rfl (by omega) (by first | decide | omega) dX5_refusalOf_44 ?_
          refine lv_bipush (v := nI 6) hC.1 hC.2.1 dX5_refusalOf_45 (by decide) ?_
          refine n_icmp_ne (tgt := 55) hC dX5_refusalOf_47 (by decide) (by omega) (by omega) (fun c_47 => ?_) (fun c_47 => ?_)
          · skip
            refine lv_iconst (v := nI 0) hC.1 hC.2.1 dX5_refusalOf_55 (by decide) ?_
            exact hret _ _ _ ls (nI (0)) () dX5_refusalOf_56 rfl (by rw [rfu_in hn ha hb]; first | (rw [if_pos c20]; done) | (rw [if_neg c20, if_neg (by omega)]; done) | (rw [if_neg c20, if_pos ⟨by omega, by omega⟩]; rfl)) hw
          · skip
            refine lv_bipush (v := (-4)) hC.1 hC.2.1 dX5_refusalOf_50 (by decide) ?_
            refine lv_goto (tgt := 56) hC.1 hC.2.1 dX5_refusalOf_52 (by decide) ?_
            exact hret _ _ _ ls ((-4)) () dX5_refusalOf_56 rfl (by rw [rfu_in hn ha hb]; first | (rw [if_pos c20]; done) | (rw [if_neg c20, if_neg (by omega)]; done) | (rw [if_neg c20, if_pos ⟨by omega, by omega⟩]; rfl)) hw
      · skip
        refine lv_bipush (v := (-2)) hC.1 hC.2.1 dX5_refusalOf_23 (by decide) ?_
        refine lv_goto (tgt := 56) hC.1 hC.2.1 dX5_refusalOf_25 (by decide) ?_
        exact hret _ _ _ ls ((-2)) () dX5_refusalOf_56 rfl (by rw [rfu_in hn ha hb]; first | (rw [if_pos c20]; done) | (rw [if_neg c20, if_neg (by omega)]; done) | (rw [if_neg c20, if_pos ⟨by omega, by omega⟩]; rfl)) hw

set_option maxHeartbeats 4000000 in
set_option maxRecDepth 100000 in
theorem c_X5_addLine (l : Launch) (dC : Nat → ClassId) (dI : Nat → Nat → Nat) (cyI cyJ cyZ cyS : ClassId) (ad : Nat → Nat) (ft : Int32) (n : Nat) (L : Int32) (fl rk : Nat) (rs : Int32) (dr : Int64) (wo : Nat) (tc : Int32) (pt : Nat → Nat) (tp : Nat → Nat) (tj : Nat → Nat) (a b : Nat) (ha : a < 12) (hb : b < 12) (ha6 : pt a < 6) (hb6 : pt b < 6) : CtV l yX5_addLine wsX5_addLine ({ frames := 1, cells := 0, slots := 0, locals := 24 } : Room) dC dI (tysA cyI cyJ cyZ cyS) [.ref ((ad 40)), .int (nI (a)), .int (nI (b))] [((ad 40), .inr (5, [.int (ft), .int (nI (n)), .int (L), .ref ((ad 41)), .ref ((ad 42)), .ref ((ad 43)), .ref ((ad 44)), .int (nI (fl)), .int (nI (rk)), .ref ((ad 45)), .ref ((ad 46)), .ref ((ad 47)), .int (rs), .ref ((ad 48)), .long (dr), .int (nI (wo)), .ref ((ad 49)), .ref ((ad 50)), .ref ((ad 51)), .ref ((ad 52)), .ref ((ad 53)), .ref ((ad 54)), .ref ((ad 55)), .ref ((ad 56)), .ref ((ad 57)), .ref ((ad 58)), .int (tc)])), ((ad 42), .inl (cyI, 12, .inl (fun zj => nI (pt zj)))), ((ad 43), .inl (cyI, 72, .inl (fun zj => nI (tp zj)))), ((ad 44), .inl (cyI, 72, .inl (fun zj => nI (tj zj))))] (S := Unit) (fun (u : Unit) => True) (fun (u : Unit) => [((ad 40), .inr (5, [.int (ft), .int (nI (n)), .int (L + nI 1), .ref ((ad 41)), .ref ((ad 42)), .ref ((ad 43)), .ref ((ad 44)), .int (nI (fl)), .int (nI (rk)), .ref ((ad 45)), .ref ((ad 46)), .ref ((ad 47)), .int (rs), .ref ((ad 48)), .long (dr), .int (nI (wo)), .ref ((ad 49)), .ref ((ad 50)), .ref ((ad 51)), .ref ((ad 52)), .ref ((ad 53)), .ref ((ad 54)), .ref ((ad 55)), .ref ((ad 56)), .ref ((ad 57)), .ref ((ad 58)), .int (tc)])), ((ad 42), .inl (cyI, 12, .inl (fun zj => nI ((jPt pt a b) zj)))), ((ad 43), .inl (cyI, 72, .inl (fun zj => nI ((lkP tp a (pt a) b (pt b)) zj)))), ((ad 44), .inl (cyI, 72, .inl (fun zj => nI ((lkJ tj a (pt a) b (pt b)) zj))))]) := by
  refine CtV.mk (cc := cX5_addLine) (maxL := 3) (by decide) rfl (Nat.le_of_ble_eq_true rfl) ?_
  intro zp ze zs zm za zb zt zc zA zQ ls hC hw hl hret
  replace hC : CallFix zp zm zc cX5_addLine 3 zs za wsX5_addLine RX5 := hC
  replace hl : lv_has ls 3 [(0, .ref ((ad 40))), (1, .int (nI (a))), (2, .int (nI (b)))] := hl
  have hin5 : ∀ w ∈ u_ws RX5 TX5 27, w ∈ wsX5_addLine := by decide +kernel
  have lk13 : Cond.fieldLink RX5 13 (TX5 4).1 (TX5 4).2.1 (TX5 4).2.2.1 ∈ wsX5_addLine := by decide +kernel
  have lk92 : Cond.fieldLink RX5 92 (TX5 2).1 (TX5 2).2.1 (TX5 2).2.2.1 ∈ wsX5_addLine := by decide +kernel
  refine lv_aload_n hC.1 hC.2.1 dX5_addLine_0 rfl (lv_at hl 0 rfl) ?_
  refine lv_iload_n hC.1 hC.2.1 dX5_addLine_1 rfl (lv_at hl 1 rfl) ?_
  refine lv_aload_n hC.1 hC.2.1 dX5_addLine_2 rfl (lv_at hl 0 rfl) ?_
  refine g_get hC hw hin5 0 rfl rfl 4 (by decide) lk13 rfl dX5_addLine_3 ?_
  refine lv_iload_n hC.1 hC.2.1 dX5_addLine_6 rfl (lv_at hl 1 rfl) ?_
  refine g_ialdN hC hw 1 0 rfl rfl (by omega) (by first | decide | omega) dX5_addLine_7 ?_
  refine lv_iload_n hC.1 hC.2.1 dX5_addLine_8 rfl (lv_at hl 2 rfl) ?_
  refine lv_aload_n hC.1 hC.2.1 dX5_addLine_9 rfl (lv_at hl 0 rfl) ?_
  refine g_get hC hw hin5 0 rfl rfl 4 (by decide) lk13 rfl dX5_addLine_10 ?_
  refine lv_iload_n hC.1 hC.2.1 dX5_addLine_13 rfl (lv_at hl 2 rfl) ?_
  refine g_ialdN hC hw 1 0 rfl rfl (by omega) (by first | decide | omega) dX5_addLine_14 ?_
  refine W.ccV (wc := [((ad 40), .inr (5, [.int (ft), .int (nI (n)), .int (L), .ref ((ad 41)), .ref ((ad 42)), .ref ((ad 43)), .ref ((ad 44)), .int (nI (fl)), .int (nI (rk)), .ref ((ad 45)), .ref ((ad 46)), .ref ((ad 47)), .int (rs), .ref ((ad 48)), .long (dr), .int (nI (wo)), .ref ((ad 49)), .ref ((ad 50)), .ref ((ad 51)), .ref ((ad 52)), .ref ((ad 53)), .ref ((ad 54)), .ref ((ad 55)), .ref ((ad 56)), .ref ((ad 57)), .ref ((ad 58)), .int (tc)])), ((ad 43), .inl (cyI, 72, .inl (fun zj => nI (tp zj)))), ((ad 44), .inl (cyI, 72, .inl (fun zj => nI (tj zj))))]) (wr := [((ad 42), .inl (cyI, 12, .inl (fun zj => nI (pt zj))))]) (ws1 := fun (u : Unit) => [((ad 40), .inr (5, [.int (ft), .int (nI (n)), .int (L), .ref ((ad 41)), .ref ((ad 42)), .ref ((ad 43)), .ref ((ad 44)), .int (nI (fl)), .int (nI (rk)), .ref ((ad 45)), .ref ((ad 46)), .ref ((ad 47)), .int (rs), .ref ((ad 48)), .long (dr), .int (nI (wo)), .ref ((ad 49)), .ref ((ad 50)), .ref ((ad 51)), .ref ((ad 52)), .ref ((ad 53)), .ref ((ad 54)), .ref ((ad 55)), .ref ((ad 56)), .ref ((ad 57)), .ref ((ad 58)), .int (tc)])), ((ad 43), .inl (cyI, 72, .inl (fun zj => nI ((lkP tp a (pt a) b (pt b)) zj)))), ((ad 44), .inl (cyI, 72, .inl (fun zj => nI ((lkJ tj a (pt a) b (pt b)) zj))))]) (ws2 := fun (u : Unit) => [((ad 40), .inr (5, [.int (ft), .int (nI (n)), .int (L), .ref ((ad 41)), .ref ((ad 42)), .ref ((ad 43)), .ref ((ad 44)), .int (nI (fl)), .int (nI (rk)), .ref ((ad 45)), .ref ((ad 46)), .ref ((ad 47)), .int (rs), .ref ((ad 48)), .long (dr), .int (nI (wo)), .ref ((ad 49)), .ref ((ad 50)), .ref ((ad 51)), .ref ((ad 52)), .ref ((ad 53)), .ref ((ad 54)), .ref ((ad 55)), .ref ((ad 56)), .ref ((ad 57)), .ref ((ad 58)), .int (tc)])), ((ad 42), .inl (cyI, 12, .inl (fun zj => nI (pt zj)))), ((ad 43), .inl (cyI, 72, .inl (fun zj => nI ((lkP tp a (pt a) b (pt b)) zj)))), ((ad 44), .inl (cyI, 72, .inl (fun zj => nI ((lkJ tj a (pt a) b (pt b)) zj))))]) hw [0, 2, 3] [1] [1, 0, 2, 3] rfl rfl (by decide) (by decide) (by decide) (fun _ => rfl) (Wd.runV (wc := [((ad 40), .inr (5, [.int (ft), .int (nI (n)), .int (L), .ref ((ad 41)), .ref ((ad 42)), .ref ((ad 43)), .ref ((ad 44)), .int (nI (fl)), .int (nI (rk)), .ref ((ad 45)), .ref ((ad 46)), .ref ((ad 47)), .int (rs), .ref ((ad 48)), .long (dr), .int (nI (wo)), .ref ((ad 49)), .ref ((ad 50)), .ref ((ad 51)), .ref ((ad 52)), .ref ((ad 53)), .ref ((ad 54)), .ref ((ad 55)), .ref ((ad 56)), .ref ((ad 57)), .ref ((ad 58)), .int (tc)])), ((ad 43), .inl (cyI, 72, .inl (fun zj => nI (tp zj)))), ((ad 44), .inl (cyI, 72, .inl (fun zj => nI (tj zj))))]) (rest := []) (As := [.int (nI (a)), .int (nI (pt a)), .int (nI (b)), .int (nI (pt b))]) hC hw [0, 2, 3] rfl (by decide) 0 rfl rfl (cwV 4 hC.2.2.2.2 gX5_addLine_X5_link rfl rfl rfl (by decide +kernel) ⟨Nat.le_of_ble_eq_true rfl, Nat.le_of_ble_eq_true rfl⟩) (c_X5_link l dC dI cyI cyJ cyZ cyS ad ft n L fl rk rs dr wo tc tp tj a (pt a) b (pt b) (by omega) (by omega) _) rfl hl.1 rfl (Nat.le_of_ble_eq_true rfl) dX5_addLine_15 ⟨Nat.zero_le _, Nat.zero_le _⟩) (fun u H locs hr_15 hw => ?_)
  replace hw : Wd dC dI (tysA cyI cyJ cyZ cyS) [((ad 40), .inr (5, [.int (ft), .int (nI (n)), .int (L), .ref ((ad 41)), .ref ((ad 42)), .ref ((ad 43)), .ref ((ad 44)), .int (nI (fl)), .int (nI (rk)), .ref ((ad 45)), .ref ((ad 46)), .ref ((ad 47)), .int (rs), .ref ((ad 48)), .long (dr), .int (nI (wo)), .ref ((ad 49)), .ref ((ad 50)), .ref ((ad 51)), .ref ((ad 52)), .ref ((ad 53)), .ref ((ad 54)), .ref ((ad 55)), .ref ((ad 56)), .ref ((ad 57)), .ref ((ad 58)), .int (tc)])), ((ad 42), .inl (cyI, 12, .inl (fun zj => nI (pt zj)))), ((ad 43), .inl (cyI, 72, .inl (fun zj => nI ((lkP tp a (pt a) b (pt b)) zj)))), ((ad 44), .inl (cyI, 72, .inl (fun zj => nI ((lkJ tj a (pt a) b (pt b)) zj))))] zA zs H locs := hw
  refine lv_aload_n hC.1 hC.2.1 dX5_addLine_18 rfl (lv_at hl 0 rfl) ?_
  refine g_get hC hw hin5 0 rfl rfl 4 (by decide) lk13 rfl dX5_addLine_19 ?_
  refine lv_iload_n hC.1 hC.2.1 dX5_addLine_22 rfl (lv_at hl 1 rfl) ?_
  refine lv_dup2_11 hC.1 hC.2.1 dX5_addLine_23 rfl rfl ?_
  refine g_ialdN hC hw 1 0 rfl rfl (by omega) (by first | decide | omega) dX5_addLine_24 ?_
  refine lv_iconst (v := nI 1) hC.1 hC.2.1 dX5_addLine_25 (by decide) ?_
  refine n_iadd hC dX5_addLine_26 ?_
  refine g_iastN hC hw 1 0 rfl rfl (by omega) (by first | decide | omega) dX5_addLine_27 (fun H locs hw => ?_)
  replace hw : Wd dC dI (tysA cyI cyJ cyZ cyS) [((ad 40), .inr (5, [.int (ft), .int (nI (n)), .int (L), .ref ((ad 41)), .ref ((ad 42)), .ref ((ad 43)), .ref ((ad 44)), .int (nI (fl)), .int (nI (rk)), .ref ((ad 45)), .ref ((ad 46)), .ref ((ad 47)), .int (rs), .ref ((ad 48)), .long (dr), .int (nI (wo)), .ref ((ad 49)), .ref ((ad 50)), .ref ((ad 51)), .ref ((ad 52)), .ref ((ad 53)), .ref ((ad 54)), .ref ((ad 55)), .ref ((ad 56)), .ref ((ad 57)), .ref ((ad 58)), .int (tc)])), ((ad 42), .inl (cyI, 12, .inl (fun zj => nI ((va_up pt a ((pt a) + 1)) zj)))), ((ad 43), .inl (cyI, 72, .inl (fun zj => nI ((lkP tp a (pt a) b (pt b)) zj)))), ((ad 44), .inl (cyI, 72, .inl (fun zj => nI ((lkJ tj a (pt a) b (pt b)) zj))))] zA zs H locs := hw
  refine lv_aload_n hC.1 hC.2.1 dX5_addLine_28 rfl (lv_at hl 0 rfl) ?_
  refine g_get hC hw hin5 0 rfl rfl 4 (by decide) lk13 rfl dX5_addLine_29 ?_
  refine lv_iload_n hC.1 hC.2.1 dX5_addLine_32 rfl (lv_at hl 2 rfl) ?_
  refine lv_dup2_11 hC.1 hC.2.1 dX5_addLine_33 rfl rfl ?_
  refine g_ialdN hC hw 1 0 rfl rfl (by omega) (by first | decide | omega) dX5_addLine_34 ?_
  refine lv_iconst (v := nI 1) hC.1 hC.2.1 dX5_addLine_35 (by decide) ?_
  refine n_iadd hC dX5_addLine_36 ?_
  refine g_iastN hC hw 1 0 rfl rfl (by omega) (by first | decide | omega) dX5_addLine_37 (fun H locs hw => ?_)
  replace hw : Wd dC dI (tysA cyI cyJ cyZ cyS) [((ad 40), .inr (5, [.int (ft), .int (nI (n)), .int (L), .ref ((ad 41)), .ref ((ad 42)), .ref ((ad 43)), .ref ((ad 44)), .int (nI (fl)), .int (nI (rk)), .ref ((ad 45)), .ref ((ad 46)), .ref ((ad 47)), .int (rs), .ref ((ad 48)), .long (dr), .int (nI (wo)), .ref ((ad 49)), .ref ((ad 50)), .ref ((ad 51)), .ref ((ad 52)), .ref ((ad 53)), .ref ((ad 54)), .ref ((ad 55)), .ref ((ad 56)), .ref ((ad 57)), .ref ((ad 58)), .int (tc)])), ((ad 42), .inl (cyI, 12, .inl (fun zj => nI ((va_up (va_up pt a ((pt a) + 1)) b (((va_up pt a ((pt a) + 1)) b) + 1)) zj)))), ((ad 43), .inl (cyI, 72, .inl (fun zj => nI ((lkP tp a (pt a) b (pt b)) zj)))), ((ad 44), .inl (cyI, 72, .inl (fun zj => nI ((lkJ tj a (pt a) b (pt b)) zj))))] zA zs H locs := hw
  refine lv_aload_n hC.1 hC.2.1 dX5_addLine_38 rfl (lv_at hl 0 rfl) ?_
  refine lv_dup hC.1 hC.2.1 dX5_addLine_39 rfl ?_
  refine g_get hC hw hin5 0 rfl rfl 2 (by decide) lk92 rfl dX5_addLine_40 ?_
  refine lv_iconst (v := nI 1) hC.1 hC.2.1 dX5_addLine_43 (by decide) ?_
  refine lv_iadd hC.1 hC.2.1 dX5_addLine_44 ?_
  refine g_put hC hw hin5 tyX5 tyX5_ok nmX5 0 rfl rfl 2 (by decide) lk92 rfl rfl (by first | rfl | decide) (Nat.le_of_ble_eq_true rfl) dX5_addLine_45 (fun H locs hw => ?_)
  replace hw : Wd dC dI (tysA cyI cyJ cyZ cyS) [((ad 40), .inr (5, [.int (ft), .int (nI (n)), .int (L + (nI (1))), .ref ((ad 41)), .ref ((ad 42)), .ref ((ad 43)), .ref ((ad 44)), .int (nI (fl)), .int (nI (rk)), .ref ((ad 45)), .ref ((ad 46)), .ref ((ad 47)), .int (rs), .ref ((ad 48)), .long (dr), .int (nI (wo)), .ref ((ad 49)), .ref ((ad 50)), .ref ((ad 51)), .ref ((ad 52)), .ref ((ad 53)), .ref ((ad 54)), .ref ((ad 55)), .ref ((ad 56)), .ref ((ad 57)), .ref ((ad 58)), .int (tc)])), ((ad 42), .inl (cyI, 12, .inl (fun zj => nI ((va_up (va_up pt a ((pt a) + 1)) b (((va_up pt a ((pt a) + 1)) b) + 1)) zj)))), ((ad 43), .inl (cyI, 72, .inl (fun zj => nI ((lkP tp a (pt a) b (pt b)) zj)))), ((ad 44), .inl (cyI, 72, .inl (fun zj => nI ((lkJ tj a (pt a) b (pt b)) zj))))] zA zs H locs := hw
  exact hret _ _ _ ls  () dX5_addLine_48 trivial hw

set_option maxHeartbeats 4000000 in
set_option maxRecDepth 100000 in
theorem c_X5_traced (l : Launch) (dC : Nat → ClassId) (dI : Nat → Nat → Nat) (cyI cyJ cyZ cyS : ClassId) (ad : Nat → Nat) (ft : Int32) (n : Nat) (L : Int32) (fl rk : Nat) (rs : Int32) (dr : Int64) (wo : Nat) (tc : Int32) (b : Nat) : CtV l yX5_traced wsX5_traced ({ frames := 0, cells := 0, slots := 0, locals := 0 } : Room) dC dI (tysA cyI cyJ cyZ cyS) [.ref ((ad 40)), .int (nI (b))] [((ad 40), .inr (5, [.int (ft), .int (nI (n)), .int (L), .ref ((ad 41)), .ref ((ad 42)), .ref ((ad 43)), .ref ((ad 44)), .int (nI (fl)), .int (nI (rk)), .ref ((ad 45)), .ref ((ad 46)), .ref ((ad 47)), .int (rs), .ref ((ad 48)), .long (dr), .int (nI (wo)), .ref ((ad 49)), .ref ((ad 50)), .ref ((ad 51)), .ref ((ad 52)), .ref ((ad 53)), .ref ((ad 54)), .ref ((ad 55)), .ref ((ad 56)), .ref ((ad 57)), .ref ((ad 58)), .int (tc)]))] (S := Unit) (fun (u : Unit) => True) (fun (u : Unit) => [((ad 40), .inr (5, [.int (ft), .int (nI (n)), .int (L), .ref ((ad 41)), .ref ((ad 42)), .ref ((ad 43)), .ref ((ad 44)), .int (nI (fl)), .int (nI (rk)), .ref ((ad 45)), .ref ((ad 46)), .ref ((ad 47)), .int (rs), .ref ((ad 48)), .long (dr), .int (nI (wo)), .ref ((ad 49)), .ref ((ad 50)), .ref ((ad 51)), .ref ((ad 52)), .ref ((ad 53)), .ref ((ad 54)), .ref ((ad 55)), .ref ((ad 56)), .ref ((ad 57)), .ref ((ad 58)), .int (nI 31 * tc + nI b)]))]) := by
  refine CtV.mk (cc := cX5_traced) (maxL := 2) (by decide) rfl (Nat.le_of_ble_eq_true rfl) ?_
  intro zp ze zs zm za zb zt zc zA zQ ls hC hw hl hret
  replace hC : CallFix zp zm zc cX5_traced 2 zs za wsX5_traced RX5 := hC
  replace hl : lv_has ls 2 [(0, .ref ((ad 40))), (1, .int (nI (b)))] := hl
  have hin5 : ∀ w ∈ u_ws RX5 TX5 27, w ∈ wsX5_traced := by decide +kernel
  have lk212 : Cond.fieldLink RX5 212 (TX5 26).1 (TX5 26).2.1 (TX5 26).2.2.1 ∈ wsX5_traced := by decide +kernel
  refine lv_aload_n hC.1 hC.2.1 dX5_traced_0 rfl (lv_at hl 0 rfl) ?_
  refine lv_bipush (v := nI 31) hC.1 hC.2.1 dX5_traced_1 (by decide) ?_
  refine lv_aload_n hC.1 hC.2.1 dX5_traced_3 rfl (lv_at hl 0 rfl) ?_
  refine g_get hC hw hin5 0 rfl rfl 26 (by decide) lk212 rfl dX5_traced_4 ?_
  refine lv_imul hC.1 hC.2.1 dX5_traced_7 ?_
  refine lv_iload_n hC.1 hC.2.1 dX5_traced_8 rfl (lv_at hl 1 rfl) ?_
  refine lv_iadd hC.1 hC.2.1 dX5_traced_9 ?_
  refine g_put hC hw hin5 tyX5 tyX5_ok nmX5 0 rfl rfl 26 (by decide) lk212 rfl rfl (by first | rfl | decide) (Nat.le_of_ble_eq_true rfl) dX5_traced_10 (fun H locs hw => ?_)
  replace hw : Wd dC dI (tysA cyI cyJ cyZ cyS) [((ad 40), .inr (5, [.int (ft), .int (nI (n)), .int (L), .ref ((ad 41)), .ref ((ad 42)), .ref ((ad 43)), .ref ((ad 44)), .int (nI (fl)), .int (nI (rk)), .ref ((ad 45)), .ref ((ad 46)), .ref ((ad 47)), .int (rs), .ref ((ad 48)), .long (dr), .int (nI (wo)), .ref ((ad 49)), .ref ((ad 50)), .ref ((ad 51)), .ref ((ad 52)), .ref ((ad 53)), .ref ((ad 54)), .ref ((ad 55)), .ref ((ad 56)), .ref ((ad 57)), .ref ((ad 58)), .int (((nI (31)) * tc) + (nI (b)))]))] zA zs H locs := hw
  exact hret _ _ _ ls  () dX5_traced_13 trivial hw

set_option maxHeartbeats 4000000 in
set_option maxRecDepth 100000 in
theorem c_X5_kindOf (l : Launch) (dC : Nat → ClassId) (dI : Nat → Nat → Nat) (cyI cyJ cyZ cyS : ClassId) (ad : Nat → Nat) (ft : Int32) (n : Nat) (L : Int32) (fl rk : Nat) (rs : Int32) (dr : Int64) (wo : Nat) (tc : Int32) (pt : Nat → Nat) (a : Nat) (ha : a < 12) (hp : pt a ≤ 6) : CtI l yX5_kindOf wsX5_kindOf ({ frames := 0, cells := 0, slots := 0, locals := 0 } : Room) dC dI (tysA cyI cyJ cyZ cyS) [.ref ((ad 40)), .int (nI (a))] [((ad 40), .inr (5, [.int (ft), .int (nI (n)), .int (L), .ref ((ad 41)), .ref ((ad 42)), .ref ((ad 43)), .ref ((ad 44)), .int (nI (fl)), .int (nI (rk)), .ref ((ad 45)), .ref ((ad 46)), .ref ((ad 47)), .int (rs), .ref ((ad 48)), .long (dr), .int (nI (wo)), .ref ((ad 49)), .ref ((ad 50)), .ref ((ad 51)), .ref ((ad 52)), .ref ((ad 53)), .ref ((ad 54)), .ref ((ad 55)), .ref ((ad 56)), .ref ((ad 57)), .ref ((ad 58)), .int (tc)])), ((ad 42), .inl (cyI, 12, .inl (fun zj => nI (pt zj))))] (S := Unit) (fun (r : Int32) (u : Unit) => (r = nI (kdOf pt a))) (fun (u : Unit) => [((ad 40), .inr (5, [.int (ft), .int (nI (n)), .int (L), .ref ((ad 41)), .ref ((ad 42)), .ref ((ad 43)), .ref ((ad 44)), .int (nI (fl)), .int (nI (rk)), .ref ((ad 45)), .ref ((ad 46)), .ref ((ad 47)), .int (rs), .ref ((ad 48)), .long (dr), .int (nI (wo)), .ref ((ad 49)), .ref ((ad 50)), .ref ((ad 51)), .ref ((ad 52)), .ref ((ad 53)), .ref ((ad 54)), .ref ((ad 55)), .ref ((ad 56)), .ref ((ad 57)), .ref ((ad 58)), .int (tc)])), ((ad 42), .inl (cyI, 12, .inl (fun zj => nI (pt zj))))]) := by
  refine CtI.mk (cc := cX5_kindOf) (maxL := 2) (by decide) rfl (Nat.le_of_ble_eq_true rfl) ?_
  intro zp ze zs zm za zb zt zc zA zQ ls hC hw hl hret
  replace hC : CallFix zp zm zc cX5_kindOf 2 zs za wsX5_kindOf RX5 := hC
  replace hl : lv_has ls 2 [(0, .ref ((ad 40))), (1, .int (nI (a)))] := hl
  have hin5 : ∀ w ∈ u_ws RX5 TX5 27, w ∈ wsX5_kindOf := by decide +kernel
  have lk13 : Cond.fieldLink RX5 13 (TX5 4).1 (TX5 4).2.1 (TX5 4).2.2.1 ∈ wsX5_kindOf := by decide +kernel
  refine lv_aload_n hC.1 hC.2.1 dX5_kindOf_0 rfl (lv_at hl 0 rfl) ?_
  refine g_get hC hw hin5 0 rfl rfl 4 (by decide) lk13 rfl dX5_kindOf_1 ?_
  refine lv_iload_n hC.1 hC.2.1 dX5_kindOf_4 rfl (lv_at hl 1 rfl) ?_
  refine g_ialdN hC hw 1 0 rfl rfl (by omega) (by first | decide | omega) dX5_kindOf_5 ?_
  refine n_if_ne (tgt := 13) hC dX5_kindOf_6 (by decide) (by omega) (fun c_6 => ?_) (fun c_6 => ?_)
  · skip
    refine lv_aload_n hC.1 hC.2.1 dX5_kindOf_13 rfl (lv_at hl 0 rfl) ?_
    refine g_get hC hw hin5 0 rfl rfl 4 (by decide) lk13 rfl dX5_kindOf_14 ?_
    refine lv_iload_n hC.1 hC.2.1 dX5_kindOf_17 rfl (lv_at hl 1 rfl) ?_
    refine g_ialdN hC hw 1 0 rfl rfl (by omega) (by first | decide | omega) dX5_kindOf_18 ?_
    refine lv_iconst (v := nI 1) hC.1 hC.2.1 dX5_kindOf_19 (by decide) ?_
    refine n_icmp_ne (tgt := 27) hC dX5_kindOf_20 (by decide) (by omega) (by omega) (fun c_20 => ?_) (fun c_20 => ?_)
    · skip
      refine lv_iconst (v := nI 1) hC.1 hC.2.1 dX5_kindOf_27 (by decide) ?_
      exact hret _ _ _ ls (nI (1)) () dX5_kindOf_28 rfl (by first | (rw [kdOf, if_pos (by omega)]; done) | (rw [kdOf, if_neg (by omega), if_pos (by omega)]; done) | (rw [kdOf, if_neg (by omega), if_neg (by omega)]; done)) hw
    · skip
      refine lv_iconst (v := nI 2) hC.1 hC.2.1 dX5_kindOf_23 (by decide) ?_
      refine lv_goto (tgt := 28) hC.1 hC.2.1 dX5_kindOf_24 (by decide) ?_
      exact hret _ _ _ ls (nI (2)) () dX5_kindOf_28 rfl (by first | (rw [kdOf, if_pos (by omega)]; done) | (rw [kdOf, if_neg (by omega), if_pos (by omega)]; done) | (rw [kdOf, if_neg (by omega), if_neg (by omega)]; done)) hw
  · skip
    refine lv_iconst (v := nI 0) hC.1 hC.2.1 dX5_kindOf_9 (by decide) ?_
    refine lv_goto (tgt := 28) hC.1 hC.2.1 dX5_kindOf_10 (by decide) ?_
    exact hret _ _ _ ls (nI (0)) () dX5_kindOf_28 rfl (by first | (rw [kdOf, if_pos (by omega)]; done) | (rw [kdOf, if_neg (by omega), if_pos (by omega)]; done) | (rw [kdOf, if_neg (by omega), if_neg (by omega)]; done)) hw

set_option maxHeartbeats 4000000 in
set_option maxRecDepth 100000 in
theorem c_X5_noSheet (l : Launch) (dC : Nat → ClassId) (dI : Nat → Nat → Nat) (cyI cyJ cyZ cyS : ClassId) (ad : Nat → Nat) (x : Int32) : CtI l yX5_noSheet wsX5_noSheet ({ frames := 1, cells := 0, slots := 0, locals := 25 } : Room) dC dI (tysA cyI cyJ cyZ cyS) [.int (x)] [] (S := Unit) (fun (r : Int32) (u : Unit) => (((¬ vp_in x 4) → r = nI 1) ∧ (¬ (¬ vp_in x 4) → r = nI 0))) (fun (u : Unit) => []) := by
  refine CtI.mk (cc := cX5_noSheet) (maxL := 1) (by decide) rfl (Nat.le_of_ble_eq_true rfl) ?_
  intro zp ze zs zm za zb zt zc zA zQ ls hC hw hl hret
  replace hC : CallFix zp zm zc cX5_noSheet 1 zs za wsX5_noSheet RX5 := hC
  replace hl : lv_has ls 1 [(0, .int (x))] := hl
  refine lv_iload_n hC.1 hC.2.1 dX5_noSheet_0 rfl (lv_at hl 0 rfl) ?_
  refine lv_i2l hC.1 hC.2.1 dX5_noSheet_1 rfl ?_
  refine lv_lconst (v := lN 0) hC.1 hC.2.1 dX5_noSheet_2 (by decide) ?_
  refine lv_ldc2 hC.1 hC.2.1 (own := RX5) (v := (3)) hC.2.2.2.1 (hC.2.2.2.2 _ (by decide +kernel)) dX5_noSheet_3 ?_
  refine W.eq (g2 := F0 zm 6 ls [.long (lN (3)), .long (lN (0)), .long (x.toInt64)]) (by first | rfl | (rw [show (3 : Int64) = lN 3 from rfl])) ?_
  refine W.ccI (wc := []) (wr := []) (ws1 := fun (u : Unit) => []) (ws2 := fun (u : Unit) => []) hw [] [] [] rfl rfl (by decide) (by decide) (by decide) (fun _ => rfl) (Wd.runS (wc := []) (rest := []) (As := [.long (x.toInt64), .long (lN (0)), .long (lN (3))]) hC hw [] rfl (by decide) (va_cwS 3 hC.2.2.2.2 gX5_noSheet_X5_in rfl rfl rfl (by decide +kernel) ⟨Nat.le_of_ble_eq_true rfl, Nat.le_of_ble_eq_true rfl⟩) (c_X5_in l dC dI cyI cyJ cyZ cyS ad x.toInt64 (lN (0)) (lN (3)) _) rfl hl.1 rfl (Nat.le_of_ble_eq_true rfl) dX5_noSheet_6 ⟨Nat.zero_le _, Nat.zero_le _⟩) (fun r_6 u H locs hr_6 hw => ?_)
  replace hw : Wd dC dI (tysA cyI cyJ cyZ cyS) [] zA zs H locs := hw
  rcases Classical.em (¬ x.toInt64 < (lN (0)) ∧ ¬ (lN (3)) < x.toInt64) with c_6 | c_6
  · skip
    obtain rfl := hr_6.1 c_6
    refine lv_if_ne (tgt := 16) hC.1 hC.2.1 dX5_noSheet_9 (by decide) (fun _ => ?_) (fun h9 => False.elim (by revert h9; decide))
    refine lv_iconst (v := nI 0) hC.1 hC.2.1 dX5_noSheet_16 (by decide) ?_
    exact hret _ _ _ ls (nI (0)) () dX5_noSheet_17 (by first | rfl | decide) ⟨fun h9 => by first | rfl | (exfalso; (try dsimp only at h9); rw [in_LN (by decide)] at c_6; first | exact h9 c_6 | exact c_6 h9 | exact absurd c_6 h9), fun h9 => by first | rfl | (exfalso; (try dsimp only at h9); rw [in_LN (by decide)] at c_6; first | exact h9 c_6 | exact c_6 h9 | exact absurd c_6 h9)⟩ hw
  · skip
    obtain rfl := hr_6.2 c_6
    refine lv_if_ne (tgt := 16) hC.1 hC.2.1 dX5_noSheet_9 (by decide) (fun h9 => False.elim (by revert h9; decide)) (fun _ => ?_)
    refine lv_iconst (v := nI 1) hC.1 hC.2.1 dX5_noSheet_12 (by decide) ?_
    refine lv_goto (tgt := 17) hC.1 hC.2.1 dX5_noSheet_13 (by decide) ?_
    exact hret _ _ _ ls (nI (1)) () dX5_noSheet_17 (by first | rfl | decide) ⟨fun h9 => by first | rfl | (exfalso; (try dsimp only at h9); rw [in_LN (by decide)] at c_6; first | exact h9 c_6 | exact c_6 h9 | exact absurd c_6 h9), fun h9 => by first | rfl | (exfalso; (try dsimp only at h9); rw [in_LN (by decide)] at c_6; first | exact h9 c_6 | exact c_6 h9 | exact absurd c_6 h9)⟩ hw

set_option maxHeartbeats 4000000 in
set_option maxRecDepth 100000 in
theorem c_X5_isBeyond (l : Launch) (dC : Nat → ClassId) (dI : Nat → Nat → Nat) (cyI cyJ cyZ cyS : ClassId) (ad : Nat → Nat) (x : Int32) (y : Int64) (sz : Nat) (hs : sz ≤ 240) (hy : y.toInt < 2 ^ 40) : CtI l yX5_isBeyond wsX5_isBeyond ({ frames := 0, cells := 0, slots := 0, locals := 0 } : Room) dC dI (tysA cyI cyJ cyZ cyS) [.int (x), .long (y), .int (nI (sz))] [] (S := Unit) (fun (r : Int32) (u : Unit) => (((¬ hld x y sz) → r = nI 1) ∧ (¬ (¬ hld x y sz) → r = nI 0))) (fun (u : Unit) => []) := by
  refine CtI.mk (cc := cX5_isBeyond) (maxL := 4) (by decide) rfl (Nat.le_of_ble_eq_true rfl) ?_
  intro zp ze zs zm za zb zt zc zA zQ ls hC hw hl hret
  replace hC : CallFix zp zm zc cX5_isBeyond 4 zs za wsX5_isBeyond RX5 := hC
  replace hl : lv_has ls 4 [(0, .int (x)), (1, .long (y)), (3, .int (nI (sz)))] := hl
  have z0 : (0 : Int32).toInt = 0 := rfl
  have z1 : (lN 0).toInt = 0 := rfl
  have z2 := lN_toInt (n := sz) (by omega)
  refine lv_iload_n hC.1 hC.2.1 dX5_isBeyond_0 rfl (lv_at hl 0 rfl) ?_
  refine lv_if_lt (tgt := 20) hC.1 hC.2.1 dX5_isBeyond_1 (by decide) (fun c_1 => ?_) (fun c_1 => ?_)
  · skip
    refine lv_iconst (v := nI 1) hC.1 hC.2.1 dX5_isBeyond_20 (by decide) ?_
    refine lv_goto (tgt := 25) hC.1 hC.2.1 dX5_isBeyond_21 (by decide) ?_
    exact hret _ _ _ ls (nI (1)) () dX5_isBeyond_25 (by first | rfl | decide) ⟨fun h9 => by first | rfl | (exfalso; (try dsimp only at h9); rw [hld_L (by omega) hy] at h9; simp only [Int32.lt_iff_toInt_lt, Int64.lt_iff_toInt_lt, Int64.le_iff_toInt_le] at *; first | omega | (rw [add_L (by omega) hy] at c_16; omega)), fun h9 => by first | rfl | (exfalso; (try dsimp only at h9); rw [hld_L (by omega) hy] at h9; simp only [Int32.lt_iff_toInt_lt, Int64.lt_iff_toInt_lt, Int64.le_iff_toInt_le] at *; first | omega | (rw [add_L (by omega) hy] at c_16; omega))⟩ hw
  · skip
    refine lv_lload_n hC.1 hC.2.1 dX5_isBeyond_4 rfl (lv_at hl 1 rfl) ?_
    refine lv_lconst (v := lN 0) hC.1 hC.2.1 dX5_isBeyond_5 (by decide) ?_
    refine g_lcmp_lt (tgt := 20) hC dX5_isBeyond_6 dX5_isBeyond_7 (by decide) (fun c_6 => ?_) (fun c_6 => ?_)
    · skip
      refine lv_iconst (v := nI 1) hC.1 hC.2.1 dX5_isBeyond_20 (by decide) ?_
      refine lv_goto (tgt := 25) hC.1 hC.2.1 dX5_isBeyond_21 (by decide) ?_
      exact hret _ _ _ ls (nI (1)) () dX5_isBeyond_25 (by first | rfl | decide) ⟨fun h9 => by first | rfl | (exfalso; (try dsimp only at h9); rw [hld_L (by omega) hy] at h9; simp only [Int32.lt_iff_toInt_lt, Int64.lt_iff_toInt_lt, Int64.le_iff_toInt_le] at *; first | omega | (rw [add_L (by omega) hy] at c_16; omega)), fun h9 => by first | rfl | (exfalso; (try dsimp only at h9); rw [hld_L (by omega) hy] at h9; simp only [Int32.lt_iff_toInt_lt, Int64.lt_iff_toInt_lt, Int64.le_iff_toInt_le] at *; first | omega | (rw [add_L (by omega) hy] at c_16; omega))⟩ hw
    · skip
      refine lv_iload_n hC.1 hC.2.1 dX5_isBeyond_10 rfl (lv_at hl 0 rfl) ?_
      refine lv_i2l hC.1 hC.2.1 dX5_isBeyond_11 rfl ?_
      refine lv_lload_n hC.1 hC.2.1 dX5_isBeyond_12 rfl (lv_at hl 1 rfl) ?_
      refine lv_ladd hC.1 hC.2.1 dX5_isBeyond_13 ?_
      refine lv_iload_n hC.1 hC.2.1 dX5_isBeyond_14 rfl (lv_at hl 2 rfl) ?_
      refine n_i2l hC dX5_isBeyond_15 (by omega) ?_
      refine g_lcmp_le (tgt := 24) hC dX5_isBeyond_16 dX5_isBeyond_17 (by decide) (fun c_16 => ?_) (fun c_16 => ?_)
      · skip
        refine lv_iconst (v := nI 0) hC.1 hC.2.1 dX5_isBeyond_24 (by decide) ?_
        exact hret _ _ _ ls (nI (0)) () dX5_isBeyond_25 (by first | rfl | decide) ⟨fun h9 => by first | rfl | (exfalso; (try dsimp only at h9); rw [hld_L (by omega) hy] at h9; simp only [Int32.lt_iff_toInt_lt, Int64.lt_iff_toInt_lt, Int64.le_iff_toInt_le] at *; first | omega | (rw [add_L (by omega) hy] at c_16; omega)), fun h9 => by first | rfl | (exfalso; (try dsimp only at h9); rw [hld_L (by omega) hy] at h9; simp only [Int32.lt_iff_toInt_lt, Int64.lt_iff_toInt_lt, Int64.le_iff_toInt_le] at *; first | omega | (rw [add_L (by omega) hy] at c_16; omega))⟩ hw
      · skip
        refine lv_iconst (v := nI 1) hC.1 hC.2.1 dX5_isBeyond_20 (by decide) ?_
        refine lv_goto (tgt := 25) hC.1 hC.2.1 dX5_isBeyond_21 (by decide) ?_
        exact hret _ _ _ ls (nI (1)) () dX5_isBeyond_25 (by first | rfl | decide) ⟨fun h9 => by first | rfl | (exfalso; (try dsimp only at h9); rw [hld_L (by omega) hy] at h9; simp only [Int32.lt_iff_toInt_lt, Int64.lt_iff_toInt_lt, Int64.le_iff_toInt_le] at *; first | omega | (rw [add_L (by omega) hy] at c_16; omega)), fun h9 => by first | rfl | (exfalso; (try dsimp only at h9); rw [hld_L (by omega) hy] at h9; simp only [Int32.lt_iff_toInt_lt, Int64.lt_iff_toInt_lt, Int64.le_iff_toInt_le] at *; first | omega | (rw [add_L (by omega) hy] at c_16; omega))⟩ hw

set_option maxHeartbeats 4000000 in
set_option maxRecDepth 100000 in
theorem c_X5_power (l : Launch) (dC : Nat → ClassId) (dI : Nat → Nat → Nat) (cyI cyJ cyZ cyS : ClassId) (ad : Nat → Nat) (k t : Nat) (ht : t < 2 ^ 31) : CtL l yX5_power wsX5_power ({ frames := 0, cells := 0, slots := 0, locals := 0 } : Room) dC dI (tysA cyI cyJ cyZ cyS) [.long (lN (k)), .int (nI (t))] [] (S := Unit) (fun (r : Int64) (u : Unit) => (r = lN (k ^ t))) (fun (u : Unit) => []) := by
  refine CtL.mk (cc := cX5_power) (maxL := 6) (by decide) rfl (Nat.le_of_ble_eq_true rfl) ?_
  intro zp ze zs zm za zb zt zc zA zQ ls hC hw hl hret
  replace hC : CallFix zp zm zc cX5_power 6 zs za wsX5_power RX5 := hC
  replace hl : lv_has ls 6 [(0, .long (lN (k))), (2, .int (nI (t)))] := hl
  refine lv_lconst (v := lN 1) hC.1 hC.2.1 dX5_power_0 (by decide) ?_
  refine lv_lstore_n (lv' := [(3, .long (lN (1))), (0, .long (lN (k))), (2, .int (nI (t)))]) hC.1 hC.2.1 dX5_power_1 rfl hl (by decide) rfl (fun ls hl => ?_)
  refine lv_iconst (v := nI 0) hC.1 hC.2.1 dX5_power_2 (by decide) ?_
  refine lv_istore (lv' := [(5, .int (nI (0))), (3, .long (lN (1))), (0, .long (lN (k))), (2, .int (nI (t)))]) hC.1 hC.2.1 dX5_power_3 hl (by decide) rfl (fun ls hl => ?_)
  have K5 : ∀ (zk : Nat), ∀ (w : Nat) (i : Nat) (H : Heap) (locs : List Loc) (ls : Array Slot), t - i < zk → (i ≤ t) → (w = k ^ i) → Wd dC dI (tysA cyI cyJ cyZ cyS) [] zA zs H locs → lv_has ls 6 [(0, .long (lN (k))), (2, .int (nI (t))), (3, .long (lN (w))), (5, .int (nI (i)))] → W zp l ze ({ frames := 0, cells := 0, slots := 0, locals := 0 } : Room) zs zm za zb zt zc H locs 0 0 zQ (F0 zm 5 ls []) := by
    intro zk
    induction zk with
    | zero => intro w i H locs ls h0; exact absurd h0 (Nat.not_lt_zero _)
    | succ zk ih5 =>
      intro w i H locs ls hmu hi hw0 hw hl
      refine lv_iload hC.1 hC.2.1 dX5_power_5 (lv_at hl 3 rfl) ?_
      refine lv_iload_n hC.1 hC.2.1 dX5_power_7 rfl (lv_at hl 1 rfl) ?_
      refine n_icmp_ge (tgt := 21) hC dX5_power_8 (by decide) (by omega) (by omega) (fun c_8 => ?_) (fun c_8 => ?_)
      · skip
        obtain rfl : t = i := by omega
        refine lv_lload_n hC.1 hC.2.1 dX5_power_21 rfl (lv_at hl 2 rfl) ?_
        exact hret _ _ _ ls (lN (w)) () dX5_power_22 (by rw [hw0]) hw
      · skip
        refine lv_lload_n hC.1 hC.2.1 dX5_power_11 rfl (lv_at hl 2 rfl) ?_
        refine lv_lload_n hC.1 hC.2.1 dX5_power_12 rfl (lv_at hl 0 rfl) ?_
        refine n_lmul hC dX5_power_13 ?_
        refine lv_lstore_n (lv' := [(3, .long (lN (w * k))), (0, .long (lN (k))), (2, .int (nI (t))), (5, .int (nI (i)))]) hC.1 hC.2.1 dX5_power_14 rfl hl (by decide) rfl (fun ls hl => ?_)
        refine lv_iinc (v := nI (i + 1)) (lv' := [(5, .int (nI (i + 1))), (3, .long (lN (w * k))), (0, .long (lN (k))), (2, .int (nI (t)))]) hC.1 hC.2.1 dX5_power_15 hl (k := 3) rfl (nI_inc i 1) (by decide) rfl (fun ls hl => ?_)
        refine lv_goto (tgt := 5) hC.1 hC.2.1 dX5_power_18 (by decide) ?_
        exact ih5 (w * k) (i + 1) _ _ ls (by omega) (by omega) (by rw [hw0, Nat.pow_succ]) hw (lv_sub hl [2, 3, 1, 0] rfl)
  exact K5 _ 1 0 _ _ ls (Nat.lt_succ_self _) (by omega) (by rfl) hw (lv_sub hl [2, 3, 1, 0] rfl)
