set_option maxHeartbeats 4000000 in
set_option maxRecDepth 100000 in
theorem c_X5_compareTwo (l : Launch) (dC : Nat → ClassId) (dI : Nat → Nat → Nat) (cyI cyJ cyZ cyS : ClassId) (ad : Nat → Nat) (a b : Nat) (ha : a < 2 ^ 31) (hb : b < 2 ^ 31) : CtI l yX5_compareTwo wsX5_compareTwo ({ frames := 0, cells := 0, slots := 0, locals := 0 } : Room) dC dI (tysA cyI cyJ cyZ cyS) [.int (nI (a)), .int (nI (b))] [] (S := Unit) (fun (r : Int32) (u : Unit) => (r = cmpN a b)) (fun (u : Unit) => []) := by
  refine CtI.mk (cc := cX5_compareTwo) (maxL := 2) (by decide) rfl (Nat.le_of_ble_eq_true rfl) ?_
  intro zp ze zs zm za zb zt zc zA zQ ls hC hw hl hret
  replace hC : CallFix zp zm zc cX5_compareTwo 2 zs za wsX5_compareTwo RX5 := hC
  replace hl : lv_has ls 2 [(0, .int (nI (a))), (1, .int (nI (b)))] := hl
  refine lv_iload_n hC.1 hC.2.1 dX5_compareTwo_0 rfl (lv_at hl 0 rfl) ?_
  refine lv_iload_n hC.1 hC.2.1 dX5_compareTwo_1 rfl (lv_at hl 1 rfl) ?_
  refine n_icmp_ge (tgt := 9) hC dX5_compareTwo_2 (by decide) (by omega) (by omega) (fun c_2 => ?_) (fun c_2 => ?_)
  · skip
    refine lv_iload_n hC.1 hC.2.1 dX5_compareTwo_9 rfl (lv_at hl 0 rfl) ?_
    refine lv_iload_n hC.1 hC.2.1 dX5_compareTwo_10 rfl (lv_at hl 1 rfl) ?_
    refine n_icmp_le (tgt := 18) hC dX5_compareTwo_11 (by decide) (by omega) (by omega) (fun c_11 => ?_) (fun c_11 => ?_)
    · skip
      refine lv_iconst (v := nI 0) hC.1 hC.2.1 dX5_compareTwo_18 (by decide) ?_
      exact hret _ _ _ ls (nI (0)) () dX5_compareTwo_19 rfl (by first | (rw [cmpN_lt (by omega)]; done) | (rw [cmpN_gt (by omega)]; rfl) | (rw [cmpN_eq (by omega)]; rfl)) hw
    · skip
      refine lv_iconst (v := nI 1) hC.1 hC.2.1 dX5_compareTwo_14 (by decide) ?_
      refine lv_goto (tgt := 19) hC.1 hC.2.1 dX5_compareTwo_15 (by decide) ?_
      exact hret _ _ _ ls (nI (1)) () dX5_compareTwo_19 rfl (by first | (rw [cmpN_lt (by omega)]; done) | (rw [cmpN_gt (by omega)]; rfl) | (rw [cmpN_eq (by omega)]; rfl)) hw
  · skip
    refine lv_iconst (v := (-1)) hC.1 hC.2.1 dX5_compareTwo_5 (by decide) ?_
    refine lv_goto (tgt := 19) hC.1 hC.2.1 dX5_compareTwo_6 (by decide) ?_
    exact hret _ _ _ ls ((-1)) () dX5_compareTwo_19 rfl (by first | (rw [cmpN_lt (by omega)]; done) | (rw [cmpN_gt (by omega)]; rfl) | (rw [cmpN_eq (by omega)]; rfl)) hw

set_option maxHeartbeats 4000000 in
set_option maxRecDepth 100000 in
theorem c_X5_compare_0 (l : Launch) (dC : Nat → ClassId) (dI : Nat → Nat → Nat) (cyI cyJ cyZ cyS : ClassId) (ad : Nat → Nat) (ft : Int32) (n : Nat) (L : Int32) (fl rk : Nat) (rs : Int32) (dr : Int64) (wo : Nat) (tc : Int32) (mk : Nat → Nat) (pt : Nat → Nat) (tp : Nat → Nat) (tj : Nat → Nat) (ra : Nat → Nat) (ac : Nat → Nat) (hN : NOk n mk pt ac) (hNR : NR n pt ac tp tj) (p q : Nat) (hp : p < n) (hq : q < n) : CtI l yX5_compare wsX5_compare ({ frames := 1, cells := 0, slots := 0, locals := 21 } : Room) dC dI (tysA cyI cyJ cyZ cyS) [.ref ((ad 40)), .int (nI (p)), .int (nI (q)), .int (nI (0))] [((ad 40), .inr (5, [.int (ft), .int (nI (n)), .int (L), .ref ((ad 41)), .ref ((ad 42)), .ref ((ad 43)), .ref ((ad 44)), .int (nI (fl)), .int (nI (rk)), .ref ((ad 45)), .ref ((ad 46)), .ref ((ad 47)), .int (rs), .ref ((ad 48)), .long (dr), .int (nI (wo)), .ref ((ad 49)), .ref ((ad 50)), .ref ((ad 51)), .ref ((ad 52)), .ref ((ad 53)), .ref ((ad 54)), .ref ((ad 55)), .ref ((ad 56)), .ref ((ad 57)), .ref ((ad 58)), .int (tc)])), ((ad 41), .inl (cyI, 12, .inl (fun zj => nI (mk zj)))), ((ad 42), .inl (cyI, 12, .inl (fun zj => nI (pt zj)))), ((ad 43), .inl (cyI, 72, .inl (fun zj => nI (tp zj)))), ((ad 44), .inl (cyI, 72, .inl (fun zj => nI (tj zj)))), ((ad 46), .inl (cyI, 264, .inl (fun zj => nI (ra zj))))] (S := Unit) (fun (r : Int32) (u : Unit) => (r = cmpN (K0 mk pt p) (K0 mk pt q))) (fun (u : Unit) => [((ad 40), .inr (5, [.int (ft), .int (nI (n)), .int (L), .ref ((ad 41)), .ref ((ad 42)), .ref ((ad 43)), .ref ((ad 44)), .int (nI (fl)), .int (nI (rk)), .ref ((ad 45)), .ref ((ad 46)), .ref ((ad 47)), .int (rs), .ref ((ad 48)), .long (dr), .int (nI (wo)), .ref ((ad 49)), .ref ((ad 50)), .ref ((ad 51)), .ref ((ad 52)), .ref ((ad 53)), .ref ((ad 54)), .ref ((ad 55)), .ref ((ad 56)), .ref ((ad 57)), .ref ((ad 58)), .int (tc)])), ((ad 41), .inl (cyI, 12, .inl (fun zj => nI (mk zj)))), ((ad 42), .inl (cyI, 12, .inl (fun zj => nI (pt zj)))), ((ad 43), .inl (cyI, 72, .inl (fun zj => nI (tp zj)))), ((ad 44), .inl (cyI, 72, .inl (fun zj => nI (tj zj)))), ((ad 46), .inl (cyI, 264, .inl (fun zj => nI (ra zj))))]) := by
  refine CtI.mk (cc := cX5_compare) (maxL := 7) (by decide) rfl (Nat.le_of_ble_eq_true rfl) ?_
  intro zp ze zs zm za zb zt zc zA zQ ls hC hw hl hret
  replace hC : CallFix zp zm zc cX5_compare 7 zs za wsX5_compare RX5 := hC
  replace hl : lv_has ls 7 [(0, .ref ((ad 40))), (1, .int (nI (p))), (2, .int (nI (q))), (3, .int (nI (0)))] := hl
  have hin5 : ∀ w ∈ u_ws RX5 TX5 27, w ∈ wsX5_compare := fun w h => List.mem_cons_of_mem _ (List.mem_append_right _ h)
  have lk7 : Cond.fieldLink RX5 7 (TX5 3).1 (TX5 3).2.1 (TX5 3).2.2.1 ∈ wsX5_compare := List.mem_of_getElem? (i := 1) rfl
  have lk13 : Cond.fieldLink RX5 13 (TX5 4).1 (TX5 4).2.1 (TX5 4).2.2.1 ∈ wsX5_compare := List.mem_of_getElem? (i := 2) rfl
  have hn := hN.n12
  have m1 := hN.m9 hp
  have m2 := hN.m9 hq
  have p1 := hN.p6 hp
  have p2 := hN.p6 hq
  refine lv_iload_n hC.1 hC.2.1 dX5_compare_0 rfl (lv_at hl 3 rfl) ?_
  refine lv_if_ne (tgt := 53) hC.1 hC.2.1 dX5_compare_1 (by decide) (fun h9 => False.elim (by revert h9; decide)) (fun _ => ?_)
  refine lv_aload_n hC.1 hC.2.1 dX5_compare_4 rfl (lv_at hl 0 rfl) ?_
  refine g_get hC hw hin5 0 rfl rfl 3 (by decide) lk7 rfl dX5_compare_5 ?_
  refine lv_iload_n hC.1 hC.2.1 dX5_compare_8 rfl (lv_at hl 1 rfl) ?_
  refine g_ialdN hC hw 1 0 rfl rfl (by omega) (by first | decide | omega) dX5_compare_9 ?_
  refine lv_aload_n hC.1 hC.2.1 dX5_compare_10 rfl (lv_at hl 0 rfl) ?_
  refine g_get hC hw hin5 0 rfl rfl 3 (by decide) lk7 rfl dX5_compare_11 ?_
  refine lv_iload_n hC.1 hC.2.1 dX5_compare_14 rfl (lv_at hl 2 rfl) ?_
  refine g_ialdN hC hw 1 0 rfl rfl (by omega) (by first | decide | omega) dX5_compare_15 ?_
  refine n_icmp_eq (tgt := 37) hC dX5_compare_16 (by decide) (by omega) (by omega) (fun c_16 => ?_) (fun c_16 => ?_)
  · skip
    refine lv_aload_n hC.1 hC.2.1 dX5_compare_37 rfl (lv_at hl 0 rfl) ?_
    refine g_get hC hw hin5 0 rfl rfl 4 (by decide) lk13 rfl dX5_compare_38 ?_
    refine lv_iload_n hC.1 hC.2.1 dX5_compare_41 rfl (lv_at hl 1 rfl) ?_
    refine g_ialdN hC hw 2 0 rfl rfl (by omega) (by first | decide | omega) dX5_compare_42 ?_
    refine lv_aload_n hC.1 hC.2.1 dX5_compare_43 rfl (lv_at hl 0 rfl) ?_
    refine g_get hC hw hin5 0 rfl rfl 4 (by decide) lk13 rfl dX5_compare_44 ?_
    refine lv_iload_n hC.1 hC.2.1 dX5_compare_47 rfl (lv_at hl 2 rfl) ?_
    refine g_ialdN hC hw 2 0 rfl rfl (by omega) (by first | decide | omega) dX5_compare_48 ?_
    refine W.ccI (wc := []) (wr := [((ad 40), .inr (5, [.int (ft), .int (nI (n)), .int (L), .ref ((ad 41)), .ref ((ad 42)), .ref ((ad 43)), .ref ((ad 44)), .int (nI (fl)), .int (nI (rk)), .ref ((ad 45)), .ref ((ad 46)), .ref ((ad 47)), .int (rs), .ref ((ad 48)), .long (dr), .int (nI (wo)), .ref ((ad 49)), .ref ((ad 50)), .ref ((ad 51)), .ref ((ad 52)), .ref ((ad 53)), .ref ((ad 54)), .ref ((ad 55)), .ref ((ad 56)), .ref ((ad 57)), .ref ((ad 58)), .int (tc)])), ((ad 41), .inl (cyI, 12, .inl (fun zj => nI (mk zj)))), ((ad 42), .inl (cyI, 12, .inl (fun zj => nI (pt zj)))), ((ad 43), .inl (cyI, 72, .inl (fun zj => nI (tp zj)))), ((ad 44), .inl (cyI, 72, .inl (fun zj => nI (tj zj)))), ((ad 46), .inl (cyI, 264, .inl (fun zj => nI (ra zj))))]) (ws1 := fun (u : Unit) => []) (ws2 := fun (u : Unit) => [((ad 40), .inr (5, [.int (ft), .int (nI (n)), .int (L), .ref ((ad 41)), .ref ((ad 42)), .ref ((ad 43)), .ref ((ad 44)), .int (nI (fl)), .int (nI (rk)), .ref ((ad 45)), .ref ((ad 46)), .ref ((ad 47)), .int (rs), .ref ((ad 48)), .long (dr), .int (nI (wo)), .ref ((ad 49)), .ref ((ad 50)), .ref ((ad 51)), .ref ((ad 52)), .ref ((ad 53)), .ref ((ad 54)), .ref ((ad 55)), .ref ((ad 56)), .ref ((ad 57)), .ref ((ad 58)), .int (tc)])), ((ad 41), .inl (cyI, 12, .inl (fun zj => nI (mk zj)))), ((ad 42), .inl (cyI, 12, .inl (fun zj => nI (pt zj)))), ((ad 43), .inl (cyI, 72, .inl (fun zj => nI (tp zj)))), ((ad 44), .inl (cyI, 72, .inl (fun zj => nI (tj zj)))), ((ad 46), .inl (cyI, 264, .inl (fun zj => nI (ra zj))))]) hw [] [0, 1, 2, 3, 4, 5] [0, 1, 2, 3, 4, 5] rfl rfl (by decide) (by decide) (by decide) (fun _ => rfl) (Wd.runS (wc := []) (rest := []) (As := [.int (nI (pt p)), .int (nI (pt q))]) hC hw [] rfl (by decide) (va_cwS 2 hC.2.2.2.2 gX5_compare_X5_compareTwo rfl rfl rfl (by decide +kernel) ⟨Nat.le_of_ble_eq_true rfl, Nat.le_of_ble_eq_true rfl⟩) (c_X5_compareTwo l dC dI cyI cyJ cyZ cyS ad (pt p) (pt q) (by first | assumption | omega) (by first | assumption | omega) _) rfl hl.1 rfl (Nat.le_of_ble_eq_true rfl) dX5_compare_49 ⟨Nat.zero_le _, Nat.zero_le _⟩) (fun r_49 u H locs hr_49 hw => ?_)
    replace hw : Wd dC dI (tysA cyI cyJ cyZ cyS) [((ad 40), .inr (5, [.int (ft), .int (nI (n)), .int (L), .ref ((ad 41)), .ref ((ad 42)), .ref ((ad 43)), .ref ((ad 44)), .int (nI (fl)), .int (nI (rk)), .ref ((ad 45)), .ref ((ad 46)), .ref ((ad 47)), .int (rs), .ref ((ad 48)), .long (dr), .int (nI (wo)), .ref ((ad 49)), .ref ((ad 50)), .ref ((ad 51)), .ref ((ad 52)), .ref ((ad 53)), .ref ((ad 54)), .ref ((ad 55)), .ref ((ad 56)), .ref ((ad 57)), .ref ((ad 58)), .int (tc)])), ((ad 41), .inl (cyI, 12, .inl (fun zj => nI (mk zj)))), ((ad 42), .inl (cyI, 12, .inl (fun zj => nI (pt zj)))), ((ad 43), .inl (cyI, 72, .inl (fun zj => nI (tp zj)))), ((ad 44), .inl (cyI, 72, .inl (fun zj => nI (tj zj)))), ((ad 46), .inl (cyI, 264, .inl (fun zj => nI (ra zj))))] zA zs H locs := hw
    subst hr_49
    exact hret _ _ _ ls (cmpN (pt p) (pt q)) () dX5_compare_52 rfl (by unfold K0; exact cmpN_of (fun _ => by omega) (fun _ => by omega) (fun _ => by omega)) hw
  · skip
    refine lv_aload_n hC.1 hC.2.1 dX5_compare_19 rfl (lv_at hl 0 rfl) ?_
    refine g_get hC hw hin5 0 rfl rfl 3 (by decide) lk7 rfl dX5_compare_20 ?_
    refine lv_iload_n hC.1 hC.2.1 dX5_compare_23 rfl (lv_at hl 1 rfl) ?_
    refine g_ialdN hC hw 1 0 rfl rfl (by omega) (by first | decide | omega) dX5_compare_24 ?_
    refine lv_aload_n hC.1 hC.2.1 dX5_compare_25 rfl (lv_at hl 0 rfl) ?_
    refine g_get hC hw hin5 0 rfl rfl 3 (by decide) lk7 rfl dX5_compare_26 ?_
    refine lv_iload_n hC.1 hC.2.1 dX5_compare_29 rfl (lv_at hl 2 rfl) ?_
    refine g_ialdN hC hw 1 0 rfl rfl (by omega) (by first | decide | omega) dX5_compare_30 ?_
    refine W.ccI (wc := []) (wr := [((ad 40), .inr (5, [.int (ft), .int (nI (n)), .int (L), .ref ((ad 41)), .ref ((ad 42)), .ref ((ad 43)), .ref ((ad 44)), .int (nI (fl)), .int (nI (rk)), .ref ((ad 45)), .ref ((ad 46)), .ref ((ad 47)), .int (rs), .ref ((ad 48)), .long (dr), .int (nI (wo)), .ref ((ad 49)), .ref ((ad 50)), .ref ((ad 51)), .ref ((ad 52)), .ref ((ad 53)), .ref ((ad 54)), .ref ((ad 55)), .ref ((ad 56)), .ref ((ad 57)), .ref ((ad 58)), .int (tc)])), ((ad 41), .inl (cyI, 12, .inl (fun zj => nI (mk zj)))), ((ad 42), .inl (cyI, 12, .inl (fun zj => nI (pt zj)))), ((ad 43), .inl (cyI, 72, .inl (fun zj => nI (tp zj)))), ((ad 44), .inl (cyI, 72, .inl (fun zj => nI (tj zj)))), ((ad 46), .inl (cyI, 264, .inl (fun zj => nI (ra zj))))]) (ws1 := fun (u : Unit) => []) (ws2 := fun (u : Unit) => [((ad 40), .inr (5, [.int (ft), .int (nI (n)), .int (L), .ref ((ad 41)), .ref ((ad 42)), .ref ((ad 43)), .ref ((ad 44)), .int (nI (fl)), .int (nI (rk)), .ref ((ad 45)), .ref ((ad 46)), .ref ((ad 47)), .int (rs), .ref ((ad 48)), .long (dr), .int (nI (wo)), .ref ((ad 49)), .ref ((ad 50)), .ref ((ad 51)), .ref ((ad 52)), .ref ((ad 53)), .ref ((ad 54)), .ref ((ad 55)), .ref ((ad 56)), .ref ((ad 57)), .ref ((ad 58)), .int (tc)])), ((ad 41), .inl (cyI, 12, .inl (fun zj => nI (mk zj)))), ((ad 42), .inl (cyI, 12, .inl (fun zj => nI (pt zj)))), ((ad 43), .inl (cyI, 72, .inl (fun zj => nI (tp zj)))), ((ad 44), .inl (cyI, 72, .inl (fun zj => nI (tj zj)))), ((ad 46), .inl (cyI, 264, .inl (fun zj => nI (ra zj))))]) hw [] [0, 1, 2, 3, 4, 5] [0, 1, 2, 3, 4, 5] rfl rfl (by decide) (by decide) (by decide) (fun _ => rfl) (Wd.runS (wc := []) (rest := []) (As := [.int (nI (mk p)), .int (nI (mk q))]) hC hw [] rfl (by decide) (va_cwS 2 hC.2.2.2.2 gX5_compare_X5_compareTwo rfl rfl rfl (by decide +kernel) ⟨Nat.le_of_ble_eq_true rfl, Nat.le_of_ble_eq_true rfl⟩) (c_X5_compareTwo l dC dI cyI cyJ cyZ cyS ad (mk p) (mk q) (by first | assumption | omega) (by first | assumption | omega) _) rfl hl.1 rfl (Nat.le_of_ble_eq_true rfl) dX5_compare_31 ⟨Nat.zero_le _, Nat.zero_le _⟩) (fun r_31 u H locs hr_31 hw => ?_)
    replace hw : Wd dC dI (tysA cyI cyJ cyZ cyS) [((ad 40), .inr (5, [.int (ft), .int (nI (n)), .int (L), .ref ((ad 41)), .ref ((ad 42)), .ref ((ad 43)), .ref ((ad 44)), .int (nI (fl)), .int (nI (rk)), .ref ((ad 45)), .ref ((ad 46)), .ref ((ad 47)), .int (rs), .ref ((ad 48)), .long (dr), .int (nI (wo)), .ref ((ad 49)), .ref ((ad 50)), .ref ((ad 51)), .ref ((ad 52)), .ref ((ad 53)), .ref ((ad 54)), .ref ((ad 55)), .ref ((ad 56)), .ref ((ad 57)), .ref ((ad 58)), .int (tc)])), ((ad 41), .inl (cyI, 12, .inl (fun zj => nI (mk zj)))), ((ad 42), .inl (cyI, 12, .inl (fun zj => nI (pt zj)))), ((ad 43), .inl (cyI, 72, .inl (fun zj => nI (tp zj)))), ((ad 44), .inl (cyI, 72, .inl (fun zj => nI (tj zj)))), ((ad 46), .inl (cyI, 264, .inl (fun zj => nI (ra zj))))] zA zs H locs := hw
    subst hr_31
    refine lv_goto (tgt := 52) hC.1 hC.2.1 dX5_compare_34 (by decide) ?_
    exact hret _ _ _ ls (cmpN (mk p) (mk q)) () dX5_compare_52 rfl (by unfold K0; exact cmpN_of (fun _ => by omega) (fun _ => by omega) (fun _ => by omega)) hw

set_option maxHeartbeats 4000000 in
set_option maxRecDepth 100000 in
theorem c_X5_compare_1 (l : Launch) (dC : Nat → ClassId) (dI : Nat → Nat → Nat) (cyI cyJ cyZ cyS : ClassId) (ad : Nat → Nat) (ft : Int32) (n : Nat) (L : Int32) (fl rk : Nat) (rs : Int32) (dr : Int64) (wo : Nat) (tc : Int32) (mk : Nat → Nat) (pt : Nat → Nat) (tp : Nat → Nat) (tj : Nat → Nat) (ra : Nat → Nat) (ac : Nat → Nat) (hN : NOk n mk pt ac) (hNR : NR n pt ac tp tj) (p q : Nat) (hp : p < n) (hq : q < n) (d : Nat) (hd : d < 21) (hr : ∀ q, q < n → ra (12 * d + q) < 16) (hpe : ∀ p q, p < n → q < n → ra (12 * d + p) = ra (12 * d + q) → pt p = pt q) : CtI l yX5_compare wsX5_compare ({ frames := 1, cells := 0, slots := 0, locals := 21 } : Room) dC dI (tysA cyI cyJ cyZ cyS) [.ref ((ad 40)), .int (nI (p)), .int (nI (q)), .int (nI (d + 1))] [((ad 40), .inr (5, [.int (ft), .int (nI (n)), .int (L), .ref ((ad 41)), .ref ((ad 42)), .ref ((ad 43)), .ref ((ad 44)), .int (nI (fl)), .int (nI (rk)), .ref ((ad 45)), .ref ((ad 46)), .ref ((ad 47)), .int (rs), .ref ((ad 48)), .long (dr), .int (nI (wo)), .ref ((ad 49)), .ref ((ad 50)), .ref ((ad 51)), .ref ((ad 52)), .ref ((ad 53)), .ref ((ad 54)), .ref ((ad 55)), .ref ((ad 56)), .ref ((ad 57)), .ref ((ad 58)), .int (tc)])), ((ad 41), .inl (cyI, 12, .inl (fun zj => nI (mk zj)))), ((ad 42), .inl (cyI, 12, .inl (fun zj => nI (pt zj)))), ((ad 43), .inl (cyI, 72, .inl (fun zj => nI (tp zj)))), ((ad 44), .inl (cyI, 72, .inl (fun zj => nI (tj zj)))), ((ad 46), .inl (cyI, 264, .inl (fun zj => nI (ra zj))))] (S := Unit) (fun (r : Int32) (u : Unit) => (r = cmpN (K1 pt ac (fun z => ra (12 * d + z)) p) (K1 pt ac (fun z => ra (12 * d + z)) q))) (fun (u : Unit) => [((ad 40), .inr (5, [.int (ft), .int (nI (n)), .int (L), .ref ((ad 41)), .ref ((ad 42)), .ref ((ad 43)), .ref ((ad 44)), .int (nI (fl)), .int (nI (rk)), .ref ((ad 45)), .ref ((ad 46)), .ref ((ad 47)), .int (rs), .ref ((ad 48)), .long (dr), .int (nI (wo)), .ref ((ad 49)), .ref ((ad 50)), .ref ((ad 51)), .ref ((ad 52)), .ref ((ad 53)), .ref ((ad 54)), .ref ((ad 55)), .ref ((ad 56)), .ref ((ad 57)), .ref ((ad 58)), .int (tc)])), ((ad 41), .inl (cyI, 12, .inl (fun zj => nI (mk zj)))), ((ad 42), .inl (cyI, 12, .inl (fun zj => nI (pt zj)))), ((ad 43), .inl (cyI, 72, .inl (fun zj => nI (tp zj)))), ((ad 44), .inl (cyI, 72, .inl (fun zj => nI (tj zj)))), ((ad 46), .inl (cyI, 264, .inl (fun zj => nI (ra zj))))]) := by
  refine CtI.mk (cc := cX5_compare) (maxL := 7) (by decide) rfl (Nat.le_of_ble_eq_true rfl) ?_
  intro zp ze zs zm za zb zt zc zA zQ ls hC hw hl hret
  replace hC : CallFix zp zm zc cX5_compare 7 zs za wsX5_compare RX5 := hC
  replace hl : lv_has ls 7 [(0, .ref ((ad 40))), (1, .int (nI (p))), (2, .int (nI (q))), (3, .int (nI (d + 1)))] := hl
  have hin5 : ∀ w ∈ u_ws RX5 TX5 27, w ∈ wsX5_compare := fun w h => List.mem_cons_of_mem _ (List.mem_append_right _ h)
  have lk13 : Cond.fieldLink RX5 13 (TX5 4).1 (TX5 4).2.1 (TX5 4).2.2.1 ∈ wsX5_compare := List.mem_of_getElem? (i := 2) rfl
  have lk16 : Cond.fieldLink RX5 16 (TX5 5).1 (TX5 5).2.1 (TX5 5).2.2.1 ∈ wsX5_compare := List.mem_of_getElem? (i := 5) rfl
  have lk19 : Cond.fieldLink RX5 19 (TX5 6).1 (TX5 6).2.1 (TX5 6).2.2.1 ∈ wsX5_compare := List.mem_of_getElem? (i := 4) rfl
  have lk25 : Cond.fieldLink RX5 25 (TX5 10).1 (TX5 10).2.1 (TX5 10).2.2.1 ∈ wsX5_compare := List.mem_of_getElem? (i := 3) rfl
  have hn := hN.n12
  have p1 := hN.p6 hp
  have p2 := hN.p6 hq
  have r1 := hr p hp
  have r2 := hr q hq
  refine lv_iload_n hC.1 hC.2.1 dX5_compare_0 rfl (lv_at hl 3 rfl) ?_
  refine n_if_ne (tgt := 53) hC dX5_compare_1 (by decide) (by omega) (fun c_1 => ?_) (fun c_1 => ?_)
  · skip
    refine lv_bipush (v := nI 12) hC.1 hC.2.1 dX5_compare_53 (by decide) ?_
    refine lv_iload_n hC.1 hC.2.1 dX5_compare_55 rfl (lv_at hl 3 rfl) ?_
    refine lv_iconst (v := nI 1) hC.1 hC.2.1 dX5_compare_56 (by decide) ?_
    refine n_isub hC dX5_compare_57 (by omega) ?_
    refine W.eq (g2 := F0 zm 58 ls [.int (nI (d)), .int (nI (12))]) (by rw [Nat.add_sub_cancel]) ?_
    refine n_imul hC dX5_compare_58 ?_
    refine lv_istore (lv' := [(4, .int (nI (12 * d))), (0, .ref ((ad 40))), (1, .int (nI (p))), (2, .int (nI (q))), (3, .int (nI (d + 1)))]) hC.1 hC.2.1 dX5_compare_59 hl (by decide) rfl (fun ls hl => ?_)
    refine lv_aload_n hC.1 hC.2.1 dX5_compare_61 rfl (lv_at hl 1 rfl) ?_
    refine g_get hC hw hin5 0 rfl rfl 10 (by decide) lk25 rfl dX5_compare_62 ?_
    refine lv_iload hC.1 hC.2.1 dX5_compare_65 (lv_at hl 0 rfl) ?_
    refine lv_iload_n hC.1 hC.2.1 dX5_compare_67 rfl (lv_at hl 2 rfl) ?_
    refine n_iadd hC dX5_compare_68 ?_
    refine g_ialdN hC hw 5 0 rfl rfl (by omega) (by first | decide | omega) dX5_compare_69 ?_
    refine lv_aload_n hC.1 hC.2.1 dX5_compare_70 rfl (lv_at hl 1 rfl) ?_
    refine g_get hC hw hin5 0 rfl rfl 10 (by decide) lk25 rfl dX5_compare_71 ?_
    refine lv_iload hC.1 hC.2.1 dX5_compare_74 (lv_at hl 0 rfl) ?_
    refine lv_iload_n hC.1 hC.2.1 dX5_compare_76 rfl (lv_at hl 3 rfl) ?_
    refine n_iadd hC dX5_compare_77 ?_
    refine g_ialdN hC hw 5 0 rfl rfl (by omega) (by first | decide | omega) dX5_compare_78 ?_
    refine W.ccI (wc := []) (wr := [((ad 40), .inr (5, [.int (ft), .int (nI (n)), .int (L), .ref ((ad 41)), .ref ((ad 42)), .ref ((ad 43)), .ref ((ad 44)), .int (nI (fl)), .int (nI (rk)), .ref ((ad 45)), .ref ((ad 46)), .ref ((ad 47)), .int (rs), .ref ((ad 48)), .long (dr), .int (nI (wo)), .ref ((ad 49)), .ref ((ad 50)), .ref ((ad 51)), .ref ((ad 52)), .ref ((ad 53)), .ref ((ad 54)), .ref ((ad 55)), .ref ((ad 56)), .ref ((ad 57)), .ref ((ad 58)), .int (tc)])), ((ad 41), .inl (cyI, 12, .inl (fun zj => nI (mk zj)))), ((ad 42), .inl (cyI, 12, .inl (fun zj => nI (pt zj)))), ((ad 43), .inl (cyI, 72, .inl (fun zj => nI (tp zj)))), ((ad 44), .inl (cyI, 72, .inl (fun zj => nI (tj zj)))), ((ad 46), .inl (cyI, 264, .inl (fun zj => nI (ra zj))))]) (ws1 := fun (u : Unit) => []) (ws2 := fun (u : Unit) => [((ad 40), .inr (5, [.int (ft), .int (nI (n)), .int (L), .ref ((ad 41)), .ref ((ad 42)), .ref ((ad 43)), .ref ((ad 44)), .int (nI (fl)), .int (nI (rk)), .ref ((ad 45)), .ref ((ad 46)), .ref ((ad 47)), .int (rs), .ref ((ad 48)), .long (dr), .int (nI (wo)), .ref ((ad 49)), .ref ((ad 50)), .ref ((ad 51)), .ref ((ad 52)), .ref ((ad 53)), .ref ((ad 54)), .ref ((ad 55)), .ref ((ad 56)), .ref ((ad 57)), .ref ((ad 58)), .int (tc)])), ((ad 41), .inl (cyI, 12, .inl (fun zj => nI (mk zj)))), ((ad 42), .inl (cyI, 12, .inl (fun zj => nI (pt zj)))), ((ad 43), .inl (cyI, 72, .inl (fun zj => nI (tp zj)))), ((ad 44), .inl (cyI, 72, .inl (fun zj => nI (tj zj)))), ((ad 46), .inl (cyI, 264, .inl (fun zj => nI (ra zj))))]) hw [] [0, 1, 2, 3, 4, 5] [0, 1, 2, 3, 4, 5] rfl rfl (by decide) (by decide) (by decide) (fun _ => rfl) (Wd.runS (wc := []) (rest := []) (As := [.int (nI (ra ((12 * d) + p))), .int (nI (ra ((12 * d) + q)))]) hC hw [] rfl (by decide) (va_cwS 2 hC.2.2.2.2 gX5_compare_X5_compareTwo rfl rfl rfl (by decide +kernel) ⟨Nat.le_of_ble_eq_true rfl, Nat.le_of_ble_eq_true rfl⟩) (c_X5_compareTwo l dC dI cyI cyJ cyZ cyS ad (ra ((12 * d) + p)) (ra ((12 * d) + q)) (by first | assumption | omega) (by first | assumption | omega) _) rfl hl.1 rfl (Nat.le_of_ble_eq_true rfl) dX5_compare_79 ⟨Nat.zero_le _, Nat.zero_le _⟩) (fun r_79 u H locs hr_79 hw => ?_)
    replace hw : Wd dC dI (tysA cyI cyJ cyZ cyS) [((ad 40), .inr (5, [.int (ft), .int (nI (n)), .int (L), .ref ((ad 41)), .ref ((ad 42)), .ref ((ad 43)), .ref ((ad 44)), .int (nI (fl)), .int (nI (rk)), .ref ((ad 45)), .ref ((ad 46)), .ref ((ad 47)), .int (rs), .ref ((ad 48)), .long (dr), .int (nI (wo)), .ref ((ad 49)), .ref ((ad 50)), .ref ((ad 51)), .ref ((ad 52)), .ref ((ad 53)), .ref ((ad 54)), .ref ((ad 55)), .ref ((ad 56)), .ref ((ad 57)), .ref ((ad 58)), .int (tc)])), ((ad 41), .inl (cyI, 12, .inl (fun zj => nI (mk zj)))), ((ad 42), .inl (cyI, 12, .inl (fun zj => nI (pt zj)))), ((ad 43), .inl (cyI, 72, .inl (fun zj => nI (tp zj)))), ((ad 44), .inl (cyI, 72, .inl (fun zj => nI (tj zj)))), ((ad 46), .inl (cyI, 264, .inl (fun zj => nI (ra zj))))] zA zs H locs := hw
    subst hr_79
    refine lv_istore (lv' := [(5, .int (cmpN (ra ((12 * d) + p)) (ra ((12 * d) + q)))), (4, .int (nI (12 * d))), (0, .ref ((ad 40))), (1, .int (nI (p))), (2, .int (nI (q))), (3, .int (nI (d + 1)))]) hC.1 hC.2.1 dX5_compare_82 hl (by decide) rfl (fun ls hl => ?_)
    refine lv_iconst (v := nI 0) hC.1 hC.2.1 dX5_compare_84 (by decide) ?_
    refine lv_istore (lv' := [(6, .int (nI (0))), (5, .int (cmpN (ra ((12 * d) + p)) (ra ((12 * d) + q)))), (4, .int (nI (12 * d))), (0, .ref ((ad 40))), (1, .int (nI (p))), (2, .int (nI (q))), (3, .int (nI (d + 1)))]) hC.1 hC.2.1 dX5_compare_85 hl (by decide) rfl (fun ls hl => ?_)
    have K87 : ∀ (zk : Nat), ∀ (c : Int32) (i : Nat) (H : Heap) (locs : List Loc) (ls : Array Slot), pt p - i < zk → (i ≤ pt p) → (c = cmpN (pkTo ac (fun z => ra (12 * d + z)) p i) (pkTo ac (fun z => ra (12 * d + z)) q i)) → (ra (12 * d + p) ≠ ra (12 * d + q) → i = 0) → Wd dC dI (tysA cyI cyJ cyZ cyS) [((ad 40), .inr (5, [.int (ft), .int (nI (n)), .int (L), .ref ((ad 41)), .ref ((ad 42)), .ref ((ad 43)), .ref ((ad 44)), .int (nI (fl)), .int (nI (rk)), .ref ((ad 45)), .ref ((ad 46)), .ref ((ad 47)), .int (rs), .ref ((ad 48)), .long (dr), .int (nI (wo)), .ref ((ad 49)), .ref ((ad 50)), .ref ((ad 51)), .ref ((ad 52)), .ref ((ad 53)), .ref ((ad 54)), .ref ((ad 55)), .ref ((ad 56)), .ref ((ad 57)), .ref ((ad 58)), .int (tc)])), ((ad 41), .inl (cyI, 12, .inl (fun zj => nI (mk zj)))), ((ad 42), .inl (cyI, 12, .inl (fun zj => nI (pt zj)))), ((ad 43), .inl (cyI, 72, .inl (fun zj => nI (tp zj)))), ((ad 44), .inl (cyI, 72, .inl (fun zj => nI (tj zj)))), ((ad 46), .inl (cyI, 264, .inl (fun zj => nI (ra zj))))] zA zs H locs → lv_has ls 7 [(0, .ref ((ad 40))), (1, .int (nI (p))), (2, .int (nI (q))), (4, .int (nI (12 * d))), (5, .int (c)), (6, .int (nI (i)))] → W zp l ze ({ frames := 1, cells := 0, slots := 0, locals := 21 } : Room) zs zm za zb zt zc H locs 0 0 zQ (F0 zm 87 ls []) := by
      intro zk
      induction zk with
      | zero => intro c i H locs ls h0; exact absurd h0 (Nat.not_lt_zero _)
      | succ zk ih87 =>
        intro c i H locs ls hmu hi hc h0 hw hl
        refine lv_iload hC.1 hC.2.1 dX5_compare_87 (lv_at hl 4 rfl) ?_
        refine lv_if_ne (tgt := 193) hC.1 hC.2.1 dX5_compare_89 (by decide) (fun c_89 => ?_) (fun c_89 => ?_)
        · skip
          refine lv_iload hC.1 hC.2.1 dX5_compare_193 (lv_at hl 4 rfl) ?_
          exact hret _ _ _ ls (c) () dX5_compare_195 rfl (by rw [hc]; exact cmp_end hN hr hpe hp hq hi h0 (by first | exact Or.inl (by rw [← hc]; exact c_89) | exact Or.inr (by omega)) (fun z => by rcases Classical.em (ra (12 * d + p) = ra (12 * d + q)) with w | w; exact w; (have hi0 := h0 w; rw [hi0] at z; exact cmpN_0.mp z))) hw
        · skip
          have hc0 : cmpN (pkTo ac (fun z => ra (12 * d + z)) p i) (pkTo ac (fun z => ra (12 * d + z)) q i) = 0 := by rw [← hc]; exact c_89
          have hpk := cmpN_0.mp hc0
          have hrr : ra (12 * d + p) = ra (12 * d + q) := by rcases Classical.em (ra (12 * d + p) = ra (12 * d + q)) with z | z; exact z; (have hi0 := h0 z; rw [hi0] at hpk; exact hpk)
          have hpq := hpe p q hp hq hrr
          refine lv_iload hC.1 hC.2.1 dX5_compare_92 (lv_at hl 5 rfl) ?_
          refine lv_aload_n hC.1 hC.2.1 dX5_compare_94 rfl (lv_at hl 0 rfl) ?_
          refine g_get hC hw hin5 0 rfl rfl 4 (by decide) lk13 rfl dX5_compare_95 ?_
          refine lv_iload_n hC.1 hC.2.1 dX5_compare_98 rfl (lv_at hl 1 rfl) ?_
          refine g_ialdN hC hw 2 0 rfl rfl (by omega) (by first | decide | omega) dX5_compare_99 ?_
          refine n_icmp_ge (tgt := 193) hC dX5_compare_100 (by decide) (by omega) (by omega) (fun c_100 => ?_) (fun c_100 => ?_)
          · skip
            refine lv_iload hC.1 hC.2.1 dX5_compare_193 (lv_at hl 4 rfl) ?_
            exact hret _ _ _ ls (c) () dX5_compare_195 rfl (by rw [hc]; exact cmp_end hN hr hpe hp hq hi h0 (by first | exact Or.inl (by rw [← hc]; exact c_89) | exact Or.inr (by omega)) (fun z => by rcases Classical.em (ra (12 * d + p) = ra (12 * d + q)) with w | w; exact w; (have hi0 := h0 w; rw [hi0] at z; exact cmpN_0.mp z))) hw
          · skip
            obtain ⟨t1, t2⟩ := hNR p i hp (by omega)
            obtain ⟨t3, t4⟩ := hNR q i hq (by omega)
            obtain ⟨s1, s2, -⟩ := hN.a hp (i := i) (by omega)
            obtain ⟨s3, s4, -⟩ := hN.a hq (i := i) (by omega)
            have u1 : ac (p * 6 + i) / 6 = tp (6 * p + i) := by omega
            have u2 : ac (p * 6 + i) % 6 = tj (6 * p + i) := by omega
            have u3 : ac (q * 6 + i) / 6 = tp (6 * q + i) := by omega
            have u4 : ac (q * 6 + i) % 6 = tj (6 * q + i) := by omega
            rw [u1] at s1
            rw [u3] at s3
            have v1 := hr _ s1
            have v2 := hr _ s3
            have hdg := cmp_dig (x := tj (6 * p + i)) (y := tj (6 * q + i)) hpk v1 v2
            refine lv_aload_n hC.1 hC.2.1 dX5_compare_103 rfl (lv_at hl 0 rfl) ?_
            refine g_get hC hw hin5 0 rfl rfl 6 (by decide) lk19 rfl dX5_compare_104 ?_
            refine lv_bipush (v := nI 6) hC.1 hC.2.1 dX5_compare_107 (by decide) ?_
            refine lv_iload_n hC.1 hC.2.1 dX5_compare_109 rfl (lv_at hl 1 rfl) ?_
            refine n_imul hC dX5_compare_110 ?_
            refine lv_iload hC.1 hC.2.1 dX5_compare_111 (lv_at hl 5 rfl) ?_
            refine n_iadd hC dX5_compare_113 ?_
            refine g_ialdN hC hw 4 0 rfl rfl (by omega) (by first | decide | omega) dX5_compare_114 ?_
            refine lv_aload_n hC.1 hC.2.1 dX5_compare_115 rfl (lv_at hl 0 rfl) ?_
            refine g_get hC hw hin5 0 rfl rfl 6 (by decide) lk19 rfl dX5_compare_116 ?_
            refine lv_bipush (v := nI 6) hC.1 hC.2.1 dX5_compare_119 (by decide) ?_
            refine lv_iload_n hC.1 hC.2.1 dX5_compare_121 rfl (lv_at hl 2 rfl) ?_
            refine n_imul hC dX5_compare_122 ?_
            refine lv_iload hC.1 hC.2.1 dX5_compare_123 (lv_at hl 5 rfl) ?_
            refine n_iadd hC dX5_compare_125 ?_
            refine g_ialdN hC hw 4 0 rfl rfl (by omega) (by first | decide | omega) dX5_compare_126 ?_
            refine W.ccI (wc := []) (wr := [((ad 40), .inr (5, [.int (ft), .int (nI (n)), .int (L), .ref ((ad 41)), .ref ((ad 42)), .ref ((ad 43)), .ref ((ad 44)), .int (nI (fl)), .int (nI (rk)), .ref ((ad 45)), .ref ((ad 46)), .ref ((ad 47)), .int (rs), .ref ((ad 48)), .long (dr), .int (nI (wo)), .ref ((ad 49)), .ref ((ad 50)), .ref ((ad 51)), .ref ((ad 52)), .ref ((ad 53)), .ref ((ad 54)), .ref ((ad 55)), .ref ((ad 56)), .ref ((ad 57)), .ref ((ad 58)), .int (tc)])), ((ad 41), .inl (cyI, 12, .inl (fun zj => nI (mk zj)))), ((ad 42), .inl (cyI, 12, .inl (fun zj => nI (pt zj)))), ((ad 43), .inl (cyI, 72, .inl (fun zj => nI (tp zj)))), ((ad 44), .inl (cyI, 72, .inl (fun zj => nI (tj zj)))), ((ad 46), .inl (cyI, 264, .inl (fun zj => nI (ra zj))))]) (ws1 := fun (u : Unit) => []) (ws2 := fun (u : Unit) => [((ad 40), .inr (5, [.int (ft), .int (nI (n)), .int (L), .ref ((ad 41)), .ref ((ad 42)), .ref ((ad 43)), .ref ((ad 44)), .int (nI (fl)), .int (nI (rk)), .ref ((ad 45)), .ref ((ad 46)), .ref ((ad 47)), .int (rs), .ref ((ad 48)), .long (dr), .int (nI (wo)), .ref ((ad 49)), .ref ((ad 50)), .ref ((ad 51)), .ref ((ad 52)), .ref ((ad 53)), .ref ((ad 54)), .ref ((ad 55)), .ref ((ad 56)), .ref ((ad 57)), .ref ((ad 58)), .int (tc)])), ((ad 41), .inl (cyI, 12, .inl (fun zj => nI (mk zj)))), ((ad 42), .inl (cyI, 12, .inl (fun zj => nI (pt zj)))), ((ad 43), .inl (cyI, 72, .inl (fun zj => nI (tp zj)))), ((ad 44), .inl (cyI, 72, .inl (fun zj => nI (tj zj)))), ((ad 46), .inl (cyI, 264, .inl (fun zj => nI (ra zj))))]) hw [] [0, 1, 2, 3, 4, 5] [0, 1, 2, 3, 4, 5] rfl rfl (by decide) (by decide) (by decide) (fun _ => rfl) (Wd.runS (wc := []) (rest := []) (As := [.int (nI (tj ((6 * p) + i))), .int (nI (tj ((6 * q) + i)))]) hC hw [] rfl (by decide) (va_cwS 2 hC.2.2.2.2 gX5_compare_X5_compareTwo rfl rfl rfl (by decide +kernel) ⟨Nat.le_of_ble_eq_true rfl, Nat.le_of_ble_eq_true rfl⟩) (c_X5_compareTwo l dC dI cyI cyJ cyZ cyS ad (tj ((6 * p) + i)) (tj ((6 * q) + i)) (by first | assumption | omega) (by first | assumption | omega) _) rfl hl.1 rfl (Nat.le_of_ble_eq_true rfl) dX5_compare_127 ⟨Nat.zero_le _, Nat.zero_le _⟩) (fun r_127 u H locs hr_127 hw => ?_)
            replace hw : Wd dC dI (tysA cyI cyJ cyZ cyS) [((ad 40), .inr (5, [.int (ft), .int (nI (n)), .int (L), .ref ((ad 41)), .ref ((ad 42)), .ref ((ad 43)), .ref ((ad 44)), .int (nI (fl)), .int (nI (rk)), .ref ((ad 45)), .ref ((ad 46)), .ref ((ad 47)), .int (rs), .ref ((ad 48)), .long (dr), .int (nI (wo)), .ref ((ad 49)), .ref ((ad 50)), .ref ((ad 51)), .ref ((ad 52)), .ref ((ad 53)), .ref ((ad 54)), .ref ((ad 55)), .ref ((ad 56)), .ref ((ad 57)), .ref ((ad 58)), .int (tc)])), ((ad 41), .inl (cyI, 12, .inl (fun zj => nI (mk zj)))), ((ad 42), .inl (cyI, 12, .inl (fun zj => nI (pt zj)))), ((ad 43), .inl (cyI, 72, .inl (fun zj => nI (tp zj)))), ((ad 44), .inl (cyI, 72, .inl (fun zj => nI (tj zj)))), ((ad 46), .inl (cyI, 264, .inl (fun zj => nI (ra zj))))] zA zs H locs := hw
            subst hr_127
            refine lv_istore (lv' := [(5, .int (cmpN (tj ((6 * p) + i)) (tj ((6 * q) + i)))), (0, .ref ((ad 40))), (1, .int (nI (p))), (2, .int (nI (q))), (4, .int (nI (12 * d))), (6, .int (nI (i)))]) hC.1 hC.2.1 dX5_compare_130 hl (by decide) rfl (fun ls hl => ?_)
            refine lv_iload hC.1 hC.2.1 dX5_compare_132 (lv_at hl 0 rfl) ?_
            refine lv_if_eq (tgt := 142) hC.1 hC.2.1 dX5_compare_134 (by decide) (fun c_134 => ?_) (fun c_134 => ?_)
            · skip
              refine lv_aload_n hC.1 hC.2.1 dX5_compare_142 rfl (lv_at hl 1 rfl) ?_
              refine g_get hC hw hin5 0 rfl rfl 10 (by decide) lk25 rfl dX5_compare_143 ?_
              refine lv_iload hC.1 hC.2.1 dX5_compare_146 (lv_at hl 4 rfl) ?_
              refine lv_aload_n hC.1 hC.2.1 dX5_compare_148 rfl (lv_at hl 1 rfl) ?_
              refine g_get hC hw hin5 0 rfl rfl 5 (by decide) lk16 rfl dX5_compare_149 ?_
              refine lv_bipush (v := nI 6) hC.1 hC.2.1 dX5_compare_152 (by decide) ?_
              refine lv_iload_n hC.1 hC.2.1 dX5_compare_154 rfl (lv_at hl 2 rfl) ?_
              refine n_imul hC dX5_compare_155 ?_
              refine lv_iload hC.1 hC.2.1 dX5_compare_156 (lv_at hl 5 rfl) ?_
              refine n_iadd hC dX5_compare_158 ?_
              refine g_ialdN hC hw 3 0 rfl rfl (by omega) (by first | decide | omega) dX5_compare_159 ?_
              refine n_iadd hC dX5_compare_160 ?_
              refine g_ialdN hC hw 5 0 rfl rfl (by omega) (by first | decide | omega) dX5_compare_161 ?_
              refine lv_aload_n hC.1 hC.2.1 dX5_compare_162 rfl (lv_at hl 1 rfl) ?_
              refine g_get hC hw hin5 0 rfl rfl 10 (by decide) lk25 rfl dX5_compare_163 ?_
              refine lv_iload hC.1 hC.2.1 dX5_compare_166 (lv_at hl 4 rfl) ?_
              refine lv_aload_n hC.1 hC.2.1 dX5_compare_168 rfl (lv_at hl 1 rfl) ?_
              refine g_get hC hw hin5 0 rfl rfl 5 (by decide) lk16 rfl dX5_compare_169 ?_
              refine lv_bipush (v := nI 6) hC.1 hC.2.1 dX5_compare_172 (by decide) ?_
              refine lv_iload_n hC.1 hC.2.1 dX5_compare_174 rfl (lv_at hl 3 rfl) ?_
              refine n_imul hC dX5_compare_175 ?_
              refine lv_iload hC.1 hC.2.1 dX5_compare_176 (lv_at hl 5 rfl) ?_
              refine n_iadd hC dX5_compare_178 ?_
              refine g_ialdN hC hw 3 0 rfl rfl (by omega) (by first | decide | omega) dX5_compare_179 ?_
              refine n_iadd hC dX5_compare_180 ?_
              refine g_ialdN hC hw 5 0 rfl rfl (by omega) (by first | decide | omega) dX5_compare_181 ?_
              refine W.ccI (wc := []) (wr := [((ad 40), .inr (5, [.int (ft), .int (nI (n)), .int (L), .ref ((ad 41)), .ref ((ad 42)), .ref ((ad 43)), .ref ((ad 44)), .int (nI (fl)), .int (nI (rk)), .ref ((ad 45)), .ref ((ad 46)), .ref ((ad 47)), .int (rs), .ref ((ad 48)), .long (dr), .int (nI (wo)), .ref ((ad 49)), .ref ((ad 50)), .ref ((ad 51)), .ref ((ad 52)), .ref ((ad 53)), .ref ((ad 54)), .ref ((ad 55)), .ref ((ad 56)), .ref ((ad 57)), .ref ((ad 58)), .int (tc)])), ((ad 41), .inl (cyI, 12, .inl (fun zj => nI (mk zj)))), ((ad 42), .inl (cyI, 12, .inl (fun zj => nI (pt zj)))), ((ad 43), .inl (cyI, 72, .inl (fun zj => nI (tp zj)))), ((ad 44), .inl (cyI, 72, .inl (fun zj => nI (tj zj)))), ((ad 46), .inl (cyI, 264, .inl (fun zj => nI (ra zj))))]) (ws1 := fun (u : Unit) => []) (ws2 := fun (u : Unit) => [((ad 40), .inr (5, [.int (ft), .int (nI (n)), .int (L), .ref ((ad 41)), .ref ((ad 42)), .ref ((ad 43)), .ref ((ad 44)), .int (nI (fl)), .int (nI (rk)), .ref ((ad 45)), .ref ((ad 46)), .ref ((ad 47)), .int (rs), .ref ((ad 48)), .long (dr), .int (nI (wo)), .ref ((ad 49)), .ref ((ad 50)), .ref ((ad 51)), .ref ((ad 52)), .ref ((ad 53)), .ref ((ad 54)), .ref ((ad 55)), .ref ((ad 56)), .ref ((ad 57)), .ref ((ad 58)), .int (tc)])), ((ad 41), .inl (cyI, 12, .inl (fun zj => nI (mk zj)))), ((ad 42), .inl (cyI, 12, .inl (fun zj => nI (pt zj)))), ((ad 43), .inl (cyI, 72, .inl (fun zj => nI (tp zj)))), ((ad 44), .inl (cyI, 72, .inl (fun zj => nI (tj zj)))), ((ad 46), .inl (cyI, 264, .inl (fun zj => nI (ra zj))))]) hw [] [0, 1, 2, 3, 4, 5] [0, 1, 2, 3, 4, 5] rfl rfl (by decide) (by decide) (by decide) (fun _ => rfl) (Wd.runS (wc := []) (rest := []) (As := [.int (nI (ra ((12 * d) + (tp ((6 * p) + i))))), .int (nI (ra ((12 * d) + (tp ((6 * q) + i)))))]) hC hw [] rfl (by decide) (va_cwS 2 hC.2.2.2.2 gX5_compare_X5_compareTwo rfl rfl rfl (by decide +kernel) ⟨Nat.le_of_ble_eq_true rfl, Nat.le_of_ble_eq_true rfl⟩) (c_X5_compareTwo l dC dI cyI cyJ cyZ cyS ad (ra ((12 * d) + (tp ((6 * p) + i)))) (ra ((12 * d) + (tp ((6 * q) + i)))) (by first | assumption | omega) (by first | assumption | omega) _) rfl hl.1 rfl (Nat.le_of_ble_eq_true rfl) dX5_compare_182 ⟨Nat.zero_le _, Nat.zero_le _⟩) (fun r_182 u H locs hr_182 hw => ?_)
              replace hw : Wd dC dI (tysA cyI cyJ cyZ cyS) [((ad 40), .inr (5, [.int (ft), .int (nI (n)), .int (L), .ref ((ad 41)), .ref ((ad 42)), .ref ((ad 43)), .ref ((ad 44)), .int (nI (fl)), .int (nI (rk)), .ref ((ad 45)), .ref ((ad 46)), .ref ((ad 47)), .int (rs), .ref ((ad 48)), .long (dr), .int (nI (wo)), .ref ((ad 49)), .ref ((ad 50)), .ref ((ad 51)), .ref ((ad 52)), .ref ((ad 53)), .ref ((ad 54)), .ref ((ad 55)), .ref ((ad 56)), .ref ((ad 57)), .ref ((ad 58)), .int (tc)])), ((ad 41), .inl (cyI, 12, .inl (fun zj => nI (mk zj)))), ((ad 42), .inl (cyI, 12, .inl (fun zj => nI (pt zj)))), ((ad 43), .inl (cyI, 72, .inl (fun zj => nI (tp zj)))), ((ad 44), .inl (cyI, 72, .inl (fun zj => nI (tj zj)))), ((ad 46), .inl (cyI, 264, .inl (fun zj => nI (ra zj))))] zA zs H locs := hw
              subst hr_182
              first | (have hc9 : cmpN (tj (6 * p + i)) (tj (6 * q + i)) = cmpN (pkTo ac (fun z => ra (12 * d + z)) p (i + 1)) (pkTo ac (fun z => ra (12 * d + z)) q (i + 1)) := by rw [if_neg c_134] at hdg; rw [hdg, pkTo, pkTo, u1, u2, u3, u4]) | (have hc8 : cmpN (ra (12 * d + tp (6 * p + i))) (ra (12 * d + tp (6 * q + i))) = cmpN (pkTo ac (fun z => ra (12 * d + z)) p (i + 1)) (pkTo ac (fun z => ra (12 * d + z)) q (i + 1)) := by rw [if_pos c_134] at hdg; rw [hdg, pkTo, pkTo, u1, u2, u3, u4])
              have heq0 : ra (12 * d + p) ≠ ra (12 * d + q) → False := fun z => z hrr
              refine lv_istore (lv' := [(5, .int (cmpN (ra ((12 * d) + (tp ((6 * p) + i)))) (ra ((12 * d) + (tp ((6 * q) + i)))))), (0, .ref ((ad 40))), (1, .int (nI (p))), (2, .int (nI (q))), (4, .int (nI (12 * d))), (6, .int (nI (i)))]) hC.1 hC.2.1 dX5_compare_185 hl (by decide) rfl (fun ls hl => ?_)
              refine lv_iinc (v := nI (i + 1)) (lv' := [(6, .int (nI (i + 1))), (5, .int (cmpN (ra ((12 * d) + (tp ((6 * p) + i)))) (ra ((12 * d) + (tp ((6 * q) + i)))))), (0, .ref ((ad 40))), (1, .int (nI (p))), (2, .int (nI (q))), (4, .int (nI (12 * d)))]) hC.1 hC.2.1 dX5_compare_187 hl (k := 5) rfl (nI_inc i 1) (by decide) rfl (fun ls hl => ?_)
              refine lv_goto (tgt := 87) hC.1 hC.2.1 dX5_compare_190 (by decide) ?_
              exact ih87 (cmpN (ra ((12 * d) + (tp ((6 * p) + i)))) (ra ((12 * d) + (tp ((6 * q) + i))))) (i + 1) _ _ ls (by omega) (by omega) (by first | exact hc9 | exact hc8) (by intro z; exact absurd (heq0 z) (by omega)) hw (lv_sub hl [2, 3, 4, 5, 1, 0] rfl)
            · skip
              refine lv_iload hC.1 hC.2.1 dX5_compare_137 (lv_at hl 0 rfl) ?_
              refine lv_goto (tgt := 185) hC.1 hC.2.1 dX5_compare_139 (by decide) ?_
              first | (have hc9 : cmpN (tj (6 * p + i)) (tj (6 * q + i)) = cmpN (pkTo ac (fun z => ra (12 * d + z)) p (i + 1)) (pkTo ac (fun z => ra (12 * d + z)) q (i + 1)) := by rw [if_neg c_134] at hdg; rw [hdg, pkTo, pkTo, u1, u2, u3, u4]) | (have hc8 : cmpN (ra (12 * d + tp (6 * p + i))) (ra (12 * d + tp (6 * q + i))) = cmpN (pkTo ac (fun z => ra (12 * d + z)) p (i + 1)) (pkTo ac (fun z => ra (12 * d + z)) q (i + 1)) := by rw [if_pos c_134] at hdg; rw [hdg, pkTo, pkTo, u1, u2, u3, u4])
              have heq0 : ra (12 * d + p) ≠ ra (12 * d + q) → False := fun z => z hrr
              refine lv_istore (lv' := [(5, .int (cmpN (tj ((6 * p) + i)) (tj ((6 * q) + i)))), (0, .ref ((ad 40))), (1, .int (nI (p))), (2, .int (nI (q))), (4, .int (nI (12 * d))), (6, .int (nI (i)))]) hC.1 hC.2.1 dX5_compare_185 hl (by decide) rfl (fun ls hl => ?_)
              refine lv_iinc (v := nI (i + 1)) (lv' := [(6, .int (nI (i + 1))), (5, .int (cmpN (tj ((6 * p) + i)) (tj ((6 * q) + i)))), (0, .ref ((ad 40))), (1, .int (nI (p))), (2, .int (nI (q))), (4, .int (nI (12 * d)))]) hC.1 hC.2.1 dX5_compare_187 hl (k := 5) rfl (nI_inc i 1) (by decide) rfl (fun ls hl => ?_)
              refine lv_goto (tgt := 87) hC.1 hC.2.1 dX5_compare_190 (by decide) ?_
              exact ih87 (cmpN (tj ((6 * p) + i)) (tj ((6 * q) + i))) (i + 1) _ _ ls (by omega) (by omega) (by first | exact hc9 | exact hc8) (by intro z; exact absurd (heq0 z) (by omega)) hw (lv_sub hl [2, 3, 4, 5, 1, 0] rfl)
    exact K87 _ (cmpN (ra ((12 * d) + p)) (ra ((12 * d) + q))) 0 _ _ ls (Nat.lt_succ_self _) (by omega) (by rfl) (by intro _; rfl) hw (lv_sub hl [3, 4, 5, 2, 1, 0] rfl)
  · skip
    exfalso; omega
