set_option maxHeartbeats 4000000 in
set_option maxRecDepth 100000 in
theorem c_X4_slotOf (l : Launch) (dC : Nat → ClassId) (dI : Nat → Nat → Nat) (cyI cyJ cyZ cyS : ClassId) (ad : Nat → Nat) (p q : Nat) : CtI l yX4_slotOf wsX4_slotOf ({ frames := 0, cells := 0, slots := 0, locals := 0 } : Room) dC dI (tysA cyI cyJ cyZ cyS) [.int (nI (p)), .int (nI (q))] [] (S := Unit) (fun (r : Int32) (u : Unit) => (r = nI (p * 6 + q))) (fun (u : Unit) => []) := by
  refine CtI.mk (cc := cX4_slotOf) (maxL := 2) (by decide) rfl (Nat.le_of_ble_eq_true rfl) ?_
  intro zp ze zs zm za zb zt zc zA zQ ls hC hw hl hret
  replace hC : CallFix zp zm zc cX4_slotOf 2 zs za wsX4_slotOf RX4 := hC
  replace hl : lv_has ls 2 [(0, .int (nI (p))), (1, .int (nI (q)))] := hl
  refine lv_iload_n hC.1 hC.2.1 dX4_slotOf_0 rfl (lv_at hl 0 rfl) ?_
  refine lv_bipush (v := nI 6) hC.1 hC.2.1 dX4_slotOf_1 (by decide) ?_
  refine n_imul hC dX4_slotOf_3 ?_
  refine lv_iload_n hC.1 hC.2.1 dX4_slotOf_4 rfl (lv_at hl 1 rfl) ?_
  refine n_iadd hC dX4_slotOf_5 ?_
  exact hret _ _ _ ls (nI ((p * 6) + q)) () dX4_slotOf_6 rfl rfl hw

set_option maxHeartbeats 4000000 in
set_option maxRecDepth 100000 in
theorem c_X4_postOf (l : Launch) (dC : Nat → ClassId) (dI : Nat → Nat → Nat) (cyI cyJ cyZ cyS : ClassId) (ad : Nat → Nat) (s : Nat) (hs : s < 2 ^ 31) : CtI l yX4_postOf wsX4_postOf ({ frames := 0, cells := 0, slots := 0, locals := 0 } : Room) dC dI (tysA cyI cyJ cyZ cyS) [.int (nI (s))] [] (S := Unit) (fun (r : Int32) (u : Unit) => (r = nI (s / 6))) (fun (u : Unit) => []) := by
  refine CtI.mk (cc := cX4_postOf) (maxL := 1) (by decide) rfl (Nat.le_of_ble_eq_true rfl) ?_
  intro zp ze zs zm za zb zt zc zA zQ ls hC hw hl hret
  replace hC : CallFix zp zm zc cX4_postOf 1 zs za wsX4_postOf RX4 := hC
  replace hl : lv_has ls 1 [(0, .int (nI (s)))] := hl
  refine lv_iload_n hC.1 hC.2.1 dX4_postOf_0 rfl (lv_at hl 0 rfl) ?_
  refine lv_bipush (v := nI 6) hC.1 hC.2.1 dX4_postOf_1 (by decide) ?_
  refine n_idiv hC dX4_postOf_3 (by omega) (by omega) (by omega) ?_
  exact hret _ _ _ ls (nI (s / 6)) () dX4_postOf_4 rfl rfl hw

set_option maxHeartbeats 4000000 in
set_option maxRecDepth 100000 in
theorem c_X4_portOf (l : Launch) (dC : Nat → ClassId) (dI : Nat → Nat → Nat) (cyI cyJ cyZ cyS : ClassId) (ad : Nat → Nat) (s : Nat) (hs : s < 2 ^ 31) : CtI l yX4_portOf wsX4_portOf ({ frames := 0, cells := 0, slots := 0, locals := 0 } : Room) dC dI (tysA cyI cyJ cyZ cyS) [.int (nI (s))] [] (S := Unit) (fun (r : Int32) (u : Unit) => (r = nI (s % 6))) (fun (u : Unit) => []) := by
  refine CtI.mk (cc := cX4_portOf) (maxL := 1) (by decide) rfl (Nat.le_of_ble_eq_true rfl) ?_
  intro zp ze zs zm za zb zt zc zA zQ ls hC hw hl hret
  replace hC : CallFix zp zm zc cX4_portOf 1 zs za wsX4_portOf RX4 := hC
  replace hl : lv_has ls 1 [(0, .int (nI (s)))] := hl
  refine lv_iload_n hC.1 hC.2.1 dX4_portOf_0 rfl (lv_at hl 0 rfl) ?_
  refine lv_bipush (v := nI 6) hC.1 hC.2.1 dX4_portOf_1 (by decide) ?_
  refine n_irem hC dX4_portOf_3 (by omega) (by omega) (by omega) ?_
  exact hret _ _ _ ls (nI (s % 6)) () dX4_portOf_4 rfl rfl hw

set_option maxHeartbeats 4000000 in
set_option maxRecDepth 100000 in
theorem c_X4_isMark (l : Launch) (dC : Nat → ClassId) (dI : Nat → Nat → Nat) (cyI cyJ cyZ cyS : ClassId) (ad : Nat → Nat) (x : Int32) : CtI l yX4_isMark wsX4_isMark ({ frames := 0, cells := 0, slots := 0, locals := 0 } : Room) dC dI (tysA cyI cyJ cyZ cyS) [.int (x)] [] (S := Unit) (fun (r : Int32) (u : Unit) => (((vp_in x 10) → r = nI 1) ∧ (¬ (vp_in x 10) → r = nI 0))) (fun (u : Unit) => []) := by
  refine CtI.mk (cc := cX4_isMark) (maxL := 1) (by decide) rfl (Nat.le_of_ble_eq_true rfl) ?_
  intro zp ze zs zm za zb zt zc zA zQ ls hC hw hl hret
  replace hC : CallFix zp zm zc cX4_isMark 1 zs za wsX4_isMark RX4 := hC
  replace hl : lv_has ls 1 [(0, .int (x))] := hl
  refine lv_iload_n hC.1 hC.2.1 dX4_isMark_0 rfl (lv_at hl 0 rfl) ?_
  refine lv_if_lt (tgt := 14) hC.1 hC.2.1 dX4_isMark_1 (by decide) (fun c_1 => ?_) (fun c_1 => ?_)
  · skip
    refine lv_iconst (v := nI 0) hC.1 hC.2.1 dX4_isMark_14 (by decide) ?_
    exact hret _ _ _ ls (nI (0)) () dX4_isMark_15 (by first | rfl | decide) ⟨fun h9 => by first | rfl | (exfalso; simp_all [in_c (x := x) (n := 10) (by decide) (by decide)]), fun h9 => by first | rfl | (exfalso; simp_all [in_c (x := x) (n := 10) (by decide) (by decide)])⟩ hw
  · skip
    refine lv_iload_n hC.1 hC.2.1 dX4_isMark_4 rfl (lv_at hl 0 rfl) ?_
    refine lv_bipush (v := nI 9) hC.1 hC.2.1 dX4_isMark_5 (by decide) ?_
    refine lv_icmp_gt (tgt := 14) hC.1 hC.2.1 dX4_isMark_7 (by decide) (fun c_7 => ?_) (fun c_7 => ?_)
    · skip
      refine lv_iconst (v := nI 0) hC.1 hC.2.1 dX4_isMark_14 (by decide) ?_
      exact hret _ _ _ ls (nI (0)) () dX4_isMark_15 (by first | rfl | decide) ⟨fun h9 => by first | rfl | (exfalso; simp_all [in_c (x := x) (n := 10) (by decide) (by decide)]), fun h9 => by first | rfl | (exfalso; simp_all [in_c (x := x) (n := 10) (by decide) (by decide)])⟩ hw
    · skip
      refine lv_iconst (v := nI 1) hC.1 hC.2.1 dX4_isMark_10 (by decide) ?_
      refine lv_goto (tgt := 15) hC.1 hC.2.1 dX4_isMark_11 (by decide) ?_
      exact hret _ _ _ ls (nI (1)) () dX4_isMark_15 (by first | rfl | decide) ⟨fun h9 => by first | rfl | (exfalso; simp_all [in_c (x := x) (n := 10) (by decide) (by decide)]), fun h9 => by first | rfl | (exfalso; simp_all [in_c (x := x) (n := 10) (by decide) (by decide)])⟩ hw

set_option maxHeartbeats 4000000 in
set_option maxRecDepth 100000 in
theorem c_X4_isDepth (l : Launch) (dC : Nat → ClassId) (dI : Nat → Nat → Nat) (cyI cyJ cyZ cyS : ClassId) (ad : Nat → Nat) (x : Int32) : CtI l yX4_isDepth wsX4_isDepth ({ frames := 0, cells := 0, slots := 0, locals := 0 } : Room) dC dI (tysA cyI cyJ cyZ cyS) [.int (x)] [] (S := Unit) (fun (r : Int32) (u : Unit) => (((vp_in x 21) → r = nI 1) ∧ (¬ (vp_in x 21) → r = nI 0))) (fun (u : Unit) => []) := by
  refine CtI.mk (cc := cX4_isDepth) (maxL := 1) (by decide) rfl (Nat.le_of_ble_eq_true rfl) ?_
  intro zp ze zs zm za zb zt zc zA zQ ls hC hw hl hret
  replace hC : CallFix zp zm zc cX4_isDepth 1 zs za wsX4_isDepth RX4 := hC
  replace hl : lv_has ls 1 [(0, .int (x))] := hl
  refine lv_iload_n hC.1 hC.2.1 dX4_isDepth_0 rfl (lv_at hl 0 rfl) ?_
  refine lv_if_lt (tgt := 14) hC.1 hC.2.1 dX4_isDepth_1 (by decide) (fun c_1 => ?_) (fun c_1 => ?_)
  · skip
    refine lv_iconst (v := nI 0) hC.1 hC.2.1 dX4_isDepth_14 (by decide) ?_
    exact hret _ _ _ ls (nI (0)) () dX4_isDepth_15 (by first | rfl | decide) ⟨fun h9 => by first | rfl | (exfalso; simp_all [in_c (x := x) (n := 21) (by decide) (by decide)]), fun h9 => by first | rfl | (exfalso; simp_all [in_c (x := x) (n := 21) (by decide) (by decide)])⟩ hw
  · skip
    refine lv_iload_n hC.1 hC.2.1 dX4_isDepth_4 rfl (lv_at hl 0 rfl) ?_
    refine lv_bipush (v := nI 20) hC.1 hC.2.1 dX4_isDepth_5 (by decide) ?_
    refine lv_icmp_gt (tgt := 14) hC.1 hC.2.1 dX4_isDepth_7 (by decide) (fun c_7 => ?_) (fun c_7 => ?_)
    · skip
      refine lv_iconst (v := nI 0) hC.1 hC.2.1 dX4_isDepth_14 (by decide) ?_
      exact hret _ _ _ ls (nI (0)) () dX4_isDepth_15 (by first | rfl | decide) ⟨fun h9 => by first | rfl | (exfalso; simp_all [in_c (x := x) (n := 21) (by decide) (by decide)]), fun h9 => by first | rfl | (exfalso; simp_all [in_c (x := x) (n := 21) (by decide) (by decide)])⟩ hw
    · skip
      refine lv_iconst (v := nI 1) hC.1 hC.2.1 dX4_isDepth_10 (by decide) ?_
      refine lv_goto (tgt := 15) hC.1 hC.2.1 dX4_isDepth_11 (by decide) ?_
      exact hret _ _ _ ls (nI (1)) () dX4_isDepth_15 (by first | rfl | decide) ⟨fun h9 => by first | rfl | (exfalso; simp_all [in_c (x := x) (n := 21) (by decide) (by decide)]), fun h9 => by first | rfl | (exfalso; simp_all [in_c (x := x) (n := 21) (by decide) (by decide)])⟩ hw

set_option maxHeartbeats 4000000 in
set_option maxRecDepth 100000 in
theorem c_X4_isLane (l : Launch) (dC : Nat → ClassId) (dI : Nat → Nat → Nat) (cyI cyJ cyZ cyS : ClassId) (ad : Nat → Nat) (x : Int32) : CtI l yX4_isLane wsX4_isLane ({ frames := 0, cells := 0, slots := 0, locals := 0 } : Room) dC dI (tysA cyI cyJ cyZ cyS) [.int (x)] [] (S := Unit) (fun (r : Int32) (u : Unit) => (((vp_in x 3) → r = nI 1) ∧ (¬ (vp_in x 3) → r = nI 0))) (fun (u : Unit) => []) := by
  refine CtI.mk (cc := cX4_isLane) (maxL := 1) (by decide) rfl (Nat.le_of_ble_eq_true rfl) ?_
  intro zp ze zs zm za zb zt zc zA zQ ls hC hw hl hret
  replace hC : CallFix zp zm zc cX4_isLane 1 zs za wsX4_isLane RX4 := hC
  replace hl : lv_has ls 1 [(0, .int (x))] := hl
  refine lv_iload_n hC.1 hC.2.1 dX4_isLane_0 rfl (lv_at hl 0 rfl) ?_
  refine lv_if_lt (tgt := 13) hC.1 hC.2.1 dX4_isLane_1 (by decide) (fun c_1 => ?_) (fun c_1 => ?_)
  · skip
    refine lv_iconst (v := nI 0) hC.1 hC.2.1 dX4_isLane_13 (by decide) ?_
    exact hret _ _ _ ls (nI (0)) () dX4_isLane_14 (by first | rfl | decide) ⟨fun h9 => by first | rfl | (exfalso; simp_all [in_c (x := x) (n := 3) (by decide) (by decide)]), fun h9 => by first | rfl | (exfalso; simp_all [in_c (x := x) (n := 3) (by decide) (by decide)])⟩ hw
  · skip
    refine lv_iload_n hC.1 hC.2.1 dX4_isLane_4 rfl (lv_at hl 0 rfl) ?_
    refine lv_iconst (v := nI 2) hC.1 hC.2.1 dX4_isLane_5 (by decide) ?_
    refine lv_icmp_gt (tgt := 13) hC.1 hC.2.1 dX4_isLane_6 (by decide) (fun c_6 => ?_) (fun c_6 => ?_)
    · skip
      refine lv_iconst (v := nI 0) hC.1 hC.2.1 dX4_isLane_13 (by decide) ?_
      exact hret _ _ _ ls (nI (0)) () dX4_isLane_14 (by first | rfl | decide) ⟨fun h9 => by first | rfl | (exfalso; simp_all [in_c (x := x) (n := 3) (by decide) (by decide)]), fun h9 => by first | rfl | (exfalso; simp_all [in_c (x := x) (n := 3) (by decide) (by decide)])⟩ hw
    · skip
      refine lv_iconst (v := nI 1) hC.1 hC.2.1 dX4_isLane_9 (by decide) ?_
      refine lv_goto (tgt := 14) hC.1 hC.2.1 dX4_isLane_10 (by decide) ?_
      exact hret _ _ _ ls (nI (1)) () dX4_isLane_14 (by first | rfl | decide) ⟨fun h9 => by first | rfl | (exfalso; simp_all [in_c (x := x) (n := 3) (by decide) (by decide)]), fun h9 => by first | rfl | (exfalso; simp_all [in_c (x := x) (n := 3) (by decide) (by decide)])⟩ hw

set_option maxHeartbeats 4000000 in
set_option maxRecDepth 100000 in
theorem c_X1_has (l : Launch) (dC : Nat → ClassId) (dI : Nat → Nat → Nat) (cyI cyJ cyZ cyS : ClassId) (ad : Nat → Nat) (n : Nat) (L : Int32) (mk pt ac : Nat → Nat) (far : Nat → Int32) (re tr : Nat → Nat) (hn : n ≤ 12) (x : Int32) : CtI l yX1_has wsX1_has ({ frames := 0, cells := 0, slots := 0, locals := 0 } : Room) dC dI (tysA cyI cyJ cyZ cyS) [.ref ((ad 1)), .int (x)] [((ad 1), .inr (1, [.int (nI (n)), .int (L), .ref ((ad 2)), .ref ((ad 3)), .ref ((ad 4)), .ref ((ad 5)), .ref ((ad 6)), .ref ((ad 7))])), ((ad 2), .inl (cyI, 12, .inl (fun zj => nI (mk zj)))), ((ad 3), .inl (cyI, 12, .inl (fun zj => nI (pt zj)))), ((ad 4), .inl (cyI, 72, .inl (fun zj => nI (ac zj)))), ((ad 5), .inl (cyI, 12, .inl far)), ((ad 6), .inl (cyI, 12, .inl (fun zj => nI (re zj)))), ((ad 7), .inl (cyI, 12, .inl (fun zj => nI (tr zj))))] (S := Unit) (fun (r : Int32) (u : Unit) => (((vp_in x n) → r = nI 1) ∧ (¬ (vp_in x n) → r = nI 0))) (fun (u : Unit) => [((ad 1), .inr (1, [.int (nI (n)), .int (L), .ref ((ad 2)), .ref ((ad 3)), .ref ((ad 4)), .ref ((ad 5)), .ref ((ad 6)), .ref ((ad 7))])), ((ad 2), .inl (cyI, 12, .inl (fun zj => nI (mk zj)))), ((ad 3), .inl (cyI, 12, .inl (fun zj => nI (pt zj)))), ((ad 4), .inl (cyI, 72, .inl (fun zj => nI (ac zj)))), ((ad 5), .inl (cyI, 12, .inl far)), ((ad 6), .inl (cyI, 12, .inl (fun zj => nI (re zj)))), ((ad 7), .inl (cyI, 12, .inl (fun zj => nI (tr zj))))]) := by
  refine CtI.mk (cc := cX1_has) (maxL := 2) (by decide) rfl (Nat.le_of_ble_eq_true rfl) ?_
  intro zp ze zs zm za zb zt zc zA zQ ls hC hw hl hret
  replace hC : CallFix zp zm zc cX1_has 2 zs za wsX1_has RX1 := hC
  replace hl : lv_has ls 2 [(0, .ref ((ad 1))), (1, .int (x))] := hl
  have hin1 : ∀ w ∈ u_ws RX1 TX1 8, w ∈ wsX1_has := by decide +kernel
  have lk30 : Cond.fieldLink RX1 30 (TX1 0).1 (TX1 0).2.1 (TX1 0).2.2.1 ∈ wsX1_has := by decide +kernel
  refine lv_iload_n hC.1 hC.2.1 dX1_has_0 rfl (lv_at hl 1 rfl) ?_
  refine lv_if_lt (tgt := 16) hC.1 hC.2.1 dX1_has_1 (by decide) (fun c_1 => ?_) (fun c_1 => ?_)
  · skip
    refine lv_iconst (v := nI 0) hC.1 hC.2.1 dX1_has_16 (by decide) ?_
    exact hret _ _ _ ls (nI (0)) () dX1_has_17 (by first | rfl | decide) ⟨fun h9 => by first | rfl | (exfalso; simp_all [in_ge (x := x) (n := n) (by omega)]), fun h9 => by first | rfl | (exfalso; simp_all [in_ge (x := x) (n := n) (by omega)])⟩ hw
  · skip
    refine lv_iload_n hC.1 hC.2.1 dX1_has_4 rfl (lv_at hl 1 rfl) ?_
    refine lv_aload_n hC.1 hC.2.1 dX1_has_5 rfl (lv_at hl 0 rfl) ?_
    refine g_get hC hw hin1 0 rfl rfl 0 (by decide) lk30 rfl dX1_has_6 ?_
    refine lv_icmp_ge (tgt := 16) hC.1 hC.2.1 dX1_has_9 (by decide) (fun c_9 => ?_) (fun c_9 => ?_)
    · skip
      refine lv_iconst (v := nI 0) hC.1 hC.2.1 dX1_has_16 (by decide) ?_
      exact hret _ _ _ ls (nI (0)) () dX1_has_17 (by first | rfl | decide) ⟨fun h9 => by first | rfl | (exfalso; simp_all [in_ge (x := x) (n := n) (by omega)]), fun h9 => by first | rfl | (exfalso; simp_all [in_ge (x := x) (n := n) (by omega)])⟩ hw
    · skip
      refine lv_iconst (v := nI 1) hC.1 hC.2.1 dX1_has_12 (by decide) ?_
      refine lv_goto (tgt := 17) hC.1 hC.2.1 dX1_has_13 (by decide) ?_
      exact hret _ _ _ ls (nI (1)) () dX1_has_17 (by first | rfl | decide) ⟨fun h9 => by first | rfl | (exfalso; simp_all [in_ge (x := x) (n := n) (by omega)]), fun h9 => by first | rfl | (exfalso; simp_all [in_ge (x := x) (n := n) (by omega)])⟩ hw

set_option maxHeartbeats 4000000 in
set_option maxRecDepth 100000 in
theorem c_X1_removeAll (l : Launch) (dC : Nat → ClassId) (dI : Nat → Nat → Nat) (cyI cyJ cyZ cyS : ClassId) (ad : Nat → Nat) (n : Nat) (L : Int32) (mk pt ac : Nat → Nat) (far : Nat → Int32) (re tr : Nat → Nat) : CtV l yX1_removeAll wsX1_removeAll ({ frames := 0, cells := 0, slots := 0, locals := 0 } : Room) dC dI (tysA cyI cyJ cyZ cyS) [.ref ((ad 1))] [((ad 1), .inr (1, [.int (nI (n)), .int (L), .ref ((ad 2)), .ref ((ad 3)), .ref ((ad 4)), .ref ((ad 5)), .ref ((ad 6)), .ref ((ad 7))])), ((ad 2), .inl (cyI, 12, .inl (fun zj => nI (mk zj)))), ((ad 3), .inl (cyI, 12, .inl (fun zj => nI (pt zj)))), ((ad 4), .inl (cyI, 72, .inl (fun zj => nI (ac zj)))), ((ad 5), .inl (cyI, 12, .inl far)), ((ad 6), .inl (cyI, 12, .inl (fun zj => nI (re zj)))), ((ad 7), .inl (cyI, 12, .inl (fun zj => nI (tr zj))))] (S := Unit) (fun (u : Unit) => True) (fun (u : Unit) => [((ad 1), .inr (1, [.int (nI (0)), .int (nI 0), .ref ((ad 2)), .ref ((ad 3)), .ref ((ad 4)), .ref ((ad 5)), .ref ((ad 6)), .ref ((ad 7))])), ((ad 2), .inl (cyI, 12, .inl (fun zj => nI (mk zj)))), ((ad 3), .inl (cyI, 12, .inl (fun zj => nI (pt zj)))), ((ad 4), .inl (cyI, 72, .inl (fun zj => nI (ac zj)))), ((ad 5), .inl (cyI, 12, .inl far)), ((ad 6), .inl (cyI, 12, .inl (fun zj => nI (re zj)))), ((ad 7), .inl (cyI, 12, .inl (fun zj => nI (tr zj))))]) := by
  refine CtV.mk (cc := cX1_removeAll) (maxL := 1) (by decide) rfl (Nat.le_of_ble_eq_true rfl) ?_
  intro zp ze zs zm za zb zt zc zA zQ ls hC hw hl hret
  replace hC : CallFix zp zm zc cX1_removeAll 1 zs za wsX1_removeAll RX1 := hC
  replace hl : lv_has ls 1 [(0, .ref ((ad 1)))] := hl
  have hin1 : ∀ w ∈ u_ws RX1 TX1 8, w ∈ wsX1_removeAll := by decide +kernel
  have lk30 : Cond.fieldLink RX1 30 (TX1 0).1 (TX1 0).2.1 (TX1 0).2.2.1 ∈ wsX1_removeAll := by decide +kernel
  have lk38 : Cond.fieldLink RX1 38 (TX1 1).1 (TX1 1).2.1 (TX1 1).2.2.1 ∈ wsX1_removeAll := by decide +kernel
  refine lv_aload_n hC.1 hC.2.1 dX1_removeAll_0 rfl (lv_at hl 0 rfl) ?_
  refine lv_iconst (v := nI 0) hC.1 hC.2.1 dX1_removeAll_1 (by decide) ?_
  refine g_put hC hw hin1 tyX1 tyX1_ok nmX1 0 rfl rfl 0 (by decide) lk30 rfl rfl (by first | rfl | decide) (Nat.le_of_ble_eq_true rfl) dX1_removeAll_2 (fun H locs hw => ?_)
  replace hw : Wd dC dI (tysA cyI cyJ cyZ cyS) [((ad 1), .inr (1, [.int (nI (0)), .int (L), .ref ((ad 2)), .ref ((ad 3)), .ref ((ad 4)), .ref ((ad 5)), .ref ((ad 6)), .ref ((ad 7))])), ((ad 2), .inl (cyI, 12, .inl (fun zj => nI (mk zj)))), ((ad 3), .inl (cyI, 12, .inl (fun zj => nI (pt zj)))), ((ad 4), .inl (cyI, 72, .inl (fun zj => nI (ac zj)))), ((ad 5), .inl (cyI, 12, .inl far)), ((ad 6), .inl (cyI, 12, .inl (fun zj => nI (re zj)))), ((ad 7), .inl (cyI, 12, .inl (fun zj => nI (tr zj))))] zA zs H locs := hw
  refine lv_aload_n hC.1 hC.2.1 dX1_removeAll_5 rfl (lv_at hl 0 rfl) ?_
  refine lv_iconst (v := nI 0) hC.1 hC.2.1 dX1_removeAll_6 (by decide) ?_
  refine g_put hC hw hin1 tyX1 tyX1_ok nmX1 0 rfl rfl 1 (by decide) lk38 rfl rfl (by first | rfl | decide) (Nat.le_of_ble_eq_true rfl) dX1_removeAll_7 (fun H locs hw => ?_)
  replace hw : Wd dC dI (tysA cyI cyJ cyZ cyS) [((ad 1), .inr (1, [.int (nI (0)), .int (nI (0)), .ref ((ad 2)), .ref ((ad 3)), .ref ((ad 4)), .ref ((ad 5)), .ref ((ad 6)), .ref ((ad 7))])), ((ad 2), .inl (cyI, 12, .inl (fun zj => nI (mk zj)))), ((ad 3), .inl (cyI, 12, .inl (fun zj => nI (pt zj)))), ((ad 4), .inl (cyI, 72, .inl (fun zj => nI (ac zj)))), ((ad 5), .inl (cyI, 12, .inl far)), ((ad 6), .inl (cyI, 12, .inl (fun zj => nI (re zj)))), ((ad 7), .inl (cyI, 12, .inl (fun zj => nI (tr zj))))] zA zs H locs := hw
  exact hret _ _ _ ls  () dX1_removeAll_10 trivial hw

set_option maxHeartbeats 4000000 in
set_option maxRecDepth 100000 in
theorem c_X1_tie (l : Launch) (dC : Nat → ClassId) (dI : Nat → Nat → Nat) (cyI cyJ cyZ cyS : ClassId) (ad : Nat → Nat) (n : Nat) (L : Int32) (mk pt ac : Nat → Nat) (far : Nat → Int32) (re tr : Nat → Nat) (s1 s2 : Nat) (h1 : s1 < 72) (h2 : s2 < 72) : CtV l yX1_tie wsX1_tie ({ frames := 0, cells := 0, slots := 0, locals := 0 } : Room) dC dI (tysA cyI cyJ cyZ cyS) [.ref ((ad 1)), .int (nI (s1)), .int (nI (s2))] [((ad 1), .inr (1, [.int (nI (n)), .int (L), .ref ((ad 2)), .ref ((ad 3)), .ref ((ad 4)), .ref ((ad 5)), .ref ((ad 6)), .ref ((ad 7))])), ((ad 2), .inl (cyI, 12, .inl (fun zj => nI (mk zj)))), ((ad 3), .inl (cyI, 12, .inl (fun zj => nI (pt zj)))), ((ad 4), .inl (cyI, 72, .inl (fun zj => nI (ac zj)))), ((ad 5), .inl (cyI, 12, .inl far)), ((ad 6), .inl (cyI, 12, .inl (fun zj => nI (re zj)))), ((ad 7), .inl (cyI, 12, .inl (fun zj => nI (tr zj))))] (S := Unit) (fun (u : Unit) => True) (fun (u : Unit) => [((ad 1), .inr (1, [.int (nI (n)), .int (L), .ref ((ad 2)), .ref ((ad 3)), .ref ((ad 4)), .ref ((ad 5)), .ref ((ad 6)), .ref ((ad 7))])), ((ad 2), .inl (cyI, 12, .inl (fun zj => nI (mk zj)))), ((ad 3), .inl (cyI, 12, .inl (fun zj => nI (pt zj)))), ((ad 4), .inl (cyI, 72, .inl (fun zj => nI ((va_up (va_up ac s1 s2) s2 s1) zj)))), ((ad 5), .inl (cyI, 12, .inl far)), ((ad 6), .inl (cyI, 12, .inl (fun zj => nI (re zj)))), ((ad 7), .inl (cyI, 12, .inl (fun zj => nI (tr zj))))]) := by
  refine CtV.mk (cc := cX1_tie) (maxL := 3) (by decide) rfl (Nat.le_of_ble_eq_true rfl) ?_
  intro zp ze zs zm za zb zt zc zA zQ ls hC hw hl hret
  replace hC : CallFix zp zm zc cX1_tie 3 zs za wsX1_tie RX1 := hC
  replace hl : lv_has ls 3 [(0, .ref ((ad 1))), (1, .int (nI (s1))), (2, .int (nI (s2)))] := hl
  have hin1 : ∀ w ∈ u_ws RX1 TX1 8, w ∈ wsX1_tie := by decide +kernel
  have lk18 : Cond.fieldLink RX1 18 (TX1 4).1 (TX1 4).2.1 (TX1 4).2.2.1 ∈ wsX1_tie := by decide +kernel
  refine lv_aload_n hC.1 hC.2.1 dX1_tie_0 rfl (lv_at hl 0 rfl) ?_
  refine g_get hC hw hin1 0 rfl rfl 4 (by decide) lk18 rfl dX1_tie_1 ?_
  refine lv_iload_n hC.1 hC.2.1 dX1_tie_4 rfl (lv_at hl 1 rfl) ?_
  refine lv_iload_n hC.1 hC.2.1 dX1_tie_5 rfl (lv_at hl 2 rfl) ?_
  refine g_iastN hC hw 3 0 rfl rfl (by omega) (by first | decide | omega) dX1_tie_6 (fun H locs hw => ?_)
  replace hw : Wd dC dI (tysA cyI cyJ cyZ cyS) [((ad 1), .inr (1, [.int (nI (n)), .int (L), .ref ((ad 2)), .ref ((ad 3)), .ref ((ad 4)), .ref ((ad 5)), .ref ((ad 6)), .ref ((ad 7))])), ((ad 2), .inl (cyI, 12, .inl (fun zj => nI (mk zj)))), ((ad 3), .inl (cyI, 12, .inl (fun zj => nI (pt zj)))), ((ad 4), .inl (cyI, 72, .inl (fun zj => nI ((va_up ac s1 s2) zj)))), ((ad 5), .inl (cyI, 12, .inl far)), ((ad 6), .inl (cyI, 12, .inl (fun zj => nI (re zj)))), ((ad 7), .inl (cyI, 12, .inl (fun zj => nI (tr zj))))] zA zs H locs := hw
  refine lv_aload_n hC.1 hC.2.1 dX1_tie_7 rfl (lv_at hl 0 rfl) ?_
  refine g_get hC hw hin1 0 rfl rfl 4 (by decide) lk18 rfl dX1_tie_8 ?_
  refine lv_iload_n hC.1 hC.2.1 dX1_tie_11 rfl (lv_at hl 2 rfl) ?_
  refine lv_iload_n hC.1 hC.2.1 dX1_tie_12 rfl (lv_at hl 1 rfl) ?_
  refine g_iastN hC hw 3 0 rfl rfl (by omega) (by first | decide | omega) dX1_tie_13 (fun H locs hw => ?_)
  replace hw : Wd dC dI (tysA cyI cyJ cyZ cyS) [((ad 1), .inr (1, [.int (nI (n)), .int (L), .ref ((ad 2)), .ref ((ad 3)), .ref ((ad 4)), .ref ((ad 5)), .ref ((ad 6)), .ref ((ad 7))])), ((ad 2), .inl (cyI, 12, .inl (fun zj => nI (mk zj)))), ((ad 3), .inl (cyI, 12, .inl (fun zj => nI (pt zj)))), ((ad 4), .inl (cyI, 72, .inl (fun zj => nI ((va_up (va_up ac s1 s2) s2 s1) zj)))), ((ad 5), .inl (cyI, 12, .inl far)), ((ad 6), .inl (cyI, 12, .inl (fun zj => nI (re zj)))), ((ad 7), .inl (cyI, 12, .inl (fun zj => nI (tr zj))))] zA zs H locs := hw
  exact hret _ _ _ ls  () dX1_tie_14 trivial hw

set_option maxHeartbeats 4000000 in
set_option maxRecDepth 100000 in
theorem c_X1_addPost (l : Launch) (dC : Nat → ClassId) (dI : Nat → Nat → Nat) (cyI cyJ cyZ cyS : ClassId) (ad : Nat → Nat) (n : Nat) (L : Int32) (mk pt ac : Nat → Nat) (far : Nat → Int32) (re tr : Nat → Nat) (k : Nat) (hn : n < 12) : CtI l yX1_addPost wsX1_addPost ({ frames := 0, cells := 0, slots := 0, locals := 0 } : Room) dC dI (tysA cyI cyJ cyZ cyS) [.ref ((ad 1)), .int (nI (k))] [((ad 1), .inr (1, [.int (nI (n)), .int (L), .ref ((ad 2)), .ref ((ad 3)), .ref ((ad 4)), .ref ((ad 5)), .ref ((ad 6)), .ref ((ad 7))])), ((ad 2), .inl (cyI, 12, .inl (fun zj => nI (mk zj)))), ((ad 3), .inl (cyI, 12, .inl (fun zj => nI (pt zj)))), ((ad 4), .inl (cyI, 72, .inl (fun zj => nI (ac zj)))), ((ad 5), .inl (cyI, 12, .inl far)), ((ad 6), .inl (cyI, 12, .inl (fun zj => nI (re zj)))), ((ad 7), .inl (cyI, 12, .inl (fun zj => nI (tr zj))))] (S := Unit) (fun (r : Int32) (u : Unit) => (r = nI (n))) (fun (u : Unit) => [((ad 1), .inr (1, [.int (nI (n + 1)), .int (L), .ref ((ad 2)), .ref ((ad 3)), .ref ((ad 4)), .ref ((ad 5)), .ref ((ad 6)), .ref ((ad 7))])), ((ad 2), .inl (cyI, 12, .inl (fun zj => nI ((va_up mk n k) zj)))), ((ad 3), .inl (cyI, 12, .inl (fun zj => nI ((va_up pt n 0) zj)))), ((ad 4), .inl (cyI, 72, .inl (fun zj => nI (ac zj)))), ((ad 5), .inl (cyI, 12, .inl far)), ((ad 6), .inl (cyI, 12, .inl (fun zj => nI (re zj)))), ((ad 7), .inl (cyI, 12, .inl (fun zj => nI (tr zj))))]) := by
  refine CtI.mk (cc := cX1_addPost) (maxL := 3) (by decide) rfl (Nat.le_of_ble_eq_true rfl) ?_
  intro zp ze zs zm za zb zt zc zA zQ ls hC hw hl hret
  replace hC : CallFix zp zm zc cX1_addPost 3 zs za wsX1_addPost RX1 := hC
  replace hl : lv_has ls 3 [(0, .ref ((ad 1))), (1, .int (nI (k)))] := hl
  have hin1 : ∀ w ∈ u_ws RX1 TX1 8, w ∈ wsX1_addPost := by decide +kernel
  have lk9 : Cond.fieldLink RX1 9 (TX1 2).1 (TX1 2).2.1 (TX1 2).2.2.1 ∈ wsX1_addPost := by decide +kernel
  have lk15 : Cond.fieldLink RX1 15 (TX1 3).1 (TX1 3).2.1 (TX1 3).2.2.1 ∈ wsX1_addPost := by decide +kernel
  have lk30 : Cond.fieldLink RX1 30 (TX1 0).1 (TX1 0).2.1 (TX1 0).2.2.1 ∈ wsX1_addPost := by decide +kernel
  refine lv_aload_n hC.1 hC.2.1 dX1_addPost_0 rfl (lv_at hl 0 rfl) ?_
  refine g_get hC hw hin1 0 rfl rfl 0 (by decide) lk30 rfl dX1_addPost_1 ?_
  refine lv_istore_n (lv' := [(2, .int (nI (n))), (0, .ref ((ad 1))), (1, .int (nI (k)))]) hC.1 hC.2.1 dX1_addPost_4 rfl hl (by decide) rfl (fun ls hl => ?_)
  refine lv_aload_n hC.1 hC.2.1 dX1_addPost_5 rfl (lv_at hl 1 rfl) ?_
  refine g_get hC hw hin1 0 rfl rfl 2 (by decide) lk9 rfl dX1_addPost_6 ?_
  refine lv_iload_n hC.1 hC.2.1 dX1_addPost_9 rfl (lv_at hl 0 rfl) ?_
  refine lv_iload_n hC.1 hC.2.1 dX1_addPost_10 rfl (lv_at hl 2 rfl) ?_
  refine g_iastN hC hw 1 0 rfl rfl (by omega) (by first | decide | omega) dX1_addPost_11 (fun H locs hw => ?_)
  replace hw : Wd dC dI (tysA cyI cyJ cyZ cyS) [((ad 1), .inr (1, [.int (nI (n)), .int (L), .ref ((ad 2)), .ref ((ad 3)), .ref ((ad 4)), .ref ((ad 5)), .ref ((ad 6)), .ref ((ad 7))])), ((ad 2), .inl (cyI, 12, .inl (fun zj => nI ((va_up mk n k) zj)))), ((ad 3), .inl (cyI, 12, .inl (fun zj => nI (pt zj)))), ((ad 4), .inl (cyI, 72, .inl (fun zj => nI (ac zj)))), ((ad 5), .inl (cyI, 12, .inl far)), ((ad 6), .inl (cyI, 12, .inl (fun zj => nI (re zj)))), ((ad 7), .inl (cyI, 12, .inl (fun zj => nI (tr zj))))] zA zs H locs := hw
  refine lv_aload_n hC.1 hC.2.1 dX1_addPost_12 rfl (lv_at hl 1 rfl) ?_
  refine g_get hC hw hin1 0 rfl rfl 3 (by decide) lk15 rfl dX1_addPost_13 ?_
  refine lv_iload_n hC.1 hC.2.1 dX1_addPost_16 rfl (lv_at hl 0 rfl) ?_
  refine lv_iconst (v := nI 0) hC.1 hC.2.1 dX1_addPost_17 (by decide) ?_
  refine g_iastN hC hw 2 0 rfl rfl (by omega) (by first | decide | omega) dX1_addPost_18 (fun H locs hw => ?_)
  replace hw : Wd dC dI (tysA cyI cyJ cyZ cyS) [((ad 1), .inr (1, [.int (nI (n)), .int (L), .ref ((ad 2)), .ref ((ad 3)), .ref ((ad 4)), .ref ((ad 5)), .ref ((ad 6)), .ref ((ad 7))])), ((ad 2), .inl (cyI, 12, .inl (fun zj => nI ((va_up mk n k) zj)))), ((ad 3), .inl (cyI, 12, .inl (fun zj => nI ((va_up pt n 0) zj)))), ((ad 4), .inl (cyI, 72, .inl (fun zj => nI (ac zj)))), ((ad 5), .inl (cyI, 12, .inl far)), ((ad 6), .inl (cyI, 12, .inl (fun zj => nI (re zj)))), ((ad 7), .inl (cyI, 12, .inl (fun zj => nI (tr zj))))] zA zs H locs := hw
  refine lv_aload_n hC.1 hC.2.1 dX1_addPost_19 rfl (lv_at hl 1 rfl) ?_
  refine lv_dup hC.1 hC.2.1 dX1_addPost_20 rfl ?_
  refine g_get hC hw hin1 0 rfl rfl 0 (by decide) lk30 rfl dX1_addPost_21 ?_
  refine lv_iconst (v := nI 1) hC.1 hC.2.1 dX1_addPost_24 (by decide) ?_
  refine n_iadd hC dX1_addPost_25 ?_
  refine g_put hC hw hin1 tyX1 tyX1_ok nmX1 0 rfl rfl 0 (by decide) lk30 rfl rfl (by first | rfl | decide) (Nat.le_of_ble_eq_true rfl) dX1_addPost_26 (fun H locs hw => ?_)
  replace hw : Wd dC dI (tysA cyI cyJ cyZ cyS) [((ad 1), .inr (1, [.int (nI (n + 1)), .int (L), .ref ((ad 2)), .ref ((ad 3)), .ref ((ad 4)), .ref ((ad 5)), .ref ((ad 6)), .ref ((ad 7))])), ((ad 2), .inl (cyI, 12, .inl (fun zj => nI ((va_up mk n k) zj)))), ((ad 3), .inl (cyI, 12, .inl (fun zj => nI ((va_up pt n 0) zj)))), ((ad 4), .inl (cyI, 72, .inl (fun zj => nI (ac zj)))), ((ad 5), .inl (cyI, 12, .inl far)), ((ad 6), .inl (cyI, 12, .inl (fun zj => nI (re zj)))), ((ad 7), .inl (cyI, 12, .inl (fun zj => nI (tr zj))))] zA zs H locs := hw
  refine lv_iload_n hC.1 hC.2.1 dX1_addPost_29 rfl (lv_at hl 0 rfl) ?_
  exact hret _ _ _ ls (nI (n)) () dX1_addPost_30 rfl rfl hw
