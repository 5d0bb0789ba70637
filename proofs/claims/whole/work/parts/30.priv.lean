set_option maxHeartbeats 4000000 in
set_option maxRecDepth 100000 in
theorem c_X3_renew (l : Launch) (dC : Nat → ClassId) (dI : Nat → Nat → Nat) (cyI cyJ cyZ cyS : ClassId) (ad : Nat → Nat) (sA cA th ln sz : Nat) (cl : Nat → Int32) (a b : Nat) : CtV l yX3_renew wsX3_renew ({ frames := 1, cells := 0, slots := 0, locals := 23 } : Room) dC dI (tysA cyI cyJ cyZ cyS) [.ref (sA), .int (nI (a)), .int (nI (b))] [(sA, .inr (3, [.int (nI (th)), .int (nI (ln)), .int (nI (sz)), .ref (cA)])), (cA, .inl (cyI, 60, .inl cl))] (S := Unit) (fun (u : Unit) => True) (fun (u : Unit) => [(sA, .inr (3, [.int (nI (1)), .int (nI (a)), .int (nI (b)), .ref (cA)])), (cA, .inl (cyI, 60, .inl (flI cl (nI 0) 60)))]) := by
  refine CtV.mk (cc := cX3_renew) (maxL := 3) (by decide) rfl (Nat.le_of_ble_eq_true rfl) ?_
  intro zp ze zs zm za zb zt zc zA zQ ls hC hw hl hret
  replace hC : CallFix zp zm zc cX3_renew 3 zs za wsX3_renew RX3 := hC
  replace hl : lv_has ls 3 [(0, .ref (sA)), (1, .int (nI (a))), (2, .int (nI (b)))] := hl
  have hin3 : ∀ w ∈ u_ws RX3 TX3 4, w ∈ wsX3_renew := by decide +kernel
  have lk9 : Cond.fieldLink RX3 9 (TX3 3).1 (TX3 3).2.1 (TX3 3).2.2.1 ∈ wsX3_renew := by decide +kernel
  have lk15 : Cond.fieldLink RX3 15 (TX3 0).1 (TX3 0).2.1 (TX3 0).2.2.1 ∈ wsX3_renew := by decide +kernel
  have lk19 : Cond.fieldLink RX3 19 (TX3 1).1 (TX3 1).2.1 (TX3 1).2.2.1 ∈ wsX3_renew := by decide +kernel
  have lk23 : Cond.fieldLink RX3 23 (TX3 2).1 (TX3 2).2.1 (TX3 2).2.2.1 ∈ wsX3_renew := by decide +kernel
  refine lv_aload_n hC.1 hC.2.1 dX3_renew_0 rfl (lv_at hl 0 rfl) ?_
  refine lv_iconst (v := nI 1) hC.1 hC.2.1 dX3_renew_1 (by decide) ?_
  refine g_put hC hw hin3 tyX3 tyX3_ok nmX3 0 rfl rfl 0 (by decide) lk15 rfl (by first | rfl | decide) (by first | rfl | decide) (Nat.le_of_ble_eq_true rfl) dX3_renew_2 (fun H locs hw => ?_)
  replace hw : Wd dC dI (tysA cyI cyJ cyZ cyS) [(sA, .inr (3, [.int (nI (1)), .int (nI (ln)), .int (nI (sz)), .ref (cA)])), (cA, .inl (cyI, 60, .inl cl))] zA zs H locs := hw
  refine lv_aload_n hC.1 hC.2.1 dX3_renew_5 rfl (lv_at hl 0 rfl) ?_
  refine lv_iload_n hC.1 hC.2.1 dX3_renew_6 rfl (lv_at hl 1 rfl) ?_
  refine g_put hC hw hin3 tyX3 tyX3_ok nmX3 0 rfl rfl 1 (by decide) lk19 rfl rfl (by first | rfl | decide) (Nat.le_of_ble_eq_true rfl) dX3_renew_7 (fun H locs hw => ?_)
  replace hw : Wd dC dI (tysA cyI cyJ cyZ cyS) [(sA, .inr (3, [.int (nI (1)), .int (nI (a)), .int (nI (sz)), .ref (cA)])), (cA, .inl (cyI, 60, .inl cl))] zA zs H locs := hw
  refine lv_aload_n hC.1 hC.2.1 dX3_renew_10 rfl (lv_at hl 0 rfl) ?_
  refine lv_iload_n hC.1 hC.2.1 dX3_renew_11 rfl (lv_at hl 2 rfl) ?_
  refine g_put hC hw hin3 tyX3 tyX3_ok nmX3 0 rfl rfl 2 (by decide) lk23 rfl rfl (by first | rfl | decide) (Nat.le_of_ble_eq_true rfl) dX3_renew_12 (fun H locs hw => ?_)
  replace hw : Wd dC dI (tysA cyI cyJ cyZ cyS) [(sA, .inr (3, [.int (nI (1)), .int (nI (a)), .int (nI (b)), .ref (cA)])), (cA, .inl (cyI, 60, .inl cl))] zA zs H locs := hw
  refine lv_aload_n hC.1 hC.2.1 dX3_renew_15 rfl (lv_at hl 0 rfl) ?_
  refine g_get hC hw hin3 0 rfl rfl 3 (by decide) lk9 rfl dX3_renew_16 ?_
  refine lv_iconst (v := nI 0) hC.1 hC.2.1 dX3_renew_19 (by decide) ?_
  refine W.ccV (wc := [(cA, .inl (cyI, 60, .inl cl))]) (wr := [(sA, .inr (3, [.int (nI (1)), .int (nI (a)), .int (nI (b)), .ref (cA)]))]) (ws1 := fun (u : Unit) => [(cA, .inl (cyI, 60, .inl (flI cl (nI (0)) 60)))]) (ws2 := fun (u : Unit) => [(sA, .inr (3, [.int (nI (1)), .int (nI (a)), .int (nI (b)), .ref (cA)])), (cA, .inl (cyI, 60, .inl (flI cl (nI (0)) 60)))]) hw [1] [0] [0, 1] rfl rfl (by decide) (by decide) (by decide) (fun _ => rfl) (Wd.runS (wc := [(cA, .inl (cyI, 60, .inl cl))]) (rest := []) (As := [.ref (cA), .int (nI (0))]) hC hw [1] rfl (by decide) (va_cwS 2 hC.2.2.2.2 gX3_renew_J7_fill_53178 rfl rfl rfl (by decide +kernel) ⟨Nat.le_of_ble_eq_true rfl, Nat.le_of_ble_eq_true rfl⟩) (c_fillI l dC dI cyI cyJ cyZ cyS ad cA 60 cl (nI (0)) (by first | assumption | omega) _) rfl hl.1 rfl (Nat.le_of_ble_eq_true rfl) dX3_renew_20 ⟨Nat.zero_le _, Nat.zero_le _⟩) (fun u H locs hr_20 hw => ?_)
  replace hw : Wd dC dI (tysA cyI cyJ cyZ cyS) [(sA, .inr (3, [.int (nI (1)), .int (nI (a)), .int (nI (b)), .ref (cA)])), (cA, .inl (cyI, 60, .inl (flI cl (nI (0)) 60)))] zA zs H locs := hw
  exact hret _ _ _ ls  () dX3_renew_23 trivial hw

set_option maxHeartbeats 4000000 in
set_option maxRecDepth 100000 in
theorem c_X3_holds (l : Launch) (dC : Nat → ClassId) (dI : Nat → Nat → Nat) (cyI cyJ cyZ cyS : ClassId) (ad : Nat → Nat) (sA cA th ln sz : Nat) (cl : Nat → Int32) (x : Int32) (y : Int64) (hs : sz ≤ 60) : CtI l yX3_holds wsX3_holds ({ frames := 0, cells := 0, slots := 0, locals := 0 } : Room) dC dI (tysA cyI cyJ cyZ cyS) [.ref (sA), .int (x), .long (y)] [(sA, .inr (3, [.int (nI (th)), .int (nI (ln)), .int (nI (sz)), .ref (cA)])), (cA, .inl (cyI, 60, .inl cl))] (S := Unit) (fun (r : Int32) (u : Unit) => (((hld x y sz) → r = nI 1) ∧ (¬ (hld x y sz) → r = nI 0))) (fun (u : Unit) => [(sA, .inr (3, [.int (nI (th)), .int (nI (ln)), .int (nI (sz)), .ref (cA)])), (cA, .inl (cyI, 60, .inl cl))]) := by
  refine CtI.mk (cc := cX3_holds) (maxL := 4) (by decide) rfl (Nat.le_of_ble_eq_true rfl) ?_
  intro zp ze zs zm za zb zt zc zA zQ ls hC hw hl hret
  replace hC : CallFix zp zm zc cX3_holds 4 zs za wsX3_holds RX3 := hC
  replace hl : lv_has ls 4 [(0, .ref (sA)), (1, .int (x)), (2, .long (y))] := hl
  have hin3 : ∀ w ∈ u_ws RX3 TX3 4, w ∈ wsX3_holds := by decide +kernel
  have lk23 : Cond.fieldLink RX3 23 (TX3 2).1 (TX3 2).2.1 (TX3 2).2.2.1 ∈ wsX3_holds := by decide +kernel
  refine lv_iload_n hC.1 hC.2.1 dX3_holds_0 rfl (lv_at hl 1 rfl) ?_
  refine lv_if_lt (tgt := 34) hC.1 hC.2.1 dX3_holds_1 (by decide) (fun c_1 => ?_) (fun c_1 => ?_)
  · skip
    refine lv_iconst (v := nI 0) hC.1 hC.2.1 dX3_holds_34 (by decide) ?_
    exact hret _ _ _ ls (nI (0)) () dX3_holds_35 (by first | rfl | decide) ⟨fun h9 => by first | rfl | (exfalso; (try dsimp only at h9); first | exact hld_neg (by omega) c_1 h9 | exact hld_big (by omega) c_9 h9 | (rw [hld_iff (by omega) ha] at h9; simp_all)), fun h9 => by first | rfl | (exfalso; (try dsimp only at h9); first | exact hld_neg (by omega) c_1 h9 | exact hld_big (by omega) c_9 h9 | (rw [hld_iff (by omega) ha] at h9; simp_all))⟩ hw
  · skip
    refine lv_iload_n hC.1 hC.2.1 dX3_holds_4 rfl (lv_at hl 1 rfl) ?_
    refine lv_aload_n hC.1 hC.2.1 dX3_holds_5 rfl (lv_at hl 0 rfl) ?_
    refine g_get hC hw hin3 0 rfl rfl 2 (by decide) lk23 rfl dX3_holds_6 ?_
    refine lv_icmp_gt (tgt := 34) hC.1 hC.2.1 dX3_holds_9 (by decide) (fun c_9 => ?_) (fun c_9 => ?_)
    · skip
      refine lv_iconst (v := nI 0) hC.1 hC.2.1 dX3_holds_34 (by decide) ?_
      exact hret _ _ _ ls (nI (0)) () dX3_holds_35 (by first | rfl | decide) ⟨fun h9 => by first | rfl | (exfalso; (try dsimp only at h9); first | exact hld_neg (by omega) c_1 h9 | exact hld_big (by omega) c_9 h9 | (rw [hld_iff (by omega) ha] at h9; simp_all)), fun h9 => by first | rfl | (exfalso; (try dsimp only at h9); first | exact hld_neg (by omega) c_1 h9 | exact hld_big (by omega) c_9 h9 | (rw [hld_iff (by omega) ha] at h9; simp_all))⟩ hw
    · skip
      obtain ⟨a, ha, rfl⟩ := hld_a (by omega) c_1 c_9
      refine lv_lload_n hC.1 hC.2.1 dX3_holds_12 rfl (lv_at hl 2 rfl) ?_
      refine lv_lconst (v := lN 0) hC.1 hC.2.1 dX3_holds_13 (by decide) ?_
      refine g_lcmp_lt (tgt := 34) hC dX3_holds_14 dX3_holds_15 (by decide) (fun c_14 => ?_) (fun c_14 => ?_)
      · skip
        refine lv_iconst (v := nI 0) hC.1 hC.2.1 dX3_holds_34 (by decide) ?_
        exact hret _ _ _ ls (nI (0)) () dX3_holds_35 (by first | rfl | decide) ⟨fun h9 => by first | rfl | (exfalso; (try dsimp only at h9); first | exact hld_neg (by omega) c_1 h9 | exact hld_big (by omega) c_9 h9 | (rw [hld_iff (by omega) ha] at h9; simp_all)), fun h9 => by first | rfl | (exfalso; (try dsimp only at h9); first | exact hld_neg (by omega) c_1 h9 | exact hld_big (by omega) c_9 h9 | (rw [hld_iff (by omega) ha] at h9; simp_all))⟩ hw
      · skip
        refine lv_lload_n hC.1 hC.2.1 dX3_holds_18 rfl (lv_at hl 2 rfl) ?_
        refine lv_aload_n hC.1 hC.2.1 dX3_holds_19 rfl (lv_at hl 0 rfl) ?_
        refine g_get hC hw hin3 0 rfl rfl 2 (by decide) lk23 rfl dX3_holds_20 ?_
        refine lv_iload_n hC.1 hC.2.1 dX3_holds_23 rfl (lv_at hl 1 rfl) ?_
        refine n_isub hC dX3_holds_24 (by omega) ?_
        refine n_i2l hC dX3_holds_25 (by omega) ?_
        refine g_lcmp_gt (tgt := 34) hC dX3_holds_26 dX3_holds_27 (by decide) (fun c_26 => ?_) (fun c_26 => ?_)
        · skip
          refine lv_iconst (v := nI 0) hC.1 hC.2.1 dX3_holds_34 (by decide) ?_
          exact hret _ _ _ ls (nI (0)) () dX3_holds_35 (by first | rfl | decide) ⟨fun h9 => by first | rfl | (exfalso; (try dsimp only at h9); first | exact hld_neg (by omega) c_1 h9 | exact hld_big (by omega) c_9 h9 | (rw [hld_iff (by omega) ha] at h9; simp_all)), fun h9 => by first | rfl | (exfalso; (try dsimp only at h9); first | exact hld_neg (by omega) c_1 h9 | exact hld_big (by omega) c_9 h9 | (rw [hld_iff (by omega) ha] at h9; simp_all))⟩ hw
        · skip
          refine lv_iconst (v := nI 1) hC.1 hC.2.1 dX3_holds_30 (by decide) ?_
          refine lv_goto (tgt := 35) hC.1 hC.2.1 dX3_holds_31 (by decide) ?_
          exact hret _ _ _ ls (nI (1)) () dX3_holds_35 (by first | rfl | decide) ⟨fun h9 => by first | rfl | (exfalso; (try dsimp only at h9); first | exact hld_neg (by omega) c_1 h9 | exact hld_big (by omega) c_9 h9 | (rw [hld_iff (by omega) ha] at h9; simp_all)), fun h9 => by first | rfl | (exfalso; (try dsimp only at h9); first | exact hld_neg (by omega) c_1 h9 | exact hld_big (by omega) c_9 h9 | (rw [hld_iff (by omega) ha] at h9; simp_all))⟩ hw

set_option maxHeartbeats 4000000 in
set_option maxRecDepth 100000 in
theorem c_X4_netIsNew (l : Launch) (dC : Nat → ClassId) (dI : Nat → Nat → Nat) (cyI cyJ cyZ cyS : ClassId) (ad : Nat → Nat) (tq ft : Int32) (tb un ky uk : Nat → Nat) (rd rk : Nat) (th wo wa : Nat) (co : Nat → Nat) (pp de : Nat → Int32) (lo uw : Nat → Nat) (dr : Int64) : CtV l yX4_netIsNew wsX4_netIsNew ({ frames := 1, cells := 0, slots := 0, locals := 20 } : Room) dC dI (tysA cyI cyJ cyZ cyS) [.ref ((ad 0))] [((ad 0), .inr (4, [.ref ((ad 1)), .ref ((ad 8)), .ref ((ad 13)), .ref ((ad 19)), .int (tq), .int (ft)])), ((ad 8), .inr (2, [.ref ((ad 1)), .ref ((ad 9)), .ref ((ad 10)), .ref ((ad 11)), .ref ((ad 12)), .int (nI (rd)), .int (nI (rk))])), ((ad 9), .inl (cyI, 144, .inl (fun zj => nI (tb zj)))), ((ad 10), .inl (cyI, 12, .inl (fun zj => nI (un zj)))), ((ad 11), .inl (cyJ, 12, .inr (.inl (fun zj => lN (ky zj))))), ((ad 12), .inl (cyJ, 12, .inr (.inl (fun zj => lN (uk zj))))), ((ad 13), .inr (0, [.ref ((ad 1)), .int (nI (th)), .int (nI (wo)), .ref ((ad 14)), .ref ((ad 15)), .ref ((ad 16)), .ref ((ad 17)), .ref ((ad 18)), .int (nI (wa)), .long (dr)])), ((ad 14), .inl (cyI, 72, .inl (fun zj => nI (co zj)))), ((ad 15), .inl (cyI, 12, .inl pp)), ((ad 16), .inl (cyI, 12, .inl de)), ((ad 17), .inl (cyI, 12, .inl (fun zj => nI (lo zj)))), ((ad 18), .inl (cyZ, 72, .inl (fun zj => nI (uw zj))))] (S := Unit) (fun (u : Unit) => True) (fun (u : Unit) => [((ad 0), .inr (4, [.ref ((ad 1)), .ref ((ad 8)), .ref ((ad 13)), .ref ((ad 19)), .int (tq), .int (ft)])), ((ad 8), .inr (2, [.ref ((ad 1)), .ref ((ad 9)), .ref ((ad 10)), .ref ((ad 11)), .ref ((ad 12)), .int (nI (rd)), .int (nI (0))])), ((ad 9), .inl (cyI, 144, .inl (fun zj => nI (tb zj)))), ((ad 10), .inl (cyI, 12, .inl (fun zj => nI (un zj)))), ((ad 11), .inl (cyJ, 12, .inr (.inl (fun zj => lN (ky zj))))), ((ad 12), .inl (cyJ, 12, .inr (.inl (fun zj => lN (uk zj))))), ((ad 13), .inr (0, [.ref ((ad 1)), .int (nI (0)), .int (nI (wo)), .ref ((ad 14)), .ref ((ad 15)), .ref ((ad 16)), .ref ((ad 17)), .ref ((ad 18)), .int (nI (wa)), .long (dr)])), ((ad 14), .inl (cyI, 72, .inl (fun zj => nI (co zj)))), ((ad 15), .inl (cyI, 12, .inl pp)), ((ad 16), .inl (cyI, 12, .inl de)), ((ad 17), .inl (cyI, 12, .inl (fun zj => nI (lo zj)))), ((ad 18), .inl (cyZ, 72, .inl (fun zj => nI (uw zj))))]) := by
  refine CtV.mk (cc := cX4_netIsNew) (maxL := 1) (by decide) rfl (Nat.le_of_ble_eq_true rfl) ?_
  intro zp ze zs zm za zb zt zc zA zQ ls hC hw hl hret
  replace hC : CallFix zp zm zc cX4_netIsNew 1 zs za wsX4_netIsNew RX4 := hC
  replace hl : lv_has ls 1 [(0, .ref ((ad 0)))] := hl
  have hin0 : ∀ w ∈ u_ws RX0 TX0 10, w ∈ wsX4_netIsNew := by decide +kernel
  have hin4 : ∀ w ∈ u_ws RX4 TX4 6, w ∈ wsX4_netIsNew := by decide +kernel
  have lk23 : Cond.fieldLink RX4 23 (TX4 1).1 (TX4 1).2.1 (TX4 1).2.2.1 ∈ wsX4_netIsNew := by decide +kernel
  have lk30 : Cond.fieldLink RX4 30 (TX4 2).1 (TX4 2).2.1 (TX4 2).2.2.1 ∈ wsX4_netIsNew := by decide +kernel
  have lk183 : Cond.fieldLink RX4 183 (TX0 1).1 (TX0 1).2.1 (TX0 1).2.2.1 ∈ wsX4_netIsNew := by decide +kernel
  refine lv_aload_n hC.1 hC.2.1 dX4_netIsNew_0 rfl (lv_at hl 0 rfl) ?_
  refine g_get hC hw hin4 0 rfl rfl 1 (by decide) lk23 rfl dX4_netIsNew_1 ?_
  refine W.ccV (wc := [((ad 8), .inr (2, [.ref ((ad 1)), .ref ((ad 9)), .ref ((ad 10)), .ref ((ad 11)), .ref ((ad 12)), .int (nI (rd)), .int (nI (rk))])), ((ad 9), .inl (cyI, 144, .inl (fun zj => nI (tb zj)))), ((ad 10), .inl (cyI, 12, .inl (fun zj => nI (un zj)))), ((ad 11), .inl (cyJ, 12, .inr (.inl (fun zj => lN (ky zj))))), ((ad 12), .inl (cyJ, 12, .inr (.inl (fun zj => lN (uk zj)))))]) (wr := [((ad 0), .inr (4, [.ref ((ad 1)), .ref ((ad 8)), .ref ((ad 13)), .ref ((ad 19)), .int (tq), .int (ft)])), ((ad 13), .inr (0, [.ref ((ad 1)), .int (nI (th)), .int (nI (wo)), .ref ((ad 14)), .ref ((ad 15)), .ref ((ad 16)), .ref ((ad 17)), .ref ((ad 18)), .int (nI (wa)), .long (dr)])), ((ad 14), .inl (cyI, 72, .inl (fun zj => nI (co zj)))), ((ad 15), .inl (cyI, 12, .inl pp)), ((ad 16), .inl (cyI, 12, .inl de)), ((ad 17), .inl (cyI, 12, .inl (fun zj => nI (lo zj)))), ((ad 18), .inl (cyZ, 72, .inl (fun zj => nI (uw zj))))]) (ws1 := fun (u : Unit) => [((ad 8), .inr (2, [.ref ((ad 1)), .ref ((ad 9)), .ref ((ad 10)), .ref ((ad 11)), .ref ((ad 12)), .int (nI (rd)), .int (nI (0))])), ((ad 9), .inl (cyI, 144, .inl (fun zj => nI (tb zj)))), ((ad 10), .inl (cyI, 12, .inl (fun zj => nI (un zj)))), ((ad 11), .inl (cyJ, 12, .inr (.inl (fun zj => lN (ky zj))))), ((ad 12), .inl (cyJ, 12, .inr (.inl (fun zj => lN (uk zj)))))]) (ws2 := fun (u : Unit) => [((ad 0), .inr (4, [.ref ((ad 1)), .ref ((ad 8)), .ref ((ad 13)), .ref ((ad 19)), .int (tq), .int (ft)])), ((ad 8), .inr (2, [.ref ((ad 1)), .ref ((ad 9)), .ref ((ad 10)), .ref ((ad 11)), .ref ((ad 12)), .int (nI (rd)), .int (nI (0))])), ((ad 9), .inl (cyI, 144, .inl (fun zj => nI (tb zj)))), ((ad 10), .inl (cyI, 12, .inl (fun zj => nI (un zj)))), ((ad 11), .inl (cyJ, 12, .inr (.inl (fun zj => lN (ky zj))))), ((ad 12), .inl (cyJ, 12, .inr (.inl (fun zj => lN (uk zj))))), ((ad 13), .inr (0, [.ref ((ad 1)), .int (nI (th)), .int (nI (wo)), .ref ((ad 14)), .ref ((ad 15)), .ref ((ad 16)), .ref ((ad 17)), .ref ((ad 18)), .int (nI (wa)), .long (dr)])), ((ad 14), .inl (cyI, 72, .inl (fun zj => nI (co zj)))), ((ad 15), .inl (cyI, 12, .inl pp)), ((ad 16), .inl (cyI, 12, .inl de)), ((ad 17), .inl (cyI, 12, .inl (fun zj => nI (lo zj)))), ((ad 18), .inl (cyZ, 72, .inl (fun zj => nI (uw zj))))]) hw [1, 2, 3, 4, 5] [0, 6, 7, 8, 9, 10, 11] [0, 7, 8, 9, 10, 11, 1, 2, 3, 4, 5, 6] rfl rfl (by decide) (by decide) (by decide) (fun _ => rfl) (Wd.runV (wc := [((ad 8), .inr (2, [.ref ((ad 1)), .ref ((ad 9)), .ref ((ad 10)), .ref ((ad 11)), .ref ((ad 12)), .int (nI (rd)), .int (nI (rk))])), ((ad 9), .inl (cyI, 144, .inl (fun zj => nI (tb zj)))), ((ad 10), .inl (cyI, 12, .inl (fun zj => nI (un zj)))), ((ad 11), .inl (cyJ, 12, .inr (.inl (fun zj => lN (ky zj))))), ((ad 12), .inl (cyJ, 12, .inr (.inl (fun zj => lN (uk zj)))))]) (rest := []) (As := []) hC hw [1, 2, 3, 4, 5] rfl (by decide) 1 rfl rfl (cwV 0 hC.2.2.2.2 gX4_netIsNew_X2_forget rfl rfl rfl (by decide +kernel) ⟨Nat.le_of_ble_eq_true rfl, Nat.le_of_ble_eq_true rfl⟩) (c_X2_forget l dC dI cyI cyJ cyZ cyS ad tb un ky uk rd rk _) rfl hl.1 rfl (Nat.le_of_ble_eq_true rfl) dX4_netIsNew_4 ⟨Nat.zero_le _, Nat.zero_le _⟩) (fun u H locs hr_4 hw => ?_)
  replace hw : Wd dC dI (tysA cyI cyJ cyZ cyS) [((ad 0), .inr (4, [.ref ((ad 1)), .ref ((ad 8)), .ref ((ad 13)), .ref ((ad 19)), .int (tq), .int (ft)])), ((ad 8), .inr (2, [.ref ((ad 1)), .ref ((ad 9)), .ref ((ad 10)), .ref ((ad 11)), .ref ((ad 12)), .int (nI (rd)), .int (nI (0))])), ((ad 9), .inl (cyI, 144, .inl (fun zj => nI (tb zj)))), ((ad 10), .inl (cyI, 12, .inl (fun zj => nI (un zj)))), ((ad 11), .inl (cyJ, 12, .inr (.inl (fun zj => lN (ky zj))))), ((ad 12), .inl (cyJ, 12, .inr (.inl (fun zj => lN (uk zj))))), ((ad 13), .inr (0, [.ref ((ad 1)), .int (nI (th)), .int (nI (wo)), .ref ((ad 14)), .ref ((ad 15)), .ref ((ad 16)), .ref ((ad 17)), .ref ((ad 18)), .int (nI (wa)), .long (dr)])), ((ad 14), .inl (cyI, 72, .inl (fun zj => nI (co zj)))), ((ad 15), .inl (cyI, 12, .inl pp)), ((ad 16), .inl (cyI, 12, .inl de)), ((ad 17), .inl (cyI, 12, .inl (fun zj => nI (lo zj)))), ((ad 18), .inl (cyZ, 72, .inl (fun zj => nI (uw zj))))] zA zs H locs := hw
  refine lv_aload_n hC.1 hC.2.1 dX4_netIsNew_7 rfl (lv_at hl 0 rfl) ?_
  refine g_get hC hw hin4 0 rfl rfl 2 (by decide) lk30 rfl dX4_netIsNew_8 ?_
  refine lv_iconst (v := nI 0) hC.1 hC.2.1 dX4_netIsNew_11 (by decide) ?_
  refine g_put hC hw hin0 tyX0 tyX0_ok nmX0 6 rfl rfl 1 (by decide) lk183 rfl (by first | rfl | decide) (by first | rfl | decide) (Nat.le_of_ble_eq_true rfl) dX4_netIsNew_12 (fun H locs hw => ?_)
  replace hw : Wd dC dI (tysA cyI cyJ cyZ cyS) [((ad 0), .inr (4, [.ref ((ad 1)), .ref ((ad 8)), .ref ((ad 13)), .ref ((ad 19)), .int (tq), .int (ft)])), ((ad 8), .inr (2, [.ref ((ad 1)), .ref ((ad 9)), .ref ((ad 10)), .ref ((ad 11)), .ref ((ad 12)), .int (nI (rd)), .int (nI (0))])), ((ad 9), .inl (cyI, 144, .inl (fun zj => nI (tb zj)))), ((ad 10), .inl (cyI, 12, .inl (fun zj => nI (un zj)))), ((ad 11), .inl (cyJ, 12, .inr (.inl (fun zj => lN (ky zj))))), ((ad 12), .inl (cyJ, 12, .inr (.inl (fun zj => lN (uk zj))))), ((ad 13), .inr (0, [.ref ((ad 1)), .int (nI (0)), .int (nI (wo)), .ref ((ad 14)), .ref ((ad 15)), .ref ((ad 16)), .ref ((ad 17)), .ref ((ad 18)), .int (nI (wa)), .long (dr)])), ((ad 14), .inl (cyI, 72, .inl (fun zj => nI (co zj)))), ((ad 15), .inl (cyI, 12, .inl pp)), ((ad 16), .inl (cyI, 12, .inl de)), ((ad 17), .inl (cyI, 12, .inl (fun zj => nI (lo zj)))), ((ad 18), .inl (cyZ, 72, .inl (fun zj => nI (uw zj))))] zA zs H locs := hw
  exact hret _ _ _ ls  () dX4_netIsNew_15 trivial hw

set_option maxHeartbeats 4000000 in
set_option maxRecDepth 100000 in
theorem c_X4_hangsTogether (l : Launch) (dC : Nat → ClassId) (dI : Nat → Nat → Nat) (cyI cyJ cyZ cyS : ClassId) (ad : Nat → Nat) (tq ft : Int32) (n : Nat) (L : Int32) (mk pt ac : Nat → Nat) (far : Nat → Int32) (re tr : Nat → Nat) (hN : NOk n mk pt ac) : CtI l yX4_hangsTogether wsX4_hangsTogether ({ frames := 3, cells := 0, slots := 0, locals := 68 } : Room) dC dI (tysA cyI cyJ cyZ cyS) [.ref ((ad 0))] [((ad 0), .inr (4, [.ref ((ad 1)), .ref ((ad 8)), .ref ((ad 13)), .ref ((ad 19)), .int (tq), .int (ft)])), ((ad 1), .inr (1, [.int (nI (n)), .int (L), .ref ((ad 2)), .ref ((ad 3)), .ref ((ad 4)), .ref ((ad 5)), .ref ((ad 6)), .ref ((ad 7))])), ((ad 2), .inl (cyI, 12, .inl (fun zj => nI (mk zj)))), ((ad 3), .inl (cyI, 12, .inl (fun zj => nI (pt zj)))), ((ad 4), .inl (cyI, 72, .inl (fun zj => nI (ac zj)))), ((ad 5), .inl (cyI, 12, .inl far)), ((ad 6), .inl (cyI, 12, .inl (fun zj => nI (re zj)))), ((ad 7), .inl (cyI, 12, .inl (fun zj => nI (tr zj))))] (S := (Nat → Int32) × (Nat → Nat)) (fun (r : Int32) (u : (Nat → Int32) × (Nat → Nat)) => (((0 < n ∧ cntR u.1 n = n) → r = nI 1) ∧ (¬ (0 < n ∧ cntR u.1 n = n) → r = nI 0)) ∧ (FarOk n pt ac u.1)) (fun (u : (Nat → Int32) × (Nat → Nat)) => [((ad 0), .inr (4, [.ref ((ad 1)), .ref ((ad 8)), .ref ((ad 13)), .ref ((ad 19)), .int (tq), .int (ft)])), ((ad 1), .inr (1, [.int (nI (n)), .int (L), .ref ((ad 2)), .ref ((ad 3)), .ref ((ad 4)), .ref ((ad 5)), .ref ((ad 6)), .ref ((ad 7))])), ((ad 2), .inl (cyI, 12, .inl (fun zj => nI (mk zj)))), ((ad 3), .inl (cyI, 12, .inl (fun zj => nI (pt zj)))), ((ad 4), .inl (cyI, 72, .inl (fun zj => nI (ac zj)))), ((ad 5), .inl (cyI, 12, .inl u.1)), ((ad 6), .inl (cyI, 12, .inl (fun zj => nI (u.2 zj)))), ((ad 7), .inl (cyI, 12, .inl (fun zj => nI (tr zj))))]) := by
  refine CtI.mk (cc := cX4_hangsTogether) (maxL := 1) (by decide) rfl (Nat.le_of_ble_eq_true rfl) ?_
  intro zp ze zs zm za zb zt zc zA zQ ls hC hw hl hret
  replace hC : CallFix zp zm zc cX4_hangsTogether 1 zs za wsX4_hangsTogether RX4 := hC
  replace hl : lv_has ls 1 [(0, .ref ((ad 0)))] := hl
  have hin1 : ∀ w ∈ u_ws RX1 TX1 8, w ∈ wsX4_hangsTogether := by decide +kernel
  have hin4 : ∀ w ∈ u_ws RX4 TX4 6, w ∈ wsX4_hangsTogether := by decide +kernel
  have lk14 : Cond.fieldLink RX4 14 (TX4 0).1 (TX4 0).2.1 (TX4 0).2.2.1 ∈ wsX4_hangsTogether := by decide +kernel
  have lk41 : Cond.fieldLink RX4 41 (TX1 0).1 (TX1 0).2.1 (TX1 0).2.2.1 ∈ wsX4_hangsTogether := by decide +kernel
  have hn := hN.n12
  refine lv_aload_n hC.1 hC.2.1 dX4_hangsTogether_0 rfl (lv_at hl 0 rfl) ?_
  refine g_get hC hw hin4 0 rfl rfl 0 (by decide) lk14 rfl dX4_hangsTogether_1 ?_
  refine g_get hC hw hin1 1 rfl rfl 0 (by decide) lk41 rfl dX4_hangsTogether_4 ?_
  refine n_if_le (tgt := 31) hC dX4_hangsTogether_7 (by decide) (by omega) (fun c_7 => ?_) (fun c_7 => ?_)
  · skip
    refine lv_iconst (v := nI 0) hC.1 hC.2.1 dX4_hangsTogether_31 (by decide) ?_
    exact hret _ _ _ ls (nI (0)) ⟨far, re⟩ dX4_hangsTogether_32 (by first | rfl | decide) ⟨⟨fun h9 => by first | rfl | (exfalso; (try dsimp only at h9); omega), fun h9 => by first | rfl | (exfalso; (try dsimp only at h9); omega)⟩, (by (try dsimp only); first | exact hF_14 | (intro q h; omega))⟩ hw
  · skip
    refine lv_aload_n hC.1 hC.2.1 dX4_hangsTogether_10 rfl (lv_at hl 0 rfl) ?_
    refine g_get hC hw hin4 0 rfl rfl 0 (by decide) lk14 rfl dX4_hangsTogether_11 ?_
    refine W.ccI (wc := [((ad 1), .inr (1, [.int (nI (n)), .int (L), .ref ((ad 2)), .ref ((ad 3)), .ref ((ad 4)), .ref ((ad 5)), .ref ((ad 6)), .ref ((ad 7))])), ((ad 2), .inl (cyI, 12, .inl (fun zj => nI (mk zj)))), ((ad 3), .inl (cyI, 12, .inl (fun zj => nI (pt zj)))), ((ad 4), .inl (cyI, 72, .inl (fun zj => nI (ac zj)))), ((ad 5), .inl (cyI, 12, .inl far)), ((ad 6), .inl (cyI, 12, .inl (fun zj => nI (re zj)))), ((ad 7), .inl (cyI, 12, .inl (fun zj => nI (tr zj))))]) (wr := [((ad 0), .inr (4, [.ref ((ad 1)), .ref ((ad 8)), .ref ((ad 13)), .ref ((ad 19)), .int (tq), .int (ft)]))]) (ws1 := fun (u : (Nat → Int32) × (Nat → Nat)) => [((ad 1), .inr (1, [.int (nI (n)), .int (L), .ref ((ad 2)), .ref ((ad 3)), .ref ((ad 4)), .ref ((ad 5)), .ref ((ad 6)), .ref ((ad 7))])), ((ad 2), .inl (cyI, 12, .inl (fun zj => nI (mk zj)))), ((ad 3), .inl (cyI, 12, .inl (fun zj => nI (pt zj)))), ((ad 4), .inl (cyI, 72, .inl (fun zj => nI (ac zj)))), ((ad 5), .inl (cyI, 12, .inl u.1)), ((ad 6), .inl (cyI, 12, .inl (fun zj => nI (u.2 zj)))), ((ad 7), .inl (cyI, 12, .inl (fun zj => nI (tr zj))))]) (ws2 := fun (u : (Nat → Int32) × (Nat → Nat)) => [((ad 0), .inr (4, [.ref ((ad 1)), .ref ((ad 8)), .ref ((ad 13)), .ref ((ad 19)), .int (tq), .int (ft)])), ((ad 1), .inr (1, [.int (nI (n)), .int (L), .ref ((ad 2)), .ref ((ad 3)), .ref ((ad 4)), .ref ((ad 5)), .ref ((ad 6)), .ref ((ad 7))])), ((ad 2), .inl (cyI, 12, .inl (fun zj => nI (mk zj)))), ((ad 3), .inl (cyI, 12, .inl (fun zj => nI (pt zj)))), ((ad 4), .inl (cyI, 72, .inl (fun zj => nI (ac zj)))), ((ad 5), .inl (cyI, 12, .inl u.1)), ((ad 6), .inl (cyI, 12, .inl (fun zj => nI (u.2 zj)))), ((ad 7), .inl (cyI, 12, .inl (fun zj => nI (tr zj))))]) hw [1, 2, 3, 4, 5, 6, 7] [0] [0, 1, 2, 3, 4, 5, 6, 7] rfl rfl (by decide) (by decide) (by decide) (fun _ => rfl) (Wd.runV (wc := [((ad 1), .inr (1, [.int (nI (n)), .int (L), .ref ((ad 2)), .ref ((ad 3)), .ref ((ad 4)), .ref ((ad 5)), .ref ((ad 6)), .ref ((ad 7))])), ((ad 2), .inl (cyI, 12, .inl (fun zj => nI (mk zj)))), ((ad 3), .inl (cyI, 12, .inl (fun zj => nI (pt zj)))), ((ad 4), .inl (cyI, 72, .inl (fun zj => nI (ac zj)))), ((ad 5), .inl (cyI, 12, .inl far)), ((ad 6), .inl (cyI, 12, .inl (fun zj => nI (re zj)))), ((ad 7), .inl (cyI, 12, .inl (fun zj => nI (tr zj))))]) (rest := []) (As := []) hC hw [1, 2, 3, 4, 5, 6, 7] rfl (by decide) 1 rfl rfl (cwV 0 hC.2.2.2.2 gX4_hangsTogether_X1_measure rfl rfl rfl (by decide +kernel) ⟨Nat.le_of_ble_eq_true rfl, Nat.le_of_ble_eq_true rfl⟩) (c_X1_measure l dC dI cyI cyJ cyZ cyS ad n L mk pt ac far re tr (by first | assumption | omega) _) rfl hl.1 rfl (Nat.le_of_ble_eq_true rfl) dX4_hangsTogether_14 ⟨Nat.zero_le _, Nat.zero_le _⟩) (fun r_14 u H locs hr_14 hw => ?_)
    obtain ⟨far2_14, re2_14⟩ := u
    replace hw : Wd dC dI (tysA cyI cyJ cyZ cyS) [((ad 0), .inr (4, [.ref ((ad 1)), .ref ((ad 8)), .ref ((ad 13)), .ref ((ad 19)), .int (tq), .int (ft)])), ((ad 1), .inr (1, [.int (nI (n)), .int (L), .ref ((ad 2)), .ref ((ad 3)), .ref ((ad 4)), .ref ((ad 5)), .ref ((ad 6)), .ref ((ad 7))])), ((ad 2), .inl (cyI, 12, .inl (fun zj => nI (mk zj)))), ((ad 3), .inl (cyI, 12, .inl (fun zj => nI (pt zj)))), ((ad 4), .inl (cyI, 72, .inl (fun zj => nI (ac zj)))), ((ad 5), .inl (cyI, 12, .inl far2_14)), ((ad 6), .inl (cyI, 12, .inl (fun zj => nI (re2_14 zj)))), ((ad 7), .inl (cyI, 12, .inl (fun zj => nI (tr zj))))] zA zs H locs := hw
    obtain ⟨hr_14, hF_14⟩ := hr_14
    try dsimp only at hF_14
    try dsimp only at hr_14
    subst hr_14
    have hle := cntR_le far2_14 n
    refine lv_aload_n hC.1 hC.2.1 dX4_hangsTogether_17 rfl (lv_at hl 0 rfl) ?_
    refine g_get hC hw hin4 0 rfl rfl 0 (by decide) lk14 rfl dX4_hangsTogether_18 ?_
    refine g_get hC hw hin1 1 rfl rfl 0 (by decide) lk41 rfl dX4_hangsTogether_21 ?_
    refine n_icmp_ne (tgt := 31) hC dX4_hangsTogether_24 (by decide) (by omega) (by omega) (fun c_24 => ?_) (fun c_24 => ?_)
    · skip
      refine lv_iconst (v := nI 0) hC.1 hC.2.1 dX4_hangsTogether_31 (by decide) ?_
      exact hret _ _ _ ls (nI (0)) ⟨far2_14, re2_14⟩ dX4_hangsTogether_32 (by first | rfl | decide) ⟨⟨fun h9 => by first | rfl | (exfalso; (try dsimp only at h9); omega), fun h9 => by first | rfl | (exfalso; (try dsimp only at h9); omega)⟩, (by (try dsimp only); first | exact hF_14 | (intro q h; omega))⟩ hw
    · skip
      refine lv_iconst (v := nI 1) hC.1 hC.2.1 dX4_hangsTogether_27 (by decide) ?_
      refine lv_goto (tgt := 32) hC.1 hC.2.1 dX4_hangsTogether_28 (by decide) ?_
      exact hret _ _ _ ls (nI (1)) ⟨far2_14, re2_14⟩ dX4_hangsTogether_32 (by first | rfl | decide) ⟨⟨fun h9 => by first | rfl | (exfalso; (try dsimp only at h9); omega), fun h9 => by first | rfl | (exfalso; (try dsimp only at h9); omega)⟩, (by (try dsimp only); first | exact hF_14 | (intro q h; omega))⟩ hw

set_option maxHeartbeats 4000000 in
set_option maxRecDepth 100000 in
theorem c_X4_unlikeAtRest (l : Launch) (dC : Nat → ClassId) (dI : Nat → Nat → Nat) (cyI cyJ cyZ cyS : ClassId) (ad : Nat → Nat) (tq ft : Int32) (tb un ky uk : Nat → Nat) (rd rk : Nat) (n : Nat) (L : Int32) (mk pt ac : Nat → Nat) (far : Nat → Int32) (re tr : Nat → Nat) (hN : NOk n mk pt ac) (hrk : rk ≤ 1) (hT : rk = 1 → RTab n mk pt ac tb un rd) : CtI l yX4_unlikeAtRest wsX4_unlikeAtRest ({ frames := 5, cells := 0, slots := 0, locals := 114 } : Room) dC dI (tysA cyI cyJ cyZ cyS) [.ref ((ad 0))] [((ad 0), .inr (4, [.ref ((ad 1)), .ref ((ad 8)), .ref ((ad 13)), .ref ((ad 19)), .int (tq), .int (ft)])), ((ad 1), .inr (1, [.int (nI (n)), .int (L), .ref ((ad 2)), .ref ((ad 3)), .ref ((ad 4)), .ref ((ad 5)), .ref ((ad 6)), .ref ((ad 7))])), ((ad 2), .inl (cyI, 12, .inl (fun zj => nI (mk zj)))), ((ad 3), .inl (cyI, 12, .inl (fun zj => nI (pt zj)))), ((ad 4), .inl (cyI, 72, .inl (fun zj => nI (ac zj)))), ((ad 5), .inl (cyI, 12, .inl far)), ((ad 6), .inl (cyI, 12, .inl (fun zj => nI (re zj)))), ((ad 7), .inl (cyI, 12, .inl (fun zj => nI (tr zj)))), ((ad 8), .inr (2, [.ref ((ad 1)), .ref ((ad 9)), .ref ((ad 10)), .ref ((ad 11)), .ref ((ad 12)), .int (nI (rd)), .int (nI (rk))])), ((ad 9), .inl (cyI, 144, .inl (fun zj => nI (tb zj)))), ((ad 10), .inl (cyI, 12, .inl (fun zj => nI (un zj)))), ((ad 11), .inl (cyJ, 12, .inr (.inl (fun zj => lN (ky zj))))), ((ad 12), .inl (cyJ, 12, .inr (.inl (fun zj => lN (uk zj)))))] (S := (Nat → Nat) × (Nat → Nat) × (Nat → Nat) × (Nat → Nat) × Nat) (fun (r : Int32) (u : (Nat → Nat) × (Nat → Nat) × (Nat → Nat) × (Nat → Nat) × Nat) => (r = nI (u.2.1 (min 20 u.2.2.2.2))) ∧ (RTab n mk pt ac u.1 u.2.1 u.2.2.2.2) ∧ (rk = 1 → u.1 = tb ∧ u.2.1 = un ∧ u.2.2.2.2 = rd)) (fun (u : (Nat → Nat) × (Nat → Nat) × (Nat → Nat) × (Nat → Nat) × Nat) => [((ad 0), .inr (4, [.ref ((ad 1)), .ref ((ad 8)), .ref ((ad 13)), .ref ((ad 19)), .int (tq), .int (ft)])), ((ad 1), .inr (1, [.int (nI (n)), .int (L), .ref ((ad 2)), .ref ((ad 3)), .ref ((ad 4)), .ref ((ad 5)), .ref ((ad 6)), .ref ((ad 7))])), ((ad 2), .inl (cyI, 12, .inl (fun zj => nI (mk zj)))), ((ad 3), .inl (cyI, 12, .inl (fun zj => nI (pt zj)))), ((ad 4), .inl (cyI, 72, .inl (fun zj => nI (ac zj)))), ((ad 5), .inl (cyI, 12, .inl far)), ((ad 6), .inl (cyI, 12, .inl (fun zj => nI (re zj)))), ((ad 7), .inl (cyI, 12, .inl (fun zj => nI (tr zj)))), ((ad 8), .inr (2, [.ref ((ad 1)), .ref ((ad 9)), .ref ((ad 10)), .ref ((ad 11)), .ref ((ad 12)), .int (nI (u.2.2.2.2)), .int (nI (1))])), ((ad 9), .inl (cyI, 144, .inl (fun zj => nI (u.1 zj)))), ((ad 10), .inl (cyI, 12, .inl (fun zj => nI (u.2.1 zj)))), ((ad 11), .inl (cyJ, 12, .inr (.inl (fun zj => lN (u.2.2.1 zj))))), ((ad 12), .inl (cyJ, 12, .inr (.inl (fun zj => lN (u.2.2.2.1 zj)))))]) := by
  refine CtI.mk (cc := cX4_unlikeAtRest) (maxL := 1) (by decide) rfl (Nat.le_of_ble_eq_true rfl) ?_
  intro zp ze zs zm za zb zt zc zA zQ ls hC hw hl hret
  replace hC : CallFix zp zm zc cX4_unlikeAtRest 1 zs za wsX4_unlikeAtRest RX4 := hC
  replace hl : lv_has ls 1 [(0, .ref ((ad 0)))] := hl
  have hin4 : ∀ w ∈ u_ws RX4 TX4 6, w ∈ wsX4_unlikeAtRest := by decide +kernel
  have lk23 : Cond.fieldLink RX4 23 (TX4 1).1 (TX4 1).2.1 (TX4 1).2.2.1 ∈ wsX4_unlikeAtRest := by decide +kernel
  refine lv_aload_n hC.1 hC.2.1 dX4_unlikeAtRest_0 rfl (lv_at hl 0 rfl) ?_
  refine g_get hC hw hin4 0 rfl rfl 1 (by decide) lk23 rfl dX4_unlikeAtRest_1 ?_
  refine lv_bipush (v := nI 20) hC.1 hC.2.1 dX4_unlikeAtRest_4 (by decide) ?_
  refine W.ccI (wc := [((ad 8), .inr (2, [.ref ((ad 1)), .ref ((ad 9)), .ref ((ad 10)), .ref ((ad 11)), .ref ((ad 12)), .int (nI (rd)), .int (nI (rk))])), ((ad 9), .inl (cyI, 144, .inl (fun zj => nI (tb zj)))), ((ad 10), .inl (cyI, 12, .inl (fun zj => nI (un zj)))), ((ad 11), .inl (cyJ, 12, .inr (.inl (fun zj => lN (ky zj))))), ((ad 12), .inl (cyJ, 12, .inr (.inl (fun zj => lN (uk zj))))), ((ad 1), .inr (1, [.int (nI (n)), .int (L), .ref ((ad 2)), .ref ((ad 3)), .ref ((ad 4)), .ref ((ad 5)), .ref ((ad 6)), .ref ((ad 7))])), ((ad 2), .inl (cyI, 12, .inl (fun zj => nI (mk zj)))), ((ad 3), .inl (cyI, 12, .inl (fun zj => nI (pt zj)))), ((ad 4), .inl (cyI, 72, .inl (fun zj => nI (ac zj)))), ((ad 5), .inl (cyI, 12, .inl far)), ((ad 6), .inl (cyI, 12, .inl (fun zj => nI (re zj)))), ((ad 7), .inl (cyI, 12, .inl (fun zj => nI (tr zj))))]) (wr := [((ad 0), .inr (4, [.ref ((ad 1)), .ref ((ad 8)), .ref ((ad 13)), .ref ((ad 19)), .int (tq), .int (ft)]))]) (ws1 := fun (u : (Nat → Nat) × (Nat → Nat) × (Nat → Nat) × (Nat → Nat) × Nat) => [((ad 8), .inr (2, [.ref ((ad 1)), .ref ((ad 9)), .ref ((ad 10)), .ref ((ad 11)), .ref ((ad 12)), .int (nI (u.2.2.2.2)), .int (nI (1))])), ((ad 9), .inl (cyI, 144, .inl (fun zj => nI (u.1 zj)))), ((ad 10), .inl (cyI, 12, .inl (fun zj => nI (u.2.1 zj)))), ((ad 11), .inl (cyJ, 12, .inr (.inl (fun zj => lN (u.2.2.1 zj))))), ((ad 12), .inl (cyJ, 12, .inr (.inl (fun zj => lN (u.2.2.2.1 zj))))), ((ad 1), .inr (1, [.int (nI (n)), .int (L), .ref ((ad 2)), .ref ((ad 3)), .ref ((ad 4)), .ref ((ad 5)), .ref ((ad 6)), .ref ((ad 7))])), ((ad 2), .inl (cyI, 12, .inl (fun zj => nI (mk zj)))), ((ad 3), .inl (cyI, 12, .inl (fun zj => nI (pt zj)))), ((ad 4), .inl (cyI, 72, .inl (fun zj => nI (ac zj)))), ((ad 5), .inl (cyI, 12, .inl far)), ((ad 6), .inl (cyI, 12, .inl (fun zj => nI (re zj)))), ((ad 7), .inl (cyI, 12, .inl (fun zj => nI (tr zj))))]) (ws2 := fun (u : (Nat → Nat) × (Nat → Nat) × (Nat → Nat) × (Nat → Nat) × Nat) => [((ad 0), .inr (4, [.ref ((ad 1)), .ref ((ad 8)), .ref ((ad 13)), .ref ((ad 19)), .int (tq), .int (ft)])), ((ad 1), .inr (1, [.int (nI (n)), .int (L), .ref ((ad 2)), .ref ((ad 3)), .ref ((ad 4)), .ref ((ad 5)), .ref ((ad 6)), .ref ((ad 7))])), ((ad 2), .inl (cyI, 12, .inl (fun zj => nI (mk zj)))), ((ad 3), .inl (cyI, 12, .inl (fun zj => nI (pt zj)))), ((ad 4), .inl (cyI, 72, .inl (fun zj => nI (ac zj)))), ((ad 5), .inl (cyI, 12, .inl far)), ((ad 6), .inl (cyI, 12, .inl (fun zj => nI (re zj)))), ((ad 7), .inl (cyI, 12, .inl (fun zj => nI (tr zj)))), ((ad 8), .inr (2, [.ref ((ad 1)), .ref ((ad 9)), .ref ((ad 10)), .ref ((ad 11)), .ref ((ad 12)), .int (nI (u.2.2.2.2)), .int (nI (1))])), ((ad 9), .inl (cyI, 144, .inl (fun zj => nI (u.1 zj)))), ((ad 10), .inl (cyI, 12, .inl (fun zj => nI (u.2.1 zj)))), ((ad 11), .inl (cyJ, 12, .inr (.inl (fun zj => lN (u.2.2.1 zj))))), ((ad 12), .inl (cyJ, 12, .inr (.inl (fun zj => lN (u.2.2.2.1 zj)))))]) hw [8, 9, 10, 11, 12, 1, 2, 3, 4, 5, 6, 7] [0] [0, 6, 7, 8, 9, 10, 11, 12, 1, 2, 3, 4, 5] rfl rfl (by decide) (by decide) (by decide) (fun _ => rfl) (Wd.runV (wc := [((ad 8), .inr (2, [.ref ((ad 1)), .ref ((ad 9)), .ref ((ad 10)), .ref ((ad 11)), .ref ((ad 12)), .int (nI (rd)), .int (nI (rk))])), ((ad 9), .inl (cyI, 144, .inl (fun zj => nI (tb zj)))), ((ad 10), .inl (cyI, 12, .inl (fun zj => nI (un zj)))), ((ad 11), .inl (cyJ, 12, .inr (.inl (fun zj => lN (ky zj))))), ((ad 12), .inl (cyJ, 12, .inr (.inl (fun zj => lN (uk zj))))), ((ad 1), .inr (1, [.int (nI (n)), .int (L), .ref ((ad 2)), .ref ((ad 3)), .ref ((ad 4)), .ref ((ad 5)), .ref ((ad 6)), .ref ((ad 7))])), ((ad 2), .inl (cyI, 12, .inl (fun zj => nI (mk zj)))), ((ad 3), .inl (cyI, 12, .inl (fun zj => nI (pt zj)))), ((ad 4), .inl (cyI, 72, .inl (fun zj => nI (ac zj)))), ((ad 5), .inl (cyI, 12, .inl far)), ((ad 6), .inl (cyI, 12, .inl (fun zj => nI (re zj)))), ((ad 7), .inl (cyI, 12, .inl (fun zj => nI (tr zj))))]) (rest := []) (As := [.int (nI (20))]) hC hw [8, 9, 10, 11, 12, 1, 2, 3, 4, 5, 6, 7] rfl (by decide) 8 rfl rfl (cwV 1 hC.2.2.2.2 gX4_unlikeAtRest_X2_unlikeAt rfl rfl rfl (by decide +kernel) ⟨Nat.le_of_ble_eq_true rfl, Nat.le_of_ble_eq_true rfl⟩) (c_X2_unlikeAt l dC dI cyI cyJ cyZ cyS ad tb un ky uk rd rk n L mk pt ac far re tr (by first | assumption | omega) (by first | assumption | omega) (by first | assumption | omega) 20 (by first | assumption | omega) _) rfl hl.1 rfl (Nat.le_of_ble_eq_true rfl) dX4_unlikeAtRest_6 ⟨Nat.zero_le _, Nat.zero_le _⟩) (fun r_6 u H locs hr_6 hw => ?_)
  obtain ⟨tb2_6, un2_6, ky2_6, uk2_6, rd2_6⟩ := u
  replace hw : Wd dC dI (tysA cyI cyJ cyZ cyS) [((ad 0), .inr (4, [.ref ((ad 1)), .ref ((ad 8)), .ref ((ad 13)), .ref ((ad 19)), .int (tq), .int (ft)])), ((ad 1), .inr (1, [.int (nI (n)), .int (L), .ref ((ad 2)), .ref ((ad 3)), .ref ((ad 4)), .ref ((ad 5)), .ref ((ad 6)), .ref ((ad 7))])), ((ad 2), .inl (cyI, 12, .inl (fun zj => nI (mk zj)))), ((ad 3), .inl (cyI, 12, .inl (fun zj => nI (pt zj)))), ((ad 4), .inl (cyI, 72, .inl (fun zj => nI (ac zj)))), ((ad 5), .inl (cyI, 12, .inl far)), ((ad 6), .inl (cyI, 12, .inl (fun zj => nI (re zj)))), ((ad 7), .inl (cyI, 12, .inl (fun zj => nI (tr zj)))), ((ad 8), .inr (2, [.ref ((ad 1)), .ref ((ad 9)), .ref ((ad 10)), .ref ((ad 11)), .ref ((ad 12)), .int (nI (rd2_6)), .int (nI (1))])), ((ad 9), .inl (cyI, 144, .inl (fun zj => nI (tb2_6 zj)))), ((ad 10), .inl (cyI, 12, .inl (fun zj => nI (un2_6 zj)))), ((ad 11), .inl (cyJ, 12, .inr (.inl (fun zj => lN (ky2_6 zj))))), ((ad 12), .inl (cyJ, 12, .inr (.inl (fun zj => lN (uk2_6 zj)))))] zA zs H locs := hw
  obtain ⟨hr_6, hT2_6, hS2_6⟩ := hr_6
  try dsimp only at hT2_6 hS2_6
  try dsimp only at hr_6
  subst hr_6
  exact hret _ _ _ ls (nI (un2_6 (min 20 rd2_6))) ⟨tb2_6, un2_6, ky2_6, uk2_6, rd2_6⟩ dX4_unlikeAtRest_9 rfl ⟨rfl, (by (try dsimp only); exact hT2_6), (by (try dsimp only); exact hS2_6)⟩ hw

set_option maxHeartbeats 4000000 in
set_option maxRecDepth 100000 in
theorem c_X4_power (l : Launch) (dC : Nat → ClassId) (dI : Nat → Nat → Nat) (cyI cyJ cyZ cyS : ClassId) (ad : Nat → Nat) (k t : Nat) (hk : k < 2 ^ 31) (ht : t < 2 ^ 31) : CtL l yX4_power wsX4_power ({ frames := 0, cells := 0, slots := 0, locals := 0 } : Room) dC dI (tysA cyI cyJ cyZ cyS) [.int (nI (k)), .int (nI (t))] [] (S := Unit) (fun (r : Int64) (u : Unit) => (r = lN (k ^ t))) (fun (u : Unit) => []) := by
  refine CtL.mk (cc := cX4_power) (maxL := 5) (by decide) rfl (Nat.le_of_ble_eq_true rfl) ?_
  intro zp ze zs zm za zb zt zc zA zQ ls hC hw hl hret
  replace hC : CallFix zp zm zc cX4_power 5 zs za wsX4_power RX4 := hC
  replace hl : lv_has ls 5 [(0, .int (nI (k))), (1, .int (nI (t)))] := hl
  refine lv_lconst (v := lN 1) hC.1 hC.2.1 dX4_power_0 (by decide) ?_
  refine lv_lstore_n (lv' := [(2, .long (lN (1))), (0, .int (nI (k))), (1, .int (nI (t)))]) hC.1 hC.2.1 dX4_power_1 rfl hl (by decide) rfl (fun ls hl => ?_)
  refine lv_iconst (v := nI 0) hC.1 hC.2.1 dX4_power_2 (by decide) ?_
  refine lv_istore (lv' := [(4, .int (nI (0))), (2, .long (lN (1))), (0, .int (nI (k))), (1, .int (nI (t)))]) hC.1 hC.2.1 dX4_power_3 hl (by decide) rfl (fun ls hl => ?_)
  have K5 : ∀ (zk : Nat), ∀ (w : Nat) (i : Nat) (H : Heap) (locs : List Loc) (ls : Array Slot), t - i < zk → (i ≤ t) → (w = k ^ i) → Wd dC dI (tysA cyI cyJ cyZ cyS) [] zA zs H locs → lv_has ls 5 [(0, .int (nI (k))), (1, .int (nI (t))), (2, .long (lN (w))), (4, .int (nI (i)))] → W zp l ze ({ frames := 0, cells := 0, slots := 0, locals := 0 } : Room) zs zm za zb zt zc H locs 0 0 zQ (F0 zm 5 ls []) := by
    intro zk
    induction zk with
    | zero => intro w i H locs ls h0; exact absurd h0 (Nat.not_lt_zero _)
    | succ zk ih5 =>
      intro w i H locs ls hmu hi hw0 hw hl
      refine lv_iload hC.1 hC.2.1 dX4_power_5 (lv_at hl 3 rfl) ?_
      refine lv_iload_n hC.1 hC.2.1 dX4_power_7 rfl (lv_at hl 1 rfl) ?_
      refine n_icmp_ge (tgt := 22) hC dX4_power_8 (by decide) (by omega) (by omega) (fun c_8 => ?_) (fun c_8 => ?_)
      · skip
        obtain rfl : t = i := by omega
        refine lv_lload_n hC.1 hC.2.1 dX4_power_22 rfl (lv_at hl 2 rfl) ?_
        exact hret _ _ _ ls (lN (w)) () dX4_power_23 (by rw [hw0]) hw
      · skip
        refine lv_lload_n hC.1 hC.2.1 dX4_power_11 rfl (lv_at hl 2 rfl) ?_
        refine lv_iload_n hC.1 hC.2.1 dX4_power_12 rfl (lv_at hl 0 rfl) ?_
        refine n_i2l hC dX4_power_13 (by omega) ?_
        refine n_lmul hC dX4_power_14 ?_
        refine lv_lstore_n (lv' := [(2, .long (lN (w * k))), (0, .int (nI (k))), (1, .int (nI (t))), (4, .int (nI (i)))]) hC.1 hC.2.1 dX4_power_15 rfl hl (by decide) rfl (fun ls hl => ?_)
        refine lv_iinc (v := nI (i + 1)) (lv' := [(4, .int (nI (i + 1))), (2, .long (lN (w * k))), (0, .int (nI (k))), (1, .int (nI (t)))]) hC.1 hC.2.1 dX4_power_16 hl (k := 3) rfl (nI_inc i 1) (by decide) rfl (fun ls hl => ?_)
        refine lv_goto (tgt := 5) hC.1 hC.2.1 dX4_power_19 (by decide) ?_
        exact ih5 (w * k) (i + 1) _ _ ls (by omega) (by omega) (by rw [hw0, Nat.pow_succ]) hw (lv_sub hl [2, 3, 1, 0] rfl)
  exact K5 _ 1 0 _ _ ls (Nat.lt_succ_self _) (by omega) (by rfl) hw (lv_sub hl [2, 3, 1, 0] rfl)

set_option maxHeartbeats 4000000 in
set_option maxRecDepth 100000 in
theorem c_X4_rowsWithOneGreatest (l : Launch) (dC : Nat → ClassId) (dI : Nat → Nat → Nat) (cyI cyJ cyZ cyS : ClassId) (ad : Nat → Nat) (k t : Nat) (hk : k < 2 ^ 31) (ht : t < 2 ^ 31) (ht0 : 0 < t) : CtL l yX4_rowsWithOneGreatest wsX4_rowsWithOneGreatest ({ frames := 1, cells := 0, slots := 0, locals := 24 } : Room) dC dI (tysA cyI cyJ cyZ cyS) [.int (nI (k)), .int (nI (t))] [] (S := Unit) (fun (r : Int64) (u : Unit) => (r = lN (t * pwTo (t - 1) k))) (fun (u : Unit) => []) := by
  refine CtL.mk (cc := cX4_rowsWithOneGreatest) (maxL := 5) (by decide) rfl (Nat.le_of_ble_eq_true rfl) ?_
  intro zp ze zs zm za zb zt zc zA zQ ls hC hw hl hret
  replace hC : CallFix zp zm zc cX4_rowsWithOneGreatest 5 zs za wsX4_rowsWithOneGreatest RX4 := hC
  replace hl : lv_has ls 5 [(0, .int (nI (k))), (1, .int (nI (t)))] := hl
  refine lv_lconst (v := lN 0) hC.1 hC.2.1 dX4_rowsWithOneGreatest_0 (by decide) ?_
  refine lv_lstore_n (lv' := [(2, .long (lN (0))), (0, .int (nI (k))), (1, .int (nI (t)))]) hC.1 hC.2.1 dX4_rowsWithOneGreatest_1 rfl hl (by decide) rfl (fun ls hl => ?_)
  refine lv_iconst (v := nI 0) hC.1 hC.2.1 dX4_rowsWithOneGreatest_2 (by decide) ?_
  refine lv_istore (lv' := [(4, .int (nI (0))), (2, .long (lN (0))), (0, .int (nI (k))), (1, .int (nI (t)))]) hC.1 hC.2.1 dX4_rowsWithOneGreatest_3 hl (by decide) rfl (fun ls hl => ?_)
  have K5 : ∀ (zk : Nat), ∀ (w : Nat) (i : Nat) (H : Heap) (locs : List Loc) (ls : Array Slot), k - i < zk → (i ≤ k) → (w = pwTo (t - 1) i) → Wd dC dI (tysA cyI cyJ cyZ cyS) [] zA zs H locs → lv_has ls 5 [(0, .int (nI (k))), (1, .int (nI (t))), (2, .long (lN (w))), (4, .int (nI (i)))] → W zp l ze ({ frames := 1, cells := 0, slots := 0, locals := 24 } : Room) zs zm za zb zt zc H locs 0 0 zQ (F0 zm 5 ls []) := by
    intro zk
    induction zk with
    | zero => intro w i H locs ls h0; exact absurd h0 (Nat.not_lt_zero _)
    | succ zk ih5 =>
      intro w i H locs ls hmu hi hw0 hw hl
      refine lv_iload hC.1 hC.2.1 dX4_rowsWithOneGreatest_5 (lv_at hl 3 rfl) ?_
      refine lv_iload_n hC.1 hC.2.1 dX4_rowsWithOneGreatest_7 rfl (lv_at hl 0 rfl) ?_
      refine n_icmp_ge (tgt := 28) hC dX4_rowsWithOneGreatest_8 (by decide) (by omega) (by omega) (fun c_8 => ?_) (fun c_8 => ?_)
      · skip
        obtain rfl : k = i := by omega
        refine lv_iload_n hC.1 hC.2.1 dX4_rowsWithOneGreatest_28 rfl (lv_at hl 1 rfl) ?_
        refine n_i2l hC dX4_rowsWithOneGreatest_29 (by omega) ?_
        refine lv_lload_n hC.1 hC.2.1 dX4_rowsWithOneGreatest_30 rfl (lv_at hl 2 rfl) ?_
        refine n_lmul hC dX4_rowsWithOneGreatest_31 ?_
        exact hret _ _ _ ls (lN (t * w)) () dX4_rowsWithOneGreatest_32 (by rw [hw0]) hw
      · skip
        refine lv_lload_n hC.1 hC.2.1 dX4_rowsWithOneGreatest_11 rfl (lv_at hl 2 rfl) ?_
        refine lv_iload hC.1 hC.2.1 dX4_rowsWithOneGreatest_12 (lv_at hl 3 rfl) ?_
        refine lv_iload_n hC.1 hC.2.1 dX4_rowsWithOneGreatest_14 rfl (lv_at hl 1 rfl) ?_
        refine lv_iconst (v := nI 1) hC.1 hC.2.1 dX4_rowsWithOneGreatest_15 (by decide) ?_
        refine n_isub hC dX4_rowsWithOneGreatest_16 (by omega) ?_
        refine W.ccL (wc := []) (wr := []) (ws1 := fun (u : Unit) => []) (ws2 := fun (u : Unit) => []) hw [] [] [] rfl rfl (by decide) (by decide) (by decide) (fun _ => rfl) (Wd.runS (wc := []) (rest := [.long (lN (w))]) (As := [.int (nI (i)), .int (nI (t - 1))]) hC hw [] rfl (by decide) (va_cwS 2 hC.2.2.2.2 gX4_rowsWithOneGreatest_X4_power rfl rfl rfl (by decide +kernel) ⟨Nat.le_of_ble_eq_true rfl, Nat.le_of_ble_eq_true rfl⟩) (c_X4_power l dC dI cyI cyJ cyZ cyS ad i (t - 1) (by omega) (by omega) _) rfl hl.1 rfl (Nat.le_of_ble_eq_true rfl) dX4_rowsWithOneGreatest_17 ⟨Nat.zero_le _, Nat.zero_le _⟩) (fun r_17 u H locs hr_17 hw => ?_)
        replace hw : Wd dC dI (tysA cyI cyJ cyZ cyS) [] zA zs H locs := hw
        subst hr_17
        refine n_ladd hC dX4_rowsWithOneGreatest_20 ?_
        refine lv_lstore_n (lv' := [(2, .long (lN (w + (i ^ (t - 1))))), (0, .int (nI (k))), (1, .int (nI (t))), (4, .int (nI (i)))]) hC.1 hC.2.1 dX4_rowsWithOneGreatest_21 rfl hl (by decide) rfl (fun ls hl => ?_)
        refine lv_iinc (v := nI (i + 1)) (lv' := [(4, .int (nI (i + 1))), (2, .long (lN (w + (i ^ (t - 1))))), (0, .int (nI (k))), (1, .int (nI (t)))]) hC.1 hC.2.1 dX4_rowsWithOneGreatest_22 hl (k := 3) rfl (nI_inc i 1) (by decide) rfl (fun ls hl => ?_)
        refine lv_goto (tgt := 5) hC.1 hC.2.1 dX4_rowsWithOneGreatest_25 (by decide) ?_
        exact ih5 (w + (i ^ (t - 1))) (i + 1) _ _ ls (by omega) (by omega) (by rw [hw0]; rfl) hw (lv_sub hl [2, 3, 1, 0] rfl)
  exact K5 _ 0 0 _ _ ls (Nat.lt_succ_self _) (by omega) (by rfl) hw (lv_sub hl [2, 3, 1, 0] rfl)

set_option maxHeartbeats 4000000 in
set_option maxRecDepth 100000 in
theorem c_X4_rowAt_y (l : Launch) (dC : Nat → ClassId) (dI : Nat → Nat → Nat) (cyI cyJ cyZ cyS : ClassId) (ad : Nat → Nat) (tq ft : Int32) (j : Nat) (hj : j < 4) : CtQ l yX4_rowAt wsX4_rowAt ({ frames := 0, cells := 0, slots := 0, locals := 0 } : Room) dC dI (tysA cyI cyJ cyZ cyS) [.ref ((ad 0)), .int (nI (j))] [((ad 0), .inr (4, [.ref ((ad 1)), .ref ((ad 8)), .ref ((ad 13)), .ref ((ad 19)), .int (tq), .int (ft)])), ((ad 19), .inl (cyS, 4, .inr (.inr (.inr (.inr (rowsF ad))))))] (S := Unit) (fun (r : Option Nat) (u : Unit) => (r = some (ad (20 + j)))) (fun (u : Unit) => [((ad 0), .inr (4, [.ref ((ad 1)), .ref ((ad 8)), .ref ((ad 13)), .ref ((ad 19)), .int (tq), .int (ft)])), ((ad 19), .inl (cyS, 4, .inr (.inr (.inr (.inr (rowsF ad))))))]) := by
  refine CtQ.mk (cc := cX4_rowAt) (maxL := 2) (by decide) rfl (Nat.le_of_ble_eq_true rfl) ?_
  intro zp ze zs zm za zb zt zc zA zQ ls hC hw hl hret
  replace hC : CallFix zp zm zc cX4_rowAt 2 zs za wsX4_rowAt RX4 := hC
  replace hl : lv_has ls 2 [(0, .ref ((ad 0))), (1, .int (nI (j)))] := hl
  have hin4 : ∀ w ∈ u_ws RX4 TX4 6, w ∈ wsX4_rowAt := by decide +kernel
  have lk36 : Cond.fieldLink RX4 36 (TX4 3).1 (TX4 3).2.1 (TX4 3).2.2.1 ∈ wsX4_rowAt := by decide +kernel
  refine lv_iload_n hC.1 hC.2.1 dX4_rowAt_0 rfl (lv_at hl 1 rfl) ?_
  refine n_if_lt (tgt := 18) hC dX4_rowAt_1 (by decide) (by omega) ?_
  refine lv_iload_n hC.1 hC.2.1 dX4_rowAt_4 rfl (lv_at hl 1 rfl) ?_
  refine lv_iconst (v := nI 4) hC.1 hC.2.1 dX4_rowAt_5 (by decide) ?_
  refine n_icmp_ge (tgt := 18) hC dX4_rowAt_6 (by decide) (by omega) (by omega) (fun c_6 => ?_) (fun c_6 => ?_)
  · skip
    exfalso; omega
  · skip
    refine lv_aload_n hC.1 hC.2.1 dX4_rowAt_9 rfl (lv_at hl 0 rfl) ?_
    refine g_get hC hw hin4 0 rfl rfl 3 (by decide) lk36 rfl dX4_rowAt_10 ?_
    refine lv_iload_n hC.1 hC.2.1 dX4_rowAt_13 rfl (lv_at hl 1 rfl) ?_
    refine g_aldq hC hw 1 3 rfl rfl (by omega) (by decide) dX4_rowAt_14 ?_
    refine lv_goto (tgt := 19) hC.1 hC.2.1 dX4_rowAt_15 (by decide) ?_
    exact hret _ _ _ ls ((rowsF ad) j) () dX4_rowAt_19 rfl hw

set_option maxHeartbeats 4000000 in
set_option maxRecDepth 100000 in
theorem c_X4_rowAt_n (l : Launch) (dC : Nat → ClassId) (dI : Nat → Nat → Nat) (cyI cyJ cyZ cyS : ClassId) (ad : Nat → Nat) (tq ft : Int32) (x : Int32) (hx : ¬ vp_in x 4) : CtQ l yX4_rowAt wsX4_rowAt ({ frames := 0, cells := 0, slots := 0, locals := 0 } : Room) dC dI (tysA cyI cyJ cyZ cyS) [.ref ((ad 0)), .int (x)] [((ad 0), .inr (4, [.ref ((ad 1)), .ref ((ad 8)), .ref ((ad 13)), .ref ((ad 19)), .int (tq), .int (ft)])), ((ad 19), .inl (cyS, 4, .inr (.inr (.inr (.inr (rowsF ad))))))] (S := Unit) (fun (r : Option Nat) (u : Unit) => (r = none)) (fun (u : Unit) => [((ad 0), .inr (4, [.ref ((ad 1)), .ref ((ad 8)), .ref ((ad 13)), .ref ((ad 19)), .int (tq), .int (ft)])), ((ad 19), .inl (cyS, 4, .inr (.inr (.inr (.inr (rowsF ad))))))]) := by
  refine CtQ.mk (cc := cX4_rowAt) (maxL := 2) (by decide) rfl (Nat.le_of_ble_eq_true rfl) ?_
  intro zp ze zs zm za zb zt zc zA zQ ls hC hw hl hret
  replace hC : CallFix zp zm zc cX4_rowAt 2 zs za wsX4_rowAt RX4 := hC
  replace hl : lv_has ls 2 [(0, .ref ((ad 0))), (1, .int (x))] := hl
  refine lv_iload_n hC.1 hC.2.1 dX4_rowAt_0 rfl (lv_at hl 1 rfl) ?_
  refine lv_if_lt (tgt := 18) hC.1 hC.2.1 dX4_rowAt_1 (by decide) (fun c_1 => ?_) (fun c_1 => ?_)
  · skip
    refine lv_null hC.1 hC.2.1 dX4_rowAt_18 ?_
    exact hret _ _ _ ls none () dX4_rowAt_19 rfl hw
  · skip
    refine lv_iload_n hC.1 hC.2.1 dX4_rowAt_4 rfl (lv_at hl 1 rfl) ?_
    refine lv_iconst (v := nI 4) hC.1 hC.2.1 dX4_rowAt_5 (by decide) ?_
    refine lv_icmp_ge (tgt := 18) hC.1 hC.2.1 dX4_rowAt_6 (by decide) (fun c_6 => ?_) (fun c_6 => ?_)
    · skip
      refine lv_null hC.1 hC.2.1 dX4_rowAt_18 ?_
      exact hret _ _ _ ls none () dX4_rowAt_19 rfl hw
    · skip
      exfalso; exact hx ((in_ge (by decide)).mpr ⟨c_1, c_6⟩)

set_option maxHeartbeats 4000000 in
set_option maxRecDepth 100000 in
theorem c_X4_faultAsRowOf_n (l : Launch) (dC : Nat → ClassId) (dI : Nat → Nat → Nat) (cyI cyJ cyZ cyS : ClassId) (ad : Nat → Nat) (sA cA th ln sz : Nat) (cl : Nat → Int32) (a : Nat) (hth : th = 0) (hl : ln < 2 ^ 31) (ha : a < 2 ^ 31) : CtI l yX4_faultAsRowOf wsX4_faultAsRowOf ({ frames := 0, cells := 0, slots := 0, locals := 0 } : Room) dC dI (tysA cyI cyJ cyZ cyS) [.ref (sA), .int (nI (a))] [(sA, .inr (3, [.int (nI (th)), .int (nI (ln)), .int (nI (sz)), .ref (cA)])), (cA, .inl (cyI, 60, .inl cl))] (S := Unit) (fun (r : Int32) (u : Unit) => (r = nI (1))) (fun (u : Unit) => [(sA, .inr (3, [.int (nI (th)), .int (nI (ln)), .int (nI (sz)), .ref (cA)])), (cA, .inl (cyI, 60, .inl cl))]) := by
  refine CtI.mk (cc := cX4_faultAsRowOf) (maxL := 2) (by decide) rfl (Nat.le_of_ble_eq_true rfl) ?_
  intro zp ze zs zm za zb zt zc zA zQ ls hC hw hl hret
  replace hC : CallFix zp zm zc cX4_faultAsRowOf 2 zs za wsX4_faultAsRowOf RX4 := hC
  replace hl : lv_has ls 2 [(0, .ref (sA)), (1, .int (nI (a)))] := hl
  have hin3 : ∀ w ∈ u_ws RX3 TX3 4, w ∈ wsX4_faultAsRowOf := by decide +kernel
  have lk211 : Cond.fieldLink RX4 211 (TX3 0).1 (TX3 0).2.1 (TX3 0).2.2.1 ∈ wsX4_faultAsRowOf := by decide +kernel
  refine lv_aload_n hC.1 hC.2.1 dX4_faultAsRowOf_0 rfl (lv_at hl 0 rfl) ?_
  refine g_get hC hw hin3 0 rfl rfl 0 (by decide) lk211 rfl dX4_faultAsRowOf_1 ?_
  refine n_if_ne (tgt := 9) hC dX4_faultAsRowOf_4 (by decide) (by omega) (fun c_4 => ?_) (fun c_4 => ?_)
  · skip
    exfalso; omega
  · skip
    refine lv_iconst (v := nI 1) hC.1 hC.2.1 dX4_faultAsRowOf_7 (by decide) ?_
    exact hret _ _ _ ls (nI (1)) () dX4_faultAsRowOf_8 rfl rfl hw

set_option maxHeartbeats 4000000 in
set_option maxRecDepth 100000 in
theorem c_X4_faultAsRowOf_y (l : Launch) (dC : Nat → ClassId) (dI : Nat → Nat → Nat) (cyI cyJ cyZ cyS : ClassId) (ad : Nat → Nat) (sA cA th ln sz : Nat) (cl : Nat → Int32) (a : Nat) (hth : th = 1) (hl : ln < 2 ^ 31) (ha : a < 2 ^ 31) (hla : ln = a) : CtI l yX4_faultAsRowOf wsX4_faultAsRowOf ({ frames := 0, cells := 0, slots := 0, locals := 0 } : Room) dC dI (tysA cyI cyJ cyZ cyS) [.ref (sA), .int (nI (a))] [(sA, .inr (3, [.int (nI (th)), .int (nI (ln)), .int (nI (sz)), .ref (cA)])), (cA, .inl (cyI, 60, .inl cl))] (S := Unit) (fun (r : Int32) (u : Unit) => (r = nI (0))) (fun (u : Unit) => [(sA, .inr (3, [.int (nI (th)), .int (nI (ln)), .int (nI (sz)), .ref (cA)])), (cA, .inl (cyI, 60, .inl cl))]) := by
  refine CtI.mk (cc := cX4_faultAsRowOf) (maxL := 2) (by decide) rfl (Nat.le_of_ble_eq_true rfl) ?_
  intro zp ze zs zm za zb zt zc zA zQ ls hC hw hl hret
  replace hC : CallFix zp zm zc cX4_faultAsRowOf 2 zs za wsX4_faultAsRowOf RX4 := hC
  replace hl : lv_has ls 2 [(0, .ref (sA)), (1, .int (nI (a)))] := hl
  have hin3 : ∀ w ∈ u_ws RX3 TX3 4, w ∈ wsX4_faultAsRowOf := by decide +kernel
  have lk211 : Cond.fieldLink RX4 211 (TX3 0).1 (TX3 0).2.1 (TX3 0).2.2.1 ∈ wsX4_faultAsRowOf := by decide +kernel
  have lk215 : Cond.fieldLink RX4 215 (TX3 1).1 (TX3 1).2.1 (TX3 1).2.2.1 ∈ wsX4_faultAsRowOf := by decide +kernel
  refine lv_aload_n hC.1 hC.2.1 dX4_faultAsRowOf_0 rfl (lv_at hl 0 rfl) ?_
  refine g_get hC hw hin3 0 rfl rfl 0 (by decide) lk211 rfl dX4_faultAsRowOf_1 ?_
  refine n_if_ne (tgt := 9) hC dX4_faultAsRowOf_4 (by decide) (by omega) (fun c_4 => ?_) (fun c_4 => ?_)
  · skip
    refine lv_aload_n hC.1 hC.2.1 dX4_faultAsRowOf_9 rfl (lv_at hl 0 rfl) ?_
    refine g_get hC hw hin3 0 rfl rfl 1 (by decide) lk215 rfl dX4_faultAsRowOf_10 ?_
    refine lv_iload_n hC.1 hC.2.1 dX4_faultAsRowOf_13 rfl (lv_at hl 1 rfl) ?_
    refine n_icmp_ne (tgt := 21) hC dX4_faultAsRowOf_14 (by decide) (by omega) (by omega) (fun c_14 => ?_) (fun c_14 => ?_)
    · skip
      exfalso; omega
    · skip
      refine lv_iconst (v := nI 0) hC.1 hC.2.1 dX4_faultAsRowOf_17 (by decide) ?_
      refine lv_goto (tgt := 22) hC.1 hC.2.1 dX4_faultAsRowOf_18 (by decide) ?_
      exact hret _ _ _ ls (nI (0)) () dX4_faultAsRowOf_22 rfl rfl hw
  · skip
    exfalso; omega

set_option maxHeartbeats 4000000 in
set_option maxRecDepth 100000 in
theorem c_X4_faultAsRowOf_c (l : Launch) (dC : Nat → ClassId) (dI : Nat → Nat → Nat) (cyI cyJ cyZ cyS : ClassId) (ad : Nat → Nat) (sA cA th ln sz : Nat) (cl : Nat → Int32) (a : Nat) (hth : th = 1) (hl : ln < 2 ^ 31) (ha : a < 2 ^ 31) (hla : ¬ ln = a) : CtI l yX4_faultAsRowOf wsX4_faultAsRowOf ({ frames := 0, cells := 0, slots := 0, locals := 0 } : Room) dC dI (tysA cyI cyJ cyZ cyS) [.ref (sA), .int (nI (a))] [(sA, .inr (3, [.int (nI (th)), .int (nI (ln)), .int (nI (sz)), .ref (cA)])), (cA, .inl (cyI, 60, .inl cl))] (S := Unit) (fun (r : Int32) (u : Unit) => (r = nI (2))) (fun (u : Unit) => [(sA, .inr (3, [.int (nI (th)), .int (nI (ln)), .int (nI (sz)), .ref (cA)])), (cA, .inl (cyI, 60, .inl cl))]) := by
  refine CtI.mk (cc := cX4_faultAsRowOf) (maxL := 2) (by decide) rfl (Nat.le_of_ble_eq_true rfl) ?_
  intro zp ze zs zm za zb zt zc zA zQ ls hC hw hl hret
  replace hC : CallFix zp zm zc cX4_faultAsRowOf 2 zs za wsX4_faultAsRowOf RX4 := hC
  replace hl : lv_has ls 2 [(0, .ref (sA)), (1, .int (nI (a)))] := hl
  have hin3 : ∀ w ∈ u_ws RX3 TX3 4, w ∈ wsX4_faultAsRowOf := by decide +kernel
  have lk211 : Cond.fieldLink RX4 211 (TX3 0).1 (TX3 0).2.1 (TX3 0).2.2.1 ∈ wsX4_faultAsRowOf := by decide +kernel
  have lk215 : Cond.fieldLink RX4 215 (TX3 1).1 (TX3 1).2.1 (TX3 1).2.2.1 ∈ wsX4_faultAsRowOf := by decide +kernel
  refine lv_aload_n hC.1 hC.2.1 dX4_faultAsRowOf_0 rfl (lv_at hl 0 rfl) ?_
  refine g_get hC hw hin3 0 rfl rfl 0 (by decide) lk211 rfl dX4_faultAsRowOf_1 ?_
  refine n_if_ne (tgt := 9) hC dX4_faultAsRowOf_4 (by decide) (by omega) (fun c_4 => ?_) (fun c_4 => ?_)
  · skip
    refine lv_aload_n hC.1 hC.2.1 dX4_faultAsRowOf_9 rfl (lv_at hl 0 rfl) ?_
    refine g_get hC hw hin3 0 rfl rfl 1 (by decide) lk215 rfl dX4_faultAsRowOf_10 ?_
    refine lv_iload_n hC.1 hC.2.1 dX4_faultAsRowOf_13 rfl (lv_at hl 1 rfl) ?_
    refine n_icmp_ne (tgt := 21) hC dX4_faultAsRowOf_14 (by decide) (by omega) (by omega) (fun c_14 => ?_) (fun c_14 => ?_)
    · skip
      refine lv_iconst (v := nI 2) hC.1 hC.2.1 dX4_faultAsRowOf_21 (by decide) ?_
      exact hret _ _ _ ls (nI (2)) () dX4_faultAsRowOf_22 rfl rfl hw
    · skip
      exfalso; omega
  · skip
    exfalso; omega

set_option maxHeartbeats 4000000 in
set_option maxRecDepth 100000 in
theorem c_X4_comeTo_1 (l : Launch) (dC : Nat → ClassId) (dI : Nat → Nat → Nat) (cyI cyJ cyZ cyS : ClassId) (ad : Nat → Nat) (tq ft : Int32) : CtI l yX4_comeTo wsX4_comeTo ({ frames := 0, cells := 0, slots := 0, locals := 0 } : Room) dC dI (tysA cyI cyJ cyZ cyS) [.ref ((ad 0)), .int (nI (1))] [((ad 0), .inr (4, [.ref ((ad 1)), .ref ((ad 8)), .ref ((ad 13)), .ref ((ad 19)), .int (tq), .int (ft)]))] (S := Unit) (fun (r : Int32) (u : Unit) => (r = (-11))) (fun (u : Unit) => [((ad 0), .inr (4, [.ref ((ad 1)), .ref ((ad 8)), .ref ((ad 13)), .ref ((ad 19)), .int (tq), .int (nI 1)]))]) := by
  refine CtI.mk (cc := cX4_comeTo) (maxL := 2) (by decide) rfl (Nat.le_of_ble_eq_true rfl) ?_
  intro zp ze zs zm za zb zt zc zA zQ ls hC hw hl hret
  replace hC : CallFix zp zm zc cX4_comeTo 2 zs za wsX4_comeTo RX4 := hC
  replace hl : lv_has ls 2 [(0, .ref ((ad 0))), (1, .int (nI (1)))] := hl
  have hin4 : ∀ w ∈ u_ws RX4 TX4 6, w ∈ wsX4_comeTo := by decide +kernel
  have lk83 : Cond.fieldLink RX4 83 (TX4 5).1 (TX4 5).2.1 (TX4 5).2.2.1 ∈ wsX4_comeTo := by decide +kernel
  refine lv_aload_n hC.1 hC.2.1 dX4_comeTo_0 rfl (lv_at hl 0 rfl) ?_
  refine lv_iload_n hC.1 hC.2.1 dX4_comeTo_1 rfl (lv_at hl 1 rfl) ?_
  refine g_put hC hw hin4 tyX4 tyX4_ok nmX4 0 rfl rfl 5 (by decide) lk83 rfl rfl (by first | rfl | decide) (Nat.le_of_ble_eq_true rfl) dX4_comeTo_2 (fun H locs hw => ?_)
  replace hw : Wd dC dI (tysA cyI cyJ cyZ cyS) [((ad 0), .inr (4, [.ref ((ad 1)), .ref ((ad 8)), .ref ((ad 13)), .ref ((ad 19)), .int (tq), .int (nI (1))]))] zA zs H locs := hw
  refine lv_bipush (v := (-10)) hC.1 hC.2.1 dX4_comeTo_5 (by decide) ?_
  refine lv_iload_n hC.1 hC.2.1 dX4_comeTo_7 rfl (lv_at hl 1 rfl) ?_
  refine lv_isub hC.1 hC.2.1 dX4_comeTo_8 ?_
  exact hret _ _ _ ls ((-10) - (nI (1))) () dX4_comeTo_9 rfl (by rfl) hw

set_option maxHeartbeats 4000000 in
set_option maxRecDepth 100000 in
theorem c_X4_comeTo_2 (l : Launch) (dC : Nat → ClassId) (dI : Nat → Nat → Nat) (cyI cyJ cyZ cyS : ClassId) (ad : Nat → Nat) (tq ft : Int32) : CtI l yX4_comeTo wsX4_comeTo ({ frames := 0, cells := 0, slots := 0, locals := 0 } : Room) dC dI (tysA cyI cyJ cyZ cyS) [.ref ((ad 0)), .int (nI (2))] [((ad 0), .inr (4, [.ref ((ad 1)), .ref ((ad 8)), .ref ((ad 13)), .ref ((ad 19)), .int (tq), .int (ft)]))] (S := Unit) (fun (r : Int32) (u : Unit) => (r = (-12))) (fun (u : Unit) => [((ad 0), .inr (4, [.ref ((ad 1)), .ref ((ad 8)), .ref ((ad 13)), .ref ((ad 19)), .int (tq), .int (nI 2)]))]) := by
  refine CtI.mk (cc := cX4_comeTo) (maxL := 2) (by decide) rfl (Nat.le_of_ble_eq_true rfl) ?_
  intro zp ze zs zm za zb zt zc zA zQ ls hC hw hl hret
  replace hC : CallFix zp zm zc cX4_comeTo 2 zs za wsX4_comeTo RX4 := hC
  replace hl : lv_has ls 2 [(0, .ref ((ad 0))), (1, .int (nI (2)))] := hl
  have hin4 : ∀ w ∈ u_ws RX4 TX4 6, w ∈ wsX4_comeTo := by decide +kernel
  have lk83 : Cond.fieldLink RX4 83 (TX4 5).1 (TX4 5).2.1 (TX4 5).2.2.1 ∈ wsX4_comeTo := by decide +kernel
  refine lv_aload_n hC.1 hC.2.1 dX4_comeTo_0 rfl (lv_at hl 0 rfl) ?_
  refine lv_iload_n hC.1 hC.2.1 dX4_comeTo_1 rfl (lv_at hl 1 rfl) ?_
  refine g_put hC hw hin4 tyX4 tyX4_ok nmX4 0 rfl rfl 5 (by decide) lk83 rfl rfl (by first | rfl | decide) (Nat.le_of_ble_eq_true rfl) dX4_comeTo_2 (fun H locs hw => ?_)
  replace hw : Wd dC dI (tysA cyI cyJ cyZ cyS) [((ad 0), .inr (4, [.ref ((ad 1)), .ref ((ad 8)), .ref ((ad 13)), .ref ((ad 19)), .int (tq), .int (nI (2))]))] zA zs H locs := hw
  refine lv_bipush (v := (-10)) hC.1 hC.2.1 dX4_comeTo_5 (by decide) ?_
  refine lv_iload_n hC.1 hC.2.1 dX4_comeTo_7 rfl (lv_at hl 1 rfl) ?_
  refine lv_isub hC.1 hC.2.1 dX4_comeTo_8 ?_
  exact hret _ _ _ ls ((-10) - (nI (2))) () dX4_comeTo_9 rfl (by rfl) hw

set_option maxHeartbeats 4000000 in
set_option maxRecDepth 100000 in
theorem c_X4_comeTo_3 (l : Launch) (dC : Nat → ClassId) (dI : Nat → Nat → Nat) (cyI cyJ cyZ cyS : ClassId) (ad : Nat → Nat) (tq ft : Int32) : CtI l yX4_comeTo wsX4_comeTo ({ frames := 0, cells := 0, slots := 0, locals := 0 } : Room) dC dI (tysA cyI cyJ cyZ cyS) [.ref ((ad 0)), .int (nI (3))] [((ad 0), .inr (4, [.ref ((ad 1)), .ref ((ad 8)), .ref ((ad 13)), .ref ((ad 19)), .int (tq), .int (ft)]))] (S := Unit) (fun (r : Int32) (u : Unit) => (r = (-13))) (fun (u : Unit) => [((ad 0), .inr (4, [.ref ((ad 1)), .ref ((ad 8)), .ref ((ad 13)), .ref ((ad 19)), .int (tq), .int (nI 3)]))]) := by
  refine CtI.mk (cc := cX4_comeTo) (maxL := 2) (by decide) rfl (Nat.le_of_ble_eq_true rfl) ?_
  intro zp ze zs zm za zb zt zc zA zQ ls hC hw hl hret
  replace hC : CallFix zp zm zc cX4_comeTo 2 zs za wsX4_comeTo RX4 := hC
  replace hl : lv_has ls 2 [(0, .ref ((ad 0))), (1, .int (nI (3)))] := hl
  have hin4 : ∀ w ∈ u_ws RX4 TX4 6, w ∈ wsX4_comeTo := by decide +kernel
  have lk83 : Cond.fieldLink RX4 83 (TX4 5).1 (TX4 5).2.1 (TX4 5).2.2.1 ∈ wsX4_comeTo := by decide +kernel
  refine lv_aload_n hC.1 hC.2.1 dX4_comeTo_0 rfl (lv_at hl 0 rfl) ?_
  refine lv_iload_n hC.1 hC.2.1 dX4_comeTo_1 rfl (lv_at hl 1 rfl) ?_
  refine g_put hC hw hin4 tyX4 tyX4_ok nmX4 0 rfl rfl 5 (by decide) lk83 rfl rfl (by first | rfl | decide) (Nat.le_of_ble_eq_true rfl) dX4_comeTo_2 (fun H locs hw => ?_)
  replace hw : Wd dC dI (tysA cyI cyJ cyZ cyS) [((ad 0), .inr (4, [.ref ((ad 1)), .ref ((ad 8)), .ref ((ad 13)), .ref ((ad 19)), .int (tq), .int (nI (3))]))] zA zs H locs := hw
  refine lv_bipush (v := (-10)) hC.1 hC.2.1 dX4_comeTo_5 (by decide) ?_
  refine lv_iload_n hC.1 hC.2.1 dX4_comeTo_7 rfl (lv_at hl 1 rfl) ?_
  refine lv_isub hC.1 hC.2.1 dX4_comeTo_8 ?_
  exact hret _ _ _ ls ((-10) - (nI (3))) () dX4_comeTo_9 rfl (by rfl) hw

set_option maxHeartbeats 4000000 in
set_option maxRecDepth 100000 in
theorem c_X4_comeTo_4 (l : Launch) (dC : Nat → ClassId) (dI : Nat → Nat → Nat) (cyI cyJ cyZ cyS : ClassId) (ad : Nat → Nat) (tq ft : Int32) : CtI l yX4_comeTo wsX4_comeTo ({ frames := 0, cells := 0, slots := 0, locals := 0 } : Room) dC dI (tysA cyI cyJ cyZ cyS) [.ref ((ad 0)), .int (nI (4))] [((ad 0), .inr (4, [.ref ((ad 1)), .ref ((ad 8)), .ref ((ad 13)), .ref ((ad 19)), .int (tq), .int (ft)]))] (S := Unit) (fun (r : Int32) (u : Unit) => (r = (-14))) (fun (u : Unit) => [((ad 0), .inr (4, [.ref ((ad 1)), .ref ((ad 8)), .ref ((ad 13)), .ref ((ad 19)), .int (tq), .int (nI 4)]))]) := by
  refine CtI.mk (cc := cX4_comeTo) (maxL := 2) (by decide) rfl (Nat.le_of_ble_eq_true rfl) ?_
  intro zp ze zs zm za zb zt zc zA zQ ls hC hw hl hret
  replace hC : CallFix zp zm zc cX4_comeTo 2 zs za wsX4_comeTo RX4 := hC
  replace hl : lv_has ls 2 [(0, .ref ((ad 0))), (1, .int (nI (4)))] := hl
  have hin4 : ∀ w ∈ u_ws RX4 TX4 6, w ∈ wsX4_comeTo := by decide +kernel
  have lk83 : Cond.fieldLink RX4 83 (TX4 5).1 (TX4 5).2.1 (TX4 5).2.2.1 ∈ wsX4_comeTo := by decide +kernel
  refine lv_aload_n hC.1 hC.2.1 dX4_comeTo_0 rfl (lv_at hl 0 rfl) ?_
  refine lv_iload_n hC.1 hC.2.1 dX4_comeTo_1 rfl (lv_at hl 1 rfl) ?_
  refine g_put hC hw hin4 tyX4 tyX4_ok nmX4 0 rfl rfl 5 (by decide) lk83 rfl rfl (by first | rfl | decide) (Nat.le_of_ble_eq_true rfl) dX4_comeTo_2 (fun H locs hw => ?_)
  replace hw : Wd dC dI (tysA cyI cyJ cyZ cyS) [((ad 0), .inr (4, [.ref ((ad 1)), .ref ((ad 8)), .ref ((ad 13)), .ref ((ad 19)), .int (tq), .int (nI (4))]))] zA zs H locs := hw
  refine lv_bipush (v := (-10)) hC.1 hC.2.1 dX4_comeTo_5 (by decide) ?_
  refine lv_iload_n hC.1 hC.2.1 dX4_comeTo_7 rfl (lv_at hl 1 rfl) ?_
  refine lv_isub hC.1 hC.2.1 dX4_comeTo_8 ?_
  exact hret _ _ _ ls ((-10) - (nI (4))) () dX4_comeTo_9 rfl (by rfl) hw

set_option maxHeartbeats 4000000 in
set_option maxRecDepth 100000 in
theorem c_X4_cutTo (l : Launch) (dC : Nat → ClassId) (dI : Nat → Nat → Nat) (cyI cyJ cyZ cyS : ClassId) (ad : Nat → Nat) (a : Nat) (v : Int32) (ha : a < 3) : CtI l yX4_cutTo wsX4_cutTo ({ frames := 0, cells := 0, slots := 0, locals := 0 } : Room) dC dI (tysA cyI cyJ cyZ cyS) [.int (nI (a)), .int (v)] [] (S := Unit) (fun (r : Int32) (u : Unit) => (r = cutL a v)) (fun (u : Unit) => []) := by
  refine CtI.mk (cc := cX4_cutTo) (maxL := 2) (by decide) rfl (Nat.le_of_ble_eq_true rfl) ?_
  intro zp ze zs zm za zb zt zc zA zQ ls hC hw hl hret
  replace hC : CallFix zp zm zc cX4_cutTo 2 zs za wsX4_cutTo RX4 := hC
  replace hl : lv_has ls 2 [(0, .int (nI (a))), (1, .int (v))] := hl
  refine lv_iload_n hC.1 hC.2.1 dX4_cutTo_0 rfl (lv_at hl 0 rfl) ?_
  refine n_if_ne (tgt := 7) hC dX4_cutTo_1 (by decide) (by omega) (fun c_1 => ?_) (fun c_1 => ?_)
  · skip
    refine lv_iload_n hC.1 hC.2.1 dX4_cutTo_7 rfl (lv_at hl 0 rfl) ?_
    refine lv_iconst (v := nI 1) hC.1 hC.2.1 dX4_cutTo_8 (by decide) ?_
    refine n_icmp_ne (tgt := 17) hC dX4_cutTo_9 (by decide) (by omega) (by omega) (fun c_9 => ?_) (fun c_9 => ?_)
    · skip
      refine lv_iload_n hC.1 hC.2.1 dX4_cutTo_17 rfl (lv_at hl 1 rfl) ?_
      exact hret _ _ _ ls (v) () dX4_cutTo_18 rfl (by first | (rw [cutL, if_neg (by omega), if_pos (by omega)]; done) | (rw [cutL, if_neg (by omega), if_neg (by omega)]; done)) hw
    · skip
      refine lv_iload_n hC.1 hC.2.1 dX4_cutTo_12 rfl (lv_at hl 1 rfl) ?_
      refine lv_i2s hC.1 hC.2.1 dX4_cutTo_13 rfl ?_
      refine lv_goto (tgt := 18) hC.1 hC.2.1 dX4_cutTo_14 (by decide) ?_
      exact hret _ _ _ ls (v.toInt16.toInt32) () dX4_cutTo_18 rfl (by first | (rw [cutL, if_neg (by omega), if_pos (by omega)]; done) | (rw [cutL, if_neg (by omega), if_neg (by omega)]; done)) hw
  · skip
    refine lv_iload_n hC.1 hC.2.1 dX4_cutTo_4 rfl (lv_at hl 1 rfl) ?_
    refine lv_i2b hC.1 hC.2.1 dX4_cutTo_5 rfl ?_
    exact hret _ _ _ ls (v.toInt8.toInt32) () dX4_cutTo_6 rfl (by rw [cutL, if_pos (by omega)]) hw

set_option maxHeartbeats 4000000 in
set_option maxRecDepth 100000 in
theorem c_X4_leave (l : Launch) (dC : Nat → ClassId) (dI : Nat → Nat → Nat) (cyI cyJ cyZ cyS : ClassId) (ad : Nat → Nat) (tq ft : Int32) (b : Nat) : CtV l yX4_leave wsX4_leave ({ frames := 0, cells := 0, slots := 0, locals := 0 } : Room) dC dI (tysA cyI cyJ cyZ cyS) [.ref ((ad 0)), .int (nI (b))] [((ad 0), .inr (4, [.ref ((ad 1)), .ref ((ad 8)), .ref ((ad 13)), .ref ((ad 19)), .int (tq), .int (ft)]))] (S := Unit) (fun (u : Unit) => True) (fun (u : Unit) => [((ad 0), .inr (4, [.ref ((ad 1)), .ref ((ad 8)), .ref ((ad 13)), .ref ((ad 19)), .int (nI 31 * tq + nI b), .int (ft)]))]) := by
  refine CtV.mk (cc := cX4_leave) (maxL := 2) (by decide) rfl (Nat.le_of_ble_eq_true rfl) ?_
  intro zp ze zs zm za zb zt zc zA zQ ls hC hw hl hret
  replace hC : CallFix zp zm zc cX4_leave 2 zs za wsX4_leave RX4 := hC
  replace hl : lv_has ls 2 [(0, .ref ((ad 0))), (1, .int (nI (b)))] := hl
  have hin4 : ∀ w ∈ u_ws RX4 TX4 6, w ∈ wsX4_leave := by decide +kernel
  have lk242 : Cond.fieldLink RX4 242 (TX4 4).1 (TX4 4).2.1 (TX4 4).2.2.1 ∈ wsX4_leave := by decide +kernel
  refine lv_aload_n hC.1 hC.2.1 dX4_leave_0 rfl (lv_at hl 0 rfl) ?_
  refine lv_bipush (v := nI 31) hC.1 hC.2.1 dX4_leave_1 (by decide) ?_
  refine lv_aload_n hC.1 hC.2.1 dX4_leave_3 rfl (lv_at hl 0 rfl) ?_
  refine g_get hC hw hin4 0 rfl rfl 4 (by decide) lk242 rfl dX4_leave_4 ?_
  refine lv_imul hC.1 hC.2.1 dX4_leave_7 ?_
  refine lv_iload_n hC.1 hC.2.1 dX4_leave_8 rfl (lv_at hl 1 rfl) ?_
  refine lv_iadd hC.1 hC.2.1 dX4_leave_9 ?_
  refine g_put hC hw hin4 tyX4 tyX4_ok nmX4 0 rfl rfl 4 (by decide) lk242 rfl rfl (by first | rfl | decide) (Nat.le_of_ble_eq_true rfl) dX4_leave_10 (fun H locs hw => ?_)
  replace hw : Wd dC dI (tysA cyI cyJ cyZ cyS) [((ad 0), .inr (4, [.ref ((ad 1)), .ref ((ad 8)), .ref ((ad 13)), .ref ((ad 19)), .int (((nI (31)) * tq) + (nI (b))), .int (ft)]))] zA zs H locs := hw
  exact hret _ _ _ ls  () dX4_leave_13 trivial hw

set_option maxHeartbeats 4000000 in
set_option maxRecDepth 100000 in
theorem c_X4_isOfKind_0 (l : Launch) (dC : Nat → ClassId) (dI : Nat → Nat → Nat) (cyI cyJ cyZ cyS : ClassId) (ad : Nat → Nat) (tq ft : Int32) (n : Nat) (L : Int32) (mk pt ac : Nat → Nat) (far : Nat → Int32) (re tr : Nat → Nat) (a : Nat) (ha : a < n) (hn : n ≤ 12) (hp : pt a ≤ 6) : CtI l yX4_isOfKind wsX4_isOfKind ({ frames := 0, cells := 0, slots := 0, locals := 0 } : Room) dC dI (tysA cyI cyJ cyZ cyS) [.ref ((ad 0)), .int (nI (a)), .int (nI (0))] [((ad 0), .inr (4, [.ref ((ad 1)), .ref ((ad 8)), .ref ((ad 13)), .ref ((ad 19)), .int (tq), .int (ft)])), ((ad 1), .inr (1, [.int (nI (n)), .int (L), .ref ((ad 2)), .ref ((ad 3)), .ref ((ad 4)), .ref ((ad 5)), .ref ((ad 6)), .ref ((ad 7))])), ((ad 2), .inl (cyI, 12, .inl (fun zj => nI (mk zj)))), ((ad 3), .inl (cyI, 12, .inl (fun zj => nI (pt zj)))), ((ad 4), .inl (cyI, 72, .inl (fun zj => nI (ac zj)))), ((ad 5), .inl (cyI, 12, .inl far)), ((ad 6), .inl (cyI, 12, .inl (fun zj => nI (re zj)))), ((ad 7), .inl (cyI, 12, .inl (fun zj => nI (tr zj))))] (S := Unit) (fun (r : Int32) (u : Unit) => (((True) → r = nI 1) ∧ (¬ (True) → r = nI 0))) (fun (u : Unit) => [((ad 0), .inr (4, [.ref ((ad 1)), .ref ((ad 8)), .ref ((ad 13)), .ref ((ad 19)), .int (tq), .int (ft)])), ((ad 1), .inr (1, [.int (nI (n)), .int (L), .ref ((ad 2)), .ref ((ad 3)), .ref ((ad 4)), .ref ((ad 5)), .ref ((ad 6)), .ref ((ad 7))])), ((ad 2), .inl (cyI, 12, .inl (fun zj => nI (mk zj)))), ((ad 3), .inl (cyI, 12, .inl (fun zj => nI (pt zj)))), ((ad 4), .inl (cyI, 72, .inl (fun zj => nI (ac zj)))), ((ad 5), .inl (cyI, 12, .inl far)), ((ad 6), .inl (cyI, 12, .inl (fun zj => nI (re zj)))), ((ad 7), .inl (cyI, 12, .inl (fun zj => nI (tr zj))))]) := by
  refine CtI.mk (cc := cX4_isOfKind) (maxL := 3) (by decide) rfl (Nat.le_of_ble_eq_true rfl) ?_
  intro zp ze zs zm za zb zt zc zA zQ ls hC hw hl hret
  replace hC : CallFix zp zm zc cX4_isOfKind 3 zs za wsX4_isOfKind RX4 := hC
  replace hl : lv_has ls 3 [(0, .ref ((ad 0))), (1, .int (nI (a))), (2, .int (nI (0)))] := hl
  refine lv_iload_n hC.1 hC.2.1 dX4_isOfKind_0 rfl (lv_at hl 2 rfl) ?_
  refine lv_lookup (off := 64) (tgt := 65) hC.1 hC.2.1 dX4_isOfKind_1 (by decide) (by decide) (by decide) ?_
  refine lv_iconst (v := nI 1) hC.1 hC.2.1 dX4_isOfKind_65 (by decide) ?_
  exact hret _ _ _ ls (nI (1)) () dX4_isOfKind_66 (by first | rfl | decide) ⟨fun h9 => by first | rfl | (exfalso; (try dsimp only at h9); exact h9 trivial), fun h9 => by first | rfl | (exfalso; (try dsimp only at h9); exact h9 trivial)⟩ hw

set_option maxHeartbeats 4000000 in
set_option maxRecDepth 100000 in
theorem c_X4_isOfKind_1 (l : Launch) (dC : Nat → ClassId) (dI : Nat → Nat → Nat) (cyI cyJ cyZ cyS : ClassId) (ad : Nat → Nat) (tq ft : Int32) (n : Nat) (L : Int32) (mk pt ac : Nat → Nat) (far : Nat → Int32) (re tr : Nat → Nat) (a : Nat) (ha : a < n) (hn : n ≤ 12) (hp : pt a ≤ 6) : CtI l yX4_isOfKind wsX4_isOfKind ({ frames := 0, cells := 0, slots := 0, locals := 0 } : Room) dC dI (tysA cyI cyJ cyZ cyS) [.ref ((ad 0)), .int (nI (a)), .int (nI (1))] [((ad 0), .inr (4, [.ref ((ad 1)), .ref ((ad 8)), .ref ((ad 13)), .ref ((ad 19)), .int (tq), .int (ft)])), ((ad 1), .inr (1, [.int (nI (n)), .int (L), .ref ((ad 2)), .ref ((ad 3)), .ref ((ad 4)), .ref ((ad 5)), .ref ((ad 6)), .ref ((ad 7))])), ((ad 2), .inl (cyI, 12, .inl (fun zj => nI (mk zj)))), ((ad 3), .inl (cyI, 12, .inl (fun zj => nI (pt zj)))), ((ad 4), .inl (cyI, 72, .inl (fun zj => nI (ac zj)))), ((ad 5), .inl (cyI, 12, .inl far)), ((ad 6), .inl (cyI, 12, .inl (fun zj => nI (re zj)))), ((ad 7), .inl (cyI, 12, .inl (fun zj => nI (tr zj))))] (S := Unit) (fun (r : Int32) (u : Unit) => (((0 < pt a) → r = nI 1) ∧ (¬ (0 < pt a) → r = nI 0))) (fun (u : Unit) => [((ad 0), .inr (4, [.ref ((ad 1)), .ref ((ad 8)), .ref ((ad 13)), .ref ((ad 19)), .int (tq), .int (ft)])), ((ad 1), .inr (1, [.int (nI (n)), .int (L), .ref ((ad 2)), .ref ((ad 3)), .ref ((ad 4)), .ref ((ad 5)), .ref ((ad 6)), .ref ((ad 7))])), ((ad 2), .inl (cyI, 12, .inl (fun zj => nI (mk zj)))), ((ad 3), .inl (cyI, 12, .inl (fun zj => nI (pt zj)))), ((ad 4), .inl (cyI, 72, .inl (fun zj => nI (ac zj)))), ((ad 5), .inl (cyI, 12, .inl far)), ((ad 6), .inl (cyI, 12, .inl (fun zj => nI (re zj)))), ((ad 7), .inl (cyI, 12, .inl (fun zj => nI (tr zj))))]) := by
  refine CtI.mk (cc := cX4_isOfKind) (maxL := 3) (by decide) rfl (Nat.le_of_ble_eq_true rfl) ?_
  intro zp ze zs zm za zb zt zc zA zQ ls hC hw hl hret
  replace hC : CallFix zp zm zc cX4_isOfKind 3 zs za wsX4_isOfKind RX4 := hC
  replace hl : lv_has ls 3 [(0, .ref ((ad 0))), (1, .int (nI (a))), (2, .int (nI (1)))] := hl
  have hin1 : ∀ w ∈ u_ws RX1 TX1 8, w ∈ wsX4_isOfKind := by decide +kernel
  have hin4 : ∀ w ∈ u_ws RX4 TX4 6, w ∈ wsX4_isOfKind := by decide +kernel
  have lk14 : Cond.fieldLink RX4 14 (TX4 0).1 (TX4 0).2.1 (TX4 0).2.2.1 ∈ wsX4_isOfKind := by decide +kernel
  have lk69 : Cond.fieldLink RX4 69 (TX1 3).1 (TX1 3).2.1 (TX1 3).2.2.1 ∈ wsX4_isOfKind := by decide +kernel
  refine lv_iload_n hC.1 hC.2.1 dX4_isOfKind_0 rfl (lv_at hl 2 rfl) ?_
  refine lv_lookup (off := 27) (tgt := 28) hC.1 hC.2.1 dX4_isOfKind_1 (by decide) (by decide) (by decide) ?_
  refine lv_aload_n hC.1 hC.2.1 dX4_isOfKind_28 rfl (lv_at hl 0 rfl) ?_
  refine g_get hC hw hin4 0 rfl rfl 0 (by decide) lk14 rfl dX4_isOfKind_29 ?_
  refine g_get hC hw hin1 1 rfl rfl 3 (by decide) lk69 rfl dX4_isOfKind_32 ?_
  refine lv_iload_n hC.1 hC.2.1 dX4_isOfKind_35 rfl (lv_at hl 1 rfl) ?_
  refine g_ialdN hC hw 3 0 rfl rfl (by omega) (by first | decide | omega) dX4_isOfKind_36 ?_
  refine n_if_le (tgt := 44) hC dX4_isOfKind_37 (by decide) (by omega) (fun c_37 => ?_) (fun c_37 => ?_)
  · skip
    refine lv_iconst (v := nI 0) hC.1 hC.2.1 dX4_isOfKind_44 (by decide) ?_
    exact hret _ _ _ ls (nI (0)) () dX4_isOfKind_45 (by first | rfl | decide) ⟨fun h9 => by first | rfl | (exfalso; (try dsimp only at h9); omega), fun h9 => by first | rfl | (exfalso; (try dsimp only at h9); omega)⟩ hw
  · skip
    refine lv_iconst (v := nI 1) hC.1 hC.2.1 dX4_isOfKind_40 (by decide) ?_
    refine lv_goto (tgt := 45) hC.1 hC.2.1 dX4_isOfKind_41 (by decide) ?_
    exact hret _ _ _ ls (nI (1)) () dX4_isOfKind_45 (by first | rfl | decide) ⟨fun h9 => by first | rfl | (exfalso; (try dsimp only at h9); omega), fun h9 => by first | rfl | (exfalso; (try dsimp only at h9); omega)⟩ hw

set_option maxHeartbeats 4000000 in
set_option maxRecDepth 100000 in
theorem c_X4_isOfKind_2 (l : Launch) (dC : Nat → ClassId) (dI : Nat → Nat → Nat) (cyI cyJ cyZ cyS : ClassId) (ad : Nat → Nat) (tq ft : Int32) (n : Nat) (L : Int32) (mk pt ac : Nat → Nat) (far : Nat → Int32) (re tr : Nat → Nat) (a : Nat) (ha : a < n) (hn : n ≤ 12) (hp : pt a ≤ 6) : CtI l yX4_isOfKind wsX4_isOfKind ({ frames := 0, cells := 0, slots := 0, locals := 0 } : Room) dC dI (tysA cyI cyJ cyZ cyS) [.ref ((ad 0)), .int (nI (a)), .int (nI (2))] [((ad 0), .inr (4, [.ref ((ad 1)), .ref ((ad 8)), .ref ((ad 13)), .ref ((ad 19)), .int (tq), .int (ft)])), ((ad 1), .inr (1, [.int (nI (n)), .int (L), .ref ((ad 2)), .ref ((ad 3)), .ref ((ad 4)), .ref ((ad 5)), .ref ((ad 6)), .ref ((ad 7))])), ((ad 2), .inl (cyI, 12, .inl (fun zj => nI (mk zj)))), ((ad 3), .inl (cyI, 12, .inl (fun zj => nI (pt zj)))), ((ad 4), .inl (cyI, 72, .inl (fun zj => nI (ac zj)))), ((ad 5), .inl (cyI, 12, .inl far)), ((ad 6), .inl (cyI, 12, .inl (fun zj => nI (re zj)))), ((ad 7), .inl (cyI, 12, .inl (fun zj => nI (tr zj))))] (S := Unit) (fun (r : Int32) (u : Unit) => (((pt a = 1) → r = nI 1) ∧ (¬ (pt a = 1) → r = nI 0))) (fun (u : Unit) => [((ad 0), .inr (4, [.ref ((ad 1)), .ref ((ad 8)), .ref ((ad 13)), .ref ((ad 19)), .int (tq), .int (ft)])), ((ad 1), .inr (1, [.int (nI (n)), .int (L), .ref ((ad 2)), .ref ((ad 3)), .ref ((ad 4)), .ref ((ad 5)), .ref ((ad 6)), .ref ((ad 7))])), ((ad 2), .inl (cyI, 12, .inl (fun zj => nI (mk zj)))), ((ad 3), .inl (cyI, 12, .inl (fun zj => nI (pt zj)))), ((ad 4), .inl (cyI, 72, .inl (fun zj => nI (ac zj)))), ((ad 5), .inl (cyI, 12, .inl far)), ((ad 6), .inl (cyI, 12, .inl (fun zj => nI (re zj)))), ((ad 7), .inl (cyI, 12, .inl (fun zj => nI (tr zj))))]) := by
  refine CtI.mk (cc := cX4_isOfKind) (maxL := 3) (by decide) rfl (Nat.le_of_ble_eq_true rfl) ?_
  intro zp ze zs zm za zb zt zc zA zQ ls hC hw hl hret
  replace hC : CallFix zp zm zc cX4_isOfKind 3 zs za wsX4_isOfKind RX4 := hC
  replace hl : lv_has ls 3 [(0, .ref ((ad 0))), (1, .int (nI (a))), (2, .int (nI (2)))] := hl
  have hin1 : ∀ w ∈ u_ws RX1 TX1 8, w ∈ wsX4_isOfKind := by decide +kernel
  have hin4 : ∀ w ∈ u_ws RX4 TX4 6, w ∈ wsX4_isOfKind := by decide +kernel
  have lk14 : Cond.fieldLink RX4 14 (TX4 0).1 (TX4 0).2.1 (TX4 0).2.2.1 ∈ wsX4_isOfKind := by decide +kernel
  have lk69 : Cond.fieldLink RX4 69 (TX1 3).1 (TX1 3).2.1 (TX1 3).2.2.1 ∈ wsX4_isOfKind := by decide +kernel
  refine lv_iload_n hC.1 hC.2.1 dX4_isOfKind_0 rfl (lv_at hl 2 rfl) ?_
  refine lv_lookup (off := 45) (tgt := 46) hC.1 hC.2.1 dX4_isOfKind_1 (by decide) (by decide) (by decide) ?_
  refine lv_aload_n hC.1 hC.2.1 dX4_isOfKind_46 rfl (lv_at hl 0 rfl) ?_
  refine g_get hC hw hin4 0 rfl rfl 0 (by decide) lk14 rfl dX4_isOfKind_47 ?_
  refine g_get hC hw hin1 1 rfl rfl 3 (by decide) lk69 rfl dX4_isOfKind_50 ?_
  refine lv_iload_n hC.1 hC.2.1 dX4_isOfKind_53 rfl (lv_at hl 1 rfl) ?_
  refine g_ialdN hC hw 3 0 rfl rfl (by omega) (by first | decide | omega) dX4_isOfKind_54 ?_
  refine lv_iconst (v := nI 1) hC.1 hC.2.1 dX4_isOfKind_55 (by decide) ?_
  refine n_icmp_ne (tgt := 63) hC dX4_isOfKind_56 (by decide) (by omega) (by omega) (fun c_56 => ?_) (fun c_56 => ?_)
  · skip
    refine lv_iconst (v := nI 0) hC.1 hC.2.1 dX4_isOfKind_63 (by decide) ?_
    exact hret _ _ _ ls (nI (0)) () dX4_isOfKind_64 (by first | rfl | decide) ⟨fun h9 => by first | rfl | (exfalso; (try dsimp only at h9); omega), fun h9 => by first | rfl | (exfalso; (try dsimp only at h9); omega)⟩ hw
  · skip
    refine lv_iconst (v := nI 1) hC.1 hC.2.1 dX4_isOfKind_59 (by decide) ?_
    refine lv_goto (tgt := 64) hC.1 hC.2.1 dX4_isOfKind_60 (by decide) ?_
    exact hret _ _ _ ls (nI (1)) () dX4_isOfKind_64 (by first | rfl | decide) ⟨fun h9 => by first | rfl | (exfalso; (try dsimp only at h9); omega), fun h9 => by first | rfl | (exfalso; (try dsimp only at h9); omega)⟩ hw

set_option maxHeartbeats 4000000 in
set_option maxRecDepth 100000 in
theorem c_X4_tellAsPost (l : Launch) (dC : Nat → ClassId) (dI : Nat → Nat → Nat) (cyI cyJ cyZ cyS : ClassId) (ad : Nat → Nat) (tq ft : Int32) (n : Nat) (L : Int32) (mk pt ac : Nat → Nat) (far : Nat → Int32) (re tr : Nat → Nat) (a : Nat) (ha : a < n) (hn : n ≤ 12) (hp : pt a ≤ 6) : CtI l yX4_tellAsPost wsX4_tellAsPost ({ frames := 1, cells := 0, slots := 0, locals := 21 } : Room) dC dI (tysA cyI cyJ cyZ cyS) [.ref ((ad 0)), .int (nI (a))] [((ad 0), .inr (4, [.ref ((ad 1)), .ref ((ad 8)), .ref ((ad 13)), .ref ((ad 19)), .int (tq), .int (ft)])), ((ad 1), .inr (1, [.int (nI (n)), .int (L), .ref ((ad 2)), .ref ((ad 3)), .ref ((ad 4)), .ref ((ad 5)), .ref ((ad 6)), .ref ((ad 7))])), ((ad 2), .inl (cyI, 12, .inl (fun zj => nI (mk zj)))), ((ad 3), .inl (cyI, 12, .inl (fun zj => nI (pt zj)))), ((ad 4), .inl (cyI, 72, .inl (fun zj => nI (ac zj)))), ((ad 5), .inl (cyI, 12, .inl far)), ((ad 6), .inl (cyI, 12, .inl (fun zj => nI (re zj)))), ((ad 7), .inl (cyI, 12, .inl (fun zj => nI (tr zj))))] (S := Unit) (fun (r : Int32) (u : Unit) => (r = nI (mk a))) (fun (u : Unit) => [((ad 0), .inr (4, [.ref ((ad 1)), .ref ((ad 8)), .ref ((ad 13)), .ref ((ad 19)), .int (nI 31 * tq + nI 1), .int (ft)])), ((ad 1), .inr (1, [.int (nI (n)), .int (L), .ref ((ad 2)), .ref ((ad 3)), .ref ((ad 4)), .ref ((ad 5)), .ref ((ad 6)), .ref ((ad 7))])), ((ad 2), .inl (cyI, 12, .inl (fun zj => nI (mk zj)))), ((ad 3), .inl (cyI, 12, .inl (fun zj => nI (pt zj)))), ((ad 4), .inl (cyI, 72, .inl (fun zj => nI (ac zj)))), ((ad 5), .inl (cyI, 12, .inl far)), ((ad 6), .inl (cyI, 12, .inl (fun zj => nI (re zj)))), ((ad 7), .inl (cyI, 12, .inl (fun zj => nI (tr zj))))]) := by
  refine CtI.mk (cc := cX4_tellAsPost) (maxL := 2) (by decide) rfl (Nat.le_of_ble_eq_true rfl) ?_
  intro zp ze zs zm za zb zt zc zA zQ ls hC hw hl hret
  replace hC : CallFix zp zm zc cX4_tellAsPost 2 zs za wsX4_tellAsPost RX4 := hC
  replace hl : lv_has ls 2 [(0, .ref ((ad 0))), (1, .int (nI (a)))] := hl
  have hin1 : ∀ w ∈ u_ws RX1 TX1 8, w ∈ wsX4_tellAsPost := by decide +kernel
  have hin4 : ∀ w ∈ u_ws RX4 TX4 6, w ∈ wsX4_tellAsPost := by decide +kernel
  have lk14 : Cond.fieldLink RX4 14 (TX4 0).1 (TX4 0).2.1 (TX4 0).2.2.1 ∈ wsX4_tellAsPost := by decide +kernel
  have lk62 : Cond.fieldLink RX4 62 (TX1 2).1 (TX1 2).2.1 (TX1 2).2.2.1 ∈ wsX4_tellAsPost := by decide +kernel
  refine lv_aload_n hC.1 hC.2.1 dX4_tellAsPost_0 rfl (lv_at hl 0 rfl) ?_
  refine lv_iconst (v := nI 1) hC.1 hC.2.1 dX4_tellAsPost_1 (by decide) ?_
  refine W.ccV (wc := [((ad 0), .inr (4, [.ref ((ad 1)), .ref ((ad 8)), .ref ((ad 13)), .ref ((ad 19)), .int (tq), .int (ft)]))]) (wr := [((ad 1), .inr (1, [.int (nI (n)), .int (L), .ref ((ad 2)), .ref ((ad 3)), .ref ((ad 4)), .ref ((ad 5)), .ref ((ad 6)), .ref ((ad 7))])), ((ad 2), .inl (cyI, 12, .inl (fun zj => nI (mk zj)))), ((ad 3), .inl (cyI, 12, .inl (fun zj => nI (pt zj)))), ((ad 4), .inl (cyI, 72, .inl (fun zj => nI (ac zj)))), ((ad 5), .inl (cyI, 12, .inl far)), ((ad 6), .inl (cyI, 12, .inl (fun zj => nI (re zj)))), ((ad 7), .inl (cyI, 12, .inl (fun zj => nI (tr zj))))]) (ws1 := fun (u : Unit) => [((ad 0), .inr (4, [.ref ((ad 1)), .ref ((ad 8)), .ref ((ad 13)), .ref ((ad 19)), .int (nI 31 * tq + nI 1), .int (ft)]))]) (ws2 := fun (u : Unit) => [((ad 0), .inr (4, [.ref ((ad 1)), .ref ((ad 8)), .ref ((ad 13)), .ref ((ad 19)), .int (nI 31 * tq + nI 1), .int (ft)])), ((ad 1), .inr (1, [.int (nI (n)), .int (L), .ref ((ad 2)), .ref ((ad 3)), .ref ((ad 4)), .ref ((ad 5)), .ref ((ad 6)), .ref ((ad 7))])), ((ad 2), .inl (cyI, 12, .inl (fun zj => nI (mk zj)))), ((ad 3), .inl (cyI, 12, .inl (fun zj => nI (pt zj)))), ((ad 4), .inl (cyI, 72, .inl (fun zj => nI (ac zj)))), ((ad 5), .inl (cyI, 12, .inl far)), ((ad 6), .inl (cyI, 12, .inl (fun zj => nI (re zj)))), ((ad 7), .inl (cyI, 12, .inl (fun zj => nI (tr zj))))]) hw [0] [1, 2, 3, 4, 5, 6, 7] [7, 0, 1, 2, 3, 4, 5, 6] rfl rfl (by decide) (by decide) (by decide) (fun _ => rfl) (Wd.runV (wc := [((ad 0), .inr (4, [.ref ((ad 1)), .ref ((ad 8)), .ref ((ad 13)), .ref ((ad 19)), .int (tq), .int (ft)]))]) (rest := []) (As := [.int (nI (1))]) hC hw [0] rfl (by decide) 0 rfl rfl (cwV 1 hC.2.2.2.2 gX4_tellAsPost_X4_leave rfl rfl rfl (by decide +kernel) ⟨Nat.le_of_ble_eq_true rfl, Nat.le_of_ble_eq_true rfl⟩) (c_X4_leave l dC dI cyI cyJ cyZ cyS ad tq ft 1 _) rfl hl.1 rfl (Nat.le_of_ble_eq_true rfl) dX4_tellAsPost_2 ⟨Nat.zero_le _, Nat.zero_le _⟩) (fun u H locs hr_2 hw => ?_)
  replace hw : Wd dC dI (tysA cyI cyJ cyZ cyS) [((ad 0), .inr (4, [.ref ((ad 1)), .ref ((ad 8)), .ref ((ad 13)), .ref ((ad 19)), .int (nI 31 * tq + nI 1), .int (ft)])), ((ad 1), .inr (1, [.int (nI (n)), .int (L), .ref ((ad 2)), .ref ((ad 3)), .ref ((ad 4)), .ref ((ad 5)), .ref ((ad 6)), .ref ((ad 7))])), ((ad 2), .inl (cyI, 12, .inl (fun zj => nI (mk zj)))), ((ad 3), .inl (cyI, 12, .inl (fun zj => nI (pt zj)))), ((ad 4), .inl (cyI, 72, .inl (fun zj => nI (ac zj)))), ((ad 5), .inl (cyI, 12, .inl far)), ((ad 6), .inl (cyI, 12, .inl (fun zj => nI (re zj)))), ((ad 7), .inl (cyI, 12, .inl (fun zj => nI (tr zj))))] zA zs H locs := hw
  refine lv_aload_n hC.1 hC.2.1 dX4_tellAsPost_5 rfl (lv_at hl 0 rfl) ?_
  refine g_get hC hw hin4 0 rfl rfl 0 (by decide) lk14 rfl dX4_tellAsPost_6 ?_
  refine g_get hC hw hin1 1 rfl rfl 2 (by decide) lk62 rfl dX4_tellAsPost_9 ?_
  refine lv_iload_n hC.1 hC.2.1 dX4_tellAsPost_12 rfl (lv_at hl 1 rfl) ?_
  refine g_ialdN hC hw 2 0 rfl rfl (by omega) (by first | decide | omega) dX4_tellAsPost_13 ?_
  exact hret _ _ _ ls (nI (mk a)) () dX4_tellAsPost_14 rfl rfl hw

set_option maxHeartbeats 4000000 in
set_option maxRecDepth 100000 in
theorem c_X4_tellAsJoined (l : Launch) (dC : Nat → ClassId) (dI : Nat → Nat → Nat) (cyI cyJ cyZ cyS : ClassId) (ad : Nat → Nat) (tq ft : Int32) (n : Nat) (L : Int32) (mk pt ac : Nat → Nat) (far : Nat → Int32) (re tr : Nat → Nat) (a : Nat) (ha : a < n) (hn : n ≤ 12) (hp : pt a ≤ 6) : CtI l yX4_tellAsJoined wsX4_tellAsJoined ({ frames := 2, cells := 0, slots := 0, locals := 42 } : Room) dC dI (tysA cyI cyJ cyZ cyS) [.ref ((ad 0)), .int (nI (a))] [((ad 0), .inr (4, [.ref ((ad 1)), .ref ((ad 8)), .ref ((ad 13)), .ref ((ad 19)), .int (tq), .int (ft)])), ((ad 1), .inr (1, [.int (nI (n)), .int (L), .ref ((ad 2)), .ref ((ad 3)), .ref ((ad 4)), .ref ((ad 5)), .ref ((ad 6)), .ref ((ad 7))])), ((ad 2), .inl (cyI, 12, .inl (fun zj => nI (mk zj)))), ((ad 3), .inl (cyI, 12, .inl (fun zj => nI (pt zj)))), ((ad 4), .inl (cyI, 72, .inl (fun zj => nI (ac zj)))), ((ad 5), .inl (cyI, 12, .inl far)), ((ad 6), .inl (cyI, 12, .inl (fun zj => nI (re zj)))), ((ad 7), .inl (cyI, 12, .inl (fun zj => nI (tr zj))))] (S := Unit) (fun (r : Int32) (u : Unit) => (r = nI (mk a + pt a))) (fun (u : Unit) => [((ad 0), .inr (4, [.ref ((ad 1)), .ref ((ad 8)), .ref ((ad 13)), .ref ((ad 19)), .int (nI 31 * (nI 31 * tq + nI 2) + nI 1), .int (ft)])), ((ad 1), .inr (1, [.int (nI (n)), .int (L), .ref ((ad 2)), .ref ((ad 3)), .ref ((ad 4)), .ref ((ad 5)), .ref ((ad 6)), .ref ((ad 7))])), ((ad 2), .inl (cyI, 12, .inl (fun zj => nI (mk zj)))), ((ad 3), .inl (cyI, 12, .inl (fun zj => nI (pt zj)))), ((ad 4), .inl (cyI, 72, .inl (fun zj => nI (ac zj)))), ((ad 5), .inl (cyI, 12, .inl far)), ((ad 6), .inl (cyI, 12, .inl (fun zj => nI (re zj)))), ((ad 7), .inl (cyI, 12, .inl (fun zj => nI (tr zj))))]) := by
  refine CtI.mk (cc := cX4_tellAsJoined) (maxL := 2) (by decide) rfl (Nat.le_of_ble_eq_true rfl) ?_
  intro zp ze zs zm za zb zt zc zA zQ ls hC hw hl hret
  replace hC : CallFix zp zm zc cX4_tellAsJoined 2 zs za wsX4_tellAsJoined RX4 := hC
  replace hl : lv_has ls 2 [(0, .ref ((ad 0))), (1, .int (nI (a)))] := hl
  have hin1 : ∀ w ∈ u_ws RX1 TX1 8, w ∈ wsX4_tellAsJoined := by decide +kernel
  have hin4 : ∀ w ∈ u_ws RX4 TX4 6, w ∈ wsX4_tellAsJoined := by decide +kernel
  have lk14 : Cond.fieldLink RX4 14 (TX4 0).1 (TX4 0).2.1 (TX4 0).2.2.1 ∈ wsX4_tellAsJoined := by decide +kernel
  have lk69 : Cond.fieldLink RX4 69 (TX1 3).1 (TX1 3).2.1 (TX1 3).2.2.1 ∈ wsX4_tellAsJoined := by decide +kernel
  refine lv_aload_n hC.1 hC.2.1 dX4_tellAsJoined_0 rfl (lv_at hl 0 rfl) ?_
  refine lv_iconst (v := nI 2) hC.1 hC.2.1 dX4_tellAsJoined_1 (by decide) ?_
  refine W.ccV (wc := [((ad 0), .inr (4, [.ref ((ad 1)), .ref ((ad 8)), .ref ((ad 13)), .ref ((ad 19)), .int (tq), .int (ft)]))]) (wr := [((ad 1), .inr (1, [.int (nI (n)), .int (L), .ref ((ad 2)), .ref ((ad 3)), .ref ((ad 4)), .ref ((ad 5)), .ref ((ad 6)), .ref ((ad 7))])), ((ad 2), .inl (cyI, 12, .inl (fun zj => nI (mk zj)))), ((ad 3), .inl (cyI, 12, .inl (fun zj => nI (pt zj)))), ((ad 4), .inl (cyI, 72, .inl (fun zj => nI (ac zj)))), ((ad 5), .inl (cyI, 12, .inl far)), ((ad 6), .inl (cyI, 12, .inl (fun zj => nI (re zj)))), ((ad 7), .inl (cyI, 12, .inl (fun zj => nI (tr zj))))]) (ws1 := fun (u : Unit) => [((ad 0), .inr (4, [.ref ((ad 1)), .ref ((ad 8)), .ref ((ad 13)), .ref ((ad 19)), .int (nI 31 * tq + nI 2), .int (ft)]))]) (ws2 := fun (u : Unit) => [((ad 0), .inr (4, [.ref ((ad 1)), .ref ((ad 8)), .ref ((ad 13)), .ref ((ad 19)), .int (nI 31 * tq + nI 2), .int (ft)])), ((ad 1), .inr (1, [.int (nI (n)), .int (L), .ref ((ad 2)), .ref ((ad 3)), .ref ((ad 4)), .ref ((ad 5)), .ref ((ad 6)), .ref ((ad 7))])), ((ad 2), .inl (cyI, 12, .inl (fun zj => nI (mk zj)))), ((ad 3), .inl (cyI, 12, .inl (fun zj => nI (pt zj)))), ((ad 4), .inl (cyI, 72, .inl (fun zj => nI (ac zj)))), ((ad 5), .inl (cyI, 12, .inl far)), ((ad 6), .inl (cyI, 12, .inl (fun zj => nI (re zj)))), ((ad 7), .inl (cyI, 12, .inl (fun zj => nI (tr zj))))]) hw [0] [1, 2, 3, 4, 5, 6, 7] [7, 0, 1, 2, 3, 4, 5, 6] rfl rfl (by decide) (by decide) (by decide) (fun _ => rfl) (Wd.runV (wc := [((ad 0), .inr (4, [.ref ((ad 1)), .ref ((ad 8)), .ref ((ad 13)), .ref ((ad 19)), .int (tq), .int (ft)]))]) (rest := []) (As := [.int (nI (2))]) hC hw [0] rfl (by decide) 0 rfl rfl (cwV 1 hC.2.2.2.2 gX4_tellAsJoined_X4_leave rfl rfl rfl (by decide +kernel) ⟨Nat.le_of_ble_eq_true rfl, Nat.le_of_ble_eq_true rfl⟩) (c_X4_leave l dC dI cyI cyJ cyZ cyS ad tq ft 2 _) rfl hl.1 rfl (Nat.le_of_ble_eq_true rfl) dX4_tellAsJoined_2 ⟨Nat.zero_le _, Nat.zero_le _⟩) (fun u H locs hr_2 hw => ?_)
  replace hw : Wd dC dI (tysA cyI cyJ cyZ cyS) [((ad 0), .inr (4, [.ref ((ad 1)), .ref ((ad 8)), .ref ((ad 13)), .ref ((ad 19)), .int (nI 31 * tq + nI 2), .int (ft)])), ((ad 1), .inr (1, [.int (nI (n)), .int (L), .ref ((ad 2)), .ref ((ad 3)), .ref ((ad 4)), .ref ((ad 5)), .ref ((ad 6)), .ref ((ad 7))])), ((ad 2), .inl (cyI, 12, .inl (fun zj => nI (mk zj)))), ((ad 3), .inl (cyI, 12, .inl (fun zj => nI (pt zj)))), ((ad 4), .inl (cyI, 72, .inl (fun zj => nI (ac zj)))), ((ad 5), .inl (cyI, 12, .inl far)), ((ad 6), .inl (cyI, 12, .inl (fun zj => nI (re zj)))), ((ad 7), .inl (cyI, 12, .inl (fun zj => nI (tr zj))))] zA zs H locs := hw
  refine lv_aload_n hC.1 hC.2.1 dX4_tellAsJoined_5 rfl (lv_at hl 0 rfl) ?_
  refine lv_iload_n hC.1 hC.2.1 dX4_tellAsJoined_6 rfl (lv_at hl 1 rfl) ?_
  refine W.ccI (wc := [((ad 0), .inr (4, [.ref ((ad 1)), .ref ((ad 8)), .ref ((ad 13)), .ref ((ad 19)), .int (nI 31 * tq + nI 2), .int (ft)])), ((ad 1), .inr (1, [.int (nI (n)), .int (L), .ref ((ad 2)), .ref ((ad 3)), .ref ((ad 4)), .ref ((ad 5)), .ref ((ad 6)), .ref ((ad 7))])), ((ad 2), .inl (cyI, 12, .inl (fun zj => nI (mk zj)))), ((ad 3), .inl (cyI, 12, .inl (fun zj => nI (pt zj)))), ((ad 4), .inl (cyI, 72, .inl (fun zj => nI (ac zj)))), ((ad 5), .inl (cyI, 12, .inl far)), ((ad 6), .inl (cyI, 12, .inl (fun zj => nI (re zj)))), ((ad 7), .inl (cyI, 12, .inl (fun zj => nI (tr zj))))]) (wr := []) (ws1 := fun (u : Unit) => [((ad 0), .inr (4, [.ref ((ad 1)), .ref ((ad 8)), .ref ((ad 13)), .ref ((ad 19)), .int (nI 31 * (nI 31 * tq + nI 2) + nI 1), .int (ft)])), ((ad 1), .inr (1, [.int (nI (n)), .int (L), .ref ((ad 2)), .ref ((ad 3)), .ref ((ad 4)), .ref ((ad 5)), .ref ((ad 6)), .ref ((ad 7))])), ((ad 2), .inl (cyI, 12, .inl (fun zj => nI (mk zj)))), ((ad 3), .inl (cyI, 12, .inl (fun zj => nI (pt zj)))), ((ad 4), .inl (cyI, 72, .inl (fun zj => nI (ac zj)))), ((ad 5), .inl (cyI, 12, .inl far)), ((ad 6), .inl (cyI, 12, .inl (fun zj => nI (re zj)))), ((ad 7), .inl (cyI, 12, .inl (fun zj => nI (tr zj))))]) (ws2 := fun (u : Unit) => [((ad 0), .inr (4, [.ref ((ad 1)), .ref ((ad 8)), .ref ((ad 13)), .ref ((ad 19)), .int (nI 31 * (nI 31 * tq + nI 2) + nI 1), .int (ft)])), ((ad 1), .inr (1, [.int (nI (n)), .int (L), .ref ((ad 2)), .ref ((ad 3)), .ref ((ad 4)), .ref ((ad 5)), .ref ((ad 6)), .ref ((ad 7))])), ((ad 2), .inl (cyI, 12, .inl (fun zj => nI (mk zj)))), ((ad 3), .inl (cyI, 12, .inl (fun zj => nI (pt zj)))), ((ad 4), .inl (cyI, 72, .inl (fun zj => nI (ac zj)))), ((ad 5), .inl (cyI, 12, .inl far)), ((ad 6), .inl (cyI, 12, .inl (fun zj => nI (re zj)))), ((ad 7), .inl (cyI, 12, .inl (fun zj => nI (tr zj))))]) hw [0, 1, 2, 3, 4, 5, 6, 7] [] [0, 1, 2, 3, 4, 5, 6, 7] rfl rfl (by decide) (by decide) (by decide) (fun _ => rfl) (Wd.runV (wc := [((ad 0), .inr (4, [.ref ((ad 1)), .ref ((ad 8)), .ref ((ad 13)), .ref ((ad 19)), .int (nI 31 * tq + nI 2), .int (ft)])), ((ad 1), .inr (1, [.int (nI (n)), .int (L), .ref ((ad 2)), .ref ((ad 3)), .ref ((ad 4)), .ref ((ad 5)), .ref ((ad 6)), .ref ((ad 7))])), ((ad 2), .inl (cyI, 12, .inl (fun zj => nI (mk zj)))), ((ad 3), .inl (cyI, 12, .inl (fun zj => nI (pt zj)))), ((ad 4), .inl (cyI, 72, .inl (fun zj => nI (ac zj)))), ((ad 5), .inl (cyI, 12, .inl far)), ((ad 6), .inl (cyI, 12, .inl (fun zj => nI (re zj)))), ((ad 7), .inl (cyI, 12, .inl (fun zj => nI (tr zj))))]) (rest := []) (As := [.int (nI (a))]) hC hw [0, 1, 2, 3, 4, 5, 6, 7] rfl (by decide) 0 rfl rfl (cwV 1 hC.2.2.2.2 gX4_tellAsJoined_X4_tellAsPost rfl rfl rfl (by decide +kernel) ⟨Nat.le_of_ble_eq_true rfl, Nat.le_of_ble_eq_true rfl⟩) (c_X4_tellAsPost l dC dI cyI cyJ cyZ cyS ad (nI 31 * tq + nI 2) ft n L mk pt ac far re tr a (by first | assumption | omega) (by first | assumption | omega) (by first | assumption | omega) _) rfl hl.1 rfl (Nat.le_of_ble_eq_true rfl) dX4_tellAsJoined_7 ⟨Nat.zero_le _, Nat.zero_le _⟩) (fun r_7 u H locs hr_7 hw => ?_)
  replace hw : Wd dC dI (tysA cyI cyJ cyZ cyS) [((ad 0), .inr (4, [.ref ((ad 1)), .ref ((ad 8)), .ref ((ad 13)), .ref ((ad 19)), .int (nI 31 * (nI 31 * tq + nI 2) + nI 1), .int (ft)])), ((ad 1), .inr (1, [.int (nI (n)), .int (L), .ref ((ad 2)), .ref ((ad 3)), .ref ((ad 4)), .ref ((ad 5)), .ref ((ad 6)), .ref ((ad 7))])), ((ad 2), .inl (cyI, 12, .inl (fun zj => nI (mk zj)))), ((ad 3), .inl (cyI, 12, .inl (fun zj => nI (pt zj)))), ((ad 4), .inl (cyI, 72, .inl (fun zj => nI (ac zj)))), ((ad 5), .inl (cyI, 12, .inl far)), ((ad 6), .inl (cyI, 12, .inl (fun zj => nI (re zj)))), ((ad 7), .inl (cyI, 12, .inl (fun zj => nI (tr zj))))] zA zs H locs := hw
  subst hr_7
  refine lv_aload_n hC.1 hC.2.1 dX4_tellAsJoined_10 rfl (lv_at hl 0 rfl) ?_
  refine g_get hC hw hin4 0 rfl rfl 0 (by decide) lk14 rfl dX4_tellAsJoined_11 ?_
  refine g_get hC hw hin1 1 rfl rfl 3 (by decide) lk69 rfl dX4_tellAsJoined_14 ?_
  refine lv_iload_n hC.1 hC.2.1 dX4_tellAsJoined_17 rfl (lv_at hl 1 rfl) ?_
  refine g_ialdN hC hw 3 0 rfl rfl (by omega) (by first | decide | omega) dX4_tellAsJoined_18 ?_
  refine n_iadd hC dX4_tellAsJoined_19 ?_
  exact hret _ _ _ ls (nI ((mk a) + (pt a))) () dX4_tellAsJoined_20 rfl rfl hw

set_option maxHeartbeats 4000000 in
set_option maxRecDepth 100000 in
theorem c_X4_tellAsEnd (l : Launch) (dC : Nat → ClassId) (dI : Nat → Nat → Nat) (cyI cyJ cyZ cyS : ClassId) (ad : Nat → Nat) (tq ft : Int32) (n : Nat) (L : Int32) (mk pt ac : Nat → Nat) (far : Nat → Int32) (re tr : Nat → Nat) (a : Nat) (ha : a < n) (hn : n ≤ 12) (hp : pt a ≤ 6) : CtI l yX4_tellAsEnd wsX4_tellAsEnd ({ frames := 2, cells := 0, slots := 0, locals := 42 } : Room) dC dI (tysA cyI cyJ cyZ cyS) [.ref ((ad 0)), .int (nI (a))] [((ad 0), .inr (4, [.ref ((ad 1)), .ref ((ad 8)), .ref ((ad 13)), .ref ((ad 19)), .int (tq), .int (ft)])), ((ad 1), .inr (1, [.int (nI (n)), .int (L), .ref ((ad 2)), .ref ((ad 3)), .ref ((ad 4)), .ref ((ad 5)), .ref ((ad 6)), .ref ((ad 7))])), ((ad 2), .inl (cyI, 12, .inl (fun zj => nI (mk zj)))), ((ad 3), .inl (cyI, 12, .inl (fun zj => nI (pt zj)))), ((ad 4), .inl (cyI, 72, .inl (fun zj => nI (ac zj)))), ((ad 5), .inl (cyI, 12, .inl far)), ((ad 6), .inl (cyI, 12, .inl (fun zj => nI (re zj)))), ((ad 7), .inl (cyI, 12, .inl (fun zj => nI (tr zj))))] (S := Unit) (fun (r : Int32) (u : Unit) => (r = -nI (mk a) - nI 1)) (fun (u : Unit) => [((ad 0), .inr (4, [.ref ((ad 1)), .ref ((ad 8)), .ref ((ad 13)), .ref ((ad 19)), .int (nI 31 * (nI 31 * tq + nI 3) + nI 1), .int (ft)])), ((ad 1), .inr (1, [.int (nI (n)), .int (L), .ref ((ad 2)), .ref ((ad 3)), .ref ((ad 4)), .ref ((ad 5)), .ref ((ad 6)), .ref ((ad 7))])), ((ad 2), .inl (cyI, 12, .inl (fun zj => nI (mk zj)))), ((ad 3), .inl (cyI, 12, .inl (fun zj => nI (pt zj)))), ((ad 4), .inl (cyI, 72, .inl (fun zj => nI (ac zj)))), ((ad 5), .inl (cyI, 12, .inl far)), ((ad 6), .inl (cyI, 12, .inl (fun zj => nI (re zj)))), ((ad 7), .inl (cyI, 12, .inl (fun zj => nI (tr zj))))]) := by
  refine CtI.mk (cc := cX4_tellAsEnd) (maxL := 2) (by decide) rfl (Nat.le_of_ble_eq_true rfl) ?_
  intro zp ze zs zm za zb zt zc zA zQ ls hC hw hl hret
  replace hC : CallFix zp zm zc cX4_tellAsEnd 2 zs za wsX4_tellAsEnd RX4 := hC
  replace hl : lv_has ls 2 [(0, .ref ((ad 0))), (1, .int (nI (a)))] := hl
  refine lv_aload_n hC.1 hC.2.1 dX4_tellAsEnd_0 rfl (lv_at hl 0 rfl) ?_
  refine lv_iconst (v := nI 3) hC.1 hC.2.1 dX4_tellAsEnd_1 (by decide) ?_
  refine W.ccV (wc := [((ad 0), .inr (4, [.ref ((ad 1)), .ref ((ad 8)), .ref ((ad 13)), .ref ((ad 19)), .int (tq), .int (ft)]))]) (wr := [((ad 1), .inr (1, [.int (nI (n)), .int (L), .ref ((ad 2)), .ref ((ad 3)), .ref ((ad 4)), .ref ((ad 5)), .ref ((ad 6)), .ref ((ad 7))])), ((ad 2), .inl (cyI, 12, .inl (fun zj => nI (mk zj)))), ((ad 3), .inl (cyI, 12, .inl (fun zj => nI (pt zj)))), ((ad 4), .inl (cyI, 72, .inl (fun zj => nI (ac zj)))), ((ad 5), .inl (cyI, 12, .inl far)), ((ad 6), .inl (cyI, 12, .inl (fun zj => nI (re zj)))), ((ad 7), .inl (cyI, 12, .inl (fun zj => nI (tr zj))))]) (ws1 := fun (u : Unit) => [((ad 0), .inr (4, [.ref ((ad 1)), .ref ((ad 8)), .ref ((ad 13)), .ref ((ad 19)), .int (nI 31 * tq + nI 3), .int (ft)]))]) (ws2 := fun (u : Unit) => [((ad 0), .inr (4, [.ref ((ad 1)), .ref ((ad 8)), .ref ((ad 13)), .ref ((ad 19)), .int (nI 31 * tq + nI 3), .int (ft)])), ((ad 1), .inr (1, [.int (nI (n)), .int (L), .ref ((ad 2)), .ref ((ad 3)), .ref ((ad 4)), .ref ((ad 5)), .ref ((ad 6)), .ref ((ad 7))])), ((ad 2), .inl (cyI, 12, .inl (fun zj => nI (mk zj)))), ((ad 3), .inl (cyI, 12, .inl (fun zj => nI (pt zj)))), ((ad 4), .inl (cyI, 72, .inl (fun zj => nI (ac zj)))), ((ad 5), .inl (cyI, 12, .inl far)), ((ad 6), .inl (cyI, 12, .inl (fun zj => nI (re zj)))), ((ad 7), .inl (cyI, 12, .inl (fun zj => nI (tr zj))))]) hw [0] [1, 2, 3, 4, 5, 6, 7] [7, 0, 1, 2, 3, 4, 5, 6] rfl rfl (by decide) (by decide) (by decide) (fun _ => rfl) (Wd.runV (wc := [((ad 0), .inr (4, [.ref ((ad 1)), .ref ((ad 8)), .ref ((ad 13)), .ref ((ad 19)), .int (tq), .int (ft)]))]) (rest := []) (As := [.int (nI (3))]) hC hw [0] rfl (by decide) 0 rfl rfl (cwV 1 hC.2.2.2.2 gX4_tellAsEnd_X4_leave rfl rfl rfl (by decide +kernel) ⟨Nat.le_of_ble_eq_true rfl, Nat.le_of_ble_eq_true rfl⟩) (c_X4_leave l dC dI cyI cyJ cyZ cyS ad tq ft 3 _) rfl hl.1 rfl (Nat.le_of_ble_eq_true rfl) dX4_tellAsEnd_2 ⟨Nat.zero_le _, Nat.zero_le _⟩) (fun u H locs hr_2 hw => ?_)
  replace hw : Wd dC dI (tysA cyI cyJ cyZ cyS) [((ad 0), .inr (4, [.ref ((ad 1)), .ref ((ad 8)), .ref ((ad 13)), .ref ((ad 19)), .int (nI 31 * tq + nI 3), .int (ft)])), ((ad 1), .inr (1, [.int (nI (n)), .int (L), .ref ((ad 2)), .ref ((ad 3)), .ref ((ad 4)), .ref ((ad 5)), .ref ((ad 6)), .ref ((ad 7))])), ((ad 2), .inl (cyI, 12, .inl (fun zj => nI (mk zj)))), ((ad 3), .inl (cyI, 12, .inl (fun zj => nI (pt zj)))), ((ad 4), .inl (cyI, 72, .inl (fun zj => nI (ac zj)))), ((ad 5), .inl (cyI, 12, .inl far)), ((ad 6), .inl (cyI, 12, .inl (fun zj => nI (re zj)))), ((ad 7), .inl (cyI, 12, .inl (fun zj => nI (tr zj))))] zA zs H locs := hw
  refine lv_aload_n hC.1 hC.2.1 dX4_tellAsEnd_5 rfl (lv_at hl 0 rfl) ?_
  refine lv_iload_n hC.1 hC.2.1 dX4_tellAsEnd_6 rfl (lv_at hl 1 rfl) ?_
  refine W.ccI (wc := [((ad 0), .inr (4, [.ref ((ad 1)), .ref ((ad 8)), .ref ((ad 13)), .ref ((ad 19)), .int (nI 31 * tq + nI 3), .int (ft)])), ((ad 1), .inr (1, [.int (nI (n)), .int (L), .ref ((ad 2)), .ref ((ad 3)), .ref ((ad 4)), .ref ((ad 5)), .ref ((ad 6)), .ref ((ad 7))])), ((ad 2), .inl (cyI, 12, .inl (fun zj => nI (mk zj)))), ((ad 3), .inl (cyI, 12, .inl (fun zj => nI (pt zj)))), ((ad 4), .inl (cyI, 72, .inl (fun zj => nI (ac zj)))), ((ad 5), .inl (cyI, 12, .inl far)), ((ad 6), .inl (cyI, 12, .inl (fun zj => nI (re zj)))), ((ad 7), .inl (cyI, 12, .inl (fun zj => nI (tr zj))))]) (wr := []) (ws1 := fun (u : Unit) => [((ad 0), .inr (4, [.ref ((ad 1)), .ref ((ad 8)), .ref ((ad 13)), .ref ((ad 19)), .int (nI 31 * (nI 31 * tq + nI 3) + nI 1), .int (ft)])), ((ad 1), .inr (1, [.int (nI (n)), .int (L), .ref ((ad 2)), .ref ((ad 3)), .ref ((ad 4)), .ref ((ad 5)), .ref ((ad 6)), .ref ((ad 7))])), ((ad 2), .inl (cyI, 12, .inl (fun zj => nI (mk zj)))), ((ad 3), .inl (cyI, 12, .inl (fun zj => nI (pt zj)))), ((ad 4), .inl (cyI, 72, .inl (fun zj => nI (ac zj)))), ((ad 5), .inl (cyI, 12, .inl far)), ((ad 6), .inl (cyI, 12, .inl (fun zj => nI (re zj)))), ((ad 7), .inl (cyI, 12, .inl (fun zj => nI (tr zj))))]) (ws2 := fun (u : Unit) => [((ad 0), .inr (4, [.ref ((ad 1)), .ref ((ad 8)), .ref ((ad 13)), .ref ((ad 19)), .int (nI 31 * (nI 31 * tq + nI 3) + nI 1), .int (ft)])), ((ad 1), .inr (1, [.int (nI (n)), .int (L), .ref ((ad 2)), .ref ((ad 3)), .ref ((ad 4)), .ref ((ad 5)), .ref ((ad 6)), .ref ((ad 7))])), ((ad 2), .inl (cyI, 12, .inl (fun zj => nI (mk zj)))), ((ad 3), .inl (cyI, 12, .inl (fun zj => nI (pt zj)))), ((ad 4), .inl (cyI, 72, .inl (fun zj => nI (ac zj)))), ((ad 5), .inl (cyI, 12, .inl far)), ((ad 6), .inl (cyI, 12, .inl (fun zj => nI (re zj)))), ((ad 7), .inl (cyI, 12, .inl (fun zj => nI (tr zj))))]) hw [0, 1, 2, 3, 4, 5, 6, 7] [] [0, 1, 2, 3, 4, 5, 6, 7] rfl rfl (by decide) (by decide) (by decide) (fun _ => rfl) (Wd.runV (wc := [((ad 0), .inr (4, [.ref ((ad 1)), .ref ((ad 8)), .ref ((ad 13)), .ref ((ad 19)), .int (nI 31 * tq + nI 3), .int (ft)])), ((ad 1), .inr (1, [.int (nI (n)), .int (L), .ref ((ad 2)), .ref ((ad 3)), .ref ((ad 4)), .ref ((ad 5)), .ref ((ad 6)), .ref ((ad 7))])), ((ad 2), .inl (cyI, 12, .inl (fun zj => nI (mk zj)))), ((ad 3), .inl (cyI, 12, .inl (fun zj => nI (pt zj)))), ((ad 4), .inl (cyI, 72, .inl (fun zj => nI (ac zj)))), ((ad 5), .inl (cyI, 12, .inl far)), ((ad 6), .inl (cyI, 12, .inl (fun zj => nI (re zj)))), ((ad 7), .inl (cyI, 12, .inl (fun zj => nI (tr zj))))]) (rest := []) (As := [.int (nI (a))]) hC hw [0, 1, 2, 3, 4, 5, 6, 7] rfl (by decide) 0 rfl rfl (cwV 1 hC.2.2.2.2 gX4_tellAsEnd_X4_tellAsPost rfl rfl rfl (by decide +kernel) ⟨Nat.le_of_ble_eq_true rfl, Nat.le_of_ble_eq_true rfl⟩) (c_X4_tellAsPost l dC dI cyI cyJ cyZ cyS ad (nI 31 * tq + nI 3) ft n L mk pt ac far re tr a (by first | assumption | omega) (by first | assumption | omega) (by first | assumption | omega) _) rfl hl.1 rfl (Nat.le_of_ble_eq_true rfl) dX4_tellAsEnd_7 ⟨Nat.zero_le _, Nat.zero_le _⟩) (fun r_7 u H locs hr_7 hw => ?_)
  replace hw : Wd dC dI (tysA cyI cyJ cyZ cyS) [((ad 0), .inr (4, [.ref ((ad 1)), .ref ((ad 8)), .ref ((ad 13)), .ref ((ad 19)), .int (nI 31 * (nI 31 * tq + nI 3) + nI 1), .int (ft)])), ((ad 1), .inr (1, [.int (nI (n)), .int (L), .ref ((ad 2)), .ref ((ad 3)), .ref ((ad 4)), .ref ((ad 5)), .ref ((ad 6)), .ref ((ad 7))])), ((ad 2), .inl (cyI, 12, .inl (fun zj => nI (mk zj)))), ((ad 3), .inl (cyI, 12, .inl (fun zj => nI (pt zj)))), ((ad 4), .inl (cyI, 72, .inl (fun zj => nI (ac zj)))), ((ad 5), .inl (cyI, 12, .inl far)), ((ad 6), .inl (cyI, 12, .inl (fun zj => nI (re zj)))), ((ad 7), .inl (cyI, 12, .inl (fun zj => nI (tr zj))))] zA zs H locs := hw
  subst hr_7
  refine lv_ineg hC.1 hC.2.1 dX4_tellAsEnd_10 ?_
  refine lv_iconst (v := nI 1) hC.1 hC.2.1 dX4_tellAsEnd_11 (by decide) ?_
  refine lv_isub hC.1 hC.2.1 dX4_tellAsEnd_12 ?_
  exact hret _ _ _ ls ((-(nI (mk a))) - (nI (1))) () dX4_tellAsEnd_13 rfl rfl hw
