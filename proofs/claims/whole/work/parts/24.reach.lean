set_option maxHeartbeats 4000000 in
set_option maxRecDepth 100000 in
theorem c_X1_reachFrom (l : Launch) (dC : Nat → ClassId) (dI : Nat → Nat → Nat) (cyI cyJ cyZ cyS : ClassId) (ad : Nat → Nat) (n : Nat) (L : Int32) (mk pt ac : Nat → Nat) (far : Nat → Int32) (re tr : Nat → Nat) (p m a : Nat) (hN : NOk n mk pt ac) (hp : p < n) (hB : BQ n far re m) (ha : a < 12) (hfp : far p = nI a) : CtI l yX1_reachFrom wsX1_reachFrom ({ frames := 1, cells := 0, slots := 0, locals := 21 } : Room) dC dI (tysA cyI cyJ cyZ cyS) [.ref ((ad 1)), .int (nI (p)), .int (nI (m))] [((ad 1), .inr (1, [.int (nI (n)), .int (L), .ref ((ad 2)), .ref ((ad 3)), .ref ((ad 4)), .ref ((ad 5)), .ref ((ad 6)), .ref ((ad 7))])), ((ad 2), .inl (cyI, 12, .inl (fun zj => nI (mk zj)))), ((ad 3), .inl (cyI, 12, .inl (fun zj => nI (pt zj)))), ((ad 4), .inl (cyI, 72, .inl (fun zj => nI (ac zj)))), ((ad 5), .inl (cyI, 12, .inl far)), ((ad 6), .inl (cyI, 12, .inl (fun zj => nI (re zj)))), ((ad 7), .inl (cyI, 12, .inl (fun zj => nI (tr zj))))] (S := (Nat → Int32) × (Nat → Nat) × Nat) (fun (r : Int32) (u : (Nat → Int32) × (Nat → Nat) × Nat) => (r = nI (u.2.2)) ∧ (RS n pt ac far re m p u.1 u.2.1 u.2.2 (pt p))) (fun (u : (Nat → Int32) × (Nat → Nat) × Nat) => [((ad 1), .inr (1, [.int (nI (n)), .int (L), .ref ((ad 2)), .ref ((ad 3)), .ref ((ad 4)), .ref ((ad 5)), .ref ((ad 6)), .ref ((ad 7))])), ((ad 2), .inl (cyI, 12, .inl (fun zj => nI (mk zj)))), ((ad 3), .inl (cyI, 12, .inl (fun zj => nI (pt zj)))), ((ad 4), .inl (cyI, 72, .inl (fun zj => nI (ac zj)))), ((ad 5), .inl (cyI, 12, .inl u.1)), ((ad 6), .inl (cyI, 12, .inl (fun zj => nI (u.2.1 zj)))), ((ad 7), .inl (cyI, 12, .inl (fun zj => nI (tr zj))))]) := by
  refine CtI.mk (cc := cX1_reachFrom) (maxL := 6) (by decide) rfl (Nat.le_of_ble_eq_true rfl) ?_
  intro zp ze zs zm za zb zt zc zA zQ ls hC hw hl hret
  replace hC : CallFix zp zm zc cX1_reachFrom 6 zs za wsX1_reachFrom RX1 := hC
  replace hl : lv_has ls 6 [(0, .ref ((ad 1))), (1, .int (nI (p))), (2, .int (nI (m)))] := hl
  have hin1 : ∀ w ∈ u_ws RX1 TX1 8, w ∈ wsX1_reachFrom := by decide +kernel
  have lk15 : Cond.fieldLink RX1 15 (TX1 3).1 (TX1 3).2.1 (TX1 3).2.2.1 ∈ wsX1_reachFrom := by decide +kernel
  have lk18 : Cond.fieldLink RX1 18 (TX1 4).1 (TX1 4).2.1 (TX1 4).2.2.1 ∈ wsX1_reachFrom := by decide +kernel
  have lk21 : Cond.fieldLink RX1 21 (TX1 5).1 (TX1 5).2.1 (TX1 5).2.2.1 ∈ wsX1_reachFrom := by decide +kernel
  have lk24 : Cond.fieldLink RX1 24 (TX1 6).1 (TX1 6).2.1 (TX1 6).2.2.1 ∈ wsX1_reachFrom := by decide +kernel
  have hn := hN.n12
  have hpp := hN.p6 hp
  have hmn := hB.le
  refine lv_iload_n hC.1 hC.2.1 dX1_reachFrom_0 rfl (lv_at hl 2 rfl) ?_
  refine lv_istore_n (lv' := [(3, .int (nI (m))), (0, .ref ((ad 1))), (1, .int (nI (p))), (2, .int (nI (m)))]) hC.1 hC.2.1 dX1_reachFrom_1 rfl hl (by decide) rfl (fun ls hl => ?_)
  refine lv_iconst (v := nI 0) hC.1 hC.2.1 dX1_reachFrom_2 (by decide) ?_
  refine lv_istore (lv' := [(4, .int (nI (0))), (3, .int (nI (m))), (0, .ref ((ad 1))), (1, .int (nI (p))), (2, .int (nI (m)))]) hC.1 hC.2.1 dX1_reachFrom_3 hl (by decide) rfl (fun ls hl => ?_)
  have K5 : ∀ (zk : Nat), ∀ (m1 : Nat) (i : Nat) (far1 : Nat → Int32) (re1 : Nat → Nat) (H : Heap) (locs : List Loc) (ls : Array Slot), pt p - i < zk → (i ≤ pt p) → (RS n pt ac far re m p far1 re1 m1 i) → Wd dC dI (tysA cyI cyJ cyZ cyS) [((ad 1), .inr (1, [.int (nI (n)), .int (L), .ref ((ad 2)), .ref ((ad 3)), .ref ((ad 4)), .ref ((ad 5)), .ref ((ad 6)), .ref ((ad 7))])), ((ad 2), .inl (cyI, 12, .inl (fun zj => nI (mk zj)))), ((ad 3), .inl (cyI, 12, .inl (fun zj => nI (pt zj)))), ((ad 4), .inl (cyI, 72, .inl (fun zj => nI (ac zj)))), ((ad 5), .inl (cyI, 12, .inl far1)), ((ad 6), .inl (cyI, 12, .inl (fun zj => nI (re1 zj)))), ((ad 7), .inl (cyI, 12, .inl (fun zj => nI (tr zj))))] zA zs H locs → lv_has ls 6 [(0, .ref ((ad 1))), (1, .int (nI (p))), (3, .int (nI (m1))), (4, .int (nI (i)))] → W zp l ze ({ frames := 1, cells := 0, slots := 0, locals := 21 } : Room) zs zm za zb zt zc H locs 0 0 zQ (F0 zm 5 ls []) := by
    intro zk
    induction zk with
    | zero => intro m1 i far1 re1 H locs ls h0; exact absurd h0 (Nat.not_lt_zero _)
    | succ zk ih5 =>
      intro m1 i far1 re1 H locs ls hmu hi hS hw hl
      refine lv_iload hC.1 hC.2.1 dX1_reachFrom_5 (lv_at hl 3 rfl) ?_
      refine lv_aload_n hC.1 hC.2.1 dX1_reachFrom_7 rfl (lv_at hl 0 rfl) ?_
      refine g_get hC hw hin1 0 rfl rfl 3 (by decide) lk15 rfl dX1_reachFrom_8 ?_
      refine lv_iload_n hC.1 hC.2.1 dX1_reachFrom_11 rfl (lv_at hl 1 rfl) ?_
      refine g_ialdN hC hw 2 0 rfl rfl (by omega) (by first | decide | omega) dX1_reachFrom_12 ?_
      refine n_icmp_ge (tgt := 76) hC dX1_reachFrom_13 (by decide) (by omega) (by omega) (fun c_13 => ?_) (fun c_13 => ?_)
      · skip
        obtain rfl : i = pt p := by omega
        refine lv_iload_n hC.1 hC.2.1 dX1_reachFrom_76 rfl (lv_at hl 2 rfl) ?_
        exact hret _ _ _ ls (nI (m1)) ⟨far1, re1, m1⟩ dX1_reachFrom_77 rfl ⟨rfl, (by (try dsimp only); exact hS)⟩ hw
      · skip
        obtain ⟨q1, q2, q3, q4, q5⟩ := hN.a hp (i := i) (by omega)
        refine lv_aload_n hC.1 hC.2.1 dX1_reachFrom_16 rfl (lv_at hl 0 rfl) ?_
        refine g_get hC hw hin1 0 rfl rfl 4 (by decide) lk18 rfl dX1_reachFrom_17 ?_
        refine lv_iload_n hC.1 hC.2.1 dX1_reachFrom_20 rfl (lv_at hl 1 rfl) ?_
        refine lv_iload hC.1 hC.2.1 dX1_reachFrom_21 (lv_at hl 3 rfl) ?_
        refine W.ccI (wc := []) (wr := [((ad 1), .inr (1, [.int (nI (n)), .int (L), .ref ((ad 2)), .ref ((ad 3)), .ref ((ad 4)), .ref ((ad 5)), .ref ((ad 6)), .ref ((ad 7))])), ((ad 2), .inl (cyI, 12, .inl (fun zj => nI (mk zj)))), ((ad 3), .inl (cyI, 12, .inl (fun zj => nI (pt zj)))), ((ad 4), .inl (cyI, 72, .inl (fun zj => nI (ac zj)))), ((ad 5), .inl (cyI, 12, .inl far1)), ((ad 6), .inl (cyI, 12, .inl (fun zj => nI (re1 zj)))), ((ad 7), .inl (cyI, 12, .inl (fun zj => nI (tr zj))))]) (ws1 := fun (u : Unit) => []) (ws2 := fun (u : Unit) => [((ad 1), .inr (1, [.int (nI (n)), .int (L), .ref ((ad 2)), .ref ((ad 3)), .ref ((ad 4)), .ref ((ad 5)), .ref ((ad 6)), .ref ((ad 7))])), ((ad 2), .inl (cyI, 12, .inl (fun zj => nI (mk zj)))), ((ad 3), .inl (cyI, 12, .inl (fun zj => nI (pt zj)))), ((ad 4), .inl (cyI, 72, .inl (fun zj => nI (ac zj)))), ((ad 5), .inl (cyI, 12, .inl far1)), ((ad 6), .inl (cyI, 12, .inl (fun zj => nI (re1 zj)))), ((ad 7), .inl (cyI, 12, .inl (fun zj => nI (tr zj))))]) hw [] [0, 1, 2, 3, 4, 5, 6] [0, 1, 2, 3, 4, 5, 6] rfl rfl (by decide) (by decide) (by decide) (fun _ => rfl) (Wd.runSN (wc := []) (rest := [.ref ((ad 4))]) (As := [.int (nI (p)), .int (nI (i))]) hC hw [] rfl (by decide) ⟨va_cnB (host := "AlikePosts") 2 hC.2.2.2.2 gX1_reachFrom_X4_slotOf_n56 rfl rfl rfl (hw.1 _ (by decide +kernel)) (hC.2.2.2.2 (.initialized RX4) (by decide +kernel)) (by decide +kernel) ⟨Nat.le_of_ble_eq_true rfl, Nat.le_of_ble_eq_true rfl⟩, hC.2.2.2.2 (.static yX4_slotOf) (by decide +kernel), trivial⟩ (c_X4_slotOf l dC dI cyI cyJ cyZ cyS ad p i _) rfl hl.1 rfl (Nat.le_of_ble_eq_true rfl) dX1_reachFrom_23 ⟨Nat.zero_le _, Nat.zero_le _⟩) (fun r_23 u H locs hr_23 hw => ?_)
        replace hw : Wd dC dI (tysA cyI cyJ cyZ cyS) [((ad 1), .inr (1, [.int (nI (n)), .int (L), .ref ((ad 2)), .ref ((ad 3)), .ref ((ad 4)), .ref ((ad 5)), .ref ((ad 6)), .ref ((ad 7))])), ((ad 2), .inl (cyI, 12, .inl (fun zj => nI (mk zj)))), ((ad 3), .inl (cyI, 12, .inl (fun zj => nI (pt zj)))), ((ad 4), .inl (cyI, 72, .inl (fun zj => nI (ac zj)))), ((ad 5), .inl (cyI, 12, .inl far1)), ((ad 6), .inl (cyI, 12, .inl (fun zj => nI (re1 zj)))), ((ad 7), .inl (cyI, 12, .inl (fun zj => nI (tr zj))))] zA zs H locs := hw
        subst hr_23
        refine g_ialdN hC hw 3 0 rfl rfl (by omega) (by first | decide | omega) dX1_reachFrom_26 ?_
        refine W.ccI (wc := []) (wr := [((ad 1), .inr (1, [.int (nI (n)), .int (L), .ref ((ad 2)), .ref ((ad 3)), .ref ((ad 4)), .ref ((ad 5)), .ref ((ad 6)), .ref ((ad 7))])), ((ad 2), .inl (cyI, 12, .inl (fun zj => nI (mk zj)))), ((ad 3), .inl (cyI, 12, .inl (fun zj => nI (pt zj)))), ((ad 4), .inl (cyI, 72, .inl (fun zj => nI (ac zj)))), ((ad 5), .inl (cyI, 12, .inl far1)), ((ad 6), .inl (cyI, 12, .inl (fun zj => nI (re1 zj)))), ((ad 7), .inl (cyI, 12, .inl (fun zj => nI (tr zj))))]) (ws1 := fun (u : Unit) => []) (ws2 := fun (u : Unit) => [((ad 1), .inr (1, [.int (nI (n)), .int (L), .ref ((ad 2)), .ref ((ad 3)), .ref ((ad 4)), .ref ((ad 5)), .ref ((ad 6)), .ref ((ad 7))])), ((ad 2), .inl (cyI, 12, .inl (fun zj => nI (mk zj)))), ((ad 3), .inl (cyI, 12, .inl (fun zj => nI (pt zj)))), ((ad 4), .inl (cyI, 72, .inl (fun zj => nI (ac zj)))), ((ad 5), .inl (cyI, 12, .inl far1)), ((ad 6), .inl (cyI, 12, .inl (fun zj => nI (re1 zj)))), ((ad 7), .inl (cyI, 12, .inl (fun zj => nI (tr zj))))]) hw [] [0, 1, 2, 3, 4, 5, 6] [0, 1, 2, 3, 4, 5, 6] rfl rfl (by decide) (by decide) (by decide) (fun _ => rfl) (Wd.runSN (wc := []) (rest := []) (As := [.int (nI (ac (p * 6 + i)))]) hC hw [] rfl (by decide) ⟨va_cnB (host := "AlikePosts") 1 hC.2.2.2.2 gX1_reachFrom_X4_postOf_n76 rfl rfl rfl (hw.1 _ (by decide +kernel)) (hC.2.2.2.2 (.initialized RX4) (by decide +kernel)) (by decide +kernel) ⟨Nat.le_of_ble_eq_true rfl, Nat.le_of_ble_eq_true rfl⟩, hC.2.2.2.2 (.static yX4_postOf) (by decide +kernel), trivial⟩ (c_X4_postOf l dC dI cyI cyJ cyZ cyS ad (ac (p * 6 + i)) (by omega) _) rfl hl.1 rfl (Nat.le_of_ble_eq_true rfl) dX1_reachFrom_27 ⟨Nat.zero_le _, Nat.zero_le _⟩) (fun r_27 u H locs hr_27 hw => ?_)
        replace hw : Wd dC dI (tysA cyI cyJ cyZ cyS) [((ad 1), .inr (1, [.int (nI (n)), .int (L), .ref ((ad 2)), .ref ((ad 3)), .ref ((ad 4)), .ref ((ad 5)), .ref ((ad 6)), .ref ((ad 7))])), ((ad 2), .inl (cyI, 12, .inl (fun zj => nI (mk zj)))), ((ad 3), .inl (cyI, 12, .inl (fun zj => nI (pt zj)))), ((ad 4), .inl (cyI, 72, .inl (fun zj => nI (ac zj)))), ((ad 5), .inl (cyI, 12, .inl far1)), ((ad 6), .inl (cyI, 12, .inl (fun zj => nI (re1 zj)))), ((ad 7), .inl (cyI, 12, .inl (fun zj => nI (tr zj))))] zA zs H locs := hw
        subst hr_27
        refine lv_istore (lv' := [(5, .int (nI ((ac (p * 6 + i)) / 6))), (0, .ref ((ad 1))), (1, .int (nI (p))), (3, .int (nI (m1))), (4, .int (nI (i)))]) hC.1 hC.2.1 dX1_reachFrom_30 hl (by decide) rfl (fun ls hl => ?_)
        refine lv_aload_n hC.1 hC.2.1 dX1_reachFrom_32 rfl (lv_at hl 1 rfl) ?_
        refine g_get hC hw hin1 0 rfl rfl 5 (by decide) lk21 rfl dX1_reachFrom_33 ?_
        refine lv_iload hC.1 hC.2.1 dX1_reachFrom_36 (lv_at hl 0 rfl) ?_
        refine g_iald hC hw 4 0 rfl rfl (by omega) (by first | decide | omega) dX1_reachFrom_38 ?_
        refine lv_bipush (v := (-9)) hC.1 hC.2.1 dX1_reachFrom_39 (by decide) ?_
        refine lv_icmp_ne (tgt := 70) hC.1 hC.2.1 dX1_reachFrom_41 (by decide) (fun c_41 => ?_) (fun c_41 => ?_)
        · skip
          refine lv_iinc (v := nI (i + 1)) (lv' := [(4, .int (nI (i + 1))), (5, .int (nI ((ac (p * 6 + i)) / 6))), (0, .ref ((ad 1))), (1, .int (nI (p))), (3, .int (nI (m1)))]) hC.1 hC.2.1 dX1_reachFrom_70 hl (k := 4) rfl (nI_inc i 1) (by decide) rfl (fun ls hl => ?_)
          refine lv_goto (tgt := 5) hC.1 hC.2.1 dX1_reachFrom_73 (by decide) ?_
          exact ih5 m1 (i + 1) far1 re1 _ _ ls (by omega) (by omega) (by first | exact hS9 | exact hS.skip c_41) hw (lv_sub hl [2, 3, 4, 0] rfl)
        · skip
          have hlt := hS.1.lt q1 c_41
          have hS9 := hS.take hp ha hfp (by omega) q1 c_41
          refine lv_aload_n hC.1 hC.2.1 dX1_reachFrom_44 rfl (lv_at hl 1 rfl) ?_
          refine g_get hC hw hin1 0 rfl rfl 5 (by decide) lk21 rfl dX1_reachFrom_45 ?_
          refine lv_iload hC.1 hC.2.1 dX1_reachFrom_48 (lv_at hl 0 rfl) ?_
          refine lv_aload_n hC.1 hC.2.1 dX1_reachFrom_50 rfl (lv_at hl 1 rfl) ?_
          refine g_get hC hw hin1 0 rfl rfl 5 (by decide) lk21 rfl dX1_reachFrom_51 ?_
          refine lv_iload_n hC.1 hC.2.1 dX1_reachFrom_54 rfl (lv_at hl 2 rfl) ?_
          refine g_iald hC hw 4 0 rfl rfl (by omega) (by first | decide | omega) dX1_reachFrom_55 ?_
          refine lv_iconst (v := nI 1) hC.1 hC.2.1 dX1_reachFrom_56 (by decide) ?_
          refine lv_iadd hC.1 hC.2.1 dX1_reachFrom_57 ?_
          refine g_iast hC hw 4 0 rfl rfl (by omega) (by first | decide | omega) dX1_reachFrom_58 (fun H locs hw => ?_)
          replace hw : Wd dC dI (tysA cyI cyJ cyZ cyS) [((ad 1), .inr (1, [.int (nI (n)), .int (L), .ref ((ad 2)), .ref ((ad 3)), .ref ((ad 4)), .ref ((ad 5)), .ref ((ad 6)), .ref ((ad 7))])), ((ad 2), .inl (cyI, 12, .inl (fun zj => nI (mk zj)))), ((ad 3), .inl (cyI, 12, .inl (fun zj => nI (pt zj)))), ((ad 4), .inl (cyI, 72, .inl (fun zj => nI (ac zj)))), ((ad 5), .inl (cyI, 12, .inl (upd far1 ((ac (p * 6 + i)) / 6) ((far1 p) + (nI (1)))))), ((ad 6), .inl (cyI, 12, .inl (fun zj => nI (re1 zj)))), ((ad 7), .inl (cyI, 12, .inl (fun zj => nI (tr zj))))] zA zs H locs := hw
          refine lv_aload_n hC.1 hC.2.1 dX1_reachFrom_59 rfl (lv_at hl 1 rfl) ?_
          refine g_get hC hw hin1 0 rfl rfl 6 (by decide) lk24 rfl dX1_reachFrom_60 ?_
          refine lv_iload_n hC.1 hC.2.1 dX1_reachFrom_63 rfl (lv_at hl 3 rfl) ?_
          refine lv_iload hC.1 hC.2.1 dX1_reachFrom_64 (lv_at hl 0 rfl) ?_
          refine g_iastN hC hw 5 0 rfl rfl (by omega) (by first | decide | omega) dX1_reachFrom_66 (fun H locs hw => ?_)
          replace hw : Wd dC dI (tysA cyI cyJ cyZ cyS) [((ad 1), .inr (1, [.int (nI (n)), .int (L), .ref ((ad 2)), .ref ((ad 3)), .ref ((ad 4)), .ref ((ad 5)), .ref ((ad 6)), .ref ((ad 7))])), ((ad 2), .inl (cyI, 12, .inl (fun zj => nI (mk zj)))), ((ad 3), .inl (cyI, 12, .inl (fun zj => nI (pt zj)))), ((ad 4), .inl (cyI, 72, .inl (fun zj => nI (ac zj)))), ((ad 5), .inl (cyI, 12, .inl (upd far1 ((ac (p * 6 + i)) / 6) ((far1 p) + (nI (1)))))), ((ad 6), .inl (cyI, 12, .inl (fun zj => nI ((va_up re1 m1 ((ac (p * 6 + i)) / 6)) zj)))), ((ad 7), .inl (cyI, 12, .inl (fun zj => nI (tr zj))))] zA zs H locs := hw
          refine lv_iinc (v := nI (m1 + 1)) (lv' := [(3, .int (nI (m1 + 1))), (5, .int (nI ((ac (p * 6 + i)) / 6))), (0, .ref ((ad 1))), (1, .int (nI (p))), (4, .int (nI (i)))]) hC.1 hC.2.1 dX1_reachFrom_67 hl (k := 3) rfl (nI_inc m1 1) (by decide) rfl (fun ls hl => ?_)
          refine lv_iinc (v := nI (i + 1)) (lv' := [(4, .int (nI (i + 1))), (3, .int (nI (m1 + 1))), (5, .int (nI ((ac (p * 6 + i)) / 6))), (0, .ref ((ad 1))), (1, .int (nI (p)))]) hC.1 hC.2.1 dX1_reachFrom_70 hl (k := 4) rfl (nI_inc i 1) (by decide) rfl (fun ls hl => ?_)
          refine lv_goto (tgt := 5) hC.1 hC.2.1 dX1_reachFrom_73 (by decide) ?_
          exact ih5 (m1 + 1) (i + 1) (upd far1 ((ac (p * 6 + i)) / 6) ((far1 p) + (nI (1)))) (va_up re1 m1 ((ac (p * 6 + i)) / 6)) _ _ ls (by omega) (by omega) (by first | exact hS9 | exact hS.skip c_41) hw (lv_sub hl [3, 4, 1, 0] rfl)
  exact K5 _ m 0 far re _ _ ls (Nat.lt_succ_self _) (by omega) (by exact RS.init hB) hw (lv_sub hl [2, 3, 1, 0] rfl)

set_option maxHeartbeats 4000000 in
set_option maxRecDepth 100000 in
theorem c_X1_measure (l : Launch) (dC : Nat → ClassId) (dI : Nat → Nat → Nat) (cyI cyJ cyZ cyS : ClassId) (ad : Nat → Nat) (n : Nat) (L : Int32) (mk pt ac : Nat → Nat) (far : Nat → Int32) (re tr : Nat → Nat) (hN : NOk n mk pt ac) : CtI l yX1_measure wsX1_measure ({ frames := 2, cells := 0, slots := 0, locals := 46 } : Room) dC dI (tysA cyI cyJ cyZ cyS) [.ref ((ad 1))] [((ad 1), .inr (1, [.int (nI (n)), .int (L), .ref ((ad 2)), .ref ((ad 3)), .ref ((ad 4)), .ref ((ad 5)), .ref ((ad 6)), .ref ((ad 7))])), ((ad 2), .inl (cyI, 12, .inl (fun zj => nI (mk zj)))), ((ad 3), .inl (cyI, 12, .inl (fun zj => nI (pt zj)))), ((ad 4), .inl (cyI, 72, .inl (fun zj => nI (ac zj)))), ((ad 5), .inl (cyI, 12, .inl far)), ((ad 6), .inl (cyI, 12, .inl (fun zj => nI (re zj)))), ((ad 7), .inl (cyI, 12, .inl (fun zj => nI (tr zj))))] (S := (Nat → Int32) × (Nat → Nat)) (fun (r : Int32) (u : (Nat → Int32) × (Nat → Nat)) => (r = nI (cntR u.1 n)) ∧ (FarOk n pt ac u.1)) (fun (u : (Nat → Int32) × (Nat → Nat)) => [((ad 1), .inr (1, [.int (nI (n)), .int (L), .ref ((ad 2)), .ref ((ad 3)), .ref ((ad 4)), .ref ((ad 5)), .ref ((ad 6)), .ref ((ad 7))])), ((ad 2), .inl (cyI, 12, .inl (fun zj => nI (mk zj)))), ((ad 3), .inl (cyI, 12, .inl (fun zj => nI (pt zj)))), ((ad 4), .inl (cyI, 72, .inl (fun zj => nI (ac zj)))), ((ad 5), .inl (cyI, 12, .inl u.1)), ((ad 6), .inl (cyI, 12, .inl (fun zj => nI (u.2 zj)))), ((ad 7), .inl (cyI, 12, .inl (fun zj => nI (tr zj))))]) := by
  refine CtI.mk (cc := cX1_measure) (maxL := 3) (by decide) rfl (Nat.le_of_ble_eq_true rfl) ?_
  intro zp ze zs zm za zb zt zc zA zQ ls hC hw hl hret
  replace hC : CallFix zp zm zc cX1_measure 3 zs za wsX1_measure RX1 := hC
  replace hl : lv_has ls 3 [(0, .ref ((ad 1)))] := hl
  have hin1 : ∀ w ∈ u_ws RX1 TX1 8, w ∈ wsX1_measure := by decide +kernel
  have lk21 : Cond.fieldLink RX1 21 (TX1 5).1 (TX1 5).2.1 (TX1 5).2.2.1 ∈ wsX1_measure := by decide +kernel
  have lk24 : Cond.fieldLink RX1 24 (TX1 6).1 (TX1 6).2.1 (TX1 6).2.2.1 ∈ wsX1_measure := by decide +kernel
  have lk30 : Cond.fieldLink RX1 30 (TX1 0).1 (TX1 0).2.1 (TX1 0).2.2.1 ∈ wsX1_measure := by decide +kernel
  have hn := hN.n12
  have hf9 : ∀ q, q < n → flI far (-9) 12 q = -9 := fun q h => by simp only [flI]; rw [if_pos (by omega)]
  refine lv_aload_n hC.1 hC.2.1 dX1_measure_0 rfl (lv_at hl 0 rfl) ?_
  refine g_get hC hw hin1 0 rfl rfl 5 (by decide) lk21 rfl dX1_measure_1 ?_
  refine lv_bipush (v := (-9)) hC.1 hC.2.1 dX1_measure_4 (by decide) ?_
  refine W.ccV (wc := [((ad 5), .inl (cyI, 12, .inl far))]) (wr := [((ad 1), .inr (1, [.int (nI (n)), .int (L), .ref ((ad 2)), .ref ((ad 3)), .ref ((ad 4)), .ref ((ad 5)), .ref ((ad 6)), .ref ((ad 7))])), ((ad 2), .inl (cyI, 12, .inl (fun zj => nI (mk zj)))), ((ad 3), .inl (cyI, 12, .inl (fun zj => nI (pt zj)))), ((ad 4), .inl (cyI, 72, .inl (fun zj => nI (ac zj)))), ((ad 6), .inl (cyI, 12, .inl (fun zj => nI (re zj)))), ((ad 7), .inl (cyI, 12, .inl (fun zj => nI (tr zj))))]) (ws1 := fun (u : Unit) => [((ad 5), .inl (cyI, 12, .inl (flI far (-9) 12)))]) (ws2 := fun (u : Unit) => [((ad 1), .inr (1, [.int (nI (n)), .int (L), .ref ((ad 2)), .ref ((ad 3)), .ref ((ad 4)), .ref ((ad 5)), .ref ((ad 6)), .ref ((ad 7))])), ((ad 2), .inl (cyI, 12, .inl (fun zj => nI (mk zj)))), ((ad 3), .inl (cyI, 12, .inl (fun zj => nI (pt zj)))), ((ad 4), .inl (cyI, 72, .inl (fun zj => nI (ac zj)))), ((ad 5), .inl (cyI, 12, .inl (flI far (-9) 12))), ((ad 6), .inl (cyI, 12, .inl (fun zj => nI (re zj)))), ((ad 7), .inl (cyI, 12, .inl (fun zj => nI (tr zj))))]) hw [4] [0, 1, 2, 3, 5, 6] [0, 1, 2, 3, 6, 4, 5] rfl rfl (by decide) (by decide) (by decide) (fun _ => rfl) (Wd.runS (wc := [((ad 5), .inl (cyI, 12, .inl far))]) (rest := []) (As := [.ref ((ad 5)), .int ((-9))]) hC hw [4] rfl (by decide) (va_cwS 2 hC.2.2.2.2 gX1_measure_J7_fill_53178 rfl rfl rfl (by decide +kernel) ⟨Nat.le_of_ble_eq_true rfl, Nat.le_of_ble_eq_true rfl⟩) (c_fillI l dC dI cyI cyJ cyZ cyS ad (ad 5) 12 far (-9) (by first | assumption | omega) _) rfl hl.1 rfl (Nat.le_of_ble_eq_true rfl) dX1_measure_6 ⟨Nat.zero_le _, Nat.zero_le _⟩) (fun u H locs hr_6 hw => ?_)
  replace hw : Wd dC dI (tysA cyI cyJ cyZ cyS) [((ad 1), .inr (1, [.int (nI (n)), .int (L), .ref ((ad 2)), .ref ((ad 3)), .ref ((ad 4)), .ref ((ad 5)), .ref ((ad 6)), .ref ((ad 7))])), ((ad 2), .inl (cyI, 12, .inl (fun zj => nI (mk zj)))), ((ad 3), .inl (cyI, 12, .inl (fun zj => nI (pt zj)))), ((ad 4), .inl (cyI, 72, .inl (fun zj => nI (ac zj)))), ((ad 5), .inl (cyI, 12, .inl (flI far (-9) 12))), ((ad 6), .inl (cyI, 12, .inl (fun zj => nI (re zj)))), ((ad 7), .inl (cyI, 12, .inl (fun zj => nI (tr zj))))] zA zs H locs := hw
  refine lv_aload_n hC.1 hC.2.1 dX1_measure_9 rfl (lv_at hl 0 rfl) ?_
  refine g_get hC hw hin1 0 rfl rfl 0 (by decide) lk30 rfl dX1_measure_10 ?_
  refine n_if_ne (tgt := 18) hC dX1_measure_13 (by decide) (by omega) (fun c_13 => ?_) (fun c_13 => ?_)
  · skip
    refine lv_aload_n hC.1 hC.2.1 dX1_measure_18 rfl (lv_at hl 0 rfl) ?_
    refine g_get hC hw hin1 0 rfl rfl 5 (by decide) lk21 rfl dX1_measure_19 ?_
    refine lv_iconst (v := nI 0) hC.1 hC.2.1 dX1_measure_22 (by decide) ?_
    refine lv_iconst (v := nI 0) hC.1 hC.2.1 dX1_measure_23 (by decide) ?_
    refine g_iast hC hw 4 0 rfl rfl (by omega) (by first | decide | omega) dX1_measure_24 (fun H locs hw => ?_)
    replace hw : Wd dC dI (tysA cyI cyJ cyZ cyS) [((ad 1), .inr (1, [.int (nI (n)), .int (L), .ref ((ad 2)), .ref ((ad 3)), .ref ((ad 4)), .ref ((ad 5)), .ref ((ad 6)), .ref ((ad 7))])), ((ad 2), .inl (cyI, 12, .inl (fun zj => nI (mk zj)))), ((ad 3), .inl (cyI, 12, .inl (fun zj => nI (pt zj)))), ((ad 4), .inl (cyI, 72, .inl (fun zj => nI (ac zj)))), ((ad 5), .inl (cyI, 12, .inl (upd (flI far (-9) 12) 0 (nI (0))))), ((ad 6), .inl (cyI, 12, .inl (fun zj => nI (re zj)))), ((ad 7), .inl (cyI, 12, .inl (fun zj => nI (tr zj))))] zA zs H locs := hw
    refine lv_aload_n hC.1 hC.2.1 dX1_measure_25 rfl (lv_at hl 0 rfl) ?_
    refine g_get hC hw hin1 0 rfl rfl 6 (by decide) lk24 rfl dX1_measure_26 ?_
    refine lv_iconst (v := nI 0) hC.1 hC.2.1 dX1_measure_29 (by decide) ?_
    refine lv_iconst (v := nI 0) hC.1 hC.2.1 dX1_measure_30 (by decide) ?_
    refine g_iastN hC hw 5 0 rfl rfl (by omega) (by first | decide | omega) dX1_measure_31 (fun H locs hw => ?_)
    replace hw : Wd dC dI (tysA cyI cyJ cyZ cyS) [((ad 1), .inr (1, [.int (nI (n)), .int (L), .ref ((ad 2)), .ref ((ad 3)), .ref ((ad 4)), .ref ((ad 5)), .ref ((ad 6)), .ref ((ad 7))])), ((ad 2), .inl (cyI, 12, .inl (fun zj => nI (mk zj)))), ((ad 3), .inl (cyI, 12, .inl (fun zj => nI (pt zj)))), ((ad 4), .inl (cyI, 72, .inl (fun zj => nI (ac zj)))), ((ad 5), .inl (cyI, 12, .inl (upd (flI far (-9) 12) 0 (nI (0))))), ((ad 6), .inl (cyI, 12, .inl (fun zj => nI ((va_up re 0 0) zj)))), ((ad 7), .inl (cyI, 12, .inl (fun zj => nI (tr zj))))] zA zs H locs := hw
    refine lv_iconst (v := nI 1) hC.1 hC.2.1 dX1_measure_32 (by decide) ?_
    refine lv_istore_n (lv' := [(1, .int (nI (1))), (0, .ref ((ad 1)))]) hC.1 hC.2.1 dX1_measure_33 rfl hl (by decide) rfl (fun ls hl => ?_)
    refine lv_iconst (v := nI 0) hC.1 hC.2.1 dX1_measure_34 (by decide) ?_
    refine lv_istore_n (lv' := [(2, .int (nI (0))), (1, .int (nI (1))), (0, .ref ((ad 1)))]) hC.1 hC.2.1 dX1_measure_35 rfl hl (by decide) rfl (fun ls hl => ?_)
    have K36 : ∀ (zk : Nat), ∀ (m : Nat) (x : Nat) (far1 : Nat → Int32) (re1 : Nat → Nat) (H : Heap) (locs : List Loc) (ls : Array Slot), n - x < zk → (BL n pt ac far1 re1 x m) → Wd dC dI (tysA cyI cyJ cyZ cyS) [((ad 1), .inr (1, [.int (nI (n)), .int (L), .ref ((ad 2)), .ref ((ad 3)), .ref ((ad 4)), .ref ((ad 5)), .ref ((ad 6)), .ref ((ad 7))])), ((ad 2), .inl (cyI, 12, .inl (fun zj => nI (mk zj)))), ((ad 3), .inl (cyI, 12, .inl (fun zj => nI (pt zj)))), ((ad 4), .inl (cyI, 72, .inl (fun zj => nI (ac zj)))), ((ad 5), .inl (cyI, 12, .inl far1)), ((ad 6), .inl (cyI, 12, .inl (fun zj => nI (re1 zj)))), ((ad 7), .inl (cyI, 12, .inl (fun zj => nI (tr zj))))] zA zs H locs → lv_has ls 3 [(0, .ref ((ad 1))), (1, .int (nI (m))), (2, .int (nI (x)))] → W zp l ze ({ frames := 2, cells := 0, slots := 0, locals := 46 } : Room) zs zm za zb zt zc H locs 0 0 zQ (F0 zm 36 ls []) := by
      intro zk
      induction zk with
      | zero => intro m x far1 re1 H locs ls h0; exact absurd h0 (Nat.not_lt_zero _)
      | succ zk ih36 =>
        intro m x far1 re1 H locs ls hmu hL hw hl
        have hmle := hL.1.le
        have hxle := hL.2.1
        refine lv_iload_n hC.1 hC.2.1 dX1_measure_36 rfl (lv_at hl 2 rfl) ?_
        refine lv_aload_n hC.1 hC.2.1 dX1_measure_37 rfl (lv_at hl 0 rfl) ?_
        refine g_get hC hw hin1 0 rfl rfl 0 (by decide) lk30 rfl dX1_measure_38 ?_
        refine n_icmp_ge (tgt := 67) hC dX1_measure_41 (by decide) (by omega) (by omega) (fun c_41 => ?_) (fun c_41 => ?_)
        · skip
          have hmle := hL.1.le
          have hxm : m = x := by have := hL.2.1; omega
          subst hxm
          have hcn := hL.1.1
          refine lv_iload_n hC.1 hC.2.1 dX1_measure_67 rfl (lv_at hl 1 rfl) ?_
          exact hret _ _ _ ls (nI (m)) ⟨far1, re1⟩ dX1_measure_68 rfl ⟨(by rw [← hcn]), (by (try dsimp only); first | exact hL.done hN | (intro q h; omega))⟩ hw
        · skip
          refine lv_iload_n hC.1 hC.2.1 dX1_measure_44 rfl (lv_at hl 2 rfl) ?_
          refine lv_iload_n hC.1 hC.2.1 dX1_measure_45 rfl (lv_at hl 1 rfl) ?_
          refine n_icmp_ge (tgt := 67) hC dX1_measure_46 (by decide) (by omega) (by omega) (fun c_46 => ?_) (fun c_46 => ?_)
          · skip
            have hmle := hL.1.le
            have hxm : m = x := by have := hL.2.1; omega
            subst hxm
            have hcn := hL.1.1
            refine lv_iload_n hC.1 hC.2.1 dX1_measure_67 rfl (lv_at hl 1 rfl) ?_
            exact hret _ _ _ ls (nI (m)) ⟨far1, re1⟩ dX1_measure_68 rfl ⟨(by rw [← hcn]), (by (try dsimp only); first | exact hL.done hN | (intro q h; omega))⟩ hw
          · skip
            obtain ⟨ax, hax1, hax, hrx⟩ := hL.at (by omega)
            have hmle := hL.1.le
            refine lv_aload_n hC.1 hC.2.1 dX1_measure_49 rfl (lv_at hl 0 rfl) ?_
            refine lv_aload_n hC.1 hC.2.1 dX1_measure_50 rfl (lv_at hl 0 rfl) ?_
            refine g_get hC hw hin1 0 rfl rfl 6 (by decide) lk24 rfl dX1_measure_51 ?_
            refine lv_iload_n hC.1 hC.2.1 dX1_measure_54 rfl (lv_at hl 2 rfl) ?_
            refine g_ialdN hC hw 5 0 rfl rfl (by omega) (by first | decide | omega) dX1_measure_55 ?_
            refine lv_iload_n hC.1 hC.2.1 dX1_measure_56 rfl (lv_at hl 1 rfl) ?_
            refine W.ccI (wc := [((ad 1), .inr (1, [.int (nI (n)), .int (L), .ref ((ad 2)), .ref ((ad 3)), .ref ((ad 4)), .ref ((ad 5)), .ref ((ad 6)), .ref ((ad 7))])), ((ad 2), .inl (cyI, 12, .inl (fun zj => nI (mk zj)))), ((ad 3), .inl (cyI, 12, .inl (fun zj => nI (pt zj)))), ((ad 4), .inl (cyI, 72, .inl (fun zj => nI (ac zj)))), ((ad 5), .inl (cyI, 12, .inl far1)), ((ad 6), .inl (cyI, 12, .inl (fun zj => nI (re1 zj)))), ((ad 7), .inl (cyI, 12, .inl (fun zj => nI (tr zj))))]) (wr := []) (ws1 := fun (u : (Nat → Int32) × (Nat → Nat) × Nat) => [((ad 1), .inr (1, [.int (nI (n)), .int (L), .ref ((ad 2)), .ref ((ad 3)), .ref ((ad 4)), .ref ((ad 5)), .ref ((ad 6)), .ref ((ad 7))])), ((ad 2), .inl (cyI, 12, .inl (fun zj => nI (mk zj)))), ((ad 3), .inl (cyI, 12, .inl (fun zj => nI (pt zj)))), ((ad 4), .inl (cyI, 72, .inl (fun zj => nI (ac zj)))), ((ad 5), .inl (cyI, 12, .inl u.1)), ((ad 6), .inl (cyI, 12, .inl (fun zj => nI (u.2.1 zj)))), ((ad 7), .inl (cyI, 12, .inl (fun zj => nI (tr zj))))]) (ws2 := fun (u : (Nat → Int32) × (Nat → Nat) × Nat) => [((ad 1), .inr (1, [.int (nI (n)), .int (L), .ref ((ad 2)), .ref ((ad 3)), .ref ((ad 4)), .ref ((ad 5)), .ref ((ad 6)), .ref ((ad 7))])), ((ad 2), .inl (cyI, 12, .inl (fun zj => nI (mk zj)))), ((ad 3), .inl (cyI, 12, .inl (fun zj => nI (pt zj)))), ((ad 4), .inl (cyI, 72, .inl (fun zj => nI (ac zj)))), ((ad 5), .inl (cyI, 12, .inl u.1)), ((ad 6), .inl (cyI, 12, .inl (fun zj => nI (u.2.1 zj)))), ((ad 7), .inl (cyI, 12, .inl (fun zj => nI (tr zj))))]) hw [0, 1, 2, 3, 4, 5, 6] [] [0, 1, 2, 3, 4, 5, 6] rfl rfl (by decide) (by decide) (by decide) (fun _ => rfl) (Wd.runV (wc := [((ad 1), .inr (1, [.int (nI (n)), .int (L), .ref ((ad 2)), .ref ((ad 3)), .ref ((ad 4)), .ref ((ad 5)), .ref ((ad 6)), .ref ((ad 7))])), ((ad 2), .inl (cyI, 12, .inl (fun zj => nI (mk zj)))), ((ad 3), .inl (cyI, 12, .inl (fun zj => nI (pt zj)))), ((ad 4), .inl (cyI, 72, .inl (fun zj => nI (ac zj)))), ((ad 5), .inl (cyI, 12, .inl far1)), ((ad 6), .inl (cyI, 12, .inl (fun zj => nI (re1 zj)))), ((ad 7), .inl (cyI, 12, .inl (fun zj => nI (tr zj))))]) (rest := []) (As := [.int (nI (re1 x)), .int (nI (m))]) hC hw [0, 1, 2, 3, 4, 5, 6] rfl (by decide) 0 rfl rfl (cwV 2 hC.2.2.2.2 gX1_measure_X1_reachFrom rfl rfl rfl (by decide +kernel) ⟨Nat.le_of_ble_eq_true rfl, Nat.le_of_ble_eq_true rfl⟩) (c_X1_reachFrom l dC dI cyI cyJ cyZ cyS ad n L mk pt ac far1 re1 tr (re1 x) m ax (by first | assumption | omega) (by exact hrx) (by exact hL.1) (by exact (show ax < 12 by omega)) (by exact hax) _) rfl hl.1 rfl (Nat.le_of_ble_eq_true rfl) dX1_measure_57 ⟨Nat.zero_le _, Nat.zero_le _⟩) (fun r_57 u H locs hr_57 hw => ?_)
            obtain ⟨far2_57, re2_57, m2_57⟩ := u
            replace hw : Wd dC dI (tysA cyI cyJ cyZ cyS) [((ad 1), .inr (1, [.int (nI (n)), .int (L), .ref ((ad 2)), .ref ((ad 3)), .ref ((ad 4)), .ref ((ad 5)), .ref ((ad 6)), .ref ((ad 7))])), ((ad 2), .inl (cyI, 12, .inl (fun zj => nI (mk zj)))), ((ad 3), .inl (cyI, 12, .inl (fun zj => nI (pt zj)))), ((ad 4), .inl (cyI, 72, .inl (fun zj => nI (ac zj)))), ((ad 5), .inl (cyI, 12, .inl far2_57)), ((ad 6), .inl (cyI, 12, .inl (fun zj => nI (re2_57 zj)))), ((ad 7), .inl (cyI, 12, .inl (fun zj => nI (tr zj))))] zA zs H locs := hw
            obtain ⟨hr_57, hRS_57⟩ := hr_57
            try dsimp only at hRS_57
            try dsimp only at hr_57
            subst hr_57
            refine lv_istore_n (lv' := [(1, .int (nI (m2_57))), (0, .ref ((ad 1))), (2, .int (nI (x)))]) hC.1 hC.2.1 dX1_measure_60 rfl hl (by decide) rfl (fun ls hl => ?_)
            refine lv_iinc (v := nI (x + 1)) (lv' := [(2, .int (nI (x + 1))), (1, .int (nI (m2_57))), (0, .ref ((ad 1)))]) hC.1 hC.2.1 dX1_measure_61 hl (k := 2) rfl (nI_inc x 1) (by decide) rfl (fun ls hl => ?_)
            refine lv_goto (tgt := 36) hC.1 hC.2.1 dX1_measure_64 (by decide) ?_
            exact ih36 m2_57 (x + 1) far2_57 re2_57 _ _ ls (by have h8 := hL.1.le; omega) (by exact hL.step hN (by omega) hRS_57) hw (lv_sub hl [2, 1, 0] rfl)
    exact K36 _ 1 0 (upd (flI far (-9) 12) 0 (nI (0))) (va_up re 0 0) _ _ ls (Nat.lt_succ_self _) (by exact BL.init (by omega) hf9) hw (lv_sub hl [2, 1, 0] rfl)
  · skip
    obtain rfl : n = 0 := by omega
    refine lv_iconst (v := nI 0) hC.1 hC.2.1 dX1_measure_16 (by decide) ?_
    exact hret _ _ _ ls (nI (0)) ⟨flI far (-9) 12, re⟩ dX1_measure_17 rfl ⟨(by rfl), (by (try dsimp only); first | exact hL.done hN | (intro q h; omega))⟩ hw
