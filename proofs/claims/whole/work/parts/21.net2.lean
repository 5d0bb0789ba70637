set_option maxHeartbeats 4000000 in
set_option maxRecDepth 100000 in
theorem c_fillI (l : Launch) (dC : Nat → ClassId) (dI : Nat → Nat → Nat) (cyI cyJ cyZ cyS : ClassId) (ad : Nat → Nat) (fA N : Nat) (f : Nat → Int32) (v : Int32) (hN : N < 2 ^ 31) : CtV l yJ7_fill_53178 wsJ7_fill_53178 ({ frames := 0, cells := 0, slots := 0, locals := 0 } : Room) dC dI (tysA cyI cyJ cyZ cyS) [.ref (fA), .int (v)] [(fA, .inl (cyI, N, .inl f))] (S := Unit) (fun (u : Unit) => True) (fun (u : Unit) => [(fA, .inl (cyI, N, .inl (flI f v N)))]) := by
  refine CtV.mk (cc := cJ7_fill_53178) (maxL := 4) (by decide) rfl (Nat.le_of_ble_eq_true rfl) ?_
  intro zp ze zs zm za zb zt zc zA zQ ls hC hw hl hret
  replace hC : CallFix zp zm zc cJ7_fill_53178 4 zs za wsJ7_fill_53178 RJ7 := hC
  replace hl : lv_has ls 4 [(0, .ref (fA)), (1, .int (v))] := hl
  refine lv_iconst (v := nI 0) hC.1 hC.2.1 dJ7_fill_53178_0 (by decide) ?_
  refine lv_istore_n (lv' := [(2, .int (nI (0))), (0, .ref (fA)), (1, .int (v))]) hC.1 hC.2.1 dJ7_fill_53178_1 rfl hl (by decide) rfl (fun ls hl => ?_)
  refine lv_aload_n hC.1 hC.2.1 dJ7_fill_53178_2 rfl (lv_at hl 1 rfl) ?_
  refine g_alen hC hw 0 0 rfl rfl dJ7_fill_53178_3 ?_
  refine lv_istore_n (lv' := [(3, .int (nI (N))), (2, .int (nI (0))), (0, .ref (fA)), (1, .int (v))]) hC.1 hC.2.1 dJ7_fill_53178_4 rfl hl (by decide) rfl (fun ls hl => ?_)
  have K5 : ∀ (zk : Nat), ∀ (i : Nat) (f1 : Nat → Int32) (H : Heap) (locs : List Loc) (ls : Array Slot), N - i < zk → (i ≤ N) → (f1 = flI f v i) → Wd dC dI (tysA cyI cyJ cyZ cyS) [(fA, .inl (cyI, N, .inl f1))] zA zs H locs → lv_has ls 4 [(0, .ref (fA)), (1, .int (v)), (2, .int (nI (i))), (3, .int (nI (N)))] → W zp l ze ({ frames := 0, cells := 0, slots := 0, locals := 0 } : Room) zs zm za zb zt zc H locs 0 0 zQ (F0 zm 5 ls []) := by
    intro zk
    induction zk with
    | zero => intro i f1 H locs ls h0; exact absurd h0 (Nat.not_lt_zero _)
    | succ zk ih5 =>
      intro i f1 H locs ls hmu hi hf hw hl
      refine lv_iload_n hC.1 hC.2.1 dJ7_fill_53178_5 rfl (lv_at hl 2 rfl) ?_
      refine lv_iload_n hC.1 hC.2.1 dJ7_fill_53178_6 rfl (lv_at hl 3 rfl) ?_
      refine n_icmp_ge (tgt := 20) hC dJ7_fill_53178_7 (by decide) (by omega) (by omega) (fun c_7 => ?_) (fun c_7 => ?_)
      · skip
        obtain rfl : i = N := by omega
        subst hf
        exact hret _ _ _ ls  () dJ7_fill_53178_20 trivial hw
      · skip
        refine lv_aload_n hC.1 hC.2.1 dJ7_fill_53178_10 rfl (lv_at hl 0 rfl) ?_
        refine lv_iload_n hC.1 hC.2.1 dJ7_fill_53178_11 rfl (lv_at hl 2 rfl) ?_
        refine lv_iload_n hC.1 hC.2.1 dJ7_fill_53178_12 rfl (lv_at hl 1 rfl) ?_
        refine g_iast hC hw 0 0 rfl rfl (by omega) (by first | decide | omega) dJ7_fill_53178_13 (fun H locs hw => ?_)
        replace hw : Wd dC dI (tysA cyI cyJ cyZ cyS) [(fA, .inl (cyI, N, .inl (upd f1 i v)))] zA zs H locs := hw
        refine lv_iinc (v := nI (i + 1)) (lv' := [(2, .int (nI (i + 1))), (0, .ref (fA)), (1, .int (v)), (3, .int (nI (N)))]) hC.1 hC.2.1 dJ7_fill_53178_14 hl (k := 2) rfl (nI_inc i 1) (by decide) rfl (fun ls hl => ?_)
        refine lv_goto (tgt := 5) hC.1 hC.2.1 dJ7_fill_53178_17 (by decide) ?_
        exact ih5 (i + 1) (upd f1 i v) _ _ ls (by omega) (by omega) (by rw [hf, flI_1]) hw (lv_sub hl [1, 2, 0, 3] rfl)
  exact K5 _ 0 f _ _ ls (Nat.lt_succ_self _) (by omega) (by exact (flI_0 f v).symm) hw (lv_sub hl [2, 3, 1, 0] rfl)

set_option maxHeartbeats 4000000 in
set_option maxRecDepth 100000 in
theorem c_fillN (l : Launch) (dC : Nat → ClassId) (dI : Nat → Nat → Nat) (cyI cyJ cyZ cyS : ClassId) (ad : Nat → Nat) (fA N : Nat) (f : Nat → Nat) (v : Nat) (hN : N < 2 ^ 31) : CtV l yJ7_fill_53178 wsJ7_fill_53178 ({ frames := 0, cells := 0, slots := 0, locals := 0 } : Room) dC dI (tysA cyI cyJ cyZ cyS) [.ref (fA), .int (nI (v))] [(fA, .inl (cyI, N, .inl (fun zj => nI (f zj))))] (S := Unit) (fun (u : Unit) => True) (fun (u : Unit) => [(fA, .inl (cyI, N, .inl (fun zj => nI ((flN f v N) zj))))]) := by
  refine CtV.mk (cc := cJ7_fill_53178) (maxL := 4) (by decide) rfl (Nat.le_of_ble_eq_true rfl) ?_
  intro zp ze zs zm za zb zt zc zA zQ ls hC hw hl hret
  replace hC : CallFix zp zm zc cJ7_fill_53178 4 zs za wsJ7_fill_53178 RJ7 := hC
  replace hl : lv_has ls 4 [(0, .ref (fA)), (1, .int (nI (v)))] := hl
  refine lv_iconst (v := nI 0) hC.1 hC.2.1 dJ7_fill_53178_0 (by decide) ?_
  refine lv_istore_n (lv' := [(2, .int (nI (0))), (0, .ref (fA)), (1, .int (nI (v)))]) hC.1 hC.2.1 dJ7_fill_53178_1 rfl hl (by decide) rfl (fun ls hl => ?_)
  refine lv_aload_n hC.1 hC.2.1 dJ7_fill_53178_2 rfl (lv_at hl 1 rfl) ?_
  refine g_alen hC hw 0 0 rfl rfl dJ7_fill_53178_3 ?_
  refine lv_istore_n (lv' := [(3, .int (nI (N))), (2, .int (nI (0))), (0, .ref (fA)), (1, .int (nI (v)))]) hC.1 hC.2.1 dJ7_fill_53178_4 rfl hl (by decide) rfl (fun ls hl => ?_)
  have K5 : ∀ (zk : Nat), ∀ (i : Nat) (f1 : Nat → Nat) (H : Heap) (locs : List Loc) (ls : Array Slot), N - i < zk → (i ≤ N) → (f1 = flN f v i) → Wd dC dI (tysA cyI cyJ cyZ cyS) [(fA, .inl (cyI, N, .inl (fun zj => nI (f1 zj))))] zA zs H locs → lv_has ls 4 [(0, .ref (fA)), (1, .int (nI (v))), (2, .int (nI (i))), (3, .int (nI (N)))] → W zp l ze ({ frames := 0, cells := 0, slots := 0, locals := 0 } : Room) zs zm za zb zt zc H locs 0 0 zQ (F0 zm 5 ls []) := by
    intro zk
    induction zk with
    | zero => intro i f1 H locs ls h0; exact absurd h0 (Nat.not_lt_zero _)
    | succ zk ih5 =>
      intro i f1 H locs ls hmu hi hf hw hl
      refine lv_iload_n hC.1 hC.2.1 dJ7_fill_53178_5 rfl (lv_at hl 2 rfl) ?_
      refine lv_iload_n hC.1 hC.2.1 dJ7_fill_53178_6 rfl (lv_at hl 3 rfl) ?_
      refine n_icmp_ge (tgt := 20) hC dJ7_fill_53178_7 (by decide) (by omega) (by omega) (fun c_7 => ?_) (fun c_7 => ?_)
      · skip
        obtain rfl : i = N := by omega
        subst hf
        exact hret _ _ _ ls  () dJ7_fill_53178_20 trivial hw
      · skip
        refine lv_aload_n hC.1 hC.2.1 dJ7_fill_53178_10 rfl (lv_at hl 0 rfl) ?_
        refine lv_iload_n hC.1 hC.2.1 dJ7_fill_53178_11 rfl (lv_at hl 2 rfl) ?_
        refine lv_iload_n hC.1 hC.2.1 dJ7_fill_53178_12 rfl (lv_at hl 1 rfl) ?_
        refine g_iastN hC hw 0 0 rfl rfl (by omega) (by first | decide | omega) dJ7_fill_53178_13 (fun H locs hw => ?_)
        replace hw : Wd dC dI (tysA cyI cyJ cyZ cyS) [(fA, .inl (cyI, N, .inl (fun zj => nI ((va_up f1 i v) zj))))] zA zs H locs := hw
        refine lv_iinc (v := nI (i + 1)) (lv' := [(2, .int (nI (i + 1))), (0, .ref (fA)), (1, .int (nI (v))), (3, .int (nI (N)))]) hC.1 hC.2.1 dJ7_fill_53178_14 hl (k := 2) rfl (nI_inc i 1) (by decide) rfl (fun ls hl => ?_)
        refine lv_goto (tgt := 5) hC.1 hC.2.1 dJ7_fill_53178_17 (by decide) ?_
        exact ih5 (i + 1) (va_up f1 i v) _ _ ls (by omega) (by omega) (by rw [hf, flN_1]) hw (lv_sub hl [1, 2, 0, 3] rfl)
  exact K5 _ 0 f _ _ ls (Nat.lt_succ_self _) (by omega) (by exact (flN_0 f v).symm) hw (lv_sub hl [2, 3, 1, 0] rfl)

set_option maxHeartbeats 4000000 in
set_option maxRecDepth 100000 in
theorem c_X1_hasPort (l : Launch) (dC : Nat → ClassId) (dI : Nat → Nat → Nat) (cyI cyJ cyZ cyS : ClassId) (ad : Nat → Nat) (n : Nat) (L : Int32) (mk pt ac : Nat → Nat) (far : Nat → Int32) (re tr : Nat → Nat) (hn : n ≤ 12) (hpt : ∀ p, p < n → pt p ≤ 6) (x y : Int32) : CtI l yX1_hasPort wsX1_hasPort ({ frames := 1, cells := 0, slots := 0, locals := 21 } : Room) dC dI (tysA cyI cyJ cyZ cyS) [.ref ((ad 1)), .int (x), .int (y)] [((ad 1), .inr (1, [.int (nI (n)), .int (L), .ref ((ad 2)), .ref ((ad 3)), .ref ((ad 4)), .ref ((ad 5)), .ref ((ad 6)), .ref ((ad 7))])), ((ad 2), .inl (cyI, 12, .inl (fun zj => nI (mk zj)))), ((ad 3), .inl (cyI, 12, .inl (fun zj => nI (pt zj)))), ((ad 4), .inl (cyI, 72, .inl (fun zj => nI (ac zj)))), ((ad 5), .inl (cyI, 12, .inl far)), ((ad 6), .inl (cyI, 12, .inl (fun zj => nI (re zj)))), ((ad 7), .inl (cyI, 12, .inl (fun zj => nI (tr zj))))] (S := Unit) (fun (r : Int32) (u : Unit) => (((isPt n pt x y) → r = nI 1) ∧ (¬ (isPt n pt x y) → r = nI 0))) (fun (u : Unit) => [((ad 1), .inr (1, [.int (nI (n)), .int (L), .ref ((ad 2)), .ref ((ad 3)), .ref ((ad 4)), .ref ((ad 5)), .ref ((ad 6)), .ref ((ad 7))])), ((ad 2), .inl (cyI, 12, .inl (fun zj => nI (mk zj)))), ((ad 3), .inl (cyI, 12, .inl (fun zj => nI (pt zj)))), ((ad 4), .inl (cyI, 72, .inl (fun zj => nI (ac zj)))), ((ad 5), .inl (cyI, 12, .inl far)), ((ad 6), .inl (cyI, 12, .inl (fun zj => nI (re zj)))), ((ad 7), .inl (cyI, 12, .inl (fun zj => nI (tr zj))))]) := by
  refine CtI.mk (cc := cX1_hasPort) (maxL := 3) (by decide) rfl (Nat.le_of_ble_eq_true rfl) ?_
  intro zp ze zs zm za zb zt zc zA zQ ls hC hw hl hret
  replace hC : CallFix zp zm zc cX1_hasPort 3 zs za wsX1_hasPort RX1 := hC
  replace hl : lv_has ls 3 [(0, .ref ((ad 1))), (1, .int (x)), (2, .int (y))] := hl
  have hin1 : ∀ w ∈ u_ws RX1 TX1 8, w ∈ wsX1_hasPort := by decide +kernel
  have lk15 : Cond.fieldLink RX1 15 (TX1 3).1 (TX1 3).2.1 (TX1 3).2.2.1 ∈ wsX1_hasPort := by decide +kernel
  refine lv_aload_n hC.1 hC.2.1 dX1_hasPort_0 rfl (lv_at hl 0 rfl) ?_
  refine lv_iload_n hC.1 hC.2.1 dX1_hasPort_1 rfl (lv_at hl 1 rfl) ?_
  refine W.ccI (wc := [((ad 1), .inr (1, [.int (nI (n)), .int (L), .ref ((ad 2)), .ref ((ad 3)), .ref ((ad 4)), .ref ((ad 5)), .ref ((ad 6)), .ref ((ad 7))])), ((ad 2), .inl (cyI, 12, .inl (fun zj => nI (mk zj)))), ((ad 3), .inl (cyI, 12, .inl (fun zj => nI (pt zj)))), ((ad 4), .inl (cyI, 72, .inl (fun zj => nI (ac zj)))), ((ad 5), .inl (cyI, 12, .inl far)), ((ad 6), .inl (cyI, 12, .inl (fun zj => nI (re zj)))), ((ad 7), .inl (cyI, 12, .inl (fun zj => nI (tr zj))))]) (wr := []) (ws1 := fun (u : Unit) => [((ad 1), .inr (1, [.int (nI (n)), .int (L), .ref ((ad 2)), .ref ((ad 3)), .ref ((ad 4)), .ref ((ad 5)), .ref ((ad 6)), .ref ((ad 7))])), ((ad 2), .inl (cyI, 12, .inl (fun zj => nI (mk zj)))), ((ad 3), .inl (cyI, 12, .inl (fun zj => nI (pt zj)))), ((ad 4), .inl (cyI, 72, .inl (fun zj => nI (ac zj)))), ((ad 5), .inl (cyI, 12, .inl far)), ((ad 6), .inl (cyI, 12, .inl (fun zj => nI (re zj)))), ((ad 7), .inl (cyI, 12, .inl (fun zj => nI (tr zj))))]) (ws2 := fun (u : Unit) => [((ad 1), .inr (1, [.int (nI (n)), .int (L), .ref ((ad 2)), .ref ((ad 3)), .ref ((ad 4)), .ref ((ad 5)), .ref ((ad 6)), .ref ((ad 7))])), ((ad 2), .inl (cyI, 12, .inl (fun zj => nI (mk zj)))), ((ad 3), .inl (cyI, 12, .inl (fun zj => nI (pt zj)))), ((ad 4), .inl (cyI, 72, .inl (fun zj => nI (ac zj)))), ((ad 5), .inl (cyI, 12, .inl far)), ((ad 6), .inl (cyI, 12, .inl (fun zj => nI (re zj)))), ((ad 7), .inl (cyI, 12, .inl (fun zj => nI (tr zj))))]) hw [0, 1, 2, 3, 4, 5, 6] [] [0, 1, 2, 3, 4, 5, 6] rfl rfl (by decide) (by decide) (by decide) (fun _ => rfl) (Wd.runV (wc := [((ad 1), .inr (1, [.int (nI (n)), .int (L), .ref ((ad 2)), .ref ((ad 3)), .ref ((ad 4)), .ref ((ad 5)), .ref ((ad 6)), .ref ((ad 7))])), ((ad 2), .inl (cyI, 12, .inl (fun zj => nI (mk zj)))), ((ad 3), .inl (cyI, 12, .inl (fun zj => nI (pt zj)))), ((ad 4), .inl (cyI, 72, .inl (fun zj => nI (ac zj)))), ((ad 5), .inl (cyI, 12, .inl far)), ((ad 6), .inl (cyI, 12, .inl (fun zj => nI (re zj)))), ((ad 7), .inl (cyI, 12, .inl (fun zj => nI (tr zj))))]) (rest := []) (As := [.int (x)]) hC hw [0, 1, 2, 3, 4, 5, 6] rfl (by decide) 0 rfl rfl (cwV 1 hC.2.2.2.2 gX1_hasPort_X1_has rfl rfl rfl (by decide +kernel) ⟨Nat.le_of_ble_eq_true rfl, Nat.le_of_ble_eq_true rfl⟩) (c_X1_has l dC dI cyI cyJ cyZ cyS ad n L mk pt ac far re tr (by first | assumption | omega) x _) rfl hl.1 rfl (Nat.le_of_ble_eq_true rfl) dX1_hasPort_2 ⟨Nat.zero_le _, Nat.zero_le _⟩) (fun r_2 u H locs hr_2 hw => ?_)
  replace hw : Wd dC dI (tysA cyI cyJ cyZ cyS) [((ad 1), .inr (1, [.int (nI (n)), .int (L), .ref ((ad 2)), .ref ((ad 3)), .ref ((ad 4)), .ref ((ad 5)), .ref ((ad 6)), .ref ((ad 7))])), ((ad 2), .inl (cyI, 12, .inl (fun zj => nI (mk zj)))), ((ad 3), .inl (cyI, 12, .inl (fun zj => nI (pt zj)))), ((ad 4), .inl (cyI, 72, .inl (fun zj => nI (ac zj)))), ((ad 5), .inl (cyI, 12, .inl far)), ((ad 6), .inl (cyI, 12, .inl (fun zj => nI (re zj)))), ((ad 7), .inl (cyI, 12, .inl (fun zj => nI (tr zj))))] zA zs H locs := hw
  rcases Classical.em (vp_in x n) with c_2 | c_2
  · skip
    obtain rfl := hr_2.1 c_2
    obtain ⟨a, ha, rfl⟩ := vp_in_of c_2 (by omega)
    have hpa := hpt a ha
    have e9a : (nI a).toNatClampNeg = a := nI_clamp (by omega)
    have i9 : vp_in (nI a) n := (in_nI (by omega)).mpr ha
    refine lv_if_eq (tgt := 26) hC.1 hC.2.1 dX1_hasPort_5 (by decide) (fun h9 => False.elim (by revert h9; decide)) (fun _ => ?_)
    refine lv_iload_n hC.1 hC.2.1 dX1_hasPort_8 rfl (lv_at hl 2 rfl) ?_
    refine lv_if_lt (tgt := 26) hC.1 hC.2.1 dX1_hasPort_9 (by decide) (fun c_9 => ?_) (fun c_9 => ?_)
    · skip
      refine lv_iconst (v := nI 0) hC.1 hC.2.1 dX1_hasPort_26 (by decide) ?_
      exact hret _ _ _ ls (nI (0)) () dX1_hasPort_27 (by first | rfl | decide) ⟨fun h9 => by first | rfl | (exfalso; rw [isPt_iff hn hpt] at h9; simp_all), fun h9 => by first | rfl | (exfalso; rw [isPt_iff hn hpt] at h9; simp_all)⟩ hw
    · skip
      refine lv_iload_n hC.1 hC.2.1 dX1_hasPort_12 rfl (lv_at hl 2 rfl) ?_
      refine lv_aload_n hC.1 hC.2.1 dX1_hasPort_13 rfl (lv_at hl 0 rfl) ?_
      refine g_get hC hw hin1 0 rfl rfl 3 (by decide) lk15 rfl dX1_hasPort_14 ?_
      refine lv_iload_n hC.1 hC.2.1 dX1_hasPort_17 rfl (lv_at hl 1 rfl) ?_
      refine g_ialdN hC hw 2 0 rfl rfl (by omega) (by first | decide | omega) dX1_hasPort_18 ?_
      refine lv_icmp_ge (tgt := 26) hC.1 hC.2.1 dX1_hasPort_19 (by decide) (fun c_19 => ?_) (fun c_19 => ?_)
      · skip
        refine lv_iconst (v := nI 0) hC.1 hC.2.1 dX1_hasPort_26 (by decide) ?_
        exact hret _ _ _ ls (nI (0)) () dX1_hasPort_27 (by first | rfl | decide) ⟨fun h9 => by first | rfl | (exfalso; rw [isPt_iff hn hpt] at h9; simp_all), fun h9 => by first | rfl | (exfalso; rw [isPt_iff hn hpt] at h9; simp_all)⟩ hw
      · skip
        refine lv_iconst (v := nI 1) hC.1 hC.2.1 dX1_hasPort_22 (by decide) ?_
        refine lv_goto (tgt := 27) hC.1 hC.2.1 dX1_hasPort_23 (by decide) ?_
        exact hret _ _ _ ls (nI (1)) () dX1_hasPort_27 (by first | rfl | decide) ⟨fun h9 => by first | rfl | (exfalso; rw [isPt_iff hn hpt] at h9; simp_all), fun h9 => by first | rfl | (exfalso; rw [isPt_iff hn hpt] at h9; simp_all)⟩ hw
  · skip
    obtain rfl := hr_2.2 c_2
    refine lv_if_eq (tgt := 26) hC.1 hC.2.1 dX1_hasPort_5 (by decide) (fun _ => ?_) (fun h9 => False.elim (by revert h9; decide))
    refine lv_iconst (v := nI 0) hC.1 hC.2.1 dX1_hasPort_26 (by decide) ?_
    exact hret _ _ _ ls (nI (0)) () dX1_hasPort_27 (by first | rfl | decide) ⟨fun h9 => by first | rfl | (exfalso; rw [isPt_iff hn hpt] at h9; simp_all), fun h9 => by first | rfl | (exfalso; rw [isPt_iff hn hpt] at h9; simp_all)⟩ hw

set_option maxHeartbeats 4000000 in
set_option maxRecDepth 100000 in
theorem c_X1_refusalOfLine (l : Launch) (dC : Nat → ClassId) (dI : Nat → Nat → Nat) (cyI cyJ cyZ cyS : ClassId) (ad : Nat → Nat) (n : Nat) (L : Int32) (mk pt ac : Nat → Nat) (far : Nat → Int32) (re tr : Nat → Nat) (hn : n ≤ 12) (hq : ∀ p, p < n → pt p ≤ 6) (x y : Int32) : CtI l yX1_refusalOfLine wsX1_refusalOfLine ({ frames := 1, cells := 0, slots := 0, locals := 21 } : Room) dC dI (tysA cyI cyJ cyZ cyS) [.ref ((ad 1)), .int (x), .int (y), .ref ((ad 3))] [((ad 1), .inr (1, [.int (nI (n)), .int (L), .ref ((ad 2)), .ref ((ad 3)), .ref ((ad 4)), .ref ((ad 5)), .ref ((ad 6)), .ref ((ad 7))])), ((ad 2), .inl (cyI, 12, .inl (fun zj => nI (mk zj)))), ((ad 3), .inl (cyI, 12, .inl (fun zj => nI (pt zj)))), ((ad 4), .inl (cyI, 72, .inl (fun zj => nI (ac zj)))), ((ad 5), .inl (cyI, 12, .inl far)), ((ad 6), .inl (cyI, 12, .inl (fun zj => nI (re zj)))), ((ad 7), .inl (cyI, 12, .inl (fun zj => nI (tr zj))))] (S := Unit) (fun (r : Int32) (u : Unit) => (r = rfu n pt x y)) (fun (u : Unit) => [((ad 1), .inr (1, [.int (nI (n)), .int (L), .ref ((ad 2)), .ref ((ad 3)), .ref ((ad 4)), .ref ((ad 5)), .ref ((ad 6)), .ref ((ad 7))])), ((ad 2), .inl (cyI, 12, .inl (fun zj => nI (mk zj)))), ((ad 3), .inl (cyI, 12, .inl (fun zj => nI (pt zj)))), ((ad 4), .inl (cyI, 72, .inl (fun zj => nI (ac zj)))), ((ad 5), .inl (cyI, 12, .inl far)), ((ad 6), .inl (cyI, 12, .inl (fun zj => nI (re zj)))), ((ad 7), .inl (cyI, 12, .inl (fun zj => nI (tr zj))))]) := by
  refine CtI.mk (cc := cX1_refusalOfLine) (maxL := 4) (by decide) rfl (Nat.le_of_ble_eq_true rfl) ?_
  intro zp ze zs zm za zb zt zc zA zQ ls hC hw hl hret
  replace hC : CallFix zp zm zc cX1_refusalOfLine 4 zs za wsX1_refusalOfLine RX1 := hC
  replace hl : lv_has ls 4 [(0, .ref ((ad 1))), (1, .int (x)), (2, .int (y)), (3, .ref ((ad 3)))] := hl
  refine lv_aload_n hC.1 hC.2.1 dX1_refusalOfLine_0 rfl (lv_at hl 0 rfl) ?_
  refine lv_iload_n hC.1 hC.2.1 dX1_refusalOfLine_1 rfl (lv_at hl 1 rfl) ?_
  refine W.ccI (wc := [((ad 1), .inr (1, [.int (nI (n)), .int (L), .ref ((ad 2)), .ref ((ad 3)), .ref ((ad 4)), .ref ((ad 5)), .ref ((ad 6)), .ref ((ad 7))])), ((ad 2), .inl (cyI, 12, .inl (fun zj => nI (mk zj)))), ((ad 3), .inl (cyI, 12, .inl (fun zj => nI (pt zj)))), ((ad 4), .inl (cyI, 72, .inl (fun zj => nI (ac zj)))), ((ad 5), .inl (cyI, 12, .inl far)), ((ad 6), .inl (cyI, 12, .inl (fun zj => nI (re zj)))), ((ad 7), .inl (cyI, 12, .inl (fun zj => nI (tr zj))))]) (wr := []) (ws1 := fun (u : Unit) => [((ad 1), .inr (1, [.int (nI (n)), .int (L), .ref ((ad 2)), .ref ((ad 3)), .ref ((ad 4)), .ref ((ad 5)), .ref ((ad 6)), .ref ((ad 7))])), ((ad 2), .inl (cyI, 12, .inl (fun zj => nI (mk zj)))), ((ad 3), .inl (cyI, 12, .inl (fun zj => nI (pt zj)))), ((ad 4), .inl (cyI, 72, .inl (fun zj => nI (ac zj)))), ((ad 5), .inl (cyI, 12, .inl far)), ((ad 6), .inl (cyI, 12, .inl (fun zj => nI (re zj)))), ((ad 7), .inl (cyI, 12, .inl (fun zj => nI (tr zj))))]) (ws2 := fun (u : Unit) => [((ad 1), .inr (1, [.int (nI (n)), .int (L), .ref ((ad 2)), .ref ((ad 3)), .ref ((ad 4)), .ref ((ad 5)), .ref ((ad 6)), .ref ((ad 7))])), ((ad 2), .inl (cyI, 12, .inl (fun zj => nI (mk zj)))), ((ad 3), .inl (cyI, 12, .inl (fun zj => nI (pt zj)))), ((ad 4), .inl (cyI, 72, .inl (fun zj => nI (ac zj)))), ((ad 5), .inl (cyI, 12, .inl far)), ((ad 6), .inl (cyI, 12, .inl (fun zj => nI (re zj)))), ((ad 7), .inl (cyI, 12, .inl (fun zj => nI (tr zj))))]) hw [0, 1, 2, 3, 4, 5, 6] [] [0, 1, 2, 3, 4, 5, 6] rfl rfl (by decide) (by decide) (by decide) (fun _ => rfl) (Wd.runV (wc := [((ad 1), .inr (1, [.int (nI (n)), .int (L), .ref ((ad 2)), .ref ((ad 3)), .ref ((ad 4)), .ref ((ad 5)), .ref ((ad 6)), .ref ((ad 7))])), ((ad 2), .inl (cyI, 12, .inl (fun zj => nI (mk zj)))), ((ad 3), .inl (cyI, 12, .inl (fun zj => nI (pt zj)))), ((ad 4), .inl (cyI, 72, .inl (fun zj => nI (ac zj)))), ((ad 5), .inl (cyI, 12, .inl far)), ((ad 6), .inl (cyI, 12, .inl (fun zj => nI (re zj)))), ((ad 7), .inl (cyI, 12, .inl (fun zj => nI (tr zj))))]) (rest := []) (As := [.int (x)]) hC hw [0, 1, 2, 3, 4, 5, 6] rfl (by decide) 0 rfl rfl (cwV 1 hC.2.2.2.2 gX1_refusalOfLine_X1_has rfl rfl rfl (by decide +kernel) ⟨Nat.le_of_ble_eq_true rfl, Nat.le_of_ble_eq_true rfl⟩) (c_X1_has l dC dI cyI cyJ cyZ cyS ad n L mk pt ac far re tr (by first | assumption | omega) x _) rfl hl.1 rfl (Nat.le_of_ble_eq_true rfl) dX1_refusalOfLine_2 ⟨Nat.zero_le _, Nat.zero_le _⟩) (fun r_2 u H locs hr_2 hw => ?_)
  replace hw : Wd dC dI (tysA cyI cyJ cyZ cyS) [((ad 1), .inr (1, [.int (nI (n)), .int (L), .ref ((ad 2)), .ref ((ad 3)), .ref ((ad 4)), .ref ((ad 5)), .ref ((ad 6)), .ref ((ad 7))])), ((ad 2), .inl (cyI, 12, .inl (fun zj => nI (mk zj)))), ((ad 3), .inl (cyI, 12, .inl (fun zj => nI (pt zj)))), ((ad 4), .inl (cyI, 72, .inl (fun zj => nI (ac zj)))), ((ad 5), .inl (cyI, 12, .inl far)), ((ad 6), .inl (cyI, 12, .inl (fun zj => nI (re zj)))), ((ad 7), .inl (cyI, 12, .inl (fun zj => nI (tr zj))))] zA zs H locs := hw
  rcases Classical.em (vp_in x n) with cx | cx
  · skip
    obtain rfl := hr_2.1 cx
    obtain ⟨a, ha, rfl⟩ := vp_in_of cx (by omega)
    have hqa := hq a ha
    refine lv_if_eq (tgt := 16) hC.1 hC.2.1 dX1_refusalOfLine_5 (by decide) (fun h9 => False.elim (by revert h9; decide)) (fun _ => ?_)
    refine lv_aload_n hC.1 hC.2.1 dX1_refusalOfLine_8 rfl (lv_at hl 0 rfl) ?_
    refine lv_iload_n hC.1 hC.2.1 dX1_refusalOfLine_9 rfl (lv_at hl 2 rfl) ?_
    refine W.ccI (wc := [((ad 1), .inr (1, [.int (nI (n)), .int (L), .ref ((ad 2)), .ref ((ad 3)), .ref ((ad 4)), .ref ((ad 5)), .ref ((ad 6)), .ref ((ad 7))])), ((ad 2), .inl (cyI, 12, .inl (fun zj => nI (mk zj)))), ((ad 3), .inl (cyI, 12, .inl (fun zj => nI (pt zj)))), ((ad 4), .inl (cyI, 72, .inl (fun zj => nI (ac zj)))), ((ad 5), .inl (cyI, 12, .inl far)), ((ad 6), .inl (cyI, 12, .inl (fun zj => nI (re zj)))), ((ad 7), .inl (cyI, 12, .inl (fun zj => nI (tr zj))))]) (wr := []) (ws1 := fun (u : Unit) => [((ad 1), .inr (1, [.int (nI (n)), .int (L), .ref ((ad 2)), .ref ((ad 3)), .ref ((ad 4)), .ref ((ad 5)), .ref ((ad 6)), .ref ((ad 7))])), ((ad 2), .inl (cyI, 12, .inl (fun zj => nI (mk zj)))), ((ad 3), .inl (cyI, 12, .inl (fun zj => nI (pt zj)))), ((ad 4), .inl (cyI, 72, .inl (fun zj => nI (ac zj)))), ((ad 5), .inl (cyI, 12, .inl far)), ((ad 6), .inl (cyI, 12, .inl (fun zj => nI (re zj)))), ((ad 7), .inl (cyI, 12, .inl (fun zj => nI (tr zj))))]) (ws2 := fun (u : Unit) => [((ad 1), .inr (1, [.int (nI (n)), .int (L), .ref ((ad 2)), .ref ((ad 3)), .ref ((ad 4)), .ref ((ad 5)), .ref ((ad 6)), .ref ((ad 7))])), ((ad 2), .inl (cyI, 12, .inl (fun zj => nI (mk zj)))), ((ad 3), .inl (cyI, 12, .inl (fun zj => nI (pt zj)))), ((ad 4), .inl (cyI, 72, .inl (fun zj => nI (ac zj)))), ((ad 5), .inl (cyI, 12, .inl far)), ((ad 6), .inl (cyI, 12, .inl (fun zj => nI (re zj)))), ((ad 7), .inl (cyI, 12, .inl (fun zj => nI (tr zj))))]) hw [0, 1, 2, 3, 4, 5, 6] [] [0, 1, 2, 3, 4, 5, 6] rfl rfl (by decide) (by decide) (by decide) (fun _ => rfl) (Wd.runV (wc := [((ad 1), .inr (1, [.int (nI (n)), .int (L), .ref ((ad 2)), .ref ((ad 3)), .ref ((ad 4)), .ref ((ad 5)), .ref ((ad 6)), .ref ((ad 7))])), ((ad 2), .inl (cyI, 12, .inl (fun zj => nI (mk zj)))), ((ad 3), .inl (cyI, 12, .inl (fun zj => nI (pt zj)))), ((ad 4), .inl (cyI, 72, .inl (fun zj => nI (ac zj)))), ((ad 5), .inl (cyI, 12, .inl far)), ((ad 6), .inl (cyI, 12, .inl (fun zj => nI (re zj)))), ((ad 7), .inl (cyI, 12, .inl (fun zj => nI (tr zj))))]) (rest := []) (As := [.int (y)]) hC hw [0, 1, 2, 3, 4, 5, 6] rfl (by decide) 0 rfl rfl (cwV 1 hC.2.2.2.2 gX1_refusalOfLine_X1_has rfl rfl rfl (by decide +kernel) ⟨Nat.le_of_ble_eq_true rfl, Nat.le_of_ble_eq_true rfl⟩) (c_X1_has l dC dI cyI cyJ cyZ cyS ad n L mk pt ac far re tr (by first | assumption | omega) y _) rfl hl.1 rfl (Nat.le_of_ble_eq_true rfl) dX1_refusalOfLine_10 ⟨Nat.zero_le _, Nat.zero_le _⟩) (fun r_10 u H locs hr_10 hw => ?_)
    replace hw : Wd dC dI (tysA cyI cyJ cyZ cyS) [((ad 1), .inr (1, [.int (nI (n)), .int (L), .ref ((ad 2)), .ref ((ad 3)), .ref ((ad 4)), .ref ((ad 5)), .ref ((ad 6)), .ref ((ad 7))])), ((ad 2), .inl (cyI, 12, .inl (fun zj => nI (mk zj)))), ((ad 3), .inl (cyI, 12, .inl (fun zj => nI (pt zj)))), ((ad 4), .inl (cyI, 72, .inl (fun zj => nI (ac zj)))), ((ad 5), .inl (cyI, 12, .inl far)), ((ad 6), .inl (cyI, 12, .inl (fun zj => nI (re zj)))), ((ad 7), .inl (cyI, 12, .inl (fun zj => nI (tr zj))))] zA zs H locs := hw
    rcases Classical.em (vp_in y n) with cy | cy
    · skip
      obtain rfl := hr_10.1 cy
      obtain ⟨b, hb, rfl⟩ := vp_in_of cy (by omega)
      have hqb := hq b hb
      refine lv_if_ne (tgt := 18) hC.1 hC.2.1 dX1_refusalOfLine_13 (by decide) (fun _ => ?_) (fun h9 => False.elim (by revert h9; decide))
      refine lv_iload_n hC.1 hC.2.1 dX1_refusalOfLine_18 rfl (lv_at hl 1 rfl) ?_
      refine lv_iload_n hC.1 hC.2.1 dX1_refusalOfLine_19 rfl (lv_at hl 2 rfl) ?_
      refine n_icmp_ne (tgt := 26) hC dX1_refusalOfLine_20 (by decide) (by omega) (by omega) (fun c20 => ?_) (fun c20 => ?_)
      · skip
        refine lv_aload_n hC.1 hC.2.1 dX1_refusalOfLine_26 rfl (lv_at hl 3 rfl) ?_
        refine lv_iload_n hC.1 hC.2.1 dX1_refusalOfLine_27 rfl (lv_at hl 1 rfl) ?_
        refine g_ialdN hC hw 2 0 rfl rfl (by omega) (by first | decide | omega) dX1_refusalOfLine_28 ?_
        refine lv_bipush (v := nI 6) hC.1 hC.2.1 dX1_refusalOfLine_29 (by decide) ?_
        refine n_icmp_ge (tgt := 42) hC dX1_refusalOfLine_31 (by decide) (by omega) (by omega) (fun c_31 => ?_) (fun c_31 => ?_)
        · skip
          refine lv_bipush (v := (-4)) hC.1 hC.2.1 dX1_refusalOfLine_42 (by decide) ?_
          exact hret _ _ _ ls ((-4)) () dX1_refusalOfLine_44 rfl (by rw [rfu_in hn ha hb, if_neg c20, if_neg (by omega)]) hw
        · skip
          refine lv_aload_n hC.1 hC.2.1 dX1_refusalOfLine_34 rfl (lv_at hl 3 rfl) ?_
          refine lv_iload_n hC.1 hC.2.1 dX1_refusalOfLine_35 rfl (lv_at hl 2 rfl) ?_
          refine g_ialdN hC hw 2 0 rfl rfl (by omega) (by first | decide | omega) dX1_refusalOfLine_36 ?_
          refine lv_bipush (v := nI 6) hC.1 hC.2.1 dX1_refusalOfLine_37 (by decide) ?_
          refine n_icmp_lt (tgt := 45) hC dX1_refusalOfLine_39 (by decide) (by omega) (by omega) (fun c_39 => ?_) (fun c_39 => ?_)
          · skip
            refine lv_iconst (v := nI 0) hC.1 hC.2.1 dX1_refusalOfLine_45 (by decide) ?_
            exact hret _ _ _ ls (nI (0)) () dX1_refusalOfLine_46 rfl (by rw [rfu_in hn ha hb, if_neg c20, if_pos ⟨by omega, by omega⟩]; first | done | rfl) hw
          · skip
            refine lv_bipush (v := (-4)) hC.1 hC.2.1 dX1_refusalOfLine_42 (by decide) ?_
            exact hret _ _ _ ls ((-4)) () dX1_refusalOfLine_44 rfl (by rw [rfu_in hn ha hb, if_neg c20, if_neg (by omega)]) hw
      · skip
        refine lv_bipush (v := (-2)) hC.1 hC.2.1 dX1_refusalOfLine_23 (by decide) ?_
        exact hret _ _ _ ls ((-2)) () dX1_refusalOfLine_25 rfl (by rw [rfu_in hn ha hb, if_pos c20]) hw
    · skip
      obtain rfl := hr_10.2 cy
      refine lv_if_ne (tgt := 18) hC.1 hC.2.1 dX1_refusalOfLine_13 (by decide) (fun h9 => False.elim (by revert h9; decide)) (fun _ => ?_)
      refine lv_iconst (v := (-1)) hC.1 hC.2.1 dX1_refusalOfLine_16 (by decide) ?_
      exact hret _ _ _ ls ((-1)) () dX1_refusalOfLine_17 rfl (by first | rw [rfu_x cx] | rw [rfu_y cy]) hw
  · skip
    obtain rfl := hr_2.2 cx
    refine lv_if_eq (tgt := 16) hC.1 hC.2.1 dX1_refusalOfLine_5 (by decide) (fun _ => ?_) (fun h9 => False.elim (by revert h9; decide))
    refine lv_iconst (v := (-1)) hC.1 hC.2.1 dX1_refusalOfLine_16 (by decide) ?_
    exact hret _ _ _ ls ((-1)) () dX1_refusalOfLine_17 rfl (by first | rw [rfu_x cx] | rw [rfu_y cy]) hw

set_option maxHeartbeats 4000000 in
set_option maxRecDepth 100000 in
theorem c_X1_refusalOfLine_t (l : Launch) (dC : Nat → ClassId) (dI : Nat → Nat → Nat) (cyI cyJ cyZ cyS : ClassId) (ad : Nat → Nat) (n : Nat) (L : Int32) (mk pt ac : Nat → Nat) (far : Nat → Int32) (re tr : Nat → Nat) (hn : n ≤ 12) (hq : ∀ p, p < n → tr p ≤ 6) (x y : Int32) : CtI l yX1_refusalOfLine wsX1_refusalOfLine ({ frames := 1, cells := 0, slots := 0, locals := 21 } : Room) dC dI (tysA cyI cyJ cyZ cyS) [.ref ((ad 1)), .int (x), .int (y), .ref ((ad 7))] [((ad 1), .inr (1, [.int (nI (n)), .int (L), .ref ((ad 2)), .ref ((ad 3)), .ref ((ad 4)), .ref ((ad 5)), .ref ((ad 6)), .ref ((ad 7))])), ((ad 2), .inl (cyI, 12, .inl (fun zj => nI (mk zj)))), ((ad 3), .inl (cyI, 12, .inl (fun zj => nI (pt zj)))), ((ad 4), .inl (cyI, 72, .inl (fun zj => nI (ac zj)))), ((ad 5), .inl (cyI, 12, .inl far)), ((ad 6), .inl (cyI, 12, .inl (fun zj => nI (re zj)))), ((ad 7), .inl (cyI, 12, .inl (fun zj => nI (tr zj))))] (S := Unit) (fun (r : Int32) (u : Unit) => (r = rfu n tr x y)) (fun (u : Unit) => [((ad 1), .inr (1, [.int (nI (n)), .int (L), .ref ((ad 2)), .ref ((ad 3)), .ref ((ad 4)), .ref ((ad 5)), .ref ((ad 6)), .ref ((ad 7))])), ((ad 2), .inl (cyI, 12, .inl (fun zj => nI (mk zj)))), ((ad 3), .inl (cyI, 12, .inl (fun zj => nI (pt zj)))), ((ad 4), .inl (cyI, 72, .inl (fun zj => nI (ac zj)))), ((ad 5), .inl (cyI, 12, .inl far)), ((ad 6), .inl (cyI, 12, .inl (fun zj => nI (re zj)))), ((ad 7), .inl (cyI, 12, .inl (fun zj => nI (tr zj))))]) := by
  refine CtI.mk (cc := cX1_refusalOfLine) (maxL := 4) (by decide) rfl (Nat.le_of_ble_eq_true rfl) ?_
  intro zp ze zs zm za zb zt zc zA zQ ls hC hw hl hret
  replace hC : CallFix zp zm zc cX1_refusalOfLine 4 zs za wsX1_refusalOfLine RX1 := hC
  replace hl : lv_has ls 4 [(0, .ref ((ad 1))), (1, .int (x)), (2, .int (y)), (3, .ref ((ad 7)))] := hl
  refine lv_aload_n hC.1 hC.2.1 dX1_refusalOfLine_0 rfl (lv_at hl 0 rfl) ?_
  refine lv_iload_n hC.1 hC.2.1 dX1_refusalOfLine_1 rfl (lv_at hl 1 rfl) ?_
  refine W.ccI (wc := [((ad 1), .inr (1, [.int (nI (n)), .int (L), .ref ((ad 2)), .ref ((ad 3)), .ref ((ad 4)), .ref ((ad 5)), .ref ((ad 6)), .ref ((ad 7))])), ((ad 2), .inl (cyI, 12, .inl (fun zj => nI (mk zj)))), ((ad 3), .inl (cyI, 12, .inl (fun zj => nI (pt zj)))), ((ad 4), .inl (cyI, 72, .inl (fun zj => nI (ac zj)))), ((ad 5), .inl (cyI, 12, .inl far)), ((ad 6), .inl (cyI, 12, .inl (fun zj => nI (re zj)))), ((ad 7), .inl (cyI, 12, .inl (fun zj => nI (tr zj))))]) (wr := []) (ws1 := fun (u : Unit) => [((ad 1), .inr (1, [.int (nI (n)), .int (L), .ref ((ad 2)), .ref ((ad 3)), .ref ((ad 4)), .ref ((ad 5)), .ref ((ad 6)), .ref ((ad 7))])), ((ad 2), .inl (cyI, 12, .inl (fun zj => nI (mk zj)))), ((ad 3), .inl (cyI, 12, .inl (fun zj => nI (pt zj)))), ((ad 4), .inl (cyI, 72, .inl (fun zj => nI (ac zj)))), ((ad 5), .inl (cyI, 12, .inl far)), ((ad 6), .inl (cyI, 12, .inl (fun zj => nI (re zj)))), ((ad 7), .inl (cyI, 12, .inl (fun zj => nI (tr zj))))]) (ws2 := fun (u : Unit) => [((ad 1), .inr (1, [.int (nI (n)), .int (L), .ref ((ad 2)), .ref ((ad 3)), .ref ((ad 4)), .ref ((ad 5)), .ref ((ad 6)), .ref ((ad 7))])), ((ad 2), .inl (cyI, 12, .inl (fun zj => nI (mk zj)))), ((ad 3), .inl (cyI, 12, .inl (fun zj => nI (pt zj)))), ((ad 4), .inl (cyI, 72, .inl (fun zj => nI (ac zj)))), ((ad 5), .inl (cyI, 12, .inl far)), ((ad 6), .inl (cyI, 12, .inl (fun zj => nI (re zj)))), ((ad 7), .inl (cyI, 12, .inl (fun zj => nI (tr zj))))]) hw [0, 1, 2, 3, 4, 5, 6] [] [0, 1, 2, 3, 4, 5, 6] rfl rfl (by decide) (by decide) (by decide) (fun _ => rfl) (Wd.runV (wc := [((ad 1), .inr (1, [.int (nI (n)), .int (L), .ref ((ad 2)), .ref ((ad 3)), .ref ((ad 4)), .ref ((ad 5)), .ref ((ad 6)), .ref ((ad 7))])), ((ad 2), .inl (cyI, 12, .inl (fun zj => nI (mk zj)))), ((ad 3), .inl (cyI, 12, .inl (fun zj => nI (pt zj)))), ((ad 4), .inl (cyI, 72, .inl (fun zj => nI (ac zj)))), ((ad 5), .inl (cyI, 12, .inl far)), ((ad 6), .inl (cyI, 12, .inl (fun zj => nI (re zj)))), ((ad 7), .inl (cyI, 12, .inl (fun zj => nI (tr zj))))]) (rest := []) (As := [.int (x)]) hC hw [0, 1, 2, 3, 4, 5, 6] rfl (by decide) 0 rfl rfl (cwV 1 hC.2.2.2.2 gX1_refusalOfLine_X1_has rfl rfl rfl (by decide +kernel) ⟨Nat.le_of_ble_eq_true rfl, Nat.le_of_ble_eq_true rfl⟩) (c_X1_has l dC dI cyI cyJ cyZ cyS ad n L mk pt ac far re tr (by first | assumption | omega) x _) rfl hl.1 rfl (Nat.le_of_ble_eq_true rfl) dX1_refusalOfLine_2 ⟨Nat.zero_le _, Nat.zero_le _⟩) (fun r_2 u H locs hr_2 hw => ?_)
  replace hw : Wd dC dI (tysA cyI cyJ cyZ cyS) [((ad 1), .inr (1, [.int (nI (n)), .int (L), .ref ((ad 2)), .ref ((ad 3)), .ref ((ad 4)), .ref ((ad 5)), .ref ((ad 6)), .ref ((ad 7))])), ((ad 2), .inl (cyI, 12, .inl (fun zj => nI (mk zj)))), ((ad 3), .inl (cyI, 12, .inl (fun zj => nI (pt zj)))), ((ad 4), .inl (cyI, 72, .inl (fun zj => nI (ac zj)))), ((ad 5), .inl (cyI, 12, .inl far)), ((ad 6), .inl (cyI, 12, .inl (fun zj => nI (re zj)))), ((ad 7), .inl (cyI, 12, .inl (fun zj => nI (tr zj))))] zA zs H locs := hw
  rcases Classical.em (vp_in x n) with cx | cx
  · skip
    obtain rfl := hr_2.1 cx
    obtain ⟨a, ha, rfl⟩ := vp_in_of cx (by omega)
    have hqa := hq a ha
    refine lv_if_eq (tgt := 16) hC.1 hC.2.1 dX1_refusalOfLine_5 (by decide) (fun h9 => False.elim (by revert h9; decide)) (fun _ => ?_)
    refine lv_aload_n hC.1 hC.2.1 dX1_refusalOfLine_8 rfl (lv_at hl 0 rfl) ?_
    refine lv_iload_n hC.1 hC.2.1 dX1_refusalOfLine_9 rfl (lv_at hl 2 rfl) ?_
    refine W.ccI (wc := [((ad 1), .inr (1, [.int (nI (n)), .int (L), .ref ((ad 2)), .ref ((ad 3)), .ref ((ad 4)), .ref ((ad 5)), .ref ((ad 6)), .ref ((ad 7))])), ((ad 2), .inl (cyI, 12, .inl (fun zj => nI (mk zj)))), ((ad 3), .inl (cyI, 12, .inl (fun zj => nI (pt zj)))), ((ad 4), .inl (cyI, 72, .inl (fun zj => nI (ac zj)))), ((ad 5), .inl (cyI, 12, .inl far)), ((ad 6), .inl (cyI, 12, .inl (fun zj => nI (re zj)))), ((ad 7), .inl (cyI, 12, .inl (fun zj => nI (tr zj))))]) (wr := []) (ws1 := fun (u : Unit) => [((ad 1), .inr (1, [.int (nI (n)), .int (L), .ref ((ad 2)), .ref ((ad 3)), .ref ((ad 4)), .ref ((ad 5)), .ref ((ad 6)), .ref ((ad 7))])), ((ad 2), .inl (cyI, 12, .inl (fun zj => nI (mk zj)))), ((ad 3), .inl (cyI, 12, .inl (fun zj => nI (pt zj)))), ((ad 4), .inl (cyI, 72, .inl (fun zj => nI (ac zj)))), ((ad 5), .inl (cyI, 12, .inl far)), ((ad 6), .inl (cyI, 12, .inl (fun zj => nI (re zj)))), ((ad 7), .inl (cyI, 12, .inl (fun zj => nI (tr zj))))]) (ws2 := fun (u : Unit) => [((ad 1), .inr (1, [.int (nI (n)), .int (L), .ref ((ad 2)), .ref ((ad 3)), .ref ((ad 4)), .ref ((ad 5)), .ref ((ad 6)), .ref ((ad 7))])), ((ad 2), .inl (cyI, 12, .inl (fun zj => nI (mk zj)))), ((ad 3), .inl (cyI, 12, .inl (fun zj => nI (pt zj)))), ((ad 4), .inl (cyI, 72, .inl (fun zj => nI (ac zj)))), ((ad 5), .inl (cyI, 12, .inl far)), ((ad 6), .inl (cyI, 12, .inl (fun zj => nI (re zj)))), ((ad 7), .inl (cyI, 12, .inl (fun zj => nI (tr zj))))]) hw [0, 1, 2, 3, 4, 5, 6] [] [0, 1, 2, 3, 4, 5, 6] rfl rfl (by decide) (by decide) (by decide) (fun _ => rfl) (Wd.runV (wc := [((ad 1), .inr (1, [.int (nI (n)), .int (L), .ref ((ad 2)), .ref ((ad 3)), .ref ((ad 4)), .ref ((ad 5)), .ref ((ad 6)), .ref ((ad 7))])), ((ad 2), .inl (cyI, 12, .inl (fun zj => nI (mk zj)))), ((ad 3), .inl (cyI, 12, .inl (fun zj => nI (pt zj)))), ((ad 4), .inl (cyI, 72, .inl (fun zj => nI (ac zj)))), ((ad 5), .inl (cyI, 12, .inl far)), ((ad 6), .inl (cyI, 12, .inl (fun zj => nI (re zj)))), ((ad 7), .inl (cyI, 12, .inl (fun zj => nI (tr zj))))]) (rest := []) (As := [.int (y)]) hC hw [0, 1, 2, 3, 4, 5, 6] rfl (by decide) 0 rfl rfl (cwV 1 hC.2.2.2.2 gX1_refusalOfLine_X1_has rfl rfl rfl (by decide +kernel) ⟨Nat.le_of_ble_eq_true rfl, Nat.le_of_ble_eq_true rfl⟩) (c_X1_has l dC dI cyI cyJ cyZ cyS ad n L mk pt ac far re tr (by first | assumption | omega) y _) rfl hl.1 rfl (Nat.le_of_ble_eq_true rfl) dX1_refusalOfLine_10 ⟨Nat.zero_le _, Nat.zero_le _⟩) (fun r_10 u H locs hr_10 hw => ?_)
    replace hw : Wd dC dI (tysA cyI cyJ cyZ cyS) [((ad 1), .inr (1, [.int (nI (n)), .int (L), .ref ((ad 2)), .ref ((ad 3)), .ref ((ad 4)), .ref ((ad 5)), .ref ((ad 6)), .ref ((ad 7))])), ((ad 2), .inl (cyI, 12, .inl (fun zj => nI (mk zj)))), ((ad 3), .inl (cyI, 12, .inl (fun zj => nI (pt zj)))), ((ad 4), .inl (cyI, 72, .inl (fun zj => nI (ac zj)))), ((ad 5), .inl (cyI, 12, .inl far)), ((ad 6), .inl (cyI, 12, .inl (fun zj => nI (re zj)))), ((ad 7), .inl (cyI, 12, .inl (fun zj => nI (tr zj))))] zA zs H locs := hw
    rcases Classical.em (vp_in y n) with cy | cy
    · skip
      obtain rfl := hr_10.1 cy
      obtain ⟨b, hb, rfl⟩ := vp_in_of cy (by omega)
      have hqb := hq b hb
      refine lv_if_ne (tgt := 18) hC.1 hC.2.1 dX1_refusalOfLine_13 (by decide) (fun _ => ?_) (fun h9 => False.elim (by revert h9; decide))
      refine lv_iload_n hC.1 hC.2.1 dX1_refusalOfLine_18 rfl (lv_at hl 1 rfl) ?_
      refine lv_iload_n hC.1 hC.2.1 dX1_refusalOfLine_19 rfl (lv_at hl 2 rfl) ?_
      refine n_icmp_ne (tgt := 26) hC dX1_refusalOfLine_20 (by decide) (by omega) (by omega) (fun c20 => ?_) (fun c20 => ?_)
      · skip
        refine lv_aload_n hC.1 hC.2.1 dX1_refusalOfLine_26 rfl (lv_at hl 3 rfl) ?_
        refine lv_iload_n hC.1 hC.2.1 dX1_refusalOfLine_27 rfl (lv_at hl 1 rfl) ?_
        refine g_ialdN hC hw 6 0 rfl rfl (by omega) (by first | decide | omega) dX1_refusalOfLine_28 ?_
        refine lv_bipush (v := nI 6) hC.1 hC.2.1 dX1_refusalOfLine_29 (by decide) ?_
        refine n_icmp_ge (tgt := 42) hC dX1_refusalOfLine_31 (by decide) (by omega) (by omega) (fun c_31 => ?_) (fun c_31 => ?_)
        · skip
          refine lv_bipush (v := (-4)) hC.1 hC.2.1 dX1_refusalOfLine_42 (by decide) ?_
          exact hret _ _ _ ls ((-4)) () dX1_refusalOfLine_44 rfl (by rw [rfu_in hn ha hb, if_neg c20, if_neg (by omega)]) hw
        · skip
          refine lv_aload_n hC.1 hC.2.1 dX1_refusalOfLine_34 rfl (lv_at hl 3 rfl) ?_
          refine lv_iload_n hC.1 hC.2.1 dX1_refusalOfLine_35 rfl (lv_at hl 2 rfl) ?_
          refine g_ialdN hC hw 6 0 rfl rfl (by omega) (by first | decide | omega) dX1_refusalOfLine_36 ?_
          refine lv_bipush (v := nI 6) hC.1 hC.2.1 dX1_refusalOfLine_37 (by decide) ?_
          refine n_icmp_lt (tgt := 45) hC dX1_refusalOfLine_39 (by decide) (by omega) (by omega) (fun c_39 => ?_) (fun c_39 => ?_)
          · skip
            refine lv_iconst (v := nI 0) hC.1 hC.2.1 dX1_refusalOfLine_45 (by decide) ?_
            exact hret _ _ _ ls (nI (0)) () dX1_refusalOfLine_46 rfl (by rw [rfu_in hn ha hb, if_neg c20, if_pos ⟨by omega, by omega⟩]; first | done | rfl) hw
          · skip
            refine lv_bipush (v := (-4)) hC.1 hC.2.1 dX1_refusalOfLine_42 (by decide) ?_
            exact hret _ _ _ ls ((-4)) () dX1_refusalOfLine_44 rfl (by rw [rfu_in hn ha hb, if_neg c20, if_neg (by omega)]) hw
      · skip
        refine lv_bipush (v := (-2)) hC.1 hC.2.1 dX1_refusalOfLine_23 (by decide) ?_
        exact hret _ _ _ ls ((-2)) () dX1_refusalOfLine_25 rfl (by rw [rfu_in hn ha hb, if_pos c20]) hw
    · skip
      obtain rfl := hr_10.2 cy
      refine lv_if_ne (tgt := 18) hC.1 hC.2.1 dX1_refusalOfLine_13 (by decide) (fun h9 => False.elim (by revert h9; decide)) (fun _ => ?_)
      refine lv_iconst (v := (-1)) hC.1 hC.2.1 dX1_refusalOfLine_16 (by decide) ?_
      exact hret _ _ _ ls ((-1)) () dX1_refusalOfLine_17 rfl (by first | rw [rfu_x cx] | rw [rfu_y cy]) hw
  · skip
    obtain rfl := hr_2.2 cx
    refine lv_if_eq (tgt := 16) hC.1 hC.2.1 dX1_refusalOfLine_5 (by decide) (fun _ => ?_) (fun h9 => False.elim (by revert h9; decide))
    refine lv_iconst (v := (-1)) hC.1 hC.2.1 dX1_refusalOfLine_16 (by decide) ?_
    exact hret _ _ _ ls ((-1)) () dX1_refusalOfLine_17 rfl (by first | rw [rfu_x cx] | rw [rfu_y cy]) hw

set_option maxHeartbeats 4000000 in
set_option maxRecDepth 100000 in
theorem c_X1_join (l : Launch) (dC : Nat → ClassId) (dI : Nat → Nat → Nat) (cyI cyJ cyZ cyS : ClassId) (ad : Nat → Nat) (n : Nat) (L : Int32) (mk pt ac : Nat → Nat) (far : Nat → Int32) (re tr : Nat → Nat) (p q : Nat) (hp : p < 12) (hq : q < 12) (hp6 : pt p < 6) (hq6 : pt q < 6) : CtV l yX1_join wsX1_join ({ frames := 1, cells := 0, slots := 0, locals := 22 } : Room) dC dI (tysA cyI cyJ cyZ cyS) [.ref ((ad 1)), .int (nI (p)), .int (nI (q))] [((ad 1), .inr (1, [.int (nI (n)), .int (L), .ref ((ad 2)), .ref ((ad 3)), .ref ((ad 4)), .ref ((ad 5)), .ref ((ad 6)), .ref ((ad 7))])), ((ad 2), .inl (cyI, 12, .inl (fun zj => nI (mk zj)))), ((ad 3), .inl (cyI, 12, .inl (fun zj => nI (pt zj)))), ((ad 4), .inl (cyI, 72, .inl (fun zj => nI (ac zj)))), ((ad 5), .inl (cyI, 12, .inl far)), ((ad 6), .inl (cyI, 12, .inl (fun zj => nI (re zj)))), ((ad 7), .inl (cyI, 12, .inl (fun zj => nI (tr zj))))] (S := Unit) (fun (u : Unit) => True) (fun (u : Unit) => [((ad 1), .inr (1, [.int (nI (n)), .int (L + nI 1), .ref ((ad 2)), .ref ((ad 3)), .ref ((ad 4)), .ref ((ad 5)), .ref ((ad 6)), .ref ((ad 7))])), ((ad 2), .inl (cyI, 12, .inl (fun zj => nI (mk zj)))), ((ad 3), .inl (cyI, 12, .inl (fun zj => nI ((jPt pt p q) zj)))), ((ad 4), .inl (cyI, 72, .inl (fun zj => nI ((jAc pt ac p q) zj)))), ((ad 5), .inl (cyI, 12, .inl far)), ((ad 6), .inl (cyI, 12, .inl (fun zj => nI (re zj)))), ((ad 7), .inl (cyI, 12, .inl (fun zj => nI (tr zj))))]) := by
  refine CtV.mk (cc := cX1_join) (maxL := 3) (by decide) rfl (Nat.le_of_ble_eq_true rfl) ?_
  intro zp ze zs zm za zb zt zc zA zQ ls hC hw hl hret
  replace hC : CallFix zp zm zc cX1_join 3 zs za wsX1_join RX1 := hC
  replace hl : lv_has ls 3 [(0, .ref ((ad 1))), (1, .int (nI (p))), (2, .int (nI (q)))] := hl
  have hin1 : ∀ w ∈ u_ws RX1 TX1 8, w ∈ wsX1_join := by decide +kernel
  have lk15 : Cond.fieldLink RX1 15 (TX1 3).1 (TX1 3).2.1 (TX1 3).2.2.1 ∈ wsX1_join := by decide +kernel
  have lk38 : Cond.fieldLink RX1 38 (TX1 1).1 (TX1 1).2.1 (TX1 1).2.2.1 ∈ wsX1_join := by decide +kernel
  refine lv_aload_n hC.1 hC.2.1 dX1_join_0 rfl (lv_at hl 0 rfl) ?_
  refine lv_iload_n hC.1 hC.2.1 dX1_join_1 rfl (lv_at hl 1 rfl) ?_
  refine lv_aload_n hC.1 hC.2.1 dX1_join_2 rfl (lv_at hl 0 rfl) ?_
  refine g_get hC hw hin1 0 rfl rfl 3 (by decide) lk15 rfl dX1_join_3 ?_
  refine lv_iload_n hC.1 hC.2.1 dX1_join_6 rfl (lv_at hl 1 rfl) ?_
  refine g_ialdN hC hw 2 0 rfl rfl (by omega) (by first | decide | omega) dX1_join_7 ?_
  refine W.ccI (wc := []) (wr := [((ad 1), .inr (1, [.int (nI (n)), .int (L), .ref ((ad 2)), .ref ((ad 3)), .ref ((ad 4)), .ref ((ad 5)), .ref ((ad 6)), .ref ((ad 7))])), ((ad 2), .inl (cyI, 12, .inl (fun zj => nI (mk zj)))), ((ad 3), .inl (cyI, 12, .inl (fun zj => nI (pt zj)))), ((ad 4), .inl (cyI, 72, .inl (fun zj => nI (ac zj)))), ((ad 5), .inl (cyI, 12, .inl far)), ((ad 6), .inl (cyI, 12, .inl (fun zj => nI (re zj)))), ((ad 7), .inl (cyI, 12, .inl (fun zj => nI (tr zj))))]) (ws1 := fun (u : Unit) => []) (ws2 := fun (u : Unit) => [((ad 1), .inr (1, [.int (nI (n)), .int (L), .ref ((ad 2)), .ref ((ad 3)), .ref ((ad 4)), .ref ((ad 5)), .ref ((ad 6)), .ref ((ad 7))])), ((ad 2), .inl (cyI, 12, .inl (fun zj => nI (mk zj)))), ((ad 3), .inl (cyI, 12, .inl (fun zj => nI (pt zj)))), ((ad 4), .inl (cyI, 72, .inl (fun zj => nI (ac zj)))), ((ad 5), .inl (cyI, 12, .inl far)), ((ad 6), .inl (cyI, 12, .inl (fun zj => nI (re zj)))), ((ad 7), .inl (cyI, 12, .inl (fun zj => nI (tr zj))))]) hw [] [0, 1, 2, 3, 4, 5, 6] [0, 1, 2, 3, 4, 5, 6] rfl rfl (by decide) (by decide) (by decide) (fun _ => rfl) (Wd.runSN (wc := []) (rest := [.ref ((ad 1))]) (As := [.int (nI (p)), .int (nI (pt p))]) hC hw [] rfl (by decide) ⟨va_cnB (host := "AlikePosts") 2 hC.2.2.2.2 gX1_join_X4_slotOf_n56 rfl rfl rfl (hw.1 _ (by decide +kernel)) (hC.2.2.2.2 (.initialized RX4) (by decide +kernel)) (by decide +kernel) ⟨Nat.le_of_ble_eq_true rfl, Nat.le_of_ble_eq_true rfl⟩, hC.2.2.2.2 (.static yX4_slotOf) (by decide +kernel), trivial⟩ (c_X4_slotOf l dC dI cyI cyJ cyZ cyS ad p (pt p) _) rfl hl.1 rfl (Nat.le_of_ble_eq_true rfl) dX1_join_8 ⟨Nat.zero_le _, Nat.zero_le _⟩) (fun r_8 u H locs hr_8 hw => ?_)
  replace hw : Wd dC dI (tysA cyI cyJ cyZ cyS) [((ad 1), .inr (1, [.int (nI (n)), .int (L), .ref ((ad 2)), .ref ((ad 3)), .ref ((ad 4)), .ref ((ad 5)), .ref ((ad 6)), .ref ((ad 7))])), ((ad 2), .inl (cyI, 12, .inl (fun zj => nI (mk zj)))), ((ad 3), .inl (cyI, 12, .inl (fun zj => nI (pt zj)))), ((ad 4), .inl (cyI, 72, .inl (fun zj => nI (ac zj)))), ((ad 5), .inl (cyI, 12, .inl far)), ((ad 6), .inl (cyI, 12, .inl (fun zj => nI (re zj)))), ((ad 7), .inl (cyI, 12, .inl (fun zj => nI (tr zj))))] zA zs H locs := hw
  subst hr_8
  refine lv_iload_n hC.1 hC.2.1 dX1_join_11 rfl (lv_at hl 2 rfl) ?_
  refine lv_aload_n hC.1 hC.2.1 dX1_join_12 rfl (lv_at hl 0 rfl) ?_
  refine g_get hC hw hin1 0 rfl rfl 3 (by decide) lk15 rfl dX1_join_13 ?_
  refine lv_iload_n hC.1 hC.2.1 dX1_join_16 rfl (lv_at hl 2 rfl) ?_
  refine g_ialdN hC hw 2 0 rfl rfl (by omega) (by first | decide | omega) dX1_join_17 ?_
  refine W.ccI (wc := []) (wr := [((ad 1), .inr (1, [.int (nI (n)), .int (L), .ref ((ad 2)), .ref ((ad 3)), .ref ((ad 4)), .ref ((ad 5)), .ref ((ad 6)), .ref ((ad 7))])), ((ad 2), .inl (cyI, 12, .inl (fun zj => nI (mk zj)))), ((ad 3), .inl (cyI, 12, .inl (fun zj => nI (pt zj)))), ((ad 4), .inl (cyI, 72, .inl (fun zj => nI (ac zj)))), ((ad 5), .inl (cyI, 12, .inl far)), ((ad 6), .inl (cyI, 12, .inl (fun zj => nI (re zj)))), ((ad 7), .inl (cyI, 12, .inl (fun zj => nI (tr zj))))]) (ws1 := fun (u : Unit) => []) (ws2 := fun (u : Unit) => [((ad 1), .inr (1, [.int (nI (n)), .int (L), .ref ((ad 2)), .ref ((ad 3)), .ref ((ad 4)), .ref ((ad 5)), .ref ((ad 6)), .ref ((ad 7))])), ((ad 2), .inl (cyI, 12, .inl (fun zj => nI (mk zj)))), ((ad 3), .inl (cyI, 12, .inl (fun zj => nI (pt zj)))), ((ad 4), .inl (cyI, 72, .inl (fun zj => nI (ac zj)))), ((ad 5), .inl (cyI, 12, .inl far)), ((ad 6), .inl (cyI, 12, .inl (fun zj => nI (re zj)))), ((ad 7), .inl (cyI, 12, .inl (fun zj => nI (tr zj))))]) hw [] [0, 1, 2, 3, 4, 5, 6] [0, 1, 2, 3, 4, 5, 6] rfl rfl (by decide) (by decide) (by decide) (fun _ => rfl) (Wd.runSN (wc := []) (rest := [.int (nI (p * 6 + (pt p))), .ref ((ad 1))]) (As := [.int (nI (q)), .int (nI (pt q))]) hC hw [] rfl (by decide) ⟨va_cnB (host := "AlikePosts") 2 hC.2.2.2.2 gX1_join_X4_slotOf_n56 rfl rfl rfl (hw.1 _ (by decide +kernel)) (hC.2.2.2.2 (.initialized RX4) (by decide +kernel)) (by decide +kernel) ⟨Nat.le_of_ble_eq_true rfl, Nat.le_of_ble_eq_true rfl⟩, hC.2.2.2.2 (.static yX4_slotOf) (by decide +kernel), trivial⟩ (c_X4_slotOf l dC dI cyI cyJ cyZ cyS ad q (pt q) _) rfl hl.1 rfl (Nat.le_of_ble_eq_true rfl) dX1_join_18 ⟨Nat.zero_le _, Nat.zero_le _⟩) (fun r_18 u H locs hr_18 hw => ?_)
  replace hw : Wd dC dI (tysA cyI cyJ cyZ cyS) [((ad 1), .inr (1, [.int (nI (n)), .int (L), .ref ((ad 2)), .ref ((ad 3)), .ref ((ad 4)), .ref ((ad 5)), .ref ((ad 6)), .ref ((ad 7))])), ((ad 2), .inl (cyI, 12, .inl (fun zj => nI (mk zj)))), ((ad 3), .inl (cyI, 12, .inl (fun zj => nI (pt zj)))), ((ad 4), .inl (cyI, 72, .inl (fun zj => nI (ac zj)))), ((ad 5), .inl (cyI, 12, .inl far)), ((ad 6), .inl (cyI, 12, .inl (fun zj => nI (re zj)))), ((ad 7), .inl (cyI, 12, .inl (fun zj => nI (tr zj))))] zA zs H locs := hw
  subst hr_18
  refine W.ccV (wc := [((ad 1), .inr (1, [.int (nI (n)), .int (L), .ref ((ad 2)), .ref ((ad 3)), .ref ((ad 4)), .ref ((ad 5)), .ref ((ad 6)), .ref ((ad 7))])), ((ad 2), .inl (cyI, 12, .inl (fun zj => nI (mk zj)))), ((ad 3), .inl (cyI, 12, .inl (fun zj => nI (pt zj)))), ((ad 4), .inl (cyI, 72, .inl (fun zj => nI (ac zj)))), ((ad 5), .inl (cyI, 12, .inl far)), ((ad 6), .inl (cyI, 12, .inl (fun zj => nI (re zj)))), ((ad 7), .inl (cyI, 12, .inl (fun zj => nI (tr zj))))]) (wr := []) (ws1 := fun (u : Unit) => [((ad 1), .inr (1, [.int (nI (n)), .int (L), .ref ((ad 2)), .ref ((ad 3)), .ref ((ad 4)), .ref ((ad 5)), .ref ((ad 6)), .ref ((ad 7))])), ((ad 2), .inl (cyI, 12, .inl (fun zj => nI (mk zj)))), ((ad 3), .inl (cyI, 12, .inl (fun zj => nI (pt zj)))), ((ad 4), .inl (cyI, 72, .inl (fun zj => nI ((va_up (va_up ac (p * 6 + (pt p)) (q * 6 + (pt q))) (q * 6 + (pt q)) (p * 6 + (pt p))) zj)))), ((ad 5), .inl (cyI, 12, .inl far)), ((ad 6), .inl (cyI, 12, .inl (fun zj => nI (re zj)))), ((ad 7), .inl (cyI, 12, .inl (fun zj => nI (tr zj))))]) (ws2 := fun (u : Unit) => [((ad 1), .inr (1, [.int (nI (n)), .int (L), .ref ((ad 2)), .ref ((ad 3)), .ref ((ad 4)), .ref ((ad 5)), .ref ((ad 6)), .ref ((ad 7))])), ((ad 2), .inl (cyI, 12, .inl (fun zj => nI (mk zj)))), ((ad 3), .inl (cyI, 12, .inl (fun zj => nI (pt zj)))), ((ad 4), .inl (cyI, 72, .inl (fun zj => nI ((va_up (va_up ac (p * 6 + (pt p)) (q * 6 + (pt q))) (q * 6 + (pt q)) (p * 6 + (pt p))) zj)))), ((ad 5), .inl (cyI, 12, .inl far)), ((ad 6), .inl (cyI, 12, .inl (fun zj => nI (re zj)))), ((ad 7), .inl (cyI, 12, .inl (fun zj => nI (tr zj))))]) hw [0, 1, 2, 3, 4, 5, 6] [] [0, 1, 2, 3, 4, 5, 6] rfl rfl (by decide) (by decide) (by decide) (fun _ => rfl) (Wd.runV (wc := [((ad 1), .inr (1, [.int (nI (n)), .int (L), .ref ((ad 2)), .ref ((ad 3)), .ref ((ad 4)), .ref ((ad 5)), .ref ((ad 6)), .ref ((ad 7))])), ((ad 2), .inl (cyI, 12, .inl (fun zj => nI (mk zj)))), ((ad 3), .inl (cyI, 12, .inl (fun zj => nI (pt zj)))), ((ad 4), .inl (cyI, 72, .inl (fun zj => nI (ac zj)))), ((ad 5), .inl (cyI, 12, .inl far)), ((ad 6), .inl (cyI, 12, .inl (fun zj => nI (re zj)))), ((ad 7), .inl (cyI, 12, .inl (fun zj => nI (tr zj))))]) (rest := []) (As := [.int (nI (p * 6 + (pt p))), .int (nI (q * 6 + (pt q)))]) hC hw [0, 1, 2, 3, 4, 5, 6] rfl (by decide) 0 rfl rfl (cwV 2 hC.2.2.2.2 gX1_join_X1_tie rfl rfl rfl (by decide +kernel) ⟨Nat.le_of_ble_eq_true rfl, Nat.le_of_ble_eq_true rfl⟩) (c_X1_tie l dC dI cyI cyJ cyZ cyS ad n L mk pt ac far re tr (p * 6 + (pt p)) (q * 6 + (pt q)) (by first | assumption | omega) (by first | assumption | omega) _) rfl hl.1 rfl (Nat.le_of_ble_eq_true rfl) dX1_join_21 ⟨Nat.zero_le _, Nat.zero_le _⟩) (fun u H locs hr_21 hw => ?_)
  replace hw : Wd dC dI (tysA cyI cyJ cyZ cyS) [((ad 1), .inr (1, [.int (nI (n)), .int (L), .ref ((ad 2)), .ref ((ad 3)), .ref ((ad 4)), .ref ((ad 5)), .ref ((ad 6)), .ref ((ad 7))])), ((ad 2), .inl (cyI, 12, .inl (fun zj => nI (mk zj)))), ((ad 3), .inl (cyI, 12, .inl (fun zj => nI (pt zj)))), ((ad 4), .inl (cyI, 72, .inl (fun zj => nI ((va_up (va_up ac (p * 6 + (pt p)) (q * 6 + (pt q))) (q * 6 + (pt q)) (p * 6 + (pt p))) zj)))), ((ad 5), .inl (cyI, 12, .inl far)), ((ad 6), .inl (cyI, 12, .inl (fun zj => nI (re zj)))), ((ad 7), .inl (cyI, 12, .inl (fun zj => nI (tr zj))))] zA zs H locs := hw
  refine lv_aload_n hC.1 hC.2.1 dX1_join_24 rfl (lv_at hl 0 rfl) ?_
  refine g_get hC hw hin1 0 rfl rfl 3 (by decide) lk15 rfl dX1_join_25 ?_
  refine lv_iload_n hC.1 hC.2.1 dX1_join_28 rfl (lv_at hl 1 rfl) ?_
  refine lv_dup2_11 hC.1 hC.2.1 dX1_join_29 rfl rfl ?_
  refine g_ialdN hC hw 2 0 rfl rfl (by omega) (by first | decide | omega) dX1_join_30 ?_
  refine lv_iconst (v := nI 1) hC.1 hC.2.1 dX1_join_31 (by decide) ?_
  refine n_iadd hC dX1_join_32 ?_
  refine g_iastN hC hw 2 0 rfl rfl (by omega) (by first | decide | omega) dX1_join_33 (fun H locs hw => ?_)
  replace hw : Wd dC dI (tysA cyI cyJ cyZ cyS) [((ad 1), .inr (1, [.int (nI (n)), .int (L), .ref ((ad 2)), .ref ((ad 3)), .ref ((ad 4)), .ref ((ad 5)), .ref ((ad 6)), .ref ((ad 7))])), ((ad 2), .inl (cyI, 12, .inl (fun zj => nI (mk zj)))), ((ad 3), .inl (cyI, 12, .inl (fun zj => nI ((va_up pt p ((pt p) + 1)) zj)))), ((ad 4), .inl (cyI, 72, .inl (fun zj => nI ((va_up (va_up ac (p * 6 + (pt p)) (q * 6 + (pt q))) (q * 6 + (pt q)) (p * 6 + (pt p))) zj)))), ((ad 5), .inl (cyI, 12, .inl far)), ((ad 6), .inl (cyI, 12, .inl (fun zj => nI (re zj)))), ((ad 7), .inl (cyI, 12, .inl (fun zj => nI (tr zj))))] zA zs H locs := hw
  refine lv_aload_n hC.1 hC.2.1 dX1_join_34 rfl (lv_at hl 0 rfl) ?_
  refine g_get hC hw hin1 0 rfl rfl 3 (by decide) lk15 rfl dX1_join_35 ?_
  refine lv_iload_n hC.1 hC.2.1 dX1_join_38 rfl (lv_at hl 2 rfl) ?_
  refine lv_dup2_11 hC.1 hC.2.1 dX1_join_39 rfl rfl ?_
  refine g_ialdN hC hw 2 0 rfl rfl (by omega) (by first | decide | omega) dX1_join_40 ?_
  refine lv_iconst (v := nI 1) hC.1 hC.2.1 dX1_join_41 (by decide) ?_
  refine n_iadd hC dX1_join_42 ?_
  refine g_iastN hC hw 2 0 rfl rfl (by omega) (by first | decide | omega) dX1_join_43 (fun H locs hw => ?_)
  replace hw : Wd dC dI (tysA cyI cyJ cyZ cyS) [((ad 1), .inr (1, [.int (nI (n)), .int (L), .ref ((ad 2)), .ref ((ad 3)), .ref ((ad 4)), .ref ((ad 5)), .ref ((ad 6)), .ref ((ad 7))])), ((ad 2), .inl (cyI, 12, .inl (fun zj => nI (mk zj)))), ((ad 3), .inl (cyI, 12, .inl (fun zj => nI ((va_up (va_up pt p ((pt p) + 1)) q (((va_up pt p ((pt p) + 1)) q) + 1)) zj)))), ((ad 4), .inl (cyI, 72, .inl (fun zj => nI ((va_up (va_up ac (p * 6 + (pt p)) (q * 6 + (pt q))) (q * 6 + (pt q)) (p * 6 + (pt p))) zj)))), ((ad 5), .inl (cyI, 12, .inl far)), ((ad 6), .inl (cyI, 12, .inl (fun zj => nI (re zj)))), ((ad 7), .inl (cyI, 12, .inl (fun zj => nI (tr zj))))] zA zs H locs := hw
  refine lv_aload_n hC.1 hC.2.1 dX1_join_44 rfl (lv_at hl 0 rfl) ?_
  refine lv_dup hC.1 hC.2.1 dX1_join_45 rfl ?_
  refine g_get hC hw hin1 0 rfl rfl 1 (by decide) lk38 rfl dX1_join_46 ?_
  refine lv_iconst (v := nI 1) hC.1 hC.2.1 dX1_join_49 (by decide) ?_
  refine lv_iadd hC.1 hC.2.1 dX1_join_50 ?_
  refine g_put hC hw hin1 tyX1 tyX1_ok nmX1 0 rfl rfl 1 (by decide) lk38 rfl rfl (by first | rfl | decide) (Nat.le_of_ble_eq_true rfl) dX1_join_51 (fun H locs hw => ?_)
  replace hw : Wd dC dI (tysA cyI cyJ cyZ cyS) [((ad 1), .inr (1, [.int (nI (n)), .int (L + (nI (1))), .ref ((ad 2)), .ref ((ad 3)), .ref ((ad 4)), .ref ((ad 5)), .ref ((ad 6)), .ref ((ad 7))])), ((ad 2), .inl (cyI, 12, .inl (fun zj => nI (mk zj)))), ((ad 3), .inl (cyI, 12, .inl (fun zj => nI ((va_up (va_up pt p ((pt p) + 1)) q (((va_up pt p ((pt p) + 1)) q) + 1)) zj)))), ((ad 4), .inl (cyI, 72, .inl (fun zj => nI ((va_up (va_up ac (p * 6 + (pt p)) (q * 6 + (pt q))) (q * 6 + (pt q)) (p * 6 + (pt p))) zj)))), ((ad 5), .inl (cyI, 12, .inl far)), ((ad 6), .inl (cyI, 12, .inl (fun zj => nI (re zj)))), ((ad 7), .inl (cyI, 12, .inl (fun zj => nI (tr zj))))] zA zs H locs := hw
  exact hret _ _ _ ls  () dX1_join_54 trivial hw

set_option maxHeartbeats 4000000 in
set_option maxRecDepth 100000 in
theorem c_X1_exchange (l : Launch) (dC : Nat → ClassId) (dI : Nat → Nat → Nat) (cyI cyJ cyZ cyS : ClassId) (ad : Nat → Nat) (n : Nat) (L : Int32) (mk pt ac : Nat → Nat) (far : Nat → Int32) (re tr : Nat → Nat) (s1 s2 : Nat) (h1 : s1 < 72) (h2 : s2 < 72) (h3 : ac s1 < 72) (h4 : ac s2 < 72) : CtV l yX1_exchange wsX1_exchange ({ frames := 1, cells := 0, slots := 0, locals := 22 } : Room) dC dI (tysA cyI cyJ cyZ cyS) [.ref ((ad 1)), .int (nI (s1)), .int (nI (s2))] [((ad 1), .inr (1, [.int (nI (n)), .int (L), .ref ((ad 2)), .ref ((ad 3)), .ref ((ad 4)), .ref ((ad 5)), .ref ((ad 6)), .ref ((ad 7))])), ((ad 2), .inl (cyI, 12, .inl (fun zj => nI (mk zj)))), ((ad 3), .inl (cyI, 12, .inl (fun zj => nI (pt zj)))), ((ad 4), .inl (cyI, 72, .inl (fun zj => nI (ac zj)))), ((ad 5), .inl (cyI, 12, .inl far)), ((ad 6), .inl (cyI, 12, .inl (fun zj => nI (re zj)))), ((ad 7), .inl (cyI, 12, .inl (fun zj => nI (tr zj))))] (S := Unit) (fun (u : Unit) => True) (fun (u : Unit) => [((ad 1), .inr (1, [.int (nI (n)), .int (L), .ref ((ad 2)), .ref ((ad 3)), .ref ((ad 4)), .ref ((ad 5)), .ref ((ad 6)), .ref ((ad 7))])), ((ad 2), .inl (cyI, 12, .inl (fun zj => nI (mk zj)))), ((ad 3), .inl (cyI, 12, .inl (fun zj => nI (pt zj)))), ((ad 4), .inl (cyI, 72, .inl (fun zj => nI ((va_up (va_up (va_up (va_up ac s1 (ac s2)) (ac s2) s1) s2 (ac s1)) (ac s1) s2) zj)))), ((ad 5), .inl (cyI, 12, .inl far)), ((ad 6), .inl (cyI, 12, .inl (fun zj => nI (re zj)))), ((ad 7), .inl (cyI, 12, .inl (fun zj => nI (tr zj))))]) := by
  refine CtV.mk (cc := cX1_exchange) (maxL := 5) (by decide) rfl (Nat.le_of_ble_eq_true rfl) ?_
  intro zp ze zs zm za zb zt zc zA zQ ls hC hw hl hret
  replace hC : CallFix zp zm zc cX1_exchange 5 zs za wsX1_exchange RX1 := hC
  replace hl : lv_has ls 5 [(0, .ref ((ad 1))), (1, .int (nI (s1))), (2, .int (nI (s2)))] := hl
  have hin1 : ∀ w ∈ u_ws RX1 TX1 8, w ∈ wsX1_exchange := by decide +kernel
  have lk18 : Cond.fieldLink RX1 18 (TX1 4).1 (TX1 4).2.1 (TX1 4).2.2.1 ∈ wsX1_exchange := by decide +kernel
  refine lv_aload_n hC.1 hC.2.1 dX1_exchange_0 rfl (lv_at hl 0 rfl) ?_
  refine g_get hC hw hin1 0 rfl rfl 4 (by decide) lk18 rfl dX1_exchange_1 ?_
  refine lv_iload_n hC.1 hC.2.1 dX1_exchange_4 rfl (lv_at hl 1 rfl) ?_
  refine g_ialdN hC hw 3 0 rfl rfl (by omega) (by first | decide | omega) dX1_exchange_5 ?_
  refine lv_istore_n (lv' := [(3, .int (nI (ac s1))), (0, .ref ((ad 1))), (1, .int (nI (s1))), (2, .int (nI (s2)))]) hC.1 hC.2.1 dX1_exchange_6 rfl hl (by decide) rfl (fun ls hl => ?_)
  refine lv_aload_n hC.1 hC.2.1 dX1_exchange_7 rfl (lv_at hl 1 rfl) ?_
  refine g_get hC hw hin1 0 rfl rfl 4 (by decide) lk18 rfl dX1_exchange_8 ?_
  refine lv_iload_n hC.1 hC.2.1 dX1_exchange_11 rfl (lv_at hl 3 rfl) ?_
  refine g_ialdN hC hw 3 0 rfl rfl (by omega) (by first | decide | omega) dX1_exchange_12 ?_
  refine lv_istore (lv' := [(4, .int (nI (ac s2))), (3, .int (nI (ac s1))), (0, .ref ((ad 1))), (1, .int (nI (s1))), (2, .int (nI (s2)))]) hC.1 hC.2.1 dX1_exchange_13 hl (by decide) rfl (fun ls hl => ?_)
  refine lv_aload_n hC.1 hC.2.1 dX1_exchange_15 rfl (lv_at hl 2 rfl) ?_
  refine lv_iload_n hC.1 hC.2.1 dX1_exchange_16 rfl (lv_at hl 3 rfl) ?_
  refine lv_iload hC.1 hC.2.1 dX1_exchange_17 (lv_at hl 0 rfl) ?_
  refine W.ccV (wc := [((ad 1), .inr (1, [.int (nI (n)), .int (L), .ref ((ad 2)), .ref ((ad 3)), .ref ((ad 4)), .ref ((ad 5)), .ref ((ad 6)), .ref ((ad 7))])), ((ad 2), .inl (cyI, 12, .inl (fun zj => nI (mk zj)))), ((ad 3), .inl (cyI, 12, .inl (fun zj => nI (pt zj)))), ((ad 4), .inl (cyI, 72, .inl (fun zj => nI (ac zj)))), ((ad 5), .inl (cyI, 12, .inl far)), ((ad 6), .inl (cyI, 12, .inl (fun zj => nI (re zj)))), ((ad 7), .inl (cyI, 12, .inl (fun zj => nI (tr zj))))]) (wr := []) (ws1 := fun (u : Unit) => [((ad 1), .inr (1, [.int (nI (n)), .int (L), .ref ((ad 2)), .ref ((ad 3)), .ref ((ad 4)), .ref ((ad 5)), .ref ((ad 6)), .ref ((ad 7))])), ((ad 2), .inl (cyI, 12, .inl (fun zj => nI (mk zj)))), ((ad 3), .inl (cyI, 12, .inl (fun zj => nI (pt zj)))), ((ad 4), .inl (cyI, 72, .inl (fun zj => nI ((va_up (va_up ac s1 (ac s2)) (ac s2) s1) zj)))), ((ad 5), .inl (cyI, 12, .inl far)), ((ad 6), .inl (cyI, 12, .inl (fun zj => nI (re zj)))), ((ad 7), .inl (cyI, 12, .inl (fun zj => nI (tr zj))))]) (ws2 := fun (u : Unit) => [((ad 1), .inr (1, [.int (nI (n)), .int (L), .ref ((ad 2)), .ref ((ad 3)), .ref ((ad 4)), .ref ((ad 5)), .ref ((ad 6)), .ref ((ad 7))])), ((ad 2), .inl (cyI, 12, .inl (fun zj => nI (mk zj)))), ((ad 3), .inl (cyI, 12, .inl (fun zj => nI (pt zj)))), ((ad 4), .inl (cyI, 72, .inl (fun zj => nI ((va_up (va_up ac s1 (ac s2)) (ac s2) s1) zj)))), ((ad 5), .inl (cyI, 12, .inl far)), ((ad 6), .inl (cyI, 12, .inl (fun zj => nI (re zj)))), ((ad 7), .inl (cyI, 12, .inl (fun zj => nI (tr zj))))]) hw [0, 1, 2, 3, 4, 5, 6] [] [0, 1, 2, 3, 4, 5, 6] rfl rfl (by decide) (by decide) (by decide) (fun _ => rfl) (Wd.runV (wc := [((ad 1), .inr (1, [.int (nI (n)), .int (L), .ref ((ad 2)), .ref ((ad 3)), .ref ((ad 4)), .ref ((ad 5)), .ref ((ad 6)), .ref ((ad 7))])), ((ad 2), .inl (cyI, 12, .inl (fun zj => nI (mk zj)))), ((ad 3), .inl (cyI, 12, .inl (fun zj => nI (pt zj)))), ((ad 4), .inl (cyI, 72, .inl (fun zj => nI (ac zj)))), ((ad 5), .inl (cyI, 12, .inl far)), ((ad 6), .inl (cyI, 12, .inl (fun zj => nI (re zj)))), ((ad 7), .inl (cyI, 12, .inl (fun zj => nI (tr zj))))]) (rest := []) (As := [.int (nI (s1)), .int (nI (ac s2))]) hC hw [0, 1, 2, 3, 4, 5, 6] rfl (by decide) 0 rfl rfl (cwV 2 hC.2.2.2.2 gX1_exchange_X1_tie rfl rfl rfl (by decide +kernel) ⟨Nat.le_of_ble_eq_true rfl, Nat.le_of_ble_eq_true rfl⟩) (c_X1_tie l dC dI cyI cyJ cyZ cyS ad n L mk pt ac far re tr s1 (ac s2) (by first | assumption | omega) (by first | assumption | omega) _) rfl hl.1 rfl (Nat.le_of_ble_eq_true rfl) dX1_exchange_19 ⟨Nat.zero_le _, Nat.zero_le _⟩) (fun u H locs hr_19 hw => ?_)
  replace hw : Wd dC dI (tysA cyI cyJ cyZ cyS) [((ad 1), .inr (1, [.int (nI (n)), .int (L), .ref ((ad 2)), .ref ((ad 3)), .ref ((ad 4)), .ref ((ad 5)), .ref ((ad 6)), .ref ((ad 7))])), ((ad 2), .inl (cyI, 12, .inl (fun zj => nI (mk zj)))), ((ad 3), .inl (cyI, 12, .inl (fun zj => nI (pt zj)))), ((ad 4), .inl (cyI, 72, .inl (fun zj => nI ((va_up (va_up ac s1 (ac s2)) (ac s2) s1) zj)))), ((ad 5), .inl (cyI, 12, .inl far)), ((ad 6), .inl (cyI, 12, .inl (fun zj => nI (re zj)))), ((ad 7), .inl (cyI, 12, .inl (fun zj => nI (tr zj))))] zA zs H locs := hw
  refine lv_aload_n hC.1 hC.2.1 dX1_exchange_22 rfl (lv_at hl 2 rfl) ?_
  refine lv_iload_n hC.1 hC.2.1 dX1_exchange_23 rfl (lv_at hl 4 rfl) ?_
  refine lv_iload_n hC.1 hC.2.1 dX1_exchange_24 rfl (lv_at hl 1 rfl) ?_
  refine W.ccV (wc := [((ad 1), .inr (1, [.int (nI (n)), .int (L), .ref ((ad 2)), .ref ((ad 3)), .ref ((ad 4)), .ref ((ad 5)), .ref ((ad 6)), .ref ((ad 7))])), ((ad 2), .inl (cyI, 12, .inl (fun zj => nI (mk zj)))), ((ad 3), .inl (cyI, 12, .inl (fun zj => nI (pt zj)))), ((ad 4), .inl (cyI, 72, .inl (fun zj => nI ((va_up (va_up ac s1 (ac s2)) (ac s2) s1) zj)))), ((ad 5), .inl (cyI, 12, .inl far)), ((ad 6), .inl (cyI, 12, .inl (fun zj => nI (re zj)))), ((ad 7), .inl (cyI, 12, .inl (fun zj => nI (tr zj))))]) (wr := []) (ws1 := fun (u : Unit) => [((ad 1), .inr (1, [.int (nI (n)), .int (L), .ref ((ad 2)), .ref ((ad 3)), .ref ((ad 4)), .ref ((ad 5)), .ref ((ad 6)), .ref ((ad 7))])), ((ad 2), .inl (cyI, 12, .inl (fun zj => nI (mk zj)))), ((ad 3), .inl (cyI, 12, .inl (fun zj => nI (pt zj)))), ((ad 4), .inl (cyI, 72, .inl (fun zj => nI ((va_up (va_up (va_up (va_up ac s1 (ac s2)) (ac s2) s1) s2 (ac s1)) (ac s1) s2) zj)))), ((ad 5), .inl (cyI, 12, .inl far)), ((ad 6), .inl (cyI, 12, .inl (fun zj => nI (re zj)))), ((ad 7), .inl (cyI, 12, .inl (fun zj => nI (tr zj))))]) (ws2 := fun (u : Unit) => [((ad 1), .inr (1, [.int (nI (n)), .int (L), .ref ((ad 2)), .ref ((ad 3)), .ref ((ad 4)), .ref ((ad 5)), .ref ((ad 6)), .ref ((ad 7))])), ((ad 2), .inl (cyI, 12, .inl (fun zj => nI (mk zj)))), ((ad 3), .inl (cyI, 12, .inl (fun zj => nI (pt zj)))), ((ad 4), .inl (cyI, 72, .inl (fun zj => nI ((va_up (va_up (va_up (va_up ac s1 (ac s2)) (ac s2) s1) s2 (ac s1)) (ac s1) s2) zj)))), ((ad 5), .inl (cyI, 12, .inl far)), ((ad 6), .inl (cyI, 12, .inl (fun zj => nI (re zj)))), ((ad 7), .inl (cyI, 12, .inl (fun zj => nI (tr zj))))]) hw [0, 1, 2, 3, 4, 5, 6] [] [0, 1, 2, 3, 4, 5, 6] rfl rfl (by decide) (by decide) (by decide) (fun _ => rfl) (Wd.runV (wc := [((ad 1), .inr (1, [.int (nI (n)), .int (L), .ref ((ad 2)), .ref ((ad 3)), .ref ((ad 4)), .ref ((ad 5)), .ref ((ad 6)), .ref ((ad 7))])), ((ad 2), .inl (cyI, 12, .inl (fun zj => nI (mk zj)))), ((ad 3), .inl (cyI, 12, .inl (fun zj => nI (pt zj)))), ((ad 4), .inl (cyI, 72, .inl (fun zj => nI ((va_up (va_up ac s1 (ac s2)) (ac s2) s1) zj)))), ((ad 5), .inl (cyI, 12, .inl far)), ((ad 6), .inl (cyI, 12, .inl (fun zj => nI (re zj)))), ((ad 7), .inl (cyI, 12, .inl (fun zj => nI (tr zj))))]) (rest := []) (As := [.int (nI (s2)), .int (nI (ac s1))]) hC hw [0, 1, 2, 3, 4, 5, 6] rfl (by decide) 0 rfl rfl (cwV 2 hC.2.2.2.2 gX1_exchange_X1_tie rfl rfl rfl (by decide +kernel) ⟨Nat.le_of_ble_eq_true rfl, Nat.le_of_ble_eq_true rfl⟩) (c_X1_tie l dC dI cyI cyJ cyZ cyS ad n L mk pt (va_up (va_up ac s1 (ac s2)) (ac s2) s1) far re tr s2 (ac s1) (by first | assumption | omega) (by first | assumption | omega) _) rfl hl.1 rfl (Nat.le_of_ble_eq_true rfl) dX1_exchange_25 ⟨Nat.zero_le _, Nat.zero_le _⟩) (fun u H locs hr_25 hw => ?_)
  replace hw : Wd dC dI (tysA cyI cyJ cyZ cyS) [((ad 1), .inr (1, [.int (nI (n)), .int (L), .ref ((ad 2)), .ref ((ad 3)), .ref ((ad 4)), .ref ((ad 5)), .ref ((ad 6)), .ref ((ad 7))])), ((ad 2), .inl (cyI, 12, .inl (fun zj => nI (mk zj)))), ((ad 3), .inl (cyI, 12, .inl (fun zj => nI (pt zj)))), ((ad 4), .inl (cyI, 72, .inl (fun zj => nI ((va_up (va_up (va_up (va_up ac s1 (ac s2)) (ac s2) s1) s2 (ac s1)) (ac s1) s2) zj)))), ((ad 5), .inl (cyI, 12, .inl far)), ((ad 6), .inl (cyI, 12, .inl (fun zj => nI (re zj)))), ((ad 7), .inl (cyI, 12, .inl (fun zj => nI (tr zj))))] zA zs H locs := hw
  exact hret _ _ _ ls  () dX1_exchange_28 trivial hw

set_option maxHeartbeats 4000000 in
set_option maxRecDepth 100000 in
theorem c_X1_ends (l : Launch) (dC : Nat → ClassId) (dI : Nat → Nat → Nat) (cyI cyJ cyZ cyS : ClassId) (ad : Nat → Nat) (n : Nat) (L : Int32) (mk pt ac : Nat → Nat) (far : Nat → Int32) (re tr : Nat → Nat) (hn : n ≤ 12) (hpt : ∀ p, p < n → pt p ≤ 6) : CtI l yX1_ends wsX1_ends ({ frames := 0, cells := 0, slots := 0, locals := 0 } : Room) dC dI (tysA cyI cyJ cyZ cyS) [.ref ((ad 1))] [((ad 1), .inr (1, [.int (nI (n)), .int (L), .ref ((ad 2)), .ref ((ad 3)), .ref ((ad 4)), .ref ((ad 5)), .ref ((ad 6)), .ref ((ad 7))])), ((ad 2), .inl (cyI, 12, .inl (fun zj => nI (mk zj)))), ((ad 3), .inl (cyI, 12, .inl (fun zj => nI (pt zj)))), ((ad 4), .inl (cyI, 72, .inl (fun zj => nI (ac zj)))), ((ad 5), .inl (cyI, 12, .inl far)), ((ad 6), .inl (cyI, 12, .inl (fun zj => nI (re zj)))), ((ad 7), .inl (cyI, 12, .inl (fun zj => nI (tr zj))))] (S := Unit) (fun (r : Int32) (u : Unit) => (r = nI (endsTo pt n))) (fun (u : Unit) => [((ad 1), .inr (1, [.int (nI (n)), .int (L), .ref ((ad 2)), .ref ((ad 3)), .ref ((ad 4)), .ref ((ad 5)), .ref ((ad 6)), .ref ((ad 7))])), ((ad 2), .inl (cyI, 12, .inl (fun zj => nI (mk zj)))), ((ad 3), .inl (cyI, 12, .inl (fun zj => nI (pt zj)))), ((ad 4), .inl (cyI, 72, .inl (fun zj => nI (ac zj)))), ((ad 5), .inl (cyI, 12, .inl far)), ((ad 6), .inl (cyI, 12, .inl (fun zj => nI (re zj)))), ((ad 7), .inl (cyI, 12, .inl (fun zj => nI (tr zj))))]) := by
  refine CtI.mk (cc := cX1_ends) (maxL := 3) (by decide) rfl (Nat.le_of_ble_eq_true rfl) ?_
  intro zp ze zs zm za zb zt zc zA zQ ls hC hw hl hret
  replace hC : CallFix zp zm zc cX1_ends 3 zs za wsX1_ends RX1 := hC
  replace hl : lv_has ls 3 [(0, .ref ((ad 1)))] := hl
  have hin1 : ∀ w ∈ u_ws RX1 TX1 8, w ∈ wsX1_ends := by decide +kernel
  have lk15 : Cond.fieldLink RX1 15 (TX1 3).1 (TX1 3).2.1 (TX1 3).2.2.1 ∈ wsX1_ends := by decide +kernel
  have lk30 : Cond.fieldLink RX1 30 (TX1 0).1 (TX1 0).2.1 (TX1 0).2.2.1 ∈ wsX1_ends := by decide +kernel
  refine lv_iconst (v := nI 0) hC.1 hC.2.1 dX1_ends_0 (by decide) ?_
  refine lv_istore_n (lv' := [(1, .int (nI (0))), (0, .ref ((ad 1)))]) hC.1 hC.2.1 dX1_ends_1 rfl hl (by decide) rfl (fun ls hl => ?_)
  refine lv_iconst (v := nI 0) hC.1 hC.2.1 dX1_ends_2 (by decide) ?_
  refine lv_istore_n (lv' := [(2, .int (nI (0))), (1, .int (nI (0))), (0, .ref ((ad 1)))]) hC.1 hC.2.1 dX1_ends_3 rfl hl (by decide) rfl (fun ls hl => ?_)
  have K4 : ∀ (zk : Nat), ∀ (k : Nat) (i : Nat) (H : Heap) (locs : List Loc) (ls : Array Slot), n - i < zk → (i ≤ n) → (k = endsTo pt i) → Wd dC dI (tysA cyI cyJ cyZ cyS) [((ad 1), .inr (1, [.int (nI (n)), .int (L), .ref ((ad 2)), .ref ((ad 3)), .ref ((ad 4)), .ref ((ad 5)), .ref ((ad 6)), .ref ((ad 7))])), ((ad 2), .inl (cyI, 12, .inl (fun zj => nI (mk zj)))), ((ad 3), .inl (cyI, 12, .inl (fun zj => nI (pt zj)))), ((ad 4), .inl (cyI, 72, .inl (fun zj => nI (ac zj)))), ((ad 5), .inl (cyI, 12, .inl far)), ((ad 6), .inl (cyI, 12, .inl (fun zj => nI (re zj)))), ((ad 7), .inl (cyI, 12, .inl (fun zj => nI (tr zj))))] zA zs H locs → lv_has ls 3 [(0, .ref ((ad 1))), (1, .int (nI (k))), (2, .int (nI (i)))] → W zp l ze ({ frames := 0, cells := 0, slots := 0, locals := 0 } : Room) zs zm za zb zt zc H locs 0 0 zQ (F0 zm 4 ls []) := by
    intro zk
    induction zk with
    | zero => intro k i H locs ls h0; exact absurd h0 (Nat.not_lt_zero _)
    | succ zk ih4 =>
      intro k i H locs ls hmu hi hk hw hl
      refine lv_iload_n hC.1 hC.2.1 dX1_ends_4 rfl (lv_at hl 2 rfl) ?_
      refine lv_aload_n hC.1 hC.2.1 dX1_ends_5 rfl (lv_at hl 0 rfl) ?_
      refine g_get hC hw hin1 0 rfl rfl 0 (by decide) lk30 rfl dX1_ends_6 ?_
      refine n_icmp_ge (tgt := 31) hC dX1_ends_9 (by decide) (by omega) (by omega) (fun c9 => ?_) (fun c9 => ?_)
      · skip
        obtain rfl : i = n := by omega
        refine lv_iload_n hC.1 hC.2.1 dX1_ends_31 rfl (lv_at hl 1 rfl) ?_
        exact hret _ _ _ ls (nI (k)) () dX1_ends_32 rfl (by rw [hk]) hw
      · skip
        refine lv_aload_n hC.1 hC.2.1 dX1_ends_12 rfl (lv_at hl 0 rfl) ?_
        refine g_get hC hw hin1 0 rfl rfl 3 (by decide) lk15 rfl dX1_ends_13 ?_
        refine lv_iload_n hC.1 hC.2.1 dX1_ends_16 rfl (lv_at hl 2 rfl) ?_
        refine g_ialdN hC hw 2 0 rfl rfl (by omega) (by first | decide | omega) dX1_ends_17 ?_
        have hpi := hpt i (by omega)
        have hle := endsTo_le pt i
        refine lv_iconst (v := nI 1) hC.1 hC.2.1 dX1_ends_18 (by decide) ?_
        refine n_icmp_ne (tgt := 25) hC dX1_ends_19 (by decide) (by omega) (by omega) (fun c19 => ?_) (fun c19 => ?_)
        · skip
          refine lv_iinc (v := nI (i + 1)) (lv' := [(2, .int (nI (i + 1))), (0, .ref ((ad 1))), (1, .int (nI (k)))]) hC.1 hC.2.1 dX1_ends_25 hl (k := 2) rfl (nI_inc i 1) (by decide) rfl (fun ls hl => ?_)
          refine lv_goto (tgt := 4) hC.1 hC.2.1 dX1_ends_28 (by decide) ?_
          exact ih4 k (i + 1) _ _ ls (by omega) (by omega) (by show _ = endsTo pt i + _; rw [hk]; first | rw [if_pos c19] | (rw [if_neg c19]; rfl)) hw (lv_sub hl [1, 2, 0] rfl)
        · skip
          refine lv_iinc (v := nI (k + 1)) (lv' := [(1, .int (nI (k + 1))), (0, .ref ((ad 1))), (2, .int (nI (i)))]) hC.1 hC.2.1 dX1_ends_22 hl (k := 1) rfl (nI_inc k 1) (by decide) rfl (fun ls hl => ?_)
          refine lv_iinc (v := nI (i + 1)) (lv' := [(2, .int (nI (i + 1))), (1, .int (nI (k + 1))), (0, .ref ((ad 1)))]) hC.1 hC.2.1 dX1_ends_25 hl (k := 2) rfl (nI_inc i 1) (by decide) rfl (fun ls hl => ?_)
          refine lv_goto (tgt := 4) hC.1 hC.2.1 dX1_ends_28 (by decide) ?_
          exact ih4 (k + 1) (i + 1) _ _ ls (by omega) (by omega) (by show _ = endsTo pt i + _; rw [hk]; first | rw [if_pos c19] | (rw [if_neg c19]; rfl)) hw (lv_sub hl [2, 1, 0] rfl)
  exact K4 _ 0 0 _ _ ls (Nat.lt_succ_self _) (by omega) (by rfl) hw (lv_sub hl [2, 1, 0] rfl)

set_option maxHeartbeats 4000000 in
set_option maxRecDepth 100000 in
theorem c_X1_makeTwice (l : Launch) (dC : Nat → ClassId) (dI : Nat → Nat → Nat) (cyI cyJ cyZ cyS : ClassId) (ad : Nat → Nat) (n : Nat) (L : Int32) (mk pt ac : Nat → Nat) (far : Nat → Int32) (re tr : Nat → Nat) (s1 : Nat) (hn : 2 * n ≤ 12) (h1 : s1 < n * 6) (h2 : ac s1 < n * 6) : CtV l yX1_makeTwice wsX1_makeTwice ({ frames := 1, cells := 0, slots := 0, locals := 22 } : Room) dC dI (tysA cyI cyJ cyZ cyS) [.ref ((ad 1)), .int (nI (s1))] [((ad 1), .inr (1, [.int (nI (n)), .int (L), .ref ((ad 2)), .ref ((ad 3)), .ref ((ad 4)), .ref ((ad 5)), .ref ((ad 6)), .ref ((ad 7))])), ((ad 2), .inl (cyI, 12, .inl (fun zj => nI (mk zj)))), ((ad 3), .inl (cyI, 12, .inl (fun zj => nI (pt zj)))), ((ad 4), .inl (cyI, 72, .inl (fun zj => nI (ac zj)))), ((ad 5), .inl (cyI, 12, .inl far)), ((ad 6), .inl (cyI, 12, .inl (fun zj => nI (re zj)))), ((ad 7), .inl (cyI, 12, .inl (fun zj => nI (tr zj))))] (S := Unit) (fun (u : Unit) => True) (fun (u : Unit) => [((ad 1), .inr (1, [.int (nI (n * 2)), .int (L * nI 2), .ref ((ad 2)), .ref ((ad 3)), .ref ((ad 4)), .ref ((ad 5)), .ref ((ad 6)), .ref ((ad 7))])), ((ad 2), .inl (cyI, 12, .inl (fun zj => nI ((dbTo mk n n) zj)))), ((ad 3), .inl (cyI, 12, .inl (fun zj => nI ((dbTo pt n n) zj)))), ((ad 4), .inl (cyI, 72, .inl (fun zj => nI ((va_up (va_up (va_up (va_up (dbAc ac (n * 6) (n * 6)) s1 (n * 6 + ac s1)) (n * 6 + ac s1) s1) (n * 6 + s1) (ac s1)) (ac s1) (n * 6 + s1)) zj)))), ((ad 5), .inl (cyI, 12, .inl far)), ((ad 6), .inl (cyI, 12, .inl (fun zj => nI (re zj)))), ((ad 7), .inl (cyI, 12, .inl (fun zj => nI (tr zj))))]) := by
  refine CtV.mk (cc := cX1_makeTwice) (maxL := 5) (by decide) rfl (Nat.le_of_ble_eq_true rfl) ?_
  intro zp ze zs zm za zb zt zc zA zQ ls hC hw hl hret
  replace hC : CallFix zp zm zc cX1_makeTwice 5 zs za wsX1_makeTwice RX1 := hC
  replace hl : lv_has ls 5 [(0, .ref ((ad 1))), (1, .int (nI (s1)))] := hl
  have hin1 : ∀ w ∈ u_ws RX1 TX1 8, w ∈ wsX1_makeTwice := by decide +kernel
  have lk9 : Cond.fieldLink RX1 9 (TX1 2).1 (TX1 2).2.1 (TX1 2).2.2.1 ∈ wsX1_makeTwice := by decide +kernel
  have lk15 : Cond.fieldLink RX1 15 (TX1 3).1 (TX1 3).2.1 (TX1 3).2.2.1 ∈ wsX1_makeTwice := by decide +kernel
  have lk18 : Cond.fieldLink RX1 18 (TX1 4).1 (TX1 4).2.1 (TX1 4).2.2.1 ∈ wsX1_makeTwice := by decide +kernel
  have lk30 : Cond.fieldLink RX1 30 (TX1 0).1 (TX1 0).2.1 (TX1 0).2.2.1 ∈ wsX1_makeTwice := by decide +kernel
  have lk38 : Cond.fieldLink RX1 38 (TX1 1).1 (TX1 1).2.1 (TX1 1).2.2.1 ∈ wsX1_makeTwice := by decide +kernel
  refine lv_aload_n hC.1 hC.2.1 dX1_makeTwice_0 rfl (lv_at hl 0 rfl) ?_
  refine g_get hC hw hin1 0 rfl rfl 0 (by decide) lk30 rfl dX1_makeTwice_1 ?_
  refine lv_bipush (v := nI 6) hC.1 hC.2.1 dX1_makeTwice_4 (by decide) ?_
  refine n_imul hC dX1_makeTwice_6 ?_
  refine lv_istore_n (lv' := [(2, .int (nI (n * 6))), (0, .ref ((ad 1))), (1, .int (nI (s1)))]) hC.1 hC.2.1 dX1_makeTwice_7 rfl hl (by decide) rfl (fun ls hl => ?_)
  refine lv_aload_n hC.1 hC.2.1 dX1_makeTwice_8 rfl (lv_at hl 1 rfl) ?_
  refine g_get hC hw hin1 0 rfl rfl 4 (by decide) lk18 rfl dX1_makeTwice_9 ?_
  refine lv_iload_n hC.1 hC.2.1 dX1_makeTwice_12 rfl (lv_at hl 2 rfl) ?_
  refine g_ialdN hC hw 3 0 rfl rfl (by omega) (by first | decide | omega) dX1_makeTwice_13 ?_
  refine lv_istore_n (lv' := [(3, .int (nI (ac s1))), (2, .int (nI (n * 6))), (0, .ref ((ad 1))), (1, .int (nI (s1)))]) hC.1 hC.2.1 dX1_makeTwice_14 rfl hl (by decide) rfl (fun ls hl => ?_)
  refine lv_iconst (v := nI 0) hC.1 hC.2.1 dX1_makeTwice_15 (by decide) ?_
  refine lv_istore (lv' := [(4, .int (nI (0))), (3, .int (nI (ac s1))), (2, .int (nI (n * 6))), (0, .ref ((ad 1))), (1, .int (nI (s1)))]) hC.1 hC.2.1 dX1_makeTwice_16 hl (by decide) rfl (fun ls hl => ?_)
  have K18 : ∀ (zk : Nat), ∀ (i : Nat) (mk1 : Nat → Nat) (pt1 : Nat → Nat) (H : Heap) (locs : List Loc) (ls : Array Slot), n - i < zk → (i ≤ n) → (mk1 = dbTo mk n i) → (pt1 = dbTo pt n i) → Wd dC dI (tysA cyI cyJ cyZ cyS) [((ad 1), .inr (1, [.int (nI (n)), .int (L), .ref ((ad 2)), .ref ((ad 3)), .ref ((ad 4)), .ref ((ad 5)), .ref ((ad 6)), .ref ((ad 7))])), ((ad 2), .inl (cyI, 12, .inl (fun zj => nI (mk1 zj)))), ((ad 3), .inl (cyI, 12, .inl (fun zj => nI (pt1 zj)))), ((ad 4), .inl (cyI, 72, .inl (fun zj => nI (ac zj)))), ((ad 5), .inl (cyI, 12, .inl far)), ((ad 6), .inl (cyI, 12, .inl (fun zj => nI (re zj)))), ((ad 7), .inl (cyI, 12, .inl (fun zj => nI (tr zj))))] zA zs H locs → lv_has ls 5 [(0, .ref ((ad 1))), (1, .int (nI (s1))), (2, .int (nI (n * 6))), (3, .int (nI (ac s1))), (4, .int (nI (i)))] → W zp l ze ({ frames := 1, cells := 0, slots := 0, locals := 22 } : Room) zs zm za zb zt zc H locs 0 0 zQ (F0 zm 18 ls []) := by
    intro zk
    induction zk with
    | zero => intro i mk1 pt1 H locs ls h0; exact absurd h0 (Nat.not_lt_zero _)
    | succ zk ih18 =>
      intro i mk1 pt1 H locs ls hmu hi hm hp hw hl
      refine lv_iload hC.1 hC.2.1 dX1_makeTwice_18 (lv_at hl 4 rfl) ?_
      refine lv_aload_n hC.1 hC.2.1 dX1_makeTwice_20 rfl (lv_at hl 0 rfl) ?_
      refine g_get hC hw hin1 0 rfl rfl 0 (by decide) lk30 rfl dX1_makeTwice_21 ?_
      refine n_icmp_ge (tgt := 71) hC dX1_makeTwice_24 (by decide) (by omega) (by omega) (fun c_24 => ?_) (fun c_24 => ?_)
      · skip
        obtain rfl : n = i := by omega
        subst hm
        subst hp
        refine lv_iconst (v := nI 0) hC.1 hC.2.1 dX1_makeTwice_71 (by decide) ?_
        refine lv_istore (lv' := [(4, .int (nI (0))), (0, .ref ((ad 1))), (1, .int (nI (s1))), (2, .int (nI (n * 6))), (3, .int (nI (ac s1)))]) hC.1 hC.2.1 dX1_makeTwice_72 hl (by decide) rfl (fun ls hl => ?_)
        have K74 : ∀ (zk : Nat), ∀ (j : Nat) (ac1 : Nat → Nat) (H : Heap) (locs : List Loc) (ls : Array Slot), n * 6 - j < zk → (j ≤ n * 6) → (ac1 = dbAc ac (n * 6) j) → Wd dC dI (tysA cyI cyJ cyZ cyS) [((ad 1), .inr (1, [.int (nI (n)), .int (L), .ref ((ad 2)), .ref ((ad 3)), .ref ((ad 4)), .ref ((ad 5)), .ref ((ad 6)), .ref ((ad 7))])), ((ad 2), .inl (cyI, 12, .inl (fun zj => nI ((dbTo mk n n) zj)))), ((ad 3), .inl (cyI, 12, .inl (fun zj => nI ((dbTo pt n n) zj)))), ((ad 4), .inl (cyI, 72, .inl (fun zj => nI (ac1 zj)))), ((ad 5), .inl (cyI, 12, .inl far)), ((ad 6), .inl (cyI, 12, .inl (fun zj => nI (re zj)))), ((ad 7), .inl (cyI, 12, .inl (fun zj => nI (tr zj))))] zA zs H locs → lv_has ls 5 [(0, .ref ((ad 1))), (1, .int (nI (s1))), (2, .int (nI (n * 6))), (3, .int (nI (ac s1))), (4, .int (nI (j)))] → W zp l ze ({ frames := 1, cells := 0, slots := 0, locals := 22 } : Room) zs zm za zb zt zc H locs 0 0 zQ (F0 zm 74 ls []) := by
          intro zk
          induction zk with
          | zero => intro j ac1 H locs ls h0; exact absurd h0 (Nat.not_lt_zero _)
          | succ zk ih74 =>
            intro j ac1 H locs ls hmu hj ha hw hl
            refine lv_iload hC.1 hC.2.1 dX1_makeTwice_74 (lv_at hl 4 rfl) ?_
            refine lv_iload_n hC.1 hC.2.1 dX1_makeTwice_76 rfl (lv_at hl 2 rfl) ?_
            refine n_icmp_ge (tgt := 104) hC dX1_makeTwice_77 (by decide) (by omega) (by omega) (fun c_77 => ?_) (fun c_77 => ?_)
            · skip
              obtain rfl : j = n * 6 := by omega
              subst ha
              refine lv_aload_n hC.1 hC.2.1 dX1_makeTwice_104 rfl (lv_at hl 0 rfl) ?_
              refine lv_iload_n hC.1 hC.2.1 dX1_makeTwice_105 rfl (lv_at hl 1 rfl) ?_
              refine lv_iload_n hC.1 hC.2.1 dX1_makeTwice_106 rfl (lv_at hl 2 rfl) ?_
              refine lv_iload_n hC.1 hC.2.1 dX1_makeTwice_107 rfl (lv_at hl 3 rfl) ?_
              refine n_iadd hC dX1_makeTwice_108 ?_
              refine W.ccV (wc := [((ad 1), .inr (1, [.int (nI (n)), .int (L), .ref ((ad 2)), .ref ((ad 3)), .ref ((ad 4)), .ref ((ad 5)), .ref ((ad 6)), .ref ((ad 7))])), ((ad 2), .inl (cyI, 12, .inl (fun zj => nI ((dbTo mk n n) zj)))), ((ad 3), .inl (cyI, 12, .inl (fun zj => nI ((dbTo pt n n) zj)))), ((ad 4), .inl (cyI, 72, .inl (fun zj => nI ((dbAc ac (n * 6) (n * 6)) zj)))), ((ad 5), .inl (cyI, 12, .inl far)), ((ad 6), .inl (cyI, 12, .inl (fun zj => nI (re zj)))), ((ad 7), .inl (cyI, 12, .inl (fun zj => nI (tr zj))))]) (wr := []) (ws1 := fun (u : Unit) => [((ad 1), .inr (1, [.int (nI (n)), .int (L), .ref ((ad 2)), .ref ((ad 3)), .ref ((ad 4)), .ref ((ad 5)), .ref ((ad 6)), .ref ((ad 7))])), ((ad 2), .inl (cyI, 12, .inl (fun zj => nI ((dbTo mk n n) zj)))), ((ad 3), .inl (cyI, 12, .inl (fun zj => nI ((dbTo pt n n) zj)))), ((ad 4), .inl (cyI, 72, .inl (fun zj => nI ((va_up (va_up (dbAc ac (n * 6) (n * 6)) s1 ((n * 6) + (ac s1))) ((n * 6) + (ac s1)) s1) zj)))), ((ad 5), .inl (cyI, 12, .inl far)), ((ad 6), .inl (cyI, 12, .inl (fun zj => nI (re zj)))), ((ad 7), .inl (cyI, 12, .inl (fun zj => nI (tr zj))))]) (ws2 := fun (u : Unit) => [((ad 1), .inr (1, [.int (nI (n)), .int (L), .ref ((ad 2)), .ref ((ad 3)), .ref ((ad 4)), .ref ((ad 5)), .ref ((ad 6)), .ref ((ad 7))])), ((ad 2), .inl (cyI, 12, .inl (fun zj => nI ((dbTo mk n n) zj)))), ((ad 3), .inl (cyI, 12, .inl (fun zj => nI ((dbTo pt n n) zj)))), ((ad 4), .inl (cyI, 72, .inl (fun zj => nI ((va_up (va_up (dbAc ac (n * 6) (n * 6)) s1 ((n * 6) + (ac s1))) ((n * 6) + (ac s1)) s1) zj)))), ((ad 5), .inl (cyI, 12, .inl far)), ((ad 6), .inl (cyI, 12, .inl (fun zj => nI (re zj)))), ((ad 7), .inl (cyI, 12, .inl (fun zj => nI (tr zj))))]) hw [0, 1, 2, 3, 4, 5, 6] [] [0, 1, 2, 3, 4, 5, 6] rfl rfl (by decide) (by decide) (by decide) (fun _ => rfl) (Wd.runV (wc := [((ad 1), .inr (1, [.int (nI (n)), .int (L), .ref ((ad 2)), .ref ((ad 3)), .ref ((ad 4)), .ref ((ad 5)), .ref ((ad 6)), .ref ((ad 7))])), ((ad 2), .inl (cyI, 12, .inl (fun zj => nI ((dbTo mk n n) zj)))), ((ad 3), .inl (cyI, 12, .inl (fun zj => nI ((dbTo pt n n) zj)))), ((ad 4), .inl (cyI, 72, .inl (fun zj => nI ((dbAc ac (n * 6) (n * 6)) zj)))), ((ad 5), .inl (cyI, 12, .inl far)), ((ad 6), .inl (cyI, 12, .inl (fun zj => nI (re zj)))), ((ad 7), .inl (cyI, 12, .inl (fun zj => nI (tr zj))))]) (rest := []) (As := [.int (nI (s1)), .int (nI ((n * 6) + (ac s1)))]) hC hw [0, 1, 2, 3, 4, 5, 6] rfl (by decide) 0 rfl rfl (cwV 2 hC.2.2.2.2 gX1_makeTwice_X1_tie rfl rfl rfl (by decide +kernel) ⟨Nat.le_of_ble_eq_true rfl, Nat.le_of_ble_eq_true rfl⟩) (c_X1_tie l dC dI cyI cyJ cyZ cyS ad n L (dbTo mk n n) (dbTo pt n n) (dbAc ac (n * 6) (n * 6)) far re tr s1 ((n * 6) + (ac s1)) (by first | assumption | omega) (by first | assumption | omega) _) rfl hl.1 rfl (Nat.le_of_ble_eq_true rfl) dX1_makeTwice_109 ⟨Nat.zero_le _, Nat.zero_le _⟩) (fun u H locs hr_109 hw => ?_)
              replace hw : Wd dC dI (tysA cyI cyJ cyZ cyS) [((ad 1), .inr (1, [.int (nI (n)), .int (L), .ref ((ad 2)), .ref ((ad 3)), .ref ((ad 4)), .ref ((ad 5)), .ref ((ad 6)), .ref ((ad 7))])), ((ad 2), .inl (cyI, 12, .inl (fun zj => nI ((dbTo mk n n) zj)))), ((ad 3), .inl (cyI, 12, .inl (fun zj => nI ((dbTo pt n n) zj)))), ((ad 4), .inl (cyI, 72, .inl (fun zj => nI ((va_up (va_up (dbAc ac (n * 6) (n * 6)) s1 ((n * 6) + (ac s1))) ((n * 6) + (ac s1)) s1) zj)))), ((ad 5), .inl (cyI, 12, .inl far)), ((ad 6), .inl (cyI, 12, .inl (fun zj => nI (re zj)))), ((ad 7), .inl (cyI, 12, .inl (fun zj => nI (tr zj))))] zA zs H locs := hw
              refine lv_aload_n hC.1 hC.2.1 dX1_makeTwice_112 rfl (lv_at hl 0 rfl) ?_
              refine lv_iload_n hC.1 hC.2.1 dX1_makeTwice_113 rfl (lv_at hl 2 rfl) ?_
              refine lv_iload_n hC.1 hC.2.1 dX1_makeTwice_114 rfl (lv_at hl 1 rfl) ?_
              refine n_iadd hC dX1_makeTwice_115 ?_
              refine lv_iload_n hC.1 hC.2.1 dX1_makeTwice_116 rfl (lv_at hl 3 rfl) ?_
              refine W.ccV (wc := [((ad 1), .inr (1, [.int (nI (n)), .int (L), .ref ((ad 2)), .ref ((ad 3)), .ref ((ad 4)), .ref ((ad 5)), .ref ((ad 6)), .ref ((ad 7))])), ((ad 2), .inl (cyI, 12, .inl (fun zj => nI ((dbTo mk n n) zj)))), ((ad 3), .inl (cyI, 12, .inl (fun zj => nI ((dbTo pt n n) zj)))), ((ad 4), .inl (cyI, 72, .inl (fun zj => nI ((va_up (va_up (dbAc ac (n * 6) (n * 6)) s1 ((n * 6) + (ac s1))) ((n * 6) + (ac s1)) s1) zj)))), ((ad 5), .inl (cyI, 12, .inl far)), ((ad 6), .inl (cyI, 12, .inl (fun zj => nI (re zj)))), ((ad 7), .inl (cyI, 12, .inl (fun zj => nI (tr zj))))]) (wr := []) (ws1 := fun (u : Unit) => [((ad 1), .inr (1, [.int (nI (n)), .int (L), .ref ((ad 2)), .ref ((ad 3)), .ref ((ad 4)), .ref ((ad 5)), .ref ((ad 6)), .ref ((ad 7))])), ((ad 2), .inl (cyI, 12, .inl (fun zj => nI ((dbTo mk n n) zj)))), ((ad 3), .inl (cyI, 12, .inl (fun zj => nI ((dbTo pt n n) zj)))), ((ad 4), .inl (cyI, 72, .inl (fun zj => nI ((va_up (va_up (va_up (va_up (dbAc ac (n * 6) (n * 6)) s1 ((n * 6) + (ac s1))) ((n * 6) + (ac s1)) s1) ((n * 6) + s1) (ac s1)) (ac s1) ((n * 6) + s1)) zj)))), ((ad 5), .inl (cyI, 12, .inl far)), ((ad 6), .inl (cyI, 12, .inl (fun zj => nI (re zj)))), ((ad 7), .inl (cyI, 12, .inl (fun zj => nI (tr zj))))]) (ws2 := fun (u : Unit) => [((ad 1), .inr (1, [.int (nI (n)), .int (L), .ref ((ad 2)), .ref ((ad 3)), .ref ((ad 4)), .ref ((ad 5)), .ref ((ad 6)), .ref ((ad 7))])), ((ad 2), .inl (cyI, 12, .inl (fun zj => nI ((dbTo mk n n) zj)))), ((ad 3), .inl (cyI, 12, .inl (fun zj => nI ((dbTo pt n n) zj)))), ((ad 4), .inl (cyI, 72, .inl (fun zj => nI ((va_up (va_up (va_up (va_up (dbAc ac (n * 6) (n * 6)) s1 ((n * 6) + (ac s1))) ((n * 6) + (ac s1)) s1) ((n * 6) + s1) (ac s1)) (ac s1) ((n * 6) + s1)) zj)))), ((ad 5), .inl (cyI, 12, .inl far)), ((ad 6), .inl (cyI, 12, .inl (fun zj => nI (re zj)))), ((ad 7), .inl (cyI, 12, .inl (fun zj => nI (tr zj))))]) hw [0, 1, 2, 3, 4, 5, 6] [] [0, 1, 2, 3, 4, 5, 6] rfl rfl (by decide) (by decide) (by decide) (fun _ => rfl) (Wd.runV (wc := [((ad 1), .inr (1, [.int (nI (n)), .int (L), .ref ((ad 2)), .ref ((ad 3)), .ref ((ad 4)), .ref ((ad 5)), .ref ((ad 6)), .ref ((ad 7))])), ((ad 2), .inl (cyI, 12, .inl (fun zj => nI ((dbTo mk n n) zj)))), ((ad 3), .inl (cyI, 12, .inl (fun zj => nI ((dbTo pt n n) zj)))), ((ad 4), .inl (cyI, 72, .inl (fun zj => nI ((va_up (va_up (dbAc ac (n * 6) (n * 6)) s1 ((n * 6) + (ac s1))) ((n * 6) + (ac s1)) s1) zj)))), ((ad 5), .inl (cyI, 12, .inl far)), ((ad 6), .inl (cyI, 12, .inl (fun zj => nI (re zj)))), ((ad 7), .inl (cyI, 12, .inl (fun zj => nI (tr zj))))]) (rest := []) (As := [.int (nI ((n * 6) + s1)), .int (nI (ac s1))]) hC hw [0, 1, 2, 3, 4, 5, 6] rfl (by decide) 0 rfl rfl (cwV 2 hC.2.2.2.2 gX1_makeTwice_X1_tie rfl rfl rfl (by decide +kernel) ⟨Nat.le_of_ble_eq_true rfl, Nat.le_of_ble_eq_true rfl⟩) (c_X1_tie l dC dI cyI cyJ cyZ cyS ad n L (dbTo mk n n) (dbTo pt n n) (va_up (va_up (dbAc ac (n * 6) (n * 6)) s1 ((n * 6) + (ac s1))) ((n * 6) + (ac s1)) s1) far re tr ((n * 6) + s1) (ac s1) (by first | assumption | omega) (by first | assumption | omega) _) rfl hl.1 rfl (Nat.le_of_ble_eq_true rfl) dX1_makeTwice_117 ⟨Nat.zero_le _, Nat.zero_le _⟩) (fun u H locs hr_117 hw => ?_)
              replace hw : Wd dC dI (tysA cyI cyJ cyZ cyS) [((ad 1), .inr (1, [.int (nI (n)), .int (L), .ref ((ad 2)), .ref ((ad 3)), .ref ((ad 4)), .ref ((ad 5)), .ref ((ad 6)), .ref ((ad 7))])), ((ad 2), .inl (cyI, 12, .inl (fun zj => nI ((dbTo mk n n) zj)))), ((ad 3), .inl (cyI, 12, .inl (fun zj => nI ((dbTo pt n n) zj)))), ((ad 4), .inl (cyI, 72, .inl (fun zj => nI ((va_up (va_up (va_up (va_up (dbAc ac (n * 6) (n * 6)) s1 ((n * 6) + (ac s1))) ((n * 6) + (ac s1)) s1) ((n * 6) + s1) (ac s1)) (ac s1) ((n * 6) + s1)) zj)))), ((ad 5), .inl (cyI, 12, .inl far)), ((ad 6), .inl (cyI, 12, .inl (fun zj => nI (re zj)))), ((ad 7), .inl (cyI, 12, .inl (fun zj => nI (tr zj))))] zA zs H locs := hw
              refine lv_aload_n hC.1 hC.2.1 dX1_makeTwice_120 rfl (lv_at hl 0 rfl) ?_
              refine lv_dup hC.1 hC.2.1 dX1_makeTwice_121 rfl ?_
              refine g_get hC hw hin1 0 rfl rfl 0 (by decide) lk30 rfl dX1_makeTwice_122 ?_
              refine lv_iconst (v := nI 2) hC.1 hC.2.1 dX1_makeTwice_125 (by decide) ?_
              refine n_imul hC dX1_makeTwice_126 ?_
              refine g_put hC hw hin1 tyX1 tyX1_ok nmX1 0 rfl rfl 0 (by decide) lk30 rfl rfl (by first | rfl | decide) (Nat.le_of_ble_eq_true rfl) dX1_makeTwice_127 (fun H locs hw => ?_)
              replace hw : Wd dC dI (tysA cyI cyJ cyZ cyS) [((ad 1), .inr (1, [.int (nI (n * 2)), .int (L), .ref ((ad 2)), .ref ((ad 3)), .ref ((ad 4)), .ref ((ad 5)), .ref ((ad 6)), .ref ((ad 7))])), ((ad 2), .inl (cyI, 12, .inl (fun zj => nI ((dbTo mk n n) zj)))), ((ad 3), .inl (cyI, 12, .inl (fun zj => nI ((dbTo pt n n) zj)))), ((ad 4), .inl (cyI, 72, .inl (fun zj => nI ((va_up (va_up (va_up (va_up (dbAc ac (n * 6) (n * 6)) s1 ((n * 6) + (ac s1))) ((n * 6) + (ac s1)) s1) ((n * 6) + s1) (ac s1)) (ac s1) ((n * 6) + s1)) zj)))), ((ad 5), .inl (cyI, 12, .inl far)), ((ad 6), .inl (cyI, 12, .inl (fun zj => nI (re zj)))), ((ad 7), .inl (cyI, 12, .inl (fun zj => nI (tr zj))))] zA zs H locs := hw
              refine lv_aload_n hC.1 hC.2.1 dX1_makeTwice_130 rfl (lv_at hl 0 rfl) ?_
              refine lv_dup hC.1 hC.2.1 dX1_makeTwice_131 rfl ?_
              refine g_get hC hw hin1 0 rfl rfl 1 (by decide) lk38 rfl dX1_makeTwice_132 ?_
              refine lv_iconst (v := nI 2) hC.1 hC.2.1 dX1_makeTwice_135 (by decide) ?_
              refine lv_imul hC.1 hC.2.1 dX1_makeTwice_136 ?_
              refine g_put hC hw hin1 tyX1 tyX1_ok nmX1 0 rfl rfl 1 (by decide) lk38 rfl rfl (by first | rfl | decide) (Nat.le_of_ble_eq_true rfl) dX1_makeTwice_137 (fun H locs hw => ?_)
              replace hw : Wd dC dI (tysA cyI cyJ cyZ cyS) [((ad 1), .inr (1, [.int (nI (n * 2)), .int (L * (nI (2))), .ref ((ad 2)), .ref ((ad 3)), .ref ((ad 4)), .ref ((ad 5)), .ref ((ad 6)), .ref ((ad 7))])), ((ad 2), .inl (cyI, 12, .inl (fun zj => nI ((dbTo mk n n) zj)))), ((ad 3), .inl (cyI, 12, .inl (fun zj => nI ((dbTo pt n n) zj)))), ((ad 4), .inl (cyI, 72, .inl (fun zj => nI ((va_up (va_up (va_up (va_up (dbAc ac (n * 6) (n * 6)) s1 ((n * 6) + (ac s1))) ((n * 6) + (ac s1)) s1) ((n * 6) + s1) (ac s1)) (ac s1) ((n * 6) + s1)) zj)))), ((ad 5), .inl (cyI, 12, .inl far)), ((ad 6), .inl (cyI, 12, .inl (fun zj => nI (re zj)))), ((ad 7), .inl (cyI, 12, .inl (fun zj => nI (tr zj))))] zA zs H locs := hw
              exact hret _ _ _ ls  () dX1_makeTwice_140 trivial hw
            · skip
              refine lv_aload_n hC.1 hC.2.1 dX1_makeTwice_80 rfl (lv_at hl 0 rfl) ?_
              refine g_get hC hw hin1 0 rfl rfl 4 (by decide) lk18 rfl dX1_makeTwice_81 ?_
              refine lv_iload_n hC.1 hC.2.1 dX1_makeTwice_84 rfl (lv_at hl 2 rfl) ?_
              refine lv_iload hC.1 hC.2.1 dX1_makeTwice_85 (lv_at hl 4 rfl) ?_
              refine n_iadd hC dX1_makeTwice_87 ?_
              refine lv_iload_n hC.1 hC.2.1 dX1_makeTwice_88 rfl (lv_at hl 2 rfl) ?_
              refine lv_aload_n hC.1 hC.2.1 dX1_makeTwice_89 rfl (lv_at hl 0 rfl) ?_
              refine g_get hC hw hin1 0 rfl rfl 4 (by decide) lk18 rfl dX1_makeTwice_90 ?_
              refine lv_iload hC.1 hC.2.1 dX1_makeTwice_93 (lv_at hl 4 rfl) ?_
              refine g_ialdN hC hw 3 0 rfl rfl (by omega) (by first | decide | omega) dX1_makeTwice_95 ?_
              refine n_iadd hC dX1_makeTwice_96 ?_
              refine g_iastN hC hw 3 0 rfl rfl (by omega) (by first | decide | omega) dX1_makeTwice_97 (fun H locs hw => ?_)
              replace hw : Wd dC dI (tysA cyI cyJ cyZ cyS) [((ad 1), .inr (1, [.int (nI (n)), .int (L), .ref ((ad 2)), .ref ((ad 3)), .ref ((ad 4)), .ref ((ad 5)), .ref ((ad 6)), .ref ((ad 7))])), ((ad 2), .inl (cyI, 12, .inl (fun zj => nI ((dbTo mk n n) zj)))), ((ad 3), .inl (cyI, 12, .inl (fun zj => nI ((dbTo pt n n) zj)))), ((ad 4), .inl (cyI, 72, .inl (fun zj => nI ((va_up ac1 ((n * 6) + j) ((n * 6) + (ac1 j))) zj)))), ((ad 5), .inl (cyI, 12, .inl far)), ((ad 6), .inl (cyI, 12, .inl (fun zj => nI (re zj)))), ((ad 7), .inl (cyI, 12, .inl (fun zj => nI (tr zj))))] zA zs H locs := hw
              refine lv_iinc (v := nI (j + 1)) (lv' := [(4, .int (nI (j + 1))), (0, .ref ((ad 1))), (1, .int (nI (s1))), (2, .int (nI (n * 6))), (3, .int (nI (ac s1)))]) hC.1 hC.2.1 dX1_makeTwice_98 hl (k := 4) rfl (nI_inc j 1) (by decide) rfl (fun ls hl => ?_)
              refine lv_goto (tgt := 74) hC.1 hC.2.1 dX1_makeTwice_101 (by decide) ?_
              exact ih74 (j + 1) (va_up ac1 ((n * 6) + j) ((n * 6) + (ac1 j))) _ _ ls (by omega) (by omega) (by rw [ha, dbAc_1 ac (by omega)]) hw (lv_sub hl [1, 2, 3, 4, 0] rfl)
        exact K74 _ 0 ac _ _ ls (Nat.lt_succ_self _) (by omega) (by exact (dbAc_0 ac (n * 6)).symm) hw (lv_sub hl [1, 2, 3, 4, 0] rfl)
      · skip
        refine lv_aload_n hC.1 hC.2.1 dX1_makeTwice_27 rfl (lv_at hl 0 rfl) ?_
        refine g_get hC hw hin1 0 rfl rfl 2 (by decide) lk9 rfl dX1_makeTwice_28 ?_
        refine lv_aload_n hC.1 hC.2.1 dX1_makeTwice_31 rfl (lv_at hl 0 rfl) ?_
        refine g_get hC hw hin1 0 rfl rfl 0 (by decide) lk30 rfl dX1_makeTwice_32 ?_
        refine lv_iload hC.1 hC.2.1 dX1_makeTwice_35 (lv_at hl 4 rfl) ?_
        refine n_iadd hC dX1_makeTwice_37 ?_
        refine lv_aload_n hC.1 hC.2.1 dX1_makeTwice_38 rfl (lv_at hl 0 rfl) ?_
        refine g_get hC hw hin1 0 rfl rfl 2 (by decide) lk9 rfl dX1_makeTwice_39 ?_
        refine lv_iload hC.1 hC.2.1 dX1_makeTwice_42 (lv_at hl 4 rfl) ?_
        refine g_ialdN hC hw 1 0 rfl rfl (by omega) (by first | decide | omega) dX1_makeTwice_44 ?_
        refine g_iastN hC hw 1 0 rfl rfl (by omega) (by first | decide | omega) dX1_makeTwice_45 (fun H locs hw => ?_)
        replace hw : Wd dC dI (tysA cyI cyJ cyZ cyS) [((ad 1), .inr (1, [.int (nI (n)), .int (L), .ref ((ad 2)), .ref ((ad 3)), .ref ((ad 4)), .ref ((ad 5)), .ref ((ad 6)), .ref ((ad 7))])), ((ad 2), .inl (cyI, 12, .inl (fun zj => nI ((va_up mk1 (n + i) (mk1 i)) zj)))), ((ad 3), .inl (cyI, 12, .inl (fun zj => nI (pt1 zj)))), ((ad 4), .inl (cyI, 72, .inl (fun zj => nI (ac zj)))), ((ad 5), .inl (cyI, 12, .inl far)), ((ad 6), .inl (cyI, 12, .inl (fun zj => nI (re zj)))), ((ad 7), .inl (cyI, 12, .inl (fun zj => nI (tr zj))))] zA zs H locs := hw
        refine lv_aload_n hC.1 hC.2.1 dX1_makeTwice_46 rfl (lv_at hl 0 rfl) ?_
        refine g_get hC hw hin1 0 rfl rfl 3 (by decide) lk15 rfl dX1_makeTwice_47 ?_
        refine lv_aload_n hC.1 hC.2.1 dX1_makeTwice_50 rfl (lv_at hl 0 rfl) ?_
        refine g_get hC hw hin1 0 rfl rfl 0 (by decide) lk30 rfl dX1_makeTwice_51 ?_
        refine lv_iload hC.1 hC.2.1 dX1_makeTwice_54 (lv_at hl 4 rfl) ?_
        refine n_iadd hC dX1_makeTwice_56 ?_
        refine lv_aload_n hC.1 hC.2.1 dX1_makeTwice_57 rfl (lv_at hl 0 rfl) ?_
        refine g_get hC hw hin1 0 rfl rfl 3 (by decide) lk15 rfl dX1_makeTwice_58 ?_
        refine lv_iload hC.1 hC.2.1 dX1_makeTwice_61 (lv_at hl 4 rfl) ?_
        refine g_ialdN hC hw 2 0 rfl rfl (by omega) (by first | decide | omega) dX1_makeTwice_63 ?_
        refine g_iastN hC hw 2 0 rfl rfl (by omega) (by first | decide | omega) dX1_makeTwice_64 (fun H locs hw => ?_)
        replace hw : Wd dC dI (tysA cyI cyJ cyZ cyS) [((ad 1), .inr (1, [.int (nI (n)), .int (L), .ref ((ad 2)), .ref ((ad 3)), .ref ((ad 4)), .ref ((ad 5)), .ref ((ad 6)), .ref ((ad 7))])), ((ad 2), .inl (cyI, 12, .inl (fun zj => nI ((va_up mk1 (n + i) (mk1 i)) zj)))), ((ad 3), .inl (cyI, 12, .inl (fun zj => nI ((va_up pt1 (n + i) (pt1 i)) zj)))), ((ad 4), .inl (cyI, 72, .inl (fun zj => nI (ac zj)))), ((ad 5), .inl (cyI, 12, .inl far)), ((ad 6), .inl (cyI, 12, .inl (fun zj => nI (re zj)))), ((ad 7), .inl (cyI, 12, .inl (fun zj => nI (tr zj))))] zA zs H locs := hw
        refine lv_iinc (v := nI (i + 1)) (lv' := [(4, .int (nI (i + 1))), (0, .ref ((ad 1))), (1, .int (nI (s1))), (2, .int (nI (n * 6))), (3, .int (nI (ac s1)))]) hC.1 hC.2.1 dX1_makeTwice_65 hl (k := 4) rfl (nI_inc i 1) (by decide) rfl (fun ls hl => ?_)
        refine lv_goto (tgt := 18) hC.1 hC.2.1 dX1_makeTwice_68 (by decide) ?_
        exact ih18 (i + 1) (va_up mk1 (n + i) (mk1 i)) (va_up pt1 (n + i) (pt1 i)) _ _ ls (by omega) (by omega) (by rw [hm, dbTo_1 mk (by omega)]) (by rw [hp, dbTo_1 pt (by omega)]) hw (lv_sub hl [1, 2, 3, 4, 0] rfl)
  exact K18 _ 0 mk pt _ _ ls (Nat.lt_succ_self _) (by omega) (by exact (dbTo_0 mk n).symm) (by exact (dbTo_0 pt n).symm) hw (lv_sub hl [3, 4, 2, 1, 0] rfl)

set_option maxHeartbeats 4000000 in
set_option maxRecDepth 100000 in
theorem c_X1_joinAll (l : Launch) (dC : Nat → ClassId) (dI : Nat → Nat → Nat) (cyI cyJ cyZ cyS : ClassId) (ad : Nat → Nat) (n : Nat) (L : Int32) (mk pt ac : Nat → Nat) (far : Nat → Int32) (re tr : Nat → Nat) (sA cA th ln sz : Nat) (cl : Nat → Int32) (i k : Nat) (hn : n ≤ 12) (hk : i + 2 * k ≤ 60) (hok : jsOk n cl i pt k) : CtV l yX1_joinAll wsX1_joinAll ({ frames := 2, cells := 0, slots := 0, locals := 44 } : Room) dC dI (tysA cyI cyJ cyZ cyS) [.ref ((ad 1)), .ref (sA), .int (nI (i)), .int (nI (k))] [((ad 1), .inr (1, [.int (nI (n)), .int (L), .ref ((ad 2)), .ref ((ad 3)), .ref ((ad 4)), .ref ((ad 5)), .ref ((ad 6)), .ref ((ad 7))])), ((ad 2), .inl (cyI, 12, .inl (fun zj => nI (mk zj)))), ((ad 3), .inl (cyI, 12, .inl (fun zj => nI (pt zj)))), ((ad 4), .inl (cyI, 72, .inl (fun zj => nI (ac zj)))), ((ad 5), .inl (cyI, 12, .inl far)), ((ad 6), .inl (cyI, 12, .inl (fun zj => nI (re zj)))), ((ad 7), .inl (cyI, 12, .inl (fun zj => nI (tr zj)))), (sA, .inr (3, [.int (nI (th)), .int (nI (ln)), .int (nI (sz)), .ref (cA)])), (cA, .inl (cyI, 60, .inl cl))] (S := Unit) (fun (u : Unit) => True) (fun (u : Unit) => [((ad 1), .inr (1, [.int (nI (n)), .int (L + nI k), .ref ((ad 2)), .ref ((ad 3)), .ref ((ad 4)), .ref ((ad 5)), .ref ((ad 6)), .ref ((ad 7))])), ((ad 2), .inl (cyI, 12, .inl (fun zj => nI (mk zj)))), ((ad 3), .inl (cyI, 12, .inl (fun zj => nI ((jsPt cl i pt k) zj)))), ((ad 4), .inl (cyI, 72, .inl (fun zj => nI ((jsAc cl i pt ac k) zj)))), ((ad 5), .inl (cyI, 12, .inl far)), ((ad 6), .inl (cyI, 12, .inl (fun zj => nI (re zj)))), ((ad 7), .inl (cyI, 12, .inl (fun zj => nI (tr zj)))), (sA, .inr (3, [.int (nI (th)), .int (nI (ln)), .int (nI (sz)), .ref (cA)])), (cA, .inl (cyI, 60, .inl cl))]) := by
  refine CtV.mk (cc := cX1_joinAll) (maxL := 5) (by decide) rfl (Nat.le_of_ble_eq_true rfl) ?_
  intro zp ze zs zm za zb zt zc zA zQ ls hC hw hl hret
  replace hC : CallFix zp zm zc cX1_joinAll 5 zs za wsX1_joinAll RX1 := hC
  replace hl : lv_has ls 5 [(0, .ref ((ad 1))), (1, .ref (sA)), (2, .int (nI (i))), (3, .int (nI (k)))] := hl
  have hin3 : ∀ w ∈ u_ws RX3 TX3 4, w ∈ wsX1_joinAll := by decide +kernel
  have lk47 : Cond.fieldLink RX1 47 (TX3 3).1 (TX3 3).2.1 (TX3 3).2.2.1 ∈ wsX1_joinAll := by decide +kernel
  refine lv_iconst (v := nI 0) hC.1 hC.2.1 dX1_joinAll_0 (by decide) ?_
  refine lv_istore (lv' := [(4, .int (nI (0))), (0, .ref ((ad 1))), (1, .ref (sA)), (2, .int (nI (i))), (3, .int (nI (k)))]) hC.1 hC.2.1 dX1_joinAll_1 hl (by decide) rfl (fun ls hl => ?_)
  have K3 : ∀ (zk : Nat), ∀ (m : Nat) (L1 : Int32) (pt1 : Nat → Nat) (ac1 : Nat → Nat) (H : Heap) (locs : List Loc) (ls : Array Slot), k - m < zk → (m ≤ k) → (L1 = L + nI m) → (pt1 = jsPt cl i pt m) → (ac1 = jsAc cl i pt ac m) → Wd dC dI (tysA cyI cyJ cyZ cyS) [((ad 1), .inr (1, [.int (nI (n)), .int (L1), .ref ((ad 2)), .ref ((ad 3)), .ref ((ad 4)), .ref ((ad 5)), .ref ((ad 6)), .ref ((ad 7))])), ((ad 2), .inl (cyI, 12, .inl (fun zj => nI (mk zj)))), ((ad 3), .inl (cyI, 12, .inl (fun zj => nI (pt1 zj)))), ((ad 4), .inl (cyI, 72, .inl (fun zj => nI (ac1 zj)))), ((ad 5), .inl (cyI, 12, .inl far)), ((ad 6), .inl (cyI, 12, .inl (fun zj => nI (re zj)))), ((ad 7), .inl (cyI, 12, .inl (fun zj => nI (tr zj)))), (sA, .inr (3, [.int (nI (th)), .int (nI (ln)), .int (nI (sz)), .ref (cA)])), (cA, .inl (cyI, 60, .inl cl))] zA zs H locs → lv_has ls 5 [(0, .ref ((ad 1))), (1, .ref (sA)), (2, .int (nI (i))), (3, .int (nI (k))), (4, .int (nI (m)))] → W zp l ze ({ frames := 2, cells := 0, slots := 0, locals := 44 } : Room) zs zm za zb zt zc H locs 0 0 zQ (F0 zm 3 ls []) := by
    intro zk
    induction zk with
    | zero => intro m L1 pt1 ac1 H locs ls h0; exact absurd h0 (Nat.not_lt_zero _)
    | succ zk ih3 =>
      intro m L1 pt1 ac1 H locs ls hmu hm hL hp ha hw hl
      refine lv_iload hC.1 hC.2.1 dX1_joinAll_3 (lv_at hl 4 rfl) ?_
      refine lv_iload_n hC.1 hC.2.1 dX1_joinAll_5 rfl (lv_at hl 3 rfl) ?_
      refine n_icmp_ge (tgt := 43) hC dX1_joinAll_6 (by decide) (by omega) (by omega) (fun c_6 => ?_) (fun c_6 => ?_)
      · skip
        obtain rfl : m = k := by omega
        subst hL
        subst hp
        subst ha
        exact hret _ _ _ ls  () dX1_joinAll_43 trivial hw
      · skip
        obtain ⟨o1, o2, o3, o4, o5, o6, o7⟩ := hok.at hn (j := m) (by omega)
        rw [← hp] at o6 o7
        refine lv_aload_n hC.1 hC.2.1 dX1_joinAll_9 rfl (lv_at hl 0 rfl) ?_
        refine lv_aload_n hC.1 hC.2.1 dX1_joinAll_10 rfl (lv_at hl 1 rfl) ?_
        refine g_get hC hw hin3 7 rfl rfl 3 (by decide) lk47 rfl dX1_joinAll_11 ?_
        refine lv_iload_n hC.1 hC.2.1 dX1_joinAll_14 rfl (lv_at hl 2 rfl) ?_
        refine lv_iconst (v := nI 2) hC.1 hC.2.1 dX1_joinAll_15 (by decide) ?_
        refine lv_iload hC.1 hC.2.1 dX1_joinAll_16 (lv_at hl 4 rfl) ?_
        refine n_imul hC dX1_joinAll_18 ?_
        refine n_iadd hC dX1_joinAll_19 ?_
        refine g_iald hC hw 8 0 rfl rfl (by omega) (by first | decide | omega) dX1_joinAll_20 ?_
        refine W.eq (g2 := F0 zm 21 ls [.int (nI (cN cl (i + (2 * m)))), .ref ((ad 1))]) (by rw [← o1]) ?_
        refine lv_aload_n hC.1 hC.2.1 dX1_joinAll_21 rfl (lv_at hl 1 rfl) ?_
        refine g_get hC hw hin3 7 rfl rfl 3 (by decide) lk47 rfl dX1_joinAll_22 ?_
        refine lv_iload_n hC.1 hC.2.1 dX1_joinAll_25 rfl (lv_at hl 2 rfl) ?_
        refine lv_iconst (v := nI 2) hC.1 hC.2.1 dX1_joinAll_26 (by decide) ?_
        refine lv_iload hC.1 hC.2.1 dX1_joinAll_27 (lv_at hl 4 rfl) ?_
        refine n_imul hC dX1_joinAll_29 ?_
        refine n_iadd hC dX1_joinAll_30 ?_
        refine lv_iconst (v := nI 1) hC.1 hC.2.1 dX1_joinAll_31 (by decide) ?_
        refine n_iadd hC dX1_joinAll_32 ?_
        refine g_iald hC hw 8 0 rfl rfl (by omega) (by first | decide | omega) dX1_joinAll_33 ?_
        refine W.eq (g2 := F0 zm 34 ls [.int (nI (cN cl (i + (2 * m) + 1))), .int (nI (cN cl (i + (2 * m)))), .ref ((ad 1))]) (by rw [← o2]) ?_
        refine W.ccV (wc := [((ad 1), .inr (1, [.int (nI (n)), .int (L1), .ref ((ad 2)), .ref ((ad 3)), .ref ((ad 4)), .ref ((ad 5)), .ref ((ad 6)), .ref ((ad 7))])), ((ad 2), .inl (cyI, 12, .inl (fun zj => nI (mk zj)))), ((ad 3), .inl (cyI, 12, .inl (fun zj => nI (pt1 zj)))), ((ad 4), .inl (cyI, 72, .inl (fun zj => nI (ac1 zj)))), ((ad 5), .inl (cyI, 12, .inl far)), ((ad 6), .inl (cyI, 12, .inl (fun zj => nI (re zj)))), ((ad 7), .inl (cyI, 12, .inl (fun zj => nI (tr zj))))]) (wr := [(sA, .inr (3, [.int (nI (th)), .int (nI (ln)), .int (nI (sz)), .ref (cA)])), (cA, .inl (cyI, 60, .inl cl))]) (ws1 := fun (u : Unit) => [((ad 1), .inr (1, [.int (nI (n)), .int (L1 + nI 1), .ref ((ad 2)), .ref ((ad 3)), .ref ((ad 4)), .ref ((ad 5)), .ref ((ad 6)), .ref ((ad 7))])), ((ad 2), .inl (cyI, 12, .inl (fun zj => nI (mk zj)))), ((ad 3), .inl (cyI, 12, .inl (fun zj => nI ((jPt pt1 (cN cl (i + (2 * m))) (cN cl (i + (2 * m) + 1))) zj)))), ((ad 4), .inl (cyI, 72, .inl (fun zj => nI ((jAc pt1 ac1 (cN cl (i + (2 * m))) (cN cl (i + (2 * m) + 1))) zj)))), ((ad 5), .inl (cyI, 12, .inl far)), ((ad 6), .inl (cyI, 12, .inl (fun zj => nI (re zj)))), ((ad 7), .inl (cyI, 12, .inl (fun zj => nI (tr zj))))]) (ws2 := fun (u : Unit) => [((ad 1), .inr (1, [.int (nI (n)), .int (L1 + nI 1), .ref ((ad 2)), .ref ((ad 3)), .ref ((ad 4)), .ref ((ad 5)), .ref ((ad 6)), .ref ((ad 7))])), ((ad 2), .inl (cyI, 12, .inl (fun zj => nI (mk zj)))), ((ad 3), .inl (cyI, 12, .inl (fun zj => nI ((jPt pt1 (cN cl (i + (2 * m))) (cN cl (i + (2 * m) + 1))) zj)))), ((ad 4), .inl (cyI, 72, .inl (fun zj => nI ((jAc pt1 ac1 (cN cl (i + (2 * m))) (cN cl (i + (2 * m) + 1))) zj)))), ((ad 5), .inl (cyI, 12, .inl far)), ((ad 6), .inl (cyI, 12, .inl (fun zj => nI (re zj)))), ((ad 7), .inl (cyI, 12, .inl (fun zj => nI (tr zj)))), (sA, .inr (3, [.int (nI (th)), .int (nI (ln)), .int (nI (sz)), .ref (cA)])), (cA, .inl (cyI, 60, .inl cl))]) hw [0, 1, 2, 3, 4, 5, 6] [7, 8] [2, 3, 4, 5, 6, 7, 8, 0, 1] rfl rfl (by decide) (by decide) (by decide) (fun _ => rfl) (Wd.runV (wc := [((ad 1), .inr (1, [.int (nI (n)), .int (L1), .ref ((ad 2)), .ref ((ad 3)), .ref ((ad 4)), .ref ((ad 5)), .ref ((ad 6)), .ref ((ad 7))])), ((ad 2), .inl (cyI, 12, .inl (fun zj => nI (mk zj)))), ((ad 3), .inl (cyI, 12, .inl (fun zj => nI (pt1 zj)))), ((ad 4), .inl (cyI, 72, .inl (fun zj => nI (ac1 zj)))), ((ad 5), .inl (cyI, 12, .inl far)), ((ad 6), .inl (cyI, 12, .inl (fun zj => nI (re zj)))), ((ad 7), .inl (cyI, 12, .inl (fun zj => nI (tr zj))))]) (rest := []) (As := [.int (nI (cN cl (i + (2 * m)))), .int (nI (cN cl (i + (2 * m) + 1)))]) hC hw [0, 1, 2, 3, 4, 5, 6] rfl (by decide) 0 rfl rfl (cwV 2 hC.2.2.2.2 gX1_joinAll_X1_join rfl rfl rfl (by decide +kernel) ⟨Nat.le_of_ble_eq_true rfl, Nat.le_of_ble_eq_true rfl⟩) (c_X1_join l dC dI cyI cyJ cyZ cyS ad n L1 mk pt1 ac1 far re tr (cN cl (i + (2 * m))) (cN cl (i + (2 * m) + 1)) (by first | assumption | omega) (by first | assumption | omega) (by first | assumption | omega) (by first | assumption | omega) _) rfl hl.1 rfl (Nat.le_of_ble_eq_true rfl) dX1_joinAll_34 ⟨Nat.zero_le _, Nat.zero_le _⟩) (fun u H locs hr_34 hw => ?_)
        replace hw : Wd dC dI (tysA cyI cyJ cyZ cyS) [((ad 1), .inr (1, [.int (nI (n)), .int (L1 + nI 1), .ref ((ad 2)), .ref ((ad 3)), .ref ((ad 4)), .ref ((ad 5)), .ref ((ad 6)), .ref ((ad 7))])), ((ad 2), .inl (cyI, 12, .inl (fun zj => nI (mk zj)))), ((ad 3), .inl (cyI, 12, .inl (fun zj => nI ((jPt pt1 (cN cl (i + (2 * m))) (cN cl (i + (2 * m) + 1))) zj)))), ((ad 4), .inl (cyI, 72, .inl (fun zj => nI ((jAc pt1 ac1 (cN cl (i + (2 * m))) (cN cl (i + (2 * m) + 1))) zj)))), ((ad 5), .inl (cyI, 12, .inl far)), ((ad 6), .inl (cyI, 12, .inl (fun zj => nI (re zj)))), ((ad 7), .inl (cyI, 12, .inl (fun zj => nI (tr zj)))), (sA, .inr (3, [.int (nI (th)), .int (nI (ln)), .int (nI (sz)), .ref (cA)])), (cA, .inl (cyI, 60, .inl cl))] zA zs H locs := hw
        refine lv_iinc (v := nI (m + 1)) (lv' := [(4, .int (nI (m + 1))), (0, .ref ((ad 1))), (1, .ref (sA)), (2, .int (nI (i))), (3, .int (nI (k)))]) hC.1 hC.2.1 dX1_joinAll_37 hl (k := 4) rfl (nI_inc m 1) (by decide) rfl (fun ls hl => ?_)
        refine lv_goto (tgt := 3) hC.1 hC.2.1 dX1_joinAll_40 (by decide) ?_
        exact ih3 (m + 1) (L1 + nI 1) (jPt pt1 (cN cl (i + (2 * m))) (cN cl (i + (2 * m) + 1))) (jAc pt1 ac1 (cN cl (i + (2 * m))) (cN cl (i + (2 * m) + 1))) _ _ ls (by omega) (by omega) (by rw [hL, Int32.add_assoc, nI_add]) (by rw [hp]; rfl) (by rw [hp, ha]; rfl) hw (lv_sub hl [1, 2, 3, 4, 0] rfl)
  exact K3 _ 0 L pt ac _ _ ls (Nat.lt_succ_self _) (by omega) (by rw [nI_0, Int32.add_zero]) (by rfl) (by rfl) hw (lv_sub hl [1, 2, 3, 4, 0] rfl)

set_option maxHeartbeats 4000000 in
set_option maxRecDepth 100000 in
theorem c_X1_refusalOfLines (l : Launch) (dC : Nat → ClassId) (dI : Nat → Nat → Nat) (cyI cyJ cyZ cyS : ClassId) (ad : Nat → Nat) (n : Nat) (L : Int32) (mk pt ac : Nat → Nat) (far : Nat → Int32) (re tr : Nat → Nat) (sA cA th ln sz : Nat) (cl : Nat → Int32) (i k : Nat) (hn : n ≤ 12) (hpt : ∀ p, p < n → pt p ≤ 6) (hk : i + 2 * k ≤ 60) : CtI l yX1_refusalOfLines wsX1_refusalOfLines ({ frames := 2, cells := 0, slots := 0, locals := 44 } : Room) dC dI (tysA cyI cyJ cyZ cyS) [.ref ((ad 1)), .ref (sA), .int (nI (i)), .int (nI (k))] [((ad 1), .inr (1, [.int (nI (n)), .int (L), .ref ((ad 2)), .ref ((ad 3)), .ref ((ad 4)), .ref ((ad 5)), .ref ((ad 6)), .ref ((ad 7))])), ((ad 2), .inl (cyI, 12, .inl (fun zj => nI (mk zj)))), ((ad 3), .inl (cyI, 12, .inl (fun zj => nI (pt zj)))), ((ad 4), .inl (cyI, 72, .inl (fun zj => nI (ac zj)))), ((ad 5), .inl (cyI, 12, .inl far)), ((ad 6), .inl (cyI, 12, .inl (fun zj => nI (re zj)))), ((ad 7), .inl (cyI, 12, .inl (fun zj => nI (tr zj)))), (sA, .inr (3, [.int (nI (th)), .int (nI (ln)), .int (nI (sz)), .ref (cA)])), (cA, .inl (cyI, 60, .inl cl))] (S := (Nat → Nat)) (fun (r : Int32) (u : (Nat → Nat)) => ((r = 0 ∧ jsOk n cl i pt k) ∨ (∃ m, m < k ∧ jsOk n cl i pt m ∧ r = rfu n (jsPt cl i pt m) (cl (i + 2 * m)) (cl (i + 2 * m + 1)) ∧ ¬ r = 0))) (fun (u : (Nat → Nat)) => [((ad 1), .inr (1, [.int (nI (n)), .int (L), .ref ((ad 2)), .ref ((ad 3)), .ref ((ad 4)), .ref ((ad 5)), .ref ((ad 6)), .ref ((ad 7))])), ((ad 2), .inl (cyI, 12, .inl (fun zj => nI (mk zj)))), ((ad 3), .inl (cyI, 12, .inl (fun zj => nI (pt zj)))), ((ad 4), .inl (cyI, 72, .inl (fun zj => nI (ac zj)))), ((ad 5), .inl (cyI, 12, .inl far)), ((ad 6), .inl (cyI, 12, .inl (fun zj => nI (re zj)))), ((ad 7), .inl (cyI, 12, .inl (fun zj => nI (u zj)))), (sA, .inr (3, [.int (nI (th)), .int (nI (ln)), .int (nI (sz)), .ref (cA)])), (cA, .inl (cyI, 60, .inl cl))]) := by
  refine CtI.mk (cc := cX1_refusalOfLines) (maxL := 8) (by decide) rfl (Nat.le_of_ble_eq_true rfl) ?_
  intro zp ze zs zm za zb zt zc zA zQ ls hC hw hl hret
  replace hC : CallFix zp zm zc cX1_refusalOfLines 8 zs za wsX1_refusalOfLines RX1 := hC
  replace hl : lv_has ls 8 [(0, .ref ((ad 1))), (1, .ref (sA)), (2, .int (nI (i))), (3, .int (nI (k)))] := hl
  have hin1 : ∀ w ∈ u_ws RX1 TX1 8, w ∈ wsX1_refusalOfLines := by decide +kernel
  have hin3 : ∀ w ∈ u_ws RX3 TX3 4, w ∈ wsX1_refusalOfLines := by decide +kernel
  have lk15 : Cond.fieldLink RX1 15 (TX1 3).1 (TX1 3).2.1 (TX1 3).2.2.1 ∈ wsX1_refusalOfLines := by decide +kernel
  have lk27 : Cond.fieldLink RX1 27 (TX1 7).1 (TX1 7).2.1 (TX1 7).2.2.1 ∈ wsX1_refusalOfLines := by decide +kernel
  have lk47 : Cond.fieldLink RX1 47 (TX3 3).1 (TX3 3).2.1 (TX3 3).2.2.1 ∈ wsX1_refusalOfLines := by decide +kernel
  refine lv_aload_n hC.1 hC.2.1 dX1_refusalOfLines_0 rfl (lv_at hl 0 rfl) ?_
  refine g_get hC hw hin1 0 rfl rfl 3 (by decide) lk15 rfl dX1_refusalOfLines_1 ?_
  refine lv_iconst (v := nI 0) hC.1 hC.2.1 dX1_refusalOfLines_4 (by decide) ?_
  refine lv_aload_n hC.1 hC.2.1 dX1_refusalOfLines_5 rfl (lv_at hl 0 rfl) ?_
  refine g_get hC hw hin1 0 rfl rfl 7 (by decide) lk27 rfl dX1_refusalOfLines_6 ?_
  refine lv_iconst (v := nI 0) hC.1 hC.2.1 dX1_refusalOfLines_9 (by decide) ?_
  refine lv_bipush (v := nI 12) hC.1 hC.2.1 dX1_refusalOfLines_10 (by decide) ?_
  refine g_copyN hC hw (by decide +kernel) (by decide +kernel) (by decide +kernel) (by decide +kernel) 2 6 0 rfl rfl rfl (by omega) (by omega) (by decide) (by decide) trivial (Nat.le_of_ble_eq_true rfl) (Nat.le_of_ble_eq_true rfl) hl.1 dX1_refusalOfLines_12 (fun H locs hw => ?_)
  replace hw : Wd dC dI (tysA cyI cyJ cyZ cyS) [((ad 1), .inr (1, [.int (nI (n)), .int (L), .ref ((ad 2)), .ref ((ad 3)), .ref ((ad 4)), .ref ((ad 5)), .ref ((ad 6)), .ref ((ad 7))])), ((ad 2), .inl (cyI, 12, .inl (fun zj => nI (mk zj)))), ((ad 3), .inl (cyI, 12, .inl (fun zj => nI (pt zj)))), ((ad 4), .inl (cyI, 72, .inl (fun zj => nI (ac zj)))), ((ad 5), .inl (cyI, 12, .inl far)), ((ad 6), .inl (cyI, 12, .inl (fun zj => nI (re zj)))), ((ad 7), .inl (cyI, 12, .inl (fun zj => nI ((va_cpy pt tr 0 0 12) zj)))), (sA, .inr (3, [.int (nI (th)), .int (nI (ln)), .int (nI (sz)), .ref (cA)])), (cA, .inl (cyI, 60, .inl cl))] zA zs H locs := hw
  refine lv_iconst (v := nI 0) hC.1 hC.2.1 dX1_refusalOfLines_15 (by decide) ?_
  refine lv_istore (lv' := [(4, .int (nI (0))), (0, .ref ((ad 1))), (1, .ref (sA)), (2, .int (nI (i))), (3, .int (nI (k)))]) hC.1 hC.2.1 dX1_refusalOfLines_16 hl (by decide) rfl (fun ls hl => ?_)
  have K18 : ∀ (zk : Nat), ∀ (m : Nat) (t1 : Nat → Nat) (H : Heap) (locs : List Loc) (ls : Array Slot), k - m < zk → (m ≤ k) → (∀ p, p < 12 → t1 p = jsPt cl i pt m p) → (∀ p, p < n → t1 p ≤ 6) → (jsOk n cl i pt m) → Wd dC dI (tysA cyI cyJ cyZ cyS) [((ad 1), .inr (1, [.int (nI (n)), .int (L), .ref ((ad 2)), .ref ((ad 3)), .ref ((ad 4)), .ref ((ad 5)), .ref ((ad 6)), .ref ((ad 7))])), ((ad 2), .inl (cyI, 12, .inl (fun zj => nI (mk zj)))), ((ad 3), .inl (cyI, 12, .inl (fun zj => nI (pt zj)))), ((ad 4), .inl (cyI, 72, .inl (fun zj => nI (ac zj)))), ((ad 5), .inl (cyI, 12, .inl far)), ((ad 6), .inl (cyI, 12, .inl (fun zj => nI (re zj)))), ((ad 7), .inl (cyI, 12, .inl (fun zj => nI (t1 zj)))), (sA, .inr (3, [.int (nI (th)), .int (nI (ln)), .int (nI (sz)), .ref (cA)])), (cA, .inl (cyI, 60, .inl cl))] zA zs H locs → lv_has ls 8 [(0, .ref ((ad 1))), (1, .ref (sA)), (2, .int (nI (i))), (3, .int (nI (k))), (4, .int (nI (m)))] → W zp l ze ({ frames := 2, cells := 0, slots := 0, locals := 44 } : Room) zs zm za zb zt zc H locs 0 0 zQ (F0 zm 18 ls []) := by
    intro zk
    induction zk with
    | zero => intro m t1 H locs ls h0; exact absurd h0 (Nat.not_lt_zero _)
    | succ zk ih18 =>
      intro m t1 H locs ls hmu hm ht ht6 hok hw hl
      refine lv_iload hC.1 hC.2.1 dX1_refusalOfLines_18 (lv_at hl 4 rfl) ?_
      refine lv_iload_n hC.1 hC.2.1 dX1_refusalOfLines_20 rfl (lv_at hl 3 rfl) ?_
      refine n_icmp_ge (tgt := 102) hC dX1_refusalOfLines_21 (by decide) (by omega) (by omega) (fun c_21 => ?_) (fun c_21 => ?_)
      · skip
        refine lv_iconst (v := nI 0) hC.1 hC.2.1 dX1_refusalOfLines_102 (by decide) ?_
        exact hret _ _ _ ls (nI (0)) t1 dX1_refusalOfLines_103 rfl (by (try dsimp only); exact Or.inl ⟨rfl, hok.le (by omega)⟩) hw
      · skip
        refine lv_aload_n hC.1 hC.2.1 dX1_refusalOfLines_24 rfl (lv_at hl 1 rfl) ?_
        refine g_get hC hw hin3 7 rfl rfl 3 (by decide) lk47 rfl dX1_refusalOfLines_25 ?_
        refine lv_iload_n hC.1 hC.2.1 dX1_refusalOfLines_28 rfl (lv_at hl 2 rfl) ?_
        refine lv_iconst (v := nI 2) hC.1 hC.2.1 dX1_refusalOfLines_29 (by decide) ?_
        refine lv_iload hC.1 hC.2.1 dX1_refusalOfLines_30 (lv_at hl 4 rfl) ?_
        refine n_imul hC dX1_refusalOfLines_32 ?_
        refine n_iadd hC dX1_refusalOfLines_33 ?_
        refine g_iald hC hw 8 0 rfl rfl (by omega) (by first | decide | omega) dX1_refusalOfLines_34 ?_
        refine lv_istore (lv' := [(5, .int (cl (i + (2 * m)))), (0, .ref ((ad 1))), (1, .ref (sA)), (2, .int (nI (i))), (3, .int (nI (k))), (4, .int (nI (m)))]) hC.1 hC.2.1 dX1_refusalOfLines_35 hl (by decide) rfl (fun ls hl => ?_)
        refine lv_aload_n hC.1 hC.2.1 dX1_refusalOfLines_37 rfl (lv_at hl 2 rfl) ?_
        refine g_get hC hw hin3 7 rfl rfl 3 (by decide) lk47 rfl dX1_refusalOfLines_38 ?_
        refine lv_iload_n hC.1 hC.2.1 dX1_refusalOfLines_41 rfl (lv_at hl 3 rfl) ?_
        refine lv_iconst (v := nI 2) hC.1 hC.2.1 dX1_refusalOfLines_42 (by decide) ?_
        refine lv_iload hC.1 hC.2.1 dX1_refusalOfLines_43 (lv_at hl 5 rfl) ?_
        refine n_imul hC dX1_refusalOfLines_45 ?_
        refine n_iadd hC dX1_refusalOfLines_46 ?_
        refine lv_iconst (v := nI 1) hC.1 hC.2.1 dX1_refusalOfLines_47 (by decide) ?_
        refine n_iadd hC dX1_refusalOfLines_48 ?_
        refine g_iald hC hw 8 0 rfl rfl (by omega) (by first | decide | omega) dX1_refusalOfLines_49 ?_
        refine lv_istore (lv' := [(6, .int (cl ((i + (2 * m)) + 1))), (5, .int (cl (i + (2 * m)))), (0, .ref ((ad 1))), (1, .ref (sA)), (2, .int (nI (i))), (3, .int (nI (k))), (4, .int (nI (m)))]) hC.1 hC.2.1 dX1_refusalOfLines_50 hl (by decide) rfl (fun ls hl => ?_)
        refine lv_aload_n hC.1 hC.2.1 dX1_refusalOfLines_52 rfl (lv_at hl 2 rfl) ?_
        refine lv_iload hC.1 hC.2.1 dX1_refusalOfLines_53 (lv_at hl 1 rfl) ?_
        refine lv_iload hC.1 hC.2.1 dX1_refusalOfLines_55 (lv_at hl 0 rfl) ?_
        refine lv_aload_n hC.1 hC.2.1 dX1_refusalOfLines_57 rfl (lv_at hl 2 rfl) ?_
        refine g_get hC hw hin1 0 rfl rfl 7 (by decide) lk27 rfl dX1_refusalOfLines_58 ?_
        refine W.ccI (wc := [((ad 1), .inr (1, [.int (nI (n)), .int (L), .ref ((ad 2)), .ref ((ad 3)), .ref ((ad 4)), .ref ((ad 5)), .ref ((ad 6)), .ref ((ad 7))])), ((ad 2), .inl (cyI, 12, .inl (fun zj => nI (mk zj)))), ((ad 3), .inl (cyI, 12, .inl (fun zj => nI (pt zj)))), ((ad 4), .inl (cyI, 72, .inl (fun zj => nI (ac zj)))), ((ad 5), .inl (cyI, 12, .inl far)), ((ad 6), .inl (cyI, 12, .inl (fun zj => nI (re zj)))), ((ad 7), .inl (cyI, 12, .inl (fun zj => nI (t1 zj))))]) (wr := [(sA, .inr (3, [.int (nI (th)), .int (nI (ln)), .int (nI (sz)), .ref (cA)])), (cA, .inl (cyI, 60, .inl cl))]) (ws1 := fun (u : Unit) => [((ad 1), .inr (1, [.int (nI (n)), .int (L), .ref ((ad 2)), .ref ((ad 3)), .ref ((ad 4)), .ref ((ad 5)), .ref ((ad 6)), .ref ((ad 7))])), ((ad 2), .inl (cyI, 12, .inl (fun zj => nI (mk zj)))), ((ad 3), .inl (cyI, 12, .inl (fun zj => nI (pt zj)))), ((ad 4), .inl (cyI, 72, .inl (fun zj => nI (ac zj)))), ((ad 5), .inl (cyI, 12, .inl far)), ((ad 6), .inl (cyI, 12, .inl (fun zj => nI (re zj)))), ((ad 7), .inl (cyI, 12, .inl (fun zj => nI (t1 zj))))]) (ws2 := fun (u : Unit) => [((ad 1), .inr (1, [.int (nI (n)), .int (L), .ref ((ad 2)), .ref ((ad 3)), .ref ((ad 4)), .ref ((ad 5)), .ref ((ad 6)), .ref ((ad 7))])), ((ad 2), .inl (cyI, 12, .inl (fun zj => nI (mk zj)))), ((ad 3), .inl (cyI, 12, .inl (fun zj => nI (pt zj)))), ((ad 4), .inl (cyI, 72, .inl (fun zj => nI (ac zj)))), ((ad 5), .inl (cyI, 12, .inl far)), ((ad 6), .inl (cyI, 12, .inl (fun zj => nI (re zj)))), ((ad 7), .inl (cyI, 12, .inl (fun zj => nI (t1 zj)))), (sA, .inr (3, [.int (nI (th)), .int (nI (ln)), .int (nI (sz)), .ref (cA)])), (cA, .inl (cyI, 60, .inl cl))]) hw [0, 1, 2, 3, 4, 5, 6] [7, 8] [2, 3, 4, 5, 6, 7, 8, 0, 1] rfl rfl (by decide) (by decide) (by decide) (fun _ => rfl) (Wd.runV (wc := [((ad 1), .inr (1, [.int (nI (n)), .int (L), .ref ((ad 2)), .ref ((ad 3)), .ref ((ad 4)), .ref ((ad 5)), .ref ((ad 6)), .ref ((ad 7))])), ((ad 2), .inl (cyI, 12, .inl (fun zj => nI (mk zj)))), ((ad 3), .inl (cyI, 12, .inl (fun zj => nI (pt zj)))), ((ad 4), .inl (cyI, 72, .inl (fun zj => nI (ac zj)))), ((ad 5), .inl (cyI, 12, .inl far)), ((ad 6), .inl (cyI, 12, .inl (fun zj => nI (re zj)))), ((ad 7), .inl (cyI, 12, .inl (fun zj => nI (t1 zj))))]) (rest := []) (As := [.int (cl (i + (2 * m))), .int (cl ((i + (2 * m)) + 1)), .ref ((ad 7))]) hC hw [0, 1, 2, 3, 4, 5, 6] rfl (by decide) 0 rfl rfl (cwV 3 hC.2.2.2.2 gX1_refusalOfLines_X1_refusalOfLine rfl rfl rfl (by decide +kernel) ⟨Nat.le_of_ble_eq_true rfl, Nat.le_of_ble_eq_true rfl⟩) (c_X1_refusalOfLine_t l dC dI cyI cyJ cyZ cyS ad n L mk pt ac far re t1 (by first | assumption | omega) (by first | assumption | omega) (cl (i + (2 * m))) (cl ((i + (2 * m)) + 1)) _) rfl hl.1 rfl (Nat.le_of_ble_eq_true rfl) dX1_refusalOfLines_61 ⟨Nat.zero_le _, Nat.zero_le _⟩) (fun r_61 u H locs hr_61 hw => ?_)
        replace hw : Wd dC dI (tysA cyI cyJ cyZ cyS) [((ad 1), .inr (1, [.int (nI (n)), .int (L), .ref ((ad 2)), .ref ((ad 3)), .ref ((ad 4)), .ref ((ad 5)), .ref ((ad 6)), .ref ((ad 7))])), ((ad 2), .inl (cyI, 12, .inl (fun zj => nI (mk zj)))), ((ad 3), .inl (cyI, 12, .inl (fun zj => nI (pt zj)))), ((ad 4), .inl (cyI, 72, .inl (fun zj => nI (ac zj)))), ((ad 5), .inl (cyI, 12, .inl far)), ((ad 6), .inl (cyI, 12, .inl (fun zj => nI (re zj)))), ((ad 7), .inl (cyI, 12, .inl (fun zj => nI (t1 zj)))), (sA, .inr (3, [.int (nI (th)), .int (nI (ln)), .int (nI (sz)), .ref (cA)])), (cA, .inl (cyI, 60, .inl cl))] zA zs H locs := hw
        subst hr_61
        refine lv_istore (lv' := [(7, .int (rfu n t1 (cl (i + (2 * m))) (cl ((i + (2 * m)) + 1)))), (6, .int (cl ((i + (2 * m)) + 1))), (5, .int (cl (i + (2 * m)))), (0, .ref ((ad 1))), (1, .ref (sA)), (2, .int (nI (i))), (3, .int (nI (k))), (4, .int (nI (m)))]) hC.1 hC.2.1 dX1_refusalOfLines_64 hl (by decide) rfl (fun ls hl => ?_)
        refine lv_iload hC.1 hC.2.1 dX1_refusalOfLines_66 (lv_at hl 0 rfl) ?_
        refine lv_if_eq (tgt := 74) hC.1 hC.2.1 dX1_refusalOfLines_68 (by decide) (fun c68 => ?_) (fun c68 => ?_)
        · skip
          have hc : rfu n t1 (cl (i + 2 * m)) (cl (i + 2 * m + 1)) = rfu n (jsPt cl i pt m) (cl (i + 2 * m)) (cl (i + 2 * m + 1)) := rfu_congr hn (fun p h => ht p (by omega))
          obtain ⟨a, b, e1, e2, ha, hb, hab, ha6, hb6⟩ := rfu_0 hn c68
          have hok9 := hok.succ (hc ▸ c68)
          replace hl : lv_has ls 8 [(6, .int (nI (b))), (5, .int (nI (a))), (0, .ref ((ad 1))), (1, .ref (sA)), (2, .int (nI (i))), (3, .int (nI (k))), (4, .int (nI (m)))] := by have h9 := lv_sub hl [1, 2, 3, 4, 5, 6, 7] rfl; rw [e1, e2] at h9; exact h9
          have ht9 : ∀ p, p < 12 → va_up (va_up t1 a (t1 a + 1)) b (va_up t1 a (t1 a + 1) b + 1) p = jsPt cl i pt (m + 1) p := by
            intro p h
            show _ = jPt (jsPt cl i pt m) (cN cl (i + 2 * m)) (cN cl (i + 2 * m + 1)) p
            rw [show cN cl (i + 2 * m) = a from (by unfold cN; rw [e1, nI_clamp (by omega)]), show cN cl (i + 2 * m + 1) = b from (by unfold cN; rw [e2, nI_clamp (by omega)])]
            unfold jPt
            simp only [va_up, ht p h, ht a (by omega), ht b (by omega)]
          have ht7 : ∀ p, p < n → va_up (va_up t1 a (t1 a + 1)) b (va_up t1 a (t1 a + 1) b + 1) p ≤ 6 := by
            intro p h
            have h8 := ht6 p h
            rw [va_up_ne _ _ (Ne.symm hab)]
            simp only [va_up]
            split
            · omega
            · split <;> omega
          refine lv_aload_n hC.1 hC.2.1 dX1_refusalOfLines_74 rfl (lv_at hl 2 rfl) ?_
          refine g_get hC hw hin1 0 rfl rfl 7 (by decide) lk27 rfl dX1_refusalOfLines_75 ?_
          refine lv_iload hC.1 hC.2.1 dX1_refusalOfLines_78 (lv_at hl 1 rfl) ?_
          refine lv_dup2_11 hC.1 hC.2.1 dX1_refusalOfLines_80 rfl rfl ?_
          refine g_ialdN hC hw 6 0 rfl rfl (by omega) (by first | decide | omega) dX1_refusalOfLines_81 ?_
          refine lv_iconst (v := nI 1) hC.1 hC.2.1 dX1_refusalOfLines_82 (by decide) ?_
          refine n_iadd hC dX1_refusalOfLines_83 ?_
          refine g_iastN hC hw 6 0 rfl rfl (by omega) (by first | decide | omega) dX1_refusalOfLines_84 (fun H locs hw => ?_)
          replace hw : Wd dC dI (tysA cyI cyJ cyZ cyS) [((ad 1), .inr (1, [.int (nI (n)), .int (L), .ref ((ad 2)), .ref ((ad 3)), .ref ((ad 4)), .ref ((ad 5)), .ref ((ad 6)), .ref ((ad 7))])), ((ad 2), .inl (cyI, 12, .inl (fun zj => nI (mk zj)))), ((ad 3), .inl (cyI, 12, .inl (fun zj => nI (pt zj)))), ((ad 4), .inl (cyI, 72, .inl (fun zj => nI (ac zj)))), ((ad 5), .inl (cyI, 12, .inl far)), ((ad 6), .inl (cyI, 12, .inl (fun zj => nI (re zj)))), ((ad 7), .inl (cyI, 12, .inl (fun zj => nI ((va_up t1 a ((t1 a) + 1)) zj)))), (sA, .inr (3, [.int (nI (th)), .int (nI (ln)), .int (nI (sz)), .ref (cA)])), (cA, .inl (cyI, 60, .inl cl))] zA zs H locs := hw
          refine lv_aload_n hC.1 hC.2.1 dX1_refusalOfLines_85 rfl (lv_at hl 2 rfl) ?_
          refine g_get hC hw hin1 0 rfl rfl 7 (by decide) lk27 rfl dX1_refusalOfLines_86 ?_
          refine lv_iload hC.1 hC.2.1 dX1_refusalOfLines_89 (lv_at hl 0 rfl) ?_
          refine lv_dup2_11 hC.1 hC.2.1 dX1_refusalOfLines_91 rfl rfl ?_
          refine g_ialdN hC hw 6 0 rfl rfl (by omega) (by first | decide | omega) dX1_refusalOfLines_92 ?_
          refine lv_iconst (v := nI 1) hC.1 hC.2.1 dX1_refusalOfLines_93 (by decide) ?_
          refine n_iadd hC dX1_refusalOfLines_94 ?_
          refine g_iastN hC hw 6 0 rfl rfl (by omega) (by first | decide | omega) dX1_refusalOfLines_95 (fun H locs hw => ?_)
          replace hw : Wd dC dI (tysA cyI cyJ cyZ cyS) [((ad 1), .inr (1, [.int (nI (n)), .int (L), .ref ((ad 2)), .ref ((ad 3)), .ref ((ad 4)), .ref ((ad 5)), .ref ((ad 6)), .ref ((ad 7))])), ((ad 2), .inl (cyI, 12, .inl (fun zj => nI (mk zj)))), ((ad 3), .inl (cyI, 12, .inl (fun zj => nI (pt zj)))), ((ad 4), .inl (cyI, 72, .inl (fun zj => nI (ac zj)))), ((ad 5), .inl (cyI, 12, .inl far)), ((ad 6), .inl (cyI, 12, .inl (fun zj => nI (re zj)))), ((ad 7), .inl (cyI, 12, .inl (fun zj => nI ((va_up (va_up t1 a ((t1 a) + 1)) b (((va_up t1 a ((t1 a) + 1)) b) + 1)) zj)))), (sA, .inr (3, [.int (nI (th)), .int (nI (ln)), .int (nI (sz)), .ref (cA)])), (cA, .inl (cyI, 60, .inl cl))] zA zs H locs := hw
          refine lv_iinc (v := nI (m + 1)) (lv' := [(4, .int (nI (m + 1))), (6, .int (nI (b))), (5, .int (nI (a))), (0, .ref ((ad 1))), (1, .ref (sA)), (2, .int (nI (i))), (3, .int (nI (k)))]) hC.1 hC.2.1 dX1_refusalOfLines_96 hl (k := 6) rfl (nI_inc m 1) (by decide) rfl (fun ls hl => ?_)
          refine lv_goto (tgt := 18) hC.1 hC.2.1 dX1_refusalOfLines_99 (by decide) ?_
          exact ih18 (m + 1) (va_up (va_up t1 a ((t1 a) + 1)) b (((va_up t1 a ((t1 a) + 1)) b) + 1)) _ _ ls (by omega) (by omega) (by exact ht9) (by exact ht7) (by exact hok9) hw (lv_sub hl [3, 4, 5, 6, 0] rfl)
        · skip
          refine lv_iload hC.1 hC.2.1 dX1_refusalOfLines_71 (lv_at hl 0 rfl) ?_
          exact hret _ _ _ ls (rfu n t1 (cl (i + (2 * m))) (cl ((i + (2 * m)) + 1))) t1 dX1_refusalOfLines_73 rfl (by (try dsimp only); exact Or.inr ⟨m, by omega, hok, rfu_congr hn (fun p h => ht p (by omega)), c68⟩) hw
  exact K18 _ 0 (va_cpy pt tr 0 0 12) _ _ ls (Nat.lt_succ_self _) (by omega) (by intro p h; show va_cpy pt tr 0 0 12 p = pt p; simp [va_cpy, h]) (by intro p h; show va_cpy pt tr 0 0 12 p ≤ 6; rw [show va_cpy pt tr 0 0 12 p = pt p from (by simp [va_cpy, show p < 12 by omega])]; exact hpt p h) (by intro j h; omega) hw (lv_sub hl [1, 2, 3, 4, 0] rfl)
