set_option maxHeartbeats 4000000 in
set_option maxRecDepth 100000 in
theorem c_X5_reach_ (l : Launch) (dC : Nat → ClassId) (dI : Nat → Nat → Nat) (cyI cyJ cyZ cyS : ClassId) (ad : Nat → Nat) (ft : Int32) (n : Nat) (L : Int32) (fl rk : Nat) (rs : Int32) (dr : Int64) (wo : Nat) (tc : Int32) (mk : Nat → Nat) (pt : Nat → Nat) (tp : Nat → Nat) (tj : Nat → Nat) (fa : Nat → Int32) (ac : Nat → Nat) (hN : NOk n mk pt ac) (hNR : NR n pt ac tp tj) : CtI l yX5_reach wsX5_reach ({ frames := 0, cells := 0, slots := 0, locals := 0 } : Room) dC dI (tysA cyI cyJ cyZ cyS) [.ref ((ad 40))] [((ad 40), .inr (5, [.int (ft), .int (nI (n)), .int (L), .ref ((ad 41)), .ref ((ad 42)), .ref ((ad 43)), .ref ((ad 44)), .int (nI (fl)), .int (nI (rk)), .ref ((ad 45)), .ref ((ad 46)), .ref ((ad 47)), .int (rs), .ref ((ad 48)), .long (dr), .int (nI (wo)), .ref ((ad 49)), .ref ((ad 50)), .ref ((ad 51)), .ref ((ad 52)), .ref ((ad 53)), .ref ((ad 54)), .ref ((ad 55)), .ref ((ad 56)), .ref ((ad 57)), .ref ((ad 58)), .int (tc)])), ((ad 41), .inl (cyI, 12, .inl (fun zj => nI (mk zj)))), ((ad 42), .inl (cyI, 12, .inl (fun zj => nI (pt zj)))), ((ad 43), .inl (cyI, 72, .inl (fun zj => nI (tp zj)))), ((ad 44), .inl (cyI, 72, .inl (fun zj => nI (tj zj)))), ((ad 45), .inl (cyI, 12, .inl fa))] (S := (Nat → Int32)) (fun (r : Int32) (u : (Nat → Int32)) => (r = nI (cntR u n)) ∧ (RI n pt ac u n)) (fun (u : (Nat → Int32)) => [((ad 40), .inr (5, [.int (ft), .int (nI (n)), .int (L), .ref ((ad 41)), .ref ((ad 42)), .ref ((ad 43)), .ref ((ad 44)), .int (nI (fl)), .int (nI (rk)), .ref ((ad 45)), .ref ((ad 46)), .ref ((ad 47)), .int (rs), .ref ((ad 48)), .long (dr), .int (nI (wo)), .ref ((ad 49)), .ref ((ad 50)), .ref ((ad 51)), .ref ((ad 52)), .ref ((ad 53)), .ref ((ad 54)), .ref ((ad 55)), .ref ((ad 56)), .ref ((ad 57)), .ref ((ad 58)), .int (tc)])), ((ad 41), .inl (cyI, 12, .inl (fun zj => nI (mk zj)))), ((ad 42), .inl (cyI, 12, .inl (fun zj => nI (pt zj)))), ((ad 43), .inl (cyI, 72, .inl (fun zj => nI (tp zj)))), ((ad 44), .inl (cyI, 72, .inl (fun zj => nI (tj zj)))), ((ad 45), .inl (cyI, 12, .inl u))]) := by
  refine CtI.mk (cc := cX5_reach) (maxL := 6) (by decide) rfl (Nat.le_of_ble_eq_true rfl) ?_
  intro zp ze zs zm za zb zt zc zA zQ ls hC hw hl hret
  replace hC : CallFix zp zm zc cX5_reach 6 zs za wsX5_reach RX5 := hC
  replace hl : lv_has ls 6 [(0, .ref ((ad 40)))] := hl
  have hin5 : ∀ w ∈ u_ws RX5 TX5 27, w ∈ wsX5_reach := fun w h => List.mem_cons_of_mem _ (List.mem_append_right _ h)
  have lk13 : Cond.fieldLink RX5 13 (TX5 4).1 (TX5 4).2.1 (TX5 4).2.2.1 ∈ wsX5_reach := List.mem_of_getElem? (i := 3) rfl
  have lk16 : Cond.fieldLink RX5 16 (TX5 5).1 (TX5 5).2.1 (TX5 5).2.2.1 ∈ wsX5_reach := List.mem_of_getElem? (i := 4) rfl
  have lk22 : Cond.fieldLink RX5 22 (TX5 9).1 (TX5 9).2.1 (TX5 9).2.2.1 ∈ wsX5_reach := List.mem_of_getElem? (i := 2) rfl
  have lk74 : Cond.fieldLink RX5 74 (TX5 1).1 (TX5 1).2.1 (TX5 1).2.2.1 ∈ wsX5_reach := List.mem_of_getElem? (i := 1) rfl
  have hn := hN.n12
  refine lv_iconst (v := nI 0) hC.1 hC.2.1 dX5_reach_0 (by decide) ?_
  refine lv_istore_n (lv' := [(1, .int (nI (0))), (0, .ref ((ad 40)))]) hC.1 hC.2.1 dX5_reach_1 rfl hl (by decide) rfl (fun ls hl => ?_)
  have K2 : ∀ (zk : Nat), ∀ (i : Nat) (fz : Nat → Int32) (H : Heap) (locs : List Loc) (ls : Array Slot), n - i < zk → (i ≤ n) → (∀ j, j < i → fz j = if j = 0 then nI 0 else -9) → Wd dC dI (tysA cyI cyJ cyZ cyS) [((ad 40), .inr (5, [.int (ft), .int (nI (n)), .int (L), .ref ((ad 41)), .ref ((ad 42)), .ref ((ad 43)), .ref ((ad 44)), .int (nI (fl)), .int (nI (rk)), .ref ((ad 45)), .ref ((ad 46)), .ref ((ad 47)), .int (rs), .ref ((ad 48)), .long (dr), .int (nI (wo)), .ref ((ad 49)), .ref ((ad 50)), .ref ((ad 51)), .ref ((ad 52)), .ref ((ad 53)), .ref ((ad 54)), .ref ((ad 55)), .ref ((ad 56)), .ref ((ad 57)), .ref ((ad 58)), .int (tc)])), ((ad 41), .inl (cyI, 12, .inl (fun zj => nI (mk zj)))), ((ad 42), .inl (cyI, 12, .inl (fun zj => nI (pt zj)))), ((ad 43), .inl (cyI, 72, .inl (fun zj => nI (tp zj)))), ((ad 44), .inl (cyI, 72, .inl (fun zj => nI (tj zj)))), ((ad 45), .inl (cyI, 12, .inl fz))] zA zs H locs → lv_has ls 6 [(0, .ref ((ad 40))), (1, .int (nI (i)))] → W zp l ze ({ frames := 0, cells := 0, slots := 0, locals := 0 } : Room) zs zm za zb zt zc H locs 0 0 zQ (F0 zm 2 ls []) := by
    intro zk
    induction zk with
    | zero => intro i fz H locs ls h0; exact absurd h0 (Nat.not_lt_zero _)
    | succ zk ih2 =>
      intro i fz H locs ls hmu hi hz hw hl
      refine lv_iload_n hC.1 hC.2.1 dX5_reach_2 rfl (lv_at hl 1 rfl) ?_
      refine lv_aload_n hC.1 hC.2.1 dX5_reach_3 rfl (lv_at hl 0 rfl) ?_
      refine g_get hC hw hin5 0 rfl rfl 1 (by decide) lk74 rfl dX5_reach_4 ?_
      refine n_icmp_ge (tgt := 32) hC dX5_reach_7 (by decide) (by omega) (by omega) (fun c_7 => ?_) (fun c_7 => ?_)
      · skip
        obtain rfl : n = i := by omega
        refine lv_aload_n hC.1 hC.2.1 dX5_reach_32 rfl (lv_at hl 0 rfl) ?_
        refine g_get hC hw hin5 0 rfl rfl 1 (by decide) lk74 rfl dX5_reach_33 ?_
        refine n_if_le (tgt := 43) hC dX5_reach_36 (by decide) (by omega) (fun c_36 => ?_) (fun c_36 => ?_)
        · skip
          refine lv_iconst (v := nI 0) hC.1 hC.2.1 dX5_reach_43 (by decide) ?_
          refine lv_istore_n (lv' := [(1, .int (nI (0))), (0, .ref ((ad 40)))]) hC.1 hC.2.1 dX5_reach_44 rfl hl (by decide) rfl (fun ls hl => ?_)
          refine lv_iconst (v := nI 0) hC.1 hC.2.1 dX5_reach_45 (by decide) ?_
          refine lv_istore_n (lv' := [(2, .int (nI (0))), (1, .int (nI (0))), (0, .ref ((ad 40)))]) hC.1 hC.2.1 dX5_reach_46 rfl hl (by decide) rfl (fun ls hl => ?_)
          have K47 : ∀ (zk : Nat), ∀ (c : Nat) (d : Nat) (f1 : Nat → Int32) (H : Heap) (locs : List Loc) (ls : Array Slot), n - d < zk → (d ≤ n) → (RI n pt ac f1 d) → (c = cntR f1 n) → Wd dC dI (tysA cyI cyJ cyZ cyS) [((ad 40), .inr (5, [.int (ft), .int (nI (n)), .int (L), .ref ((ad 41)), .ref ((ad 42)), .ref ((ad 43)), .ref ((ad 44)), .int (nI (fl)), .int (nI (rk)), .ref ((ad 45)), .ref ((ad 46)), .ref ((ad 47)), .int (rs), .ref ((ad 48)), .long (dr), .int (nI (wo)), .ref ((ad 49)), .ref ((ad 50)), .ref ((ad 51)), .ref ((ad 52)), .ref ((ad 53)), .ref ((ad 54)), .ref ((ad 55)), .ref ((ad 56)), .ref ((ad 57)), .ref ((ad 58)), .int (tc)])), ((ad 41), .inl (cyI, 12, .inl (fun zj => nI (mk zj)))), ((ad 42), .inl (cyI, 12, .inl (fun zj => nI (pt zj)))), ((ad 43), .inl (cyI, 72, .inl (fun zj => nI (tp zj)))), ((ad 44), .inl (cyI, 72, .inl (fun zj => nI (tj zj)))), ((ad 45), .inl (cyI, 12, .inl f1))] zA zs H locs → lv_has ls 6 [(0, .ref ((ad 40))), (1, .int (nI (c))), (2, .int (nI (d)))] → W zp l ze ({ frames := 0, cells := 0, slots := 0, locals := 0 } : Room) zs zm za zb zt zc H locs 0 0 zQ (F0 zm 47 ls []) := by
            intro zk
            induction zk with
            | zero => intro c d f1 H locs ls h0; exact absurd h0 (Nat.not_lt_zero _)
            | succ zk ih47 =>
              intro c d f1 H locs ls hmu hd hR hc hw hl
              refine lv_iload_n hC.1 hC.2.1 dX5_reach_47 rfl (lv_at hl 2 rfl) ?_
              refine lv_aload_n hC.1 hC.2.1 dX5_reach_48 rfl (lv_at hl 0 rfl) ?_
              refine g_get hC hw hin5 0 rfl rfl 1 (by decide) lk74 rfl dX5_reach_49 ?_
              refine n_icmp_ge (tgt := 169) hC dX5_reach_52 (by decide) (by omega) (by omega) (fun c_52 => ?_) (fun c_52 => ?_)
              · skip
                obtain rfl : n = d := by omega
                refine lv_iload_n hC.1 hC.2.1 dX5_reach_169 rfl (lv_at hl 1 rfl) ?_
                exact hret _ _ _ ls (nI (c)) f1 dX5_reach_170 rfl ⟨(by rw [hc]), (by (try dsimp only); exact hR)⟩ hw
              · skip
                refine lv_iconst (v := nI 0) hC.1 hC.2.1 dX5_reach_55 (by decide) ?_
                refine lv_istore_n (lv' := [(3, .int (nI (0))), (0, .ref ((ad 40))), (1, .int (nI (c))), (2, .int (nI (d)))]) hC.1 hC.2.1 dX5_reach_56 rfl hl (by decide) rfl (fun ls hl => ?_)
                have K57 : ∀ (zk : Nat), ∀ (c2 : Nat) (p : Nat) (f2 : Nat → Int32) (H : Heap) (locs : List Loc) (ls : Array Slot), n - p < zk → (p ≤ n) → (RJ n pt ac f1 f2 d p 0) → (c2 = cntR f2 n) → Wd dC dI (tysA cyI cyJ cyZ cyS) [((ad 40), .inr (5, [.int (ft), .int (nI (n)), .int (L), .ref ((ad 41)), .ref ((ad 42)), .ref ((ad 43)), .ref ((ad 44)), .int (nI (fl)), .int (nI (rk)), .ref ((ad 45)), .ref ((ad 46)), .ref ((ad 47)), .int (rs), .ref ((ad 48)), .long (dr), .int (nI (wo)), .ref ((ad 49)), .ref ((ad 50)), .ref ((ad 51)), .ref ((ad 52)), .ref ((ad 53)), .ref ((ad 54)), .ref ((ad 55)), .ref ((ad 56)), .ref ((ad 57)), .ref ((ad 58)), .int (tc)])), ((ad 41), .inl (cyI, 12, .inl (fun zj => nI (mk zj)))), ((ad 42), .inl (cyI, 12, .inl (fun zj => nI (pt zj)))), ((ad 43), .inl (cyI, 72, .inl (fun zj => nI (tp zj)))), ((ad 44), .inl (cyI, 72, .inl (fun zj => nI (tj zj)))), ((ad 45), .inl (cyI, 12, .inl f2))] zA zs H locs → lv_has ls 6 [(0, .ref ((ad 40))), (1, .int (nI (c2))), (2, .int (nI (d))), (3, .int (nI (p)))] → W zp l ze ({ frames := 0, cells := 0, slots := 0, locals := 0 } : Room) zs zm za zb zt zc H locs 0 0 zQ (F0 zm 57 ls []) := by
                  intro zk
                  induction zk with
                  | zero => intro c2 p f2 H locs ls h0; exact absurd h0 (Nat.not_lt_zero _)
                  | succ zk ih57 =>
                    intro c2 p f2 H locs ls hmu hp hJ hc2 hw hl
                    have hcl := cntR_le f2 n
                    refine lv_iload_n hC.1 hC.2.1 dX5_reach_57 rfl (lv_at hl 3 rfl) ?_
                    refine lv_aload_n hC.1 hC.2.1 dX5_reach_58 rfl (lv_at hl 0 rfl) ?_
                    refine g_get hC hw hin5 0 rfl rfl 1 (by decide) lk74 rfl dX5_reach_59 ?_
                    refine n_icmp_ge (tgt := 163) hC dX5_reach_62 (by decide) (by omega) (by omega) (fun c_62 => ?_) (fun c_62 => ?_)
                    · skip
                      obtain rfl : n = p := by omega
                      refine lv_iinc (v := nI (d + 1)) (lv' := [(2, .int (nI (d + 1))), (0, .ref ((ad 40))), (1, .int (nI (c2))), (3, .int (nI (n)))]) hC.1 hC.2.1 dX5_reach_163 hl (k := 2) rfl (nI_inc d 1) (by decide) rfl (fun ls hl => ?_)
                      refine lv_goto (tgt := 47) hC.1 hC.2.1 dX5_reach_166 (by decide) ?_
                      exact ih47 c2 (d + 1) f2 _ _ ls (by omega) (by omega) (by exact RJ.done (by omega) hR (show RJ n pt ac f1 f2 d n 0 from hJ)) (by exact hc2) hw (lv_sub hl [1, 2, 0] rfl)
                    · skip
                      refine lv_iconst (v := nI 0) hC.1 hC.2.1 dX5_reach_65 (by decide) ?_
                      refine lv_istore (lv' := [(4, .int (nI (0))), (0, .ref ((ad 40))), (1, .int (nI (c2))), (2, .int (nI (d))), (3, .int (nI (p)))]) hC.1 hC.2.1 dX5_reach_66 hl (by decide) rfl (fun ls hl => ?_)
                      have K68 : ∀ (zk : Nat), ∀ (c3 : Nat) (i : Nat) (f3 : Nat → Int32) (H : Heap) (locs : List Loc) (ls : Array Slot), pt p - i < zk → (i ≤ pt p) → (RJ n pt ac f1 f3 d p i) → (c3 = cntR f3 n) → Wd dC dI (tysA cyI cyJ cyZ cyS) [((ad 40), .inr (5, [.int (ft), .int (nI (n)), .int (L), .ref ((ad 41)), .ref ((ad 42)), .ref ((ad 43)), .ref ((ad 44)), .int (nI (fl)), .int (nI (rk)), .ref ((ad 45)), .ref ((ad 46)), .ref ((ad 47)), .int (rs), .ref ((ad 48)), .long (dr), .int (nI (wo)), .ref ((ad 49)), .ref ((ad 50)), .ref ((ad 51)), .ref ((ad 52)), .ref ((ad 53)), .ref ((ad 54)), .ref ((ad 55)), .ref ((ad 56)), .ref ((ad 57)), .ref ((ad 58)), .int (tc)])), ((ad 41), .inl (cyI, 12, .inl (fun zj => nI (mk zj)))), ((ad 42), .inl (cyI, 12, .inl (fun zj => nI (pt zj)))), ((ad 43), .inl (cyI, 72, .inl (fun zj => nI (tp zj)))), ((ad 44), .inl (cyI, 72, .inl (fun zj => nI (tj zj)))), ((ad 45), .inl (cyI, 12, .inl f3))] zA zs H locs → lv_has ls 6 [(0, .ref ((ad 40))), (1, .int (nI (c3))), (2, .int (nI (d))), (3, .int (nI (p))), (4, .int (nI (i)))] → W zp l ze ({ frames := 0, cells := 0, slots := 0, locals := 0 } : Room) zs zm za zb zt zc H locs 0 0 zQ (F0 zm 68 ls []) := by
                        intro zk
                        induction zk with
                        | zero => intro c3 i f3 H locs ls h0; exact absurd h0 (Nat.not_lt_zero _)
                        | succ zk ih68 =>
                          intro c3 i f3 H locs ls hmu hi hJ3 hc3 hw hl
                          have hcl3 := cntR_le f3 n
                          have hpp := hN.p6 (p := p) (by omega)
                          refine lv_aload_n hC.1 hC.2.1 dX5_reach_68 rfl (lv_at hl 0 rfl) ?_
                          refine g_get hC hw hin5 0 rfl rfl 9 (by decide) lk22 rfl dX5_reach_69 ?_
                          refine lv_iload_n hC.1 hC.2.1 dX5_reach_72 rfl (lv_at hl 3 rfl) ?_
                          refine g_iald hC hw 5 0 rfl rfl (by omega) (by first | decide | omega) dX5_reach_73 ?_
                          refine lv_iload_n hC.1 hC.2.1 dX5_reach_74 rfl (lv_at hl 2 rfl) ?_
                          refine lv_icmp_ne (tgt := 157) hC.1 hC.2.1 dX5_reach_75 (by decide) (fun c_75 => ?_) (fun c_75 => ?_)
                          · skip
                            refine lv_iinc (v := nI (p + 1)) (lv' := [(3, .int (nI (p + 1))), (0, .ref ((ad 40))), (1, .int (nI (c3))), (2, .int (nI (d))), (4, .int (nI (i)))]) hC.1 hC.2.1 dX5_reach_157 hl (k := 3) rfl (nI_inc p 1) (by decide) rfl (fun ls hl => ?_)
                            refine lv_goto (tgt := 57) hC.1 hC.2.1 dX5_reach_160 (by decide) ?_
                            exact ih57 c3 (p + 1) f3 _ _ ls (by omega) (by omega) (by exact hJ3.next (by omega) (by omega) (by first | exact Or.inl c_75 | exact Or.inr (by omega))) (by exact hc3) hw (lv_sub hl [1, 2, 3, 0] rfl)
                          · skip
                            refine lv_iload hC.1 hC.2.1 dX5_reach_78 (lv_at hl 4 rfl) ?_
                            refine lv_aload_n hC.1 hC.2.1 dX5_reach_80 rfl (lv_at hl 0 rfl) ?_
                            refine g_get hC hw hin5 0 rfl rfl 4 (by decide) lk13 rfl dX5_reach_81 ?_
                            refine lv_iload_n hC.1 hC.2.1 dX5_reach_84 rfl (lv_at hl 3 rfl) ?_
                            refine g_ialdN hC hw 2 0 rfl rfl (by omega) (by first | decide | omega) dX5_reach_85 ?_
                            refine n_icmp_ge (tgt := 157) hC dX5_reach_86 (by decide) (by omega) (by omega) (fun c_86 => ?_) (fun c_86 => ?_)
                            · skip
                              refine lv_iinc (v := nI (p + 1)) (lv' := [(3, .int (nI (p + 1))), (0, .ref ((ad 40))), (1, .int (nI (c3))), (2, .int (nI (d))), (4, .int (nI (i)))]) hC.1 hC.2.1 dX5_reach_157 hl (k := 3) rfl (nI_inc p 1) (by decide) rfl (fun ls hl => ?_)
                              refine lv_goto (tgt := 57) hC.1 hC.2.1 dX5_reach_160 (by decide) ?_
                              exact ih57 c3 (p + 1) f3 _ _ ls (by omega) (by omega) (by exact hJ3.next (by omega) (by omega) (by first | exact Or.inl c_75 | exact Or.inr (by omega))) (by exact hc3) hw (lv_sub hl [1, 2, 3, 0] rfl)
                            · skip
                              obtain ⟨t1, t2⟩ := hNR p i (by omega) (by omega)
                              obtain ⟨s1, -⟩ := hN.a (p := p) (i := i) (by omega) (by omega)
                              have u1 : ac (p * 6 + i) / 6 = tp (6 * p + i) := by omega
                              rw [u1] at s1
                              refine lv_aload_n hC.1 hC.2.1 dX5_reach_89 rfl (lv_at hl 0 rfl) ?_
                              refine g_get hC hw hin5 0 rfl rfl 5 (by decide) lk16 rfl dX5_reach_90 ?_
                              refine lv_bipush (v := nI 6) hC.1 hC.2.1 dX5_reach_93 (by decide) ?_
                              refine lv_iload_n hC.1 hC.2.1 dX5_reach_95 rfl (lv_at hl 3 rfl) ?_
                              refine n_imul hC dX5_reach_96 ?_
                              refine lv_iload hC.1 hC.2.1 dX5_reach_97 (lv_at hl 4 rfl) ?_
                              refine n_iadd hC dX5_reach_99 ?_
                              refine g_ialdN hC hw 3 0 rfl rfl (by omega) (by first | decide | omega) dX5_reach_100 ?_
                              refine lv_istore (lv' := [(5, .int (nI (tp ((6 * p) + i)))), (0, .ref ((ad 40))), (1, .int (nI (c3))), (2, .int (nI (d))), (3, .int (nI (p))), (4, .int (nI (i)))]) hC.1 hC.2.1 dX5_reach_101 hl (by decide) rfl (fun ls hl => ?_)
                              refine lv_iload_n hC.1 hC.2.1 dX5_reach_103 rfl (lv_at hl 2 rfl) ?_
                              refine lv_aload_n hC.1 hC.2.1 dX5_reach_104 rfl (lv_at hl 1 rfl) ?_
                              refine g_get hC hw hin5 0 rfl rfl 9 (by decide) lk22 rfl dX5_reach_105 ?_
                              refine lv_iload hC.1 hC.2.1 dX5_reach_108 (lv_at hl 0 rfl) ?_
                              refine g_iald hC hw 5 0 rfl rfl (by omega) (by first | decide | omega) dX5_reach_110 ?_
                              refine lv_if_ge (tgt := 118) hC.1 hC.2.1 dX5_reach_111 (by decide) (fun c_111 => ?_) (fun c_111 => ?_)
                              · skip
                                refine lv_iconst (v := nI 0) hC.1 hC.2.1 dX5_reach_118 (by decide) ?_
                                refine n_iadd hC dX5_reach_119 ?_
                                refine lv_istore_n (lv' := [(1, .int (nI (c3 + 0))), (5, .int (nI (tp ((6 * p) + i)))), (0, .ref ((ad 40))), (2, .int (nI (d))), (3, .int (nI (p))), (4, .int (nI (i)))]) hC.1 hC.2.1 dX5_reach_120 rfl hl (by decide) rfl (fun ls hl => ?_)
                                refine lv_aload_n hC.1 hC.2.1 dX5_reach_121 rfl (lv_at hl 2 rfl) ?_
                                refine g_get hC hw hin5 0 rfl rfl 9 (by decide) lk22 rfl dX5_reach_122 ?_
                                refine lv_iload hC.1 hC.2.1 dX5_reach_125 (lv_at hl 1 rfl) ?_
                                refine lv_aload_n hC.1 hC.2.1 dX5_reach_127 rfl (lv_at hl 2 rfl) ?_
                                refine g_get hC hw hin5 0 rfl rfl 9 (by decide) lk22 rfl dX5_reach_128 ?_
                                refine lv_iload hC.1 hC.2.1 dX5_reach_131 (lv_at hl 1 rfl) ?_
                                refine g_iald hC hw 5 0 rfl rfl (by omega) (by first | decide | omega) dX5_reach_133 ?_
                                refine lv_if_ge (tgt := 143) hC.1 hC.2.1 dX5_reach_134 (by decide) (fun c_134 => ?_) (fun c_134 => ?_)
                                · skip
                                  refine lv_aload_n hC.1 hC.2.1 dX5_reach_143 rfl (lv_at hl 2 rfl) ?_
                                  refine g_get hC hw hin5 0 rfl rfl 9 (by decide) lk22 rfl dX5_reach_144 ?_
                                  refine lv_iload hC.1 hC.2.1 dX5_reach_147 (lv_at hl 1 rfl) ?_
                                  refine g_iald hC hw 5 0 rfl rfl (by omega) (by first | decide | omega) dX5_reach_149 ?_
                                  refine g_iast hC hw 5 0 rfl rfl (by omega) (by first | decide | omega) dX5_reach_150 (fun H locs hw => ?_)
                                  replace hw : Wd dC dI (tysA cyI cyJ cyZ cyS) [((ad 40), .inr (5, [.int (ft), .int (nI (n)), .int (L), .ref ((ad 41)), .ref ((ad 42)), .ref ((ad 43)), .ref ((ad 44)), .int (nI (fl)), .int (nI (rk)), .ref ((ad 45)), .ref ((ad 46)), .ref ((ad 47)), .int (rs), .ref ((ad 48)), .long (dr), .int (nI (wo)), .ref ((ad 49)), .ref ((ad 50)), .ref ((ad 51)), .ref ((ad 52)), .ref ((ad 53)), .ref ((ad 54)), .ref ((ad 55)), .ref ((ad 56)), .ref ((ad 57)), .ref ((ad 58)), .int (tc)])), ((ad 41), .inl (cyI, 12, .inl (fun zj => nI (mk zj)))), ((ad 42), .inl (cyI, 12, .inl (fun zj => nI (pt zj)))), ((ad 43), .inl (cyI, 72, .inl (fun zj => nI (tp zj)))), ((ad 44), .inl (cyI, 72, .inl (fun zj => nI (tj zj)))), ((ad 45), .inl (cyI, 12, .inl (upd f3 (tp ((6 * p) + i)) (f3 (tp ((6 * p) + i))))))] zA zs H locs := hw
                                  refine lv_iinc (v := nI (i + 1)) (lv' := [(4, .int (nI (i + 1))), (1, .int (nI (c3 + 0))), (5, .int (nI (tp ((6 * p) + i)))), (0, .ref ((ad 40))), (2, .int (nI (d))), (3, .int (nI (p)))]) hC.1 hC.2.1 dX5_reach_151 hl (k := 5) rfl (nI_inc i 1) (by decide) rfl (fun ls hl => ?_)
                                  refine lv_goto (tgt := 68) hC.1 hC.2.1 dX5_reach_154 (by decide) ?_
                                  exact ih68 (c3 + 0) (i + 1) (upd f3 (tp ((6 * p) + i)) (f3 (tp ((6 * p) + i)))) _ _ ls (by omega) (by omega) (by first | (rw [upd_id]; exact hJ3.skip (by rw [u1]; exact (hJ3.ge hR (by omega) s1).mp c_111)) | (rw [← u1]; exact hJ3.take hR (by omega) (by omega) (by omega) c_75 (by rw [u1]; exact hq9)) | exact absurd c_134 c_111 | exact absurd c_111 c_134) (by first | (rw [upd_id]; exact hc3) | (rw [cntR_up hq9 (nI9 (by omega)), if_pos s1, hc3]; done) | exact absurd c_134 c_111 | exact absurd c_111 c_134) hw (lv_sub hl [3, 1, 4, 5, 0] rfl)
                                · skip
                                  refine lv_iload_n hC.1 hC.2.1 dX5_reach_137 rfl (lv_at hl 3 rfl) ?_
                                  refine lv_iconst (v := nI 1) hC.1 hC.2.1 dX5_reach_138 (by decide) ?_
                                  refine n_iadd hC dX5_reach_139 ?_
                                  refine lv_goto (tgt := 150) hC.1 hC.2.1 dX5_reach_140 (by decide) ?_
                                  refine g_iast hC hw 5 0 rfl rfl (by omega) (by first | decide | omega) dX5_reach_150 (fun H locs hw => ?_)
                                  replace hw : Wd dC dI (tysA cyI cyJ cyZ cyS) [((ad 40), .inr (5, [.int (ft), .int (nI (n)), .int (L), .ref ((ad 41)), .ref ((ad 42)), .ref ((ad 43)), .ref ((ad 44)), .int (nI (fl)), .int (nI (rk)), .ref ((ad 45)), .ref ((ad 46)), .ref ((ad 47)), .int (rs), .ref ((ad 48)), .long (dr), .int (nI (wo)), .ref ((ad 49)), .ref ((ad 50)), .ref ((ad 51)), .ref ((ad 52)), .ref ((ad 53)), .ref ((ad 54)), .ref ((ad 55)), .ref ((ad 56)), .ref ((ad 57)), .ref ((ad 58)), .int (tc)])), ((ad 41), .inl (cyI, 12, .inl (fun zj => nI (mk zj)))), ((ad 42), .inl (cyI, 12, .inl (fun zj => nI (pt zj)))), ((ad 43), .inl (cyI, 72, .inl (fun zj => nI (tp zj)))), ((ad 44), .inl (cyI, 72, .inl (fun zj => nI (tj zj)))), ((ad 45), .inl (cyI, 12, .inl (upd f3 (tp ((6 * p) + i)) (nI (d + 1)))))] zA zs H locs := hw
                                  refine lv_iinc (v := nI (i + 1)) (lv' := [(4, .int (nI (i + 1))), (1, .int (nI (c3 + 0))), (5, .int (nI (tp ((6 * p) + i)))), (0, .ref ((ad 40))), (2, .int (nI (d))), (3, .int (nI (p)))]) hC.1 hC.2.1 dX5_reach_151 hl (k := 5) rfl (nI_inc i 1) (by decide) rfl (fun ls hl => ?_)
                                  refine lv_goto (tgt := 68) hC.1 hC.2.1 dX5_reach_154 (by decide) ?_
                                  exact ih68 (c3 + 0) (i + 1) (upd f3 (tp ((6 * p) + i)) (nI (d + 1))) _ _ ls (by omega) (by omega) (by first | (rw [upd_id]; exact hJ3.skip (by rw [u1]; exact (hJ3.ge hR (by omega) s1).mp c_111)) | (rw [← u1]; exact hJ3.take hR (by omega) (by omega) (by omega) c_75 (by rw [u1]; exact hq9)) | exact absurd c_134 c_111 | exact absurd c_111 c_134) (by first | (rw [upd_id]; exact hc3) | (rw [cntR_up hq9 (nI9 (by omega)), if_pos s1, hc3]; done) | exact absurd c_134 c_111 | exact absurd c_111 c_134) hw (lv_sub hl [3, 1, 4, 5, 0] rfl)
                              · skip
                                have hq9 : f3 (tp (6 * p + i)) = -9 := by rcases Classical.em (f3 (tp (6 * p + i)) = -9) with z | z; exact z; exact absurd ((hJ3.ge hR (by omega) s1).mpr z) c_111
                                refine lv_iconst (v := nI 1) hC.1 hC.2.1 dX5_reach_114 (by decide) ?_
                                refine lv_goto (tgt := 119) hC.1 hC.2.1 dX5_reach_115 (by decide) ?_
                                refine n_iadd hC dX5_reach_119 ?_
                                refine lv_istore_n (lv' := [(1, .int (nI (c3 + 1))), (5, .int (nI (tp ((6 * p) + i)))), (0, .ref ((ad 40))), (2, .int (nI (d))), (3, .int (nI (p))), (4, .int (nI (i)))]) hC.1 hC.2.1 dX5_reach_120 rfl hl (by decide) rfl (fun ls hl => ?_)
                                refine lv_aload_n hC.1 hC.2.1 dX5_reach_121 rfl (lv_at hl 2 rfl) ?_
                                refine g_get hC hw hin5 0 rfl rfl 9 (by decide) lk22 rfl dX5_reach_122 ?_
                                refine lv_iload hC.1 hC.2.1 dX5_reach_125 (lv_at hl 1 rfl) ?_
                                refine lv_aload_n hC.1 hC.2.1 dX5_reach_127 rfl (lv_at hl 2 rfl) ?_
                                refine g_get hC hw hin5 0 rfl rfl 9 (by decide) lk22 rfl dX5_reach_128 ?_
                                refine lv_iload hC.1 hC.2.1 dX5_reach_131 (lv_at hl 1 rfl) ?_
                                refine g_iald hC hw 5 0 rfl rfl (by omega) (by first | decide | omega) dX5_reach_133 ?_
                                refine lv_if_ge (tgt := 143) hC.1 hC.2.1 dX5_reach_134 (by decide) (fun c_134 => ?_) (fun c_134 => ?_)
                                · skip
                                  refine lv_aload_n hC.1 hC.2.1 dX5_reach_143 rfl (lv_at hl 2 rfl) ?_
                                  refine g_get hC hw hin5 0 rfl rfl 9 (by decide) lk22 rfl dX5_reach_144 ?_
                                  refine lv_iload hC.1 hC.2.1 dX5_reach_147 (lv_at hl 1 rfl) ?_
                                  refine g_iald hC hw 5 0 rfl rfl (by omega) (by first | decide | omega) dX5_reach_149 ?_
                                  refine g_iast hC hw 5 0 rfl rfl (by omega) (by first | decide | omega) dX5_reach_150 (fun H locs hw => ?_)
                                  replace hw : Wd dC dI (tysA cyI cyJ cyZ cyS) [((ad 40), .inr (5, [.int (ft), .int (nI (n)), .int (L), .ref ((ad 41)), .ref ((ad 42)), .ref ((ad 43)), .ref ((ad 44)), .int (nI (fl)), .int (nI (rk)), .ref ((ad 45)), .ref ((ad 46)), .ref ((ad 47)), .int (rs), .ref ((ad 48)), .long (dr), .int (nI (wo)), .ref ((ad 49)), .ref ((ad 50)), .ref ((ad 51)), .ref ((ad 52)), .ref ((ad 53)), .ref ((ad 54)), .ref ((ad 55)), .ref ((ad 56)), .ref ((ad 57)), .ref ((ad 58)), .int (tc)])), ((ad 41), .inl (cyI, 12, .inl (fun zj => nI (mk zj)))), ((ad 42), .inl (cyI, 12, .inl (fun zj => nI (pt zj)))), ((ad 43), .inl (cyI, 72, .inl (fun zj => nI (tp zj)))), ((ad 44), .inl (cyI, 72, .inl (fun zj => nI (tj zj)))), ((ad 45), .inl (cyI, 12, .inl (upd f3 (tp ((6 * p) + i)) (f3 (tp ((6 * p) + i))))))] zA zs H locs := hw
                                  refine lv_iinc (v := nI (i + 1)) (lv' := [(4, .int (nI (i + 1))), (1, .int (nI (c3 + 1))), (5, .int (nI (tp ((6 * p) + i)))), (0, .ref ((ad 40))), (2, .int (nI (d))), (3, .int (nI (p)))]) hC.1 hC.2.1 dX5_reach_151 hl (k := 5) rfl (nI_inc i 1) (by decide) rfl (fun ls hl => ?_)
                                  refine lv_goto (tgt := 68) hC.1 hC.2.1 dX5_reach_154 (by decide) ?_
                                  exact ih68 (c3 + 1) (i + 1) (upd f3 (tp ((6 * p) + i)) (f3 (tp ((6 * p) + i)))) _ _ ls (by omega) (by omega) (by first | (rw [upd_id]; exact hJ3.skip (by rw [u1]; exact (hJ3.ge hR (by omega) s1).mp c_111)) | (rw [← u1]; exact hJ3.take hR (by omega) (by omega) (by omega) c_75 (by rw [u1]; exact hq9)) | exact absurd c_134 c_111 | exact absurd c_111 c_134) (by first | (rw [upd_id]; exact hc3) | (rw [cntR_up hq9 (nI9 (by omega)), if_pos s1, hc3]; done) | exact absurd c_134 c_111 | exact absurd c_111 c_134) hw (lv_sub hl [3, 1, 4, 5, 0] rfl)
                                · skip
                                  refine lv_iload_n hC.1 hC.2.1 dX5_reach_137 rfl (lv_at hl 3 rfl) ?_
                                  refine lv_iconst (v := nI 1) hC.1 hC.2.1 dX5_reach_138 (by decide) ?_
                                  refine n_iadd hC dX5_reach_139 ?_
                                  refine lv_goto (tgt := 150) hC.1 hC.2.1 dX5_reach_140 (by decide) ?_
                                  refine g_iast hC hw 5 0 rfl rfl (by omega) (by first | decide | omega) dX5_reach_150 (fun H locs hw => ?_)
                                  replace hw : Wd dC dI (tysA cyI cyJ cyZ cyS) [((ad 40), .inr (5, [.int (ft), .int (nI (n)), .int (L), .ref ((ad 41)), .ref ((ad 42)), .ref ((ad 43)), .ref ((ad 44)), .int (nI (fl)), .int (nI (rk)), .ref ((ad 45)), .ref ((ad 46)), .ref ((ad 47)), .int (rs), .ref ((ad 48)), .long (dr), .int (nI (wo)), .ref ((ad 49)), .ref ((ad 50)), .ref ((ad 51)), .ref ((ad 52)), .ref ((ad 53)), .ref ((ad 54)), .ref ((ad 55)), .ref ((ad 56)), .ref ((ad 57)), .ref ((ad 58)), .int (tc)])), ((ad 41), .inl (cyI, 12, .inl (fun zj => nI (mk zj)))), ((ad 42), .inl (cyI, 12, .inl (fun zj => nI (pt zj)))), ((ad 43), .inl (cyI, 72, .inl (fun zj => nI (tp zj)))), ((ad 44), .inl (cyI, 72, .inl (fun zj => nI (tj zj)))), ((ad 45), .inl (cyI, 12, .inl (upd f3 (tp ((6 * p) + i)) (nI (d + 1)))))] zA zs H locs := hw
                                  refine lv_iinc (v := nI (i + 1)) (lv' := [(4, .int (nI (i + 1))), (1, .int (nI (c3 + 1))), (5, .int (nI (tp ((6 * p) + i)))), (0, .ref ((ad 40))), (2, .int (nI (d))), (3, .int (nI (p)))]) hC.1 hC.2.1 dX5_reach_151 hl (k := 5) rfl (nI_inc i 1) (by decide) rfl (fun ls hl => ?_)
                                  refine lv_goto (tgt := 68) hC.1 hC.2.1 dX5_reach_154 (by decide) ?_
                                  exact ih68 (c3 + 1) (i + 1) (upd f3 (tp ((6 * p) + i)) (nI (d + 1))) _ _ ls (by omega) (by omega) (by first | (rw [upd_id]; exact hJ3.skip (by rw [u1]; exact (hJ3.ge hR (by omega) s1).mp c_111)) | (rw [← u1]; exact hJ3.take hR (by omega) (by omega) (by omega) c_75 (by rw [u1]; exact hq9)) | exact absurd c_134 c_111 | exact absurd c_111 c_134) (by first | (rw [upd_id]; exact hc3) | (rw [cntR_up hq9 (nI9 (by omega)), if_pos s1, hc3]; done) | exact absurd c_134 c_111 | exact absurd c_111 c_134) hw (lv_sub hl [3, 1, 4, 5, 0] rfl)
                      exact K68 _ c2 0 f2 _ _ ls (Nat.lt_succ_self _) (by omega) (by exact hJ) (by exact hc2) hw (lv_sub hl [1, 2, 3, 4, 0] rfl)
                exact K57 _ c 0 f1 _ _ ls (Nat.lt_succ_self _) (by omega) (by exact RJ.init) (by exact hc) hw (lv_sub hl [1, 2, 3, 0] rfl)
          exact K47 _ 0 0 fz _ _ ls (Nat.lt_succ_self _) (by omega) (by exact RI.init hz) (by rw [cntR_one hz]; first | (rw [if_pos (by omega)]; done) | (rw [if_neg (by omega)]; done)) hw (lv_sub hl [2, 1, 0] rfl)
        · skip
          refine lv_iconst (v := nI 1) hC.1 hC.2.1 dX5_reach_39 (by decide) ?_
          refine lv_goto (tgt := 44) hC.1 hC.2.1 dX5_reach_40 (by decide) ?_
          refine lv_istore_n (lv' := [(1, .int (nI (1))), (0, .ref ((ad 40)))]) hC.1 hC.2.1 dX5_reach_44 rfl hl (by decide) rfl (fun ls hl => ?_)
          refine lv_iconst (v := nI 0) hC.1 hC.2.1 dX5_reach_45 (by decide) ?_
          refine lv_istore_n (lv' := [(2, .int (nI (0))), (1, .int (nI (1))), (0, .ref ((ad 40)))]) hC.1 hC.2.1 dX5_reach_46 rfl hl (by decide) rfl (fun ls hl => ?_)
          have K47 : ∀ (zk : Nat), ∀ (c : Nat) (d : Nat) (f1 : Nat → Int32) (H : Heap) (locs : List Loc) (ls : Array Slot), n - d < zk → (d ≤ n) → (RI n pt ac f1 d) → (c = cntR f1 n) → Wd dC dI (tysA cyI cyJ cyZ cyS) [((ad 40), .inr (5, [.int (ft), .int (nI (n)), .int (L), .ref ((ad 41)), .ref ((ad 42)), .ref ((ad 43)), .ref ((ad 44)), .int (nI (fl)), .int (nI (rk)), .ref ((ad 45)), .ref ((ad 46)), .ref ((ad 47)), .int (rs), .ref ((ad 48)), .long (dr), .int (nI (wo)), .ref ((ad 49)), .ref ((ad 50)), .ref ((ad 51)), .ref ((ad 52)), .ref ((ad 53)), .ref ((ad 54)), .ref ((ad 55)), .ref ((ad 56)), .ref ((ad 57)), .ref ((ad 58)), .int (tc)])), ((ad 41), .inl (cyI, 12, .inl (fun zj => nI (mk zj)))), ((ad 42), .inl (cyI, 12, .inl (fun zj => nI (pt zj)))), ((ad 43), .inl (cyI, 72, .inl (fun zj => nI (tp zj)))), ((ad 44), .inl (cyI, 72, .inl (fun zj => nI (tj zj)))), ((ad 45), .inl (cyI, 12, .inl f1))] zA zs H locs → lv_has ls 6 [(0, .ref ((ad 40))), (1, .int (nI (c))), (2, .int (nI (d)))] → W zp l ze ({ frames := 0, cells := 0, slots := 0, locals := 0 } : Room) zs zm za zb zt zc H locs 0 0 zQ (F0 zm 47 ls []) := by
            intro zk
            induction zk with
            | zero => intro c d f1 H locs ls h0; exact absurd h0 (Nat.not_lt_zero _)
            | succ zk ih47 =>
              intro c d f1 H locs ls hmu hd hR hc hw hl
              refine lv_iload_n hC.1 hC.2.1 dX5_reach_47 rfl (lv_at hl 2 rfl) ?_
              refine lv_aload_n hC.1 hC.2.1 dX5_reach_48 rfl (lv_at hl 0 rfl) ?_
              refine g_get hC hw hin5 0 rfl rfl 1 (by decide) lk74 rfl dX5_reach_49 ?_
              refine n_icmp_ge (tgt := 169) hC dX5_reach_52 (by decide) (by omega) (by omega) (fun c_52 => ?_) (fun c_52 => ?_)
              · skip
                obtain rfl : n = d := by omega
                refine lv_iload_n hC.1 hC.2.1 dX5_reach_169 rfl (lv_at hl 1 rfl) ?_
                exact hret _ _ _ ls (nI (c)) f1 dX5_reach_170 rfl ⟨(by rw [hc]), (by (try dsimp only); exact hR)⟩ hw
              · skip
                refine lv_iconst (v := nI 0) hC.1 hC.2.1 dX5_reach_55 (by decide) ?_
                refine lv_istore_n (lv' := [(3, .int (nI (0))), (0, .ref ((ad 40))), (1, .int (nI (c))), (2, .int (nI (d)))]) hC.1 hC.2.1 dX5_reach_56 rfl hl (by decide) rfl (fun ls hl => ?_)
                have K57 : ∀ (zk : Nat), ∀ (c2 : Nat) (p : Nat) (f2 : Nat → Int32) (H : Heap) (locs : List Loc) (ls : Array Slot), n - p < zk → (p ≤ n) → (RJ n pt ac f1 f2 d p 0) → (c2 = cntR f2 n) → Wd dC dI (tysA cyI cyJ cyZ cyS) [((ad 40), .inr (5, [.int (ft), .int (nI (n)), .int (L), .ref ((ad 41)), .ref ((ad 42)), .ref ((ad 43)), .ref ((ad 44)), .int (nI (fl)), .int (nI (rk)), .ref ((ad 45)), .ref ((ad 46)), .ref ((ad 47)), .int (rs), .ref ((ad 48)), .long (dr), .int (nI (wo)), .ref ((ad 49)), .ref ((ad 50)), .ref ((ad 51)), .ref ((ad 52)), .ref ((ad 53)), .ref ((ad 54)), .ref ((ad 55)), .ref ((ad 56)), .ref ((ad 57)), .ref ((ad 58)), .int (tc)])), ((ad 41), .inl (cyI, 12, .inl (fun zj => nI (mk zj)))), ((ad 42), .inl (cyI, 12, .inl (fun zj => nI (pt zj)))), ((ad 43), .inl (cyI, 72, .inl (fun zj => nI (tp zj)))), ((ad 44), .inl (cyI, 72, .inl (fun zj => nI (tj zj)))), ((ad 45), .inl (cyI, 12, .inl f2))] zA zs H locs → lv_has ls 6 [(0, .ref ((ad 40))), (1, .int (nI (c2))), (2, .int (nI (d))), (3, .int (nI (p)))] → W zp l ze ({ frames := 0, cells := 0, slots := 0, locals := 0 } : Room) zs zm za zb zt zc H locs 0 0 zQ (F0 zm 57 ls []) := by
                  intro zk
                  induction zk with
                  | zero => intro c2 p f2 H locs ls h0; exact absurd h0 (Nat.not_lt_zero _)
                  | succ zk ih57 =>
                    intro c2 p f2 H locs ls hmu hp hJ hc2 hw hl
                    have hcl := cntR_le f2 n
                    refine lv_iload_n hC.1 hC.2.1 dX5_reach_57 rfl (lv_at hl 3 rfl) ?_
                    refine lv_aload_n hC.1 hC.2.1 dX5_reach_58 rfl (lv_at hl 0 rfl) ?_
                    refine g_get hC hw hin5 0 rfl rfl 1 (by decide) lk74 rfl dX5_reach_59 ?_
                    refine n_icmp_ge (tgt := 163) hC dX5_reach_62 (by decide) (by omega) (by omega) (fun c_62 => ?_) (fun c_62 => ?_)
                    · skip
                      obtain rfl : n = p := by omega
                      refine lv_iinc (v := nI (d + 1)) (lv' := [(2, .int (nI (d + 1))), (0, .ref ((ad 40))), (1, .int (nI (c2))), (3, .int (nI (n)))]) hC.1 hC.2.1 dX5_reach_163 hl (k := 2) rfl (nI_inc d 1) (by decide) rfl (fun ls hl => ?_)
                      refine lv_goto (tgt := 47) hC.1 hC.2.1 dX5_reach_166 (by decide) ?_
                      exact ih47 c2 (d + 1) f2 _ _ ls (by omega) (by omega) (by exact RJ.done (by omega) hR (show RJ n pt ac f1 f2 d n 0 from hJ)) (by exact hc2) hw (lv_sub hl [1, 2, 0] rfl)
                    · skip
                      refine lv_iconst (v := nI 0) hC.1 hC.2.1 dX5_reach_65 (by decide) ?_
                      refine lv_istore (lv' := [(4, .int (nI (0))), (0, .ref ((ad 40))), (1, .int (nI (c2))), (2, .int (nI (d))), (3, .int (nI (p)))]) hC.1 hC.2.1 dX5_reach_66 hl (by decide) rfl (fun ls hl => ?_)
                      have K68 : ∀ (zk : Nat), ∀ (c3 : Nat) (i : Nat) (f3 : Nat → Int32) (H : Heap) (locs : List Loc) (ls : Array Slot), pt p - i < zk → (i ≤ pt p) → (RJ n pt ac f1 f3 d p i) → (c3 = cntR f3 n) → Wd dC dI (tysA cyI cyJ cyZ cyS) [((ad 40), .inr (5, [.int (ft), .int (nI (n)), .int (L), .ref ((ad 41)), .ref ((ad 42)), .ref ((ad 43)), .ref ((ad 44)), .int (nI (fl)), .int (nI (rk)), .ref ((ad 45)), .ref ((ad 46)), .ref ((ad 47)), .int (rs), .ref ((ad 48)), .long (dr), .int (nI (wo)), .ref ((ad 49)), .ref ((ad 50)), .ref ((ad 51)), .ref ((ad 52)), .ref ((ad 53)), .ref ((ad 54)), .ref ((ad 55)), .ref ((ad 56)), .ref ((ad 57)), .ref ((ad 58)), .int (tc)])), ((ad 41), .inl (cyI, 12, .inl (fun zj => nI (mk zj)))), ((ad 42), .inl (cyI, 12, .inl (fun zj => nI (pt zj)))), ((ad 43), .inl (cyI, 72, .inl (fun zj => nI (tp zj)))), ((ad 44), .inl (cyI, 72, .inl (fun zj => nI (tj zj)))), ((ad 45), .inl (cyI, 12, .inl f3))] zA zs H locs → lv_has ls 6 [(0, .ref ((ad 40))), (1, .int (nI (c3))), (2, .int (nI (d))), (3, .int (nI (p))), (4, .int (nI (i)))] → W zp l ze ({ frames := 0, cells := 0, slots := 0, locals := 0 } : Room) zs zm za zb zt zc H locs 0 0 zQ (F0 zm 68 ls []) := by
                        intro zk
                        induction zk with
                        | zero => intro c3 i f3 H locs ls h0; exact absurd h0 (Nat.not_lt_zero _)
                        | succ zk ih68 =>
                          intro c3 i f3 H locs ls hmu hi hJ3 hc3 hw hl
                          have hcl3 := cntR_le f3 n
                          have hpp := hN.p6 (p := p) (by omega)
                          refine lv_aload_n hC.1 hC.2.1 dX5_reach_68 rfl (lv_at hl 0 rfl) ?_
                          refine g_get hC hw hin5 0 rfl rfl 9 (by decide) lk22 rfl dX5_reach_69 ?_
                          refine lv_iload_n hC.1 hC.2.1 dX5_reach_72 rfl (lv_at hl 3 rfl) ?_
                          refine g_iald hC hw 5 0 rfl rfl (by omega) (by first | decide | omega) dX5_reach_73 ?_
                          refine lv_iload_n hC.1 hC.2.1 dX5_reach_74 rfl (lv_at hl 2 rfl) ?_
                          refine lv_icmp_ne (tgt := 157) hC.1 hC.2.1 dX5_reach_75 (by decide) (fun c_75 => ?_) (fun c_75 => ?_)
                          · skip
                            refine lv_iinc (v := nI (p + 1)) (lv' := [(3, .int (nI (p + 1))), (0, .ref ((ad 40))), (1, .int (nI (c3))), (2, .int (nI (d))), (4, .int (nI (i)))]) hC.1 hC.2.1 dX5_reach_157 hl (k := 3) rfl (nI_inc p 1) (by decide) rfl (fun ls hl => ?_)
                            refine lv_goto (tgt := 57) hC.1 hC.2.1 dX5_reach_160 (by decide) ?_
                            exact ih57 c3 (p + 1) f3 _ _ ls (by omega) (by omega) (by exact hJ3.next (by omega) (by omega) (by first | exact Or.inl c_75 | exact Or.inr (by omega))) (by exact hc3) hw (lv_sub hl [1, 2, 3, 0] rfl)
                          · skip
                            refine lv_iload hC.1 hC.2.1 dX5_reach_78 (lv_at hl 4 rfl) ?_
                            refine lv_aload_n hC.1 hC.2.1 dX5_reach_80 rfl (lv_at hl 0 rfl) ?_
                            refine g_get hC hw hin5 0 rfl rfl 4 (by decide) lk13 rfl dX5_reach_81 ?_
                            refine lv_iload_n hC.1 hC.2.1 dX5_reach_84 rfl (lv_at hl 3 rfl) ?_
                            refine g_ialdN hC hw 2 0 rfl rfl (by omega) (by first | decide | omega) dX5_reach_85 ?_
                            refine n_icmp_ge (tgt := 157) hC dX5_reach_86 (by decide) (by omega) (by omega) (fun c_86 => ?_) (fun c_86 => ?_)
                            · skip
                              refine lv_iinc (v := nI (p + 1)) (lv' := [(3, .int (nI (p + 1))), (0, .ref ((ad 40))), (1, .int (nI (c3))), (2, .int (nI (d))), (4, .int (nI (i)))]) hC.1 hC.2.1 dX5_reach_157 hl (k := 3) rfl (nI_inc p 1) (by decide) rfl (fun ls hl => ?_)
                              refine lv_goto (tgt := 57) hC.1 hC.2.1 dX5_reach_160 (by decide) ?_
                              exact ih57 c3 (p + 1) f3 _ _ ls (by omega) (by omega) (by exact hJ3.next (by omega) (by omega) (by first | exact Or.inl c_75 | exact Or.inr (by omega))) (by exact hc3) hw (lv_sub hl [1, 2, 3, 0] rfl)
                            · skip
                              obtain ⟨t1, t2⟩ := hNR p i (by omega) (by omega)
                              obtain ⟨s1, -⟩ := hN.a (p := p) (i := i) (by omega) (by omega)
                              have u1 : ac (p * 6 + i) / 6 = tp (6 * p + i) := by omega
                              rw [u1] at s1
                              refine lv_aload_n hC.1 hC.2.1 dX5_reach_89 rfl (lv_at hl 0 rfl) ?_
                              refine g_get hC hw hin5 0 rfl rfl 5 (by decide) lk16 rfl dX5_reach_90 ?_
                              refine lv_bipush (v := nI 6) hC.1 hC.2.1 dX5_reach_93 (by decide) ?_
                              refine lv_iload_n hC.1 hC.2.1 dX5_reach_95 rfl (lv_at hl 3 rfl) ?_
                              refine n_imul hC dX5_reach_96 ?_
                              refine lv_iload hC.1 hC.2.1 dX5_reach_97 (lv_at hl 4 rfl) ?_
                              refine n_iadd hC dX5_reach_99 ?_
                              refine g_ialdN hC hw 3 0 rfl rfl (by omega) (by first | decide | omega) dX5_reach_100 ?_
                              refine lv_istore (lv' := [(5, .int (nI (tp ((6 * p) + i)))), (0, .ref ((ad 40))), (1, .int (nI (c3))), (2, .int (nI (d))), (3, .int (nI (p))), (4, .int (nI (i)))]) hC.1 hC.2.1 dX5_reach_101 hl (by decide) rfl (fun ls hl => ?_)
                              refine lv_iload_n hC.1 hC.2.1 dX5_reach_103 rfl (lv_at hl 2 rfl) ?_
                              refine lv_aload_n hC.1 hC.2.1 dX5_reach_104 rfl (lv_at hl 1 rfl) ?_
                              refine g_get hC hw hin5 0 rfl rfl 9 (by decide) lk22 rfl dX5_reach_105 ?_
                              refine lv_iload hC.1 hC.2.1 dX5_reach_108 (lv_at hl 0 rfl) ?_
                              refine g_iald hC hw 5 0 rfl rfl (by omega) (by first | decide | omega) dX5_reach_110 ?_
                              refine lv_if_ge (tgt := 118) hC.1 hC.2.1 dX5_reach_111 (by decide) (fun c_111 => ?_) (fun c_111 => ?_)
                              · skip
                                refine lv_iconst (v := nI 0) hC.1 hC.2.1 dX5_reach_118 (by decide) ?_
                                refine n_iadd hC dX5_reach_119 ?_
                                refine lv_istore_n (lv' := [(1, .int (nI (c3 + 0))), (5, .int (nI (tp ((6 * p) + i)))), (0, .ref ((ad 40))), (2, .int (nI (d))), (3, .int (nI (p))), (4, .int (nI (i)))]) hC.1 hC.2.1 dX5_reach_120 rfl hl (by decide) rfl (fun ls hl => ?_)
                                refine lv_aload_n hC.1 hC.2.1 dX5_reach_121 rfl (lv_at hl 2 rfl) ?_
                                refine g_get hC hw hin5 0 rfl rfl 9 (by decide) lk22 rfl dX5_reach_122 ?_
                                refine lv_iload hC.1 hC.2.1 dX5_reach_125 (lv_at hl 1 rfl) ?_
                                refine lv_aload_n hC.1 hC.2.1 dX5_reach_127 rfl (lv_at hl 2 rfl) ?_
                                refine g_get hC hw hin5 0 rfl rfl 9 (by decide) lk22 rfl dX5_reach_128 ?_
                                refine lv_iload hC.1 hC.2.1 dX5_reach_131 (lv_at hl 1 rfl) ?_
                                refine g_iald hC hw 5 0 rfl rfl (by omega) (by first | decide | omega) dX5_reach_133 ?_
                                refine lv_if_ge (tgt := 143) hC.1 hC.2.1 dX5_reach_134 (by decide) (fun c_134 => ?_) (fun c_134 => ?_)
                                · skip
                                  refine lv_aload_n hC.1 hC.2.1 dX5_reach_143 rfl (lv_at hl 2 rfl) ?_
                                  refine g_get hC hw hin5 0 rfl rfl 9 (by decide) lk22 rfl dX5_reach_144 ?_
                                  refine lv_iload hC.1 hC.2.1 dX5_reach_147 (lv_at hl 1 rfl) ?_
                                  refine g_iald hC hw 5 0 rfl rfl (by omega) (by first | decide | omega) dX5_reach_149 ?_
                                  refine g_iast hC hw 5 0 rfl rfl (by omega) (by first | decide | omega) dX5_reach_150 (fun H locs hw => ?_)
                                  replace hw : Wd dC dI (tysA cyI cyJ cyZ cyS) [((ad 40), .inr (5, [.int (ft), .int (nI (n)), .int (L), .ref ((ad 41)), .ref ((ad 42)), .ref ((ad 43)), .ref ((ad 44)), .int (nI (fl)), .int (nI (rk)), .ref ((ad 45)), .ref ((ad 46)), .ref ((ad 47)), .int (rs), .ref ((ad 48)), .long (dr), .int (nI (wo)), .ref ((ad 49)), .ref ((ad 50)), .ref ((ad 51)), .ref ((ad 52)), .ref ((ad 53)), .ref ((ad 54)), .ref ((ad 55)), .ref ((ad 56)), .ref ((ad 57)), .ref ((ad 58)), .int (tc)])), ((ad 41), .inl (cyI, 12, .inl (fun zj => nI (mk zj)))), ((ad 42), .inl (cyI, 12, .inl (fun zj => nI (pt zj)))), ((ad 43), .inl (cyI, 72, .inl (fun zj => nI (tp zj)))), ((ad 44), .inl (cyI, 72, .inl (fun zj => nI (tj zj)))), ((ad 45), .inl (cyI, 12, .inl (upd f3 (tp ((6 * p) + i)) (f3 (tp ((6 * p) + i))))))] zA zs H locs := hw
                                  refine lv_iinc (v := nI (i + 1)) (lv' := [(4, .int (nI (i + 1))), (1, .int (nI (c3 + 0))), (5, .int (nI (tp ((6 * p) + i)))), (0, .ref ((ad 40))), (2, .int (nI (d))), (3, .int (nI (p)))]) hC.1 hC.2.1 dX5_reach_151 hl (k := 5) rfl (nI_inc i 1) (by decide) rfl (fun ls hl => ?_)
                                  refine lv_goto (tgt := 68) hC.1 hC.2.1 dX5_reach_154 (by decide) ?_
                                  exact ih68 (c3 + 0) (i + 1) (upd f3 (tp ((6 * p) + i)) (f3 (tp ((6 * p) + i)))) _ _ ls (by omega) (by omega) (by first | (rw [upd_id]; exact hJ3.skip (by rw [u1]; exact (hJ3.ge hR (by omega) s1).mp c_111)) | (rw [← u1]; exact hJ3.take hR (by omega) (by omega) (by omega) c_75 (by rw [u1]; exact hq9)) | exact absurd c_134 c_111 | exact absurd c_111 c_134) (by first | (rw [upd_id]; exact hc3) | (rw [cntR_up hq9 (nI9 (by omega)), if_pos s1, hc3]; done) | exact absurd c_134 c_111 | exact absurd c_111 c_134) hw (lv_sub hl [3, 1, 4, 5, 0] rfl)
                                · skip
                                  refine lv_iload_n hC.1 hC.2.1 dX5_reach_137 rfl (lv_at hl 3 rfl) ?_
                                  refine lv_iconst (v := nI 1) hC.1 hC.2.1 dX5_reach_138 (by decide) ?_
                                  refine n_iadd hC dX5_reach_139 ?_
                                  refine lv_goto (tgt := 150) hC.1 hC.2.1 dX5_reach_140 (by decide) ?_
                                  refine g_iast hC hw 5 0 rfl rfl (by omega) (by first | decide | omega) dX5_reach_150 (fun H locs hw => ?_)
                                  replace hw : Wd dC dI (tysA cyI cyJ cyZ cyS) [((ad 40), .inr (5, [.int (ft), .int (nI (n)), .int (L), .ref ((ad 41)), .ref ((ad 42)), .ref ((ad 43)), .ref ((ad 44)), .int (nI (fl)), .int (nI (rk)), .ref ((ad 45)), .ref ((ad 46)), .ref ((ad 47)), .int (rs), .ref ((ad 48)), .long (dr), .int (nI (wo)), .ref ((ad 49)), .ref ((ad 50)), .ref ((ad 51)), .ref ((ad 52)), .ref ((ad 53)), .ref ((ad 54)), .ref ((ad 55)), .ref ((ad 56)), .ref ((ad 57)), .ref ((ad 58)), .int (tc)])), ((ad 41), .inl (cyI, 12, .inl (fun zj => nI (mk zj)))), ((ad 42), .inl (cyI, 12, .inl (fun zj => nI (pt zj)))), ((ad 43), .inl (cyI, 72, .inl (fun zj => nI (tp zj)))), ((ad 44), .inl (cyI, 72, .inl (fun zj => nI (tj zj)))), ((ad 45), .inl (cyI, 12, .inl (upd f3 (tp ((6 * p) + i)) (nI (d + 1)))))] zA zs H locs := hw
                                  refine lv_iinc (v := nI (i + 1)) (lv' := [(4, .int (nI (i + 1))), (1, .int (nI (c3 + 0))), (5, .int (nI (tp ((6 * p) + i)))), (0, .ref ((ad 40))), (2, .int (nI (d))), (3, .int (nI (p)))]) hC.1 hC.2.1 dX5_reach_151 hl (k := 5) rfl (nI_inc i 1) (by decide) rfl (fun ls hl => ?_)
                                  refine lv_goto (tgt := 68) hC.1 hC.2.1 dX5_reach_154 (by decide) ?_
                                  exact ih68 (c3 + 0) (i + 1) (upd f3 (tp ((6 * p) + i)) (nI (d + 1))) _ _ ls (by omega) (by omega) (by first | (rw [upd_id]; exact hJ3.skip (by rw [u1]; exact (hJ3.ge hR (by omega) s1).mp c_111)) | (rw [← u1]; exact hJ3.take hR (by omega) (by omega) (by omega) c_75 (by rw [u1]; exact hq9)) | exact absurd c_134 c_111 | exact absurd c_111 c_134) (by first | (rw [upd_id]; exact hc3) | (rw [cntR_up hq9 (nI9 (by omega)), if_pos s1, hc3]; done) | exact absurd c_134 c_111 | exact absurd c_111 c_134) hw (lv_sub hl [3, 1, 4, 5, 0] rfl)
                              · skip
                                have hq9 : f3 (tp (6 * p + i)) = -9 := by rcases Classical.em (f3 (tp (6 * p + i)) = -9) with z | z; exact z; exact absurd ((hJ3.ge hR (by omega) s1).mpr z) c_111
                                refine lv_iconst (v := nI 1) hC.1 hC.2.1 dX5_reach_114 (by decide) ?_
                                refine lv_goto (tgt := 119) hC.1 hC.2.1 dX5_reach_115 (by decide) ?_
                                refine n_iadd hC dX5_reach_119 ?_
                                refine lv_istore_n (lv' := [(1, .int (nI (c3 + 1))), (5, .int (nI (tp ((6 * p) + i)))), (0, .ref ((ad 40))), (2, .int (nI (d))), (3, .int (nI (p))), (4, .int (nI (i)))]) hC.1 hC.2.1 dX5_reach_120 rfl hl (by decide) rfl (fun ls hl => ?_)
                                refine lv_aload_n hC.1 hC.2.1 dX5_reach_121 rfl (lv_at hl 2 rfl) ?_
                                refine g_get hC hw hin5 0 rfl rfl 9 (by decide) lk22 rfl dX5_reach_122 ?_
                                refine lv_iload hC.1 hC.2.1 dX5_reach_125 (lv_at hl 1 rfl) ?_
                                refine lv_aload_n hC.1 hC.2.1 dX5_reach_127 rfl (lv_at hl 2 rfl) ?_
                                refine g_get hC hw hin5 0 rfl rfl 9 (by decide) lk22 rfl dX5_reach_128 ?_
                                refine lv_iload hC.1 hC.2.1 dX5_reach_131 (lv_at hl 1 rfl) ?_
                                refine g_iald hC hw 5 0 rfl rfl (by omega) (by first | decide | omega) dX5_reach_133 ?_
                                refine lv_if_ge (tgt := 143) hC.1 hC.2.1 dX5_reach_134 (by decide) (fun c_134 => ?_) (fun c_134 => ?_)
                                · skip
                                  refine lv_aload_n hC.1 hC.2.1 dX5_reach_143 rfl (lv_at hl 2 rfl) ?_
                                  refine g_get hC hw hin5 0 rfl rfl 9 (by decide) lk22 rfl dX5_reach_144 ?_
                                  refine lv_iload hC.1 hC.2.1 dX5_reach_147 (lv_at hl 1 rfl) ?_
                                  refine g_iald hC hw 5 0 rfl rfl (by omega) (by first | decide | omega) dX5_reach_149 ?_
                                  refine g_iast hC hw 5 0 rfl rfl (by omega) (by first | decide | omega) dX5_reach_150 (fun H locs hw => ?_)
                                  replace hw : Wd dC dI (tysA cyI cyJ cyZ cyS) [((ad 40), .inr (5, [.int (ft), .int (nI (n)), .int (L), .ref ((ad 41)), .ref ((ad 42)), .ref ((ad 43)), .ref ((ad 44)), .int (nI (fl)), .int (nI (rk)), .ref ((ad 45)), .ref ((ad 46)), .ref ((ad 47)), .int (rs), .ref ((ad 48)), .long (dr), .int (nI (wo)), .ref ((ad 49)), .ref ((ad 50)), .ref ((ad 51)), .ref ((ad 52)), .ref ((ad 53)), .ref ((ad 54)), .ref ((ad 55)), .ref ((ad 56)), .ref ((ad 57)), .ref ((ad 58)), .int (tc)])), ((ad 41), .inl (cyI, 12, .inl (fun zj => nI (mk zj)))), ((ad 42), .inl (cyI, 12, .inl (fun zj => nI (pt zj)))), ((ad 43), .inl (cyI, 72, .inl (fun zj => nI (tp zj)))), ((ad 44), .inl (cyI, 72, .inl (fun zj => nI (tj zj)))), ((ad 45), .inl (cyI, 12, .inl (upd f3 (tp ((6 * p) + i)) (f3 (tp ((6 * p) + i))))))] zA zs H locs := hw
                                  refine lv_iinc (v := nI (i + 1)) (lv' := [(4, .int (nI (i + 1))), (1, .int (nI (c3 + 1))), (5, .int (nI (tp ((6 * p) + i)))), (0, .ref ((ad 40))), (2, .int (nI (d))), (3, .int (nI (p)))]) hC.1 hC.2.1 dX5_reach_151 hl (k := 5) rfl (nI_inc i 1) (by decide) rfl (fun ls hl => ?_)
                                  refine lv_goto (tgt := 68) hC.1 hC.2.1 dX5_reach_154 (by decide) ?_
                                  exact ih68 (c3 + 1) (i + 1) (upd f3 (tp ((6 * p) + i)) (f3 (tp ((6 * p) + i)))) _ _ ls (by omega) (by omega) (by first | (rw [upd_id]; exact hJ3.skip (by rw [u1]; exact (hJ3.ge hR (by omega) s1).mp c_111)) | (rw [← u1]; exact hJ3.take hR (by omega) (by omega) (by omega) c_75 (by rw [u1]; exact hq9)) | exact absurd c_134 c_111 | exact absurd c_111 c_134) (by first | (rw [upd_id]; exact hc3) | (rw [cntR_up hq9 (nI9 (by omega)), if_pos s1, hc3]; done) | exact absurd c_134 c_111 | exact absurd c_111 c_134) hw (lv_sub hl [3, 1, 4, 5, 0] rfl)
                                · skip
                                  refine lv_iload_n hC.1 hC.2.1 dX5_reach_137 rfl (lv_at hl 3 rfl) ?_
                                  refine lv_iconst (v := nI 1) hC.1 hC.2.1 dX5_reach_138 (by decide) ?_
                                  refine n_iadd hC dX5_reach_139 ?_
                                  refine lv_goto (tgt := 150) hC.1 hC.2.1 dX5_reach_140 (by decide) ?_
                                  refine g_iast hC hw 5 0 rfl rfl (by omega) (by first | decide | omega) dX5_reach_150 (fun H locs hw => ?_)
                                  replace hw : Wd dC dI (tysA cyI cyJ cyZ cyS) [((ad 40), .inr (5, [.int (ft), .int (nI (n)), .int (L), .ref ((ad 41)), .ref ((ad 42)), .ref ((ad 43)), .ref ((ad 44)), .int (nI (fl)), .int (nI (rk)), .ref ((ad 45)), .ref ((ad 46)), .ref ((ad 47)), .int (rs), .ref ((ad 48)), .long (dr), .int (nI (wo)), .ref ((ad 49)), .ref ((ad 50)), .ref ((ad 51)), .ref ((ad 52)), .ref ((ad 53)), .ref ((ad 54)), .ref ((ad 55)), .ref ((ad 56)), .ref ((ad 57)), .ref ((ad 58)), .int (tc)])), ((ad 41), .inl (cyI, 12, .inl (fun zj => nI (mk zj)))), ((ad 42), .inl (cyI, 12, .inl (fun zj => nI (pt zj)))), ((ad 43), .inl (cyI, 72, .inl (fun zj => nI (tp zj)))), ((ad 44), .inl (cyI, 72, .inl (fun zj => nI (tj zj)))), ((ad 45), .inl (cyI, 12, .inl (upd f3 (tp ((6 * p) + i)) (nI (d + 1)))))] zA zs H locs := hw
                                  refine lv_iinc (v := nI (i + 1)) (lv' := [(4, .int (nI (i + 1))), (1, .int (nI (c3 + 1))), (5, .int (nI (tp ((6 * p) + i)))), (0, .ref ((ad 40))), (2, .int (nI (d))), (3, .int (nI (p)))]) hC.1 hC.2.1 dX5_reach_151 hl (k := 5) rfl (nI_inc i 1) (by decide) rfl (fun ls hl => ?_)
                                  refine lv_goto (tgt := 68) hC.1 hC.2.1 dX5_reach_154 (by decide) ?_
                                  exact ih68 (c3 + 1) (i + 1) (upd f3 (tp ((6 * p) + i)) (nI (d + 1))) _ _ ls (by omega) (by omega) (by first | (rw [upd_id]; exact hJ3.skip (by rw [u1]; exact (hJ3.ge hR (by omega) s1).mp c_111)) | (rw [← u1]; exact hJ3.take hR (by omega) (by omega) (by omega) c_75 (by rw [u1]; exact hq9)) | exact absurd c_134 c_111 | exact absurd c_111 c_134) (by first | (rw [upd_id]; exact hc3) | (rw [cntR_up hq9 (nI9 (by omega)), if_pos s1, hc3]; done) | exact absurd c_134 c_111 | exact absurd c_111 c_134) hw (lv_sub hl [3, 1, 4, 5, 0] rfl)
                      exact K68 _ c2 0 f2 _ _ ls (Nat.lt_succ_self _) (by omega) (by exact hJ) (by exact hc2) hw (lv_sub hl [1, 2, 3, 4, 0] rfl)
                exact K57 _ c 0 f1 _ _ ls (Nat.lt_succ_self _) (by omega) (by exact RJ.init) (by exact hc) hw (lv_sub hl [1, 2, 3, 0] rfl)
          exact K47 _ 1 0 fz _ _ ls (Nat.lt_succ_self _) (by omega) (by exact RI.init hz) (by rw [cntR_one hz]; first | (rw [if_pos (by omega)]; done) | (rw [if_neg (by omega)]; done)) hw (lv_sub hl [2, 1, 0] rfl)
      · skip
        refine lv_aload_n hC.1 hC.2.1 dX5_reach_10 rfl (lv_at hl 0 rfl) ?_
        refine g_get hC hw hin5 0 rfl rfl 9 (by decide) lk22 rfl dX5_reach_11 ?_
        refine lv_iload_n hC.1 hC.2.1 dX5_reach_14 rfl (lv_at hl 1 rfl) ?_
        refine lv_iload_n hC.1 hC.2.1 dX5_reach_15 rfl (lv_at hl 1 rfl) ?_
        refine n_if_ne (tgt := 23) hC dX5_reach_16 (by decide) (by omega) (fun c_16 => ?_) (fun c_16 => ?_)
        · skip
          refine lv_bipush (v := (-9)) hC.1 hC.2.1 dX5_reach_23 (by decide) ?_
          refine g_iast hC hw 5 0 rfl rfl (by omega) (by first | decide | omega) dX5_reach_25 (fun H locs hw => ?_)
          replace hw : Wd dC dI (tysA cyI cyJ cyZ cyS) [((ad 40), .inr (5, [.int (ft), .int (nI (n)), .int (L), .ref ((ad 41)), .ref ((ad 42)), .ref ((ad 43)), .ref ((ad 44)), .int (nI (fl)), .int (nI (rk)), .ref ((ad 45)), .ref ((ad 46)), .ref ((ad 47)), .int (rs), .ref ((ad 48)), .long (dr), .int (nI (wo)), .ref ((ad 49)), .ref ((ad 50)), .ref ((ad 51)), .ref ((ad 52)), .ref ((ad 53)), .ref ((ad 54)), .ref ((ad 55)), .ref ((ad 56)), .ref ((ad 57)), .ref ((ad 58)), .int (tc)])), ((ad 41), .inl (cyI, 12, .inl (fun zj => nI (mk zj)))), ((ad 42), .inl (cyI, 12, .inl (fun zj => nI (pt zj)))), ((ad 43), .inl (cyI, 72, .inl (fun zj => nI (tp zj)))), ((ad 44), .inl (cyI, 72, .inl (fun zj => nI (tj zj)))), ((ad 45), .inl (cyI, 12, .inl (upd fz i (-9))))] zA zs H locs := hw
          refine lv_iinc (v := nI (i + 1)) (lv' := [(1, .int (nI (i + 1))), (0, .ref ((ad 40)))]) hC.1 hC.2.1 dX5_reach_26 hl (k := 1) rfl (nI_inc i 1) (by decide) rfl (fun ls hl => ?_)
          refine lv_goto (tgt := 2) hC.1 hC.2.1 dX5_reach_29 (by decide) ?_
          exact ih2 (i + 1) (upd fz i (-9)) _ _ ls (by omega) (by omega) (by exact up_toI (g := fun j => if j = 0 then nI 0 else -9) hz (by (try dsimp only); first | (rw [if_pos c_16]; done) | (rw [if_neg (by omega)]; done))) hw (lv_sub hl [1, 0] rfl)
        · skip
          refine lv_iconst (v := nI 0) hC.1 hC.2.1 dX5_reach_19 (by decide) ?_
          refine lv_goto (tgt := 25) hC.1 hC.2.1 dX5_reach_20 (by decide) ?_
          refine g_iast hC hw 5 0 rfl rfl (by omega) (by first | decide | omega) dX5_reach_25 (fun H locs hw => ?_)
          replace hw : Wd dC dI (tysA cyI cyJ cyZ cyS) [((ad 40), .inr (5, [.int (ft), .int (nI (n)), .int (L), .ref ((ad 41)), .ref ((ad 42)), .ref ((ad 43)), .ref ((ad 44)), .int (nI (fl)), .int (nI (rk)), .ref ((ad 45)), .ref ((ad 46)), .ref ((ad 47)), .int (rs), .ref ((ad 48)), .long (dr), .int (nI (wo)), .ref ((ad 49)), .ref ((ad 50)), .ref ((ad 51)), .ref ((ad 52)), .ref ((ad 53)), .ref ((ad 54)), .ref ((ad 55)), .ref ((ad 56)), .ref ((ad 57)), .ref ((ad 58)), .int (tc)])), ((ad 41), .inl (cyI, 12, .inl (fun zj => nI (mk zj)))), ((ad 42), .inl (cyI, 12, .inl (fun zj => nI (pt zj)))), ((ad 43), .inl (cyI, 72, .inl (fun zj => nI (tp zj)))), ((ad 44), .inl (cyI, 72, .inl (fun zj => nI (tj zj)))), ((ad 45), .inl (cyI, 12, .inl (upd fz i (nI (0)))))] zA zs H locs := hw
          refine lv_iinc (v := nI (i + 1)) (lv' := [(1, .int (nI (i + 1))), (0, .ref ((ad 40)))]) hC.1 hC.2.1 dX5_reach_26 hl (k := 1) rfl (nI_inc i 1) (by decide) rfl (fun ls hl => ?_)
          refine lv_goto (tgt := 2) hC.1 hC.2.1 dX5_reach_29 (by decide) ?_
          exact ih2 (i + 1) (upd fz i (nI (0))) _ _ ls (by omega) (by omega) (by exact up_toI (g := fun j => if j = 0 then nI 0 else -9) hz (by (try dsimp only); first | (rw [if_pos c_16]; done) | (rw [if_neg (by omega)]; done))) hw (lv_sub hl [1, 0] rfl)
  exact K2 _ 0 fa _ _ ls (Nat.lt_succ_self _) (by omega) (by intro j h; omega) hw (lv_sub hl [1, 0] rfl)

set_option maxHeartbeats 4000000 in
set_option maxRecDepth 100000 in
theorem c_X5_together_ (l : Launch) (dC : Nat → ClassId) (dI : Nat → Nat → Nat) (cyI cyJ cyZ cyS : ClassId) (ad : Nat → Nat) (ft : Int32) (n : Nat) (L : Int32) (fl rk : Nat) (rs : Int32) (dr : Int64) (wo : Nat) (tc : Int32) (mk : Nat → Nat) (pt : Nat → Nat) (tp : Nat → Nat) (tj : Nat → Nat) (fa : Nat → Int32) (ac : Nat → Nat) (hN : NOk n mk pt ac) (hNR : NR n pt ac tp tj) : CtI l yX5_together wsX5_together ({ frames := 1, cells := 0, slots := 0, locals := 25 } : Room) dC dI (tysA cyI cyJ cyZ cyS) [.ref ((ad 40))] [((ad 40), .inr (5, [.int (ft), .int (nI (n)), .int (L), .ref ((ad 41)), .ref ((ad 42)), .ref ((ad 43)), .ref ((ad 44)), .int (nI (fl)), .int (nI (rk)), .ref ((ad 45)), .ref ((ad 46)), .ref ((ad 47)), .int (rs), .ref ((ad 48)), .long (dr), .int (nI (wo)), .ref ((ad 49)), .ref ((ad 50)), .ref ((ad 51)), .ref ((ad 52)), .ref ((ad 53)), .ref ((ad 54)), .ref ((ad 55)), .ref ((ad 56)), .ref ((ad 57)), .ref ((ad 58)), .int (tc)])), ((ad 41), .inl (cyI, 12, .inl (fun zj => nI (mk zj)))), ((ad 42), .inl (cyI, 12, .inl (fun zj => nI (pt zj)))), ((ad 43), .inl (cyI, 72, .inl (fun zj => nI (tp zj)))), ((ad 44), .inl (cyI, 72, .inl (fun zj => nI (tj zj)))), ((ad 45), .inl (cyI, 12, .inl fa))] (S := (Nat → Int32)) (fun (r : Int32) (u : (Nat → Int32)) => (r = nI (if 0 < n ∧ cntR u n = n then 1 else 0)) ∧ (RI n pt ac u n)) (fun (u : (Nat → Int32)) => [((ad 40), .inr (5, [.int (ft), .int (nI (n)), .int (L), .ref ((ad 41)), .ref ((ad 42)), .ref ((ad 43)), .ref ((ad 44)), .int (nI (fl)), .int (nI (rk)), .ref ((ad 45)), .ref ((ad 46)), .ref ((ad 47)), .int (rs), .ref ((ad 48)), .long (dr), .int (nI (wo)), .ref ((ad 49)), .ref ((ad 50)), .ref ((ad 51)), .ref ((ad 52)), .ref ((ad 53)), .ref ((ad 54)), .ref ((ad 55)), .ref ((ad 56)), .ref ((ad 57)), .ref ((ad 58)), .int (tc)])), ((ad 41), .inl (cyI, 12, .inl (fun zj => nI (mk zj)))), ((ad 42), .inl (cyI, 12, .inl (fun zj => nI (pt zj)))), ((ad 43), .inl (cyI, 72, .inl (fun zj => nI (tp zj)))), ((ad 44), .inl (cyI, 72, .inl (fun zj => nI (tj zj)))), ((ad 45), .inl (cyI, 12, .inl u))]) := by
  refine CtI.mk (cc := cX5_together) (maxL := 1) (by decide) rfl (Nat.le_of_ble_eq_true rfl) ?_
  intro zp ze zs zm za zb zt zc zA zQ ls hC hw hl hret
  replace hC : CallFix zp zm zc cX5_together 1 zs za wsX5_together RX5 := hC
  replace hl : lv_has ls 1 [(0, .ref ((ad 40)))] := hl
  have hin5 : ∀ w ∈ u_ws RX5 TX5 27, w ∈ wsX5_together := fun w h => List.mem_cons_of_mem _ (List.mem_append_right _ h)
  have lk74 : Cond.fieldLink RX5 74 (TX5 1).1 (TX5 1).2.1 (TX5 1).2.2.1 ∈ wsX5_together := List.mem_of_getElem? (i := 1) rfl
  have hn := hN.n12
  refine lv_aload_n hC.1 hC.2.1 dX5_together_0 rfl (lv_at hl 0 rfl) ?_
  refine g_get hC hw hin5 0 rfl rfl 1 (by decide) lk74 rfl dX5_together_1 ?_
  refine n_if_le (tgt := 22) hC dX5_together_4 (by decide) (by omega) (fun c_4 => ?_) (fun c_4 => ?_)
  · skip
    refine lv_iconst (v := nI 0) hC.1 hC.2.1 dX5_together_22 (by decide) ?_
    exact hret _ _ _ ls (nI (0)) fa dX5_together_23 rfl ⟨(by first | (rw [if_pos ⟨by omega, by omega⟩]; done) | (rw [if_neg (by omega)]; done)), (by (try dsimp only); first | exact hR_8 | (intro q h; omega))⟩ hw
  · skip
    refine lv_aload_n hC.1 hC.2.1 dX5_together_7 rfl (lv_at hl 0 rfl) ?_
    refine W.ccI (wc := [((ad 40), .inr (5, [.int (ft), .int (nI (n)), .int (L), .ref ((ad 41)), .ref ((ad 42)), .ref ((ad 43)), .ref ((ad 44)), .int (nI (fl)), .int (nI (rk)), .ref ((ad 45)), .ref ((ad 46)), .ref ((ad 47)), .int (rs), .ref ((ad 48)), .long (dr), .int (nI (wo)), .ref ((ad 49)), .ref ((ad 50)), .ref ((ad 51)), .ref ((ad 52)), .ref ((ad 53)), .ref ((ad 54)), .ref ((ad 55)), .ref ((ad 56)), .ref ((ad 57)), .ref ((ad 58)), .int (tc)])), ((ad 41), .inl (cyI, 12, .inl (fun zj => nI (mk zj)))), ((ad 42), .inl (cyI, 12, .inl (fun zj => nI (pt zj)))), ((ad 43), .inl (cyI, 72, .inl (fun zj => nI (tp zj)))), ((ad 44), .inl (cyI, 72, .inl (fun zj => nI (tj zj)))), ((ad 45), .inl (cyI, 12, .inl fa))]) (wr := []) (ws1 := fun (u : (Nat → Int32)) => [((ad 40), .inr (5, [.int (ft), .int (nI (n)), .int (L), .ref ((ad 41)), .ref ((ad 42)), .ref ((ad 43)), .ref ((ad 44)), .int (nI (fl)), .int (nI (rk)), .ref ((ad 45)), .ref ((ad 46)), .ref ((ad 47)), .int (rs), .ref ((ad 48)), .long (dr), .int (nI (wo)), .ref ((ad 49)), .ref ((ad 50)), .ref ((ad 51)), .ref ((ad 52)), .ref ((ad 53)), .ref ((ad 54)), .ref ((ad 55)), .ref ((ad 56)), .ref ((ad 57)), .ref ((ad 58)), .int (tc)])), ((ad 41), .inl (cyI, 12, .inl (fun zj => nI (mk zj)))), ((ad 42), .inl (cyI, 12, .inl (fun zj => nI (pt zj)))), ((ad 43), .inl (cyI, 72, .inl (fun zj => nI (tp zj)))), ((ad 44), .inl (cyI, 72, .inl (fun zj => nI (tj zj)))), ((ad 45), .inl (cyI, 12, .inl u))]) (ws2 := fun (u : (Nat → Int32)) => [((ad 40), .inr (5, [.int (ft), .int (nI (n)), .int (L), .ref ((ad 41)), .ref ((ad 42)), .ref ((ad 43)), .ref ((ad 44)), .int (nI (fl)), .int (nI (rk)), .ref ((ad 45)), .ref ((ad 46)), .ref ((ad 47)), .int (rs), .ref ((ad 48)), .long (dr), .int (nI (wo)), .ref ((ad 49)), .ref ((ad 50)), .ref ((ad 51)), .ref ((ad 52)), .ref ((ad 53)), .ref ((ad 54)), .ref ((ad 55)), .ref ((ad 56)), .ref ((ad 57)), .ref ((ad 58)), .int (tc)])), ((ad 41), .inl (cyI, 12, .inl (fun zj => nI (mk zj)))), ((ad 42), .inl (cyI, 12, .inl (fun zj => nI (pt zj)))), ((ad 43), .inl (cyI, 72, .inl (fun zj => nI (tp zj)))), ((ad 44), .inl (cyI, 72, .inl (fun zj => nI (tj zj)))), ((ad 45), .inl (cyI, 12, .inl u))]) hw [0, 1, 2, 3, 4, 5] [] [0, 1, 2, 3, 4, 5] rfl rfl (by decide) (by decide) (by decide) (fun _ => rfl) (Wd.runV (wc := [((ad 40), .inr (5, [.int (ft), .int (nI (n)), .int (L), .ref ((ad 41)), .ref ((ad 42)), .ref ((ad 43)), .ref ((ad 44)), .int (nI (fl)), .int (nI (rk)), .ref ((ad 45)), .ref ((ad 46)), .ref ((ad 47)), .int (rs), .ref ((ad 48)), .long (dr), .int (nI (wo)), .ref ((ad 49)), .ref ((ad 50)), .ref ((ad 51)), .ref ((ad 52)), .ref ((ad 53)), .ref ((ad 54)), .ref ((ad 55)), .ref ((ad 56)), .ref ((ad 57)), .ref ((ad 58)), .int (tc)])), ((ad 41), .inl (cyI, 12, .inl (fun zj => nI (mk zj)))), ((ad 42), .inl (cyI, 12, .inl (fun zj => nI (pt zj)))), ((ad 43), .inl (cyI, 72, .inl (fun zj => nI (tp zj)))), ((ad 44), .inl (cyI, 72, .inl (fun zj => nI (tj zj)))), ((ad 45), .inl (cyI, 12, .inl fa))]) (rest := []) (As := []) hC hw [0, 1, 2, 3, 4, 5] rfl (by decide) 0 rfl rfl (cwV 0 hC.2.2.2.2 gX5_together_X5_reach rfl rfl rfl (by decide +kernel) ⟨Nat.le_of_ble_eq_true rfl, Nat.le_of_ble_eq_true rfl⟩) (c_X5_reach_ l dC dI cyI cyJ cyZ cyS ad ft n L fl rk rs dr wo tc mk pt tp tj fa ac (by first | assumption | omega) (by first | assumption | omega) _) rfl hl.1 rfl (Nat.le_of_ble_eq_true rfl) dX5_together_8 ⟨Nat.zero_le _, Nat.zero_le _⟩) (fun r_8 u H locs hr_8 hw => ?_)
    obtain ⟨fa2_8, rfl⟩ : ∃ z, z = u := ⟨_, rfl⟩
    replace hw : Wd dC dI (tysA cyI cyJ cyZ cyS) [((ad 40), .inr (5, [.int (ft), .int (nI (n)), .int (L), .ref ((ad 41)), .ref ((ad 42)), .ref ((ad 43)), .ref ((ad 44)), .int (nI (fl)), .int (nI (rk)), .ref ((ad 45)), .ref ((ad 46)), .ref ((ad 47)), .int (rs), .ref ((ad 48)), .long (dr), .int (nI (wo)), .ref ((ad 49)), .ref ((ad 50)), .ref ((ad 51)), .ref ((ad 52)), .ref ((ad 53)), .ref ((ad 54)), .ref ((ad 55)), .ref ((ad 56)), .ref ((ad 57)), .ref ((ad 58)), .int (tc)])), ((ad 41), .inl (cyI, 12, .inl (fun zj => nI (mk zj)))), ((ad 42), .inl (cyI, 12, .inl (fun zj => nI (pt zj)))), ((ad 43), .inl (cyI, 72, .inl (fun zj => nI (tp zj)))), ((ad 44), .inl (cyI, 72, .inl (fun zj => nI (tj zj)))), ((ad 45), .inl (cyI, 12, .inl fa2_8))] zA zs H locs := hw
    obtain ⟨hr_8, hR_8⟩ := hr_8
    try dsimp only at hR_8
    try dsimp only at hr_8
    subst hr_8
    have hle := cntR_le fa2_8 n
    refine lv_aload_n hC.1 hC.2.1 dX5_together_11 rfl (lv_at hl 0 rfl) ?_
    refine g_get hC hw hin5 0 rfl rfl 1 (by decide) lk74 rfl dX5_together_12 ?_
    refine n_icmp_ne (tgt := 22) hC dX5_together_15 (by decide) (by omega) (by omega) (fun c_15 => ?_) (fun c_15 => ?_)
    · skip
      refine lv_iconst (v := nI 0) hC.1 hC.2.1 dX5_together_22 (by decide) ?_
      exact hret _ _ _ ls (nI (0)) fa2_8 dX5_together_23 rfl ⟨(by first | (rw [if_pos ⟨by omega, by omega⟩]; done) | (rw [if_neg (by omega)]; done)), (by (try dsimp only); first | exact hR_8 | (intro q h; omega))⟩ hw
    · skip
      refine lv_iconst (v := nI 1) hC.1 hC.2.1 dX5_together_18 (by decide) ?_
      refine lv_goto (tgt := 23) hC.1 hC.2.1 dX5_together_19 (by decide) ?_
      exact hret _ _ _ ls (nI (1)) fa2_8 dX5_together_23 rfl ⟨(by first | (rw [if_pos ⟨by omega, by omega⟩]; done) | (rw [if_neg (by omega)]; done)), (by (try dsimp only); first | exact hR_8 | (intro q h; omega))⟩ hw

set_option maxHeartbeats 4000000 in
set_option maxRecDepth 100000 in
theorem c_X5_told_4 (l : Launch) (dC : Nat → ClassId) (dI : Nat → Nat → Nat) (cyI cyJ cyZ cyS : ClassId) (ad : Nat → Nat) (ft : Int32) (n : Nat) (L : Int32) (fl rk : Nat) (rs : Int32) (dr : Int64) (wo : Nat) (tc : Int32) (mk : Nat → Nat) (pt : Nat → Nat) (tp : Nat → Nat) (tj : Nat → Nat) (fa : Nat → Int32) (ac : Nat → Nat) (hN : NOk n mk pt ac) (hNR : NR n pt ac tp tj) : CtI l yX5_told wsX5_told ({ frames := 1, cells := 0, slots := 0, locals := 25 } : Room) dC dI (tysA cyI cyJ cyZ cyS) [.ref ((ad 40)), .int (nI (4))] [((ad 40), .inr (5, [.int (ft), .int (nI (n)), .int (L), .ref ((ad 41)), .ref ((ad 42)), .ref ((ad 43)), .ref ((ad 44)), .int (nI (fl)), .int (nI (rk)), .ref ((ad 45)), .ref ((ad 46)), .ref ((ad 47)), .int (rs), .ref ((ad 48)), .long (dr), .int (nI (wo)), .ref ((ad 49)), .ref ((ad 50)), .ref ((ad 51)), .ref ((ad 52)), .ref ((ad 53)), .ref ((ad 54)), .ref ((ad 55)), .ref ((ad 56)), .ref ((ad 57)), .ref ((ad 58)), .int (tc)])), ((ad 41), .inl (cyI, 12, .inl (fun zj => nI (mk zj)))), ((ad 42), .inl (cyI, 12, .inl (fun zj => nI (pt zj)))), ((ad 43), .inl (cyI, 72, .inl (fun zj => nI (tp zj)))), ((ad 44), .inl (cyI, 72, .inl (fun zj => nI (tj zj)))), ((ad 45), .inl (cyI, 12, .inl fa))] (S := (Nat → Int32)) (fun (r : Int32) (u : (Nat → Int32)) => (r = nI (cntR u n)) ∧ (RI n pt ac u n)) (fun (u : (Nat → Int32)) => [((ad 40), .inr (5, [.int (ft), .int (nI (n)), .int (L), .ref ((ad 41)), .ref ((ad 42)), .ref ((ad 43)), .ref ((ad 44)), .int (nI (fl)), .int (nI (rk)), .ref ((ad 45)), .ref ((ad 46)), .ref ((ad 47)), .int (rs), .ref ((ad 48)), .long (dr), .int (nI (wo)), .ref ((ad 49)), .ref ((ad 50)), .ref ((ad 51)), .ref ((ad 52)), .ref ((ad 53)), .ref ((ad 54)), .ref ((ad 55)), .ref ((ad 56)), .ref ((ad 57)), .ref ((ad 58)), .int (tc)])), ((ad 41), .inl (cyI, 12, .inl (fun zj => nI (mk zj)))), ((ad 42), .inl (cyI, 12, .inl (fun zj => nI (pt zj)))), ((ad 43), .inl (cyI, 72, .inl (fun zj => nI (tp zj)))), ((ad 44), .inl (cyI, 72, .inl (fun zj => nI (tj zj)))), ((ad 45), .inl (cyI, 12, .inl u))]) := by
  refine CtI.mk (cc := cX5_told) (maxL := 2) (by decide) rfl (Nat.le_of_ble_eq_true rfl) ?_
  intro zp ze zs zm za zb zt zc zA zQ ls hC hw hl hret
  replace hC : CallFix zp zm zc cX5_told 2 zs za wsX5_told RX5 := hC
  replace hl : lv_has ls 2 [(0, .ref ((ad 40))), (1, .int (nI (4)))] := hl
  refine lv_iload_n hC.1 hC.2.1 dX5_told_0 rfl (lv_at hl 1 rfl) ?_
  refine lv_tableIn (off := 64) (tgt := 65) hC.1 hC.2.1 dX5_told_1 (by decide) (by decide) (by decide) (by decide) ?_
  refine lv_aload_n hC.1 hC.2.1 dX5_told_65 rfl (lv_at hl 0 rfl) ?_
  refine W.ccI (wc := [((ad 40), .inr (5, [.int (ft), .int (nI (n)), .int (L), .ref ((ad 41)), .ref ((ad 42)), .ref ((ad 43)), .ref ((ad 44)), .int (nI (fl)), .int (nI (rk)), .ref ((ad 45)), .ref ((ad 46)), .ref ((ad 47)), .int (rs), .ref ((ad 48)), .long (dr), .int (nI (wo)), .ref ((ad 49)), .ref ((ad 50)), .ref ((ad 51)), .ref ((ad 52)), .ref ((ad 53)), .ref ((ad 54)), .ref ((ad 55)), .ref ((ad 56)), .ref ((ad 57)), .ref ((ad 58)), .int (tc)])), ((ad 41), .inl (cyI, 12, .inl (fun zj => nI (mk zj)))), ((ad 42), .inl (cyI, 12, .inl (fun zj => nI (pt zj)))), ((ad 43), .inl (cyI, 72, .inl (fun zj => nI (tp zj)))), ((ad 44), .inl (cyI, 72, .inl (fun zj => nI (tj zj)))), ((ad 45), .inl (cyI, 12, .inl fa))]) (wr := []) (ws1 := fun (u : (Nat → Int32)) => [((ad 40), .inr (5, [.int (ft), .int (nI (n)), .int (L), .ref ((ad 41)), .ref ((ad 42)), .ref ((ad 43)), .ref ((ad 44)), .int (nI (fl)), .int (nI (rk)), .ref ((ad 45)), .ref ((ad 46)), .ref ((ad 47)), .int (rs), .ref ((ad 48)), .long (dr), .int (nI (wo)), .ref ((ad 49)), .ref ((ad 50)), .ref ((ad 51)), .ref ((ad 52)), .ref ((ad 53)), .ref ((ad 54)), .ref ((ad 55)), .ref ((ad 56)), .ref ((ad 57)), .ref ((ad 58)), .int (tc)])), ((ad 41), .inl (cyI, 12, .inl (fun zj => nI (mk zj)))), ((ad 42), .inl (cyI, 12, .inl (fun zj => nI (pt zj)))), ((ad 43), .inl (cyI, 72, .inl (fun zj => nI (tp zj)))), ((ad 44), .inl (cyI, 72, .inl (fun zj => nI (tj zj)))), ((ad 45), .inl (cyI, 12, .inl u))]) (ws2 := fun (u : (Nat → Int32)) => [((ad 40), .inr (5, [.int (ft), .int (nI (n)), .int (L), .ref ((ad 41)), .ref ((ad 42)), .ref ((ad 43)), .ref ((ad 44)), .int (nI (fl)), .int (nI (rk)), .ref ((ad 45)), .ref ((ad 46)), .ref ((ad 47)), .int (rs), .ref ((ad 48)), .long (dr), .int (nI (wo)), .ref ((ad 49)), .ref ((ad 50)), .ref ((ad 51)), .ref ((ad 52)), .ref ((ad 53)), .ref ((ad 54)), .ref ((ad 55)), .ref ((ad 56)), .ref ((ad 57)), .ref ((ad 58)), .int (tc)])), ((ad 41), .inl (cyI, 12, .inl (fun zj => nI (mk zj)))), ((ad 42), .inl (cyI, 12, .inl (fun zj => nI (pt zj)))), ((ad 43), .inl (cyI, 72, .inl (fun zj => nI (tp zj)))), ((ad 44), .inl (cyI, 72, .inl (fun zj => nI (tj zj)))), ((ad 45), .inl (cyI, 12, .inl u))]) hw [0, 1, 2, 3, 4, 5] [] [0, 1, 2, 3, 4, 5] rfl rfl (by decide) (by decide) (by decide) (fun _ => rfl) (Wd.runV (wc := [((ad 40), .inr (5, [.int (ft), .int (nI (n)), .int (L), .ref ((ad 41)), .ref ((ad 42)), .ref ((ad 43)), .ref ((ad 44)), .int (nI (fl)), .int (nI (rk)), .ref ((ad 45)), .ref ((ad 46)), .ref ((ad 47)), .int (rs), .ref ((ad 48)), .long (dr), .int (nI (wo)), .ref ((ad 49)), .ref ((ad 50)), .ref ((ad 51)), .ref ((ad 52)), .ref ((ad 53)), .ref ((ad 54)), .ref ((ad 55)), .ref ((ad 56)), .ref ((ad 57)), .ref ((ad 58)), .int (tc)])), ((ad 41), .inl (cyI, 12, .inl (fun zj => nI (mk zj)))), ((ad 42), .inl (cyI, 12, .inl (fun zj => nI (pt zj)))), ((ad 43), .inl (cyI, 72, .inl (fun zj => nI (tp zj)))), ((ad 44), .inl (cyI, 72, .inl (fun zj => nI (tj zj)))), ((ad 45), .inl (cyI, 12, .inl fa))]) (rest := []) (As := []) hC hw [0, 1, 2, 3, 4, 5] rfl (by decide) 0 rfl rfl (cwV 0 hC.2.2.2.2 gX5_told_X5_reach rfl rfl rfl (by decide +kernel) ⟨Nat.le_of_ble_eq_true rfl, Nat.le_of_ble_eq_true rfl⟩) (c_X5_reach_ l dC dI cyI cyJ cyZ cyS ad ft n L fl rk rs dr wo tc mk pt tp tj fa ac (by first | assumption | omega) (by first | assumption | omega) _) rfl hl.1 rfl (Nat.le_of_ble_eq_true rfl) dX5_told_66 ⟨Nat.zero_le _, Nat.zero_le _⟩) (fun r_66 u H locs hr_66 hw => ?_)
  obtain ⟨fa2_66, rfl⟩ : ∃ z, z = u := ⟨_, rfl⟩
  replace hw : Wd dC dI (tysA cyI cyJ cyZ cyS) [((ad 40), .inr (5, [.int (ft), .int (nI (n)), .int (L), .ref ((ad 41)), .ref ((ad 42)), .ref ((ad 43)), .ref ((ad 44)), .int (nI (fl)), .int (nI (rk)), .ref ((ad 45)), .ref ((ad 46)), .ref ((ad 47)), .int (rs), .ref ((ad 48)), .long (dr), .int (nI (wo)), .ref ((ad 49)), .ref ((ad 50)), .ref ((ad 51)), .ref ((ad 52)), .ref ((ad 53)), .ref ((ad 54)), .ref ((ad 55)), .ref ((ad 56)), .ref ((ad 57)), .ref ((ad 58)), .int (tc)])), ((ad 41), .inl (cyI, 12, .inl (fun zj => nI (mk zj)))), ((ad 42), .inl (cyI, 12, .inl (fun zj => nI (pt zj)))), ((ad 43), .inl (cyI, 72, .inl (fun zj => nI (tp zj)))), ((ad 44), .inl (cyI, 72, .inl (fun zj => nI (tj zj)))), ((ad 45), .inl (cyI, 12, .inl fa2_66))] zA zs H locs := hw
  obtain ⟨hr_66, hR_66⟩ := hr_66
  try dsimp only at hR_66
  try dsimp only at hr_66
  subst hr_66
  exact hret _ _ _ ls (nI (cntR fa2_66 n)) fa2_66 dX5_told_69 rfl ⟨rfl, (by (try dsimp only); exact hR_66)⟩ hw

set_option maxHeartbeats 4000000 in
set_option maxRecDepth 100000 in
theorem c_X5_rankAt_0 (l : Launch) (dC : Nat → ClassId) (dI : Nat → Nat → Nat) (cyI cyJ cyZ cyS : ClassId) (ad : Nat → Nat) (ft : Int32) (n : Nat) (L : Int32) (fl rk : Nat) (rs : Int32) (dr : Int64) (wo : Nat) (tc : Int32) (mk : Nat → Nat) (pt : Nat → Nat) (tp : Nat → Nat) (tj : Nat → Nat) (ra : Nat → Nat) (ul : Nat → Nat) (ro : Nat → Nat) (ac : Nat → Nat) (hN : NOk n mk pt ac) (hNR : NR n pt ac tp tj) : CtV l yX5_rankAt wsX5_rankAt ({ frames := 2, cells := 0, slots := 0, locals := 47 } : Room) dC dI (tysA cyI cyJ cyZ cyS) [.ref ((ad 40)), .int (nI (0))] [((ad 40), .inr (5, [.int (ft), .int (nI (n)), .int (L), .ref ((ad 41)), .ref ((ad 42)), .ref ((ad 43)), .ref ((ad 44)), .int (nI (fl)), .int (nI (rk)), .ref ((ad 45)), .ref ((ad 46)), .ref ((ad 47)), .int (rs), .ref ((ad 48)), .long (dr), .int (nI (wo)), .ref ((ad 49)), .ref ((ad 50)), .ref ((ad 51)), .ref ((ad 52)), .ref ((ad 53)), .ref ((ad 54)), .ref ((ad 55)), .ref ((ad 56)), .ref ((ad 57)), .ref ((ad 58)), .int (tc)])), ((ad 41), .inl (cyI, 12, .inl (fun zj => nI (mk zj)))), ((ad 42), .inl (cyI, 12, .inl (fun zj => nI (pt zj)))), ((ad 43), .inl (cyI, 72, .inl (fun zj => nI (tp zj)))), ((ad 44), .inl (cyI, 72, .inl (fun zj => nI (tj zj)))), ((ad 46), .inl (cyI, 264, .inl (fun zj => nI (ra zj)))), ((ad 47), .inl (cyI, 22, .inl (fun zj => nI (ul zj)))), ((ad 48), .inl (cyI, 12, .inl (fun zj => nI (ro zj))))] (S := (Nat → Nat) × (Nat → Nat) × (Nat → Nat)) (fun (u : (Nat → Nat) × (Nat → Nat) × (Nat → Nat)) => (∃ w, u.2.1 = va_up ul 0 w ∧ Rk n (KM mk pt ac ra 0) (fun z => u.1 (12 * 0 + z)) w ∧ ∀ j, j < 12 * 0 → u.1 j = ra j)) (fun (u : (Nat → Nat) × (Nat → Nat) × (Nat → Nat)) => [((ad 40), .inr (5, [.int (ft), .int (nI (n)), .int (L), .ref ((ad 41)), .ref ((ad 42)), .ref ((ad 43)), .ref ((ad 44)), .int (nI (fl)), .int (nI (rk)), .ref ((ad 45)), .ref ((ad 46)), .ref ((ad 47)), .int (rs), .ref ((ad 48)), .long (dr), .int (nI (wo)), .ref ((ad 49)), .ref ((ad 50)), .ref ((ad 51)), .ref ((ad 52)), .ref ((ad 53)), .ref ((ad 54)), .ref ((ad 55)), .ref ((ad 56)), .ref ((ad 57)), .ref ((ad 58)), .int (tc)])), ((ad 41), .inl (cyI, 12, .inl (fun zj => nI (mk zj)))), ((ad 42), .inl (cyI, 12, .inl (fun zj => nI (pt zj)))), ((ad 43), .inl (cyI, 72, .inl (fun zj => nI (tp zj)))), ((ad 44), .inl (cyI, 72, .inl (fun zj => nI (tj zj)))), ((ad 46), .inl (cyI, 264, .inl (fun zj => nI (u.1 zj)))), ((ad 47), .inl (cyI, 22, .inl (fun zj => nI (u.2.1 zj)))), ((ad 48), .inl (cyI, 12, .inl (fun zj => nI (u.2.2 zj))))]) := by
  refine CtV.mk (cc := cX5_rankAt) (maxL := 4) (by decide) rfl (Nat.le_of_ble_eq_true rfl) ?_
  intro zp ze zs zm za zb zt zc zA zQ ls hC hw hl hret
  replace hC : CallFix zp zm zc cX5_rankAt 4 zs za wsX5_rankAt RX5 := hC
  replace hl : lv_has ls 4 [(0, .ref ((ad 40))), (1, .int (nI (0)))] := hl
  have hin5 : ∀ w ∈ u_ws RX5 TX5 27, w ∈ wsX5_rankAt := fun w h => List.mem_cons_of_mem _ (List.mem_append_right _ h)
  have lk25 : Cond.fieldLink RX5 25 (TX5 10).1 (TX5 10).2.1 (TX5 10).2.2.1 ∈ wsX5_rankAt := List.mem_of_getElem? (i := 3) rfl
  have lk28 : Cond.fieldLink RX5 28 (TX5 11).1 (TX5 11).2.1 (TX5 11).2.2.1 ∈ wsX5_rankAt := List.mem_of_getElem? (i := 4) rfl
  have lk31 : Cond.fieldLink RX5 31 (TX5 13).1 (TX5 13).2.1 (TX5 13).2.2.1 ∈ wsX5_rankAt := List.mem_of_getElem? (i := 2) rfl
  have lk74 : Cond.fieldLink RX5 74 (TX5 1).1 (TX5 1).2.1 (TX5 1).2.2.1 ∈ wsX5_rankAt := List.mem_of_getElem? (i := 1) rfl
  have hn := hN.n12
  refine lv_iconst (v := nI 0) hC.1 hC.2.1 dX5_rankAt_0 (by decide) ?_
  refine lv_istore_n (lv' := [(2, .int (nI (0))), (0, .ref ((ad 40))), (1, .int (nI (0)))]) hC.1 hC.2.1 dX5_rankAt_1 rfl hl (by decide) rfl (fun ls hl => ?_)
  have K2 : ∀ (zk : Nat), ∀ (p : Nat) (ro1 : Nat → Nat) (H : Heap) (locs : List Loc) (ls : Array Slot), n - p < zk → (p ≤ n) → (SO (K0 mk pt) ro1 p) → Wd dC dI (tysA cyI cyJ cyZ cyS) [((ad 40), .inr (5, [.int (ft), .int (nI (n)), .int (L), .ref ((ad 41)), .ref ((ad 42)), .ref ((ad 43)), .ref ((ad 44)), .int (nI (fl)), .int (nI (rk)), .ref ((ad 45)), .ref ((ad 46)), .ref ((ad 47)), .int (rs), .ref ((ad 48)), .long (dr), .int (nI (wo)), .ref ((ad 49)), .ref ((ad 50)), .ref ((ad 51)), .ref ((ad 52)), .ref ((ad 53)), .ref ((ad 54)), .ref ((ad 55)), .ref ((ad 56)), .ref ((ad 57)), .ref ((ad 58)), .int (tc)])), ((ad 41), .inl (cyI, 12, .inl (fun zj => nI (mk zj)))), ((ad 42), .inl (cyI, 12, .inl (fun zj => nI (pt zj)))), ((ad 43), .inl (cyI, 72, .inl (fun zj => nI (tp zj)))), ((ad 44), .inl (cyI, 72, .inl (fun zj => nI (tj zj)))), ((ad 46), .inl (cyI, 264, .inl (fun zj => nI (ra zj)))), ((ad 47), .inl (cyI, 22, .inl (fun zj => nI (ul zj)))), ((ad 48), .inl (cyI, 12, .inl (fun zj => nI (ro1 zj))))] zA zs H locs → lv_has ls 4 [(0, .ref ((ad 40))), (1, .int (nI (0))), (2, .int (nI (p)))] → W zp l ze ({ frames := 2, cells := 0, slots := 0, locals := 47 } : Room) zs zm za zb zt zc H locs 0 0 zQ (F0 zm 2 ls []) := by
    intro zk
    induction zk with
    | zero => intro p ro1 H locs ls h0; exact absurd h0 (Nat.not_lt_zero _)
    | succ zk ih2 =>
      intro p ro1 H locs ls hmu hp hS hw hl
      refine lv_iload_n hC.1 hC.2.1 dX5_rankAt_2 rfl (lv_at hl 2 rfl) ?_
      refine lv_aload_n hC.1 hC.2.1 dX5_rankAt_3 rfl (lv_at hl 0 rfl) ?_
      refine g_get hC hw hin5 0 rfl rfl 1 (by decide) lk74 rfl dX5_rankAt_4 ?_
      refine n_icmp_ge (tgt := 66) hC dX5_rankAt_7 (by decide) (by omega) (by omega) (fun c_7 => ?_) (fun c_7 => ?_)
      · skip
        obtain rfl : n = p := by omega
        refine lv_iconst (v := nI 0) hC.1 hC.2.1 dX5_rankAt_66 (by decide) ?_
        refine lv_istore_n (lv' := [(2, .int (nI (0))), (0, .ref ((ad 40))), (1, .int (nI (0)))]) hC.1 hC.2.1 dX5_rankAt_67 rfl hl (by decide) rfl (fun ls hl => ?_)
        refine lv_iconst (v := nI 0) hC.1 hC.2.1 dX5_rankAt_68 (by decide) ?_
        refine lv_istore_n (lv' := [(3, .int (nI (0))), (2, .int (nI (0))), (0, .ref ((ad 40))), (1, .int (nI (0)))]) hC.1 hC.2.1 dX5_rankAt_69 rfl hl (by decide) rfl (fun ls hl => ?_)
        have K70 : ∀ (zk : Nat), ∀ (r : Nat) (k : Nat) (ra1 : Nat → Nat) (H : Heap) (locs : List Loc) (ls : Array Slot), n - k < zk → (k ≤ n) → (r = chg (K0 mk pt) ro1 (k - 1)) → (RW (K0 mk pt) ro1 ra1 (12 * 0) k) → (∀ j, j < 12 * 0 → ra1 j = ra j) → Wd dC dI (tysA cyI cyJ cyZ cyS) [((ad 40), .inr (5, [.int (ft), .int (nI (n)), .int (L), .ref ((ad 41)), .ref ((ad 42)), .ref ((ad 43)), .ref ((ad 44)), .int (nI (fl)), .int (nI (rk)), .ref ((ad 45)), .ref ((ad 46)), .ref ((ad 47)), .int (rs), .ref ((ad 48)), .long (dr), .int (nI (wo)), .ref ((ad 49)), .ref ((ad 50)), .ref ((ad 51)), .ref ((ad 52)), .ref ((ad 53)), .ref ((ad 54)), .ref ((ad 55)), .ref ((ad 56)), .ref ((ad 57)), .ref ((ad 58)), .int (tc)])), ((ad 41), .inl (cyI, 12, .inl (fun zj => nI (mk zj)))), ((ad 42), .inl (cyI, 12, .inl (fun zj => nI (pt zj)))), ((ad 43), .inl (cyI, 72, .inl (fun zj => nI (tp zj)))), ((ad 44), .inl (cyI, 72, .inl (fun zj => nI (tj zj)))), ((ad 46), .inl (cyI, 264, .inl (fun zj => nI (ra1 zj)))), ((ad 47), .inl (cyI, 22, .inl (fun zj => nI (ul zj)))), ((ad 48), .inl (cyI, 12, .inl (fun zj => nI (ro1 zj))))] zA zs H locs → lv_has ls 4 [(0, .ref ((ad 40))), (1, .int (nI (0))), (2, .int (nI (r))), (3, .int (nI (k)))] → W zp l ze ({ frames := 2, cells := 0, slots := 0, locals := 47 } : Room) zs zm za zb zt zc H locs 0 0 zQ (F0 zm 70 ls []) := by
          intro zk
          induction zk with
          | zero => intro r k ra1 H locs ls h0; exact absurd h0 (Nat.not_lt_zero _)
          | succ zk ih70 =>
            intro r k ra1 H locs ls hmu hk hr hW hfr hw hl
            refine lv_iload_n hC.1 hC.2.1 dX5_rankAt_70 rfl (lv_at hl 3 rfl) ?_
            refine lv_aload_n hC.1 hC.2.1 dX5_rankAt_71 rfl (lv_at hl 0 rfl) ?_
            refine g_get hC hw hin5 0 rfl rfl 1 (by decide) lk74 rfl dX5_rankAt_72 ?_
            refine n_icmp_ge (tgt := 135) hC dX5_rankAt_75 (by decide) (by omega) (by omega) (fun c_75 => ?_) (fun c_75 => ?_)
            · skip
              obtain rfl : n = k := by omega
              have hcl2 := chg_le (K0 mk pt) ro1 (n - 1)
              refine lv_aload_n hC.1 hC.2.1 dX5_rankAt_135 rfl (lv_at hl 0 rfl) ?_
              refine g_get hC hw hin5 0 rfl rfl 11 (by decide) lk28 rfl dX5_rankAt_136 ?_
              refine lv_iload_n hC.1 hC.2.1 dX5_rankAt_139 rfl (lv_at hl 1 rfl) ?_
              refine lv_aload_n hC.1 hC.2.1 dX5_rankAt_140 rfl (lv_at hl 0 rfl) ?_
              refine g_get hC hw hin5 0 rfl rfl 1 (by decide) lk74 rfl dX5_rankAt_141 ?_
              refine n_if_ne (tgt := 151) hC dX5_rankAt_144 (by decide) (by omega) (fun c_144 => ?_) (fun c_144 => ?_)
              · skip
                refine lv_iload_n hC.1 hC.2.1 dX5_rankAt_151 rfl (lv_at hl 2 rfl) ?_
                refine lv_iconst (v := nI 1) hC.1 hC.2.1 dX5_rankAt_152 (by decide) ?_
                refine n_iadd hC dX5_rankAt_153 ?_
                refine g_iastN hC hw 6 0 rfl rfl (by omega) (by first | decide | omega) dX5_rankAt_154 (fun H locs hw => ?_)
                replace hw : Wd dC dI (tysA cyI cyJ cyZ cyS) [((ad 40), .inr (5, [.int (ft), .int (nI (n)), .int (L), .ref ((ad 41)), .ref ((ad 42)), .ref ((ad 43)), .ref ((ad 44)), .int (nI (fl)), .int (nI (rk)), .ref ((ad 45)), .ref ((ad 46)), .ref ((ad 47)), .int (rs), .ref ((ad 48)), .long (dr), .int (nI (wo)), .ref ((ad 49)), .ref ((ad 50)), .ref ((ad 51)), .ref ((ad 52)), .ref ((ad 53)), .ref ((ad 54)), .ref ((ad 55)), .ref ((ad 56)), .ref ((ad 57)), .ref ((ad 58)), .int (tc)])), ((ad 41), .inl (cyI, 12, .inl (fun zj => nI (mk zj)))), ((ad 42), .inl (cyI, 12, .inl (fun zj => nI (pt zj)))), ((ad 43), .inl (cyI, 72, .inl (fun zj => nI (tp zj)))), ((ad 44), .inl (cyI, 72, .inl (fun zj => nI (tj zj)))), ((ad 46), .inl (cyI, 264, .inl (fun zj => nI (ra1 zj)))), ((ad 47), .inl (cyI, 22, .inl (fun zj => nI ((va_up ul 0 (r + 1)) zj)))), ((ad 48), .inl (cyI, 12, .inl (fun zj => nI (ro1 zj))))] zA zs H locs := hw
                exact hret _ _ _ ls  ⟨ra1, va_up ul 0 (r + 1), ro1⟩ dX5_rankAt_155 (by (try dsimp only); refine ⟨_, rfl, ?_, hfr⟩; have h9 := RW.done (r := fun z => ra1 (12 * 0 + z)) hS hW (fun p hp => rfl); first | (rw [if_pos (by omega)] at h9; exact h9) | (rw [if_neg (by omega), ← hr] at h9; exact h9)) hw
              · skip
                refine lv_iconst (v := nI 0) hC.1 hC.2.1 dX5_rankAt_147 (by decide) ?_
                refine lv_goto (tgt := 154) hC.1 hC.2.1 dX5_rankAt_148 (by decide) ?_
                refine g_iastN hC hw 6 0 rfl rfl (by omega) (by first | decide | omega) dX5_rankAt_154 (fun H locs hw => ?_)
                replace hw : Wd dC dI (tysA cyI cyJ cyZ cyS) [((ad 40), .inr (5, [.int (ft), .int (nI (n)), .int (L), .ref ((ad 41)), .ref ((ad 42)), .ref ((ad 43)), .ref ((ad 44)), .int (nI (fl)), .int (nI (rk)), .ref ((ad 45)), .ref ((ad 46)), .ref ((ad 47)), .int (rs), .ref ((ad 48)), .long (dr), .int (nI (wo)), .ref ((ad 49)), .ref ((ad 50)), .ref ((ad 51)), .ref ((ad 52)), .ref ((ad 53)), .ref ((ad 54)), .ref ((ad 55)), .ref ((ad 56)), .ref ((ad 57)), .ref ((ad 58)), .int (tc)])), ((ad 41), .inl (cyI, 12, .inl (fun zj => nI (mk zj)))), ((ad 42), .inl (cyI, 12, .inl (fun zj => nI (pt zj)))), ((ad 43), .inl (cyI, 72, .inl (fun zj => nI (tp zj)))), ((ad 44), .inl (cyI, 72, .inl (fun zj => nI (tj zj)))), ((ad 46), .inl (cyI, 264, .inl (fun zj => nI (ra1 zj)))), ((ad 47), .inl (cyI, 22, .inl (fun zj => nI ((va_up ul 0 0) zj)))), ((ad 48), .inl (cyI, 12, .inl (fun zj => nI (ro1 zj))))] zA zs H locs := hw
                exact hret _ _ _ ls  ⟨ra1, va_up ul 0 0, ro1⟩ dX5_rankAt_155 (by (try dsimp only); refine ⟨_, rfl, ?_, hfr⟩; have h9 := RW.done (r := fun z => ra1 (12 * 0 + z)) hS hW (fun p hp => rfl); first | (rw [if_pos (by omega)] at h9; exact h9) | (rw [if_neg (by omega), ← hr] at h9; exact h9)) hw
            · skip
              have hkl := hS.lt (j := k) (by omega)
              have hcl := chg_le (K0 mk pt) ro1 (k - 1)
              refine lv_iload_n hC.1 hC.2.1 dX5_rankAt_78 rfl (lv_at hl 2 rfl) ?_
              refine lv_iload_n hC.1 hC.2.1 dX5_rankAt_79 rfl (lv_at hl 3 rfl) ?_
              refine n_if_le (tgt := 109) hC dX5_rankAt_80 (by decide) (by omega) (fun c_80 => ?_) (fun c_80 => ?_)
              · skip
                refine lv_iconst (v := nI 0) hC.1 hC.2.1 dX5_rankAt_109 (by decide) ?_
                refine n_iadd hC dX5_rankAt_110 ?_
                refine lv_istore_n (lv' := [(2, .int (nI (r + 0))), (0, .ref ((ad 40))), (1, .int (nI (0))), (3, .int (nI (k)))]) hC.1 hC.2.1 dX5_rankAt_111 rfl hl (by decide) rfl (fun ls hl => ?_)
                have hrn : r + 0 = chg (K0 mk pt) ro1 k := by first | (rw [chg_nx c_80, if_pos (Iff.rfl.mp (cmpN_0.mp c_102)), ← hr]; done) | (rw [chg_nx c_80, if_neg (fun z => c_102 (cmpN_0.mpr (Iff.rfl.mpr z))), ← hr]; done) | (rw [hr, show k = 0 by omega]; rfl)
                refine lv_aload_n hC.1 hC.2.1 dX5_rankAt_112 rfl (lv_at hl 1 rfl) ?_
                refine g_get hC hw hin5 0 rfl rfl 10 (by decide) lk25 rfl dX5_rankAt_113 ?_
                refine lv_bipush (v := nI 12) hC.1 hC.2.1 dX5_rankAt_116 (by decide) ?_
                refine lv_iload_n hC.1 hC.2.1 dX5_rankAt_118 rfl (lv_at hl 2 rfl) ?_
                refine n_imul hC dX5_rankAt_119 ?_
                refine lv_aload_n hC.1 hC.2.1 dX5_rankAt_120 rfl (lv_at hl 1 rfl) ?_
                refine g_get hC hw hin5 0 rfl rfl 13 (by decide) lk31 rfl dX5_rankAt_121 ?_
                refine lv_iload_n hC.1 hC.2.1 dX5_rankAt_124 rfl (lv_at hl 3 rfl) ?_
                refine g_ialdN hC hw 7 0 rfl rfl (by omega) (by first | decide | omega) dX5_rankAt_125 ?_
                refine n_iadd hC dX5_rankAt_126 ?_
                refine lv_iload_n hC.1 hC.2.1 dX5_rankAt_127 rfl (lv_at hl 0 rfl) ?_
                refine g_iastN hC hw 5 0 rfl rfl (by omega) (by first | decide | omega) dX5_rankAt_128 (fun H locs hw => ?_)
                replace hw : Wd dC dI (tysA cyI cyJ cyZ cyS) [((ad 40), .inr (5, [.int (ft), .int (nI (n)), .int (L), .ref ((ad 41)), .ref ((ad 42)), .ref ((ad 43)), .ref ((ad 44)), .int (nI (fl)), .int (nI (rk)), .ref ((ad 45)), .ref ((ad 46)), .ref ((ad 47)), .int (rs), .ref ((ad 48)), .long (dr), .int (nI (wo)), .ref ((ad 49)), .ref ((ad 50)), .ref ((ad 51)), .ref ((ad 52)), .ref ((ad 53)), .ref ((ad 54)), .ref ((ad 55)), .ref ((ad 56)), .ref ((ad 57)), .ref ((ad 58)), .int (tc)])), ((ad 41), .inl (cyI, 12, .inl (fun zj => nI (mk zj)))), ((ad 42), .inl (cyI, 12, .inl (fun zj => nI (pt zj)))), ((ad 43), .inl (cyI, 72, .inl (fun zj => nI (tp zj)))), ((ad 44), .inl (cyI, 72, .inl (fun zj => nI (tj zj)))), ((ad 46), .inl (cyI, 264, .inl (fun zj => nI ((va_up ra1 ((12 * 0) + (ro1 k)) (r + 0)) zj)))), ((ad 47), .inl (cyI, 22, .inl (fun zj => nI (ul zj)))), ((ad 48), .inl (cyI, 12, .inl (fun zj => nI (ro1 zj))))] zA zs H locs := hw
                refine lv_iinc (v := nI (k + 1)) (lv' := [(3, .int (nI (k + 1))), (2, .int (nI (r + 0))), (0, .ref ((ad 40))), (1, .int (nI (0)))]) hC.1 hC.2.1 dX5_rankAt_129 hl (k := 3) rfl (nI_inc k 1) (by decide) rfl (fun ls hl => ?_)
                refine lv_goto (tgt := 70) hC.1 hC.2.1 dX5_rankAt_132 (by decide) ?_
                exact ih70 (r + 0) (k + 1) (va_up ra1 ((12 * 0) + (ro1 k)) (r + 0)) _ _ ls (by omega) (by omega) (by rw [Nat.add_sub_cancel]; exact hrn) (by exact hW.step hS (by omega) hrn) (by intro j h; rw [va_up_ne _ _ (by omega)]; exact hfr j h) hw (lv_sub hl [2, 3, 1, 0] rfl)
              · skip
                have hkl1 := hS.lt (j := k - 1) (by omega)
                refine lv_aload_n hC.1 hC.2.1 dX5_rankAt_83 rfl (lv_at hl 0 rfl) ?_
                refine lv_aload_n hC.1 hC.2.1 dX5_rankAt_84 rfl (lv_at hl 0 rfl) ?_
                refine g_get hC hw hin5 0 rfl rfl 13 (by decide) lk31 rfl dX5_rankAt_85 ?_
                refine lv_iload_n hC.1 hC.2.1 dX5_rankAt_88 rfl (lv_at hl 3 rfl) ?_
                refine lv_iconst (v := nI 1) hC.1 hC.2.1 dX5_rankAt_89 (by decide) ?_
                refine n_isub hC dX5_rankAt_90 (by omega) ?_
                refine g_ialdN hC hw 7 0 rfl rfl (by omega) (by first | decide | omega) dX5_rankAt_91 ?_
                refine lv_aload_n hC.1 hC.2.1 dX5_rankAt_92 rfl (lv_at hl 0 rfl) ?_
                refine g_get hC hw hin5 0 rfl rfl 13 (by decide) lk31 rfl dX5_rankAt_93 ?_
                refine lv_iload_n hC.1 hC.2.1 dX5_rankAt_96 rfl (lv_at hl 3 rfl) ?_
                refine g_ialdN hC hw 7 0 rfl rfl (by omega) (by first | decide | omega) dX5_rankAt_97 ?_
                refine lv_iload_n hC.1 hC.2.1 dX5_rankAt_98 rfl (lv_at hl 1 rfl) ?_
                refine W.ccI (wc := [((ad 40), .inr (5, [.int (ft), .int (nI (n)), .int (L), .ref ((ad 41)), .ref ((ad 42)), .ref ((ad 43)), .ref ((ad 44)), .int (nI (fl)), .int (nI (rk)), .ref ((ad 45)), .ref ((ad 46)), .ref ((ad 47)), .int (rs), .ref ((ad 48)), .long (dr), .int (nI (wo)), .ref ((ad 49)), .ref ((ad 50)), .ref ((ad 51)), .ref ((ad 52)), .ref ((ad 53)), .ref ((ad 54)), .ref ((ad 55)), .ref ((ad 56)), .ref ((ad 57)), .ref ((ad 58)), .int (tc)])), ((ad 41), .inl (cyI, 12, .inl (fun zj => nI (mk zj)))), ((ad 42), .inl (cyI, 12, .inl (fun zj => nI (pt zj)))), ((ad 43), .inl (cyI, 72, .inl (fun zj => nI (tp zj)))), ((ad 44), .inl (cyI, 72, .inl (fun zj => nI (tj zj)))), ((ad 46), .inl (cyI, 264, .inl (fun zj => nI (ra1 zj))))]) (wr := [((ad 47), .inl (cyI, 22, .inl (fun zj => nI (ul zj)))), ((ad 48), .inl (cyI, 12, .inl (fun zj => nI (ro1 zj))))]) (ws1 := fun (u : Unit) => [((ad 40), .inr (5, [.int (ft), .int (nI (n)), .int (L), .ref ((ad 41)), .ref ((ad 42)), .ref ((ad 43)), .ref ((ad 44)), .int (nI (fl)), .int (nI (rk)), .ref ((ad 45)), .ref ((ad 46)), .ref ((ad 47)), .int (rs), .ref ((ad 48)), .long (dr), .int (nI (wo)), .ref ((ad 49)), .ref ((ad 50)), .ref ((ad 51)), .ref ((ad 52)), .ref ((ad 53)), .ref ((ad 54)), .ref ((ad 55)), .ref ((ad 56)), .ref ((ad 57)), .ref ((ad 58)), .int (tc)])), ((ad 41), .inl (cyI, 12, .inl (fun zj => nI (mk zj)))), ((ad 42), .inl (cyI, 12, .inl (fun zj => nI (pt zj)))), ((ad 43), .inl (cyI, 72, .inl (fun zj => nI (tp zj)))), ((ad 44), .inl (cyI, 72, .inl (fun zj => nI (tj zj)))), ((ad 46), .inl (cyI, 264, .inl (fun zj => nI (ra1 zj))))]) (ws2 := fun (u : Unit) => [((ad 40), .inr (5, [.int (ft), .int (nI (n)), .int (L), .ref ((ad 41)), .ref ((ad 42)), .ref ((ad 43)), .ref ((ad 44)), .int (nI (fl)), .int (nI (rk)), .ref ((ad 45)), .ref ((ad 46)), .ref ((ad 47)), .int (rs), .ref ((ad 48)), .long (dr), .int (nI (wo)), .ref ((ad 49)), .ref ((ad 50)), .ref ((ad 51)), .ref ((ad 52)), .ref ((ad 53)), .ref ((ad 54)), .ref ((ad 55)), .ref ((ad 56)), .ref ((ad 57)), .ref ((ad 58)), .int (tc)])), ((ad 41), .inl (cyI, 12, .inl (fun zj => nI (mk zj)))), ((ad 42), .inl (cyI, 12, .inl (fun zj => nI (pt zj)))), ((ad 43), .inl (cyI, 72, .inl (fun zj => nI (tp zj)))), ((ad 44), .inl (cyI, 72, .inl (fun zj => nI (tj zj)))), ((ad 46), .inl (cyI, 264, .inl (fun zj => nI (ra1 zj)))), ((ad 47), .inl (cyI, 22, .inl (fun zj => nI (ul zj)))), ((ad 48), .inl (cyI, 12, .inl (fun zj => nI (ro1 zj))))]) hw [0, 1, 2, 3, 4, 5] [6, 7] [2, 3, 4, 5, 6, 7, 0, 1] rfl rfl (by decide) (by decide) (by decide) (fun _ => rfl) (Wd.runV (wc := [((ad 40), .inr (5, [.int (ft), .int (nI (n)), .int (L), .ref ((ad 41)), .ref ((ad 42)), .ref ((ad 43)), .ref ((ad 44)), .int (nI (fl)), .int (nI (rk)), .ref ((ad 45)), .ref ((ad 46)), .ref ((ad 47)), .int (rs), .ref ((ad 48)), .long (dr), .int (nI (wo)), .ref ((ad 49)), .ref ((ad 50)), .ref ((ad 51)), .ref ((ad 52)), .ref ((ad 53)), .ref ((ad 54)), .ref ((ad 55)), .ref ((ad 56)), .ref ((ad 57)), .ref ((ad 58)), .int (tc)])), ((ad 41), .inl (cyI, 12, .inl (fun zj => nI (mk zj)))), ((ad 42), .inl (cyI, 12, .inl (fun zj => nI (pt zj)))), ((ad 43), .inl (cyI, 72, .inl (fun zj => nI (tp zj)))), ((ad 44), .inl (cyI, 72, .inl (fun zj => nI (tj zj)))), ((ad 46), .inl (cyI, 264, .inl (fun zj => nI (ra1 zj))))]) (rest := [.int (nI (r))]) (As := [.int (nI (ro1 (k - 1))), .int (nI (ro1 k)), .int (nI (0))]) hC hw [0, 1, 2, 3, 4, 5] rfl (by decide) 0 rfl rfl (cwV 3 hC.2.2.2.2 gX5_rankAt_X5_compare rfl rfl rfl (by decide +kernel) ⟨Nat.le_of_ble_eq_true rfl, Nat.le_of_ble_eq_true rfl⟩) (c_X5_compare_0 l dC dI cyI cyJ cyZ cyS ad ft n L fl rk rs dr wo tc mk pt tp tj ra1 ac (by first | assumption | omega) (by first | assumption | omega) (ro1 (k - 1)) (ro1 k) (by omega) (by omega) _) rfl hl.1 rfl (Nat.le_of_ble_eq_true rfl) dX5_rankAt_99 ⟨Nat.zero_le _, Nat.zero_le _⟩) (fun r_99 u H locs hr_99 hw => ?_)
                replace hw : Wd dC dI (tysA cyI cyJ cyZ cyS) [((ad 40), .inr (5, [.int (ft), .int (nI (n)), .int (L), .ref ((ad 41)), .ref ((ad 42)), .ref ((ad 43)), .ref ((ad 44)), .int (nI (fl)), .int (nI (rk)), .ref ((ad 45)), .ref ((ad 46)), .ref ((ad 47)), .int (rs), .ref ((ad 48)), .long (dr), .int (nI (wo)), .ref ((ad 49)), .ref ((ad 50)), .ref ((ad 51)), .ref ((ad 52)), .ref ((ad 53)), .ref ((ad 54)), .ref ((ad 55)), .ref ((ad 56)), .ref ((ad 57)), .ref ((ad 58)), .int (tc)])), ((ad 41), .inl (cyI, 12, .inl (fun zj => nI (mk zj)))), ((ad 42), .inl (cyI, 12, .inl (fun zj => nI (pt zj)))), ((ad 43), .inl (cyI, 72, .inl (fun zj => nI (tp zj)))), ((ad 44), .inl (cyI, 72, .inl (fun zj => nI (tj zj)))), ((ad 46), .inl (cyI, 264, .inl (fun zj => nI (ra1 zj)))), ((ad 47), .inl (cyI, 22, .inl (fun zj => nI (ul zj)))), ((ad 48), .inl (cyI, 12, .inl (fun zj => nI (ro1 zj))))] zA zs H locs := hw
                subst hr_99
                refine lv_if_eq (tgt := 109) hC.1 hC.2.1 dX5_rankAt_102 (by decide) (fun c_102 => ?_) (fun c_102 => ?_)
                · skip
                  refine lv_iconst (v := nI 0) hC.1 hC.2.1 dX5_rankAt_109 (by decide) ?_
                  refine n_iadd hC dX5_rankAt_110 ?_
                  refine lv_istore_n (lv' := [(2, .int (nI (r + 0))), (0, .ref ((ad 40))), (1, .int (nI (0))), (3, .int (nI (k)))]) hC.1 hC.2.1 dX5_rankAt_111 rfl hl (by decide) rfl (fun ls hl => ?_)
                  have hrn : r + 0 = chg (K0 mk pt) ro1 k := by first | (rw [chg_nx c_80, if_pos (Iff.rfl.mp (cmpN_0.mp c_102)), ← hr]; done) | (rw [chg_nx c_80, if_neg (fun z => c_102 (cmpN_0.mpr (Iff.rfl.mpr z))), ← hr]; done) | (rw [hr, show k = 0 by omega]; rfl)
                  refine lv_aload_n hC.1 hC.2.1 dX5_rankAt_112 rfl (lv_at hl 1 rfl) ?_
                  refine g_get hC hw hin5 0 rfl rfl 10 (by decide) lk25 rfl dX5_rankAt_113 ?_
                  refine lv_bipush (v := nI 12) hC.1 hC.2.1 dX5_rankAt_116 (by decide) ?_
                  refine lv_iload_n hC.1 hC.2.1 dX5_rankAt_118 rfl (lv_at hl 2 rfl) ?_
                  refine n_imul hC dX5_rankAt_119 ?_
                  refine lv_aload_n hC.1 hC.2.1 dX5_rankAt_120 rfl (lv_at hl 1 rfl) ?_
                  refine g_get hC hw hin5 0 rfl rfl 13 (by decide) lk31 rfl dX5_rankAt_121 ?_
                  refine lv_iload_n hC.1 hC.2.1 dX5_rankAt_124 rfl (lv_at hl 3 rfl) ?_
                  refine g_ialdN hC hw 7 0 rfl rfl (by omega) (by first | decide | omega) dX5_rankAt_125 ?_
                  refine n_iadd hC dX5_rankAt_126 ?_
                  refine lv_iload_n hC.1 hC.2.1 dX5_rankAt_127 rfl (lv_at hl 0 rfl) ?_
                  refine g_iastN hC hw 5 0 rfl rfl (by omega) (by first | decide | omega) dX5_rankAt_128 (fun H locs hw => ?_)
                  replace hw : Wd dC dI (tysA cyI cyJ cyZ cyS) [((ad 40), .inr (5, [.int (ft), .int (nI (n)), .int (L), .ref ((ad 41)), .ref ((ad 42)), .ref ((ad 43)), .ref ((ad 44)), .int (nI (fl)), .int (nI (rk)), .ref ((ad 45)), .ref ((ad 46)), .ref ((ad 47)), .int (rs), .ref ((ad 48)), .long (dr), .int (nI (wo)), .ref ((ad 49)), .ref ((ad 50)), .ref ((ad 51)), .ref ((ad 52)), .ref ((ad 53)), .ref ((ad 54)), .ref ((ad 55)), .ref ((ad 56)), .ref ((ad 57)), .ref ((ad 58)), .int (tc)])), ((ad 41), .inl (cyI, 12, .inl (fun zj => nI (mk zj)))), ((ad 42), .inl (cyI, 12, .inl (fun zj => nI (pt zj)))), ((ad 43), .inl (cyI, 72, .inl (fun zj => nI (tp zj)))), ((ad 44), .inl (cyI, 72, .inl (fun zj => nI (tj zj)))), ((ad 46), .inl (cyI, 264, .inl (fun zj => nI ((va_up ra1 ((12 * 0) + (ro1 k)) (r + 0)) zj)))), ((ad 47), .inl (cyI, 22, .inl (fun zj => nI (ul zj)))), ((ad 48), .inl (cyI, 12, .inl (fun zj => nI (ro1 zj))))] zA zs H locs := hw
                  refine lv_iinc (v := nI (k + 1)) (lv' := [(3, .int (nI (k + 1))), (2, .int (nI (r + 0))), (0, .ref ((ad 40))), (1, .int (nI (0)))]) hC.1 hC.2.1 dX5_rankAt_129 hl (k := 3) rfl (nI_inc k 1) (by decide) rfl (fun ls hl => ?_)
                  refine lv_goto (tgt := 70) hC.1 hC.2.1 dX5_rankAt_132 (by decide) ?_
                  exact ih70 (r + 0) (k + 1) (va_up ra1 ((12 * 0) + (ro1 k)) (r + 0)) _ _ ls (by omega) (by omega) (by rw [Nat.add_sub_cancel]; exact hrn) (by exact hW.step hS (by omega) hrn) (by intro j h; rw [va_up_ne _ _ (by omega)]; exact hfr j h) hw (lv_sub hl [2, 3, 1, 0] rfl)
                · skip
                  refine lv_iconst (v := nI 1) hC.1 hC.2.1 dX5_rankAt_105 (by decide) ?_
                  refine lv_goto (tgt := 110) hC.1 hC.2.1 dX5_rankAt_106 (by decide) ?_
                  refine n_iadd hC dX5_rankAt_110 ?_
                  refine lv_istore_n (lv' := [(2, .int (nI (r + 1))), (0, .ref ((ad 40))), (1, .int (nI (0))), (3, .int (nI (k)))]) hC.1 hC.2.1 dX5_rankAt_111 rfl hl (by decide) rfl (fun ls hl => ?_)
                  have hrn : r + 1 = chg (K0 mk pt) ro1 k := by first | (rw [chg_nx c_80, if_pos (Iff.rfl.mp (cmpN_0.mp c_102)), ← hr]; done) | (rw [chg_nx c_80, if_neg (fun z => c_102 (cmpN_0.mpr (Iff.rfl.mpr z))), ← hr]; done) | (rw [hr, show k = 0 by omega]; rfl)
                  refine lv_aload_n hC.1 hC.2.1 dX5_rankAt_112 rfl (lv_at hl 1 rfl) ?_
                  refine g_get hC hw hin5 0 rfl rfl 10 (by decide) lk25 rfl dX5_rankAt_113 ?_
                  refine lv_bipush (v := nI 12) hC.1 hC.2.1 dX5_rankAt_116 (by decide) ?_
                  refine lv_iload_n hC.1 hC.2.1 dX5_rankAt_118 rfl (lv_at hl 2 rfl) ?_
                  refine n_imul hC dX5_rankAt_119 ?_
                  refine lv_aload_n hC.1 hC.2.1 dX5_rankAt_120 rfl (lv_at hl 1 rfl) ?_
                  refine g_get hC hw hin5 0 rfl rfl 13 (by decide) lk31 rfl dX5_rankAt_121 ?_
                  refine lv_iload_n hC.1 hC.2.1 dX5_rankAt_124 rfl (lv_at hl 3 rfl) ?_
                  refine g_ialdN hC hw 7 0 rfl rfl (by omega) (by first | decide | omega) dX5_rankAt_125 ?_
                  refine n_iadd hC dX5_rankAt_126 ?_
                  refine lv_iload_n hC.1 hC.2.1 dX5_rankAt_127 rfl (lv_at hl 0 rfl) ?_
                  refine g_iastN hC hw 5 0 rfl rfl (by omega) (by first | decide | omega) dX5_rankAt_128 (fun H locs hw => ?_)
                  replace hw : Wd dC dI (tysA cyI cyJ cyZ cyS) [((ad 40), .inr (5, [.int (ft), .int (nI (n)), .int (L), .ref ((ad 41)), .ref ((ad 42)), .ref ((ad 43)), .ref ((ad 44)), .int (nI (fl)), .int (nI (rk)), .ref ((ad 45)), .ref ((ad 46)), .ref ((ad 47)), .int (rs), .ref ((ad 48)), .long (dr), .int (nI (wo)), .ref ((ad 49)), .ref ((ad 50)), .ref ((ad 51)), .ref ((ad 52)), .ref ((ad 53)), .ref ((ad 54)), .ref ((ad 55)), .ref ((ad 56)), .ref ((ad 57)), .ref ((ad 58)), .int (tc)])), ((ad 41), .inl (cyI, 12, .inl (fun zj => nI (mk zj)))), ((ad 42), .inl (cyI, 12, .inl (fun zj => nI (pt zj)))), ((ad 43), .inl (cyI, 72, .inl (fun zj => nI (tp zj)))), ((ad 44), .inl (cyI, 72, .inl (fun zj => nI (tj zj)))), ((ad 46), .inl (cyI, 264, .inl (fun zj => nI ((va_up ra1 ((12 * 0) + (ro1 k)) (r + 1)) zj)))), ((ad 47), .inl (cyI, 22, .inl (fun zj => nI (ul zj)))), ((ad 48), .inl (cyI, 12, .inl (fun zj => nI (ro1 zj))))] zA zs H locs := hw
                  refine lv_iinc (v := nI (k + 1)) (lv' := [(3, .int (nI (k + 1))), (2, .int (nI (r + 1))), (0, .ref ((ad 40))), (1, .int (nI (0)))]) hC.1 hC.2.1 dX5_rankAt_129 hl (k := 3) rfl (nI_inc k 1) (by decide) rfl (fun ls hl => ?_)
                  refine lv_goto (tgt := 70) hC.1 hC.2.1 dX5_rankAt_132 (by decide) ?_
                  exact ih70 (r + 1) (k + 1) (va_up ra1 ((12 * 0) + (ro1 k)) (r + 1)) _ _ ls (by omega) (by omega) (by rw [Nat.add_sub_cancel]; exact hrn) (by exact hW.step hS (by omega) hrn) (by intro j h; rw [va_up_ne _ _ (by omega)]; exact hfr j h) hw (lv_sub hl [2, 3, 1, 0] rfl)
        exact K70 _ 0 0 ra _ _ ls (Nat.lt_succ_self _) (by omega) (by rfl) (by intro j h; omega) (by intro j h; rfl) hw (lv_sub hl [2, 3, 1, 0] rfl)
      · skip
        refine lv_iload_n hC.1 hC.2.1 dX5_rankAt_10 rfl (lv_at hl 2 rfl) ?_
        refine lv_istore_n (lv' := [(3, .int (nI (p))), (0, .ref ((ad 40))), (1, .int (nI (0))), (2, .int (nI (p)))]) hC.1 hC.2.1 dX5_rankAt_11 rfl hl (by decide) rfl (fun ls hl => ?_)
        have K12 : ∀ (zk : Nat), ∀ (a : Nat) (ro2 : Nat → Nat) (H : Heap) (locs : List Loc) (ls : Array Slot), a < zk → (a ≤ p) → (∀ j, ro2 j = if a < j ∧ j ≤ p then ro1 (j - 1) else ro1 j) → (∀ j, a ≤ j → j < p → (K0 mk pt) p < (K0 mk pt) (ro1 j)) → Wd dC dI (tysA cyI cyJ cyZ cyS) [((ad 40), .inr (5, [.int (ft), .int (nI (n)), .int (L), .ref ((ad 41)), .ref ((ad 42)), .ref ((ad 43)), .ref ((ad 44)), .int (nI (fl)), .int (nI (rk)), .ref ((ad 45)), .ref ((ad 46)), .ref ((ad 47)), .int (rs), .ref ((ad 48)), .long (dr), .int (nI (wo)), .ref ((ad 49)), .ref ((ad 50)), .ref ((ad 51)), .ref ((ad 52)), .ref ((ad 53)), .ref ((ad 54)), .ref ((ad 55)), .ref ((ad 56)), .ref ((ad 57)), .ref ((ad 58)), .int (tc)])), ((ad 41), .inl (cyI, 12, .inl (fun zj => nI (mk zj)))), ((ad 42), .inl (cyI, 12, .inl (fun zj => nI (pt zj)))), ((ad 43), .inl (cyI, 72, .inl (fun zj => nI (tp zj)))), ((ad 44), .inl (cyI, 72, .inl (fun zj => nI (tj zj)))), ((ad 46), .inl (cyI, 264, .inl (fun zj => nI (ra zj)))), ((ad 47), .inl (cyI, 22, .inl (fun zj => nI (ul zj)))), ((ad 48), .inl (cyI, 12, .inl (fun zj => nI (ro2 zj))))] zA zs H locs → lv_has ls 4 [(0, .ref ((ad 40))), (1, .int (nI (0))), (2, .int (nI (p))), (3, .int (nI (a)))] → W zp l ze ({ frames := 2, cells := 0, slots := 0, locals := 47 } : Room) zs zm za zb zt zc H locs 0 0 zQ (F0 zm 12 ls []) := by
          intro zk
          induction zk with
          | zero => intro a ro2 H locs ls h0; exact absurd h0 (Nat.not_lt_zero _)
          | succ zk ih12 =>
            intro a ro2 H locs ls hmu ha hf hg hw hl
            refine lv_iload_n hC.1 hC.2.1 dX5_rankAt_12 rfl (lv_at hl 3 rfl) ?_
            refine n_if_le (tgt := 53) hC dX5_rankAt_13 (by decide) (by omega) (fun c_13 => ?_) (fun c_13 => ?_)
            · skip
              refine lv_aload_n hC.1 hC.2.1 dX5_rankAt_53 rfl (lv_at hl 0 rfl) ?_
              refine g_get hC hw hin5 0 rfl rfl 13 (by decide) lk31 rfl dX5_rankAt_54 ?_
              refine lv_iload_n hC.1 hC.2.1 dX5_rankAt_57 rfl (lv_at hl 3 rfl) ?_
              refine lv_iload_n hC.1 hC.2.1 dX5_rankAt_58 rfl (lv_at hl 2 rfl) ?_
              refine g_iastN hC hw 7 0 rfl rfl (by omega) (by first | decide | omega) dX5_rankAt_59 (fun H locs hw => ?_)
              replace hw : Wd dC dI (tysA cyI cyJ cyZ cyS) [((ad 40), .inr (5, [.int (ft), .int (nI (n)), .int (L), .ref ((ad 41)), .ref ((ad 42)), .ref ((ad 43)), .ref ((ad 44)), .int (nI (fl)), .int (nI (rk)), .ref ((ad 45)), .ref ((ad 46)), .ref ((ad 47)), .int (rs), .ref ((ad 48)), .long (dr), .int (nI (wo)), .ref ((ad 49)), .ref ((ad 50)), .ref ((ad 51)), .ref ((ad 52)), .ref ((ad 53)), .ref ((ad 54)), .ref ((ad 55)), .ref ((ad 56)), .ref ((ad 57)), .ref ((ad 58)), .int (tc)])), ((ad 41), .inl (cyI, 12, .inl (fun zj => nI (mk zj)))), ((ad 42), .inl (cyI, 12, .inl (fun zj => nI (pt zj)))), ((ad 43), .inl (cyI, 72, .inl (fun zj => nI (tp zj)))), ((ad 44), .inl (cyI, 72, .inl (fun zj => nI (tj zj)))), ((ad 46), .inl (cyI, 264, .inl (fun zj => nI (ra zj)))), ((ad 47), .inl (cyI, 22, .inl (fun zj => nI (ul zj)))), ((ad 48), .inl (cyI, 12, .inl (fun zj => nI ((va_up ro2 a p) zj))))] zA zs H locs := hw
              refine lv_iinc (v := nI (p + 1)) (lv' := [(2, .int (nI (p + 1))), (0, .ref ((ad 40))), (1, .int (nI (0))), (3, .int (nI (a)))]) hC.1 hC.2.1 dX5_rankAt_60 hl (k := 2) rfl (nI_inc p 1) (by decide) rfl (fun ls hl => ?_)
              refine lv_goto (tgt := 2) hC.1 hC.2.1 dX5_rankAt_63 (by decide) ?_
              exact ih2 (p + 1) (va_up ro2 a p) _ _ ls (by omega) (by omega) (by exact hS.ins ha hg (by first | (intro z; omega) | (intro _; rw [← hro]; exact fun z => absurd (cmpN_n.mpr z) (Int32.not_lt.mpr c_30))) (sh_end hf)) hw (lv_sub hl [1, 2, 0] rfl)
            · skip
              have hro : ro2 (a - 1) = ro1 (a - 1) := by rw [hf, if_neg (by omega)]
              have hrl : ro1 (a - 1) < p := hS.lt (by omega)
              refine lv_aload_n hC.1 hC.2.1 dX5_rankAt_16 rfl (lv_at hl 0 rfl) ?_
              refine lv_iload_n hC.1 hC.2.1 dX5_rankAt_17 rfl (lv_at hl 2 rfl) ?_
              refine lv_aload_n hC.1 hC.2.1 dX5_rankAt_18 rfl (lv_at hl 0 rfl) ?_
              refine g_get hC hw hin5 0 rfl rfl 13 (by decide) lk31 rfl dX5_rankAt_19 ?_
              refine lv_iload_n hC.1 hC.2.1 dX5_rankAt_22 rfl (lv_at hl 3 rfl) ?_
              refine lv_iconst (v := nI 1) hC.1 hC.2.1 dX5_rankAt_23 (by decide) ?_
              refine n_isub hC dX5_rankAt_24 (by omega) ?_
              refine g_ialdN hC hw 7 0 rfl rfl (by omega) (by first | decide | omega) dX5_rankAt_25 ?_
              refine lv_iload_n hC.1 hC.2.1 dX5_rankAt_26 rfl (lv_at hl 1 rfl) ?_
              refine W.ccI (wc := [((ad 40), .inr (5, [.int (ft), .int (nI (n)), .int (L), .ref ((ad 41)), .ref ((ad 42)), .ref ((ad 43)), .ref ((ad 44)), .int (nI (fl)), .int (nI (rk)), .ref ((ad 45)), .ref ((ad 46)), .ref ((ad 47)), .int (rs), .ref ((ad 48)), .long (dr), .int (nI (wo)), .ref ((ad 49)), .ref ((ad 50)), .ref ((ad 51)), .ref ((ad 52)), .ref ((ad 53)), .ref ((ad 54)), .ref ((ad 55)), .ref ((ad 56)), .ref ((ad 57)), .ref ((ad 58)), .int (tc)])), ((ad 41), .inl (cyI, 12, .inl (fun zj => nI (mk zj)))), ((ad 42), .inl (cyI, 12, .inl (fun zj => nI (pt zj)))), ((ad 43), .inl (cyI, 72, .inl (fun zj => nI (tp zj)))), ((ad 44), .inl (cyI, 72, .inl (fun zj => nI (tj zj)))), ((ad 46), .inl (cyI, 264, .inl (fun zj => nI (ra zj))))]) (wr := [((ad 47), .inl (cyI, 22, .inl (fun zj => nI (ul zj)))), ((ad 48), .inl (cyI, 12, .inl (fun zj => nI (ro2 zj))))]) (ws1 := fun (u : Unit) => [((ad 40), .inr (5, [.int (ft), .int (nI (n)), .int (L), .ref ((ad 41)), .ref ((ad 42)), .ref ((ad 43)), .ref ((ad 44)), .int (nI (fl)), .int (nI (rk)), .ref ((ad 45)), .ref ((ad 46)), .ref ((ad 47)), .int (rs), .ref ((ad 48)), .long (dr), .int (nI (wo)), .ref ((ad 49)), .ref ((ad 50)), .ref ((ad 51)), .ref ((ad 52)), .ref ((ad 53)), .ref ((ad 54)), .ref ((ad 55)), .ref ((ad 56)), .ref ((ad 57)), .ref ((ad 58)), .int (tc)])), ((ad 41), .inl (cyI, 12, .inl (fun zj => nI (mk zj)))), ((ad 42), .inl (cyI, 12, .inl (fun zj => nI (pt zj)))), ((ad 43), .inl (cyI, 72, .inl (fun zj => nI (tp zj)))), ((ad 44), .inl (cyI, 72, .inl (fun zj => nI (tj zj)))), ((ad 46), .inl (cyI, 264, .inl (fun zj => nI (ra zj))))]) (ws2 := fun (u : Unit) => [((ad 40), .inr (5, [.int (ft), .int (nI (n)), .int (L), .ref ((ad 41)), .ref ((ad 42)), .ref ((ad 43)), .ref ((ad 44)), .int (nI (fl)), .int (nI (rk)), .ref ((ad 45)), .ref ((ad 46)), .ref ((ad 47)), .int (rs), .ref ((ad 48)), .long (dr), .int (nI (wo)), .ref ((ad 49)), .ref ((ad 50)), .ref ((ad 51)), .ref ((ad 52)), .ref ((ad 53)), .ref ((ad 54)), .ref ((ad 55)), .ref ((ad 56)), .ref ((ad 57)), .ref ((ad 58)), .int (tc)])), ((ad 41), .inl (cyI, 12, .inl (fun zj => nI (mk zj)))), ((ad 42), .inl (cyI, 12, .inl (fun zj => nI (pt zj)))), ((ad 43), .inl (cyI, 72, .inl (fun zj => nI (tp zj)))), ((ad 44), .inl (cyI, 72, .inl (fun zj => nI (tj zj)))), ((ad 46), .inl (cyI, 264, .inl (fun zj => nI (ra zj)))), ((ad 47), .inl (cyI, 22, .inl (fun zj => nI (ul zj)))), ((ad 48), .inl (cyI, 12, .inl (fun zj => nI (ro2 zj))))]) hw [0, 1, 2, 3, 4, 5] [6, 7] [2, 3, 4, 5, 6, 7, 0, 1] rfl rfl (by decide) (by decide) (by decide) (fun _ => rfl) (Wd.runV (wc := [((ad 40), .inr (5, [.int (ft), .int (nI (n)), .int (L), .ref ((ad 41)), .ref ((ad 42)), .ref ((ad 43)), .ref ((ad 44)), .int (nI (fl)), .int (nI (rk)), .ref ((ad 45)), .ref ((ad 46)), .ref ((ad 47)), .int (rs), .ref ((ad 48)), .long (dr), .int (nI (wo)), .ref ((ad 49)), .ref ((ad 50)), .ref ((ad 51)), .ref ((ad 52)), .ref ((ad 53)), .ref ((ad 54)), .ref ((ad 55)), .ref ((ad 56)), .ref ((ad 57)), .ref ((ad 58)), .int (tc)])), ((ad 41), .inl (cyI, 12, .inl (fun zj => nI (mk zj)))), ((ad 42), .inl (cyI, 12, .inl (fun zj => nI (pt zj)))), ((ad 43), .inl (cyI, 72, .inl (fun zj => nI (tp zj)))), ((ad 44), .inl (cyI, 72, .inl (fun zj => nI (tj zj)))), ((ad 46), .inl (cyI, 264, .inl (fun zj => nI (ra zj))))]) (rest := []) (As := [.int (nI (p)), .int (nI (ro2 (a - 1))), .int (nI (0))]) hC hw [0, 1, 2, 3, 4, 5] rfl (by decide) 0 rfl rfl (cwV 3 hC.2.2.2.2 gX5_rankAt_X5_compare rfl rfl rfl (by decide +kernel) ⟨Nat.le_of_ble_eq_true rfl, Nat.le_of_ble_eq_true rfl⟩) (c_X5_compare_0 l dC dI cyI cyJ cyZ cyS ad ft n L fl rk rs dr wo tc mk pt tp tj ra ac (by first | assumption | omega) (by first | assumption | omega) p (ro2 (a - 1)) (by omega) (by omega) _) rfl hl.1 rfl (Nat.le_of_ble_eq_true rfl) dX5_rankAt_27 ⟨Nat.zero_le _, Nat.zero_le _⟩) (fun r_27 u H locs hr_27 hw => ?_)
              replace hw : Wd dC dI (tysA cyI cyJ cyZ cyS) [((ad 40), .inr (5, [.int (ft), .int (nI (n)), .int (L), .ref ((ad 41)), .ref ((ad 42)), .ref ((ad 43)), .ref ((ad 44)), .int (nI (fl)), .int (nI (rk)), .ref ((ad 45)), .ref ((ad 46)), .ref ((ad 47)), .int (rs), .ref ((ad 48)), .long (dr), .int (nI (wo)), .ref ((ad 49)), .ref ((ad 50)), .ref ((ad 51)), .ref ((ad 52)), .ref ((ad 53)), .ref ((ad 54)), .ref ((ad 55)), .ref ((ad 56)), .ref ((ad 57)), .ref ((ad 58)), .int (tc)])), ((ad 41), .inl (cyI, 12, .inl (fun zj => nI (mk zj)))), ((ad 42), .inl (cyI, 12, .inl (fun zj => nI (pt zj)))), ((ad 43), .inl (cyI, 72, .inl (fun zj => nI (tp zj)))), ((ad 44), .inl (cyI, 72, .inl (fun zj => nI (tj zj)))), ((ad 46), .inl (cyI, 264, .inl (fun zj => nI (ra zj)))), ((ad 47), .inl (cyI, 22, .inl (fun zj => nI (ul zj)))), ((ad 48), .inl (cyI, 12, .inl (fun zj => nI (ro2 zj))))] zA zs H locs := hw
              subst hr_27
              refine lv_if_ge (tgt := 53) hC.1 hC.2.1 dX5_rankAt_30 (by decide) (fun c_30 => ?_) (fun c_30 => ?_)
              · skip
                refine lv_aload_n hC.1 hC.2.1 dX5_rankAt_53 rfl (lv_at hl 0 rfl) ?_
                refine g_get hC hw hin5 0 rfl rfl 13 (by decide) lk31 rfl dX5_rankAt_54 ?_
                refine lv_iload_n hC.1 hC.2.1 dX5_rankAt_57 rfl (lv_at hl 3 rfl) ?_
                refine lv_iload_n hC.1 hC.2.1 dX5_rankAt_58 rfl (lv_at hl 2 rfl) ?_
                refine g_iastN hC hw 7 0 rfl rfl (by omega) (by first | decide | omega) dX5_rankAt_59 (fun H locs hw => ?_)
                replace hw : Wd dC dI (tysA cyI cyJ cyZ cyS) [((ad 40), .inr (5, [.int (ft), .int (nI (n)), .int (L), .ref ((ad 41)), .ref ((ad 42)), .ref ((ad 43)), .ref ((ad 44)), .int (nI (fl)), .int (nI (rk)), .ref ((ad 45)), .ref ((ad 46)), .ref ((ad 47)), .int (rs), .ref ((ad 48)), .long (dr), .int (nI (wo)), .ref ((ad 49)), .ref ((ad 50)), .ref ((ad 51)), .ref ((ad 52)), .ref ((ad 53)), .ref ((ad 54)), .ref ((ad 55)), .ref ((ad 56)), .ref ((ad 57)), .ref ((ad 58)), .int (tc)])), ((ad 41), .inl (cyI, 12, .inl (fun zj => nI (mk zj)))), ((ad 42), .inl (cyI, 12, .inl (fun zj => nI (pt zj)))), ((ad 43), .inl (cyI, 72, .inl (fun zj => nI (tp zj)))), ((ad 44), .inl (cyI, 72, .inl (fun zj => nI (tj zj)))), ((ad 46), .inl (cyI, 264, .inl (fun zj => nI (ra zj)))), ((ad 47), .inl (cyI, 22, .inl (fun zj => nI (ul zj)))), ((ad 48), .inl (cyI, 12, .inl (fun zj => nI ((va_up ro2 a p) zj))))] zA zs H locs := hw
                refine lv_iinc (v := nI (p + 1)) (lv' := [(2, .int (nI (p + 1))), (0, .ref ((ad 40))), (1, .int (nI (0))), (3, .int (nI (a)))]) hC.1 hC.2.1 dX5_rankAt_60 hl (k := 2) rfl (nI_inc p 1) (by decide) rfl (fun ls hl => ?_)
                refine lv_goto (tgt := 2) hC.1 hC.2.1 dX5_rankAt_63 (by decide) ?_
                exact ih2 (p + 1) (va_up ro2 a p) _ _ ls (by omega) (by omega) (by exact hS.ins ha hg (by first | (intro z; omega) | (intro _; rw [← hro]; exact fun z => absurd (cmpN_n.mpr z) (Int32.not_lt.mpr c_30))) (sh_end hf)) hw (lv_sub hl [1, 2, 0] rfl)
              · skip
                have hlt9 := cmpN_n.mp (Int32.not_le.mp c_30)
                refine lv_aload_n hC.1 hC.2.1 dX5_rankAt_33 rfl (lv_at hl 0 rfl) ?_
                refine g_get hC hw hin5 0 rfl rfl 13 (by decide) lk31 rfl dX5_rankAt_34 ?_
                refine lv_iload_n hC.1 hC.2.1 dX5_rankAt_37 rfl (lv_at hl 3 rfl) ?_
                refine lv_aload_n hC.1 hC.2.1 dX5_rankAt_38 rfl (lv_at hl 0 rfl) ?_
                refine g_get hC hw hin5 0 rfl rfl 13 (by decide) lk31 rfl dX5_rankAt_39 ?_
                refine lv_iload_n hC.1 hC.2.1 dX5_rankAt_42 rfl (lv_at hl 3 rfl) ?_
                refine lv_iconst (v := nI 1) hC.1 hC.2.1 dX5_rankAt_43 (by decide) ?_
                refine n_isub hC dX5_rankAt_44 (by omega) ?_
                refine g_ialdN hC hw 7 0 rfl rfl (by omega) (by first | decide | omega) dX5_rankAt_45 ?_
                refine g_iastN hC hw 7 0 rfl rfl (by omega) (by first | decide | omega) dX5_rankAt_46 (fun H locs hw => ?_)
                replace hw : Wd dC dI (tysA cyI cyJ cyZ cyS) [((ad 40), .inr (5, [.int (ft), .int (nI (n)), .int (L), .ref ((ad 41)), .ref ((ad 42)), .ref ((ad 43)), .ref ((ad 44)), .int (nI (fl)), .int (nI (rk)), .ref ((ad 45)), .ref ((ad 46)), .ref ((ad 47)), .int (rs), .ref ((ad 48)), .long (dr), .int (nI (wo)), .ref ((ad 49)), .ref ((ad 50)), .ref ((ad 51)), .ref ((ad 52)), .ref ((ad 53)), .ref ((ad 54)), .ref ((ad 55)), .ref ((ad 56)), .ref ((ad 57)), .ref ((ad 58)), .int (tc)])), ((ad 41), .inl (cyI, 12, .inl (fun zj => nI (mk zj)))), ((ad 42), .inl (cyI, 12, .inl (fun zj => nI (pt zj)))), ((ad 43), .inl (cyI, 72, .inl (fun zj => nI (tp zj)))), ((ad 44), .inl (cyI, 72, .inl (fun zj => nI (tj zj)))), ((ad 46), .inl (cyI, 264, .inl (fun zj => nI (ra zj)))), ((ad 47), .inl (cyI, 22, .inl (fun zj => nI (ul zj)))), ((ad 48), .inl (cyI, 12, .inl (fun zj => nI ((va_up ro2 a (ro2 (a - 1))) zj))))] zA zs H locs := hw
                refine lv_iinc (v := nI (a - 1)) (lv' := [(3, .int (nI (a - 1))), (0, .ref ((ad 40))), (1, .int (nI (0))), (2, .int (nI (p)))]) hC.1 hC.2.1 dX5_rankAt_47 hl (k := 3) rfl (nI_dec (by omega)) (by decide) rfl (fun ls hl => ?_)
                refine lv_goto (tgt := 12) hC.1 hC.2.1 dX5_rankAt_50 (by decide) ?_
                exact ih12 (a - 1) (va_up ro2 a (ro2 (a - 1))) _ _ ls (by omega) (by omega) (by exact sh_step hf (by omega) (by omega)) (by intro j h1 h2; rcases Nat.lt_or_ge j a with z | z; (rw [show j = a - 1 by omega, ← hro]; exact hlt9); exact hg j z h2) hw (lv_sub hl [1, 2, 3, 0] rfl)
        exact K12 _ p ro1 _ _ ls (Nat.lt_succ_self _) (by omega) (by intro j; rw [if_neg (by omega)]) (by intro j h1 h2; omega) hw (lv_sub hl [1, 2, 3, 0] rfl)
  exact K2 _ 0 ro _ _ ls (Nat.lt_succ_self _) (by omega) (by exact SO.init _ _) hw (lv_sub hl [1, 2, 0] rfl)

set_option maxHeartbeats 4000000 in
set_option maxRecDepth 100000 in
theorem c_X5_rankAt_1 (l : Launch) (dC : Nat → ClassId) (dI : Nat → Nat → Nat) (cyI cyJ cyZ cyS : ClassId) (ad : Nat → Nat) (ft : Int32) (n : Nat) (L : Int32) (fl rk : Nat) (rs : Int32) (dr : Int64) (wo : Nat) (tc : Int32) (mk : Nat → Nat) (pt : Nat → Nat) (tp : Nat → Nat) (tj : Nat → Nat) (ra : Nat → Nat) (ul : Nat → Nat) (ro : Nat → Nat) (ac : Nat → Nat) (hN : NOk n mk pt ac) (hNR : NR n pt ac tp tj) (d : Nat) (hd : d < 21) (hM : MRk n mk pt ac ra ul (d + 1)) : CtV l yX5_rankAt wsX5_rankAt ({ frames := 2, cells := 0, slots := 0, locals := 47 } : Room) dC dI (tysA cyI cyJ cyZ cyS) [.ref ((ad 40)), .int (nI (d + 1))] [((ad 40), .inr (5, [.int (ft), .int (nI (n)), .int (L), .ref ((ad 41)), .ref ((ad 42)), .ref ((ad 43)), .ref ((ad 44)), .int (nI (fl)), .int (nI (rk)), .ref ((ad 45)), .ref ((ad 46)), .ref ((ad 47)), .int (rs), .ref ((ad 48)), .long (dr), .int (nI (wo)), .ref ((ad 49)), .ref ((ad 50)), .ref ((ad 51)), .ref ((ad 52)), .ref ((ad 53)), .ref ((ad 54)), .ref ((ad 55)), .ref ((ad 56)), .ref ((ad 57)), .ref ((ad 58)), .int (tc)])), ((ad 41), .inl (cyI, 12, .inl (fun zj => nI (mk zj)))), ((ad 42), .inl (cyI, 12, .inl (fun zj => nI (pt zj)))), ((ad 43), .inl (cyI, 72, .inl (fun zj => nI (tp zj)))), ((ad 44), .inl (cyI, 72, .inl (fun zj => nI (tj zj)))), ((ad 46), .inl (cyI, 264, .inl (fun zj => nI (ra zj)))), ((ad 47), .inl (cyI, 22, .inl (fun zj => nI (ul zj)))), ((ad 48), .inl (cyI, 12, .inl (fun zj => nI (ro zj))))] (S := (Nat → Nat) × (Nat → Nat) × (Nat → Nat)) (fun (u : (Nat → Nat) × (Nat → Nat) × (Nat → Nat)) => (∃ w, u.2.1 = va_up ul (d + 1) w ∧ Rk n (KM mk pt ac ra (d + 1)) (fun z => u.1 (12 * (d + 1) + z)) w ∧ ∀ j, j < 12 * (d + 1) → u.1 j = ra j)) (fun (u : (Nat → Nat) × (Nat → Nat) × (Nat → Nat)) => [((ad 40), .inr (5, [.int (ft), .int (nI (n)), .int (L), .ref ((ad 41)), .ref ((ad 42)), .ref ((ad 43)), .ref ((ad 44)), .int (nI (fl)), .int (nI (rk)), .ref ((ad 45)), .ref ((ad 46)), .ref ((ad 47)), .int (rs), .ref ((ad 48)), .long (dr), .int (nI (wo)), .ref ((ad 49)), .ref ((ad 50)), .ref ((ad 51)), .ref ((ad 52)), .ref ((ad 53)), .ref ((ad 54)), .ref ((ad 55)), .ref ((ad 56)), .ref ((ad 57)), .ref ((ad 58)), .int (tc)])), ((ad 41), .inl (cyI, 12, .inl (fun zj => nI (mk zj)))), ((ad 42), .inl (cyI, 12, .inl (fun zj => nI (pt zj)))), ((ad 43), .inl (cyI, 72, .inl (fun zj => nI (tp zj)))), ((ad 44), .inl (cyI, 72, .inl (fun zj => nI (tj zj)))), ((ad 46), .inl (cyI, 264, .inl (fun zj => nI (u.1 zj)))), ((ad 47), .inl (cyI, 22, .inl (fun zj => nI (u.2.1 zj)))), ((ad 48), .inl (cyI, 12, .inl (fun zj => nI (u.2.2 zj))))]) := by
  refine CtV.mk (cc := cX5_rankAt) (maxL := 4) (by decide) rfl (Nat.le_of_ble_eq_true rfl) ?_
  intro zp ze zs zm za zb zt zc zA zQ ls hC hw hl hret
  replace hC : CallFix zp zm zc cX5_rankAt 4 zs za wsX5_rankAt RX5 := hC
  replace hl : lv_has ls 4 [(0, .ref ((ad 40))), (1, .int (nI (d + 1)))] := hl
  have hin5 : ∀ w ∈ u_ws RX5 TX5 27, w ∈ wsX5_rankAt := fun w h => List.mem_cons_of_mem _ (List.mem_append_right _ h)
  have lk25 : Cond.fieldLink RX5 25 (TX5 10).1 (TX5 10).2.1 (TX5 10).2.2.1 ∈ wsX5_rankAt := List.mem_of_getElem? (i := 3) rfl
  have lk28 : Cond.fieldLink RX5 28 (TX5 11).1 (TX5 11).2.1 (TX5 11).2.2.1 ∈ wsX5_rankAt := List.mem_of_getElem? (i := 4) rfl
  have lk31 : Cond.fieldLink RX5 31 (TX5 13).1 (TX5 13).2.1 (TX5 13).2.2.1 ∈ wsX5_rankAt := List.mem_of_getElem? (i := 2) rfl
  have lk74 : Cond.fieldLink RX5 74 (TX5 1).1 (TX5 1).2.1 (TX5 1).2.2.1 ∈ wsX5_rankAt := List.mem_of_getElem? (i := 1) rfl
  have hn := hN.n12
  refine lv_iconst (v := nI 0) hC.1 hC.2.1 dX5_rankAt_0 (by decide) ?_
  refine lv_istore_n (lv' := [(2, .int (nI (0))), (0, .ref ((ad 40))), (1, .int (nI (d + 1)))]) hC.1 hC.2.1 dX5_rankAt_1 rfl hl (by decide) rfl (fun ls hl => ?_)
  have K2 : ∀ (zk : Nat), ∀ (p : Nat) (ro1 : Nat → Nat) (H : Heap) (locs : List Loc) (ls : Array Slot), n - p < zk → (p ≤ n) → (SO (K1 pt ac (fun z => ra (12 * d + z))) ro1 p) → Wd dC dI (tysA cyI cyJ cyZ cyS) [((ad 40), .inr (5, [.int (ft), .int (nI (n)), .int (L), .ref ((ad 41)), .ref ((ad 42)), .ref ((ad 43)), .ref ((ad 44)), .int (nI (fl)), .int (nI (rk)), .ref ((ad 45)), .ref ((ad 46)), .ref ((ad 47)), .int (rs), .ref ((ad 48)), .long (dr), .int (nI (wo)), .ref ((ad 49)), .ref ((ad 50)), .ref ((ad 51)), .ref ((ad 52)), .ref ((ad 53)), .ref ((ad 54)), .ref ((ad 55)), .ref ((ad 56)), .ref ((ad 57)), .ref ((ad 58)), .int (tc)])), ((ad 41), .inl (cyI, 12, .inl (fun zj => nI (mk zj)))), ((ad 42), .inl (cyI, 12, .inl (fun zj => nI (pt zj)))), ((ad 43), .inl (cyI, 72, .inl (fun zj => nI (tp zj)))), ((ad 44), .inl (cyI, 72, .inl (fun zj => nI (tj zj)))), ((ad 46), .inl (cyI, 264, .inl (fun zj => nI (ra zj)))), ((ad 47), .inl (cyI, 22, .inl (fun zj => nI (ul zj)))), ((ad 48), .inl (cyI, 12, .inl (fun zj => nI (ro1 zj))))] zA zs H locs → lv_has ls 4 [(0, .ref ((ad 40))), (1, .int (nI (d + 1))), (2, .int (nI (p)))] → W zp l ze ({ frames := 2, cells := 0, slots := 0, locals := 47 } : Room) zs zm za zb zt zc H locs 0 0 zQ (F0 zm 2 ls []) := by
    intro zk
    induction zk with
    | zero => intro p ro1 H locs ls h0; exact absurd h0 (Nat.not_lt_zero _)
    | succ zk ih2 =>
      intro p ro1 H locs ls hmu hp hS hw hl
      refine lv_iload_n hC.1 hC.2.1 dX5_rankAt_2 rfl (lv_at hl 2 rfl) ?_
      refine lv_aload_n hC.1 hC.2.1 dX5_rankAt_3 rfl (lv_at hl 0 rfl) ?_
      refine g_get hC hw hin5 0 rfl rfl 1 (by decide) lk74 rfl dX5_rankAt_4 ?_
      refine n_icmp_ge (tgt := 66) hC dX5_rankAt_7 (by decide) (by omega) (by omega) (fun c_7 => ?_) (fun c_7 => ?_)
      · skip
        obtain rfl : n = p := by omega
        refine lv_iconst (v := nI 0) hC.1 hC.2.1 dX5_rankAt_66 (by decide) ?_
        refine lv_istore_n (lv' := [(2, .int (nI (0))), (0, .ref ((ad 40))), (1, .int (nI (d + 1)))]) hC.1 hC.2.1 dX5_rankAt_67 rfl hl (by decide) rfl (fun ls hl => ?_)
        refine lv_iconst (v := nI 0) hC.1 hC.2.1 dX5_rankAt_68 (by decide) ?_
        refine lv_istore_n (lv' := [(3, .int (nI (0))), (2, .int (nI (0))), (0, .ref ((ad 40))), (1, .int (nI (d + 1)))]) hC.1 hC.2.1 dX5_rankAt_69 rfl hl (by decide) rfl (fun ls hl => ?_)
        have K70 : ∀ (zk : Nat), ∀ (r : Nat) (k : Nat) (ra1 : Nat → Nat) (H : Heap) (locs : List Loc) (ls : Array Slot), n - k < zk → (k ≤ n) → (r = chg (K1 pt ac (fun z => ra (12 * d + z))) ro1 (k - 1)) → (RW (K1 pt ac (fun z => ra (12 * d + z))) ro1 ra1 (12 * (d + 1)) k) → (∀ j, j < 12 * (d + 1) → ra1 j = ra j) → Wd dC dI (tysA cyI cyJ cyZ cyS) [((ad 40), .inr (5, [.int (ft), .int (nI (n)), .int (L), .ref ((ad 41)), .ref ((ad 42)), .ref ((ad 43)), .ref ((ad 44)), .int (nI (fl)), .int (nI (rk)), .ref ((ad 45)), .ref ((ad 46)), .ref ((ad 47)), .int (rs), .ref ((ad 48)), .long (dr), .int (nI (wo)), .ref ((ad 49)), .ref ((ad 50)), .ref ((ad 51)), .ref ((ad 52)), .ref ((ad 53)), .ref ((ad 54)), .ref ((ad 55)), .ref ((ad 56)), .ref ((ad 57)), .ref ((ad 58)), .int (tc)])), ((ad 41), .inl (cyI, 12, .inl (fun zj => nI (mk zj)))), ((ad 42), .inl (cyI, 12, .inl (fun zj => nI (pt zj)))), ((ad 43), .inl (cyI, 72, .inl (fun zj => nI (tp zj)))), ((ad 44), .inl (cyI, 72, .inl (fun zj => nI (tj zj)))), ((ad 46), .inl (cyI, 264, .inl (fun zj => nI (ra1 zj)))), ((ad 47), .inl (cyI, 22, .inl (fun zj => nI (ul zj)))), ((ad 48), .inl (cyI, 12, .inl (fun zj => nI (ro1 zj))))] zA zs H locs → lv_has ls 4 [(0, .ref ((ad 40))), (1, .int (nI (d + 1))), (2, .int (nI (r))), (3, .int (nI (k)))] → W zp l ze ({ frames := 2, cells := 0, slots := 0, locals := 47 } : Room) zs zm za zb zt zc H locs 0 0 zQ (F0 zm 70 ls []) := by
          intro zk
          induction zk with
          | zero => intro r k ra1 H locs ls h0; exact absurd h0 (Nat.not_lt_zero _)
          | succ zk ih70 =>
            intro r k ra1 H locs ls hmu hk hr hW hfr hw hl
            refine lv_iload_n hC.1 hC.2.1 dX5_rankAt_70 rfl (lv_at hl 3 rfl) ?_
            refine lv_aload_n hC.1 hC.2.1 dX5_rankAt_71 rfl (lv_at hl 0 rfl) ?_
            refine g_get hC hw hin5 0 rfl rfl 1 (by decide) lk74 rfl dX5_rankAt_72 ?_
            refine n_icmp_ge (tgt := 135) hC dX5_rankAt_75 (by decide) (by omega) (by omega) (fun c_75 => ?_) (fun c_75 => ?_)
            · skip
              obtain rfl : n = k := by omega
              have hcl2 := chg_le (K1 pt ac (fun z => ra (12 * d + z))) ro1 (n - 1)
              refine lv_aload_n hC.1 hC.2.1 dX5_rankAt_135 rfl (lv_at hl 0 rfl) ?_
              refine g_get hC hw hin5 0 rfl rfl 11 (by decide) lk28 rfl dX5_rankAt_136 ?_
              refine lv_iload_n hC.1 hC.2.1 dX5_rankAt_139 rfl (lv_at hl 1 rfl) ?_
              refine lv_aload_n hC.1 hC.2.1 dX5_rankAt_140 rfl (lv_at hl 0 rfl) ?_
              refine g_get hC hw hin5 0 rfl rfl 1 (by decide) lk74 rfl dX5_rankAt_141 ?_
              refine n_if_ne (tgt := 151) hC dX5_rankAt_144 (by decide) (by omega) (fun c_144 => ?_) (fun c_144 => ?_)
              · skip
                refine lv_iload_n hC.1 hC.2.1 dX5_rankAt_151 rfl (lv_at hl 2 rfl) ?_
                refine lv_iconst (v := nI 1) hC.1 hC.2.1 dX5_rankAt_152 (by decide) ?_
                refine n_iadd hC dX5_rankAt_153 ?_
                refine g_iastN hC hw 6 0 rfl rfl (by omega) (by first | decide | omega) dX5_rankAt_154 (fun H locs hw => ?_)
                replace hw : Wd dC dI (tysA cyI cyJ cyZ cyS) [((ad 40), .inr (5, [.int (ft), .int (nI (n)), .int (L), .ref ((ad 41)), .ref ((ad 42)), .ref ((ad 43)), .ref ((ad 44)), .int (nI (fl)), .int (nI (rk)), .ref ((ad 45)), .ref ((ad 46)), .ref ((ad 47)), .int (rs), .ref ((ad 48)), .long (dr), .int (nI (wo)), .ref ((ad 49)), .ref ((ad 50)), .ref ((ad 51)), .ref ((ad 52)), .ref ((ad 53)), .ref ((ad 54)), .ref ((ad 55)), .ref ((ad 56)), .ref ((ad 57)), .ref ((ad 58)), .int (tc)])), ((ad 41), .inl (cyI, 12, .inl (fun zj => nI (mk zj)))), ((ad 42), .inl (cyI, 12, .inl (fun zj => nI (pt zj)))), ((ad 43), .inl (cyI, 72, .inl (fun zj => nI (tp zj)))), ((ad 44), .inl (cyI, 72, .inl (fun zj => nI (tj zj)))), ((ad 46), .inl (cyI, 264, .inl (fun zj => nI (ra1 zj)))), ((ad 47), .inl (cyI, 22, .inl (fun zj => nI ((va_up ul (d + 1) (r + 1)) zj)))), ((ad 48), .inl (cyI, 12, .inl (fun zj => nI (ro1 zj))))] zA zs H locs := hw
                exact hret _ _ _ ls  ⟨ra1, va_up ul (d + 1) (r + 1), ro1⟩ dX5_rankAt_155 (by (try dsimp only); refine ⟨_, rfl, ?_, hfr⟩; have h9 := RW.done (r := fun z => ra1 (12 * (d + 1) + z)) hS hW (fun p hp => rfl); first | (rw [if_pos (by omega)] at h9; exact h9) | (rw [if_neg (by omega), ← hr] at h9; exact h9)) hw
              · skip
                refine lv_iconst (v := nI 0) hC.1 hC.2.1 dX5_rankAt_147 (by decide) ?_
                refine lv_goto (tgt := 154) hC.1 hC.2.1 dX5_rankAt_148 (by decide) ?_
                refine g_iastN hC hw 6 0 rfl rfl (by omega) (by first | decide | omega) dX5_rankAt_154 (fun H locs hw => ?_)
                replace hw : Wd dC dI (tysA cyI cyJ cyZ cyS) [((ad 40), .inr (5, [.int (ft), .int (nI (n)), .int (L), .ref ((ad 41)), .ref ((ad 42)), .ref ((ad 43)), .ref ((ad 44)), .int (nI (fl)), .int (nI (rk)), .ref ((ad 45)), .ref ((ad 46)), .ref ((ad 47)), .int (rs), .ref ((ad 48)), .long (dr), .int (nI (wo)), .ref ((ad 49)), .ref ((ad 50)), .ref ((ad 51)), .ref ((ad 52)), .ref ((ad 53)), .ref ((ad 54)), .ref ((ad 55)), .ref ((ad 56)), .ref ((ad 57)), .ref ((ad 58)), .int (tc)])), ((ad 41), .inl (cyI, 12, .inl (fun zj => nI (mk zj)))), ((ad 42), .inl (cyI, 12, .inl (fun zj => nI (pt zj)))), ((ad 43), .inl (cyI, 72, .inl (fun zj => nI (tp zj)))), ((ad 44), .inl (cyI, 72, .inl (fun zj => nI (tj zj)))), ((ad 46), .inl (cyI, 264, .inl (fun zj => nI (ra1 zj)))), ((ad 47), .inl (cyI, 22, .inl (fun zj => nI ((va_up ul (d + 1) 0) zj)))), ((ad 48), .inl (cyI, 12, .inl (fun zj => nI (ro1 zj))))] zA zs H locs := hw
                exact hret _ _ _ ls  ⟨ra1, va_up ul (d + 1) 0, ro1⟩ dX5_rankAt_155 (by (try dsimp only); refine ⟨_, rfl, ?_, hfr⟩; have h9 := RW.done (r := fun z => ra1 (12 * (d + 1) + z)) hS hW (fun p hp => rfl); first | (rw [if_pos (by omega)] at h9; exact h9) | (rw [if_neg (by omega), ← hr] at h9; exact h9)) hw
            · skip
              have hkl := hS.lt (j := k) (by omega)
              have hcl := chg_le (K1 pt ac (fun z => ra (12 * d + z))) ro1 (k - 1)
              refine lv_iload_n hC.1 hC.2.1 dX5_rankAt_78 rfl (lv_at hl 2 rfl) ?_
              refine lv_iload_n hC.1 hC.2.1 dX5_rankAt_79 rfl (lv_at hl 3 rfl) ?_
              refine n_if_le (tgt := 109) hC dX5_rankAt_80 (by decide) (by omega) (fun c_80 => ?_) (fun c_80 => ?_)
              · skip
                refine lv_iconst (v := nI 0) hC.1 hC.2.1 dX5_rankAt_109 (by decide) ?_
                refine n_iadd hC dX5_rankAt_110 ?_
                refine lv_istore_n (lv' := [(2, .int (nI (r + 0))), (0, .ref ((ad 40))), (1, .int (nI (d + 1))), (3, .int (nI (k)))]) hC.1 hC.2.1 dX5_rankAt_111 rfl hl (by decide) rfl (fun ls hl => ?_)
                have hrn : r + 0 = chg (K1 pt ac (fun z => ra (12 * d + z))) ro1 k := by first | (rw [chg_nx c_80, if_pos (hKQ.mp (cmpN_0.mp c_102)), ← hr]; done) | (rw [chg_nx c_80, if_neg (fun z => c_102 (cmpN_0.mpr (hKQ.mpr z))), ← hr]; done) | (rw [hr, show k = 0 by omega]; rfl)
                refine lv_aload_n hC.1 hC.2.1 dX5_rankAt_112 rfl (lv_at hl 1 rfl) ?_
                refine g_get hC hw hin5 0 rfl rfl 10 (by decide) lk25 rfl dX5_rankAt_113 ?_
                refine lv_bipush (v := nI 12) hC.1 hC.2.1 dX5_rankAt_116 (by decide) ?_
                refine lv_iload_n hC.1 hC.2.1 dX5_rankAt_118 rfl (lv_at hl 2 rfl) ?_
                refine n_imul hC dX5_rankAt_119 ?_
                refine lv_aload_n hC.1 hC.2.1 dX5_rankAt_120 rfl (lv_at hl 1 rfl) ?_
                refine g_get hC hw hin5 0 rfl rfl 13 (by decide) lk31 rfl dX5_rankAt_121 ?_
                refine lv_iload_n hC.1 hC.2.1 dX5_rankAt_124 rfl (lv_at hl 3 rfl) ?_
                refine g_ialdN hC hw 7 0 rfl rfl (by omega) (by first | decide | omega) dX5_rankAt_125 ?_
                refine n_iadd hC dX5_rankAt_126 ?_
                refine lv_iload_n hC.1 hC.2.1 dX5_rankAt_127 rfl (lv_at hl 0 rfl) ?_
                refine g_iastN hC hw 5 0 rfl rfl (by omega) (by first | decide | omega) dX5_rankAt_128 (fun H locs hw => ?_)
                replace hw : Wd dC dI (tysA cyI cyJ cyZ cyS) [((ad 40), .inr (5, [.int (ft), .int (nI (n)), .int (L), .ref ((ad 41)), .ref ((ad 42)), .ref ((ad 43)), .ref ((ad 44)), .int (nI (fl)), .int (nI (rk)), .ref ((ad 45)), .ref ((ad 46)), .ref ((ad 47)), .int (rs), .ref ((ad 48)), .long (dr), .int (nI (wo)), .ref ((ad 49)), .ref ((ad 50)), .ref ((ad 51)), .ref ((ad 52)), .ref ((ad 53)), .ref ((ad 54)), .ref ((ad 55)), .ref ((ad 56)), .ref ((ad 57)), .ref ((ad 58)), .int (tc)])), ((ad 41), .inl (cyI, 12, .inl (fun zj => nI (mk zj)))), ((ad 42), .inl (cyI, 12, .inl (fun zj => nI (pt zj)))), ((ad 43), .inl (cyI, 72, .inl (fun zj => nI (tp zj)))), ((ad 44), .inl (cyI, 72, .inl (fun zj => nI (tj zj)))), ((ad 46), .inl (cyI, 264, .inl (fun zj => nI ((va_up ra1 ((12 * (d + 1)) + (ro1 k)) (r + 0)) zj)))), ((ad 47), .inl (cyI, 22, .inl (fun zj => nI (ul zj)))), ((ad 48), .inl (cyI, 12, .inl (fun zj => nI (ro1 zj))))] zA zs H locs := hw
                refine lv_iinc (v := nI (k + 1)) (lv' := [(3, .int (nI (k + 1))), (2, .int (nI (r + 0))), (0, .ref ((ad 40))), (1, .int (nI (d + 1)))]) hC.1 hC.2.1 dX5_rankAt_129 hl (k := 3) rfl (nI_inc k 1) (by decide) rfl (fun ls hl => ?_)
                refine lv_goto (tgt := 70) hC.1 hC.2.1 dX5_rankAt_132 (by decide) ?_
                exact ih70 (r + 0) (k + 1) (va_up ra1 ((12 * (d + 1)) + (ro1 k)) (r + 0)) _ _ ls (by omega) (by omega) (by rw [Nat.add_sub_cancel]; exact hrn) (by exact hW.step hS (by omega) hrn) (by intro j h; rw [va_up_ne _ _ (by omega)]; exact hfr j h) hw (lv_sub hl [2, 3, 1, 0] rfl)
              · skip
                have hkl1 := hS.lt (j := k - 1) (by omega)
                have hK9 : ∀ q, q < n → K1 pt ac (fun z => ra1 (12 * d + z)) q = K1 pt ac (fun z => ra (12 * d + z)) q := fun q hq => K1_congr (mk := mk) hN (fun z hz => hfr _ (by omega)) hq
                have hKQ : K1 pt ac (fun z => ra1 (12 * d + z)) (ro1 (k - 1)) = K1 pt ac (fun z => ra1 (12 * d + z)) (ro1 k) ↔ K1 pt ac (fun z => ra (12 * d + z)) (ro1 (k - 1)) = K1 pt ac (fun z => ra (12 * d + z)) (ro1 k) := by rw [hK9 _ (by omega), hK9 _ (by omega)]
                refine lv_aload_n hC.1 hC.2.1 dX5_rankAt_83 rfl (lv_at hl 0 rfl) ?_
                refine lv_aload_n hC.1 hC.2.1 dX5_rankAt_84 rfl (lv_at hl 0 rfl) ?_
                refine g_get hC hw hin5 0 rfl rfl 13 (by decide) lk31 rfl dX5_rankAt_85 ?_
                refine lv_iload_n hC.1 hC.2.1 dX5_rankAt_88 rfl (lv_at hl 3 rfl) ?_
                refine lv_iconst (v := nI 1) hC.1 hC.2.1 dX5_rankAt_89 (by decide) ?_
                refine n_isub hC dX5_rankAt_90 (by omega) ?_
                refine g_ialdN hC hw 7 0 rfl rfl (by omega) (by first | decide | omega) dX5_rankAt_91 ?_
                refine lv_aload_n hC.1 hC.2.1 dX5_rankAt_92 rfl (lv_at hl 0 rfl) ?_
                refine g_get hC hw hin5 0 rfl rfl 13 (by decide) lk31 rfl dX5_rankAt_93 ?_
                refine lv_iload_n hC.1 hC.2.1 dX5_rankAt_96 rfl (lv_at hl 3 rfl) ?_
                refine g_ialdN hC hw 7 0 rfl rfl (by omega) (by first | decide | omega) dX5_rankAt_97 ?_
                refine lv_iload_n hC.1 hC.2.1 dX5_rankAt_98 rfl (lv_at hl 1 rfl) ?_
                refine W.ccI (wc := [((ad 40), .inr (5, [.int (ft), .int (nI (n)), .int (L), .ref ((ad 41)), .ref ((ad 42)), .ref ((ad 43)), .ref ((ad 44)), .int (nI (fl)), .int (nI (rk)), .ref ((ad 45)), .ref ((ad 46)), .ref ((ad 47)), .int (rs), .ref ((ad 48)), .long (dr), .int (nI (wo)), .ref ((ad 49)), .ref ((ad 50)), .ref ((ad 51)), .ref ((ad 52)), .ref ((ad 53)), .ref ((ad 54)), .ref ((ad 55)), .ref ((ad 56)), .ref ((ad 57)), .ref ((ad 58)), .int (tc)])), ((ad 41), .inl (cyI, 12, .inl (fun zj => nI (mk zj)))), ((ad 42), .inl (cyI, 12, .inl (fun zj => nI (pt zj)))), ((ad 43), .inl (cyI, 72, .inl (fun zj => nI (tp zj)))), ((ad 44), .inl (cyI, 72, .inl (fun zj => nI (tj zj)))), ((ad 46), .inl (cyI, 264, .inl (fun zj => nI (ra1 zj))))]) (wr := [((ad 47), .inl (cyI, 22, .inl (fun zj => nI (ul zj)))), ((ad 48), .inl (cyI, 12, .inl (fun zj => nI (ro1 zj))))]) (ws1 := fun (u : Unit) => [((ad 40), .inr (5, [.int (ft), .int (nI (n)), .int (L), .ref ((ad 41)), .ref ((ad 42)), .ref ((ad 43)), .ref ((ad 44)), .int (nI (fl)), .int (nI (rk)), .ref ((ad 45)), .ref ((ad 46)), .ref ((ad 47)), .int (rs), .ref ((ad 48)), .long (dr), .int (nI (wo)), .ref ((ad 49)), .ref ((ad 50)), .ref ((ad 51)), .ref ((ad 52)), .ref ((ad 53)), .ref ((ad 54)), .ref ((ad 55)), .ref ((ad 56)), .ref ((ad 57)), .ref ((ad 58)), .int (tc)])), ((ad 41), .inl (cyI, 12, .inl (fun zj => nI (mk zj)))), ((ad 42), .inl (cyI, 12, .inl (fun zj => nI (pt zj)))), ((ad 43), .inl (cyI, 72, .inl (fun zj => nI (tp zj)))), ((ad 44), .inl (cyI, 72, .inl (fun zj => nI (tj zj)))), ((ad 46), .inl (cyI, 264, .inl (fun zj => nI (ra1 zj))))]) (ws2 := fun (u : Unit) => [((ad 40), .inr (5, [.int (ft), .int (nI (n)), .int (L), .ref ((ad 41)), .ref ((ad 42)), .ref ((ad 43)), .ref ((ad 44)), .int (nI (fl)), .int (nI (rk)), .ref ((ad 45)), .ref ((ad 46)), .ref ((ad 47)), .int (rs), .ref ((ad 48)), .long (dr), .int (nI (wo)), .ref ((ad 49)), .ref ((ad 50)), .ref ((ad 51)), .ref ((ad 52)), .ref ((ad 53)), .ref ((ad 54)), .ref ((ad 55)), .ref ((ad 56)), .ref ((ad 57)), .ref ((ad 58)), .int (tc)])), ((ad 41), .inl (cyI, 12, .inl (fun zj => nI (mk zj)))), ((ad 42), .inl (cyI, 12, .inl (fun zj => nI (pt zj)))), ((ad 43), .inl (cyI, 72, .inl (fun zj => nI (tp zj)))), ((ad 44), .inl (cyI, 72, .inl (fun zj => nI (tj zj)))), ((ad 46), .inl (cyI, 264, .inl (fun zj => nI (ra1 zj)))), ((ad 47), .inl (cyI, 22, .inl (fun zj => nI (ul zj)))), ((ad 48), .inl (cyI, 12, .inl (fun zj => nI (ro1 zj))))]) hw [0, 1, 2, 3, 4, 5] [6, 7] [2, 3, 4, 5, 6, 7, 0, 1] rfl rfl (by decide) (by decide) (by decide) (fun _ => rfl) (Wd.runV (wc := [((ad 40), .inr (5, [.int (ft), .int (nI (n)), .int (L), .ref ((ad 41)), .ref ((ad 42)), .ref ((ad 43)), .ref ((ad 44)), .int (nI (fl)), .int (nI (rk)), .ref ((ad 45)), .ref ((ad 46)), .ref ((ad 47)), .int (rs), .ref ((ad 48)), .long (dr), .int (nI (wo)), .ref ((ad 49)), .ref ((ad 50)), .ref ((ad 51)), .ref ((ad 52)), .ref ((ad 53)), .ref ((ad 54)), .ref ((ad 55)), .ref ((ad 56)), .ref ((ad 57)), .ref ((ad 58)), .int (tc)])), ((ad 41), .inl (cyI, 12, .inl (fun zj => nI (mk zj)))), ((ad 42), .inl (cyI, 12, .inl (fun zj => nI (pt zj)))), ((ad 43), .inl (cyI, 72, .inl (fun zj => nI (tp zj)))), ((ad 44), .inl (cyI, 72, .inl (fun zj => nI (tj zj)))), ((ad 46), .inl (cyI, 264, .inl (fun zj => nI (ra1 zj))))]) (rest := [.int (nI (r))]) (As := [.int (nI (ro1 (k - 1))), .int (nI (ro1 k)), .int (nI (d + 1))]) hC hw [0, 1, 2, 3, 4, 5] rfl (by decide) 0 rfl rfl (cwV 3 hC.2.2.2.2 gX5_rankAt_X5_compare rfl rfl rfl (by decide +kernel) ⟨Nat.le_of_ble_eq_true rfl, Nat.le_of_ble_eq_true rfl⟩) (c_X5_compare_1 l dC dI cyI cyJ cyZ cyS ad ft n L fl rk rs dr wo tc mk pt tp tj ra1 ac (by first | assumption | omega) (by first | assumption | omega) (ro1 (k - 1)) (ro1 k) (by omega) (by omega) d (by first | assumption | omega) (by intro q hq; rw [hfr _ (by omega)]; exact hM.r16 hN (Nat.lt_succ_self d) q hq) (by intro p q hp hq; rw [hfr _ (by omega), hfr _ (by omega)]; exact hM.pe hN (Nat.lt_succ_self d) p q hp hq) _) rfl hl.1 rfl (Nat.le_of_ble_eq_true rfl) dX5_rankAt_99 ⟨Nat.zero_le _, Nat.zero_le _⟩) (fun r_99 u H locs hr_99 hw => ?_)
                replace hw : Wd dC dI (tysA cyI cyJ cyZ cyS) [((ad 40), .inr (5, [.int (ft), .int (nI (n)), .int (L), .ref ((ad 41)), .ref ((ad 42)), .ref ((ad 43)), .ref ((ad 44)), .int (nI (fl)), .int (nI (rk)), .ref ((ad 45)), .ref ((ad 46)), .ref ((ad 47)), .int (rs), .ref ((ad 48)), .long (dr), .int (nI (wo)), .ref ((ad 49)), .ref ((ad 50)), .ref ((ad 51)), .ref ((ad 52)), .ref ((ad 53)), .ref ((ad 54)), .ref ((ad 55)), .ref ((ad 56)), .ref ((ad 57)), .ref ((ad 58)), .int (tc)])), ((ad 41), .inl (cyI, 12, .inl (fun zj => nI (mk zj)))), ((ad 42), .inl (cyI, 12, .inl (fun zj => nI (pt zj)))), ((ad 43), .inl (cyI, 72, .inl (fun zj => nI (tp zj)))), ((ad 44), .inl (cyI, 72, .inl (fun zj => nI (tj zj)))), ((ad 46), .inl (cyI, 264, .inl (fun zj => nI (ra1 zj)))), ((ad 47), .inl (cyI, 22, .inl (fun zj => nI (ul zj)))), ((ad 48), .inl (cyI, 12, .inl (fun zj => nI (ro1 zj))))] zA zs H locs := hw
                subst hr_99
                refine lv_if_eq (tgt := 109) hC.1 hC.2.1 dX5_rankAt_102 (by decide) (fun c_102 => ?_) (fun c_102 => ?_)
                · skip
                  refine lv_iconst (v := nI 0) hC.1 hC.2.1 dX5_rankAt_109 (by decide) ?_
                  refine n_iadd hC dX5_rankAt_110 ?_
                  refine lv_istore_n (lv' := [(2, .int (nI (r + 0))), (0, .ref ((ad 40))), (1, .int (nI (d + 1))), (3, .int (nI (k)))]) hC.1 hC.2.1 dX5_rankAt_111 rfl hl (by decide) rfl (fun ls hl => ?_)
                  have hrn : r + 0 = chg (K1 pt ac (fun z => ra (12 * d + z))) ro1 k := by first | (rw [chg_nx c_80, if_pos (hKQ.mp (cmpN_0.mp c_102)), ← hr]; done) | (rw [chg_nx c_80, if_neg (fun z => c_102 (cmpN_0.mpr (hKQ.mpr z))), ← hr]; done) | (rw [hr, show k = 0 by omega]; rfl)
                  refine lv_aload_n hC.1 hC.2.1 dX5_rankAt_112 rfl (lv_at hl 1 rfl) ?_
                  refine g_get hC hw hin5 0 rfl rfl 10 (by decide) lk25 rfl dX5_rankAt_113 ?_
                  refine lv_bipush (v := nI 12) hC.1 hC.2.1 dX5_rankAt_116 (by decide) ?_
                  refine lv_iload_n hC.1 hC.2.1 dX5_rankAt_118 rfl (lv_at hl 2 rfl) ?_
                  refine n_imul hC dX5_rankAt_119 ?_
                  refine lv_aload_n hC.1 hC.2.1 dX5_rankAt_120 rfl (lv_at hl 1 rfl) ?_
                  refine g_get hC hw hin5 0 rfl rfl 13 (by decide) lk31 rfl dX5_rankAt_121 ?_
                  refine lv_iload_n hC.1 hC.2.1 dX5_rankAt_124 rfl (lv_at hl 3 rfl) ?_
                  refine g_ialdN hC hw 7 0 rfl rfl (by omega) (by first | decide | omega) dX5_rankAt_125 ?_
                  refine n_iadd hC dX5_rankAt_126 ?_
                  refine lv_iload_n hC.1 hC.2.1 dX5_rankAt_127 rfl (lv_at hl 0 rfl) ?_
                  refine g_iastN hC hw 5 0 rfl rfl (by omega) (by first | decide | omega) dX5_rankAt_128 (fun H locs hw => ?_)
                  replace hw : Wd dC dI (tysA cyI cyJ cyZ cyS) [((ad 40), .inr (5, [.int (ft), .int (nI (n)), .int (L), .ref ((ad 41)), .ref ((ad 42)), .ref ((ad 43)), .ref ((ad 44)), .int (nI (fl)), .int (nI (rk)), .ref ((ad 45)), .ref ((ad 46)), .ref ((ad 47)), .int (rs), .ref ((ad 48)), .long (dr), .int (nI (wo)), .ref ((ad 49)), .ref ((ad 50)), .ref ((ad 51)), .ref ((ad 52)), .ref ((ad 53)), .ref ((ad 54)), .ref ((ad 55)), .ref ((ad 56)), .ref ((ad 57)), .ref ((ad 58)), .int (tc)])), ((ad 41), .inl (cyI, 12, .inl (fun zj => nI (mk zj)))), ((ad 42), .inl (cyI, 12, .inl (fun zj => nI (pt zj)))), ((ad 43), .inl (cyI, 72, .inl (fun zj => nI (tp zj)))), ((ad 44), .inl (cyI, 72, .inl (fun zj => nI (tj zj)))), ((ad 46), .inl (cyI, 264, .inl (fun zj => nI ((va_up ra1 ((12 * (d + 1)) + (ro1 k)) (r + 0)) zj)))), ((ad 47), .inl (cyI, 22, .inl (fun zj => nI (ul zj)))), ((ad 48), .inl (cyI, 12, .inl (fun zj => nI (ro1 zj))))] zA zs H locs := hw
                  refine lv_iinc (v := nI (k + 1)) (lv' := [(3, .int (nI (k + 1))), (2, .int (nI (r + 0))), (0, .ref ((ad 40))), (1, .int (nI (d + 1)))]) hC.1 hC.2.1 dX5_rankAt_129 hl (k := 3) rfl (nI_inc k 1) (by decide) rfl (fun ls hl => ?_)
                  refine lv_goto (tgt := 70) hC.1 hC.2.1 dX5_rankAt_132 (by decide) ?_
                  exact ih70 (r + 0) (k + 1) (va_up ra1 ((12 * (d + 1)) + (ro1 k)) (r + 0)) _ _ ls (by omega) (by omega) (by rw [Nat.add_sub_cancel]; exact hrn) (by exact hW.step hS (by omega) hrn) (by intro j h; rw [va_up_ne _ _ (by omega)]; exact hfr j h) hw (lv_sub hl [2, 3, 1, 0] rfl)
                · skip
                  refine lv_iconst (v := nI 1) hC.1 hC.2.1 dX5_rankAt_105 (by decide) ?_
                  refine lv_goto (tgt := 110) hC.1 hC.2.1 dX5_rankAt_106 (by decide) ?_
                  refine n_iadd hC dX5_rankAt_110 ?_
                  refine lv_istore_n (lv' := [(2, .int (nI (r + 1))), (0, .ref ((ad 40))), (1, .int (nI (d + 1))), (3, .int (nI (k)))]) hC.1 hC.2.1 dX5_rankAt_111 rfl hl (by decide) rfl (fun ls hl => ?_)
                  have hrn : r + 1 = chg (K1 pt ac (fun z => ra (12 * d + z))) ro1 k := by first | (rw [chg_nx c_80, if_pos (hKQ.mp (cmpN_0.mp c_102)), ← hr]; done) | (rw [chg_nx c_80, if_neg (fun z => c_102 (cmpN_0.mpr (hKQ.mpr z))), ← hr]; done) | (rw [hr, show k = 0 by omega]; rfl)
                  refine lv_aload_n hC.1 hC.2.1 dX5_rankAt_112 rfl (lv_at hl 1 rfl) ?_
                  refine g_get hC hw hin5 0 rfl rfl 10 (by decide) lk25 rfl dX5_rankAt_113 ?_
                  refine lv_bipush (v := nI 12) hC.1 hC.2.1 dX5_rankAt_116 (by decide) ?_
                  refine lv_iload_n hC.1 hC.2.1 dX5_rankAt_118 rfl (lv_at hl 2 rfl) ?_
                  refine n_imul hC dX5_rankAt_119 ?_
                  refine lv_aload_n hC.1 hC.2.1 dX5_rankAt_120 rfl (lv_at hl 1 rfl) ?_
                  refine g_get hC hw hin5 0 rfl rfl 13 (by decide) lk31 rfl dX5_rankAt_121 ?_
                  refine lv_iload_n hC.1 hC.2.1 dX5_rankAt_124 rfl (lv_at hl 3 rfl) ?_
                  refine g_ialdN hC hw 7 0 rfl rfl (by omega) (by first | decide | omega) dX5_rankAt_125 ?_
                  refine n_iadd hC dX5_rankAt_126 ?_
                  refine lv_iload_n hC.1 hC.2.1 dX5_rankAt_127 rfl (lv_at hl 0 rfl) ?_
                  refine g_iastN hC hw 5 0 rfl rfl (by omega) (by first | decide | omega) dX5_rankAt_128 (fun H locs hw => ?_)
                  replace hw : Wd dC dI (tysA cyI cyJ cyZ cyS) [((ad 40), .inr (5, [.int (ft), .int (nI (n)), .int (L), .ref ((ad 41)), .ref ((ad 42)), .ref ((ad 43)), .ref ((ad 44)), .int (nI (fl)), .int (nI (rk)), .ref ((ad 45)), .ref ((ad 46)), .ref ((ad 47)), .int (rs), .ref ((ad 48)), .long (dr), .int (nI (wo)), .ref ((ad 49)), .ref ((ad 50)), .ref ((ad 51)), .ref ((ad 52)), .ref ((ad 53)), .ref ((ad 54)), .ref ((ad 55)), .ref ((ad 56)), .ref ((ad 57)), .ref ((ad 58)), .int (tc)])), ((ad 41), .inl (cyI, 12, .inl (fun zj => nI (mk zj)))), ((ad 42), .inl (cyI, 12, .inl (fun zj => nI (pt zj)))), ((ad 43), .inl (cyI, 72, .inl (fun zj => nI (tp zj)))), ((ad 44), .inl (cyI, 72, .inl (fun zj => nI (tj zj)))), ((ad 46), .inl (cyI, 264, .inl (fun zj => nI ((va_up ra1 ((12 * (d + 1)) + (ro1 k)) (r + 1)) zj)))), ((ad 47), .inl (cyI, 22, .inl (fun zj => nI (ul zj)))), ((ad 48), .inl (cyI, 12, .inl (fun zj => nI (ro1 zj))))] zA zs H locs := hw
                  refine lv_iinc (v := nI (k + 1)) (lv' := [(3, .int (nI (k + 1))), (2, .int (nI (r + 1))), (0, .ref ((ad 40))), (1, .int (nI (d + 1)))]) hC.1 hC.2.1 dX5_rankAt_129 hl (k := 3) rfl (nI_inc k 1) (by decide) rfl (fun ls hl => ?_)
                  refine lv_goto (tgt := 70) hC.1 hC.2.1 dX5_rankAt_132 (by decide) ?_
                  exact ih70 (r + 1) (k + 1) (va_up ra1 ((12 * (d + 1)) + (ro1 k)) (r + 1)) _ _ ls (by omega) (by omega) (by rw [Nat.add_sub_cancel]; exact hrn) (by exact hW.step hS (by omega) hrn) (by intro j h; rw [va_up_ne _ _ (by omega)]; exact hfr j h) hw (lv_sub hl [2, 3, 1, 0] rfl)
        exact K70 _ 0 0 ra _ _ ls (Nat.lt_succ_self _) (by omega) (by rfl) (by intro j h; omega) (by intro j h; rfl) hw (lv_sub hl [2, 3, 1, 0] rfl)
      · skip
        refine lv_iload_n hC.1 hC.2.1 dX5_rankAt_10 rfl (lv_at hl 2 rfl) ?_
        refine lv_istore_n (lv' := [(3, .int (nI (p))), (0, .ref ((ad 40))), (1, .int (nI (d + 1))), (2, .int (nI (p)))]) hC.1 hC.2.1 dX5_rankAt_11 rfl hl (by decide) rfl (fun ls hl => ?_)
        have K12 : ∀ (zk : Nat), ∀ (a : Nat) (ro2 : Nat → Nat) (H : Heap) (locs : List Loc) (ls : Array Slot), a < zk → (a ≤ p) → (∀ j, ro2 j = if a < j ∧ j ≤ p then ro1 (j - 1) else ro1 j) → (∀ j, a ≤ j → j < p → (K1 pt ac (fun z => ra (12 * d + z))) p < (K1 pt ac (fun z => ra (12 * d + z))) (ro1 j)) → Wd dC dI (tysA cyI cyJ cyZ cyS) [((ad 40), .inr (5, [.int (ft), .int (nI (n)), .int (L), .ref ((ad 41)), .ref ((ad 42)), .ref ((ad 43)), .ref ((ad 44)), .int (nI (fl)), .int (nI (rk)), .ref ((ad 45)), .ref ((ad 46)), .ref ((ad 47)), .int (rs), .ref ((ad 48)), .long (dr), .int (nI (wo)), .ref ((ad 49)), .ref ((ad 50)), .ref ((ad 51)), .ref ((ad 52)), .ref ((ad 53)), .ref ((ad 54)), .ref ((ad 55)), .ref ((ad 56)), .ref ((ad 57)), .ref ((ad 58)), .int (tc)])), ((ad 41), .inl (cyI, 12, .inl (fun zj => nI (mk zj)))), ((ad 42), .inl (cyI, 12, .inl (fun zj => nI (pt zj)))), ((ad 43), .inl (cyI, 72, .inl (fun zj => nI (tp zj)))), ((ad 44), .inl (cyI, 72, .inl (fun zj => nI (tj zj)))), ((ad 46), .inl (cyI, 264, .inl (fun zj => nI (ra zj)))), ((ad 47), .inl (cyI, 22, .inl (fun zj => nI (ul zj)))), ((ad 48), .inl (cyI, 12, .inl (fun zj => nI (ro2 zj))))] zA zs H locs → lv_has ls 4 [(0, .ref ((ad 40))), (1, .int (nI (d + 1))), (2, .int (nI (p))), (3, .int (nI (a)))] → W zp l ze ({ frames := 2, cells := 0, slots := 0, locals := 47 } : Room) zs zm za zb zt zc H locs 0 0 zQ (F0 zm 12 ls []) := by
          intro zk
          induction zk with
          | zero => intro a ro2 H locs ls h0; exact absurd h0 (Nat.not_lt_zero _)
          | succ zk ih12 =>
            intro a ro2 H locs ls hmu ha hf hg hw hl
            refine lv_iload_n hC.1 hC.2.1 dX5_rankAt_12 rfl (lv_at hl 3 rfl) ?_
            refine n_if_le (tgt := 53) hC dX5_rankAt_13 (by decide) (by omega) (fun c_13 => ?_) (fun c_13 => ?_)
            · skip
              refine lv_aload_n hC.1 hC.2.1 dX5_rankAt_53 rfl (lv_at hl 0 rfl) ?_
              refine g_get hC hw hin5 0 rfl rfl 13 (by decide) lk31 rfl dX5_rankAt_54 ?_
              refine lv_iload_n hC.1 hC.2.1 dX5_rankAt_57 rfl (lv_at hl 3 rfl) ?_
              refine lv_iload_n hC.1 hC.2.1 dX5_rankAt_58 rfl (lv_at hl 2 rfl) ?_
              refine g_iastN hC hw 7 0 rfl rfl (by omega) (by first | decide | omega) dX5_rankAt_59 (fun H locs hw => ?_)
              replace hw : Wd dC dI (tysA cyI cyJ cyZ cyS) [((ad 40), .inr (5, [.int (ft), .int (nI (n)), .int (L), .ref ((ad 41)), .ref ((ad 42)), .ref ((ad 43)), .ref ((ad 44)), .int (nI (fl)), .int (nI (rk)), .ref ((ad 45)), .ref ((ad 46)), .ref ((ad 47)), .int (rs), .ref ((ad 48)), .long (dr), .int (nI (wo)), .ref ((ad 49)), .ref ((ad 50)), .ref ((ad 51)), .ref ((ad 52)), .ref ((ad 53)), .ref ((ad 54)), .ref ((ad 55)), .ref ((ad 56)), .ref ((ad 57)), .ref ((ad 58)), .int (tc)])), ((ad 41), .inl (cyI, 12, .inl (fun zj => nI (mk zj)))), ((ad 42), .inl (cyI, 12, .inl (fun zj => nI (pt zj)))), ((ad 43), .inl (cyI, 72, .inl (fun zj => nI (tp zj)))), ((ad 44), .inl (cyI, 72, .inl (fun zj => nI (tj zj)))), ((ad 46), .inl (cyI, 264, .inl (fun zj => nI (ra zj)))), ((ad 47), .inl (cyI, 22, .inl (fun zj => nI (ul zj)))), ((ad 48), .inl (cyI, 12, .inl (fun zj => nI ((va_up ro2 a p) zj))))] zA zs H locs := hw
              refine lv_iinc (v := nI (p + 1)) (lv' := [(2, .int (nI (p + 1))), (0, .ref ((ad 40))), (1, .int (nI (d + 1))), (3, .int (nI (a)))]) hC.1 hC.2.1 dX5_rankAt_60 hl (k := 2) rfl (nI_inc p 1) (by decide) rfl (fun ls hl => ?_)
              refine lv_goto (tgt := 2) hC.1 hC.2.1 dX5_rankAt_63 (by decide) ?_
              exact ih2 (p + 1) (va_up ro2 a p) _ _ ls (by omega) (by omega) (by exact hS.ins ha hg (by first | (intro z; omega) | (intro _; rw [← hro]; exact fun z => absurd (cmpN_n.mpr z) (Int32.not_lt.mpr c_30))) (sh_end hf)) hw (lv_sub hl [1, 2, 0] rfl)
            · skip
              have hro : ro2 (a - 1) = ro1 (a - 1) := by rw [hf, if_neg (by omega)]
              have hrl : ro1 (a - 1) < p := hS.lt (by omega)
              refine lv_aload_n hC.1 hC.2.1 dX5_rankAt_16 rfl (lv_at hl 0 rfl) ?_
              refine lv_iload_n hC.1 hC.2.1 dX5_rankAt_17 rfl (lv_at hl 2 rfl) ?_
              refine lv_aload_n hC.1 hC.2.1 dX5_rankAt_18 rfl (lv_at hl 0 rfl) ?_
              refine g_get hC hw hin5 0 rfl rfl 13 (by decide) lk31 rfl dX5_rankAt_19 ?_
              refine lv_iload_n hC.1 hC.2.1 dX5_rankAt_22 rfl (lv_at hl 3 rfl) ?_
              refine lv_iconst (v := nI 1) hC.1 hC.2.1 dX5_rankAt_23 (by decide) ?_
              refine n_isub hC dX5_rankAt_24 (by omega) ?_
              refine g_ialdN hC hw 7 0 rfl rfl (by omega) (by first | decide | omega) dX5_rankAt_25 ?_
              refine lv_iload_n hC.1 hC.2.1 dX5_rankAt_26 rfl (lv_at hl 1 rfl) ?_
              refine W.ccI (wc := [((ad 40), .inr (5, [.int (ft), .int (nI (n)), .int (L), .ref ((ad 41)), .ref ((ad 42)), .ref ((ad 43)), .ref ((ad 44)), .int (nI (fl)), .int (nI (rk)), .ref ((ad 45)), .ref ((ad 46)), .ref ((ad 47)), .int (rs), .ref ((ad 48)), .long (dr), .int (nI (wo)), .ref ((ad 49)), .ref ((ad 50)), .ref ((ad 51)), .ref ((ad 52)), .ref ((ad 53)), .ref ((ad 54)), .ref ((ad 55)), .ref ((ad 56)), .ref ((ad 57)), .ref ((ad 58)), .int (tc)])), ((ad 41), .inl (cyI, 12, .inl (fun zj => nI (mk zj)))), ((ad 42), .inl (cyI, 12, .inl (fun zj => nI (pt zj)))), ((ad 43), .inl (cyI, 72, .inl (fun zj => nI (tp zj)))), ((ad 44), .inl (cyI, 72, .inl (fun zj => nI (tj zj)))), ((ad 46), .inl (cyI, 264, .inl (fun zj => nI (ra zj))))]) (wr := [((ad 47), .inl (cyI, 22, .inl (fun zj => nI (ul zj)))), ((ad 48), .inl (cyI, 12, .inl (fun zj => nI (ro2 zj))))]) (ws1 := fun (u : Unit) => [((ad 40), .inr (5, [.int (ft), .int (nI (n)), .int (L), .ref ((ad 41)), .ref ((ad 42)), .ref ((ad 43)), .ref ((ad 44)), .int (nI (fl)), .int (nI (rk)), .ref ((ad 45)), .ref ((ad 46)), .ref ((ad 47)), .int (rs), .ref ((ad 48)), .long (dr), .int (nI (wo)), .ref ((ad 49)), .ref ((ad 50)), .ref ((ad 51)), .ref ((ad 52)), .ref ((ad 53)), .ref ((ad 54)), .ref ((ad 55)), .ref ((ad 56)), .ref ((ad 57)), .ref ((ad 58)), .int (tc)])), ((ad 41), .inl (cyI, 12, .inl (fun zj => nI (mk zj)))), ((ad 42), .inl (cyI, 12, .inl (fun zj => nI (pt zj)))), ((ad 43), .inl (cyI, 72, .inl (fun zj => nI (tp zj)))), ((ad 44), .inl (cyI, 72, .inl (fun zj => nI (tj zj)))), ((ad 46), .inl (cyI, 264, .inl (fun zj => nI (ra zj))))]) (ws2 := fun (u : Unit) => [((ad 40), .inr (5, [.int (ft), .int (nI (n)), .int (L), .ref ((ad 41)), .ref ((ad 42)), .ref ((ad 43)), .ref ((ad 44)), .int (nI (fl)), .int (nI (rk)), .ref ((ad 45)), .ref ((ad 46)), .ref ((ad 47)), .int (rs), .ref ((ad 48)), .long (dr), .int (nI (wo)), .ref ((ad 49)), .ref ((ad 50)), .ref ((ad 51)), .ref ((ad 52)), .ref ((ad 53)), .ref ((ad 54)), .ref ((ad 55)), .ref ((ad 56)), .ref ((ad 57)), .ref ((ad 58)), .int (tc)])), ((ad 41), .inl (cyI, 12, .inl (fun zj => nI (mk zj)))), ((ad 42), .inl (cyI, 12, .inl (fun zj => nI (pt zj)))), ((ad 43), .inl (cyI, 72, .inl (fun zj => nI (tp zj)))), ((ad 44), .inl (cyI, 72, .inl (fun zj => nI (tj zj)))), ((ad 46), .inl (cyI, 264, .inl (fun zj => nI (ra zj)))), ((ad 47), .inl (cyI, 22, .inl (fun zj => nI (ul zj)))), ((ad 48), .inl (cyI, 12, .inl (fun zj => nI (ro2 zj))))]) hw [0, 1, 2, 3, 4, 5] [6, 7] [2, 3, 4, 5, 6, 7, 0, 1] rfl rfl (by decide) (by decide) (by decide) (fun _ => rfl) (Wd.runV (wc := [((ad 40), .inr (5, [.int (ft), .int (nI (n)), .int (L), .ref ((ad 41)), .ref ((ad 42)), .ref ((ad 43)), .ref ((ad 44)), .int (nI (fl)), .int (nI (rk)), .ref ((ad 45)), .ref ((ad 46)), .ref ((ad 47)), .int (rs), .ref ((ad 48)), .long (dr), .int (nI (wo)), .ref ((ad 49)), .ref ((ad 50)), .ref ((ad 51)), .ref ((ad 52)), .ref ((ad 53)), .ref ((ad 54)), .ref ((ad 55)), .ref ((ad 56)), .ref ((ad 57)), .ref ((ad 58)), .int (tc)])), ((ad 41), .inl (cyI, 12, .inl (fun zj => nI (mk zj)))), ((ad 42), .inl (cyI, 12, .inl (fun zj => nI (pt zj)))), ((ad 43), .inl (cyI, 72, .inl (fun zj => nI (tp zj)))), ((ad 44), .inl (cyI, 72, .inl (fun zj => nI (tj zj)))), ((ad 46), .inl (cyI, 264, .inl (fun zj => nI (ra zj))))]) (rest := []) (As := [.int (nI (p)), .int (nI (ro2 (a - 1))), .int (nI (d + 1))]) hC hw [0, 1, 2, 3, 4, 5] rfl (by decide) 0 rfl rfl (cwV 3 hC.2.2.2.2 gX5_rankAt_X5_compare rfl rfl rfl (by decide +kernel) ⟨Nat.le_of_ble_eq_true rfl, Nat.le_of_ble_eq_true rfl⟩) (c_X5_compare_1 l dC dI cyI cyJ cyZ cyS ad ft n L fl rk rs dr wo tc mk pt tp tj ra ac (by first | assumption | omega) (by first | assumption | omega) p (ro2 (a - 1)) (by omega) (by omega) d (by first | assumption | omega) (by exact hM.r16 hN (Nat.lt_succ_self d)) (by exact hM.pe hN (Nat.lt_succ_self d)) _) rfl hl.1 rfl (Nat.le_of_ble_eq_true rfl) dX5_rankAt_27 ⟨Nat.zero_le _, Nat.zero_le _⟩) (fun r_27 u H locs hr_27 hw => ?_)
              replace hw : Wd dC dI (tysA cyI cyJ cyZ cyS) [((ad 40), .inr (5, [.int (ft), .int (nI (n)), .int (L), .ref ((ad 41)), .ref ((ad 42)), .ref ((ad 43)), .ref ((ad 44)), .int (nI (fl)), .int (nI (rk)), .ref ((ad 45)), .ref ((ad 46)), .ref ((ad 47)), .int (rs), .ref ((ad 48)), .long (dr), .int (nI (wo)), .ref ((ad 49)), .ref ((ad 50)), .ref ((ad 51)), .ref ((ad 52)), .ref ((ad 53)), .ref ((ad 54)), .ref ((ad 55)), .ref ((ad 56)), .ref ((ad 57)), .ref ((ad 58)), .int (tc)])), ((ad 41), .inl (cyI, 12, .inl (fun zj => nI (mk zj)))), ((ad 42), .inl (cyI, 12, .inl (fun zj => nI (pt zj)))), ((ad 43), .inl (cyI, 72, .inl (fun zj => nI (tp zj)))), ((ad 44), .inl (cyI, 72, .inl (fun zj => nI (tj zj)))), ((ad 46), .inl (cyI, 264, .inl (fun zj => nI (ra zj)))), ((ad 47), .inl (cyI, 22, .inl (fun zj => nI (ul zj)))), ((ad 48), .inl (cyI, 12, .inl (fun zj => nI (ro2 zj))))] zA zs H locs := hw
              subst hr_27
              refine lv_if_ge (tgt := 53) hC.1 hC.2.1 dX5_rankAt_30 (by decide) (fun c_30 => ?_) (fun c_30 => ?_)
              · skip
                refine lv_aload_n hC.1 hC.2.1 dX5_rankAt_53 rfl (lv_at hl 0 rfl) ?_
                refine g_get hC hw hin5 0 rfl rfl 13 (by decide) lk31 rfl dX5_rankAt_54 ?_
                refine lv_iload_n hC.1 hC.2.1 dX5_rankAt_57 rfl (lv_at hl 3 rfl) ?_
                refine lv_iload_n hC.1 hC.2.1 dX5_rankAt_58 rfl (lv_at hl 2 rfl) ?_
                refine g_iastN hC hw 7 0 rfl rfl (by omega) (by first | decide | omega) dX5_rankAt_59 (fun H locs hw => ?_)
                replace hw : Wd dC dI (tysA cyI cyJ cyZ cyS) [((ad 40), .inr (5, [.int (ft), .int (nI (n)), .int (L), .ref ((ad 41)), .ref ((ad 42)), .ref ((ad 43)), .ref ((ad 44)), .int (nI (fl)), .int (nI (rk)), .ref ((ad 45)), .ref ((ad 46)), .ref ((ad 47)), .int (rs), .ref ((ad 48)), .long (dr), .int (nI (wo)), .ref ((ad 49)), .ref ((ad 50)), .ref ((ad 51)), .ref ((ad 52)), .ref ((ad 53)), .ref ((ad 54)), .ref ((ad 55)), .ref ((ad 56)), .ref ((ad 57)), .ref ((ad 58)), .int (tc)])), ((ad 41), .inl (cyI, 12, .inl (fun zj => nI (mk zj)))), ((ad 42), .inl (cyI, 12, .inl (fun zj => nI (pt zj)))), ((ad 43), .inl (cyI, 72, .inl (fun zj => nI (tp zj)))), ((ad 44), .inl (cyI, 72, .inl (fun zj => nI (tj zj)))), ((ad 46), .inl (cyI, 264, .inl (fun zj => nI (ra zj)))), ((ad 47), .inl (cyI, 22, .inl (fun zj => nI (ul zj)))), ((ad 48), .inl (cyI, 12, .inl (fun zj => nI ((va_up ro2 a p) zj))))] zA zs H locs := hw
                refine lv_iinc (v := nI (p + 1)) (lv' := [(2, .int (nI (p + 1))), (0, .ref ((ad 40))), (1, .int (nI (d + 1))), (3, .int (nI (a)))]) hC.1 hC.2.1 dX5_rankAt_60 hl (k := 2) rfl (nI_inc p 1) (by decide) rfl (fun ls hl => ?_)
                refine lv_goto (tgt := 2) hC.1 hC.2.1 dX5_rankAt_63 (by decide) ?_
                exact ih2 (p + 1) (va_up ro2 a p) _ _ ls (by omega) (by omega) (by exact hS.ins ha hg (by first | (intro z; omega) | (intro _; rw [← hro]; exact fun z => absurd (cmpN_n.mpr z) (Int32.not_lt.mpr c_30))) (sh_end hf)) hw (lv_sub hl [1, 2, 0] rfl)
              · skip
                have hlt9 := cmpN_n.mp (Int32.not_le.mp c_30)
                refine lv_aload_n hC.1 hC.2.1 dX5_rankAt_33 rfl (lv_at hl 0 rfl) ?_
                refine g_get hC hw hin5 0 rfl rfl 13 (by decide) lk31 rfl dX5_rankAt_34 ?_
                refine lv_iload_n hC.1 hC.2.1 dX5_rankAt_37 rfl (lv_at hl 3 rfl) ?_
                refine lv_aload_n hC.1 hC.2.1 dX5_rankAt_38 rfl (lv_at hl 0 rfl) ?_
                refine g_get hC hw hin5 0 rfl rfl 13 (by decide) lk31 rfl dX5_rankAt_39 ?_
                refine lv_iload_n hC.1 hC.2.1 dX5_rankAt_42 rfl (lv_at hl 3 rfl) ?_
                refine lv_iconst (v := nI 1) hC.1 hC.2.1 dX5_rankAt_43 (by decide) ?_
                refine n_isub hC dX5_rankAt_44 (by omega) ?_
                refine g_ialdN hC hw 7 0 rfl rfl (by omega) (by first | decide | omega) dX5_rankAt_45 ?_
                refine g_iastN hC hw 7 0 rfl rfl (by omega) (by first | decide | omega) dX5_rankAt_46 (fun H locs hw => ?_)
                replace hw : Wd dC dI (tysA cyI cyJ cyZ cyS) [((ad 40), .inr (5, [.int (ft), .int (nI (n)), .int (L), .ref ((ad 41)), .ref ((ad 42)), .ref ((ad 43)), .ref ((ad 44)), .int (nI (fl)), .int (nI (rk)), .ref ((ad 45)), .ref ((ad 46)), .ref ((ad 47)), .int (rs), .ref ((ad 48)), .long (dr), .int (nI (wo)), .ref ((ad 49)), .ref ((ad 50)), .ref ((ad 51)), .ref ((ad 52)), .ref ((ad 53)), .ref ((ad 54)), .ref ((ad 55)), .ref ((ad 56)), .ref ((ad 57)), .ref ((ad 58)), .int (tc)])), ((ad 41), .inl (cyI, 12, .inl (fun zj => nI (mk zj)))), ((ad 42), .inl (cyI, 12, .inl (fun zj => nI (pt zj)))), ((ad 43), .inl (cyI, 72, .inl (fun zj => nI (tp zj)))), ((ad 44), .inl (cyI, 72, .inl (fun zj => nI (tj zj)))), ((ad 46), .inl (cyI, 264, .inl (fun zj => nI (ra zj)))), ((ad 47), .inl (cyI, 22, .inl (fun zj => nI (ul zj)))), ((ad 48), .inl (cyI, 12, .inl (fun zj => nI ((va_up ro2 a (ro2 (a - 1))) zj))))] zA zs H locs := hw
                refine lv_iinc (v := nI (a - 1)) (lv' := [(3, .int (nI (a - 1))), (0, .ref ((ad 40))), (1, .int (nI (d + 1))), (2, .int (nI (p)))]) hC.1 hC.2.1 dX5_rankAt_47 hl (k := 3) rfl (nI_dec (by omega)) (by decide) rfl (fun ls hl => ?_)
                refine lv_goto (tgt := 12) hC.1 hC.2.1 dX5_rankAt_50 (by decide) ?_
                exact ih12 (a - 1) (va_up ro2 a (ro2 (a - 1))) _ _ ls (by omega) (by omega) (by exact sh_step hf (by omega) (by omega)) (by intro j h1 h2; rcases Nat.lt_or_ge j a with z | z; (rw [show j = a - 1 by omega, ← hro]; exact hlt9); exact hg j z h2) hw (lv_sub hl [1, 2, 3, 0] rfl)
        exact K12 _ p ro1 _ _ ls (Nat.lt_succ_self _) (by omega) (by intro j; rw [if_neg (by omega)]) (by intro j h1 h2; omega) hw (lv_sub hl [1, 2, 3, 0] rfl)
  exact K2 _ 0 ro _ _ ls (Nat.lt_succ_self _) (by omega) (by exact SO.init _ _) hw (lv_sub hl [1, 2, 0] rfl)
