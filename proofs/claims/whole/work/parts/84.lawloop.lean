/-! The law's loop, and the law from its start. -/
set_option maxHeartbeats 4000000 in
set_option maxRecDepth 100000 in
theorem law_loop {p : Program} {l : Launch} {e : Env} {s : State} {m : MethodId} {below : List Frame} {meth : Method} {c : Code} {b L : Nat} {xs : Nat → Int32} (hL : L ≤ 3072) (C0 : lw_At p s m meth c b L xs) {dC : Nat → ClassId} {dI : Nat → Nat → Nat} {cyI cyJ cyZ cyS : ClassId} {ad : Nat → Nat} : ∀ (n i : Nat), L + 1 ≤ i + n → i ≤ L + 6 → ∀ (w1 w2 : va_W) (H : Heap) (locs : List Loc) (ls : Array Slot), JR cyI cyJ cyZ cyS ad w1 w2 → Wd dC dI (tysA cyI cyJ cyZ cyS) (w1 ++ w2) (fun q : Nat => s.heap.size ≤ q) s H locs → lv_has ls 4 [(0, .ref b), (1, .ref (ad 0)), (2, .ref (ad 40)), (3, .int (nI i))] → W p l e room_1 s m #[Value.ref b] below meth c H locs 600000 7302250 (lw_Z below #[Value.ref b] s) (F0 m 18 ls []) := by
  obtain ⟨hx, hb, hr, hml, hown, hts, hX, hbl, hlocks, hgv⟩ := C0
  have hC : CallFix p m c code 4 s #[Value.ref b] lw_tbl RL := ⟨hx, hb, hml, hown, hts⟩
  intro n
  induction n with
  | zero =>
    intro i h1 h2 w1 w2 H locs ls hJ hw hl
    refine lv_iload_n hC.1 hC.2.1 dL_law_18 rfl (lv_at hl 3 rfl) ?_
    refine lv_aload_n hC.1 hC.2.1 dL_law_19 rfl (lv_at hl 0 rfl) ?_
    refine va_slen hC.1 hC.2.1 hX hbl (Nat.not_le.mpr hbl) hw.2.2.2.2.1 dL_law_20 ?_
    refine lv_bipush (v := nI 6) hC.1 hC.2.1 dL_law_21 (by decide) ?_
    refine lv_isub hC.1 hC.2.1 dL_law_23 ?_
    refine lv_icmp_gt (tgt := 1106) hC.1 hC.2.1 dL_law_24 (by decide) (fun c_24 => ?_) (fun c_24 => ?_)
    · refine lv_iconst (v := 1) hC.1 hC.2.1 dL_law_1106 (by decide) ?_
      refine va_forget hw.2.2.2.2.1.2.2 ?_
      exact lw_ret hx hb hr hlocks dL_law_1107
    · have hi6 := len6 hL (show i < 2 ^ 31 by omega) c_24
      omega
  | succ n ih =>
    intro i h1 h2 w1 w2 H locs ls hJ hw hl
    refine lv_iload_n hC.1 hC.2.1 dL_law_18 rfl (lv_at hl 3 rfl) ?_
    refine lv_aload_n hC.1 hC.2.1 dL_law_19 rfl (lv_at hl 0 rfl) ?_
    refine va_slen hC.1 hC.2.1 hX hbl (Nat.not_le.mpr hbl) hw.2.2.2.2.1 dL_law_20 ?_
    refine lv_bipush (v := nI 6) hC.1 hC.2.1 dL_law_21 (by decide) ?_
    refine lv_isub hC.1 hC.2.1 dL_law_23 ?_
    refine lv_icmp_gt (tgt := 1106) hC.1 hC.2.1 dL_law_24 (by decide) (fun c_24 => ?_) (fun c_24 => ?_)
    · refine lv_iconst (v := 1) hC.1 hC.2.1 dL_law_1106 (by decide) ?_
      refine va_forget hw.2.2.2.2.1.2.2 ?_
      exact lw_ret hx hb hr hlocks dL_law_1107
    · have hi6 := len6 hL (show i < 2 ^ 31 by omega) c_24
      have kk : ∀ (w1 w2 : va_W) (H : Heap) (locs : List Loc) (ls : Array Slot), JR cyI cyJ cyZ cyS ad w1 w2 → Wd dC dI (tysA cyI cyJ cyZ cyS) (w1 ++ w2) (fun q : Nat => s.heap.size ≤ q) s H locs → lv_has ls 4 [(0, .ref b), (1, .ref (ad 0)), (2, .ref (ad 40)), (3, .int (nI i))] → W p l e room_1 s m #[Value.ref b] below meth c H locs 600000 7302250 (lw_Z below #[Value.ref b] s) (F0 m 1100 ls []) := by
        intro w1 w2 H locs ls hJ hw hl
        refine lv_iinc (v := nI (i + 6)) (lv' := [(3, .int (nI (i + 6))), (0, .ref b), (1, .ref (ad 0)), (2, .ref (ad 40))]) hC.1 hC.2.1 dL_law_1100 hl (k := 3) rfl (nI_inc i 6) (by decide) rfl (fun ls hl => ?_)
        refine lv_goto (tgt := 18) hC.1 hC.2.1 dL_law_1103 (by decide) ?_
        exact ih (i + 6) (by omega) (by omega) w1 w2 H locs ls hJ hw (lv_sub hl [1, 2, 3, 0] rfl)
      refine lv_aload_n hC.1 hC.2.1 dL_law_27 rfl (lv_at hl 0 rfl) ?_
      refine lv_iload_n hC.1 hC.2.1 dL_law_28 rfl (lv_at hl 3 rfl) ?_
      refine g_sld hC hw hX hbl hL (by omega) dL_law_29 ?_
      refine lv_bipush (v := nI 31) hC.1 hC.2.1 dL_law_30 (by decide) ?_
      refine lv_iand hC.1 hC.2.1 dL_law_32 ?_
      obtain ⟨k, hk, ek⟩ := and31I (xs i)
      refine W.eq (g2 := F0 m 33 ls [.int (nI k)]) (by rw [ek]) ?_
      obtain rfl | rfl | rfl | rfl | rfl | rfl | rfl | rfl | rfl | rfl | rfl | rfl | rfl | rfl | rfl | rfl | rfl | rfl | rfl | rfl | rfl | rfl | rfl | rfl | rfl | rfl | rfl | rfl | rfl | rfl | rfl | rfl : k = 0 ∨ k = 1 ∨ k = 2 ∨ k = 3 ∨ k = 4 ∨ k = 5 ∨ k = 6 ∨ k = 7 ∨ k = 8 ∨ k = 9 ∨ k = 10 ∨ k = 11 ∨ k = 12 ∨ k = 13 ∨ k = 14 ∨ k = 15 ∨ k = 16 ∨ k = 17 ∨ k = 18 ∨ k = 19 ∨ k = 20 ∨ k = 21 ∨ k = 22 ∨ k = 23 ∨ k = 24 ∨ k = 25 ∨ k = 26 ∨ k = 27 ∨ k = 28 ∨ k = 29 ∨ k = 30 ∨ k = 31 := by omega
      · refine lv_tableIn (off := 135) (tgt := 168) hC.1 hC.2.1 dL_law_33 (by decide) (by decide) (by decide) (by decide) ?_
        exact law_0 hC hX hbl hL hi6 kk w1 w2 H locs ls hJ hw hl
      · refine lv_tableIn (off := 148) (tgt := 181) hC.1 hC.2.1 dL_law_33 (by decide) (by decide) (by decide) (by decide) ?_
        exact law_1 hC hX hbl hL hi6 kk w1 w2 H locs ls hJ hw hl
      · refine lv_tableIn (off := 171) (tgt := 204) hC.1 hC.2.1 dL_law_33 (by decide) (by decide) (by decide) (by decide) ?_
        exact law_2 hC hX hbl hL hi6 kk w1 w2 H locs ls hJ hw hl
      · refine lv_tableIn (off := 204) (tgt := 237) hC.1 hC.2.1 dL_law_33 (by decide) (by decide) (by decide) (by decide) ?_
        exact law_3 hC hX hbl hL hi6 kk w1 w2 H locs ls hJ hw hl
      · refine lv_tableIn (off := 237) (tgt := 270) hC.1 hC.2.1 dL_law_33 (by decide) (by decide) (by decide) (by decide) ?_
        exact law_4 hC hX hbl hL hi6 kk w1 w2 H locs ls hJ hw hl
      · refine lv_tableIn (off := 290) (tgt := 323) hC.1 hC.2.1 dL_law_33 (by decide) (by decide) (by decide) (by decide) ?_
        exact law_5 hC hX hbl hL hi6 kk w1 w2 H locs ls hJ hw hl
      · refine lv_tableIn (off := 333) (tgt := 366) hC.1 hC.2.1 dL_law_33 (by decide) (by decide) (by decide) (by decide) ?_
        exact law_6 hC hX hbl hL hi6 kk w1 w2 H locs ls hJ hw hl
      · refine lv_tableIn (off := 376) (tgt := 409) hC.1 hC.2.1 dL_law_33 (by decide) (by decide) (by decide) (by decide) ?_
        exact law_7 hC hX hbl hL hi6 kk w1 w2 H locs ls hJ hw hl
      · refine lv_tableIn (off := 409) (tgt := 442) hC.1 hC.2.1 dL_law_33 (by decide) (by decide) (by decide) (by decide) ?_
        exact law_8 hC hX hbl hL hi6 kk w1 w2 H locs ls hJ hw hl
      · refine lv_tableIn (off := 442) (tgt := 475) hC.1 hC.2.1 dL_law_33 (by decide) (by decide) (by decide) (by decide) ?_
        exact law_9 hC hX hbl hL hi6 kk w1 w2 H locs ls hJ hw hl
      · refine lv_tableIn (off := 455) (tgt := 488) hC.1 hC.2.1 dL_law_33 (by decide) (by decide) (by decide) (by decide) ?_
        exact law_10 hC hX hbl hL hi6 kk w1 w2 H locs ls hJ hw hl
      · refine lv_tableIn (off := 488) (tgt := 521) hC.1 hC.2.1 dL_law_33 (by decide) (by decide) (by decide) (by decide) ?_
        exact law_11 hC hX hbl hL hi6 kk w1 w2 H locs ls hJ hw hl
      · refine lv_tableIn (off := 501) (tgt := 534) hC.1 hC.2.1 dL_law_33 (by decide) (by decide) (by decide) (by decide) ?_
        exact law_12 hC hX hbl hL hi6 kk w1 w2 H locs ls hJ hw hl
      · refine lv_tableIn (off := 524) (tgt := 557) hC.1 hC.2.1 dL_law_33 (by decide) (by decide) (by decide) (by decide) ?_
        exact law_13 hC hX hbl hL hi6 kk w1 w2 H locs ls hJ hw hl
      · refine lv_tableIn (off := 557) (tgt := 590) hC.1 hC.2.1 dL_law_33 (by decide) (by decide) (by decide) (by decide) ?_
        exact law_14 hC hX hbl hL hi6 kk w1 w2 H locs ls hJ hw hl
      · refine lv_tableIn (off := 570) (tgt := 603) hC.1 hC.2.1 dL_law_33 (by decide) (by decide) (by decide) (by decide) ?_
        exact law_15 hC hX hbl hL hi6 kk w1 w2 H locs ls hJ hw hl
      · refine lv_tableIn (off := 633) (tgt := 666) hC.1 hC.2.1 dL_law_33 (by decide) (by decide) (by decide) (by decide) ?_
        exact law_16 hC hX hbl hL hi6 kk w1 w2 H locs ls hJ hw hl
      · refine lv_tableIn (off := 666) (tgt := 699) hC.1 hC.2.1 dL_law_33 (by decide) (by decide) (by decide) (by decide) ?_
        exact law_17 hC hX hbl hL hi6 kk w1 w2 H locs ls hJ hw hl
      · refine lv_tableIn (off := 689) (tgt := 722) hC.1 hC.2.1 dL_law_33 (by decide) (by decide) (by decide) (by decide) ?_
        exact law_18 hC hX hbl hL hi6 kk w1 w2 H locs ls hJ hw hl
      · refine lv_tableIn (off := 723) (tgt := 756) hC.1 hC.2.1 dL_law_33 (by decide) (by decide) (by decide) (by decide) ?_
        exact law_19 hC hX hbl hL hi6 kk w1 w2 H locs ls hJ hw hl
      · refine lv_tableIn (off := 766) (tgt := 799) hC.1 hC.2.1 dL_law_33 (by decide) (by decide) (by decide) (by decide) ?_
        exact law_20 hC hX hbl hL hi6 kk w1 w2 H locs ls hJ hw hl
      · refine lv_tableIn (off := 789) (tgt := 822) hC.1 hC.2.1 dL_law_33 (by decide) (by decide) (by decide) (by decide) ?_
        exact law_21 hC hX hbl hL hi6 kk w1 w2 H locs ls hJ hw hl
      · refine lv_tableIn (off := 832) (tgt := 865) hC.1 hC.2.1 dL_law_33 (by decide) (by decide) (by decide) (by decide) ?_
        exact law_22 hC hX hbl hL hi6 kk w1 w2 H locs ls hJ hw hl
      · refine lv_tableIn (off := 876) (tgt := 909) hC.1 hC.2.1 dL_law_33 (by decide) (by decide) (by decide) (by decide) ?_
        exact law_23 hC hX hbl hL hi6 kk w1 w2 H locs ls hJ hw hl
      · refine lv_tableIn (off := 939) (tgt := 972) hC.1 hC.2.1 dL_law_33 (by decide) (by decide) (by decide) (by decide) ?_
        exact law_24 hC hX hbl hL hi6 kk w1 w2 H locs ls hJ hw hl
      · refine lv_tableIn (off := 962) (tgt := 995) hC.1 hC.2.1 dL_law_33 (by decide) (by decide) (by decide) (by decide) ?_
        exact law_25 hC hX hbl hL hi6 kk w1 w2 H locs ls hJ hw hl
      · refine lv_tableIn (off := 985) (tgt := 1018) hC.1 hC.2.1 dL_law_33 (by decide) (by decide) (by decide) (by decide) ?_
        exact law_26 hC hX hbl hL hi6 kk w1 w2 H locs ls hJ hw hl
      · refine lv_tableIn (off := 1018) (tgt := 1051) hC.1 hC.2.1 dL_law_33 (by decide) (by decide) (by decide) (by decide) ?_
        exact law_27 hC hX hbl hL hi6 kk w1 w2 H locs ls hJ hw hl
      · refine lv_tableIn (off := 1031) (tgt := 1064) hC.1 hC.2.1 dL_law_33 (by decide) (by decide) (by decide) (by decide) ?_
        exact law_28 hC hX hbl hL hi6 kk w1 w2 H locs ls hJ hw hl
      · refine lv_tableIn (off := 1044) (tgt := 1077) hC.1 hC.2.1 dL_law_33 (by decide) (by decide) (by decide) (by decide) ?_
        exact law_29 hC hX hbl hL hi6 kk w1 w2 H locs ls hJ hw hl
      · refine lv_tableOut (tgt := 1100) hC.1 hC.2.1 dL_law_33 (by decide) (by decide) ?_
        exact kk w1 w2 H locs ls hJ hw hl
      · refine lv_tableOut (tgt := 1100) hC.1 hC.2.1 dL_law_33 (by decide) (by decide) ?_
        exact kk w1 w2 H locs ls hJ hw hl
