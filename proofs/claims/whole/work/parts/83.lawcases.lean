set_option maxHeartbeats 4000000 in
set_option maxRecDepth 100000 in
theorem law_0 {p : Program} {l : Launch} {e : Env} {s : State} {m : MethodId} {below : List Frame} {meth : Method} {c : Code} {Q : State → Prop} {b L : Nat} {xs : Nat → Int32} {dC : Nat → ClassId} {dI : Nat → Nat → Nat} {cyI cyJ cyZ cyS : ClassId} {ad : Nat → Nat} (hC : CallFix p m c code 4 s #[Value.ref b] lw_tbl RL) (hX : va_X b L xs s s.heap) (hbl : b < s.heap.size) (hL : L ≤ 3072) {i : Nat} (hi : i + 6 ≤ L) (kk : ∀ (w1 w2 : va_W) (H : Heap) (locs : List Loc) (ls : Array Slot), JR cyI cyJ cyZ cyS ad w1 w2 → Wd dC dI (tysA cyI cyJ cyZ cyS) (w1 ++ w2) (fun q : Nat => s.heap.size ≤ q) s H locs → lv_has ls 4 [(0, .ref b), (1, .ref (ad 0)), (2, .ref (ad 40)), (3, .int (nI i))] → W p l e room_1 s m #[Value.ref b] below meth c H locs 600000 7302250 Q (F0 m 1100 ls [])) (w1 w2 : va_W) (H : Heap) (locs : List Loc) (ls : Array Slot) (hJ : JR cyI cyJ cyZ cyS ad w1 w2) (hw : Wd dC dI (tysA cyI cyJ cyZ cyS) (w1 ++ w2) (fun q : Nat => s.heap.size ≤ q) s H locs) (hl : lv_has ls 4 [(0, .ref b), (1, .ref (ad 0)), (2, .ref (ad 40)), (3, .int (nI i))]) : W p l e room_1 s m #[Value.ref b] below meth c H locs 600000 7302250 Q (F0 m 168 ls []) := by
  obtain ⟨⟨f1, hh1⟩, f2, hh2⟩ := hJ.heads
  obtain ⟨S1, S2, p1, v1, p2, v2, c1, c2, hR⟩ := s_clear l dC dI cyI cyJ cyZ cyS ad w1 w2 hJ 
  refine lv_aload_n hC.1 hC.2.1 dL_law_168 rfl (lv_at hl 1 rfl) ?_
  refine W.lcI (wc := w1) (wr := w2) (ws1 := v1) hw (Wd.runVA (rest := []) (As := []) hC hw hh1 rfl (cwV 0 hC.2.2.2.2 gv_X4_clear rfl rfl rfl (by decide +kernel) ⟨Nat.le_of_ble_eq_true rfl, Nat.le_of_ble_eq_true rfl⟩) (c1 _) rfl hl.1 rfl (Nat.le_of_ble_eq_true rfl) dL_law_169 ⟨Nat.le_refl _, Nat.le_refl _⟩) (fun r u H locs hp hw => ?_)
  refine lv_aload_n hC.1 hC.2.1 dL_law_172 rfl (lv_at hl 2 rfl) ?_
  refine W.lcI (wc := w2) (wr := v1 u) (ws1 := v2) hw (Wd.runVA (rest := [.int r]) (As := []) hC hw hh2 rfl (cwV 0 hC.2.2.2.2 gv_X5_clear rfl rfl rfl (by decide +kernel) ⟨Nat.le_of_ble_eq_true rfl, Nat.le_of_ble_eq_true rfl⟩) (c2 _) rfl hl.1 rfl (Nat.le_of_ble_eq_true rfl) dL_law_173 ⟨Nat.le_refl _, Nat.le_refl _⟩) (fun r2 u2 H locs hp2 hw => ?_)
  obtain ⟨rfl, hJ2⟩ := hR r u r2 u2 hp hp2
  refine lv_icmp_eq (tgt := 1100) hC.1 hC.2.1 dL_law_176 (by decide) (fun _ => ?_) (fun h9 => absurd rfl h9)
  exact kk _ _ _ _ _ hJ2 hw hl
set_option maxHeartbeats 4000000 in
set_option maxRecDepth 100000 in
theorem law_1 {p : Program} {l : Launch} {e : Env} {s : State} {m : MethodId} {below : List Frame} {meth : Method} {c : Code} {Q : State → Prop} {b L : Nat} {xs : Nat → Int32} {dC : Nat → ClassId} {dI : Nat → Nat → Nat} {cyI cyJ cyZ cyS : ClassId} {ad : Nat → Nat} (hC : CallFix p m c code 4 s #[Value.ref b] lw_tbl RL) (hX : va_X b L xs s s.heap) (hbl : b < s.heap.size) (hL : L ≤ 3072) {i : Nat} (hi : i + 6 ≤ L) (kk : ∀ (w1 w2 : va_W) (H : Heap) (locs : List Loc) (ls : Array Slot), JR cyI cyJ cyZ cyS ad w1 w2 → Wd dC dI (tysA cyI cyJ cyZ cyS) (w1 ++ w2) (fun q : Nat => s.heap.size ≤ q) s H locs → lv_has ls 4 [(0, .ref b), (1, .ref (ad 0)), (2, .ref (ad 40)), (3, .int (nI i))] → W p l e room_1 s m #[Value.ref b] below meth c H locs 600000 7302250 Q (F0 m 1100 ls [])) (w1 w2 : va_W) (H : Heap) (locs : List Loc) (ls : Array Slot) (hJ : JR cyI cyJ cyZ cyS ad w1 w2) (hw : Wd dC dI (tysA cyI cyJ cyZ cyS) (w1 ++ w2) (fun q : Nat => s.heap.size ≤ q) s H locs) (hl : lv_has ls 4 [(0, .ref b), (1, .ref (ad 0)), (2, .ref (ad 40)), (3, .int (nI i))]) : W p l e room_1 s m #[Value.ref b] below meth c H locs 600000 7302250 Q (F0 m 181 ls []) := by
  obtain ⟨⟨f1, hh1⟩, f2, hh2⟩ := hJ.heads
  obtain ⟨S1, S2, p1, v1, p2, v2, c1, c2, hR⟩ := s_post l dC dI cyI cyJ cyZ cyS ad w1 w2 hJ (xs (i + 1))
  refine lv_aload_n hC.1 hC.2.1 dL_law_181 rfl (lv_at hl 1 rfl) ?_
  refine lv_aload_n hC.1 hC.2.1 dL_law_182 rfl (lv_at hl 0 rfl) ?_
  refine lv_iload_n hC.1 hC.2.1 dL_law_183 rfl (lv_at hl 3 rfl) ?_
  refine lv_iconst (v := nI 1) hC.1 hC.2.1 dL_law_184 (by decide) ?_
  refine n_iadd hC dL_law_185 ?_
  refine g_sld hC hw hX hbl hL (by omega) dL_law_186 ?_
  refine W.lcI (wc := w1) (wr := w2) (ws1 := v1) hw (Wd.runVA (rest := []) (As := [.int (xs (i + 1))]) hC hw hh1 rfl (cwV 1 hC.2.2.2.2 gv_X4_post rfl rfl rfl (by decide +kernel) ⟨Nat.le_of_ble_eq_true rfl, Nat.le_of_ble_eq_true rfl⟩) (c1 _) rfl hl.1 rfl (Nat.le_of_ble_eq_true rfl) dL_law_187 ⟨Nat.le_refl _, Nat.le_refl _⟩) (fun r u H locs hp hw => ?_)
  refine lv_aload_n hC.1 hC.2.1 dL_law_190 rfl (lv_at hl 2 rfl) ?_
  refine lv_aload_n hC.1 hC.2.1 dL_law_191 rfl (lv_at hl 0 rfl) ?_
  refine lv_iload_n hC.1 hC.2.1 dL_law_192 rfl (lv_at hl 3 rfl) ?_
  refine lv_iconst (v := nI 1) hC.1 hC.2.1 dL_law_193 (by decide) ?_
  refine n_iadd hC dL_law_194 ?_
  refine g_sld hC hw hX hbl hL (by omega) dL_law_195 ?_
  refine W.lcI (wc := w2) (wr := v1 u) (ws1 := v2) hw (Wd.runVA (rest := [.int r]) (As := [.int (xs (i + 1))]) hC hw hh2 rfl (cwV 1 hC.2.2.2.2 gv_X5_post rfl rfl rfl (by decide +kernel) ⟨Nat.le_of_ble_eq_true rfl, Nat.le_of_ble_eq_true rfl⟩) (c2 _) rfl hl.1 rfl (Nat.le_of_ble_eq_true rfl) dL_law_196 ⟨Nat.le_refl _, Nat.le_refl _⟩) (fun r2 u2 H locs hp2 hw => ?_)
  obtain ⟨rfl, hJ2⟩ := hR r u r2 u2 hp hp2
  refine lv_icmp_eq (tgt := 1100) hC.1 hC.2.1 dL_law_199 (by decide) (fun _ => ?_) (fun h9 => absurd rfl h9)
  exact kk _ _ _ _ _ hJ2 hw hl
set_option maxHeartbeats 4000000 in
set_option maxRecDepth 100000 in
theorem law_2 {p : Program} {l : Launch} {e : Env} {s : State} {m : MethodId} {below : List Frame} {meth : Method} {c : Code} {Q : State → Prop} {b L : Nat} {xs : Nat → Int32} {dC : Nat → ClassId} {dI : Nat → Nat → Nat} {cyI cyJ cyZ cyS : ClassId} {ad : Nat → Nat} (hC : CallFix p m c code 4 s #[Value.ref b] lw_tbl RL) (hX : va_X b L xs s s.heap) (hbl : b < s.heap.size) (hL : L ≤ 3072) {i : Nat} (hi : i + 6 ≤ L) (kk : ∀ (w1 w2 : va_W) (H : Heap) (locs : List Loc) (ls : Array Slot), JR cyI cyJ cyZ cyS ad w1 w2 → Wd dC dI (tysA cyI cyJ cyZ cyS) (w1 ++ w2) (fun q : Nat => s.heap.size ≤ q) s H locs → lv_has ls 4 [(0, .ref b), (1, .ref (ad 0)), (2, .ref (ad 40)), (3, .int (nI i))] → W p l e room_1 s m #[Value.ref b] below meth c H locs 600000 7302250 Q (F0 m 1100 ls [])) (w1 w2 : va_W) (H : Heap) (locs : List Loc) (ls : Array Slot) (hJ : JR cyI cyJ cyZ cyS ad w1 w2) (hw : Wd dC dI (tysA cyI cyJ cyZ cyS) (w1 ++ w2) (fun q : Nat => s.heap.size ≤ q) s H locs) (hl : lv_has ls 4 [(0, .ref b), (1, .ref (ad 0)), (2, .ref (ad 40)), (3, .int (nI i))]) : W p l e room_1 s m #[Value.ref b] below meth c H locs 600000 7302250 Q (F0 m 204 ls []) := by
  obtain ⟨⟨f1, hh1⟩, f2, hh2⟩ := hJ.heads
  obtain ⟨S1, S2, p1, v1, p2, v2, c1, c2, hR⟩ := s_mark l dC dI cyI cyJ cyZ cyS ad w1 w2 hJ (xs (i + 1)) (xs (i + 2))
  refine lv_aload_n hC.1 hC.2.1 dL_law_204 rfl (lv_at hl 1 rfl) ?_
  refine lv_aload_n hC.1 hC.2.1 dL_law_205 rfl (lv_at hl 0 rfl) ?_
  refine lv_iload_n hC.1 hC.2.1 dL_law_206 rfl (lv_at hl 3 rfl) ?_
  refine lv_iconst (v := nI 1) hC.1 hC.2.1 dL_law_207 (by decide) ?_
  refine n_iadd hC dL_law_208 ?_
  refine g_sld hC hw hX hbl hL (by omega) dL_law_209 ?_
  refine lv_aload_n hC.1 hC.2.1 dL_law_210 rfl (lv_at hl 0 rfl) ?_
  refine lv_iload_n hC.1 hC.2.1 dL_law_211 rfl (lv_at hl 3 rfl) ?_
  refine lv_iconst (v := nI 2) hC.1 hC.2.1 dL_law_212 (by decide) ?_
  refine n_iadd hC dL_law_213 ?_
  refine g_sld hC hw hX hbl hL (by omega) dL_law_214 ?_
  refine W.lcI (wc := w1) (wr := w2) (ws1 := v1) hw (Wd.runVA (rest := []) (As := [.int (xs (i + 1)), .int (xs (i + 2))]) hC hw hh1 rfl (cwV 2 hC.2.2.2.2 gv_X4_mark rfl rfl rfl (by decide +kernel) ⟨Nat.le_of_ble_eq_true rfl, Nat.le_of_ble_eq_true rfl⟩) (c1 _) rfl hl.1 rfl (Nat.le_of_ble_eq_true rfl) dL_law_215 ⟨Nat.le_refl _, Nat.le_refl _⟩) (fun r u H locs hp hw => ?_)
  refine lv_aload_n hC.1 hC.2.1 dL_law_218 rfl (lv_at hl 2 rfl) ?_
  refine lv_aload_n hC.1 hC.2.1 dL_law_219 rfl (lv_at hl 0 rfl) ?_
  refine lv_iload_n hC.1 hC.2.1 dL_law_220 rfl (lv_at hl 3 rfl) ?_
  refine lv_iconst (v := nI 1) hC.1 hC.2.1 dL_law_221 (by decide) ?_
  refine n_iadd hC dL_law_222 ?_
  refine g_sld hC hw hX hbl hL (by omega) dL_law_223 ?_
  refine lv_aload_n hC.1 hC.2.1 dL_law_224 rfl (lv_at hl 0 rfl) ?_
  refine lv_iload_n hC.1 hC.2.1 dL_law_225 rfl (lv_at hl 3 rfl) ?_
  refine lv_iconst (v := nI 2) hC.1 hC.2.1 dL_law_226 (by decide) ?_
  refine n_iadd hC dL_law_227 ?_
  refine g_sld hC hw hX hbl hL (by omega) dL_law_228 ?_
  refine W.lcI (wc := w2) (wr := v1 u) (ws1 := v2) hw (Wd.runVA (rest := [.int r]) (As := [.int (xs (i + 1)), .int (xs (i + 2))]) hC hw hh2 rfl (cwV 2 hC.2.2.2.2 gv_X5_mark rfl rfl rfl (by decide +kernel) ⟨Nat.le_of_ble_eq_true rfl, Nat.le_of_ble_eq_true rfl⟩) (c2 _) rfl hl.1 rfl (Nat.le_of_ble_eq_true rfl) dL_law_229 ⟨Nat.le_refl _, Nat.le_refl _⟩) (fun r2 u2 H locs hp2 hw => ?_)
  obtain ⟨rfl, hJ2⟩ := hR r u r2 u2 hp hp2
  refine lv_icmp_eq (tgt := 1100) hC.1 hC.2.1 dL_law_232 (by decide) (fun _ => ?_) (fun h9 => absurd rfl h9)
  exact kk _ _ _ _ _ hJ2 hw hl
set_option maxHeartbeats 4000000 in
set_option maxRecDepth 100000 in
theorem law_3 {p : Program} {l : Launch} {e : Env} {s : State} {m : MethodId} {below : List Frame} {meth : Method} {c : Code} {Q : State → Prop} {b L : Nat} {xs : Nat → Int32} {dC : Nat → ClassId} {dI : Nat → Nat → Nat} {cyI cyJ cyZ cyS : ClassId} {ad : Nat → Nat} (hC : CallFix p m c code 4 s #[Value.ref b] lw_tbl RL) (hX : va_X b L xs s s.heap) (hbl : b < s.heap.size) (hL : L ≤ 3072) {i : Nat} (hi : i + 6 ≤ L) (kk : ∀ (w1 w2 : va_W) (H : Heap) (locs : List Loc) (ls : Array Slot), JR cyI cyJ cyZ cyS ad w1 w2 → Wd dC dI (tysA cyI cyJ cyZ cyS) (w1 ++ w2) (fun q : Nat => s.heap.size ≤ q) s H locs → lv_has ls 4 [(0, .ref b), (1, .ref (ad 0)), (2, .ref (ad 40)), (3, .int (nI i))] → W p l e room_1 s m #[Value.ref b] below meth c H locs 600000 7302250 Q (F0 m 1100 ls [])) (w1 w2 : va_W) (H : Heap) (locs : List Loc) (ls : Array Slot) (hJ : JR cyI cyJ cyZ cyS ad w1 w2) (hw : Wd dC dI (tysA cyI cyJ cyZ cyS) (w1 ++ w2) (fun q : Nat => s.heap.size ≤ q) s H locs) (hl : lv_has ls 4 [(0, .ref b), (1, .ref (ad 0)), (2, .ref (ad 40)), (3, .int (nI i))]) : W p l e room_1 s m #[Value.ref b] below meth c H locs 600000 7302250 Q (F0 m 237 ls []) := by
  obtain ⟨⟨f1, hh1⟩, f2, hh2⟩ := hJ.heads
  obtain ⟨S1, S2, p1, v1, p2, v2, c1, c2, hR⟩ := s_line l dC dI cyI cyJ cyZ cyS ad w1 w2 hJ (xs (i + 1)) (xs (i + 2))
  refine lv_aload_n hC.1 hC.2.1 dL_law_237 rfl (lv_at hl 1 rfl) ?_
  refine lv_aload_n hC.1 hC.2.1 dL_law_238 rfl (lv_at hl 0 rfl) ?_
  refine lv_iload_n hC.1 hC.2.1 dL_law_239 rfl (lv_at hl 3 rfl) ?_
  refine lv_iconst (v := nI 1) hC.1 hC.2.1 dL_law_240 (by decide) ?_
  refine n_iadd hC dL_law_241 ?_
  refine g_sld hC hw hX hbl hL (by omega) dL_law_242 ?_
  refine lv_aload_n hC.1 hC.2.1 dL_law_243 rfl (lv_at hl 0 rfl) ?_
  refine lv_iload_n hC.1 hC.2.1 dL_law_244 rfl (lv_at hl 3 rfl) ?_
  refine lv_iconst (v := nI 2) hC.1 hC.2.1 dL_law_245 (by decide) ?_
  refine n_iadd hC dL_law_246 ?_
  refine g_sld hC hw hX hbl hL (by omega) dL_law_247 ?_
  refine W.lcI (wc := w1) (wr := w2) (ws1 := v1) hw (Wd.runVA (rest := []) (As := [.int (xs (i + 1)), .int (xs (i + 2))]) hC hw hh1 rfl (cwV 2 hC.2.2.2.2 gv_X4_line rfl rfl rfl (by decide +kernel) ⟨Nat.le_of_ble_eq_true rfl, Nat.le_of_ble_eq_true rfl⟩) (c1 _) rfl hl.1 rfl (Nat.le_of_ble_eq_true rfl) dL_law_248 ⟨Nat.le_refl _, Nat.le_refl _⟩) (fun r u H locs hp hw => ?_)
  refine lv_aload_n hC.1 hC.2.1 dL_law_251 rfl (lv_at hl 2 rfl) ?_
  refine lv_aload_n hC.1 hC.2.1 dL_law_252 rfl (lv_at hl 0 rfl) ?_
  refine lv_iload_n hC.1 hC.2.1 dL_law_253 rfl (lv_at hl 3 rfl) ?_
  refine lv_iconst (v := nI 1) hC.1 hC.2.1 dL_law_254 (by decide) ?_
  refine n_iadd hC dL_law_255 ?_
  refine g_sld hC hw hX hbl hL (by omega) dL_law_256 ?_
  refine lv_aload_n hC.1 hC.2.1 dL_law_257 rfl (lv_at hl 0 rfl) ?_
  refine lv_iload_n hC.1 hC.2.1 dL_law_258 rfl (lv_at hl 3 rfl) ?_
  refine lv_iconst (v := nI 2) hC.1 hC.2.1 dL_law_259 (by decide) ?_
  refine n_iadd hC dL_law_260 ?_
  refine g_sld hC hw hX hbl hL (by omega) dL_law_261 ?_
  refine W.lcI (wc := w2) (wr := v1 u) (ws1 := v2) hw (Wd.runVA (rest := [.int r]) (As := [.int (xs (i + 1)), .int (xs (i + 2))]) hC hw hh2 rfl (cwV 2 hC.2.2.2.2 gv_X5_line rfl rfl rfl (by decide +kernel) ⟨Nat.le_of_ble_eq_true rfl, Nat.le_of_ble_eq_true rfl⟩) (c2 _) rfl hl.1 rfl (Nat.le_of_ble_eq_true rfl) dL_law_262 ⟨Nat.le_refl _, Nat.le_refl _⟩) (fun r2 u2 H locs hp2 hw => ?_)
  obtain ⟨rfl, hJ2⟩ := hR r u r2 u2 hp hp2
  refine lv_icmp_eq (tgt := 1100) hC.1 hC.2.1 dL_law_265 (by decide) (fun _ => ?_) (fun h9 => absurd rfl h9)
  exact kk _ _ _ _ _ hJ2 hw hl
set_option maxHeartbeats 4000000 in
set_option maxRecDepth 100000 in
theorem law_4 {p : Program} {l : Launch} {e : Env} {s : State} {m : MethodId} {below : List Frame} {meth : Method} {c : Code} {Q : State → Prop} {b L : Nat} {xs : Nat → Int32} {dC : Nat → ClassId} {dI : Nat → Nat → Nat} {cyI cyJ cyZ cyS : ClassId} {ad : Nat → Nat} (hC : CallFix p m c code 4 s #[Value.ref b] lw_tbl RL) (hX : va_X b L xs s s.heap) (hbl : b < s.heap.size) (hL : L ≤ 3072) {i : Nat} (hi : i + 6 ≤ L) (kk : ∀ (w1 w2 : va_W) (H : Heap) (locs : List Loc) (ls : Array Slot), JR cyI cyJ cyZ cyS ad w1 w2 → Wd dC dI (tysA cyI cyJ cyZ cyS) (w1 ++ w2) (fun q : Nat => s.heap.size ≤ q) s H locs → lv_has ls 4 [(0, .ref b), (1, .ref (ad 0)), (2, .ref (ad 40)), (3, .int (nI i))] → W p l e room_1 s m #[Value.ref b] below meth c H locs 600000 7302250 Q (F0 m 1100 ls [])) (w1 w2 : va_W) (H : Heap) (locs : List Loc) (ls : Array Slot) (hJ : JR cyI cyJ cyZ cyS ad w1 w2) (hw : Wd dC dI (tysA cyI cyJ cyZ cyS) (w1 ++ w2) (fun q : Nat => s.heap.size ≤ q) s H locs) (hl : lv_has ls 4 [(0, .ref b), (1, .ref (ad 0)), (2, .ref (ad 40)), (3, .int (nI i))]) : W p l e room_1 s m #[Value.ref b] below meth c H locs 600000 7302250 Q (F0 m 270 ls []) := by
  obtain ⟨⟨f1, hh1⟩, f2, hh2⟩ := hJ.heads
  obtain ⟨S1, S2, p1, v1, p2, v2, c1, c2, hR⟩ := s_lines l dC dI cyI cyJ cyZ cyS ad w1 w2 hJ (xs (i + 1)) (xs (i + 2)) (xs (i + 3)) (xs (i + 4))
  refine lv_aload_n hC.1 hC.2.1 dL_law_270 rfl (lv_at hl 1 rfl) ?_
  refine lv_aload_n hC.1 hC.2.1 dL_law_271 rfl (lv_at hl 0 rfl) ?_
  refine lv_iload_n hC.1 hC.2.1 dL_law_272 rfl (lv_at hl 3 rfl) ?_
  refine lv_iconst (v := nI 1) hC.1 hC.2.1 dL_law_273 (by decide) ?_
  refine n_iadd hC dL_law_274 ?_
  refine g_sld hC hw hX hbl hL (by omega) dL_law_275 ?_
  refine lv_aload_n hC.1 hC.2.1 dL_law_276 rfl (lv_at hl 0 rfl) ?_
  refine lv_iload_n hC.1 hC.2.1 dL_law_277 rfl (lv_at hl 3 rfl) ?_
  refine lv_iconst (v := nI 2) hC.1 hC.2.1 dL_law_278 (by decide) ?_
  refine n_iadd hC dL_law_279 ?_
  refine g_sld hC hw hX hbl hL (by omega) dL_law_280 ?_
  refine lv_aload_n hC.1 hC.2.1 dL_law_281 rfl (lv_at hl 0 rfl) ?_
  refine lv_iload_n hC.1 hC.2.1 dL_law_282 rfl (lv_at hl 3 rfl) ?_
  refine lv_iconst (v := nI 3) hC.1 hC.2.1 dL_law_283 (by decide) ?_
  refine n_iadd hC dL_law_284 ?_
  refine g_sld hC hw hX hbl hL (by omega) dL_law_285 ?_
  refine lv_aload_n hC.1 hC.2.1 dL_law_286 rfl (lv_at hl 0 rfl) ?_
  refine lv_iload_n hC.1 hC.2.1 dL_law_287 rfl (lv_at hl 3 rfl) ?_
  refine lv_iconst (v := nI 4) hC.1 hC.2.1 dL_law_288 (by decide) ?_
  refine n_iadd hC dL_law_289 ?_
  refine g_sld hC hw hX hbl hL (by omega) dL_law_290 ?_
  refine W.lcI (wc := w1) (wr := w2) (ws1 := v1) hw (Wd.runVA (rest := []) (As := [.int (xs (i + 1)), .int (xs (i + 2)), .int (xs (i + 3)), .int (xs (i + 4))]) hC hw hh1 rfl (cwV 4 hC.2.2.2.2 gv_X4_lines rfl rfl rfl (by decide +kernel) ⟨Nat.le_of_ble_eq_true rfl, Nat.le_of_ble_eq_true rfl⟩) (c1 _) rfl hl.1 rfl (Nat.le_of_ble_eq_true rfl) dL_law_291 ⟨Nat.le_refl _, Nat.le_refl _⟩) (fun r u H locs hp hw => ?_)
  refine lv_aload_n hC.1 hC.2.1 dL_law_294 rfl (lv_at hl 2 rfl) ?_
  refine lv_aload_n hC.1 hC.2.1 dL_law_295 rfl (lv_at hl 0 rfl) ?_
  refine lv_iload_n hC.1 hC.2.1 dL_law_296 rfl (lv_at hl 3 rfl) ?_
  refine lv_iconst (v := nI 1) hC.1 hC.2.1 dL_law_297 (by decide) ?_
  refine n_iadd hC dL_law_298 ?_
  refine g_sld hC hw hX hbl hL (by omega) dL_law_299 ?_
  refine lv_aload_n hC.1 hC.2.1 dL_law_300 rfl (lv_at hl 0 rfl) ?_
  refine lv_iload_n hC.1 hC.2.1 dL_law_301 rfl (lv_at hl 3 rfl) ?_
  refine lv_iconst (v := nI 2) hC.1 hC.2.1 dL_law_302 (by decide) ?_
  refine n_iadd hC dL_law_303 ?_
  refine g_sld hC hw hX hbl hL (by omega) dL_law_304 ?_
  refine lv_aload_n hC.1 hC.2.1 dL_law_305 rfl (lv_at hl 0 rfl) ?_
  refine lv_iload_n hC.1 hC.2.1 dL_law_306 rfl (lv_at hl 3 rfl) ?_
  refine lv_iconst (v := nI 3) hC.1 hC.2.1 dL_law_307 (by decide) ?_
  refine n_iadd hC dL_law_308 ?_
  refine g_sld hC hw hX hbl hL (by omega) dL_law_309 ?_
  refine lv_aload_n hC.1 hC.2.1 dL_law_310 rfl (lv_at hl 0 rfl) ?_
  refine lv_iload_n hC.1 hC.2.1 dL_law_311 rfl (lv_at hl 3 rfl) ?_
  refine lv_iconst (v := nI 4) hC.1 hC.2.1 dL_law_312 (by decide) ?_
  refine n_iadd hC dL_law_313 ?_
  refine g_sld hC hw hX hbl hL (by omega) dL_law_314 ?_
  refine W.lcI (wc := w2) (wr := v1 u) (ws1 := v2) hw (Wd.runVA (rest := [.int r]) (As := [.int (xs (i + 1)), .int (xs (i + 2)), .int (xs (i + 3)), .int (xs (i + 4))]) hC hw hh2 rfl (cwV 4 hC.2.2.2.2 gv_X5_lines rfl rfl rfl (by decide +kernel) ⟨Nat.le_of_ble_eq_true rfl, Nat.le_of_ble_eq_true rfl⟩) (c2 _) rfl hl.1 rfl (Nat.le_of_ble_eq_true rfl) dL_law_315 ⟨Nat.le_refl _, Nat.le_refl _⟩) (fun r2 u2 H locs hp2 hw => ?_)
  obtain ⟨rfl, hJ2⟩ := hR r u r2 u2 hp hp2
  refine lv_icmp_eq (tgt := 1100) hC.1 hC.2.1 dL_law_318 (by decide) (fun _ => ?_) (fun h9 => absurd rfl h9)
  exact kk _ _ _ _ _ hJ2 hw hl
set_option maxHeartbeats 4000000 in
set_option maxRecDepth 100000 in
theorem law_5 {p : Program} {l : Launch} {e : Env} {s : State} {m : MethodId} {below : List Frame} {meth : Method} {c : Code} {Q : State → Prop} {b L : Nat} {xs : Nat → Int32} {dC : Nat → ClassId} {dI : Nat → Nat → Nat} {cyI cyJ cyZ cyS : ClassId} {ad : Nat → Nat} (hC : CallFix p m c code 4 s #[Value.ref b] lw_tbl RL) (hX : va_X b L xs s s.heap) (hbl : b < s.heap.size) (hL : L ≤ 3072) {i : Nat} (hi : i + 6 ≤ L) (kk : ∀ (w1 w2 : va_W) (H : Heap) (locs : List Loc) (ls : Array Slot), JR cyI cyJ cyZ cyS ad w1 w2 → Wd dC dI (tysA cyI cyJ cyZ cyS) (w1 ++ w2) (fun q : Nat => s.heap.size ≤ q) s H locs → lv_has ls 4 [(0, .ref b), (1, .ref (ad 0)), (2, .ref (ad 40)), (3, .int (nI i))] → W p l e room_1 s m #[Value.ref b] below meth c H locs 600000 7302250 Q (F0 m 1100 ls [])) (w1 w2 : va_W) (H : Heap) (locs : List Loc) (ls : Array Slot) (hJ : JR cyI cyJ cyZ cyS ad w1 w2) (hw : Wd dC dI (tysA cyI cyJ cyZ cyS) (w1 ++ w2) (fun q : Nat => s.heap.size ≤ q) s H locs) (hl : lv_has ls 4 [(0, .ref b), (1, .ref (ad 0)), (2, .ref (ad 40)), (3, .int (nI i))]) : W p l e room_1 s m #[Value.ref b] below meth c H locs 600000 7302250 Q (F0 m 323 ls []) := by
  obtain ⟨⟨f1, hh1⟩, f2, hh2⟩ := hJ.heads
  obtain ⟨S1, S2, p1, v1, p2, v2, c1, c2, hR⟩ := s_swap l dC dI cyI cyJ cyZ cyS ad w1 w2 hJ (xs (i + 1)) (xs (i + 2)) (xs (i + 3))
  refine lv_aload_n hC.1 hC.2.1 dL_law_323 rfl (lv_at hl 1 rfl) ?_
  refine lv_aload_n hC.1 hC.2.1 dL_law_324 rfl (lv_at hl 0 rfl) ?_
  refine lv_iload_n hC.1 hC.2.1 dL_law_325 rfl (lv_at hl 3 rfl) ?_
  refine lv_iconst (v := nI 1) hC.1 hC.2.1 dL_law_326 (by decide) ?_
  refine n_iadd hC dL_law_327 ?_
  refine g_sld hC hw hX hbl hL (by omega) dL_law_328 ?_
  refine lv_aload_n hC.1 hC.2.1 dL_law_329 rfl (lv_at hl 0 rfl) ?_
  refine lv_iload_n hC.1 hC.2.1 dL_law_330 rfl (lv_at hl 3 rfl) ?_
  refine lv_iconst (v := nI 2) hC.1 hC.2.1 dL_law_331 (by decide) ?_
  refine n_iadd hC dL_law_332 ?_
  refine g_sld hC hw hX hbl hL (by omega) dL_law_333 ?_
  refine lv_aload_n hC.1 hC.2.1 dL_law_334 rfl (lv_at hl 0 rfl) ?_
  refine lv_iload_n hC.1 hC.2.1 dL_law_335 rfl (lv_at hl 3 rfl) ?_
  refine lv_iconst (v := nI 3) hC.1 hC.2.1 dL_law_336 (by decide) ?_
  refine n_iadd hC dL_law_337 ?_
  refine g_sld hC hw hX hbl hL (by omega) dL_law_338 ?_
  refine W.lcI (wc := w1) (wr := w2) (ws1 := v1) hw (Wd.runVA (rest := []) (As := [.int (xs (i + 1)), .int (xs (i + 2)), .int (xs (i + 3))]) hC hw hh1 rfl (cwV 3 hC.2.2.2.2 gv_X4_swap rfl rfl rfl (by decide +kernel) ⟨Nat.le_of_ble_eq_true rfl, Nat.le_of_ble_eq_true rfl⟩) (c1 _) rfl hl.1 rfl (Nat.le_of_ble_eq_true rfl) dL_law_339 ⟨Nat.le_refl _, Nat.le_refl _⟩) (fun r u H locs hp hw => ?_)
  refine lv_aload_n hC.1 hC.2.1 dL_law_342 rfl (lv_at hl 2 rfl) ?_
  refine lv_aload_n hC.1 hC.2.1 dL_law_343 rfl (lv_at hl 0 rfl) ?_
  refine lv_iload_n hC.1 hC.2.1 dL_law_344 rfl (lv_at hl 3 rfl) ?_
  refine lv_iconst (v := nI 1) hC.1 hC.2.1 dL_law_345 (by decide) ?_
  refine n_iadd hC dL_law_346 ?_
  refine g_sld hC hw hX hbl hL (by omega) dL_law_347 ?_
  refine lv_aload_n hC.1 hC.2.1 dL_law_348 rfl (lv_at hl 0 rfl) ?_
  refine lv_iload_n hC.1 hC.2.1 dL_law_349 rfl (lv_at hl 3 rfl) ?_
  refine lv_iconst (v := nI 2) hC.1 hC.2.1 dL_law_350 (by decide) ?_
  refine n_iadd hC dL_law_351 ?_
  refine g_sld hC hw hX hbl hL (by omega) dL_law_352 ?_
  refine lv_aload_n hC.1 hC.2.1 dL_law_353 rfl (lv_at hl 0 rfl) ?_
  refine lv_iload_n hC.1 hC.2.1 dL_law_354 rfl (lv_at hl 3 rfl) ?_
  refine lv_iconst (v := nI 3) hC.1 hC.2.1 dL_law_355 (by decide) ?_
  refine n_iadd hC dL_law_356 ?_
  refine g_sld hC hw hX hbl hL (by omega) dL_law_357 ?_
  refine W.lcI (wc := w2) (wr := v1 u) (ws1 := v2) hw (Wd.runVA (rest := [.int r]) (As := [.int (xs (i + 1)), .int (xs (i + 2)), .int (xs (i + 3))]) hC hw hh2 rfl (cwV 3 hC.2.2.2.2 gv_X5_swap rfl rfl rfl (by decide +kernel) ⟨Nat.le_of_ble_eq_true rfl, Nat.le_of_ble_eq_true rfl⟩) (c2 _) rfl hl.1 rfl (Nat.le_of_ble_eq_true rfl) dL_law_358 ⟨Nat.le_refl _, Nat.le_refl _⟩) (fun r2 u2 H locs hp2 hw => ?_)
  obtain ⟨rfl, hJ2⟩ := hR r u r2 u2 hp hp2
  refine lv_icmp_eq (tgt := 1100) hC.1 hC.2.1 dL_law_361 (by decide) (fun _ => ?_) (fun h9 => absurd rfl h9)
  exact kk _ _ _ _ _ hJ2 hw hl
set_option maxHeartbeats 4000000 in
set_option maxRecDepth 100000 in
theorem law_6 {p : Program} {l : Launch} {e : Env} {s : State} {m : MethodId} {below : List Frame} {meth : Method} {c : Code} {Q : State → Prop} {b L : Nat} {xs : Nat → Int32} {dC : Nat → ClassId} {dI : Nat → Nat → Nat} {cyI cyJ cyZ cyS : ClassId} {ad : Nat → Nat} (hC : CallFix p m c code 4 s #[Value.ref b] lw_tbl RL) (hX : va_X b L xs s s.heap) (hbl : b < s.heap.size) (hL : L ≤ 3072) {i : Nat} (hi : i + 6 ≤ L) (kk : ∀ (w1 w2 : va_W) (H : Heap) (locs : List Loc) (ls : Array Slot), JR cyI cyJ cyZ cyS ad w1 w2 → Wd dC dI (tysA cyI cyJ cyZ cyS) (w1 ++ w2) (fun q : Nat => s.heap.size ≤ q) s H locs → lv_has ls 4 [(0, .ref b), (1, .ref (ad 0)), (2, .ref (ad 40)), (3, .int (nI i))] → W p l e room_1 s m #[Value.ref b] below meth c H locs 600000 7302250 Q (F0 m 1100 ls [])) (w1 w2 : va_W) (H : Heap) (locs : List Loc) (ls : Array Slot) (hJ : JR cyI cyJ cyZ cyS ad w1 w2) (hw : Wd dC dI (tysA cyI cyJ cyZ cyS) (w1 ++ w2) (fun q : Nat => s.heap.size ≤ q) s H locs) (hl : lv_has ls 4 [(0, .ref b), (1, .ref (ad 0)), (2, .ref (ad 40)), (3, .int (nI i))]) : W p l e room_1 s m #[Value.ref b] below meth c H locs 600000 7302250 Q (F0 m 366 ls []) := by
  obtain ⟨⟨f1, hh1⟩, f2, hh2⟩ := hJ.heads
  obtain ⟨S1, S2, p1, v1, p2, v2, c1, c2, hR⟩ := s_end l dC dI cyI cyJ cyZ cyS ad w1 w2 hJ (xs (i + 1)) (xs (i + 2)) (xs (i + 3))
  refine lv_aload_n hC.1 hC.2.1 dL_law_366 rfl (lv_at hl 1 rfl) ?_
  refine lv_aload_n hC.1 hC.2.1 dL_law_367 rfl (lv_at hl 0 rfl) ?_
  refine lv_iload_n hC.1 hC.2.1 dL_law_368 rfl (lv_at hl 3 rfl) ?_
  refine lv_iconst (v := nI 1) hC.1 hC.2.1 dL_law_369 (by decide) ?_
  refine n_iadd hC dL_law_370 ?_
  refine g_sld hC hw hX hbl hL (by omega) dL_law_371 ?_
  refine lv_aload_n hC.1 hC.2.1 dL_law_372 rfl (lv_at hl 0 rfl) ?_
  refine lv_iload_n hC.1 hC.2.1 dL_law_373 rfl (lv_at hl 3 rfl) ?_
  refine lv_iconst (v := nI 2) hC.1 hC.2.1 dL_law_374 (by decide) ?_
  refine n_iadd hC dL_law_375 ?_
  refine g_sld hC hw hX hbl hL (by omega) dL_law_376 ?_
  refine lv_aload_n hC.1 hC.2.1 dL_law_377 rfl (lv_at hl 0 rfl) ?_
  refine lv_iload_n hC.1 hC.2.1 dL_law_378 rfl (lv_at hl 3 rfl) ?_
  refine lv_iconst (v := nI 3) hC.1 hC.2.1 dL_law_379 (by decide) ?_
  refine n_iadd hC dL_law_380 ?_
  refine g_sld hC hw hX hbl hL (by omega) dL_law_381 ?_
  refine W.lcI (wc := w1) (wr := w2) (ws1 := v1) hw (Wd.runVA (rest := []) (As := [.int (xs (i + 1)), .int (xs (i + 2)), .int (xs (i + 3))]) hC hw hh1 rfl (cwV 3 hC.2.2.2.2 gv_X4_end rfl rfl rfl (by decide +kernel) ⟨Nat.le_of_ble_eq_true rfl, Nat.le_of_ble_eq_true rfl⟩) (c1 _) rfl hl.1 rfl (Nat.le_of_ble_eq_true rfl) dL_law_382 ⟨Nat.le_refl _, Nat.le_refl _⟩) (fun r u H locs hp hw => ?_)
  refine lv_aload_n hC.1 hC.2.1 dL_law_385 rfl (lv_at hl 2 rfl) ?_
  refine lv_aload_n hC.1 hC.2.1 dL_law_386 rfl (lv_at hl 0 rfl) ?_
  refine lv_iload_n hC.1 hC.2.1 dL_law_387 rfl (lv_at hl 3 rfl) ?_
  refine lv_iconst (v := nI 1) hC.1 hC.2.1 dL_law_388 (by decide) ?_
  refine n_iadd hC dL_law_389 ?_
  refine g_sld hC hw hX hbl hL (by omega) dL_law_390 ?_
  refine lv_aload_n hC.1 hC.2.1 dL_law_391 rfl (lv_at hl 0 rfl) ?_
  refine lv_iload_n hC.1 hC.2.1 dL_law_392 rfl (lv_at hl 3 rfl) ?_
  refine lv_iconst (v := nI 2) hC.1 hC.2.1 dL_law_393 (by decide) ?_
  refine n_iadd hC dL_law_394 ?_
  refine g_sld hC hw hX hbl hL (by omega) dL_law_395 ?_
  refine lv_aload_n hC.1 hC.2.1 dL_law_396 rfl (lv_at hl 0 rfl) ?_
  refine lv_iload_n hC.1 hC.2.1 dL_law_397 rfl (lv_at hl 3 rfl) ?_
  refine lv_iconst (v := nI 3) hC.1 hC.2.1 dL_law_398 (by decide) ?_
  refine n_iadd hC dL_law_399 ?_
  refine g_sld hC hw hX hbl hL (by omega) dL_law_400 ?_
  refine W.lcI (wc := w2) (wr := v1 u) (ws1 := v2) hw (Wd.runVA (rest := [.int r]) (As := [.int (xs (i + 1)), .int (xs (i + 2)), .int (xs (i + 3))]) hC hw hh2 rfl (cwV 3 hC.2.2.2.2 gv_X5_end rfl rfl rfl (by decide +kernel) ⟨Nat.le_of_ble_eq_true rfl, Nat.le_of_ble_eq_true rfl⟩) (c2 _) rfl hl.1 rfl (Nat.le_of_ble_eq_true rfl) dL_law_401 ⟨Nat.le_refl _, Nat.le_refl _⟩) (fun r2 u2 H locs hp2 hw => ?_)
  obtain ⟨rfl, hJ2⟩ := hR r u r2 u2 hp hp2
  refine lv_icmp_eq (tgt := 1100) hC.1 hC.2.1 dL_law_404 (by decide) (fun _ => ?_) (fun h9 => absurd rfl h9)
  exact kk _ _ _ _ _ hJ2 hw hl
set_option maxHeartbeats 4000000 in
set_option maxRecDepth 100000 in
theorem law_7 {p : Program} {l : Launch} {e : Env} {s : State} {m : MethodId} {below : List Frame} {meth : Method} {c : Code} {Q : State → Prop} {b L : Nat} {xs : Nat → Int32} {dC : Nat → ClassId} {dI : Nat → Nat → Nat} {cyI cyJ cyZ cyS : ClassId} {ad : Nat → Nat} (hC : CallFix p m c code 4 s #[Value.ref b] lw_tbl RL) (hX : va_X b L xs s s.heap) (hbl : b < s.heap.size) (hL : L ≤ 3072) {i : Nat} (hi : i + 6 ≤ L) (kk : ∀ (w1 w2 : va_W) (H : Heap) (locs : List Loc) (ls : Array Slot), JR cyI cyJ cyZ cyS ad w1 w2 → Wd dC dI (tysA cyI cyJ cyZ cyS) (w1 ++ w2) (fun q : Nat => s.heap.size ≤ q) s H locs → lv_has ls 4 [(0, .ref b), (1, .ref (ad 0)), (2, .ref (ad 40)), (3, .int (nI i))] → W p l e room_1 s m #[Value.ref b] below meth c H locs 600000 7302250 Q (F0 m 1100 ls [])) (w1 w2 : va_W) (H : Heap) (locs : List Loc) (ls : Array Slot) (hJ : JR cyI cyJ cyZ cyS ad w1 w2) (hw : Wd dC dI (tysA cyI cyJ cyZ cyS) (w1 ++ w2) (fun q : Nat => s.heap.size ≤ q) s H locs) (hl : lv_has ls 4 [(0, .ref b), (1, .ref (ad 0)), (2, .ref (ad 40)), (3, .int (nI i))]) : W p l e room_1 s m #[Value.ref b] below meth c H locs 600000 7302250 Q (F0 m 409 ls []) := by
  obtain ⟨⟨f1, hh1⟩, f2, hh2⟩ := hJ.heads
  obtain ⟨S1, S2, p1, v1, p2, v2, c1, c2, hR⟩ := s_doubled l dC dI cyI cyJ cyZ cyS ad w1 w2 hJ (xs (i + 1)) (xs (i + 2))
  refine lv_aload_n hC.1 hC.2.1 dL_law_409 rfl (lv_at hl 1 rfl) ?_
  refine lv_aload_n hC.1 hC.2.1 dL_law_410 rfl (lv_at hl 0 rfl) ?_
  refine lv_iload_n hC.1 hC.2.1 dL_law_411 rfl (lv_at hl 3 rfl) ?_
  refine lv_iconst (v := nI 1) hC.1 hC.2.1 dL_law_412 (by decide) ?_
  refine n_iadd hC dL_law_413 ?_
  refine g_sld hC hw hX hbl hL (by omega) dL_law_414 ?_
  refine lv_aload_n hC.1 hC.2.1 dL_law_415 rfl (lv_at hl 0 rfl) ?_
  refine lv_iload_n hC.1 hC.2.1 dL_law_416 rfl (lv_at hl 3 rfl) ?_
  refine lv_iconst (v := nI 2) hC.1 hC.2.1 dL_law_417 (by decide) ?_
  refine n_iadd hC dL_law_418 ?_
  refine g_sld hC hw hX hbl hL (by omega) dL_law_419 ?_
  refine W.lcI (wc := w1) (wr := w2) (ws1 := v1) hw (Wd.runVA (rest := []) (As := [.int (xs (i + 1)), .int (xs (i + 2))]) hC hw hh1 rfl (cwV 2 hC.2.2.2.2 gv_X4_doubled rfl rfl rfl (by decide +kernel) ⟨Nat.le_of_ble_eq_true rfl, Nat.le_of_ble_eq_true rfl⟩) (c1 _) rfl hl.1 rfl (Nat.le_of_ble_eq_true rfl) dL_law_420 ⟨Nat.le_refl _, Nat.le_refl _⟩) (fun r u H locs hp hw => ?_)
  refine lv_aload_n hC.1 hC.2.1 dL_law_423 rfl (lv_at hl 2 rfl) ?_
  refine lv_aload_n hC.1 hC.2.1 dL_law_424 rfl (lv_at hl 0 rfl) ?_
  refine lv_iload_n hC.1 hC.2.1 dL_law_425 rfl (lv_at hl 3 rfl) ?_
  refine lv_iconst (v := nI 1) hC.1 hC.2.1 dL_law_426 (by decide) ?_
  refine n_iadd hC dL_law_427 ?_
  refine g_sld hC hw hX hbl hL (by omega) dL_law_428 ?_
  refine lv_aload_n hC.1 hC.2.1 dL_law_429 rfl (lv_at hl 0 rfl) ?_
  refine lv_iload_n hC.1 hC.2.1 dL_law_430 rfl (lv_at hl 3 rfl) ?_
  refine lv_iconst (v := nI 2) hC.1 hC.2.1 dL_law_431 (by decide) ?_
  refine n_iadd hC dL_law_432 ?_
  refine g_sld hC hw hX hbl hL (by omega) dL_law_433 ?_
  refine W.lcI (wc := w2) (wr := v1 u) (ws1 := v2) hw (Wd.runVA (rest := [.int r]) (As := [.int (xs (i + 1)), .int (xs (i + 2))]) hC hw hh2 rfl (cwV 2 hC.2.2.2.2 gv_X5_doubled rfl rfl rfl (by decide +kernel) ⟨Nat.le_of_ble_eq_true rfl, Nat.le_of_ble_eq_true rfl⟩) (c2 _) rfl hl.1 rfl (Nat.le_of_ble_eq_true rfl) dL_law_434 ⟨Nat.le_refl _, Nat.le_refl _⟩) (fun r2 u2 H locs hp2 hw => ?_)
  obtain ⟨rfl, hJ2⟩ := hR r u r2 u2 hp hp2
  refine lv_icmp_eq (tgt := 1100) hC.1 hC.2.1 dL_law_437 (by decide) (fun _ => ?_) (fun h9 => absurd rfl h9)
  exact kk _ _ _ _ _ hJ2 hw hl
set_option maxHeartbeats 4000000 in
set_option maxRecDepth 100000 in
theorem law_8 {p : Program} {l : Launch} {e : Env} {s : State} {m : MethodId} {below : List Frame} {meth : Method} {c : Code} {Q : State → Prop} {b L : Nat} {xs : Nat → Int32} {dC : Nat → ClassId} {dI : Nat → Nat → Nat} {cyI cyJ cyZ cyS : ClassId} {ad : Nat → Nat} (hC : CallFix p m c code 4 s #[Value.ref b] lw_tbl RL) (hX : va_X b L xs s s.heap) (hbl : b < s.heap.size) (hL : L ≤ 3072) {i : Nat} (hi : i + 6 ≤ L) (kk : ∀ (w1 w2 : va_W) (H : Heap) (locs : List Loc) (ls : Array Slot), JR cyI cyJ cyZ cyS ad w1 w2 → Wd dC dI (tysA cyI cyJ cyZ cyS) (w1 ++ w2) (fun q : Nat => s.heap.size ≤ q) s H locs → lv_has ls 4 [(0, .ref b), (1, .ref (ad 0)), (2, .ref (ad 40)), (3, .int (nI i))] → W p l e room_1 s m #[Value.ref b] below meth c H locs 600000 7302250 Q (F0 m 1100 ls [])) (w1 w2 : va_W) (H : Heap) (locs : List Loc) (ls : Array Slot) (hJ : JR cyI cyJ cyZ cyS ad w1 w2) (hw : Wd dC dI (tysA cyI cyJ cyZ cyS) (w1 ++ w2) (fun q : Nat => s.heap.size ≤ q) s H locs) (hl : lv_has ls 4 [(0, .ref b), (1, .ref (ad 0)), (2, .ref (ad 40)), (3, .int (nI i))]) : W p l e room_1 s m #[Value.ref b] below meth c H locs 600000 7302250 Q (F0 m 442 ls []) := by
  obtain ⟨⟨f1, hh1⟩, f2, hh2⟩ := hJ.heads
  obtain ⟨S1, S2, p1, v1, p2, v2, c1, c2, hR⟩ := s_about l dC dI cyI cyJ cyZ cyS ad w1 w2 hJ (xs (i + 1)) (xs (i + 2))
  refine lv_aload_n hC.1 hC.2.1 dL_law_442 rfl (lv_at hl 1 rfl) ?_
  refine lv_aload_n hC.1 hC.2.1 dL_law_443 rfl (lv_at hl 0 rfl) ?_
  refine lv_iload_n hC.1 hC.2.1 dL_law_444 rfl (lv_at hl 3 rfl) ?_
  refine lv_iconst (v := nI 1) hC.1 hC.2.1 dL_law_445 (by decide) ?_
  refine n_iadd hC dL_law_446 ?_
  refine g_sld hC hw hX hbl hL (by omega) dL_law_447 ?_
  refine lv_aload_n hC.1 hC.2.1 dL_law_448 rfl (lv_at hl 0 rfl) ?_
  refine lv_iload_n hC.1 hC.2.1 dL_law_449 rfl (lv_at hl 3 rfl) ?_
  refine lv_iconst (v := nI 2) hC.1 hC.2.1 dL_law_450 (by decide) ?_
  refine n_iadd hC dL_law_451 ?_
  refine g_sld hC hw hX hbl hL (by omega) dL_law_452 ?_
  refine W.lcI (wc := w1) (wr := w2) (ws1 := v1) hw (Wd.runVA (rest := []) (As := [.int (xs (i + 1)), .int (xs (i + 2))]) hC hw hh1 rfl (cwV 2 hC.2.2.2.2 gv_X4_about rfl rfl rfl (by decide +kernel) ⟨Nat.le_of_ble_eq_true rfl, Nat.le_of_ble_eq_true rfl⟩) (c1 _) rfl hl.1 rfl (Nat.le_of_ble_eq_true rfl) dL_law_453 ⟨Nat.le_refl _, Nat.le_refl _⟩) (fun r u H locs hp hw => ?_)
  refine lv_aload_n hC.1 hC.2.1 dL_law_456 rfl (lv_at hl 2 rfl) ?_
  refine lv_aload_n hC.1 hC.2.1 dL_law_457 rfl (lv_at hl 0 rfl) ?_
  refine lv_iload_n hC.1 hC.2.1 dL_law_458 rfl (lv_at hl 3 rfl) ?_
  refine lv_iconst (v := nI 1) hC.1 hC.2.1 dL_law_459 (by decide) ?_
  refine n_iadd hC dL_law_460 ?_
  refine g_sld hC hw hX hbl hL (by omega) dL_law_461 ?_
  refine lv_aload_n hC.1 hC.2.1 dL_law_462 rfl (lv_at hl 0 rfl) ?_
  refine lv_iload_n hC.1 hC.2.1 dL_law_463 rfl (lv_at hl 3 rfl) ?_
  refine lv_iconst (v := nI 2) hC.1 hC.2.1 dL_law_464 (by decide) ?_
  refine n_iadd hC dL_law_465 ?_
  refine g_sld hC hw hX hbl hL (by omega) dL_law_466 ?_
  refine W.lcI (wc := w2) (wr := v1 u) (ws1 := v2) hw (Wd.runVA (rest := [.int r]) (As := [.int (xs (i + 1)), .int (xs (i + 2))]) hC hw hh2 rfl (cwV 2 hC.2.2.2.2 gv_X5_about rfl rfl rfl (by decide +kernel) ⟨Nat.le_of_ble_eq_true rfl, Nat.le_of_ble_eq_true rfl⟩) (c2 _) rfl hl.1 rfl (Nat.le_of_ble_eq_true rfl) dL_law_467 ⟨Nat.le_refl _, Nat.le_refl _⟩) (fun r2 u2 H locs hp2 hw => ?_)
  obtain ⟨rfl, hJ2⟩ := hR r u r2 u2 hp hp2
  refine lv_icmp_eq (tgt := 1100) hC.1 hC.2.1 dL_law_470 (by decide) (fun _ => ?_) (fun h9 => absurd rfl h9)
  exact kk _ _ _ _ _ hJ2 hw hl
set_option maxHeartbeats 4000000 in
set_option maxRecDepth 100000 in
theorem law_9 {p : Program} {l : Launch} {e : Env} {s : State} {m : MethodId} {below : List Frame} {meth : Method} {c : Code} {Q : State → Prop} {b L : Nat} {xs : Nat → Int32} {dC : Nat → ClassId} {dI : Nat → Nat → Nat} {cyI cyJ cyZ cyS : ClassId} {ad : Nat → Nat} (hC : CallFix p m c code 4 s #[Value.ref b] lw_tbl RL) (hX : va_X b L xs s s.heap) (hbl : b < s.heap.size) (hL : L ≤ 3072) {i : Nat} (hi : i + 6 ≤ L) (kk : ∀ (w1 w2 : va_W) (H : Heap) (locs : List Loc) (ls : Array Slot), JR cyI cyJ cyZ cyS ad w1 w2 → Wd dC dI (tysA cyI cyJ cyZ cyS) (w1 ++ w2) (fun q : Nat => s.heap.size ≤ q) s H locs → lv_has ls 4 [(0, .ref b), (1, .ref (ad 0)), (2, .ref (ad 40)), (3, .int (nI i))] → W p l e room_1 s m #[Value.ref b] below meth c H locs 600000 7302250 Q (F0 m 1100 ls [])) (w1 w2 : va_W) (H : Heap) (locs : List Loc) (ls : Array Slot) (hJ : JR cyI cyJ cyZ cyS ad w1 w2) (hw : Wd dC dI (tysA cyI cyJ cyZ cyS) (w1 ++ w2) (fun q : Nat => s.heap.size ≤ q) s H locs) (hl : lv_has ls 4 [(0, .ref b), (1, .ref (ad 0)), (2, .ref (ad 40)), (3, .int (nI i))]) : W p l e room_1 s m #[Value.ref b] below meth c H locs 600000 7302250 Q (F0 m 475 ls []) := by
  obtain ⟨⟨f1, hh1⟩, f2, hh2⟩ := hJ.heads
  obtain ⟨S1, S2, p1, v1, p2, v2, c1, c2, hR⟩ := s_together l dC dI cyI cyJ cyZ cyS ad w1 w2 hJ 
  refine lv_aload_n hC.1 hC.2.1 dL_law_475 rfl (lv_at hl 1 rfl) ?_
  refine W.lcI (wc := w1) (wr := w2) (ws1 := v1) hw (Wd.runVA (rest := []) (As := []) hC hw hh1 rfl (cwV 0 hC.2.2.2.2 gv_X4_together rfl rfl rfl (by decide +kernel) ⟨Nat.le_of_ble_eq_true rfl, Nat.le_of_ble_eq_true rfl⟩) (c1 _) rfl hl.1 rfl (Nat.le_of_ble_eq_true rfl) dL_law_476 ⟨Nat.le_refl _, Nat.le_refl _⟩) (fun r u H locs hp hw => ?_)
  refine lv_aload_n hC.1 hC.2.1 dL_law_479 rfl (lv_at hl 2 rfl) ?_
  refine W.lcI (wc := w2) (wr := v1 u) (ws1 := v2) hw (Wd.runVA (rest := [.int r]) (As := []) hC hw hh2 rfl (cwV 0 hC.2.2.2.2 gv_X5_together rfl rfl rfl (by decide +kernel) ⟨Nat.le_of_ble_eq_true rfl, Nat.le_of_ble_eq_true rfl⟩) (c2 _) rfl hl.1 rfl (Nat.le_of_ble_eq_true rfl) dL_law_480 ⟨Nat.le_refl _, Nat.le_refl _⟩) (fun r2 u2 H locs hp2 hw => ?_)
  obtain ⟨rfl, hJ2⟩ := hR r u r2 u2 hp hp2
  refine lv_icmp_eq (tgt := 1100) hC.1 hC.2.1 dL_law_483 (by decide) (fun _ => ?_) (fun h9 => absurd rfl h9)
  exact kk _ _ _ _ _ hJ2 hw hl
set_option maxHeartbeats 4000000 in
set_option maxRecDepth 100000 in
theorem law_10 {p : Program} {l : Launch} {e : Env} {s : State} {m : MethodId} {below : List Frame} {meth : Method} {c : Code} {Q : State → Prop} {b L : Nat} {xs : Nat → Int32} {dC : Nat → ClassId} {dI : Nat → Nat → Nat} {cyI cyJ cyZ cyS : ClassId} {ad : Nat → Nat} (hC : CallFix p m c code 4 s #[Value.ref b] lw_tbl RL) (hX : va_X b L xs s s.heap) (hbl : b < s.heap.size) (hL : L ≤ 3072) {i : Nat} (hi : i + 6 ≤ L) (kk : ∀ (w1 w2 : va_W) (H : Heap) (locs : List Loc) (ls : Array Slot), JR cyI cyJ cyZ cyS ad w1 w2 → Wd dC dI (tysA cyI cyJ cyZ cyS) (w1 ++ w2) (fun q : Nat => s.heap.size ≤ q) s H locs → lv_has ls 4 [(0, .ref b), (1, .ref (ad 0)), (2, .ref (ad 40)), (3, .int (nI i))] → W p l e room_1 s m #[Value.ref b] below meth c H locs 600000 7302250 Q (F0 m 1100 ls [])) (w1 w2 : va_W) (H : Heap) (locs : List Loc) (ls : Array Slot) (hJ : JR cyI cyJ cyZ cyS ad w1 w2) (hw : Wd dC dI (tysA cyI cyJ cyZ cyS) (w1 ++ w2) (fun q : Nat => s.heap.size ≤ q) s H locs) (hl : lv_has ls 4 [(0, .ref b), (1, .ref (ad 0)), (2, .ref (ad 40)), (3, .int (nI i))]) : W p l e room_1 s m #[Value.ref b] below meth c H locs 600000 7302250 Q (F0 m 488 ls []) := by
  obtain ⟨⟨f1, hh1⟩, f2, hh2⟩ := hJ.heads
  obtain ⟨S1, S2, p1, v1, p2, v2, c1, c2, hR⟩ := s_rank l dC dI cyI cyJ cyZ cyS ad w1 w2 hJ (xs (i + 1)) (xs (i + 2))
  refine lv_aload_n hC.1 hC.2.1 dL_law_488 rfl (lv_at hl 1 rfl) ?_
  refine lv_aload_n hC.1 hC.2.1 dL_law_489 rfl (lv_at hl 0 rfl) ?_
  refine lv_iload_n hC.1 hC.2.1 dL_law_490 rfl (lv_at hl 3 rfl) ?_
  refine lv_iconst (v := nI 1) hC.1 hC.2.1 dL_law_491 (by decide) ?_
  refine n_iadd hC dL_law_492 ?_
  refine g_sld hC hw hX hbl hL (by omega) dL_law_493 ?_
  refine lv_aload_n hC.1 hC.2.1 dL_law_494 rfl (lv_at hl 0 rfl) ?_
  refine lv_iload_n hC.1 hC.2.1 dL_law_495 rfl (lv_at hl 3 rfl) ?_
  refine lv_iconst (v := nI 2) hC.1 hC.2.1 dL_law_496 (by decide) ?_
  refine n_iadd hC dL_law_497 ?_
  refine g_sld hC hw hX hbl hL (by omega) dL_law_498 ?_
  refine W.lcI (wc := w1) (wr := w2) (ws1 := v1) hw (Wd.runVA (rest := []) (As := [.int (xs (i + 1)), .int (xs (i + 2))]) hC hw hh1 rfl (cwV 2 hC.2.2.2.2 gv_X4_rank rfl rfl rfl (by decide +kernel) ⟨Nat.le_of_ble_eq_true rfl, Nat.le_of_ble_eq_true rfl⟩) (c1 _) rfl hl.1 rfl (Nat.le_of_ble_eq_true rfl) dL_law_499 ⟨Nat.le_refl _, Nat.le_refl _⟩) (fun r u H locs hp hw => ?_)
  refine lv_aload_n hC.1 hC.2.1 dL_law_502 rfl (lv_at hl 2 rfl) ?_
  refine lv_aload_n hC.1 hC.2.1 dL_law_503 rfl (lv_at hl 0 rfl) ?_
  refine lv_iload_n hC.1 hC.2.1 dL_law_504 rfl (lv_at hl 3 rfl) ?_
  refine lv_iconst (v := nI 1) hC.1 hC.2.1 dL_law_505 (by decide) ?_
  refine n_iadd hC dL_law_506 ?_
  refine g_sld hC hw hX hbl hL (by omega) dL_law_507 ?_
  refine lv_aload_n hC.1 hC.2.1 dL_law_508 rfl (lv_at hl 0 rfl) ?_
  refine lv_iload_n hC.1 hC.2.1 dL_law_509 rfl (lv_at hl 3 rfl) ?_
  refine lv_iconst (v := nI 2) hC.1 hC.2.1 dL_law_510 (by decide) ?_
  refine n_iadd hC dL_law_511 ?_
  refine g_sld hC hw hX hbl hL (by omega) dL_law_512 ?_
  refine W.lcI (wc := w2) (wr := v1 u) (ws1 := v2) hw (Wd.runVA (rest := [.int r]) (As := [.int (xs (i + 1)), .int (xs (i + 2))]) hC hw hh2 rfl (cwV 2 hC.2.2.2.2 gv_X5_rank rfl rfl rfl (by decide +kernel) ⟨Nat.le_of_ble_eq_true rfl, Nat.le_of_ble_eq_true rfl⟩) (c2 _) rfl hl.1 rfl (Nat.le_of_ble_eq_true rfl) dL_law_513 ⟨Nat.le_refl _, Nat.le_refl _⟩) (fun r2 u2 H locs hp2 hw => ?_)
  obtain ⟨rfl, hJ2⟩ := hR r u r2 u2 hp hp2
  refine lv_icmp_eq (tgt := 1100) hC.1 hC.2.1 dL_law_516 (by decide) (fun _ => ?_) (fun h9 => absurd rfl h9)
  exact kk _ _ _ _ _ hJ2 hw hl
set_option maxHeartbeats 4000000 in
set_option maxRecDepth 100000 in
theorem law_11 {p : Program} {l : Launch} {e : Env} {s : State} {m : MethodId} {below : List Frame} {meth : Method} {c : Code} {Q : State → Prop} {b L : Nat} {xs : Nat → Int32} {dC : Nat → ClassId} {dI : Nat → Nat → Nat} {cyI cyJ cyZ cyS : ClassId} {ad : Nat → Nat} (hC : CallFix p m c code 4 s #[Value.ref b] lw_tbl RL) (hX : va_X b L xs s s.heap) (hbl : b < s.heap.size) (hL : L ≤ 3072) {i : Nat} (hi : i + 6 ≤ L) (kk : ∀ (w1 w2 : va_W) (H : Heap) (locs : List Loc) (ls : Array Slot), JR cyI cyJ cyZ cyS ad w1 w2 → Wd dC dI (tysA cyI cyJ cyZ cyS) (w1 ++ w2) (fun q : Nat => s.heap.size ≤ q) s H locs → lv_has ls 4 [(0, .ref b), (1, .ref (ad 0)), (2, .ref (ad 40)), (3, .int (nI i))] → W p l e room_1 s m #[Value.ref b] below meth c H locs 600000 7302250 Q (F0 m 1100 ls [])) (w1 w2 : va_W) (H : Heap) (locs : List Loc) (ls : Array Slot) (hJ : JR cyI cyJ cyZ cyS ad w1 w2) (hw : Wd dC dI (tysA cyI cyJ cyZ cyS) (w1 ++ w2) (fun q : Nat => s.heap.size ≤ q) s H locs) (hl : lv_has ls 4 [(0, .ref b), (1, .ref (ad 0)), (2, .ref (ad 40)), (3, .int (nI i))]) : W p l e room_1 s m #[Value.ref b] below meth c H locs 600000 7302250 Q (F0 m 521 ls []) := by
  obtain ⟨⟨f1, hh1⟩, f2, hh2⟩ := hJ.heads
  obtain ⟨S1, S2, p1, v1, p2, v2, c1, c2, hR⟩ := s_rest l dC dI cyI cyJ cyZ cyS ad w1 w2 hJ 
  refine lv_aload_n hC.1 hC.2.1 dL_law_521 rfl (lv_at hl 1 rfl) ?_
  refine W.lcI (wc := w1) (wr := w2) (ws1 := v1) hw (Wd.runVA (rest := []) (As := []) hC hw hh1 rfl (cwV 0 hC.2.2.2.2 gv_X4_rest rfl rfl rfl (by decide +kernel) ⟨Nat.le_of_ble_eq_true rfl, Nat.le_of_ble_eq_true rfl⟩) (c1 _) rfl hl.1 rfl (Nat.le_of_ble_eq_true rfl) dL_law_522 ⟨Nat.le_refl _, Nat.le_refl _⟩) (fun r u H locs hp hw => ?_)
  refine lv_aload_n hC.1 hC.2.1 dL_law_525 rfl (lv_at hl 2 rfl) ?_
  refine W.lcI (wc := w2) (wr := v1 u) (ws1 := v2) hw (Wd.runVA (rest := [.int r]) (As := []) hC hw hh2 rfl (cwV 0 hC.2.2.2.2 gv_X5_rest rfl rfl rfl (by decide +kernel) ⟨Nat.le_of_ble_eq_true rfl, Nat.le_of_ble_eq_true rfl⟩) (c2 _) rfl hl.1 rfl (Nat.le_of_ble_eq_true rfl) dL_law_526 ⟨Nat.le_refl _, Nat.le_refl _⟩) (fun r2 u2 H locs hp2 hw => ?_)
  obtain ⟨rfl, hJ2⟩ := hR r u r2 u2 hp hp2
  refine lv_icmp_eq (tgt := 1100) hC.1 hC.2.1 dL_law_529 (by decide) (fun _ => ?_) (fun h9 => absurd rfl h9)
  exact kk _ _ _ _ _ hJ2 hw hl
set_option maxHeartbeats 4000000 in
set_option maxRecDepth 100000 in
theorem law_12 {p : Program} {l : Launch} {e : Env} {s : State} {m : MethodId} {below : List Frame} {meth : Method} {c : Code} {Q : State → Prop} {b L : Nat} {xs : Nat → Int32} {dC : Nat → ClassId} {dI : Nat → Nat → Nat} {cyI cyJ cyZ cyS : ClassId} {ad : Nat → Nat} (hC : CallFix p m c code 4 s #[Value.ref b] lw_tbl RL) (hX : va_X b L xs s s.heap) (hbl : b < s.heap.size) (hL : L ≤ 3072) {i : Nat} (hi : i + 6 ≤ L) (kk : ∀ (w1 w2 : va_W) (H : Heap) (locs : List Loc) (ls : Array Slot), JR cyI cyJ cyZ cyS ad w1 w2 → Wd dC dI (tysA cyI cyJ cyZ cyS) (w1 ++ w2) (fun q : Nat => s.heap.size ≤ q) s H locs → lv_has ls 4 [(0, .ref b), (1, .ref (ad 0)), (2, .ref (ad 40)), (3, .int (nI i))] → W p l e room_1 s m #[Value.ref b] below meth c H locs 600000 7302250 Q (F0 m 1100 ls [])) (w1 w2 : va_W) (H : Heap) (locs : List Loc) (ls : Array Slot) (hJ : JR cyI cyJ cyZ cyS ad w1 w2) (hw : Wd dC dI (tysA cyI cyJ cyZ cyS) (w1 ++ w2) (fun q : Nat => s.heap.size ≤ q) s H locs) (hl : lv_has ls 4 [(0, .ref b), (1, .ref (ad 0)), (2, .ref (ad 40)), (3, .int (nI i))]) : W p l e room_1 s m #[Value.ref b] below meth c H locs 600000 7302250 Q (F0 m 534 ls []) := by
  obtain ⟨⟨f1, hh1⟩, f2, hh2⟩ := hJ.heads
  obtain ⟨S1, S2, p1, v1, p2, v2, c1, c2, hR⟩ := s_ranks l dC dI cyI cyJ cyZ cyS ad w1 w2 hJ (xs (i + 1))
  refine lv_aload_n hC.1 hC.2.1 dL_law_534 rfl (lv_at hl 1 rfl) ?_
  refine lv_aload_n hC.1 hC.2.1 dL_law_535 rfl (lv_at hl 0 rfl) ?_
  refine lv_iload_n hC.1 hC.2.1 dL_law_536 rfl (lv_at hl 3 rfl) ?_
  refine lv_iconst (v := nI 1) hC.1 hC.2.1 dL_law_537 (by decide) ?_
  refine n_iadd hC dL_law_538 ?_
  refine g_sld hC hw hX hbl hL (by omega) dL_law_539 ?_
  refine W.lcI (wc := w1) (wr := w2) (ws1 := v1) hw (Wd.runVA (rest := []) (As := [.int (xs (i + 1))]) hC hw hh1 rfl (cwV 1 hC.2.2.2.2 gv_X4_ranks rfl rfl rfl (by decide +kernel) ⟨Nat.le_of_ble_eq_true rfl, Nat.le_of_ble_eq_true rfl⟩) (c1 _) rfl hl.1 rfl (Nat.le_of_ble_eq_true rfl) dL_law_540 ⟨Nat.le_refl _, Nat.le_refl _⟩) (fun r u H locs hp hw => ?_)
  refine lv_aload_n hC.1 hC.2.1 dL_law_543 rfl (lv_at hl 2 rfl) ?_
  refine lv_aload_n hC.1 hC.2.1 dL_law_544 rfl (lv_at hl 0 rfl) ?_
  refine lv_iload_n hC.1 hC.2.1 dL_law_545 rfl (lv_at hl 3 rfl) ?_
  refine lv_iconst (v := nI 1) hC.1 hC.2.1 dL_law_546 (by decide) ?_
  refine n_iadd hC dL_law_547 ?_
  refine g_sld hC hw hX hbl hL (by omega) dL_law_548 ?_
  refine W.lcI (wc := w2) (wr := v1 u) (ws1 := v2) hw (Wd.runVA (rest := [.int r]) (As := [.int (xs (i + 1))]) hC hw hh2 rfl (cwV 1 hC.2.2.2.2 gv_X5_ranks rfl rfl rfl (by decide +kernel) ⟨Nat.le_of_ble_eq_true rfl, Nat.le_of_ble_eq_true rfl⟩) (c2 _) rfl hl.1 rfl (Nat.le_of_ble_eq_true rfl) dL_law_549 ⟨Nat.le_refl _, Nat.le_refl _⟩) (fun r2 u2 H locs hp2 hw => ?_)
  obtain ⟨rfl, hJ2⟩ := hR r u r2 u2 hp hp2
  refine lv_icmp_eq (tgt := 1100) hC.1 hC.2.1 dL_law_552 (by decide) (fun _ => ?_) (fun h9 => absurd rfl h9)
  exact kk _ _ _ _ _ hJ2 hw hl
set_option maxHeartbeats 4000000 in
set_option maxRecDepth 100000 in
theorem law_13 {p : Program} {l : Launch} {e : Env} {s : State} {m : MethodId} {below : List Frame} {meth : Method} {c : Code} {Q : State → Prop} {b L : Nat} {xs : Nat → Int32} {dC : Nat → ClassId} {dI : Nat → Nat → Nat} {cyI cyJ cyZ cyS : ClassId} {ad : Nat → Nat} (hC : CallFix p m c code 4 s #[Value.ref b] lw_tbl RL) (hX : va_X b L xs s s.heap) (hbl : b < s.heap.size) (hL : L ≤ 3072) {i : Nat} (hi : i + 6 ≤ L) (kk : ∀ (w1 w2 : va_W) (H : Heap) (locs : List Loc) (ls : Array Slot), JR cyI cyJ cyZ cyS ad w1 w2 → Wd dC dI (tysA cyI cyJ cyZ cyS) (w1 ++ w2) (fun q : Nat => s.heap.size ≤ q) s H locs → lv_has ls 4 [(0, .ref b), (1, .ref (ad 0)), (2, .ref (ad 40)), (3, .int (nI i))] → W p l e room_1 s m #[Value.ref b] below meth c H locs 600000 7302250 Q (F0 m 1100 ls [])) (w1 w2 : va_W) (H : Heap) (locs : List Loc) (ls : Array Slot) (hJ : JR cyI cyJ cyZ cyS ad w1 w2) (hw : Wd dC dI (tysA cyI cyJ cyZ cyS) (w1 ++ w2) (fun q : Nat => s.heap.size ≤ q) s H locs) (hl : lv_has ls 4 [(0, .ref b), (1, .ref (ad 0)), (2, .ref (ad 40)), (3, .int (nI i))]) : W p l e room_1 s m #[Value.ref b] below meth c H locs 600000 7302250 Q (F0 m 557 ls []) := by
  obtain ⟨⟨f1, hh1⟩, f2, hh2⟩ := hJ.heads
  obtain ⟨S1, S2, p1, v1, p2, v2, c1, c2, hR⟩ := s_apart l dC dI cyI cyJ cyZ cyS ad w1 w2 hJ (xs (i + 1)) (xs (i + 2))
  refine lv_aload_n hC.1 hC.2.1 dL_law_557 rfl (lv_at hl 1 rfl) ?_
  refine lv_aload_n hC.1 hC.2.1 dL_law_558 rfl (lv_at hl 0 rfl) ?_
  refine lv_iload_n hC.1 hC.2.1 dL_law_559 rfl (lv_at hl 3 rfl) ?_
  refine lv_iconst (v := nI 1) hC.1 hC.2.1 dL_law_560 (by decide) ?_
  refine n_iadd hC dL_law_561 ?_
  refine g_sld hC hw hX hbl hL (by omega) dL_law_562 ?_
  refine lv_aload_n hC.1 hC.2.1 dL_law_563 rfl (lv_at hl 0 rfl) ?_
  refine lv_iload_n hC.1 hC.2.1 dL_law_564 rfl (lv_at hl 3 rfl) ?_
  refine lv_iconst (v := nI 2) hC.1 hC.2.1 dL_law_565 (by decide) ?_
  refine n_iadd hC dL_law_566 ?_
  refine g_sld hC hw hX hbl hL (by omega) dL_law_567 ?_
  refine W.lcI (wc := w1) (wr := w2) (ws1 := v1) hw (Wd.runVA (rest := []) (As := [.int (xs (i + 1)), .int (xs (i + 2))]) hC hw hh1 rfl (cwV 2 hC.2.2.2.2 gv_X4_apart rfl rfl rfl (by decide +kernel) ⟨Nat.le_of_ble_eq_true rfl, Nat.le_of_ble_eq_true rfl⟩) (c1 _) rfl hl.1 rfl (Nat.le_of_ble_eq_true rfl) dL_law_568 ⟨Nat.le_refl _, Nat.le_refl _⟩) (fun r u H locs hp hw => ?_)
  refine lv_aload_n hC.1 hC.2.1 dL_law_571 rfl (lv_at hl 2 rfl) ?_
  refine lv_aload_n hC.1 hC.2.1 dL_law_572 rfl (lv_at hl 0 rfl) ?_
  refine lv_iload_n hC.1 hC.2.1 dL_law_573 rfl (lv_at hl 3 rfl) ?_
  refine lv_iconst (v := nI 1) hC.1 hC.2.1 dL_law_574 (by decide) ?_
  refine n_iadd hC dL_law_575 ?_
  refine g_sld hC hw hX hbl hL (by omega) dL_law_576 ?_
  refine lv_aload_n hC.1 hC.2.1 dL_law_577 rfl (lv_at hl 0 rfl) ?_
  refine lv_iload_n hC.1 hC.2.1 dL_law_578 rfl (lv_at hl 3 rfl) ?_
  refine lv_iconst (v := nI 2) hC.1 hC.2.1 dL_law_579 (by decide) ?_
  refine n_iadd hC dL_law_580 ?_
  refine g_sld hC hw hX hbl hL (by omega) dL_law_581 ?_
  refine W.lcI (wc := w2) (wr := v1 u) (ws1 := v2) hw (Wd.runVA (rest := [.int r]) (As := [.int (xs (i + 1)), .int (xs (i + 2))]) hC hw hh2 rfl (cwV 2 hC.2.2.2.2 gv_X5_apart rfl rfl rfl (by decide +kernel) ⟨Nat.le_of_ble_eq_true rfl, Nat.le_of_ble_eq_true rfl⟩) (c2 _) rfl hl.1 rfl (Nat.le_of_ble_eq_true rfl) dL_law_582 ⟨Nat.le_refl _, Nat.le_refl _⟩) (fun r2 u2 H locs hp2 hw => ?_)
  obtain ⟨rfl, hJ2⟩ := hR r u r2 u2 hp hp2
  refine lv_icmp_eq (tgt := 1100) hC.1 hC.2.1 dL_law_585 (by decide) (fun _ => ?_) (fun h9 => absurd rfl h9)
  exact kk _ _ _ _ _ hJ2 hw hl
set_option maxHeartbeats 4000000 in
set_option maxRecDepth 100000 in
theorem law_14 {p : Program} {l : Launch} {e : Env} {s : State} {m : MethodId} {below : List Frame} {meth : Method} {c : Code} {Q : State → Prop} {b L : Nat} {xs : Nat → Int32} {dC : Nat → ClassId} {dI : Nat → Nat → Nat} {cyI cyJ cyZ cyS : ClassId} {ad : Nat → Nat} (hC : CallFix p m c code 4 s #[Value.ref b] lw_tbl RL) (hX : va_X b L xs s s.heap) (hbl : b < s.heap.size) (hL : L ≤ 3072) {i : Nat} (hi : i + 6 ≤ L) (kk : ∀ (w1 w2 : va_W) (H : Heap) (locs : List Loc) (ls : Array Slot), JR cyI cyJ cyZ cyS ad w1 w2 → Wd dC dI (tysA cyI cyJ cyZ cyS) (w1 ++ w2) (fun q : Nat => s.heap.size ≤ q) s H locs → lv_has ls 4 [(0, .ref b), (1, .ref (ad 0)), (2, .ref (ad 40)), (3, .int (nI i))] → W p l e room_1 s m #[Value.ref b] below meth c H locs 600000 7302250 Q (F0 m 1100 ls [])) (w1 w2 : va_W) (H : Heap) (locs : List Loc) (ls : Array Slot) (hJ : JR cyI cyJ cyZ cyS ad w1 w2) (hw : Wd dC dI (tysA cyI cyJ cyZ cyS) (w1 ++ w2) (fun q : Nat => s.heap.size ≤ q) s H locs) (hl : lv_has ls 4 [(0, .ref b), (1, .ref (ad 0)), (2, .ref (ad 40)), (3, .int (nI i))]) : W p l e room_1 s m #[Value.ref b] below meth c H locs 600000 7302250 Q (F0 m 590 ls []) := by
  obtain ⟨⟨f1, hh1⟩, f2, hh2⟩ := hJ.heads
  obtain ⟨S1, S2, p1, v1, p2, v2, c1, c2, hR⟩ := s_chosen l dC dI cyI cyJ cyZ cyS ad w1 w2 hJ 
  refine lv_aload_n hC.1 hC.2.1 dL_law_590 rfl (lv_at hl 1 rfl) ?_
  refine W.lcI (wc := w1) (wr := w2) (ws1 := v1) hw (Wd.runVA (rest := []) (As := []) hC hw hh1 rfl (cwV 0 hC.2.2.2.2 gv_X4_chosen rfl rfl rfl (by decide +kernel) ⟨Nat.le_of_ble_eq_true rfl, Nat.le_of_ble_eq_true rfl⟩) (c1 _) rfl hl.1 rfl (Nat.le_of_ble_eq_true rfl) dL_law_591 ⟨Nat.le_refl _, Nat.le_refl _⟩) (fun r u H locs hp hw => ?_)
  refine lv_aload_n hC.1 hC.2.1 dL_law_594 rfl (lv_at hl 2 rfl) ?_
  refine W.lcI (wc := w2) (wr := v1 u) (ws1 := v2) hw (Wd.runVA (rest := [.int r]) (As := []) hC hw hh2 rfl (cwV 0 hC.2.2.2.2 gv_X5_chosen rfl rfl rfl (by decide +kernel) ⟨Nat.le_of_ble_eq_true rfl, Nat.le_of_ble_eq_true rfl⟩) (c2 _) rfl hl.1 rfl (Nat.le_of_ble_eq_true rfl) dL_law_595 ⟨Nat.le_refl _, Nat.le_refl _⟩) (fun r2 u2 H locs hp2 hw => ?_)
  obtain ⟨rfl, hJ2⟩ := hR r u r2 u2 hp hp2
  refine lv_icmp_eq (tgt := 1100) hC.1 hC.2.1 dL_law_598 (by decide) (fun _ => ?_) (fun h9 => absurd rfl h9)
  exact kk _ _ _ _ _ hJ2 hw hl
set_option maxHeartbeats 4000000 in
set_option maxRecDepth 100000 in
theorem law_15 {p : Program} {l : Launch} {e : Env} {s : State} {m : MethodId} {below : List Frame} {meth : Method} {c : Code} {Q : State → Prop} {b L : Nat} {xs : Nat → Int32} {dC : Nat → ClassId} {dI : Nat → Nat → Nat} {cyI cyJ cyZ cyS : ClassId} {ad : Nat → Nat} (hC : CallFix p m c code 4 s #[Value.ref b] lw_tbl RL) (hX : va_X b L xs s s.heap) (hbl : b < s.heap.size) (hL : L ≤ 3072) {i : Nat} (hi : i + 6 ≤ L) (kk : ∀ (w1 w2 : va_W) (H : Heap) (locs : List Loc) (ls : Array Slot), JR cyI cyJ cyZ cyS ad w1 w2 → Wd dC dI (tysA cyI cyJ cyZ cyS) (w1 ++ w2) (fun q : Nat => s.heap.size ≤ q) s H locs → lv_has ls 4 [(0, .ref b), (1, .ref (ad 0)), (2, .ref (ad 40)), (3, .int (nI i))] → W p l e room_1 s m #[Value.ref b] below meth c H locs 600000 7302250 Q (F0 m 1100 ls [])) (w1 w2 : va_W) (H : Heap) (locs : List Loc) (ls : Array Slot) (hJ : JR cyI cyJ cyZ cyS ad w1 w2) (hw : Wd dC dI (tysA cyI cyJ cyZ cyS) (w1 ++ w2) (fun q : Nat => s.heap.size ≤ q) s H locs) (hl : lv_has ls 4 [(0, .ref b), (1, .ref (ad 0)), (2, .ref (ad 40)), (3, .int (nI i))]) : W p l e room_1 s m #[Value.ref b] below meth c H locs 600000 7302250 Q (F0 m 603 ls []) := by
  obtain ⟨⟨f1, hh1⟩, f2, hh2⟩ := hJ.heads
  obtain ⟨S1, S2, p1, v1, p2, v2, c1, c2, hR⟩ := s_flood l dC dI cyI cyJ cyZ cyS ad w1 w2 hJ (xs (i + 1)) ((((xs (i + 2)).toInt64) <<< ((nI 32).toInt64 &&& 63)) ||| (((xs (i + 3)).toInt64) &&& (4294967295)))
  refine lv_aload_n hC.1 hC.2.1 dL_law_603 rfl (lv_at hl 1 rfl) ?_
  refine lv_aload_n hC.1 hC.2.1 dL_law_604 rfl (lv_at hl 0 rfl) ?_
  refine lv_iload_n hC.1 hC.2.1 dL_law_605 rfl (lv_at hl 3 rfl) ?_
  refine lv_iconst (v := nI 1) hC.1 hC.2.1 dL_law_606 (by decide) ?_
  refine n_iadd hC dL_law_607 ?_
  refine g_sld hC hw hX hbl hL (by omega) dL_law_608 ?_
  refine lv_aload_n hC.1 hC.2.1 dL_law_609 rfl (lv_at hl 0 rfl) ?_
  refine lv_iload_n hC.1 hC.2.1 dL_law_610 rfl (lv_at hl 3 rfl) ?_
  refine lv_iconst (v := nI 2) hC.1 hC.2.1 dL_law_611 (by decide) ?_
  refine n_iadd hC dL_law_612 ?_
  refine g_sld hC hw hX hbl hL (by omega) dL_law_613 ?_
  refine lv_i2l hC.1 hC.2.1 dL_law_614 rfl ?_
  refine lv_bipush (v := nI 32) hC.1 hC.2.1 dL_law_615 (by decide) ?_
  refine lv_lshl hC.1 hC.2.1 dL_law_617 rfl ?_
  refine lv_aload_n hC.1 hC.2.1 dL_law_618 rfl (lv_at hl 0 rfl) ?_
  refine lv_iload_n hC.1 hC.2.1 dL_law_619 rfl (lv_at hl 3 rfl) ?_
  refine lv_iconst (v := nI 3) hC.1 hC.2.1 dL_law_620 (by decide) ?_
  refine n_iadd hC dL_law_621 ?_
  refine g_sld hC hw hX hbl hL (by omega) dL_law_622 ?_
  refine lv_i2l hC.1 hC.2.1 dL_law_623 rfl ?_
  refine lv_ldc2 hC.1 hC.2.1 (own := RL) (v := (4294967295)) hC.2.2.2.1 (hC.2.2.2.2 _ tw_735) dL_law_624 ?_
  refine lv_land hC.1 hC.2.1 dL_law_627 ?_
  refine lv_lor hC.1 hC.2.1 dL_law_628 ?_
  refine W.lcI (wc := w1) (wr := w2) (ws1 := v1) hw (Wd.runVA (rest := []) (As := [.int (xs (i + 1)), .long ((((xs (i + 2)).toInt64) <<< ((nI 32).toInt64 &&& 63)) ||| (((xs (i + 3)).toInt64) &&& (4294967295)))]) hC hw hh1 rfl (cwV 2 hC.2.2.2.2 gv_X4_flood rfl rfl rfl (by decide +kernel) ⟨Nat.le_of_ble_eq_true rfl, Nat.le_of_ble_eq_true rfl⟩) (c1 _) rfl hl.1 rfl (Nat.le_of_ble_eq_true rfl) dL_law_629 ⟨Nat.le_refl _, Nat.le_refl _⟩) (fun r u H locs hp hw => ?_)
  refine lv_aload_n hC.1 hC.2.1 dL_law_632 rfl (lv_at hl 2 rfl) ?_
  refine lv_aload_n hC.1 hC.2.1 dL_law_633 rfl (lv_at hl 0 rfl) ?_
  refine lv_iload_n hC.1 hC.2.1 dL_law_634 rfl (lv_at hl 3 rfl) ?_
  refine lv_iconst (v := nI 1) hC.1 hC.2.1 dL_law_635 (by decide) ?_
  refine n_iadd hC dL_law_636 ?_
  refine g_sld hC hw hX hbl hL (by omega) dL_law_637 ?_
  refine lv_aload_n hC.1 hC.2.1 dL_law_638 rfl (lv_at hl 0 rfl) ?_
  refine lv_iload_n hC.1 hC.2.1 dL_law_639 rfl (lv_at hl 3 rfl) ?_
  refine lv_iconst (v := nI 2) hC.1 hC.2.1 dL_law_640 (by decide) ?_
  refine n_iadd hC dL_law_641 ?_
  refine g_sld hC hw hX hbl hL (by omega) dL_law_642 ?_
  refine lv_i2l hC.1 hC.2.1 dL_law_643 rfl ?_
  refine lv_bipush (v := nI 32) hC.1 hC.2.1 dL_law_644 (by decide) ?_
  refine lv_lshl hC.1 hC.2.1 dL_law_646 rfl ?_
  refine lv_aload_n hC.1 hC.2.1 dL_law_647 rfl (lv_at hl 0 rfl) ?_
  refine lv_iload_n hC.1 hC.2.1 dL_law_648 rfl (lv_at hl 3 rfl) ?_
  refine lv_iconst (v := nI 3) hC.1 hC.2.1 dL_law_649 (by decide) ?_
  refine n_iadd hC dL_law_650 ?_
  refine g_sld hC hw hX hbl hL (by omega) dL_law_651 ?_
  refine lv_i2l hC.1 hC.2.1 dL_law_652 rfl ?_
  refine lv_ldc2 hC.1 hC.2.1 (own := RL) (v := (4294967295)) hC.2.2.2.1 (hC.2.2.2.2 _ tw_735) dL_law_653 ?_
  refine lv_land hC.1 hC.2.1 dL_law_656 ?_
  refine lv_lor hC.1 hC.2.1 dL_law_657 ?_
  refine W.lcI (wc := w2) (wr := v1 u) (ws1 := v2) hw (Wd.runVA (rest := [.int r]) (As := [.int (xs (i + 1)), .long ((((xs (i + 2)).toInt64) <<< ((nI 32).toInt64 &&& 63)) ||| (((xs (i + 3)).toInt64) &&& (4294967295)))]) hC hw hh2 rfl (cwV 2 hC.2.2.2.2 gv_X5_flood rfl rfl rfl (by decide +kernel) ⟨Nat.le_of_ble_eq_true rfl, Nat.le_of_ble_eq_true rfl⟩) (c2 _) rfl hl.1 rfl (Nat.le_of_ble_eq_true rfl) dL_law_658 ⟨Nat.le_refl _, Nat.le_refl _⟩) (fun r2 u2 H locs hp2 hw => ?_)
  obtain ⟨rfl, hJ2⟩ := hR r u r2 u2 hp hp2
  refine lv_icmp_eq (tgt := 1100) hC.1 hC.2.1 dL_law_661 (by decide) (fun _ => ?_) (fun h9 => absurd rfl h9)
  exact kk _ _ _ _ _ hJ2 hw hl
set_option maxHeartbeats 4000000 in
set_option maxRecDepth 100000 in
theorem law_16 {p : Program} {l : Launch} {e : Env} {s : State} {m : MethodId} {below : List Frame} {meth : Method} {c : Code} {Q : State → Prop} {b L : Nat} {xs : Nat → Int32} {dC : Nat → ClassId} {dI : Nat → Nat → Nat} {cyI cyJ cyZ cyS : ClassId} {ad : Nat → Nat} (hC : CallFix p m c code 4 s #[Value.ref b] lw_tbl RL) (hX : va_X b L xs s s.heap) (hbl : b < s.heap.size) (hL : L ≤ 3072) {i : Nat} (hi : i + 6 ≤ L) (kk : ∀ (w1 w2 : va_W) (H : Heap) (locs : List Loc) (ls : Array Slot), JR cyI cyJ cyZ cyS ad w1 w2 → Wd dC dI (tysA cyI cyJ cyZ cyS) (w1 ++ w2) (fun q : Nat => s.heap.size ≤ q) s H locs → lv_has ls 4 [(0, .ref b), (1, .ref (ad 0)), (2, .ref (ad 40)), (3, .int (nI i))] → W p l e room_1 s m #[Value.ref b] below meth c H locs 600000 7302250 Q (F0 m 1100 ls [])) (w1 w2 : va_W) (H : Heap) (locs : List Loc) (ls : Array Slot) (hJ : JR cyI cyJ cyZ cyS ad w1 w2) (hw : Wd dC dI (tysA cyI cyJ cyZ cyS) (w1 ++ w2) (fun q : Nat => s.heap.size ≤ q) s H locs) (hl : lv_has ls 4 [(0, .ref b), (1, .ref (ad 0)), (2, .ref (ad 40)), (3, .int (nI i))]) : W p l e room_1 s m #[Value.ref b] below meth c H locs 600000 7302250 Q (F0 m 666 ls []) := by
  obtain ⟨⟨f1, hh1⟩, f2, hh2⟩ := hJ.heads
  obtain ⟨S1, S2, p1, v1, p2, v2, c1, c2, hR⟩ := s_flooded l dC dI cyI cyJ cyZ cyS ad w1 w2 hJ (xs (i + 1)) (xs (i + 2))
  refine lv_aload_n hC.1 hC.2.1 dL_law_666 rfl (lv_at hl 1 rfl) ?_
  refine lv_aload_n hC.1 hC.2.1 dL_law_667 rfl (lv_at hl 0 rfl) ?_
  refine lv_iload_n hC.1 hC.2.1 dL_law_668 rfl (lv_at hl 3 rfl) ?_
  refine lv_iconst (v := nI 1) hC.1 hC.2.1 dL_law_669 (by decide) ?_
  refine n_iadd hC dL_law_670 ?_
  refine g_sld hC hw hX hbl hL (by omega) dL_law_671 ?_
  refine lv_aload_n hC.1 hC.2.1 dL_law_672 rfl (lv_at hl 0 rfl) ?_
  refine lv_iload_n hC.1 hC.2.1 dL_law_673 rfl (lv_at hl 3 rfl) ?_
  refine lv_iconst (v := nI 2) hC.1 hC.2.1 dL_law_674 (by decide) ?_
  refine n_iadd hC dL_law_675 ?_
  refine g_sld hC hw hX hbl hL (by omega) dL_law_676 ?_
  refine W.lcI (wc := w1) (wr := w2) (ws1 := v1) hw (Wd.runVA (rest := []) (As := [.int (xs (i + 1)), .int (xs (i + 2))]) hC hw hh1 rfl (cwV 2 hC.2.2.2.2 gv_X4_flooded rfl rfl rfl (by decide +kernel) ⟨Nat.le_of_ble_eq_true rfl, Nat.le_of_ble_eq_true rfl⟩) (c1 _) rfl hl.1 rfl (Nat.le_of_ble_eq_true rfl) dL_law_677 ⟨Nat.le_refl _, Nat.le_refl _⟩) (fun r u H locs hp hw => ?_)
  refine lv_aload_n hC.1 hC.2.1 dL_law_680 rfl (lv_at hl 2 rfl) ?_
  refine lv_aload_n hC.1 hC.2.1 dL_law_681 rfl (lv_at hl 0 rfl) ?_
  refine lv_iload_n hC.1 hC.2.1 dL_law_682 rfl (lv_at hl 3 rfl) ?_
  refine lv_iconst (v := nI 1) hC.1 hC.2.1 dL_law_683 (by decide) ?_
  refine n_iadd hC dL_law_684 ?_
  refine g_sld hC hw hX hbl hL (by omega) dL_law_685 ?_
  refine lv_aload_n hC.1 hC.2.1 dL_law_686 rfl (lv_at hl 0 rfl) ?_
  refine lv_iload_n hC.1 hC.2.1 dL_law_687 rfl (lv_at hl 3 rfl) ?_
  refine lv_iconst (v := nI 2) hC.1 hC.2.1 dL_law_688 (by decide) ?_
  refine n_iadd hC dL_law_689 ?_
  refine g_sld hC hw hX hbl hL (by omega) dL_law_690 ?_
  refine W.lcI (wc := w2) (wr := v1 u) (ws1 := v2) hw (Wd.runVA (rest := [.int r]) (As := [.int (xs (i + 1)), .int (xs (i + 2))]) hC hw hh2 rfl (cwV 2 hC.2.2.2.2 gv_X5_flooded rfl rfl rfl (by decide +kernel) ⟨Nat.le_of_ble_eq_true rfl, Nat.le_of_ble_eq_true rfl⟩) (c2 _) rfl hl.1 rfl (Nat.le_of_ble_eq_true rfl) dL_law_691 ⟨Nat.le_refl _, Nat.le_refl _⟩) (fun r2 u2 H locs hp2 hw => ?_)
  obtain ⟨rfl, hJ2⟩ := hR r u r2 u2 hp hp2
  refine lv_icmp_eq (tgt := 1100) hC.1 hC.2.1 dL_law_694 (by decide) (fun _ => ?_) (fun h9 => absurd rfl h9)
  exact kk _ _ _ _ _ hJ2 hw hl
set_option maxHeartbeats 4000000 in
set_option maxRecDepth 100000 in
theorem law_17 {p : Program} {l : Launch} {e : Env} {s : State} {m : MethodId} {below : List Frame} {meth : Method} {c : Code} {Q : State → Prop} {b L : Nat} {xs : Nat → Int32} {dC : Nat → ClassId} {dI : Nat → Nat → Nat} {cyI cyJ cyZ cyS : ClassId} {ad : Nat → Nat} (hC : CallFix p m c code 4 s #[Value.ref b] lw_tbl RL) (hX : va_X b L xs s s.heap) (hbl : b < s.heap.size) (hL : L ≤ 3072) {i : Nat} (hi : i + 6 ≤ L) (kk : ∀ (w1 w2 : va_W) (H : Heap) (locs : List Loc) (ls : Array Slot), JR cyI cyJ cyZ cyS ad w1 w2 → Wd dC dI (tysA cyI cyJ cyZ cyS) (w1 ++ w2) (fun q : Nat => s.heap.size ≤ q) s H locs → lv_has ls 4 [(0, .ref b), (1, .ref (ad 0)), (2, .ref (ad 40)), (3, .int (nI i))] → W p l e room_1 s m #[Value.ref b] below meth c H locs 600000 7302250 Q (F0 m 1100 ls [])) (w1 w2 : va_W) (H : Heap) (locs : List Loc) (ls : Array Slot) (hJ : JR cyI cyJ cyZ cyS ad w1 w2) (hw : Wd dC dI (tysA cyI cyJ cyZ cyS) (w1 ++ w2) (fun q : Nat => s.heap.size ≤ q) s H locs) (hl : lv_has ls 4 [(0, .ref b), (1, .ref (ad 0)), (2, .ref (ad 40)), (3, .int (nI i))]) : W p l e room_1 s m #[Value.ref b] below meth c H locs 600000 7302250 Q (F0 m 699 ls []) := by
  obtain ⟨⟨f1, hh1⟩, f2, hh2⟩ := hJ.heads
  obtain ⟨S1, S2, p1, v1, p2, v2, c1, c2, hR⟩ := s_word l dC dI cyI cyJ cyZ cyS ad w1 w2 hJ (xs (i + 1))
  refine lv_aload_n hC.1 hC.2.1 dL_law_699 rfl (lv_at hl 1 rfl) ?_
  refine lv_aload_n hC.1 hC.2.1 dL_law_700 rfl (lv_at hl 0 rfl) ?_
  refine lv_iload_n hC.1 hC.2.1 dL_law_701 rfl (lv_at hl 3 rfl) ?_
  refine lv_iconst (v := nI 1) hC.1 hC.2.1 dL_law_702 (by decide) ?_
  refine n_iadd hC dL_law_703 ?_
  refine g_sld hC hw hX hbl hL (by omega) dL_law_704 ?_
  refine W.lcI (wc := w1) (wr := w2) (ws1 := v1) hw (Wd.runVA (rest := []) (As := [.int (xs (i + 1))]) hC hw hh1 rfl (cwV 1 hC.2.2.2.2 gv_X4_word rfl rfl rfl (by decide +kernel) ⟨Nat.le_of_ble_eq_true rfl, Nat.le_of_ble_eq_true rfl⟩) (c1 _) rfl hl.1 rfl (Nat.le_of_ble_eq_true rfl) dL_law_705 ⟨Nat.le_refl _, Nat.le_refl _⟩) (fun r u H locs hp hw => ?_)
  refine lv_aload_n hC.1 hC.2.1 dL_law_708 rfl (lv_at hl 2 rfl) ?_
  refine lv_aload_n hC.1 hC.2.1 dL_law_709 rfl (lv_at hl 0 rfl) ?_
  refine lv_iload_n hC.1 hC.2.1 dL_law_710 rfl (lv_at hl 3 rfl) ?_
  refine lv_iconst (v := nI 1) hC.1 hC.2.1 dL_law_711 (by decide) ?_
  refine n_iadd hC dL_law_712 ?_
  refine g_sld hC hw hX hbl hL (by omega) dL_law_713 ?_
  refine W.lcI (wc := w2) (wr := v1 u) (ws1 := v2) hw (Wd.runVA (rest := [.int r]) (As := [.int (xs (i + 1))]) hC hw hh2 rfl (cwV 1 hC.2.2.2.2 gv_X5_word rfl rfl rfl (by decide +kernel) ⟨Nat.le_of_ble_eq_true rfl, Nat.le_of_ble_eq_true rfl⟩) (c2 _) rfl hl.1 rfl (Nat.le_of_ble_eq_true rfl) dL_law_714 ⟨Nat.le_refl _, Nat.le_refl _⟩) (fun r2 u2 H locs hp2 hw => ?_)
  obtain ⟨rfl, hJ2⟩ := hR r u r2 u2 hp hp2
  refine lv_icmp_eq (tgt := 1100) hC.1 hC.2.1 dL_law_717 (by decide) (fun _ => ?_) (fun h9 => absurd rfl h9)
  exact kk _ _ _ _ _ hJ2 hw hl
set_option maxHeartbeats 4000000 in
set_option maxRecDepth 100000 in
theorem law_18 {p : Program} {l : Launch} {e : Env} {s : State} {m : MethodId} {below : List Frame} {meth : Method} {c : Code} {Q : State → Prop} {b L : Nat} {xs : Nat → Int32} {dC : Nat → ClassId} {dI : Nat → Nat → Nat} {cyI cyJ cyZ cyS : ClassId} {ad : Nat → Nat} (hC : CallFix p m c code 4 s #[Value.ref b] lw_tbl RL) (hX : va_X b L xs s s.heap) (hbl : b < s.heap.size) (hL : L ≤ 3072) {i : Nat} (hi : i + 6 ≤ L) (kk : ∀ (w1 w2 : va_W) (H : Heap) (locs : List Loc) (ls : Array Slot), JR cyI cyJ cyZ cyS ad w1 w2 → Wd dC dI (tysA cyI cyJ cyZ cyS) (w1 ++ w2) (fun q : Nat => s.heap.size ≤ q) s H locs → lv_has ls 4 [(0, .ref b), (1, .ref (ad 0)), (2, .ref (ad 40)), (3, .int (nI i))] → W p l e room_1 s m #[Value.ref b] below meth c H locs 600000 7302250 Q (F0 m 1100 ls [])) (w1 w2 : va_W) (H : Heap) (locs : List Loc) (ls : Array Slot) (hJ : JR cyI cyJ cyZ cyS ad w1 w2) (hw : Wd dC dI (tysA cyI cyJ cyZ cyS) (w1 ++ w2) (fun q : Nat => s.heap.size ≤ q) s H locs) (hl : lv_has ls 4 [(0, .ref b), (1, .ref (ad 0)), (2, .ref (ad 40)), (3, .int (nI i))]) : W p l e room_1 s m #[Value.ref b] below meth c H locs 600000 7302250 Q (F0 m 722 ls []) := by
  obtain ⟨⟨f1, hh1⟩, f2, hh2⟩ := hJ.heads
  obtain ⟨S1, S2, p1, v1, p2, v2, c1, c2, hR⟩ := s_lots l dC dI cyI cyJ cyZ cyS ad w1 w2 hJ (xs (i + 1)) (xs (i + 2))
  refine lv_aload_n hC.1 hC.2.1 dL_law_722 rfl (lv_at hl 1 rfl) ?_
  refine lv_aload_n hC.1 hC.2.1 dL_law_723 rfl (lv_at hl 0 rfl) ?_
  refine lv_iload_n hC.1 hC.2.1 dL_law_724 rfl (lv_at hl 3 rfl) ?_
  refine lv_iconst (v := nI 1) hC.1 hC.2.1 dL_law_725 (by decide) ?_
  refine n_iadd hC dL_law_726 ?_
  refine g_sld hC hw hX hbl hL (by omega) dL_law_727 ?_
  refine lv_aload_n hC.1 hC.2.1 dL_law_728 rfl (lv_at hl 0 rfl) ?_
  refine lv_iload_n hC.1 hC.2.1 dL_law_729 rfl (lv_at hl 3 rfl) ?_
  refine lv_iconst (v := nI 2) hC.1 hC.2.1 dL_law_730 (by decide) ?_
  refine n_iadd hC dL_law_731 ?_
  refine g_sld hC hw hX hbl hL (by omega) dL_law_732 ?_
  refine W.lcL (wc := w1) (wr := w2) (ws1 := v1) hw (Wd.runVA (rest := []) (As := [.int (xs (i + 1)), .int (xs (i + 2))]) hC hw hh1 rfl (cwV 2 hC.2.2.2.2 gv_X4_lots rfl rfl rfl (by decide +kernel) ⟨Nat.le_of_ble_eq_true rfl, Nat.le_of_ble_eq_true rfl⟩) (c1 _) rfl hl.1 rfl (Nat.le_of_ble_eq_true rfl) dL_law_733 ⟨Nat.le_refl _, Nat.le_refl _⟩) (fun r u H locs hp hw => ?_)
  refine lv_aload_n hC.1 hC.2.1 dL_law_736 rfl (lv_at hl 2 rfl) ?_
  refine lv_aload_n hC.1 hC.2.1 dL_law_737 rfl (lv_at hl 0 rfl) ?_
  refine lv_iload_n hC.1 hC.2.1 dL_law_738 rfl (lv_at hl 3 rfl) ?_
  refine lv_iconst (v := nI 1) hC.1 hC.2.1 dL_law_739 (by decide) ?_
  refine n_iadd hC dL_law_740 ?_
  refine g_sld hC hw hX hbl hL (by omega) dL_law_741 ?_
  refine lv_aload_n hC.1 hC.2.1 dL_law_742 rfl (lv_at hl 0 rfl) ?_
  refine lv_iload_n hC.1 hC.2.1 dL_law_743 rfl (lv_at hl 3 rfl) ?_
  refine lv_iconst (v := nI 2) hC.1 hC.2.1 dL_law_744 (by decide) ?_
  refine n_iadd hC dL_law_745 ?_
  refine g_sld hC hw hX hbl hL (by omega) dL_law_746 ?_
  refine W.lcL (wc := w2) (wr := v1 u) (ws1 := v2) hw (Wd.runVA (rest := [.long r]) (As := [.int (xs (i + 1)), .int (xs (i + 2))]) hC hw hh2 rfl (cwV 2 hC.2.2.2.2 gv_X5_lots rfl rfl rfl (by decide +kernel) ⟨Nat.le_of_ble_eq_true rfl, Nat.le_of_ble_eq_true rfl⟩) (c2 _) rfl hl.1 rfl (Nat.le_of_ble_eq_true rfl) dL_law_747 ⟨Nat.le_refl _, Nat.le_refl _⟩) (fun r2 u2 H locs hp2 hw => ?_)
  obtain ⟨rfl, hJ2⟩ := hR r u r2 u2 hp hp2
  refine W.lcmp hC.1 hC.2.1 dL_law_750 ?_
  refine lv_if_eq (tgt := 1100) hC.1 hC.2.1 dL_law_751 (by decide) (fun _ => ?_) (fun h9 => absurd ((lg_cmp_eq _ _).mpr rfl) h9)
  exact kk _ _ _ _ _ hJ2 hw hl
set_option maxHeartbeats 4000000 in
set_option maxRecDepth 100000 in
theorem law_19 {p : Program} {l : Launch} {e : Env} {s : State} {m : MethodId} {below : List Frame} {meth : Method} {c : Code} {Q : State → Prop} {b L : Nat} {xs : Nat → Int32} {dC : Nat → ClassId} {dI : Nat → Nat → Nat} {cyI cyJ cyZ cyS : ClassId} {ad : Nat → Nat} (hC : CallFix p m c code 4 s #[Value.ref b] lw_tbl RL) (hX : va_X b L xs s s.heap) (hbl : b < s.heap.size) (hL : L ≤ 3072) {i : Nat} (hi : i + 6 ≤ L) (kk : ∀ (w1 w2 : va_W) (H : Heap) (locs : List Loc) (ls : Array Slot), JR cyI cyJ cyZ cyS ad w1 w2 → Wd dC dI (tysA cyI cyJ cyZ cyS) (w1 ++ w2) (fun q : Nat => s.heap.size ≤ q) s H locs → lv_has ls 4 [(0, .ref b), (1, .ref (ad 0)), (2, .ref (ad 40)), (3, .int (nI i))] → W p l e room_1 s m #[Value.ref b] below meth c H locs 600000 7302250 Q (F0 m 1100 ls [])) (w1 w2 : va_W) (H : Heap) (locs : List Loc) (ls : Array Slot) (hJ : JR cyI cyJ cyZ cyS ad w1 w2) (hw : Wd dC dI (tysA cyI cyJ cyZ cyS) (w1 ++ w2) (fun q : Nat => s.heap.size ≤ q) s H locs) (hl : lv_has ls 4 [(0, .ref b), (1, .ref (ad 0)), (2, .ref (ad 40)), (3, .int (nI i))]) : W p l e room_1 s m #[Value.ref b] below meth c H locs 600000 7302250 Q (F0 m 756 ls []) := by
  obtain ⟨⟨f1, hh1⟩, f2, hh2⟩ := hJ.heads
  obtain ⟨S1, S2, p1, v1, p2, v2, c1, c2, hR⟩ := s_sheet l dC dI cyI cyJ cyZ cyS ad w1 w2 hJ (xs (i + 1)) (xs (i + 2)) (xs (i + 3))
  refine lv_aload_n hC.1 hC.2.1 dL_law_756 rfl (lv_at hl 1 rfl) ?_
  refine lv_aload_n hC.1 hC.2.1 dL_law_757 rfl (lv_at hl 0 rfl) ?_
  refine lv_iload_n hC.1 hC.2.1 dL_law_758 rfl (lv_at hl 3 rfl) ?_
  refine lv_iconst (v := nI 1) hC.1 hC.2.1 dL_law_759 (by decide) ?_
  refine n_iadd hC dL_law_760 ?_
  refine g_sld hC hw hX hbl hL (by omega) dL_law_761 ?_
  refine lv_aload_n hC.1 hC.2.1 dL_law_762 rfl (lv_at hl 0 rfl) ?_
  refine lv_iload_n hC.1 hC.2.1 dL_law_763 rfl (lv_at hl 3 rfl) ?_
  refine lv_iconst (v := nI 2) hC.1 hC.2.1 dL_law_764 (by decide) ?_
  refine n_iadd hC dL_law_765 ?_
  refine g_sld hC hw hX hbl hL (by omega) dL_law_766 ?_
  refine lv_aload_n hC.1 hC.2.1 dL_law_767 rfl (lv_at hl 0 rfl) ?_
  refine lv_iload_n hC.1 hC.2.1 dL_law_768 rfl (lv_at hl 3 rfl) ?_
  refine lv_iconst (v := nI 3) hC.1 hC.2.1 dL_law_769 (by decide) ?_
  refine n_iadd hC dL_law_770 ?_
  refine g_sld hC hw hX hbl hL (by omega) dL_law_771 ?_
  refine W.lcI (wc := w1) (wr := w2) (ws1 := v1) hw (Wd.runVA (rest := []) (As := [.int (xs (i + 1)), .int (xs (i + 2)), .int (xs (i + 3))]) hC hw hh1 rfl (cwV 3 hC.2.2.2.2 gv_X4_sheet rfl rfl rfl (by decide +kernel) ⟨Nat.le_of_ble_eq_true rfl, Nat.le_of_ble_eq_true rfl⟩) (c1 _) rfl hl.1 rfl (Nat.le_of_ble_eq_true rfl) dL_law_772 ⟨Nat.le_refl _, Nat.le_refl _⟩) (fun r u H locs hp hw => ?_)
  refine lv_aload_n hC.1 hC.2.1 dL_law_775 rfl (lv_at hl 2 rfl) ?_
  refine lv_aload_n hC.1 hC.2.1 dL_law_776 rfl (lv_at hl 0 rfl) ?_
  refine lv_iload_n hC.1 hC.2.1 dL_law_777 rfl (lv_at hl 3 rfl) ?_
  refine lv_iconst (v := nI 1) hC.1 hC.2.1 dL_law_778 (by decide) ?_
  refine n_iadd hC dL_law_779 ?_
  refine g_sld hC hw hX hbl hL (by omega) dL_law_780 ?_
  refine lv_aload_n hC.1 hC.2.1 dL_law_781 rfl (lv_at hl 0 rfl) ?_
  refine lv_iload_n hC.1 hC.2.1 dL_law_782 rfl (lv_at hl 3 rfl) ?_
  refine lv_iconst (v := nI 2) hC.1 hC.2.1 dL_law_783 (by decide) ?_
  refine n_iadd hC dL_law_784 ?_
  refine g_sld hC hw hX hbl hL (by omega) dL_law_785 ?_
  refine lv_aload_n hC.1 hC.2.1 dL_law_786 rfl (lv_at hl 0 rfl) ?_
  refine lv_iload_n hC.1 hC.2.1 dL_law_787 rfl (lv_at hl 3 rfl) ?_
  refine lv_iconst (v := nI 3) hC.1 hC.2.1 dL_law_788 (by decide) ?_
  refine n_iadd hC dL_law_789 ?_
  refine g_sld hC hw hX hbl hL (by omega) dL_law_790 ?_
  refine W.lcI (wc := w2) (wr := v1 u) (ws1 := v2) hw (Wd.runVA (rest := [.int r]) (As := [.int (xs (i + 1)), .int (xs (i + 2)), .int (xs (i + 3))]) hC hw hh2 rfl (cwV 3 hC.2.2.2.2 gv_X5_sheet rfl rfl rfl (by decide +kernel) ⟨Nat.le_of_ble_eq_true rfl, Nat.le_of_ble_eq_true rfl⟩) (c2 _) rfl hl.1 rfl (Nat.le_of_ble_eq_true rfl) dL_law_791 ⟨Nat.le_refl _, Nat.le_refl _⟩) (fun r2 u2 H locs hp2 hw => ?_)
  obtain ⟨rfl, hJ2⟩ := hR r u r2 u2 hp hp2
  refine lv_icmp_eq (tgt := 1100) hC.1 hC.2.1 dL_law_794 (by decide) (fun _ => ?_) (fun h9 => absurd rfl h9)
  exact kk _ _ _ _ _ hJ2 hw hl
set_option maxHeartbeats 4000000 in
set_option maxRecDepth 100000 in
theorem law_20 {p : Program} {l : Launch} {e : Env} {s : State} {m : MethodId} {below : List Frame} {meth : Method} {c : Code} {Q : State → Prop} {b L : Nat} {xs : Nat → Int32} {dC : Nat → ClassId} {dI : Nat → Nat → Nat} {cyI cyJ cyZ cyS : ClassId} {ad : Nat → Nat} (hC : CallFix p m c code 4 s #[Value.ref b] lw_tbl RL) (hX : va_X b L xs s s.heap) (hbl : b < s.heap.size) (hL : L ≤ 3072) {i : Nat} (hi : i + 6 ≤ L) (kk : ∀ (w1 w2 : va_W) (H : Heap) (locs : List Loc) (ls : Array Slot), JR cyI cyJ cyZ cyS ad w1 w2 → Wd dC dI (tysA cyI cyJ cyZ cyS) (w1 ++ w2) (fun q : Nat => s.heap.size ≤ q) s H locs → lv_has ls 4 [(0, .ref b), (1, .ref (ad 0)), (2, .ref (ad 40)), (3, .int (nI i))] → W p l e room_1 s m #[Value.ref b] below meth c H locs 600000 7302250 Q (F0 m 1100 ls [])) (w1 w2 : va_W) (H : Heap) (locs : List Loc) (ls : Array Slot) (hJ : JR cyI cyJ cyZ cyS ad w1 w2) (hw : Wd dC dI (tysA cyI cyJ cyZ cyS) (w1 ++ w2) (fun q : Nat => s.heap.size ≤ q) s H locs) (hl : lv_has ls 4 [(0, .ref b), (1, .ref (ad 0)), (2, .ref (ad 40)), (3, .int (nI i))]) : W p l e room_1 s m #[Value.ref b] below meth c H locs 600000 7302250 Q (F0 m 799 ls []) := by
  obtain ⟨⟨f1, hh1⟩, f2, hh2⟩ := hJ.heads
  obtain ⟨S1, S2, p1, v1, p2, v2, c1, c2, hR⟩ := s_lose l dC dI cyI cyJ cyZ cyS ad w1 w2 hJ (xs (i + 1))
  refine lv_aload_n hC.1 hC.2.1 dL_law_799 rfl (lv_at hl 1 rfl) ?_
  refine lv_aload_n hC.1 hC.2.1 dL_law_800 rfl (lv_at hl 0 rfl) ?_
  refine lv_iload_n hC.1 hC.2.1 dL_law_801 rfl (lv_at hl 3 rfl) ?_
  refine lv_iconst (v := nI 1) hC.1 hC.2.1 dL_law_802 (by decide) ?_
  refine n_iadd hC dL_law_803 ?_
  refine g_sld hC hw hX hbl hL (by omega) dL_law_804 ?_
  refine W.lcI (wc := w1) (wr := w2) (ws1 := v1) hw (Wd.runVA (rest := []) (As := [.int (xs (i + 1))]) hC hw hh1 rfl (cwV 1 hC.2.2.2.2 gv_X4_lose rfl rfl rfl (by decide +kernel) ⟨Nat.le_of_ble_eq_true rfl, Nat.le_of_ble_eq_true rfl⟩) (c1 _) rfl hl.1 rfl (Nat.le_of_ble_eq_true rfl) dL_law_805 ⟨Nat.le_refl _, Nat.le_refl _⟩) (fun r u H locs hp hw => ?_)
  refine lv_aload_n hC.1 hC.2.1 dL_law_808 rfl (lv_at hl 2 rfl) ?_
  refine lv_aload_n hC.1 hC.2.1 dL_law_809 rfl (lv_at hl 0 rfl) ?_
  refine lv_iload_n hC.1 hC.2.1 dL_law_810 rfl (lv_at hl 3 rfl) ?_
  refine lv_iconst (v := nI 1) hC.1 hC.2.1 dL_law_811 (by decide) ?_
  refine n_iadd hC dL_law_812 ?_
  refine g_sld hC hw hX hbl hL (by omega) dL_law_813 ?_
  refine W.lcI (wc := w2) (wr := v1 u) (ws1 := v2) hw (Wd.runVA (rest := [.int r]) (As := [.int (xs (i + 1))]) hC hw hh2 rfl (cwV 1 hC.2.2.2.2 gv_X5_lose rfl rfl rfl (by decide +kernel) ⟨Nat.le_of_ble_eq_true rfl, Nat.le_of_ble_eq_true rfl⟩) (c2 _) rfl hl.1 rfl (Nat.le_of_ble_eq_true rfl) dL_law_814 ⟨Nat.le_refl _, Nat.le_refl _⟩) (fun r2 u2 H locs hp2 hw => ?_)
  obtain ⟨rfl, hJ2⟩ := hR r u r2 u2 hp hp2
  refine lv_icmp_eq (tgt := 1100) hC.1 hC.2.1 dL_law_817 (by decide) (fun _ => ?_) (fun h9 => absurd rfl h9)
  exact kk _ _ _ _ _ hJ2 hw hl
set_option maxHeartbeats 4000000 in
set_option maxRecDepth 100000 in
theorem law_21 {p : Program} {l : Launch} {e : Env} {s : State} {m : MethodId} {below : List Frame} {meth : Method} {c : Code} {Q : State → Prop} {b L : Nat} {xs : Nat → Int32} {dC : Nat → ClassId} {dI : Nat → Nat → Nat} {cyI cyJ cyZ cyS : ClassId} {ad : Nat → Nat} (hC : CallFix p m c code 4 s #[Value.ref b] lw_tbl RL) (hX : va_X b L xs s s.heap) (hbl : b < s.heap.size) (hL : L ≤ 3072) {i : Nat} (hi : i + 6 ≤ L) (kk : ∀ (w1 w2 : va_W) (H : Heap) (locs : List Loc) (ls : Array Slot), JR cyI cyJ cyZ cyS ad w1 w2 → Wd dC dI (tysA cyI cyJ cyZ cyS) (w1 ++ w2) (fun q : Nat => s.heap.size ≤ q) s H locs → lv_has ls 4 [(0, .ref b), (1, .ref (ad 0)), (2, .ref (ad 40)), (3, .int (nI i))] → W p l e room_1 s m #[Value.ref b] below meth c H locs 600000 7302250 Q (F0 m 1100 ls [])) (w1 w2 : va_W) (H : Heap) (locs : List Loc) (ls : Array Slot) (hJ : JR cyI cyJ cyZ cyS ad w1 w2) (hw : Wd dC dI (tysA cyI cyJ cyZ cyS) (w1 ++ w2) (fun q : Nat => s.heap.size ≤ q) s H locs) (hl : lv_has ls 4 [(0, .ref b), (1, .ref (ad 0)), (2, .ref (ad 40)), (3, .int (nI i))]) : W p l e room_1 s m #[Value.ref b] below meth c H locs 600000 7302250 Q (F0 m 822 ls []) := by
  obtain ⟨⟨f1, hh1⟩, f2, hh2⟩ := hJ.heads
  obtain ⟨S1, S2, p1, v1, p2, v2, c1, c2, hR⟩ := s_put l dC dI cyI cyJ cyZ cyS ad w1 w2 hJ (xs (i + 1)) (xs (i + 2)) (xs (i + 3))
  refine lv_aload_n hC.1 hC.2.1 dL_law_822 rfl (lv_at hl 1 rfl) ?_
  refine lv_aload_n hC.1 hC.2.1 dL_law_823 rfl (lv_at hl 0 rfl) ?_
  refine lv_iload_n hC.1 hC.2.1 dL_law_824 rfl (lv_at hl 3 rfl) ?_
  refine lv_iconst (v := nI 1) hC.1 hC.2.1 dL_law_825 (by decide) ?_
  refine n_iadd hC dL_law_826 ?_
  refine g_sld hC hw hX hbl hL (by omega) dL_law_827 ?_
  refine lv_aload_n hC.1 hC.2.1 dL_law_828 rfl (lv_at hl 0 rfl) ?_
  refine lv_iload_n hC.1 hC.2.1 dL_law_829 rfl (lv_at hl 3 rfl) ?_
  refine lv_iconst (v := nI 2) hC.1 hC.2.1 dL_law_830 (by decide) ?_
  refine n_iadd hC dL_law_831 ?_
  refine g_sld hC hw hX hbl hL (by omega) dL_law_832 ?_
  refine lv_aload_n hC.1 hC.2.1 dL_law_833 rfl (lv_at hl 0 rfl) ?_
  refine lv_iload_n hC.1 hC.2.1 dL_law_834 rfl (lv_at hl 3 rfl) ?_
  refine lv_iconst (v := nI 3) hC.1 hC.2.1 dL_law_835 (by decide) ?_
  refine n_iadd hC dL_law_836 ?_
  refine g_sld hC hw hX hbl hL (by omega) dL_law_837 ?_
  refine W.lcI (wc := w1) (wr := w2) (ws1 := v1) hw (Wd.runVA (rest := []) (As := [.int (xs (i + 1)), .int (xs (i + 2)), .int (xs (i + 3))]) hC hw hh1 rfl (cwV 3 hC.2.2.2.2 gv_X4_put rfl rfl rfl (by decide +kernel) ⟨Nat.le_of_ble_eq_true rfl, Nat.le_of_ble_eq_true rfl⟩) (c1 _) rfl hl.1 rfl (Nat.le_of_ble_eq_true rfl) dL_law_838 ⟨Nat.le_refl _, Nat.le_refl _⟩) (fun r u H locs hp hw => ?_)
  refine lv_aload_n hC.1 hC.2.1 dL_law_841 rfl (lv_at hl 2 rfl) ?_
  refine lv_aload_n hC.1 hC.2.1 dL_law_842 rfl (lv_at hl 0 rfl) ?_
  refine lv_iload_n hC.1 hC.2.1 dL_law_843 rfl (lv_at hl 3 rfl) ?_
  refine lv_iconst (v := nI 1) hC.1 hC.2.1 dL_law_844 (by decide) ?_
  refine n_iadd hC dL_law_845 ?_
  refine g_sld hC hw hX hbl hL (by omega) dL_law_846 ?_
  refine lv_aload_n hC.1 hC.2.1 dL_law_847 rfl (lv_at hl 0 rfl) ?_
  refine lv_iload_n hC.1 hC.2.1 dL_law_848 rfl (lv_at hl 3 rfl) ?_
  refine lv_iconst (v := nI 2) hC.1 hC.2.1 dL_law_849 (by decide) ?_
  refine n_iadd hC dL_law_850 ?_
  refine g_sld hC hw hX hbl hL (by omega) dL_law_851 ?_
  refine lv_aload_n hC.1 hC.2.1 dL_law_852 rfl (lv_at hl 0 rfl) ?_
  refine lv_iload_n hC.1 hC.2.1 dL_law_853 rfl (lv_at hl 3 rfl) ?_
  refine lv_iconst (v := nI 3) hC.1 hC.2.1 dL_law_854 (by decide) ?_
  refine n_iadd hC dL_law_855 ?_
  refine g_sld hC hw hX hbl hL (by omega) dL_law_856 ?_
  refine W.lcI (wc := w2) (wr := v1 u) (ws1 := v2) hw (Wd.runVA (rest := [.int r]) (As := [.int (xs (i + 1)), .int (xs (i + 2)), .int (xs (i + 3))]) hC hw hh2 rfl (cwV 3 hC.2.2.2.2 gv_X5_put rfl rfl rfl (by decide +kernel) ⟨Nat.le_of_ble_eq_true rfl, Nat.le_of_ble_eq_true rfl⟩) (c2 _) rfl hl.1 rfl (Nat.le_of_ble_eq_true rfl) dL_law_857 ⟨Nat.le_refl _, Nat.le_refl _⟩) (fun r2 u2 H locs hp2 hw => ?_)
  obtain ⟨rfl, hJ2⟩ := hR r u r2 u2 hp hp2
  refine lv_icmp_eq (tgt := 1100) hC.1 hC.2.1 dL_law_860 (by decide) (fun _ => ?_) (fun h9 => absurd rfl h9)
  exact kk _ _ _ _ _ hJ2 hw hl
set_option maxHeartbeats 4000000 in
set_option maxRecDepth 100000 in
theorem law_22 {p : Program} {l : Launch} {e : Env} {s : State} {m : MethodId} {below : List Frame} {meth : Method} {c : Code} {Q : State → Prop} {b L : Nat} {xs : Nat → Int32} {dC : Nat → ClassId} {dI : Nat → Nat → Nat} {cyI cyJ cyZ cyS : ClassId} {ad : Nat → Nat} (hC : CallFix p m c code 4 s #[Value.ref b] lw_tbl RL) (hX : va_X b L xs s s.heap) (hbl : b < s.heap.size) (hL : L ≤ 3072) {i : Nat} (hi : i + 6 ≤ L) (kk : ∀ (w1 w2 : va_W) (H : Heap) (locs : List Loc) (ls : Array Slot), JR cyI cyJ cyZ cyS ad w1 w2 → Wd dC dI (tysA cyI cyJ cyZ cyS) (w1 ++ w2) (fun q : Nat => s.heap.size ≤ q) s H locs → lv_has ls 4 [(0, .ref b), (1, .ref (ad 0)), (2, .ref (ad 40)), (3, .int (nI i))] → W p l e room_1 s m #[Value.ref b] below meth c H locs 600000 7302250 Q (F0 m 1100 ls [])) (w1 w2 : va_W) (H : Heap) (locs : List Loc) (ls : Array Slot) (hJ : JR cyI cyJ cyZ cyS ad w1 w2) (hw : Wd dC dI (tysA cyI cyJ cyZ cyS) (w1 ++ w2) (fun q : Nat => s.heap.size ≤ q) s H locs) (hl : lv_has ls 4 [(0, .ref b), (1, .ref (ad 0)), (2, .ref (ad 40)), (3, .int (nI i))]) : W p l e room_1 s m #[Value.ref b] below meth c H locs 600000 7302250 Q (F0 m 865 ls []) := by
  obtain ⟨⟨f1, hh1⟩, f2, hh2⟩ := hJ.heads
  obtain ⟨S1, S2, p1, v1, p2, v2, c1, c2, hR⟩ := s_cell l dC dI cyI cyJ cyZ cyS ad w1 w2 hJ (xs (i + 1)) (xs (i + 2)) (xs (i + 3))
  refine lv_aload_n hC.1 hC.2.1 dL_law_865 rfl (lv_at hl 1 rfl) ?_
  refine lv_aload_n hC.1 hC.2.1 dL_law_866 rfl (lv_at hl 0 rfl) ?_
  refine lv_iload_n hC.1 hC.2.1 dL_law_867 rfl (lv_at hl 3 rfl) ?_
  refine lv_iconst (v := nI 1) hC.1 hC.2.1 dL_law_868 (by decide) ?_
  refine n_iadd hC dL_law_869 ?_
  refine g_sld hC hw hX hbl hL (by omega) dL_law_870 ?_
  refine lv_aload_n hC.1 hC.2.1 dL_law_871 rfl (lv_at hl 0 rfl) ?_
  refine lv_iload_n hC.1 hC.2.1 dL_law_872 rfl (lv_at hl 3 rfl) ?_
  refine lv_iconst (v := nI 2) hC.1 hC.2.1 dL_law_873 (by decide) ?_
  refine n_iadd hC dL_law_874 ?_
  refine g_sld hC hw hX hbl hL (by omega) dL_law_875 ?_
  refine lv_aload_n hC.1 hC.2.1 dL_law_876 rfl (lv_at hl 0 rfl) ?_
  refine lv_iload_n hC.1 hC.2.1 dL_law_877 rfl (lv_at hl 3 rfl) ?_
  refine lv_iconst (v := nI 3) hC.1 hC.2.1 dL_law_878 (by decide) ?_
  refine n_iadd hC dL_law_879 ?_
  refine g_sld hC hw hX hbl hL (by omega) dL_law_880 ?_
  refine W.lcL (wc := w1) (wr := w2) (ws1 := v1) hw (Wd.runVA (rest := []) (As := [.int (xs (i + 1)), .int (xs (i + 2)), .int (xs (i + 3))]) hC hw hh1 rfl (cwV 3 hC.2.2.2.2 gv_X4_cell rfl rfl rfl (by decide +kernel) ⟨Nat.le_of_ble_eq_true rfl, Nat.le_of_ble_eq_true rfl⟩) (c1 _) rfl hl.1 rfl (Nat.le_of_ble_eq_true rfl) dL_law_881 ⟨Nat.le_refl _, Nat.le_refl _⟩) (fun r u H locs hp hw => ?_)
  refine lv_aload_n hC.1 hC.2.1 dL_law_884 rfl (lv_at hl 2 rfl) ?_
  refine lv_aload_n hC.1 hC.2.1 dL_law_885 rfl (lv_at hl 0 rfl) ?_
  refine lv_iload_n hC.1 hC.2.1 dL_law_886 rfl (lv_at hl 3 rfl) ?_
  refine lv_iconst (v := nI 1) hC.1 hC.2.1 dL_law_887 (by decide) ?_
  refine n_iadd hC dL_law_888 ?_
  refine g_sld hC hw hX hbl hL (by omega) dL_law_889 ?_
  refine lv_aload_n hC.1 hC.2.1 dL_law_890 rfl (lv_at hl 0 rfl) ?_
  refine lv_iload_n hC.1 hC.2.1 dL_law_891 rfl (lv_at hl 3 rfl) ?_
  refine lv_iconst (v := nI 2) hC.1 hC.2.1 dL_law_892 (by decide) ?_
  refine n_iadd hC dL_law_893 ?_
  refine g_sld hC hw hX hbl hL (by omega) dL_law_894 ?_
  refine lv_aload_n hC.1 hC.2.1 dL_law_895 rfl (lv_at hl 0 rfl) ?_
  refine lv_iload_n hC.1 hC.2.1 dL_law_896 rfl (lv_at hl 3 rfl) ?_
  refine lv_iconst (v := nI 3) hC.1 hC.2.1 dL_law_897 (by decide) ?_
  refine n_iadd hC dL_law_898 ?_
  refine g_sld hC hw hX hbl hL (by omega) dL_law_899 ?_
  refine W.lcL (wc := w2) (wr := v1 u) (ws1 := v2) hw (Wd.runVA (rest := [.long r]) (As := [.int (xs (i + 1)), .int (xs (i + 2)), .int (xs (i + 3))]) hC hw hh2 rfl (cwV 3 hC.2.2.2.2 gv_X5_cell rfl rfl rfl (by decide +kernel) ⟨Nat.le_of_ble_eq_true rfl, Nat.le_of_ble_eq_true rfl⟩) (c2 _) rfl hl.1 rfl (Nat.le_of_ble_eq_true rfl) dL_law_900 ⟨Nat.le_refl _, Nat.le_refl _⟩) (fun r2 u2 H locs hp2 hw => ?_)
  obtain ⟨rfl, hJ2⟩ := hR r u r2 u2 hp hp2
  refine W.lcmp hC.1 hC.2.1 dL_law_903 ?_
  refine lv_if_eq (tgt := 1100) hC.1 hC.2.1 dL_law_904 (by decide) (fun _ => ?_) (fun h9 => absurd ((lg_cmp_eq _ _).mpr rfl) h9)
  exact kk _ _ _ _ _ hJ2 hw hl
set_option maxHeartbeats 4000000 in
set_option maxRecDepth 100000 in
theorem law_23 {p : Program} {l : Launch} {e : Env} {s : State} {m : MethodId} {below : List Frame} {meth : Method} {c : Code} {Q : State → Prop} {b L : Nat} {xs : Nat → Int32} {dC : Nat → ClassId} {dI : Nat → Nat → Nat} {cyI cyJ cyZ cyS : ClassId} {ad : Nat → Nat} (hC : CallFix p m c code 4 s #[Value.ref b] lw_tbl RL) (hX : va_X b L xs s s.heap) (hbl : b < s.heap.size) (hL : L ≤ 3072) {i : Nat} (hi : i + 6 ≤ L) (kk : ∀ (w1 w2 : va_W) (H : Heap) (locs : List Loc) (ls : Array Slot), JR cyI cyJ cyZ cyS ad w1 w2 → Wd dC dI (tysA cyI cyJ cyZ cyS) (w1 ++ w2) (fun q : Nat => s.heap.size ≤ q) s H locs → lv_has ls 4 [(0, .ref b), (1, .ref (ad 0)), (2, .ref (ad 40)), (3, .int (nI i))] → W p l e room_1 s m #[Value.ref b] below meth c H locs 600000 7302250 Q (F0 m 1100 ls [])) (w1 w2 : va_W) (H : Heap) (locs : List Loc) (ls : Array Slot) (hJ : JR cyI cyJ cyZ cyS ad w1 w2) (hw : Wd dC dI (tysA cyI cyJ cyZ cyS) (w1 ++ w2) (fun q : Nat => s.heap.size ≤ q) s H locs) (hl : lv_has ls 4 [(0, .ref b), (1, .ref (ad 0)), (2, .ref (ad 40)), (3, .int (nI i))]) : W p l e room_1 s m #[Value.ref b] below meth c H locs 600000 7302250 Q (F0 m 909 ls []) := by
  obtain ⟨⟨f1, hh1⟩, f2, hh2⟩ := hJ.heads
  obtain ⟨S1, S2, p1, v1, p2, v2, c1, c2, hR⟩ := s_copy l dC dI cyI cyJ cyZ cyS ad w1 w2 hJ (xs (i + 1)) (xs (i + 2)) (xs (i + 3)) (xs (i + 4)) (xs (i + 5))
  refine lv_aload_n hC.1 hC.2.1 dL_law_909 rfl (lv_at hl 1 rfl) ?_
  refine lv_aload_n hC.1 hC.2.1 dL_law_910 rfl (lv_at hl 0 rfl) ?_
  refine lv_iload_n hC.1 hC.2.1 dL_law_911 rfl (lv_at hl 3 rfl) ?_
  refine lv_iconst (v := nI 1) hC.1 hC.2.1 dL_law_912 (by decide) ?_
  refine n_iadd hC dL_law_913 ?_
  refine g_sld hC hw hX hbl hL (by omega) dL_law_914 ?_
  refine lv_aload_n hC.1 hC.2.1 dL_law_915 rfl (lv_at hl 0 rfl) ?_
  refine lv_iload_n hC.1 hC.2.1 dL_law_916 rfl (lv_at hl 3 rfl) ?_
  refine lv_iconst (v := nI 2) hC.1 hC.2.1 dL_law_917 (by decide) ?_
  refine n_iadd hC dL_law_918 ?_
  refine g_sld hC hw hX hbl hL (by omega) dL_law_919 ?_
  refine lv_aload_n hC.1 hC.2.1 dL_law_920 rfl (lv_at hl 0 rfl) ?_
  refine lv_iload_n hC.1 hC.2.1 dL_law_921 rfl (lv_at hl 3 rfl) ?_
  refine lv_iconst (v := nI 3) hC.1 hC.2.1 dL_law_922 (by decide) ?_
  refine n_iadd hC dL_law_923 ?_
  refine g_sld hC hw hX hbl hL (by omega) dL_law_924 ?_
  refine lv_aload_n hC.1 hC.2.1 dL_law_925 rfl (lv_at hl 0 rfl) ?_
  refine lv_iload_n hC.1 hC.2.1 dL_law_926 rfl (lv_at hl 3 rfl) ?_
  refine lv_iconst (v := nI 4) hC.1 hC.2.1 dL_law_927 (by decide) ?_
  refine n_iadd hC dL_law_928 ?_
  refine g_sld hC hw hX hbl hL (by omega) dL_law_929 ?_
  refine lv_aload_n hC.1 hC.2.1 dL_law_930 rfl (lv_at hl 0 rfl) ?_
  refine lv_iload_n hC.1 hC.2.1 dL_law_931 rfl (lv_at hl 3 rfl) ?_
  refine lv_iconst (v := nI 5) hC.1 hC.2.1 dL_law_932 (by decide) ?_
  refine n_iadd hC dL_law_933 ?_
  refine g_sld hC hw hX hbl hL (by omega) dL_law_934 ?_
  refine W.lcI (wc := w1) (wr := w2) (ws1 := v1) hw (Wd.runVA (rest := []) (As := [.int (xs (i + 1)), .int (xs (i + 2)), .int (xs (i + 3)), .int (xs (i + 4)), .int (xs (i + 5))]) hC hw hh1 rfl (cwV 5 hC.2.2.2.2 gv_X4_copy rfl rfl rfl (by decide +kernel) ⟨Nat.le_of_ble_eq_true rfl, Nat.le_of_ble_eq_true rfl⟩) (c1 _) rfl hl.1 rfl (Nat.le_of_ble_eq_true rfl) dL_law_935 ⟨Nat.le_refl _, Nat.le_refl _⟩) (fun r u H locs hp hw => ?_)
  refine lv_aload_n hC.1 hC.2.1 dL_law_938 rfl (lv_at hl 2 rfl) ?_
  refine lv_aload_n hC.1 hC.2.1 dL_law_939 rfl (lv_at hl 0 rfl) ?_
  refine lv_iload_n hC.1 hC.2.1 dL_law_940 rfl (lv_at hl 3 rfl) ?_
  refine lv_iconst (v := nI 1) hC.1 hC.2.1 dL_law_941 (by decide) ?_
  refine n_iadd hC dL_law_942 ?_
  refine g_sld hC hw hX hbl hL (by omega) dL_law_943 ?_
  refine lv_aload_n hC.1 hC.2.1 dL_law_944 rfl (lv_at hl 0 rfl) ?_
  refine lv_iload_n hC.1 hC.2.1 dL_law_945 rfl (lv_at hl 3 rfl) ?_
  refine lv_iconst (v := nI 2) hC.1 hC.2.1 dL_law_946 (by decide) ?_
  refine n_iadd hC dL_law_947 ?_
  refine g_sld hC hw hX hbl hL (by omega) dL_law_948 ?_
  refine lv_aload_n hC.1 hC.2.1 dL_law_949 rfl (lv_at hl 0 rfl) ?_
  refine lv_iload_n hC.1 hC.2.1 dL_law_950 rfl (lv_at hl 3 rfl) ?_
  refine lv_iconst (v := nI 3) hC.1 hC.2.1 dL_law_951 (by decide) ?_
  refine n_iadd hC dL_law_952 ?_
  refine g_sld hC hw hX hbl hL (by omega) dL_law_953 ?_
  refine lv_aload_n hC.1 hC.2.1 dL_law_954 rfl (lv_at hl 0 rfl) ?_
  refine lv_iload_n hC.1 hC.2.1 dL_law_955 rfl (lv_at hl 3 rfl) ?_
  refine lv_iconst (v := nI 4) hC.1 hC.2.1 dL_law_956 (by decide) ?_
  refine n_iadd hC dL_law_957 ?_
  refine g_sld hC hw hX hbl hL (by omega) dL_law_958 ?_
  refine lv_aload_n hC.1 hC.2.1 dL_law_959 rfl (lv_at hl 0 rfl) ?_
  refine lv_iload_n hC.1 hC.2.1 dL_law_960 rfl (lv_at hl 3 rfl) ?_
  refine lv_iconst (v := nI 5) hC.1 hC.2.1 dL_law_961 (by decide) ?_
  refine n_iadd hC dL_law_962 ?_
  refine g_sld hC hw hX hbl hL (by omega) dL_law_963 ?_
  refine W.lcI (wc := w2) (wr := v1 u) (ws1 := v2) hw (Wd.runVA (rest := [.int r]) (As := [.int (xs (i + 1)), .int (xs (i + 2)), .int (xs (i + 3)), .int (xs (i + 4)), .int (xs (i + 5))]) hC hw hh2 rfl (cwV 5 hC.2.2.2.2 gv_X5_copy rfl rfl rfl (by decide +kernel) ⟨Nat.le_of_ble_eq_true rfl, Nat.le_of_ble_eq_true rfl⟩) (c2 _) rfl hl.1 rfl (Nat.le_of_ble_eq_true rfl) dL_law_964 ⟨Nat.le_refl _, Nat.le_refl _⟩) (fun r2 u2 H locs hp2 hw => ?_)
  obtain ⟨rfl, hJ2⟩ := hR r u r2 u2 hp hp2
  refine lv_icmp_eq (tgt := 1100) hC.1 hC.2.1 dL_law_967 (by decide) (fun _ => ?_) (fun h9 => absurd rfl h9)
  exact kk _ _ _ _ _ hJ2 hw hl
set_option maxHeartbeats 4000000 in
set_option maxRecDepth 100000 in
theorem law_24 {p : Program} {l : Launch} {e : Env} {s : State} {m : MethodId} {below : List Frame} {meth : Method} {c : Code} {Q : State → Prop} {b L : Nat} {xs : Nat → Int32} {dC : Nat → ClassId} {dI : Nat → Nat → Nat} {cyI cyJ cyZ cyS : ClassId} {ad : Nat → Nat} (hC : CallFix p m c code 4 s #[Value.ref b] lw_tbl RL) (hX : va_X b L xs s s.heap) (hbl : b < s.heap.size) (hL : L ≤ 3072) {i : Nat} (hi : i + 6 ≤ L) (kk : ∀ (w1 w2 : va_W) (H : Heap) (locs : List Loc) (ls : Array Slot), JR cyI cyJ cyZ cyS ad w1 w2 → Wd dC dI (tysA cyI cyJ cyZ cyS) (w1 ++ w2) (fun q : Nat => s.heap.size ≤ q) s H locs → lv_has ls 4 [(0, .ref b), (1, .ref (ad 0)), (2, .ref (ad 40)), (3, .int (nI i))] → W p l e room_1 s m #[Value.ref b] below meth c H locs 600000 7302250 Q (F0 m 1100 ls [])) (w1 w2 : va_W) (H : Heap) (locs : List Loc) (ls : Array Slot) (hJ : JR cyI cyJ cyZ cyS ad w1 w2) (hw : Wd dC dI (tysA cyI cyJ cyZ cyS) (w1 ++ w2) (fun q : Nat => s.heap.size ≤ q) s H locs) (hl : lv_has ls 4 [(0, .ref b), (1, .ref (ad 0)), (2, .ref (ad 40)), (3, .int (nI i))]) : W p l e room_1 s m #[Value.ref b] below meth c H locs 600000 7302250 Q (F0 m 972 ls []) := by
  obtain ⟨⟨f1, hh1⟩, f2, hh2⟩ := hJ.heads
  obtain ⟨S1, S2, p1, v1, p2, v2, c1, c2, hR⟩ := s_tell l dC dI cyI cyJ cyZ cyS ad w1 w2 hJ (xs (i + 1))
  refine lv_aload_n hC.1 hC.2.1 dL_law_972 rfl (lv_at hl 1 rfl) ?_
  refine lv_aload_n hC.1 hC.2.1 dL_law_973 rfl (lv_at hl 0 rfl) ?_
  refine lv_iload_n hC.1 hC.2.1 dL_law_974 rfl (lv_at hl 3 rfl) ?_
  refine lv_iconst (v := nI 1) hC.1 hC.2.1 dL_law_975 (by decide) ?_
  refine n_iadd hC dL_law_976 ?_
  refine g_sld hC hw hX hbl hL (by omega) dL_law_977 ?_
  refine W.lcI (wc := w1) (wr := w2) (ws1 := v1) hw (Wd.runVA (rest := []) (As := [.int (xs (i + 1))]) hC hw hh1 rfl (cwV 1 hC.2.2.2.2 gv_X4_tell rfl rfl rfl (by decide +kernel) ⟨Nat.le_of_ble_eq_true rfl, Nat.le_of_ble_eq_true rfl⟩) (c1 _) rfl hl.1 rfl (Nat.le_of_ble_eq_true rfl) dL_law_978 ⟨Nat.le_refl _, Nat.le_refl _⟩) (fun r u H locs hp hw => ?_)
  refine lv_aload_n hC.1 hC.2.1 dL_law_981 rfl (lv_at hl 2 rfl) ?_
  refine lv_aload_n hC.1 hC.2.1 dL_law_982 rfl (lv_at hl 0 rfl) ?_
  refine lv_iload_n hC.1 hC.2.1 dL_law_983 rfl (lv_at hl 3 rfl) ?_
  refine lv_iconst (v := nI 1) hC.1 hC.2.1 dL_law_984 (by decide) ?_
  refine n_iadd hC dL_law_985 ?_
  refine g_sld hC hw hX hbl hL (by omega) dL_law_986 ?_
  refine W.lcI (wc := w2) (wr := v1 u) (ws1 := v2) hw (Wd.runVA (rest := [.int r]) (As := [.int (xs (i + 1))]) hC hw hh2 rfl (cwV 1 hC.2.2.2.2 gv_X5_tell rfl rfl rfl (by decide +kernel) ⟨Nat.le_of_ble_eq_true rfl, Nat.le_of_ble_eq_true rfl⟩) (c2 _) rfl hl.1 rfl (Nat.le_of_ble_eq_true rfl) dL_law_987 ⟨Nat.le_refl _, Nat.le_refl _⟩) (fun r2 u2 H locs hp2 hw => ?_)
  obtain ⟨rfl, hJ2⟩ := hR r u r2 u2 hp hp2
  refine lv_icmp_eq (tgt := 1100) hC.1 hC.2.1 dL_law_990 (by decide) (fun _ => ?_) (fun h9 => absurd rfl h9)
  exact kk _ _ _ _ _ hJ2 hw hl
set_option maxHeartbeats 4000000 in
set_option maxRecDepth 100000 in
theorem law_25 {p : Program} {l : Launch} {e : Env} {s : State} {m : MethodId} {below : List Frame} {meth : Method} {c : Code} {Q : State → Prop} {b L : Nat} {xs : Nat → Int32} {dC : Nat → ClassId} {dI : Nat → Nat → Nat} {cyI cyJ cyZ cyS : ClassId} {ad : Nat → Nat} (hC : CallFix p m c code 4 s #[Value.ref b] lw_tbl RL) (hX : va_X b L xs s s.heap) (hbl : b < s.heap.size) (hL : L ≤ 3072) {i : Nat} (hi : i + 6 ≤ L) (kk : ∀ (w1 w2 : va_W) (H : Heap) (locs : List Loc) (ls : Array Slot), JR cyI cyJ cyZ cyS ad w1 w2 → Wd dC dI (tysA cyI cyJ cyZ cyS) (w1 ++ w2) (fun q : Nat => s.heap.size ≤ q) s H locs → lv_has ls 4 [(0, .ref b), (1, .ref (ad 0)), (2, .ref (ad 40)), (3, .int (nI i))] → W p l e room_1 s m #[Value.ref b] below meth c H locs 600000 7302250 Q (F0 m 1100 ls [])) (w1 w2 : va_W) (H : Heap) (locs : List Loc) (ls : Array Slot) (hJ : JR cyI cyJ cyZ cyS ad w1 w2) (hw : Wd dC dI (tysA cyI cyJ cyZ cyS) (w1 ++ w2) (fun q : Nat => s.heap.size ≤ q) s H locs) (hl : lv_has ls 4 [(0, .ref b), (1, .ref (ad 0)), (2, .ref (ad 40)), (3, .int (nI i))]) : W p l e room_1 s m #[Value.ref b] below meth c H locs 600000 7302250 Q (F0 m 995 ls []) := by
  obtain ⟨⟨f1, hh1⟩, f2, hh2⟩ := hJ.heads
  obtain ⟨S1, S2, p1, v1, p2, v2, c1, c2, hR⟩ := s_hear l dC dI cyI cyJ cyZ cyS ad w1 w2 hJ (xs (i + 1))
  refine lv_aload_n hC.1 hC.2.1 dL_law_995 rfl (lv_at hl 1 rfl) ?_
  refine lv_aload_n hC.1 hC.2.1 dL_law_996 rfl (lv_at hl 0 rfl) ?_
  refine lv_iload_n hC.1 hC.2.1 dL_law_997 rfl (lv_at hl 3 rfl) ?_
  refine lv_iconst (v := nI 1) hC.1 hC.2.1 dL_law_998 (by decide) ?_
  refine n_iadd hC dL_law_999 ?_
  refine g_sld hC hw hX hbl hL (by omega) dL_law_1000 ?_
  refine W.lcI (wc := w1) (wr := w2) (ws1 := v1) hw (Wd.runVA (rest := []) (As := [.int (xs (i + 1))]) hC hw hh1 rfl (cwV 1 hC.2.2.2.2 gv_X4_hear rfl rfl rfl (by decide +kernel) ⟨Nat.le_of_ble_eq_true rfl, Nat.le_of_ble_eq_true rfl⟩) (c1 _) rfl hl.1 rfl (Nat.le_of_ble_eq_true rfl) dL_law_1001 ⟨Nat.le_refl _, Nat.le_refl _⟩) (fun r u H locs hp hw => ?_)
  refine lv_aload_n hC.1 hC.2.1 dL_law_1004 rfl (lv_at hl 2 rfl) ?_
  refine lv_aload_n hC.1 hC.2.1 dL_law_1005 rfl (lv_at hl 0 rfl) ?_
  refine lv_iload_n hC.1 hC.2.1 dL_law_1006 rfl (lv_at hl 3 rfl) ?_
  refine lv_iconst (v := nI 1) hC.1 hC.2.1 dL_law_1007 (by decide) ?_
  refine n_iadd hC dL_law_1008 ?_
  refine g_sld hC hw hX hbl hL (by omega) dL_law_1009 ?_
  refine W.lcI (wc := w2) (wr := v1 u) (ws1 := v2) hw (Wd.runVA (rest := [.int r]) (As := [.int (xs (i + 1))]) hC hw hh2 rfl (cwV 1 hC.2.2.2.2 gv_X5_hear rfl rfl rfl (by decide +kernel) ⟨Nat.le_of_ble_eq_true rfl, Nat.le_of_ble_eq_true rfl⟩) (c2 _) rfl hl.1 rfl (Nat.le_of_ble_eq_true rfl) dL_law_1010 ⟨Nat.le_refl _, Nat.le_refl _⟩) (fun r2 u2 H locs hp2 hw => ?_)
  obtain ⟨rfl, hJ2⟩ := hR r u r2 u2 hp hp2
  refine lv_icmp_eq (tgt := 1100) hC.1 hC.2.1 dL_law_1013 (by decide) (fun _ => ?_) (fun h9 => absurd rfl h9)
  exact kk _ _ _ _ _ hJ2 hw hl
set_option maxHeartbeats 4000000 in
set_option maxRecDepth 100000 in
theorem law_26 {p : Program} {l : Launch} {e : Env} {s : State} {m : MethodId} {below : List Frame} {meth : Method} {c : Code} {Q : State → Prop} {b L : Nat} {xs : Nat → Int32} {dC : Nat → ClassId} {dI : Nat → Nat → Nat} {cyI cyJ cyZ cyS : ClassId} {ad : Nat → Nat} (hC : CallFix p m c code 4 s #[Value.ref b] lw_tbl RL) (hX : va_X b L xs s s.heap) (hbl : b < s.heap.size) (hL : L ≤ 3072) {i : Nat} (hi : i + 6 ≤ L) (kk : ∀ (w1 w2 : va_W) (H : Heap) (locs : List Loc) (ls : Array Slot), JR cyI cyJ cyZ cyS ad w1 w2 → Wd dC dI (tysA cyI cyJ cyZ cyS) (w1 ++ w2) (fun q : Nat => s.heap.size ≤ q) s H locs → lv_has ls 4 [(0, .ref b), (1, .ref (ad 0)), (2, .ref (ad 40)), (3, .int (nI i))] → W p l e room_1 s m #[Value.ref b] below meth c H locs 600000 7302250 Q (F0 m 1100 ls [])) (w1 w2 : va_W) (H : Heap) (locs : List Loc) (ls : Array Slot) (hJ : JR cyI cyJ cyZ cyS ad w1 w2) (hw : Wd dC dI (tysA cyI cyJ cyZ cyS) (w1 ++ w2) (fun q : Nat => s.heap.size ≤ q) s H locs) (hl : lv_has ls 4 [(0, .ref b), (1, .ref (ad 0)), (2, .ref (ad 40)), (3, .int (nI i))]) : W p l e room_1 s m #[Value.ref b] below meth c H locs 600000 7302250 Q (F0 m 1018 ls []) := by
  obtain ⟨⟨f1, hh1⟩, f2, hh2⟩ := hJ.heads
  obtain ⟨S1, S2, p1, v1, p2, v2, c1, c2, hR⟩ := s_as l dC dI cyI cyJ cyZ cyS ad w1 w2 hJ (xs (i + 1)) (xs (i + 2))
  refine lv_aload_n hC.1 hC.2.1 dL_law_1018 rfl (lv_at hl 1 rfl) ?_
  refine lv_aload_n hC.1 hC.2.1 dL_law_1019 rfl (lv_at hl 0 rfl) ?_
  refine lv_iload_n hC.1 hC.2.1 dL_law_1020 rfl (lv_at hl 3 rfl) ?_
  refine lv_iconst (v := nI 1) hC.1 hC.2.1 dL_law_1021 (by decide) ?_
  refine n_iadd hC dL_law_1022 ?_
  refine g_sld hC hw hX hbl hL (by omega) dL_law_1023 ?_
  refine lv_aload_n hC.1 hC.2.1 dL_law_1024 rfl (lv_at hl 0 rfl) ?_
  refine lv_iload_n hC.1 hC.2.1 dL_law_1025 rfl (lv_at hl 3 rfl) ?_
  refine lv_iconst (v := nI 2) hC.1 hC.2.1 dL_law_1026 (by decide) ?_
  refine n_iadd hC dL_law_1027 ?_
  refine g_sld hC hw hX hbl hL (by omega) dL_law_1028 ?_
  refine W.lcI (wc := w1) (wr := w2) (ws1 := v1) hw (Wd.runVA (rest := []) (As := [.int (xs (i + 1)), .int (xs (i + 2))]) hC hw hh1 rfl (cwV 2 hC.2.2.2.2 gv_X4_as rfl rfl rfl (by decide +kernel) ⟨Nat.le_of_ble_eq_true rfl, Nat.le_of_ble_eq_true rfl⟩) (c1 _) rfl hl.1 rfl (Nat.le_of_ble_eq_true rfl) dL_law_1029 ⟨Nat.le_refl _, Nat.le_refl _⟩) (fun r u H locs hp hw => ?_)
  refine lv_aload_n hC.1 hC.2.1 dL_law_1032 rfl (lv_at hl 2 rfl) ?_
  refine lv_aload_n hC.1 hC.2.1 dL_law_1033 rfl (lv_at hl 0 rfl) ?_
  refine lv_iload_n hC.1 hC.2.1 dL_law_1034 rfl (lv_at hl 3 rfl) ?_
  refine lv_iconst (v := nI 1) hC.1 hC.2.1 dL_law_1035 (by decide) ?_
  refine n_iadd hC dL_law_1036 ?_
  refine g_sld hC hw hX hbl hL (by omega) dL_law_1037 ?_
  refine lv_aload_n hC.1 hC.2.1 dL_law_1038 rfl (lv_at hl 0 rfl) ?_
  refine lv_iload_n hC.1 hC.2.1 dL_law_1039 rfl (lv_at hl 3 rfl) ?_
  refine lv_iconst (v := nI 2) hC.1 hC.2.1 dL_law_1040 (by decide) ?_
  refine n_iadd hC dL_law_1041 ?_
  refine g_sld hC hw hX hbl hL (by omega) dL_law_1042 ?_
  refine W.lcI (wc := w2) (wr := v1 u) (ws1 := v2) hw (Wd.runVA (rest := [.int r]) (As := [.int (xs (i + 1)), .int (xs (i + 2))]) hC hw hh2 rfl (cwV 2 hC.2.2.2.2 gv_X5_as rfl rfl rfl (by decide +kernel) ⟨Nat.le_of_ble_eq_true rfl, Nat.le_of_ble_eq_true rfl⟩) (c2 _) rfl hl.1 rfl (Nat.le_of_ble_eq_true rfl) dL_law_1043 ⟨Nat.le_refl _, Nat.le_refl _⟩) (fun r2 u2 H locs hp2 hw => ?_)
  obtain ⟨rfl, hJ2⟩ := hR r u r2 u2 hp hp2
  refine lv_icmp_eq (tgt := 1100) hC.1 hC.2.1 dL_law_1046 (by decide) (fun _ => ?_) (fun h9 => absurd rfl h9)
  exact kk _ _ _ _ _ hJ2 hw hl
set_option maxHeartbeats 4000000 in
set_option maxRecDepth 100000 in
theorem law_27 {p : Program} {l : Launch} {e : Env} {s : State} {m : MethodId} {below : List Frame} {meth : Method} {c : Code} {Q : State → Prop} {b L : Nat} {xs : Nat → Int32} {dC : Nat → ClassId} {dI : Nat → Nat → Nat} {cyI cyJ cyZ cyS : ClassId} {ad : Nat → Nat} (hC : CallFix p m c code 4 s #[Value.ref b] lw_tbl RL) (hX : va_X b L xs s s.heap) (hbl : b < s.heap.size) (hL : L ≤ 3072) {i : Nat} (hi : i + 6 ≤ L) (kk : ∀ (w1 w2 : va_W) (H : Heap) (locs : List Loc) (ls : Array Slot), JR cyI cyJ cyZ cyS ad w1 w2 → Wd dC dI (tysA cyI cyJ cyZ cyS) (w1 ++ w2) (fun q : Nat => s.heap.size ≤ q) s H locs → lv_has ls 4 [(0, .ref b), (1, .ref (ad 0)), (2, .ref (ad 40)), (3, .int (nI i))] → W p l e room_1 s m #[Value.ref b] below meth c H locs 600000 7302250 Q (F0 m 1100 ls [])) (w1 w2 : va_W) (H : Heap) (locs : List Loc) (ls : Array Slot) (hJ : JR cyI cyJ cyZ cyS ad w1 w2) (hw : Wd dC dI (tysA cyI cyJ cyZ cyS) (w1 ++ w2) (fun q : Nat => s.heap.size ≤ q) s H locs) (hl : lv_has ls 4 [(0, .ref b), (1, .ref (ad 0)), (2, .ref (ad 40)), (3, .int (nI i))]) : W p l e room_1 s m #[Value.ref b] below meth c H locs 600000 7302250 Q (F0 m 1051 ls []) := by
  obtain ⟨⟨f1, hh1⟩, f2, hh2⟩ := hJ.heads
  obtain ⟨S1, S2, p1, v1, p2, v2, c1, c2, hR⟩ := s_trace l dC dI cyI cyJ cyZ cyS ad w1 w2 hJ 
  refine lv_aload_n hC.1 hC.2.1 dL_law_1051 rfl (lv_at hl 1 rfl) ?_
  refine W.lcI (wc := w1) (wr := w2) (ws1 := v1) hw (Wd.runVA (rest := []) (As := []) hC hw hh1 rfl (cwV 0 hC.2.2.2.2 gv_X4_trace rfl rfl rfl (by decide +kernel) ⟨Nat.le_of_ble_eq_true rfl, Nat.le_of_ble_eq_true rfl⟩) (c1 _) rfl hl.1 rfl (Nat.le_of_ble_eq_true rfl) dL_law_1052 ⟨Nat.le_refl _, Nat.le_refl _⟩) (fun r u H locs hp hw => ?_)
  refine lv_aload_n hC.1 hC.2.1 dL_law_1055 rfl (lv_at hl 2 rfl) ?_
  refine W.lcI (wc := w2) (wr := v1 u) (ws1 := v2) hw (Wd.runVA (rest := [.int r]) (As := []) hC hw hh2 rfl (cwV 0 hC.2.2.2.2 gv_X5_trace rfl rfl rfl (by decide +kernel) ⟨Nat.le_of_ble_eq_true rfl, Nat.le_of_ble_eq_true rfl⟩) (c2 _) rfl hl.1 rfl (Nat.le_of_ble_eq_true rfl) dL_law_1056 ⟨Nat.le_refl _, Nat.le_refl _⟩) (fun r2 u2 H locs hp2 hw => ?_)
  obtain ⟨rfl, hJ2⟩ := hR r u r2 u2 hp hp2
  refine lv_icmp_eq (tgt := 1100) hC.1 hC.2.1 dL_law_1059 (by decide) (fun _ => ?_) (fun h9 => absurd rfl h9)
  exact kk _ _ _ _ _ hJ2 hw hl
set_option maxHeartbeats 4000000 in
set_option maxRecDepth 100000 in
theorem law_28 {p : Program} {l : Launch} {e : Env} {s : State} {m : MethodId} {below : List Frame} {meth : Method} {c : Code} {Q : State → Prop} {b L : Nat} {xs : Nat → Int32} {dC : Nat → ClassId} {dI : Nat → Nat → Nat} {cyI cyJ cyZ cyS : ClassId} {ad : Nat → Nat} (hC : CallFix p m c code 4 s #[Value.ref b] lw_tbl RL) (hX : va_X b L xs s s.heap) (hbl : b < s.heap.size) (hL : L ≤ 3072) {i : Nat} (hi : i + 6 ≤ L) (kk : ∀ (w1 w2 : va_W) (H : Heap) (locs : List Loc) (ls : Array Slot), JR cyI cyJ cyZ cyS ad w1 w2 → Wd dC dI (tysA cyI cyJ cyZ cyS) (w1 ++ w2) (fun q : Nat => s.heap.size ≤ q) s H locs → lv_has ls 4 [(0, .ref b), (1, .ref (ad 0)), (2, .ref (ad 40)), (3, .int (nI i))] → W p l e room_1 s m #[Value.ref b] below meth c H locs 600000 7302250 Q (F0 m 1100 ls [])) (w1 w2 : va_W) (H : Heap) (locs : List Loc) (ls : Array Slot) (hJ : JR cyI cyJ cyZ cyS ad w1 w2) (hw : Wd dC dI (tysA cyI cyJ cyZ cyS) (w1 ++ w2) (fun q : Nat => s.heap.size ≤ q) s H locs) (hl : lv_has ls 4 [(0, .ref b), (1, .ref (ad 0)), (2, .ref (ad 40)), (3, .int (nI i))]) : W p l e room_1 s m #[Value.ref b] below meth c H locs 600000 7302250 Q (F0 m 1064 ls []) := by
  obtain ⟨⟨f1, hh1⟩, f2, hh2⟩ := hJ.heads
  obtain ⟨S1, S2, p1, v1, p2, v2, c1, c2, hR⟩ := s_fault l dC dI cyI cyJ cyZ cyS ad w1 w2 hJ 
  refine lv_aload_n hC.1 hC.2.1 dL_law_1064 rfl (lv_at hl 1 rfl) ?_
  refine W.lcI (wc := w1) (wr := w2) (ws1 := v1) hw (Wd.runVA (rest := []) (As := []) hC hw hh1 rfl (cwV 0 hC.2.2.2.2 gv_X4_fault rfl rfl rfl (by decide +kernel) ⟨Nat.le_of_ble_eq_true rfl, Nat.le_of_ble_eq_true rfl⟩) (c1 _) rfl hl.1 rfl (Nat.le_of_ble_eq_true rfl) dL_law_1065 ⟨Nat.le_refl _, Nat.le_refl _⟩) (fun r u H locs hp hw => ?_)
  refine lv_aload_n hC.1 hC.2.1 dL_law_1068 rfl (lv_at hl 2 rfl) ?_
  refine W.lcI (wc := w2) (wr := v1 u) (ws1 := v2) hw (Wd.runVA (rest := [.int r]) (As := []) hC hw hh2 rfl (cwV 0 hC.2.2.2.2 gv_X5_fault rfl rfl rfl (by decide +kernel) ⟨Nat.le_of_ble_eq_true rfl, Nat.le_of_ble_eq_true rfl⟩) (c2 _) rfl hl.1 rfl (Nat.le_of_ble_eq_true rfl) dL_law_1069 ⟨Nat.le_refl _, Nat.le_refl _⟩) (fun r2 u2 H locs hp2 hw => ?_)
  obtain ⟨rfl, hJ2⟩ := hR r u r2 u2 hp hp2
  refine lv_icmp_eq (tgt := 1100) hC.1 hC.2.1 dL_law_1072 (by decide) (fun _ => ?_) (fun h9 => absurd rfl h9)
  exact kk _ _ _ _ _ hJ2 hw hl
set_option maxHeartbeats 4000000 in
set_option maxRecDepth 100000 in
theorem law_29 {p : Program} {l : Launch} {e : Env} {s : State} {m : MethodId} {below : List Frame} {meth : Method} {c : Code} {Q : State → Prop} {b L : Nat} {xs : Nat → Int32} {dC : Nat → ClassId} {dI : Nat → Nat → Nat} {cyI cyJ cyZ cyS : ClassId} {ad : Nat → Nat} (hC : CallFix p m c code 4 s #[Value.ref b] lw_tbl RL) (hX : va_X b L xs s s.heap) (hbl : b < s.heap.size) (hL : L ≤ 3072) {i : Nat} (hi : i + 6 ≤ L) (kk : ∀ (w1 w2 : va_W) (H : Heap) (locs : List Loc) (ls : Array Slot), JR cyI cyJ cyZ cyS ad w1 w2 → Wd dC dI (tysA cyI cyJ cyZ cyS) (w1 ++ w2) (fun q : Nat => s.heap.size ≤ q) s H locs → lv_has ls 4 [(0, .ref b), (1, .ref (ad 0)), (2, .ref (ad 40)), (3, .int (nI i))] → W p l e room_1 s m #[Value.ref b] below meth c H locs 600000 7302250 Q (F0 m 1100 ls [])) (w1 w2 : va_W) (H : Heap) (locs : List Loc) (ls : Array Slot) (hJ : JR cyI cyJ cyZ cyS ad w1 w2) (hw : Wd dC dI (tysA cyI cyJ cyZ cyS) (w1 ++ w2) (fun q : Nat => s.heap.size ≤ q) s H locs) (hl : lv_has ls 4 [(0, .ref b), (1, .ref (ad 0)), (2, .ref (ad 40)), (3, .int (nI i))]) : W p l e room_1 s m #[Value.ref b] below meth c H locs 600000 7302250 Q (F0 m 1077 ls []) := by
  obtain ⟨⟨f1, hh1⟩, f2, hh2⟩ := hJ.heads
  obtain ⟨S1, S2, p1, v1, p2, v2, c1, c2, hR⟩ := s_told l dC dI cyI cyJ cyZ cyS ad w1 w2 hJ (xs (i + 1))
  refine lv_aload_n hC.1 hC.2.1 dL_law_1077 rfl (lv_at hl 1 rfl) ?_
  refine lv_aload_n hC.1 hC.2.1 dL_law_1078 rfl (lv_at hl 0 rfl) ?_
  refine lv_iload_n hC.1 hC.2.1 dL_law_1079 rfl (lv_at hl 3 rfl) ?_
  refine lv_iconst (v := nI 1) hC.1 hC.2.1 dL_law_1080 (by decide) ?_
  refine n_iadd hC dL_law_1081 ?_
  refine g_sld hC hw hX hbl hL (by omega) dL_law_1082 ?_
  refine W.lcI (wc := w1) (wr := w2) (ws1 := v1) hw (Wd.runVA (rest := []) (As := [.int (xs (i + 1))]) hC hw hh1 rfl (cwV 1 hC.2.2.2.2 gv_X4_told rfl rfl rfl (by decide +kernel) ⟨Nat.le_of_ble_eq_true rfl, Nat.le_of_ble_eq_true rfl⟩) (c1 _) rfl hl.1 rfl (Nat.le_of_ble_eq_true rfl) dL_law_1083 ⟨Nat.le_refl _, Nat.le_refl _⟩) (fun r u H locs hp hw => ?_)
  refine lv_aload_n hC.1 hC.2.1 dL_law_1086 rfl (lv_at hl 2 rfl) ?_
  refine lv_aload_n hC.1 hC.2.1 dL_law_1087 rfl (lv_at hl 0 rfl) ?_
  refine lv_iload_n hC.1 hC.2.1 dL_law_1088 rfl (lv_at hl 3 rfl) ?_
  refine lv_iconst (v := nI 1) hC.1 hC.2.1 dL_law_1089 (by decide) ?_
  refine n_iadd hC dL_law_1090 ?_
  refine g_sld hC hw hX hbl hL (by omega) dL_law_1091 ?_
  refine W.lcI (wc := w2) (wr := v1 u) (ws1 := v2) hw (Wd.runVA (rest := [.int r]) (As := [.int (xs (i + 1))]) hC hw hh2 rfl (cwV 1 hC.2.2.2.2 gv_X5_told rfl rfl rfl (by decide +kernel) ⟨Nat.le_of_ble_eq_true rfl, Nat.le_of_ble_eq_true rfl⟩) (c2 _) rfl hl.1 rfl (Nat.le_of_ble_eq_true rfl) dL_law_1092 ⟨Nat.le_refl _, Nat.le_refl _⟩) (fun r2 u2 H locs hp2 hw => ?_)
  obtain ⟨rfl, hJ2⟩ := hR r u r2 u2 hp hp2
  refine lv_icmp_eq (tgt := 1100) hC.1 hC.2.1 dL_law_1095 (by decide) (fun _ => ?_) (fun h9 => absurd rfl h9)
  exact kk _ _ _ _ _ hJ2 hw hl
