/-! Constructors: contracts that make cells; rows for new objects and arrays; the tables at the start. -/
theorem tyK_p {s : State} {args : Array Value} {ty : FieldType} (hp : ty = .int ∨ ty = .long ∨ ty = .boolean) (h : (Cond.arrayClass ty).before args s = true) : ∃ cA : ClassId, ArrOfT s cA ty ∧ va_RA s cA ty := by
  obtain ⟨cA, kA, comp, h1, h2, h3⟩ := Cond.arrayClass_spec h
  refine ⟨cA, fun n z => ⟨fun k hk => (by cases hk), kA, h2, comp, h3⟩, ?_⟩
  rcases hp with rfl | rfl | rfl <;> exact h1
theorem tyK_o {s : State} {C : String} (h : va_AO C s) : ∃ cA : ClassId, ArrOfT s cA (.object C) ∧ va_RA s cA (.object C) := by
  obtain ⟨comp, cA, kA, h1, h2, h3, h4, h5⟩ := Cond.arrayOver_spec h
  exact ⟨cA, fun n z => ⟨fun k hk => (by cases hk), kA, h3, comp, h4⟩, kA, comp, h3, h4, h1, h5⟩
def CtK (l : Launch) (y : MethodName) (wds : List Cond) (rm : Room) (dC : Nat → ClassId) (dI : Nat → Nat → Nat) (tys : List (ClassId × FieldType)) (av : List Value) (ws0 : va_W) {S : Type} (post : S → Prop) (ws1 : S → va_W) (mc ms : Nat) : Prop :=
  ∀ sz : Nat, Met l y wds rm (fun a U => cPre dC dI tys av ws0 sz a U ∧ va_AO RX3 U) (va_Qv post (fun u t => cEnd dC dI tys (va_A ws0 sz) (ws1 u) t) (va_A ws0 sz)) mc ms (va_A ws0 sz)
section CTOR
variable {l : Launch} {y : MethodName} {wds wds' : List Cond} {rm : Room} {cc : ByteArray} {maxL : Nat} {dC : Nat → ClassId} {dI : Nat → Nat → Nat} {tys : List (ClassId × FieldType)} {av : List Value} {ws0 : va_W} {S : Type} {ws1 : S → va_W}
theorem CtK.mk {post : S → Prop} {mc ms : Nat} (hy : plainName y.cls = true) (hi : y.name = "<init>") (hw : wds = Cond.code y cc maxL none :: wds') (hn : (lg_sl av).length ≤ maxL)
    (body : ∀ (p : Program) (e : Env) (s : State) (m : MethodId) (args : Array Value) (below : List Frame) (meth : Method) (c : Code) (A : Nat → Prop) (Q : State → Prop) (ls : Array Slot), CallFix p m c cc maxL s args wds y.cls → Wd dC dI tys ws0 A s s.heap [] → lv_has ls maxL (lv_args 0 av) → meth.name = "<init>" → va_AO RX3 s →
      (∀ (H : Heap) (locs : List Loc) (pc : Nat) (ls : Array Slot) (u : S), decode cc pc = .ok (.return_, 1) → post u → Wd dC dI tys (ws1 u) A s H locs → W p l e rm s m args below meth c H locs mc ms Q (F0 m pc ls [])) →
      W p l e rm s m args below meth c s.heap [] 0 0 Q (F0 m 0 ls [])) : CtK l y wds rm dC dI tys av ws0 post ws1 mc ms := by
  intro sz
  refine Met.ofW (cc := cc) (maxL := maxL) (ret := none) hy hw ?_
  intro p e s m args below meth c s₁ B hml hv
  obtain ⟨⟨rfl, hsz, hN, hP, hK, hD0⟩, hO⟩ := hv
  subst hsz
  have hts := atoms_spec (ws := wds) B.pre
  have hown : s.vm.findClass y.cls = some m.cls := findClass_of_methodNamed B.named
  have hl := lv_entry av (n := maxL) hn
  rw [lg_entry_eq]
  exact body p e s m _ below meth c (va_A ws0 s.heap.size) _ _ ⟨B.exec, B.bytes, hml, hown, hts⟩ ⟨hN, hK, hP, hD0.self, va_S.rf, fun q h => Or.inr h⟩ hl ((name_of_methodNamed B.named B.method).1.trans hi) hO (fun H locs pc ls u hdg hp hw => W.vret B.exec B.bytes B.returns (fun t ht hW => ⟨⟨u, rfl, hp, by rw [ht]; exact hw.2.2.1, va_K.moved hW.alike hw.2.1, hw.2.2.2.1⟩, hw.2.2.2.2.1.F ht⟩) hw.2.2.2.2.1.2.2 hdg B.notSynchronized)
end CTOR
section CTOR2
variable {p : Program} {l : Launch} {e : Env} {R : Room} {s : State} {m : MethodId} {args : Array Value} {below : List Frame} {meth : Method} {c : Code} {H : Heap} {locs : List Loc} {cells slots mc ms : Nat} {Q : State → Prop}
  {dC : Nat → ClassId} {dI : Nat → Nat → Nat} {tys : List (ClassId × FieldType)} {ws wc wr : va_W} {A : Nat → Prop} {pc : Nat} {ls : Array Slot} {rest st0 : List Value} {a : Array Value} {S : Type} {ws1 ws2 : S → va_W}
theorem W.ccK {post : S → Prop} (hw : Wd dC dI tys ws A s H locs) (isC isR is2 : List Nat) (hC : isC.map (fun i => ws[i]?) = wc.map some) (hR : isR.map (fun i => ws[i]?) = wr.map some) (hnR : va_nd isR = true) (hdis : ∀ i ∈ isR, i ∉ isC) (hn2 : va_nd is2 = true) (h2 : ∀ u, is2.map (fun i => (wr ++ ws1 u)[i]?) = (ws2 u).map some)
    (hrun : va_Run p l e R s m args below meth c H locs cells slots mc ms (F0 m pc ls st0) rest (va_Qv post (fun u t => cEnd dC dI tys (va_A wc H.size) (ws1 u) t) (va_A wc H.size) a) (va_A wc H.size))
    (kk : ∀ (u : S) (H1 : Heap) (locs1 : List Loc), post u → Wd dC dI tys (ws2 u) A s H1 locs1 → W p l e R s m args below meth c H1 locs1 (cells + mc) (slots + ms) Q (F0 m (pc + 3) ls rest)) : W p l e R s m args below meth c H locs cells slots Q (F0 m pc ls st0) :=
  have hF := va_free hw.2.2.2.1 hw.2.2.2.2.1 hw.2.2.2.2.2 isC hC
  va_callv hrun hw.2.2.2.2.1 (fun q _ h => hF q h) hF (fun u _ H1 locs1 ht _ hp hB _ hk hS => kk u H1 locs1 hp (hw.behind isC isR is2 hC hR hnR hdis hn2 (h2 u) ht hB hk hS))
variable {y : MethodName} {cc bytes : ByteArray} {maxL nL n index : Nat} {wds : List Cond} {rm : Room} {Qc : Array Value → State → Outcome → State → Prop} {Ts : List Cond} {own : String} {b : Addr} {As : List Value}
theorem cPreO.blind {av : List Value} {sz : Nat} : FrameBlind (fun a U => cPre dC dI tys av wc sz a U ∧ va_AO RX3 U) := fun a U g mk q => ⟨cPre.blind a U g mk q.1, va_AO.moved (u := U) (U := U.calling g mk a) (Vm.Alike.refl U.vm) q.2⟩
theorem Wd.runI (hCx : CallFix p m c cc nL s args Ts own) (hw : Wd dC dI tys ws A s H locs) (hO : va_AO RX3 s) (isC : List Nat) (hC : isC.map (fun i => ws[i]?) = wc.map some) (hnC : va_nd isC = true)
    (cw : CallB R s args own index y bytes maxL none wds rm mc ms n ∧ y.name = "<init>" ∧ (Cond.instanceMethod y).before args s = true) (hM : Met l y wds rm (fun a U => cPre dC dI tys (.ref b :: As) wc H.size a U ∧ va_AO RX3 U) Qc mc ms (va_A wc H.size)) (hn : As.length = n) (hsize : ls.size = nL) (hst : st0 = As.reverse ++ .ref b :: rest) (hr : (rest.map fun v => v.category).sum ≤ 8) (hdg : decode cc pc = .ok (.invokespecial index, 3)) (hf : cells + mc ≤ R.cells ∧ slots + ms ≤ R.slots) :
    va_Run p l e R s m args below meth c H locs cells slots mc ms (F0 m pc ls st0) rest (Qc (Value.ref b :: As).toArray) (va_A wc H.size) :=
  va_runI hCx hM cw ⟨cPreO.blind, fun U hU hW => ⟨hw.pre isC hC hnC U hU hW, va_AO.moved hW.alike hO⟩⟩ rfl hn hsize hst (lv_room (pc := 0) (ls := #[]) (rest := []) (m := m) hr) hdg hf
theorem Wd.runIN {host : String} (hCx : CallFix p m c cc nL s args Ts own) (hw : Wd dC dI tys ws A s H locs) (hO : va_AO RX3 s) (isC : List Nat) (hC : isC.map (fun i => ws[i]?) = wc.map some) (hnC : va_nd isC = true)
    (cw : va_CN R s args own index y host bytes maxL none wds rm mc ms n ∧ y.name = "<init>" ∧ (Cond.instanceMethod y).before args s = true) (hM : Met l y wds rm (fun a U => cPre dC dI tys (.ref b :: As) wc H.size a U ∧ va_AO RX3 U) Qc mc ms (va_A wc H.size)) (hn : As.length = n) (hsize : ls.size = nL) (hst : st0 = As.reverse ++ .ref b :: rest) (hr : (rest.map fun v => v.category).sum ≤ 8) (hdg : decode cc pc = .ok (.invokespecial index, 3)) (hf : cells + mc ≤ R.cells ∧ slots + ms ≤ R.slots) :
    va_Run p l e R s m args below meth c H locs cells slots mc ms (F0 m pc ls st0) rest (Qc (Value.ref b :: As).toArray) (va_A wc H.size) :=
  va_runIN hCx hM cw ⟨cPreO.blind, fun U hU hW => ⟨hw.pre isC hC hnC U hU hW, va_AO.moved hW.alike hO⟩⟩ rfl hn hsize hst (lv_room (pc := 0) (ls := #[]) (rest := []) (m := m) hr) hdg hf
theorem g_objInit (hC : CallFix p m c cc nL s args Ts own) {a0 : Addr} (h1 : Cond.methodLink own index Lib.objectInit ∈ Ts) (h2 : Cond.instanceMethod Lib.objectInit ∈ Ts) (h3 : Cond.code Lib.objectInit ⟨#[0xb1]⟩ 1 none ∈ Ts) (hls : ls.size = nL) (hdg : decode cc pc = .ok (.invokespecial index, 3)) (hframes : 1 ≤ R.frames) (hlocals : (rest.map fun v => v.category).sum + 12 ≤ R.locals)
    (kk : W p l e R s m args below meth c H locs cells slots Q (F0 m (pc + 3) ls rest)) : W p l e R s m args below meth c H locs cells slots Q (F0 m pc ls (.ref a0 :: rest)) :=
  W.objInit hC.1 hC.2.1 hC.2.2.2.1 (hC.2.2.2.2 _ h1) (hC.2.2.2.2 _ h2) (hC.2.2.2.2 _ h3) rfl (by rw [hC.2.2.1]; exact hls) rfl hdg hframes (by show 2 * 0 + _ + 12 ≤ _; omega) kk
theorem g_putF (hC : CallFix p m c cc nL s args Ts own) (hw : Wd dC dI tys ws A s H locs) (hin2 : meth.name = "<init>") {C : String} {T : u_T} {N ci : Nat} {a0 : Addr} (hin : ∀ w ∈ u_ws C T N, w ∈ Ts) (ty0 : Nat → FieldType) (hty : ∀ k, k < N → parseFieldDescriptor (T k).2.2.1 = some (ty0 k)) (hnm : ∀ a, a < N → ∀ b, b < N → a ≠ b → (T a).2.1 ≠ (T b).2.1) (q0 : Nat) {fs : List Value} (he : ws[q0]? = some (a0, .inr (ci, fs))) (hc : vwCl[ci]? = some (C, T, N)) (k : Nat) (hk : k < N) (hdecl : (T k).1 = own) (hlink : Cond.fieldLink own index (T k).1 (T k).2.1 (T k).2.2.1 ∈ Ts) (hfin : (T k).2.2.2 = true) {v : Value} (hn : narrow (ty0 k) v = v) (hfit : fits (ty0 k) v = true) (hl : k < fs.length) (hdg : decode cc pc = .ok (.putfield index, 3))
    (kk : ∀ (H : Heap) (locs : List Loc), Wd dC dI tys (ws.set q0 (a0, .inr (ci, fs.set k v))) A s H locs → W p l e R s m args below meth c H locs cells slots Q (F0 m (pc + 3) ls rest)) : W p l e R s m args below meth c H locs cells slots Q (F0 m pc ls (v :: .ref a0 :: rest)) :=
  va_putF hC.1 hC.2.1 hC.2.2.2.2 hin ty0 hty hnm hC.2.2.2.1 hw.2.1 hw.2.2.1 hw.2.2.2.1 hw.2.2.2.2.1 q0 he hc k hk (hC.2.2.2.2 _ hlink) (fun _ h => h) hfin hin2 hdecl (hty k hk) hn hfit hl hdg (fun H1 locs1 hP hD hS => kk H1 locs1 ⟨hw.1, hw.2.1, hP, hD, hS, hw.2.2.2.2.2⟩)
theorem g_new (hC : CallFix p m c cc nL s args Ts own) (hw : Wd dC dI tys ws A s H locs) {C : String} {T : u_T} {N ci : Nat} (hin : ∀ w ∈ u_ws C T N, w ∈ Ts) (ty0 : Nat → FieldType) (hty : ∀ k, k < N → parseFieldDescriptor (T k).2.2.1 = some (ty0 k)) (h1 : Cond.classLink own index C ∈ Ts) (h2 : Cond.instantiable C N ∈ Ts) (h3 : Cond.initialized C ∈ Ts) (hc : vwCl[ci]? = some (C, T, N)) {fs : List Value} (hfs : ∀ j, j < N → defaultValue (ty0 j) = vp_V fs j) (hcells : cells + 1 ≤ R.cells) (hslots : slots + N ≤ R.slots) (hdg : decode cc pc = .ok (.new index, 3))
    (kk : ∀ (q : Nat) (H : Heap), Wd dC dI tys (ws ++ [(q, .inr (ci, fs))]) A s H locs → W p l e R s m args below meth c H locs (cells + 1) (slots + N) Q (F0 m (pc + 3) ls (.ref q :: rest))) : W p l e R s m args below meth c H locs cells slots Q (F0 m pc ls rest) :=
  va_new hC.1 hC.2.1 hC.2.2.2.2 hin ty0 hty hC.2.2.2.1 (hC.2.2.2.2 _ h1) (hC.2.2.2.2 _ h2) (hC.2.2.2.2 _ h3) hw.2.1 hw.2.2.1 hw.2.2.2.1 hw.2.2.2.2.1 hw.2.2.2.2.2 hc hfs hcells hslots hdg (fun q H1 hP hD hS => kk q H1 ⟨hw.1, hw.2.1, hP, hD, hS, hw.2.2.2.2.2⟩)
theorem va_K.same {D : va_G} {cl : List vw_C} {U : State} {tys : List (ClassId × FieldType)} {cA cB : ClassId} {ty : FieldType} {t0 : Nat} (hp : ty = .int ∨ ty = .long ∨ ty = .boolean) (ht : tys[t0]? = some (cB, ty)) (h : va_K D cl (tys ++ [(cA, ty)]) U) : cA = cB := by
  have h1 := (h.2 t0 (cB, ty) (by rw [List.getElem?_append_left (List.getElem?_eq_some_iff.mp ht).1]; exact ht)).2
  have h2 := (h.2 tys.length (cA, ty) (by simp)).2
  rcases hp with rfl | rfl | rfl <;> exact Option.some.inj (Eq.trans (Eq.symm h2) h1)
theorem va_K.sameO {D : va_G} {cl : List vw_C} {U : State} {tys : List (ClassId × FieldType)} {cA cB : ClassId} {C : String} {t0 : Nat} (ht : tys[t0]? = some (cB, .object C)) (h : va_K D cl (tys ++ [(cA, .object C)]) U) : cA = cB := by
  obtain ⟨_, _, _, _, _, h1⟩ := (h.2 t0 (cB, .object C) (by rw [List.getElem?_append_left (List.getElem?_eq_some_iff.mp ht).1]; exact ht)).2
  obtain ⟨_, _, _, _, _, h2⟩ := (h.2 tys.length (cA, .object C) (by simp)).2
  exact Option.some.inj (Eq.trans (Eq.symm h2) h1)
theorem g_newa (hC : CallFix p m c cc nL s args Ts own) (hw : Wd dC dI tys ws A s H locs) {atype : ArrayType} {ty : FieldType} (hty : newarray.typeOf atype = ty) (hp : ty = .int ∨ ty = .long ∨ ty = .boolean) {t0 : Nat} {cB : ClassId} (ht : tys[t0]? = some (cB, ty)) (harr : Cond.arrayClass (newarray.typeOf atype) ∈ Ts) {N : Nat} {a0 : vp_A} (ha : ∀ cA : ClassId, vp_cell cA a0 = arrV cA N (fun _ => defaultValue ty)) (hN : N < 2 ^ 16) (hcells : cells + 1 ≤ R.cells) (hslots : slots + N ≤ R.slots) (hdg : decode cc pc = .ok (.newarray atype, 2))
    (kk : ∀ (q : Nat) (H : Heap), Wd dC dI tys (ws ++ [(q, .inl (cB, a0))]) A s H locs → W p l e R s m args below meth c H locs (cells + 1) (slots + N) Q (F0 m (pc + 2) ls (.ref q :: rest))) : W p l e R s m args below meth c H locs cells slots Q (F0 m pc ls (.int (nI N) :: rest)) :=
  va_newa hC.1 hC.2.1 (hC.2.2.2.2 _ harr) hty hw.2.1 hw.2.2.1 hw.2.2.2.1 hw.2.2.2.2.1 hw.2.2.2.2.2 ha (nI_pos (by omega)) (nI_clamp (by omega)) (by have hb : componentBytes ty ≤ 8 := (by rcases hp with rfl | rfl | rfl <;> decide); have := Nat.mul_le_mul_left N hb; omega) hcells hslots hdg (fun q cA H1 hK hP hD hS => by
    obtain rfl := va_K.same hp ht hK
    exact kk q H1 ⟨hw.1, hw.2.1, hP, hD, hS, hw.2.2.2.2.2⟩)
theorem g_newq (hC : CallFix p m c cc nL s args Ts own) (hw : Wd dC dI tys ws A s H locs) {C : String} {t0 : Nat} {cB : ClassId} (ht : tys[t0]? = some (cB, .object C)) (hcl : Cond.classLink own index C ∈ Ts) (hO : va_AO C s) {N : Nat} (hN : N < 2 ^ 16) (hcells : cells + 1 ≤ R.cells) (hslots : slots + N ≤ R.slots) (hdg : decode cc pc = .ok (.anewarray index, 3))
    (kk : ∀ (q : Nat) (H : Heap), Wd dC dI tys (ws ++ [(q, .inl (cB, N, .inr (.inr (.inr (.inr (fun _ => none))))))]) A s H locs → W p l e R s m args below meth c H locs (cells + 1) (slots + N) Q (F0 m (pc + 3) ls (.ref q :: rest))) : W p l e R s m args below meth c H locs cells slots Q (F0 m pc ls (.int (nI N) :: rest)) :=
  va_newq hC.1 hC.2.1 hC.2.2.2.1 (hC.2.2.2.2 _ hcl) hO hw.2.1 hw.2.2.1 hw.2.2.2.1 hw.2.2.2.2.1 hw.2.2.2.2.2 (nI_pos (by omega)) (nI_clamp (by omega)) (by omega) hcells hslots hdg (fun q cA H1 hK hP hD hS => by
    obtain rfl := va_K.sameO ht hK
    exact kk q H1 ⟨hw.1, hw.2.1, hP, hD, hS, hw.2.2.2.2.2⟩)
theorem g_astq (hC : CallFix p m c cc nL s args Ts own) (hw : Wd dC dI tys ws A s H locs) (q0 t0 qk : Nat) {ci v a0 i n : Nat} {cA : ClassId} {r : vw_C} {vs : List Value} {f : Nat → Option Nat} (ha : ws[q0]? = some (a0, .inl (cA, n, .inr (.inr (.inr (.inr f)))))) (ht : tys[t0]? = some (cA, .object r.1)) (hv : ws[qk]? = some (v, .inr (ci, vs))) (hc : vwCl[ci]? = some r) (hi : i < n) (hn : n < 2 ^ 16) (hdg : decode cc pc = .ok (.aastore, 1))
    (kk : ∀ (H : Heap) (locs : List Loc), Wd dC dI tys (ws.set q0 (a0, .inl (cA, n, .inr (.inr (.inr (.inr (va_up f i (some v)))))))) A s H locs → W p l e R s m args below meth c H locs cells slots Q (F0 m (pc + 1) ls rest)) : W p l e R s m args below meth c H locs cells slots Q (F0 m pc ls (.ref v :: .int (nI i) :: .ref a0 :: rest)) :=
  va_astq hC.1 hC.2.1 hw.2.1 hw.2.2.1 hw.2.2.2.1 hw.2.2.2.2.1 q0 t0 qk ci ha ht hv hc ((in_nI (by omega)).mpr hi) hdg (fun H1 locs1 hP hD hS => by
    rw [nI_clamp (by omega)] at hP hD
    exact kk H1 locs1 ⟨hw.1, hw.2.1, hP, hD, hS, hw.2.2.2.2.2⟩)
end CTOR2
