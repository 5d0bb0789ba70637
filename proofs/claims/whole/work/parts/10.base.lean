/-! My own base: the nest links, a world as one word, contracts, entries, calls. -/
def nestW : List Cond := [.methodLinkNest "AlikePosts" 13 yX1_init "AlikePosts", .methodLinkNest "AlikePosts" 40 yX3_init "AlikePosts", .methodLinkNest "AlikePosts$Net" 56 yX4_slotOf "AlikePosts", .methodLinkNest "AlikePosts$Net" 76 yX4_postOf "AlikePosts", .methodLinkNest "AlikePosts$Ranks" 76 yX4_slotOf "AlikePosts", .methodLinkNest "AlikePosts$Ranks" 79 yX4_portOf "AlikePosts", .methodLinkNest "AlikePosts$Ranks" 82 yX4_postOf "AlikePosts", .methodLinkNest "AlikePosts$Flooding" 72 yX4_slotOf "AlikePosts", .methodLinkNest "AlikePosts$Flooding" 87 yX4_postOf "AlikePosts", .methodLinkNest "AlikePosts$Flooding" 90 yX4_portOf "AlikePosts"]
def Nst (U : State) : Prop := ∀ w ∈ nestW, va_Nw w U
theorem Nst.all {P : Cond → Prop} (h : ∀ (a : String) (i : Nat) (x : MethodName) (b : String), P (.methodLinkNest a i x b)) : ∀ w ∈ nestW, P w := by
  unfold nestW
  exact List.forall_mem_cons.mpr ⟨h _ _ _ _, List.forall_mem_cons.mpr ⟨h _ _ _ _, List.forall_mem_cons.mpr ⟨h _ _ _ _, List.forall_mem_cons.mpr ⟨h _ _ _ _, List.forall_mem_cons.mpr ⟨h _ _ _ _, List.forall_mem_cons.mpr ⟨h _ _ _ _, List.forall_mem_cons.mpr ⟨h _ _ _ _, List.forall_mem_cons.mpr ⟨h _ _ _ _, List.forall_mem_cons.mpr ⟨h _ _ _ _, List.forall_mem_cons.mpr ⟨h _ _ _ _, fun _ h => absurd h List.not_mem_nil⟩⟩⟩⟩⟩⟩⟩⟩⟩⟩
theorem Nst.warm {s U : State} (hW : s.WarmedH U.vm) (h : Nst s) : Nst U := fun w hw => Nst.all (P := fun w => va_Nw w s → va_Nw w U) (fun _ _ _ _ hz => va_Nw.warmM hW hz) w hw (h w hw)
theorem Nst.same {u U : State} (hv : u.vm = U.vm) (h : Nst u) : Nst U := fun w hw => Nst.all (P := fun w => va_Nw w u → va_Nw w U) (fun _ _ _ _ hz => va_Nw.same rfl hv hz) w hw (h w hw)
/-- the world, as one word -/
def Wd (dC : Nat → ClassId) (dI : Nat → Nat → Nat) (tys : List (ClassId × FieldType)) (ws : va_W) (A : Nat → Prop) (s : State) (H : Heap) (locs : List Loc) : Prop :=
  Nst s ∧ va_K (dC, dI) vwCl tys s ∧ va_P (dC, dI) vwCl ws H ∧ va_D A ws ∧ va_S A s.heap H locs ∧ ∀ q : Nat, s.heap.size ≤ q → A q
def cPre (dC : Nat → ClassId) (dI : Nat → Nat → Nat) (tys : List (ClassId × FieldType)) (av : List Value) (ws0 : va_W) (sz : Nat) : Array Value → State → Prop :=
  va_Pc av (fun U => U.heap.size = sz ∧ Nst U ∧ va_P (dC, dI) vwCl ws0 U.heap ∧ va_K (dC, dI) vwCl tys U ∧ va_D (fun _ => True) ws0)
def cEnd (dC : Nat → ClassId) (dI : Nat → Nat → Nat) (tys : List (ClassId × FieldType)) (A : Nat → Prop) (ws1 : va_W) (t : State) : Prop :=
  va_P (dC, dI) vwCl ws1 t.heap ∧ va_K (dC, dI) vwCl tys t ∧ va_D A ws1
theorem cPre.blind {dC : Nat → ClassId} {dI : Nat → Nat → Nat} {tys : List (ClassId × FieldType)} {av : List Value} {ws0 : va_W} {sz : Nat} : FrameBlind (cPre dC dI tys av ws0 sz) := by
  intro a U g mk q
  obtain ⟨q0, q1, qN, qP, qK, qD⟩ := q
  exact ⟨q0, q1, Nst.same (u := U) (U := U.calling g mk a) rfl qN, qP, va_K.moved (u := U) (U := U.calling g mk a) (Vm.Alike.refl U.vm) qK, qD⟩
/-- contracts: an int (or boolean), a long, nothing, a reference or null -/
def CtI (l : Launch) (y : MethodName) (wds : List Cond) (rm : Room) (dC : Nat → ClassId) (dI : Nat → Nat → Nat) (tys : List (ClassId × FieldType)) (av : List Value) (ws0 : va_W) {S : Type} (post : Int32 → S → Prop) (ws1 : S → va_W) : Prop :=
  ∀ sz : Nat, Met l y wds rm (cPre dC dI tys av ws0 sz) (va_Qi post (fun u t => cEnd dC dI tys (va_A ws0 sz) (ws1 u) t) (va_A ws0 sz)) 0 0 (va_A ws0 sz)
def CtL (l : Launch) (y : MethodName) (wds : List Cond) (rm : Room) (dC : Nat → ClassId) (dI : Nat → Nat → Nat) (tys : List (ClassId × FieldType)) (av : List Value) (ws0 : va_W) {S : Type} (post : Int64 → S → Prop) (ws1 : S → va_W) : Prop :=
  ∀ sz : Nat, Met l y wds rm (cPre dC dI tys av ws0 sz) (va_Ql post (fun u t => cEnd dC dI tys (va_A ws0 sz) (ws1 u) t) (va_A ws0 sz)) 0 0 (va_A ws0 sz)
def CtV (l : Launch) (y : MethodName) (wds : List Cond) (rm : Room) (dC : Nat → ClassId) (dI : Nat → Nat → Nat) (tys : List (ClassId × FieldType)) (av : List Value) (ws0 : va_W) {S : Type} (post : S → Prop) (ws1 : S → va_W) : Prop :=
  ∀ sz : Nat, Met l y wds rm (cPre dC dI tys av ws0 sz) (va_Qv post (fun u t => cEnd dC dI tys (va_A ws0 sz) (ws1 u) t) (va_A ws0 sz)) 0 0 (va_A ws0 sz)
def CtQ (l : Launch) (y : MethodName) (wds : List Cond) (rm : Room) (dC : Nat → ClassId) (dI : Nat → Nat → Nat) (tys : List (ClassId × FieldType)) (av : List Value) (ws0 : va_W) {S : Type} (post : Option Nat → S → Prop) (ws1 : S → va_W) : Prop :=
  ∀ sz : Nat, Met l y wds rm (cPre dC dI tys av ws0 sz) (va_Qq post (fun u t => cEnd dC dI tys (va_A ws0 sz) (ws1 u) t) (va_A ws0 sz)) 0 0 (va_A ws0 sz)
section MK
variable {l : Launch} {y : MethodName} {wds wds' : List Cond} {rm : Room} {cc : ByteArray} {maxL : Nat} {dC : Nat → ClassId} {dI : Nat → Nat → Nat} {tys : List (ClassId × FieldType)} {av : List Value} {ws0 : va_W} {S : Type} {ws1 : S → va_W}
theorem CtI.mk {ty : FieldType} {post : Int32 → S → Prop} (hy : plainName y.cls = true) (hw : wds = Cond.code y cc maxL (some ty) :: wds') (hn : (lg_sl av).length ≤ maxL)
    (body : ∀ (p : Program) (e : Env) (s : State) (m : MethodId) (args : Array Value) (below : List Frame) (meth : Method) (c : Code) (A : Nat → Prop) (Q : State → Prop) (ls : Array Slot), CallFix p m c cc maxL s args wds y.cls → Wd dC dI tys ws0 A s s.heap [] → lv_has ls maxL (lv_args 0 av) →
      (∀ (H : Heap) (locs : List Loc) (pc : Nat) (ls : Array Slot) (v : Int32) (u : S), decode cc pc = .ok (.ireturn, 1) → narrow ty (.int v) = .int v → post v u → Wd dC dI tys (ws1 u) A s H locs → W p l e rm s m args below meth c H locs 0 0 Q (F0 m pc ls [.int v])) →
      W p l e rm s m args below meth c s.heap [] 0 0 Q (F0 m 0 ls [])) : CtI l y wds rm dC dI tys av ws0 post ws1 := by
  intro sz
  refine Met.ofW (cc := cc) (maxL := maxL) (ret := some ty) hy hw ?_
  intro p e s m args below meth c s₁ B hml hv
  obtain ⟨rfl, hsz, hN, hP, hK, hD0⟩ := hv
  subst hsz
  have hts := atoms_spec (ws := wds) B.pre
  have hown : s.vm.findClass y.cls = some m.cls := findClass_of_methodNamed B.named
  have hl := lv_entry av (n := maxL) hn
  rw [lg_entry_eq]
  exact body p e s m _ below meth c (va_A ws0 s.heap.size) _ _ ⟨B.exec, B.bytes, hml, hown, hts⟩ ⟨hN, hK, hP, hD0.self, va_S.rf, fun q h => Or.inr h⟩ hl (fun H locs pc ls v u hdg hna hp hw => W.zret (v := v) B.exec B.bytes B.returns hna (fun t ht hW => ⟨⟨v, u, rfl, hp, by rw [ht]; exact hw.2.2.1, va_K.moved hW.alike hw.2.1, hw.2.2.2.1⟩, hw.2.2.2.2.1.F ht⟩) hw.2.2.2.2.1.2.2 hdg B.notSynchronized)
theorem CtL.mk {post : Int64 → S → Prop} (hy : plainName y.cls = true) (hw : wds = Cond.code y cc maxL (some .long) :: wds') (hn : (lg_sl av).length ≤ maxL)
    (body : ∀ (p : Program) (e : Env) (s : State) (m : MethodId) (args : Array Value) (below : List Frame) (meth : Method) (c : Code) (A : Nat → Prop) (Q : State → Prop) (ls : Array Slot), CallFix p m c cc maxL s args wds y.cls → Wd dC dI tys ws0 A s s.heap [] → lv_has ls maxL (lv_args 0 av) →
      (∀ (H : Heap) (locs : List Loc) (pc : Nat) (ls : Array Slot) (v : Int64) (u : S), decode cc pc = .ok (.lreturn, 1) → post v u → Wd dC dI tys (ws1 u) A s H locs → W p l e rm s m args below meth c H locs 0 0 Q (F0 m pc ls [.long v])) →
      W p l e rm s m args below meth c s.heap [] 0 0 Q (F0 m 0 ls [])) : CtL l y wds rm dC dI tys av ws0 post ws1 := by
  intro sz
  refine Met.ofW (cc := cc) (maxL := maxL) (ret := some .long) hy hw ?_
  intro p e s m args below meth c s₁ B hml hv
  obtain ⟨rfl, hsz, hN, hP, hK, hD0⟩ := hv
  subst hsz
  have hts := atoms_spec (ws := wds) B.pre
  have hown : s.vm.findClass y.cls = some m.cls := findClass_of_methodNamed B.named
  have hl := lv_entry av (n := maxL) hn
  have hlocks := B.notSynchronized
  rw [lg_entry_eq]
  exact body p e s m _ below meth c (va_A ws0 s.heap.size) _ _ ⟨B.exec, B.bytes, hml, hown, hts⟩ ⟨hN, hK, hP, hD0.self, va_S.rf, fun q h => Or.inr h⟩ hl (fun H locs pc ls v u hdg hp hw => W.lret (v := v) B.exec B.bytes B.returns (fun t ht hW => ⟨⟨v, u, rfl, hp, by rw [ht]; exact hw.2.2.1, va_K.moved hW.alike hw.2.1, hw.2.2.2.1⟩, hw.2.2.2.2.1.F ht⟩) hw.2.2.2.2.1.2.2 hdg)
theorem CtV.mk {post : S → Prop} (hy : plainName y.cls = true) (hw : wds = Cond.code y cc maxL none :: wds') (hn : (lg_sl av).length ≤ maxL)
    (body : ∀ (p : Program) (e : Env) (s : State) (m : MethodId) (args : Array Value) (below : List Frame) (meth : Method) (c : Code) (A : Nat → Prop) (Q : State → Prop) (ls : Array Slot), CallFix p m c cc maxL s args wds y.cls → Wd dC dI tys ws0 A s s.heap [] → lv_has ls maxL (lv_args 0 av) →
      (∀ (H : Heap) (locs : List Loc) (pc : Nat) (ls : Array Slot) (u : S), decode cc pc = .ok (.return_, 1) → post u → Wd dC dI tys (ws1 u) A s H locs → W p l e rm s m args below meth c H locs 0 0 Q (F0 m pc ls [])) →
      W p l e rm s m args below meth c s.heap [] 0 0 Q (F0 m 0 ls [])) : CtV l y wds rm dC dI tys av ws0 post ws1 := by
  intro sz
  refine Met.ofW (cc := cc) (maxL := maxL) (ret := none) hy hw ?_
  intro p e s m args below meth c s₁ B hml hv
  obtain ⟨rfl, hsz, hN, hP, hK, hD0⟩ := hv
  subst hsz
  have hts := atoms_spec (ws := wds) B.pre
  have hown : s.vm.findClass y.cls = some m.cls := findClass_of_methodNamed B.named
  have hl := lv_entry av (n := maxL) hn
  rw [lg_entry_eq]
  exact body p e s m _ below meth c (va_A ws0 s.heap.size) _ _ ⟨B.exec, B.bytes, hml, hown, hts⟩ ⟨hN, hK, hP, hD0.self, va_S.rf, fun q h => Or.inr h⟩ hl (fun H locs pc ls u hdg hp hw => W.vret B.exec B.bytes B.returns (fun t ht hW => ⟨⟨u, rfl, hp, by rw [ht]; exact hw.2.2.1, va_K.moved hW.alike hw.2.1, hw.2.2.2.1⟩, hw.2.2.2.2.1.F ht⟩) hw.2.2.2.2.1.2.2 hdg B.notSynchronized)
theorem CtQ.mk {C : String} {post : Option Nat → S → Prop} (hy : plainName y.cls = true) (hw : wds = Cond.code y cc maxL (some (.object C)) :: wds') (hn : (lg_sl av).length ≤ maxL)
    (body : ∀ (p : Program) (e : Env) (s : State) (m : MethodId) (args : Array Value) (below : List Frame) (meth : Method) (c : Code) (A : Nat → Prop) (Q : State → Prop) (ls : Array Slot), CallFix p m c cc maxL s args wds y.cls → Wd dC dI tys ws0 A s s.heap [] → lv_has ls maxL (lv_args 0 av) →
      (∀ (H : Heap) (locs : List Loc) (pc : Nat) (ls : Array Slot) (v : Option Nat) (u : S), decode cc pc = .ok (.areturn, 1) → post v u → Wd dC dI tys (ws1 u) A s H locs → W p l e rm s m args below meth c H locs 0 0 Q (F0 m pc ls [va_rf v])) →
      W p l e rm s m args below meth c s.heap [] 0 0 Q (F0 m 0 ls [])) : CtQ l y wds rm dC dI tys av ws0 post ws1 := by
  intro sz
  refine Met.ofW (cc := cc) (maxL := maxL) (ret := some (.object C)) hy hw ?_
  intro p e s m args below meth c s₁ B hml hv
  obtain ⟨rfl, hsz, hN, hP, hK, hD0⟩ := hv
  subst hsz
  have hts := atoms_spec (ws := wds) B.pre
  have hown : s.vm.findClass y.cls = some m.cls := findClass_of_methodNamed B.named
  have hl := lv_entry av (n := maxL) hn
  rw [lg_entry_eq]
  exact body p e s m _ below meth c (va_A ws0 s.heap.size) _ _ ⟨B.exec, B.bytes, hml, hown, hts⟩ ⟨hN, hK, hP, hD0.self, va_S.rf, fun q h => Or.inr h⟩ hl (fun H locs pc ls v u hdg hp hw => W.aret (v := va_rf v) B.exec B.bytes B.returns (Or.inl ⟨C, rfl⟩) (by cases v with | none => exact Or.inl rfl | some a => exact Or.inr ⟨a, rfl⟩) (fun t ht hW => ⟨⟨v, u, rfl, hp, by rw [ht]; exact hw.2.2.1, va_K.moved hW.alike hw.2.1, hw.2.2.2.1⟩, hw.2.2.2.2.1.F ht⟩) hw.2.2.2.2.1.2.2 hdg B.notSynchronized)
end MK
theorem fm_of {f : Nat → Option (Nat × va_E)} {is : List Nat} {l : va_W} (h : is.map f = l.map some) : is.filterMap f = l := by
  induction is generalizing l with
  | nil => cases l with
    | nil => rfl
    | cons a t => cases h
  | cons i is ih => cases l with
    | nil => cases h
    | cons a t =>
      simp only [List.map_cons, List.cons.injEq] at h
      rw [List.filterMap_cons, h.1]
      show a :: List.filterMap f is = a :: t
      rw [ih h.2]
section CALL
variable {p : Program} {l : Launch} {e : Env} {R : Room} {s : State} {m : MethodId} {args : Array Value} {below : List Frame} {meth : Method} {c : Code} {H : Heap} {locs : List Loc} {cells slots : Nat} {Q : State → Prop}
  {dC : Nat → ClassId} {dI : Nat → Nat → Nat} {tys : List (ClassId × FieldType)} {ws wc wr : va_W} {A : Nat → Prop} {pc : Nat} {ls : Array Slot} {rest st0 : List Value} {a : Array Value} {S : Type} {ws1 ws2 : S → va_W}
theorem Wd.pre {av : List Value} (hw : Wd dC dI tys ws A s H locs) (isC : List Nat) (hC : isC.map (fun i => ws[i]?) = wc.map some) (hnC : va_nd isC = true) : ∀ U : State, U.heap = H → s.WarmedH U.vm → cPre dC dI tys av wc H.size av.toArray U := fun U hU hW => ⟨rfl, by rw [hU], Nst.warm hW hw.1, by rw [hU]; exact hw.2.2.1.sub isC (fm_of hC), va_K.moved hW.alike hw.2.1, (hw.2.2.2.1.sub isC hnC hC).weaken (fun _ _ _ _ => trivial)⟩
theorem Wd.sub {wn : va_W} (hw : Wd dC dI tys ws A s H locs) (is : List Nat) (hn : va_nd is = true) (hs : is.map (fun i => ws[i]?) = wn.map some) : Wd dC dI tys wn A s H locs :=
  ⟨hw.1, hw.2.1, hw.2.2.1.sub is (fm_of hs), hw.2.2.2.1.sub is hn hs, hw.2.2.2.2.1, hw.2.2.2.2.2⟩
theorem Wd.behind {w1 w2 : va_W} (hw : Wd dC dI tys ws A s H locs) (isC isR is2 : List Nat) (hC : isC.map (fun i => ws[i]?) = wc.map some) (hR : isR.map (fun i => ws[i]?) = wr.map some) (hnR : va_nd isR = true) (hdis : ∀ i ∈ isR, i ∉ isC) (hn2 : va_nd is2 = true) (h2 : is2.map (fun i => (wr ++ w1)[i]?) = w2.map some)
    {t : State} {H1 : Heap} {locs1 : List Loc} (ht : t.heap = H1) (hE : cEnd dC dI tys (va_A wc H.size) w1 t) (hk : ∀ q : Nat, q < H.size → ¬ va_A wc H.size q → H1[q]? = H[q]?) (hS : va_S A s.heap H1 locs1) : Wd dC dI tys w2 A s H1 locs1 := by
  obtain ⟨hP1, -, hD1⟩ := hE
  rw [ht] at hP1
  obtain ⟨hP, hD⟩ := va_join hw.2.2.1 hw.2.2.2.1 isC isR hC hR hnR hdis hk (va_free hw.2.2.2.1 hw.2.2.2.2.1 hw.2.2.2.2.2 isC hC) hP1 hD1
  exact ⟨hw.1, hw.2.1, hP.sub is2 (fm_of h2), hD.sub is2 hn2 h2, hS, hw.2.2.2.2.2⟩
theorem W.ccI {post : Int32 → S → Prop} (hw : Wd dC dI tys ws A s H locs) (isC isR is2 : List Nat) (hC : isC.map (fun i => ws[i]?) = wc.map some) (hR : isR.map (fun i => ws[i]?) = wr.map some) (hnR : va_nd isR = true) (hdis : ∀ i ∈ isR, i ∉ isC) (hn2 : va_nd is2 = true) (h2 : ∀ u, is2.map (fun i => (wr ++ ws1 u)[i]?) = (ws2 u).map some)
    (hrun : va_Run p l e R s m args below meth c H locs cells slots 0 0 (F0 m pc ls st0) rest (va_Qi post (fun u t => cEnd dC dI tys (va_A wc H.size) (ws1 u) t) (va_A wc H.size) a) (va_A wc H.size))
    (kk : ∀ (r : Int32) (u : S) (H1 : Heap) (locs1 : List Loc), post r u → Wd dC dI tys (ws2 u) A s H1 locs1 → W p l e R s m args below meth c H1 locs1 cells slots Q (F0 m (pc + 3) ls (.int r :: rest))) : W p l e R s m args below meth c H locs cells slots Q (F0 m pc ls st0) :=
  have hF := va_free hw.2.2.2.1 hw.2.2.2.2.1 hw.2.2.2.2.2 isC hC
  va_calli hrun hw.2.2.2.2.1 (fun q _ h => hF q h) hF (fun r u _ H1 locs1 ht _ hp hB _ hk hS => kk r u H1 locs1 hp (hw.behind isC isR is2 hC hR hnR hdis hn2 (h2 u) ht hB hk hS))
theorem W.ccL {post : Int64 → S → Prop} (hw : Wd dC dI tys ws A s H locs) (isC isR is2 : List Nat) (hC : isC.map (fun i => ws[i]?) = wc.map some) (hR : isR.map (fun i => ws[i]?) = wr.map some) (hnR : va_nd isR = true) (hdis : ∀ i ∈ isR, i ∉ isC) (hn2 : va_nd is2 = true) (h2 : ∀ u, is2.map (fun i => (wr ++ ws1 u)[i]?) = (ws2 u).map some)
    (hrun : va_Run p l e R s m args below meth c H locs cells slots 0 0 (F0 m pc ls st0) rest (va_Ql post (fun u t => cEnd dC dI tys (va_A wc H.size) (ws1 u) t) (va_A wc H.size) a) (va_A wc H.size))
    (kk : ∀ (r : Int64) (u : S) (H1 : Heap) (locs1 : List Loc), post r u → Wd dC dI tys (ws2 u) A s H1 locs1 → W p l e R s m args below meth c H1 locs1 cells slots Q (F0 m (pc + 3) ls (.long r :: rest))) : W p l e R s m args below meth c H locs cells slots Q (F0 m pc ls st0) :=
  have hF := va_free hw.2.2.2.1 hw.2.2.2.2.1 hw.2.2.2.2.2 isC hC
  va_calll hrun hw.2.2.2.2.1 (fun q _ h => hF q h) hF (fun r u _ H1 locs1 ht _ hp hB _ hk hS => kk r u H1 locs1 hp (hw.behind isC isR is2 hC hR hnR hdis hn2 (h2 u) ht hB hk hS))
theorem W.ccV {post : S → Prop} (hw : Wd dC dI tys ws A s H locs) (isC isR is2 : List Nat) (hC : isC.map (fun i => ws[i]?) = wc.map some) (hR : isR.map (fun i => ws[i]?) = wr.map some) (hnR : va_nd isR = true) (hdis : ∀ i ∈ isR, i ∉ isC) (hn2 : va_nd is2 = true) (h2 : ∀ u, is2.map (fun i => (wr ++ ws1 u)[i]?) = (ws2 u).map some)
    (hrun : va_Run p l e R s m args below meth c H locs cells slots 0 0 (F0 m pc ls st0) rest (va_Qv post (fun u t => cEnd dC dI tys (va_A wc H.size) (ws1 u) t) (va_A wc H.size) a) (va_A wc H.size))
    (kk : ∀ (u : S) (H1 : Heap) (locs1 : List Loc), post u → Wd dC dI tys (ws2 u) A s H1 locs1 → W p l e R s m args below meth c H1 locs1 cells slots Q (F0 m (pc + 3) ls rest)) : W p l e R s m args below meth c H locs cells slots Q (F0 m pc ls st0) :=
  have hF := va_free hw.2.2.2.1 hw.2.2.2.2.1 hw.2.2.2.2.2 isC hC
  va_callv hrun hw.2.2.2.2.1 (fun q _ h => hF q h) hF (fun u _ H1 locs1 ht _ hp hB _ hk hS => kk u H1 locs1 hp (hw.behind isC isR is2 hC hR hnR hdis hn2 (h2 u) ht hB hk hS))
theorem W.ccQ {post : Option Nat → S → Prop} (hw : Wd dC dI tys ws A s H locs) (isC isR is2 : List Nat) (hC : isC.map (fun i => ws[i]?) = wc.map some) (hR : isR.map (fun i => ws[i]?) = wr.map some) (hnR : va_nd isR = true) (hdis : ∀ i ∈ isR, i ∉ isC) (hn2 : va_nd is2 = true) (h2 : ∀ u, is2.map (fun i => (wr ++ ws1 u)[i]?) = (ws2 u).map some)
    (hrun : va_Run p l e R s m args below meth c H locs cells slots 0 0 (F0 m pc ls st0) rest (va_Qq post (fun u t => cEnd dC dI tys (va_A wc H.size) (ws1 u) t) (va_A wc H.size) a) (va_A wc H.size))
    (kk : ∀ (r : Option Nat) (u : S) (H1 : Heap) (locs1 : List Loc), post r u → Wd dC dI tys (ws2 u) A s H1 locs1 → W p l e R s m args below meth c H1 locs1 cells slots Q (F0 m (pc + 3) ls (va_rf r :: rest))) : W p l e R s m args below meth c H locs cells slots Q (F0 m pc ls st0) :=
  have hF := va_free hw.2.2.2.1 hw.2.2.2.2.1 hw.2.2.2.2.2 isC hC
  va_callq hrun hw.2.2.2.2.1 (fun q _ h => hF q h) hF (fun r u _ H1 locs1 ht _ hp hB _ hk hS => kk r u H1 locs1 hp (hw.behind isC isR is2 hC hR hnR hdis hn2 (h2 u) ht hB hk hS))
variable {y : MethodName} {cc bytes : ByteArray} {maxL nL n index : Nat} {ret : Option FieldType} {wds : List Cond} {rm : Room} {Qc : Array Value → State → Outcome → State → Prop} {Ts : List Cond} {own C : String} {b : Addr} {As : List Value}
theorem Wd.runV (hCx : CallFix p m c cc nL s args Ts own) (hw : Wd dC dI tys ws A s H locs) (isC : List Nat) (hC : isC.map (fun i => ws[i]?) = wc.map some) (hnC : va_nd isC = true) (q0 : Nat) {ci : Nat} {fs : List Value} {q : vw_C} (he : ws[q0]? = some (b, .inr (ci, fs))) (hc : vwCl[ci]? = some q)
    (cw : CallW R s args own q.1 index y bytes maxL ret wds rm 0 0 n) (hM : Met l y wds rm (cPre dC dI tys (.ref b :: As) wc H.size) Qc 0 0 (va_A wc H.size)) (hn : As.length = n) (hsize : ls.size = nL) (hst : st0 = As.reverse ++ .ref b :: rest) (hr : (rest.map fun v => v.category).sum ≤ 8) (hdg : decode cc pc = .ok (.invokevirtual index, 3)) (hf : cells ≤ R.cells ∧ slots ≤ R.slots) :
    va_Run p l e R s m args below meth c H locs cells slots 0 0 (F0 m pc ls st0) rest (Qc (Value.ref b :: As).toArray) (va_A wc H.size) :=
  va_runV hCx hM cw ⟨cPre.blind, va_recv hw.2.1 hw.2.2.1 hc he, hw.pre isC hC hnC⟩ rfl hn hsize hst (lv_room (pc := 0) (ls := #[]) (rest := []) (m := m) hr) hdg hf
theorem Wd.runS (hCx : CallFix p m c cc nL s args Ts own) (hw : Wd dC dI tys ws A s H locs) (isC : List Nat) (hC : isC.map (fun i => ws[i]?) = wc.map some) (hnC : va_nd isC = true)
    (cw : CallB R s args own index y bytes maxL ret wds rm 0 0 n ∧ (Cond.static y).before args s = true) (hM : Met l y wds rm (cPre dC dI tys As wc H.size) Qc 0 0 (va_A wc H.size)) (hn : As.length = n) (hsize : ls.size = nL) (hst : st0 = As.reverse ++ rest) (hr : (rest.map fun v => v.category).sum ≤ 8) (hdg : decode cc pc = .ok (.invokestatic index, 3)) (hf : cells ≤ R.cells ∧ slots ≤ R.slots) :
    va_Run p l e R s m args below meth c H locs cells slots 0 0 (F0 m pc ls st0) rest (Qc As.toArray) (va_A wc H.size) :=
  va_runS hCx hM cw ⟨cPre.blind, hw.pre isC hC hnC⟩ rfl hn hsize hst (lv_room (pc := 0) (ls := #[]) (rest := []) (m := m) hr) hdg hf
theorem Wd.runSN {host : String} (hCx : CallFix p m c cc nL s args Ts own) (hw : Wd dC dI tys ws A s H locs) (isC : List Nat) (hC : isC.map (fun i => ws[i]?) = wc.map some) (hnC : va_nd isC = true)
    (cw : va_CN R s args own index y host bytes maxL ret wds rm 0 0 n ∧ (Cond.static y).before args s = true ∧ True) (hM : Met l y wds rm (cPre dC dI tys As wc H.size) Qc 0 0 (va_A wc H.size)) (hn : As.length = n) (hsize : ls.size = nL) (hst : st0 = As.reverse ++ rest) (hr : (rest.map fun v => v.category).sum ≤ 8) (hdg : decode cc pc = .ok (.invokestatic index, 3)) (hf : cells ≤ R.cells ∧ slots ≤ R.slots) :
    va_Run p l e R s m args below meth c H locs cells slots 0 0 (F0 m pc ls st0) rest (Qc As.toArray) (va_A wc H.size) :=
  va_runSN hCx hM cw ⟨cPre.blind, hw.pre isC hC hnC⟩ rfl hn hsize hst (lv_room (pc := 0) (ls := #[]) (rest := []) (m := m) hr) hdg hf
end CALL
