/-! The law's calls: the world is the one object's cells and the other's, one behind another. -/
theorem va_P.L {D : va_G} {cl : List vw_C} {a b : va_W} {H : Heap} (h : va_P D cl (a ++ b) H) : va_P D cl a H := fun k q hq => h k q (by rw [List.getElem?_append_left (List.getElem?_eq_some_iff.mp hq).1]; exact hq)
theorem va_P.R {D : va_G} {cl : List vw_C} {a b : va_W} {H : Heap} (h : va_P D cl (a ++ b) H) : va_P D cl b H := fun k q hq => h (a.length + k) q (by rw [List.getElem?_append_right (Nat.le_add_right _ _), Nat.add_sub_cancel_left]; exact hq)
theorem va_D.L {A : Nat → Prop} {a b : va_W} (h : va_D A (a ++ b)) : va_D A a := by
  have key : ∀ (k : Nat) (q : Nat × va_E), a[k]? = some q → (a ++ b)[k]? = some q := fun k q hq => by rw [List.getElem?_append_left (List.getElem?_eq_some_iff.mp hq).1]; exact hq
  exact ⟨fun i j p q hi hj e => h.1 i j p q (key i p hi) (key j q hj) e, fun k q hq => h.2 k q (key k q hq)⟩
theorem va_D.R {A : Nat → Prop} {a b : va_W} (h : va_D A (a ++ b)) : va_D A b := by
  have key : ∀ (k : Nat) (q : Nat × va_E), b[k]? = some q → (a ++ b)[a.length + k]? = some q := fun k q hq => by rw [List.getElem?_append_right (Nat.le_add_right _ _), Nat.add_sub_cancel_left]; exact hq
  exact ⟨fun i j p q hi hj e => by have := h.1 _ _ p q (key i p hi) (key j q hj) e; omega, fun k q hq => h.2 _ q (key k q hq)⟩
theorem va_D.LR {A : Nat → Prop} {a b : va_W} (h : va_D A (a ++ b)) {i j : Nat} {p q : Nat × va_E} (hi : a[i]? = some p) (hj : b[j]? = some q) : p.1 ≠ q.1 := by
  intro e
  have l := (List.getElem?_eq_some_iff.mp hi).1
  have := h.1 i (a.length + j) p q (by rw [List.getElem?_append_left l]; exact hi) (by rw [List.getElem?_append_right (Nat.le_add_right _ _), Nat.add_sub_cancel_left]; exact hj) e
  omega
section LAWC
variable {p : Program} {l : Launch} {e : Env} {R : Room} {s : State} {m : MethodId} {args : Array Value} {below : List Frame} {meth : Method} {c : Code} {H : Heap} {locs : List Loc} {cells slots : Nat} {Q : State → Prop}
  {dC : Nat → ClassId} {dI : Nat → Nat → Nat} {tys : List (ClassId × FieldType)} {ws wc wr : va_W} {A : Nat → Prop} {pc : Nat} {ls : Array Slot} {rest st0 : List Value} {a : Array Value} {S : Type} {ws1 : S → va_W}
theorem Wd.free (hw : Wd dC dI tys (wc ++ wr) A s H locs) : ∀ q, va_A wc H.size q → A q := by
  intro q h
  rcases h with ⟨k, e, h⟩ | h
  · exact hw.2.2.2.1.L.2 k (q, e) h
  · exact hw.2.2.2.2.2 q (Nat.le_trans hw.2.2.2.2.1.1 h)
theorem Wd.app (hw : Wd dC dI tys (wc ++ wr) A s H locs) {t : State} {H1 : Heap} {locs1 : List Loc} {w1 : va_W} (ht : t.heap = H1) (hE : cEnd dC dI tys (va_A wc H.size) w1 t) (hk : ∀ q : Nat, q < H.size → ¬ va_A wc H.size q → H1[q]? = H[q]?) (hS : va_S A s.heap H1 locs1) : Wd dC dI tys (wr ++ w1) A s H1 locs1 := by
  obtain ⟨hP1, -, hD1⟩ := hE
  rw [ht] at hP1
  have hPr := hw.2.2.1.R
  have hDr := hw.2.2.2.1.R
  have hno : ∀ (k : Nat) (q : Nat × va_E), wr[k]? = some q → ¬ va_A wc H.size q.1 := by
    intro k q hq h
    rcases h with ⟨j, e, h⟩ | h
    · exact hw.2.2.2.1.LR h hq rfl
    · have := (hPr k q hq).lt
      omega
  refine ⟨hw.1, hw.2.1, (hPr.kept (fun k q hq => hk q.1 (hPr k q hq).lt (hno k q hq))).app hP1, ⟨fun i j x y hi hj e => ?_, fun k q hq => ?_⟩, hS, hw.2.2.2.2.2⟩
  · rcases Nat.lt_or_ge i wr.length with zi | zi <;> rcases Nat.lt_or_ge j wr.length with zj | zj
    · rw [List.getElem?_append_left zi] at hi
      rw [List.getElem?_append_left zj] at hj
      exact hDr.1 i j x y hi hj e
    · rw [List.getElem?_append_left zi] at hi
      rw [List.getElem?_append_right zj] at hj
      exact absurd (by rw [e]; exact hD1.2 _ y hj) (hno i x hi)
    · rw [List.getElem?_append_right zi] at hi
      rw [List.getElem?_append_left zj] at hj
      exact absurd (by rw [← e]; exact hD1.2 _ x hi) (hno j y hj)
    · rw [List.getElem?_append_right zi] at hi
      rw [List.getElem?_append_right zj] at hj
      have := hD1.1 _ _ x y hi hj e
      omega
  · rcases Nat.lt_or_ge k wr.length with z | z
    · rw [List.getElem?_append_left z] at hq
      exact hDr.2 k q hq
    · rw [List.getElem?_append_right z] at hq
      exact hw.free _ (hD1.2 _ q hq)
theorem W.lcI {post : Int32 → S → Prop} (hw : Wd dC dI tys (wc ++ wr) A s H locs) (hrun : va_Run p l e R s m args below meth c H locs cells slots 0 0 (F0 m pc ls st0) rest (va_Qi post (fun u t => cEnd dC dI tys (va_A wc H.size) (ws1 u) t) (va_A wc H.size) a) (va_A wc H.size))
    (kk : ∀ (r : Int32) (u : S) (H1 : Heap) (locs1 : List Loc), post r u → Wd dC dI tys (wr ++ ws1 u) A s H1 locs1 → W p l e R s m args below meth c H1 locs1 cells slots Q (F0 m (pc + 3) ls (.int r :: rest))) : W p l e R s m args below meth c H locs cells slots Q (F0 m pc ls st0) :=
  va_calli hrun hw.2.2.2.2.1 (fun q _ h => hw.free q h) hw.free (fun r u _ H1 locs1 ht _ hp hB _ hk hS => kk r u H1 locs1 hp (hw.app ht hB hk hS))
theorem W.lcL {post : Int64 → S → Prop} (hw : Wd dC dI tys (wc ++ wr) A s H locs) (hrun : va_Run p l e R s m args below meth c H locs cells slots 0 0 (F0 m pc ls st0) rest (va_Ql post (fun u t => cEnd dC dI tys (va_A wc H.size) (ws1 u) t) (va_A wc H.size) a) (va_A wc H.size))
    (kk : ∀ (r : Int64) (u : S) (H1 : Heap) (locs1 : List Loc), post r u → Wd dC dI tys (wr ++ ws1 u) A s H1 locs1 → W p l e R s m args below meth c H1 locs1 cells slots Q (F0 m (pc + 3) ls (.long r :: rest))) : W p l e R s m args below meth c H locs cells slots Q (F0 m pc ls st0) :=
  va_calll hrun hw.2.2.2.2.1 (fun q _ h => hw.free q h) hw.free (fun r u _ H1 locs1 ht _ hp hB _ hk hS => kk r u H1 locs1 hp (hw.app ht hB hk hS))
variable {y : MethodName} {cc bytes : ByteArray} {maxL nL n index : Nat} {ret : Option FieldType} {wds : List Cond} {rm : Room} {Qc : Array Value → State → Outcome → State → Prop} {Ts : List Cond} {own : String} {b : Addr} {As : List Value}
theorem Wd.runVA (hCx : CallFix p m c cc nL s args Ts own) (hw : Wd dC dI tys (wc ++ wr) A s H locs) {ci : Nat} {fs : List Value} {q : vw_C} (he : wc[0]? = some (b, .inr (ci, fs))) (hc : vwCl[ci]? = some q)
    (cw : CallW R s args own q.1 index y bytes maxL ret wds rm 0 0 n) (hM : Met l y wds rm (cPre dC dI tys (.ref b :: As) wc H.size) Qc 0 0 (va_A wc H.size)) (hn : As.length = n) (hsize : ls.size = nL) (hst : st0 = As.reverse ++ .ref b :: rest) (hr : (rest.map fun v => v.category).sum ≤ 8) (hdg : decode cc pc = .ok (.invokevirtual index, 3)) (hf : cells ≤ R.cells ∧ slots ≤ R.slots) :
    va_Run p l e R s m args below meth c H locs cells slots 0 0 (F0 m pc ls st0) rest (Qc (Value.ref b :: As).toArray) (va_A wc H.size) :=
  va_runV hCx hM cw ⟨cPre.blind, va_recv hw.2.1 hw.2.2.1.L hc he, fun U hU hW => ⟨rfl, by rw [hU], Nst.warm hW hw.1, by rw [hU]; exact hw.2.2.1.L, va_K.moved hW.alike hw.2.1, hw.2.2.2.1.L.weaken (fun _ _ _ _ => trivial)⟩⟩ rfl hn hsize hst (lv_room (pc := 0) (ls := #[]) (rest := []) (m := m) hr) hdg hf
theorem g_sld (hC : CallFix p m c cc nL s args Ts own) (hw : Wd dC dI tys ws (fun q : Nat => s.heap.size ≤ q) s H locs) {L : Nat} {xs : Nat → Int32} (hX : va_X b L xs s s.heap) (hbl : b < s.heap.size) (hL : L ≤ 3072) {i : Nat} (hi : i < L) (hdg : decode cc pc = .ok (.iaload, 1))
    (kk : W p l e R s m args below meth c H locs cells slots Q (F0 m (pc + 1) ls (.int (xs i) :: rest))) : W p l e R s m args below meth c H locs cells slots Q (F0 m pc ls (.int (nI i) :: .ref b :: rest)) :=
  va_sld hC.1 hC.2.1 hX hbl (Nat.not_le.mpr hbl) hw.2.2.2.2.1 ((in_nI (by omega)).mpr hi) hdg (by rw [nI_clamp (by omega)]; exact kk)
end LAWC
theorem JR.heads {cyI cyJ cyZ cyS : ClassId} {ad : Nat → Nat} {w1 w2 : va_W} (h : JR cyI cyJ cyZ cyS ad w1 w2) : (∃ fs, w1[0]? = some (ad 0, .inr (4, fs))) ∧ ∃ fs, w2[0]? = some (ad 40, .inr (5, fs)) := by
  refine JR.elim (P := fun w1 w2 => (∃ fs, w1[0]? = some (ad 0, .inr (4, fs))) ∧ ∃ fs, w2[0]? = some (ad 40, .inr (5, fs))) h ?_
  intros
  exact ⟨⟨_, rfl⟩, ⟨_, rfl⟩⟩
theorem nI_bv (n : Nat) : (nI n).toBitVec = BitVec.ofNat 32 n := rfl
theorem and31I (x : Int32) : ∃ k, k < 32 ∧ x &&& nI 31 = nI k := by
  refine ⟨x.toBitVec.toNat % 32, Nat.mod_lt _ (by decide), ?_⟩
  apply Int32.toBitVec_inj.mp
  apply BitVec.eq_of_toNat_eq
  rw [Int32.toBitVec_and, BitVec.toNat_and, nI_bv, nI_bv, BitVec.toNat_ofNat, BitVec.toNat_ofNat]
  have h1 : x.toBitVec.toNat % 32 < 32 := Nat.mod_lt _ (by decide)
  rw [show 31 % 2 ^ 32 = 2 ^ 5 - 1 from rfl, Nat.and_two_pow_sub_one_eq_mod, Nat.mod_eq_of_lt (show x.toBitVec.toNat % 32 < 2 ^ 32 by omega)]
theorem len6 {i L : Nat} (hL : L ≤ 3072) (hi : i < 2 ^ 31) (h : ¬ nI L - nI 6 < nI i) : i + 6 ≤ L := by
  rcases Nat.lt_or_ge L 6 with z | z
  · exfalso
    apply h
    have h0 : nI L - nI 6 < nI 0 := by
      rcases (show L = 0 ∨ L = 1 ∨ L = 2 ∨ L = 3 ∨ L = 4 ∨ L = 5 by omega) with rfl | rfl | rfl | rfl | rfl | rfl <;> decide
    rw [Int32.lt_iff_toInt_lt] at h0 ⊢
    rw [nI_toInt (by decide)] at h0
    rw [nI_toInt hi]
    omega
  · have e : nI L - nI 6 = nI (L - 6) := by
      have h1 : nI (L - 6) + nI 6 = nI L := by rw [nI_add, Nat.sub_add_cancel z]
      rw [← h1]
      simp
    rw [e, nI_ltI (by omega) hi] at h
    omega
theorem Wd.setv {dC : Nat → ClassId} {dI : Nat → Nat → Nat} {tys : List (ClassId × FieldType)} {ws : va_W} {A : Nat → Prop} {s : State} {H : Heap} {locs : List Loc} {k a : Nat} {c : ClassId} {a0 a1 : vp_A} (hk : ws[k]? = some (a, .inl (c, a0))) (he : vp_cell c a0 = vp_cell c a1) (h : Wd dC dI tys ws A s H locs) : Wd dC dI tys (ws.set k (a, .inl (c, a1))) A s H locs := by
  have key : ∀ (i : Nat) (q : Nat × va_E), (ws.set k (a, .inl (c, a1)))[i]? = some q → ∃ q' : Nat × va_E, ws[i]? = some q' ∧ q'.1 = q.1 ∧ (va_at (dC, dI) vwCl q' H → va_at (dC, dI) vwCl q H) := by
    intro i q hi
    by_cases e : i = k
    · subst e
      rw [List.getElem?_set_self (List.getElem?_eq_some_iff.mp hk).1] at hi
      cases hi
      refine ⟨_, hk, rfl, fun h1 => ?_⟩
      have h2 : H[a]? = some (vp_cell c a0) := h1
      show H[a]? = some (vp_cell c a1)
      rw [← he]
      exact h2
    · rw [List.getElem?_set_ne (Ne.symm e)] at hi
      exact ⟨q, hi, rfl, fun h1 => h1⟩
  refine ⟨h.1, h.2.1, fun i q hi => ?_, ⟨fun i j x y hi hj e => ?_, fun i q hi => ?_⟩, h.2.2.2.2.1, h.2.2.2.2.2⟩
  · obtain ⟨q', a1', -, a3⟩ := key i q hi
    exact a3 (h.2.2.1 i q' a1')
  · obtain ⟨x', a1', a2, -⟩ := key i x hi
    obtain ⟨y', b1', b2, -⟩ := key j y hj
    exact h.2.2.2.1.1 i j x' y' a1' b1' (by rw [a2, b2]; exact e)
  · obtain ⟨q', a1', a2, -⟩ := key i q hi
    rw [← a2]
    exact h.2.2.2.1.2 i q' a1'
def adL (l : List Nat) : Nat → Nat := fun k => l.getD k 0
