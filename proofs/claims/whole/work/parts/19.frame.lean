/-! A contract over a wider world: the frame. -/
theorem Met.mono {l : Launch} {y : MethodName} {ws : List Cond} {rm : Room} {Pc Pc' : Array Value → State → Prop} {Qc Qc' : Array Value → State → Outcome → State → Prop} {mc ms : Nat} {free free' : Addr → Prop} (h : Met l y ws rm Pc Qc mc ms free) (hP : ∀ a s, Pc' a s → Pc a s) (hQ : ∀ a s o t, Pc' a s → Qc a s o t → Qc' a s o t) (hf : ∀ q, free q → free' q) : Met l y ws rm Pc' Qc' mc ms free' := by
  intro p e h1 h2 h3 s m args below hf0 happ hP0 hK
  obtain ⟨n, o, a1, a2, a3, a4, L, a5, a6⟩ := h p e h1 h2 h3 s m args below hf0 happ (hP _ _ hP0) trivial
  exact ⟨n, o, a1, a2, a3, hQ _ _ _ _ hP0 a4, L, a5, fun q hq => hf _ (a6 q hq)⟩
theorem vaA_sub {ws wc : va_W} {sz : Nat} (isC : List Nat) (hC : isC.map (fun i => ws[i]?) = wc.map some) : ∀ q, va_A wc sz q → va_A ws sz q := by
  intro q h
  rcases h with ⟨k, e, h⟩ | h
  · have h1 : (isC.map (fun i => ws[i]?))[k]? = some (some (q, e)) := by rw [hC, List.getElem?_map, h]; rfl
    rw [List.getElem?_map] at h1
    cases hi : isC[k]? with
    | none => rw [hi] at h1; cases h1
    | some i => rw [hi] at h1; exact Or.inl ⟨i, e, Option.some.inj h1⟩
  · exact Or.inr h
section FRAME
variable {l : Launch} {y : MethodName} {wds : List Cond} {rm : Room} {dC : Nat → ClassId} {dI : Nat → Nat → Nat} {tys : List (ClassId × FieldType)} {av : List Value} {ws wc wr : va_W} {S : Type} {ws1 ws2 : S → va_W}
theorem fr_pre {sz : Nat} (isC : List Nat) (hC : isC.map (fun i => ws[i]?) = wc.map some) (hnC : va_nd isC = true) : ∀ a s, cPre dC dI tys av ws sz a s → cPre dC dI tys av wc sz a s := by
  rintro a s ⟨h1, h2, h3, h4, h5, h6⟩
  exact ⟨h1, h2, h3, h4.sub isC (fm_of hC), h5, h6.sub isC hnC hC⟩
theorem fr_end {sz : Nat} {w1 w2 : va_W} (isC isR is2 : List Nat) (hC : isC.map (fun i => ws[i]?) = wc.map some) (hR : isR.map (fun i => ws[i]?) = wr.map some) (hnR : va_nd isR = true) (hdis : ∀ i ∈ isR, i ∉ isC) (hn2 : va_nd is2 = true) (h2 : is2.map (fun i => (wr ++ w1)[i]?) = w2.map some)
    {a : Array Value} {s t : State} (hp : cPre dC dI tys av ws sz a s) (hF : va_F (va_A wc sz) s t) (hE : cEnd dC dI tys (va_A wc sz) w1 t) : va_F (va_A ws sz) s t ∧ cEnd dC dI tys (va_A ws sz) w2 t := by
  obtain ⟨-, rfl, -, h4, -, h6⟩ := hp
  obtain ⟨e1, e2, e3⟩ := hE
  obtain ⟨hP, hD⟩ := va_join h4 h6.self isC isR hC hR hnR hdis hF.2 (vaA_sub isC hC) e1 e3
  exact ⟨⟨hF.1, fun q h1 h2 => hF.2 q h1 (fun z => h2 (vaA_sub isC hC q z))⟩, hP.sub is2 (fm_of h2), e2, hD.sub is2 hn2 h2⟩
theorem CtI.frame {post : Int32 → S → Prop} (h : CtI l y wds rm dC dI tys av wc post ws1) (isC isR is2 : List Nat) (hC : isC.map (fun i => ws[i]?) = wc.map some) (hnC : va_nd isC = true) (hR : isR.map (fun i => ws[i]?) = wr.map some) (hnR : va_nd isR = true) (hdis : ∀ i ∈ isR, i ∉ isC) (hn2 : va_nd is2 = true) (h2 : ∀ u, is2.map (fun i => (wr ++ ws1 u)[i]?) = (ws2 u).map some) : CtI l y wds rm dC dI tys av ws post ws2 :=
  fun sz => Met.mono (h sz) (fr_pre isC hC hnC) (fun a s o t hp hq => by
    obtain ⟨⟨r, u, q1, q2, q3⟩, q4⟩ := hq
    obtain ⟨z1, z2⟩ := fr_end isC isR is2 hC hR hnR hdis hn2 (h2 u) hp q4 q3
    exact ⟨⟨r, u, q1, q2, z2⟩, z1⟩) (vaA_sub isC hC)
theorem CtL.frame {post : Int64 → S → Prop} (h : CtL l y wds rm dC dI tys av wc post ws1) (isC isR is2 : List Nat) (hC : isC.map (fun i => ws[i]?) = wc.map some) (hnC : va_nd isC = true) (hR : isR.map (fun i => ws[i]?) = wr.map some) (hnR : va_nd isR = true) (hdis : ∀ i ∈ isR, i ∉ isC) (hn2 : va_nd is2 = true) (h2 : ∀ u, is2.map (fun i => (wr ++ ws1 u)[i]?) = (ws2 u).map some) : CtL l y wds rm dC dI tys av ws post ws2 :=
  fun sz => Met.mono (h sz) (fr_pre isC hC hnC) (fun a s o t hp hq => by
    obtain ⟨⟨r, u, q1, q2, q3⟩, q4⟩ := hq
    obtain ⟨z1, z2⟩ := fr_end isC isR is2 hC hR hnR hdis hn2 (h2 u) hp q4 q3
    exact ⟨⟨r, u, q1, q2, z2⟩, z1⟩) (vaA_sub isC hC)
end FRAME
