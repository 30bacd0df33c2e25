/-! ===== a contract over a larger world ===== -/
theorem tg_fA {ws wc : va_W} {sz : Nat} (isC : List Nat) (hC : isC.map (fun i => ws[i]?) = wc.map some) : ∀ q, va_A wc sz q → va_A ws sz q := by
  intro q h
  rcases h with ⟨k, e, h⟩ | h
  · have h1 : (isC.map (fun i => ws[i]?))[k]? = some (some (q, e)) := by rw [hC, List.getElem?_map, h]; rfl
    rw [List.getElem?_map] at h1
    cases hi : isC[k]? with
    | none => rw [hi] at h1; cases h1
    | some i => rw [hi] at h1; exact Or.inl ⟨i, e, Option.some.inj h1⟩
  · exact Or.inr h
theorem tg_fP {D : va_G} {ty : Nat → ClassId} {ws wc : va_W} {sz : Nat} {av : List Value} {args : Array Value} {U : State} (isC : List Nat) (hC : isC.map (fun i => ws[i]?) = wc.map some) (hnd : va_nd isC = true) (h : va_Pc av (tg_pre D ty ws sz) args U) : va_Pc av (tg_pre D ty wc sz) args U := by
  obtain ⟨h0, h1, hP, hK, hD, hN⟩ := h
  exact ⟨h0, h1, tg_subP hP isC hC, hK, hD.sub isC hnd hC, hN⟩
theorem tg_fB {S : Type} {D : va_G} {ty : Nat → ClassId} {ws wc wr w1 w2 : va_W} {sz : Nat} {av : List Value} {args : Array Value} {U t : State} {u : S} {cs' : S → va_W} (isC isR isO : List Nat) (hC : isC.map (fun i => ws[i]?) = wc.map some) (hR : isR.map (fun i => ws[i]?) = wr.map some) (hn2 : va_nd isR = true) (hdis : ∀ i ∈ isR, i ∉ isC) (h1 : cs' u = w1)
    (hO : isO.map (fun i => (wr ++ w1)[i]?) = w2.map some) (hO2 : va_nd isO = true) (h : va_Pc av (tg_pre D ty ws sz) args U) (hB : tg_B D wc cs' sz u t) (hF : va_F (va_A wc sz) U t) : va_P D vwCl w2 t.heap ∧ va_D (va_A ws sz) w2 := by
  obtain ⟨h0, hs, hP, hK, hD, hN⟩ := h
  subst h1
  subst hs
  obtain ⟨g1, g2⟩ := va_join hP (hD.self (sz := U.heap.size)) isC isR hC hR hn2 hdis hF.2 (tg_fA isC hC) hB.1 hB.2
  exact ⟨tg_subP g1 isO hO, g2.sub isO hO2 hO⟩
theorem tg_fF {ws wc : va_W} {sz : Nat} {U t : State} (isC : List Nat) (hC : isC.map (fun i => ws[i]?) = wc.map some) (hF : va_F (va_A wc sz) U t) : va_F (va_A ws sz) U t := ⟨hF.1, fun q h1 h2 => hF.2 q h1 (fun z => h2 (tg_fA isC hC q z))⟩
theorem tg_frI {l : Launch} {y : MethodName} {wy : List Cond} {rm : Room} {D : va_G} {ty : Nat → ClassId} {av : List Value} {ws wc wr w1 w2 : va_W} {r : Int32} {mc ms : Nat} (hM : tg_Mi l y wy rm D ty av wc w1 r mc ms) (isC isR isO : List Nat) (hC : isC.map (fun i => ws[i]?) = wc.map some) (hR : isR.map (fun i => ws[i]?) = wr.map some) (hnd : va_nd isC = true) (hn2 : va_nd isR = true) (hdis : ∀ i ∈ isR, i ∉ isC)
    (hO : isO.map (fun i => (wr ++ w1)[i]?) = w2.map some) (hO2 : va_nd isO = true) : tg_Mi l y wy rm D ty av ws w2 r mc ms := by
  intro sz p e ha hc hk s m args below hf happ hp _
  obtain ⟨n, o, h1, h2, h3, ⟨⟨r1, u, hv, hr, hB⟩, hF⟩, L, hL1, hL2⟩ := hM sz p e ha hc hk s m args below hf happ (tg_fP isC hC hnd hp) trivial
  obtain ⟨g1, g2⟩ := tg_fB isC isR isO hC hR hn2 hdis rfl hO hO2 hp hB hF
  exact ⟨n, o, h1, h2, h3, ⟨⟨r1, u, hv, hr, g1, g2⟩, tg_fF isC hC hF⟩, L, hL1, fun q hq => tg_fA isC hC _ (hL2 q hq)⟩
theorem tg_frV {l : Launch} {y : MethodName} {wy : List Cond} {rm : Room} {D : va_G} {ty : Nat → ClassId} {av : List Value} {ws wc wr w1 w2 : va_W} {mc ms : Nat} (hM : tg_Mv (S := Unit) l y wy rm D ty av wc (fun _ => w1) mc ms) (isC isR isO : List Nat) (hC : isC.map (fun i => ws[i]?) = wc.map some) (hR : isR.map (fun i => ws[i]?) = wr.map some) (hnd : va_nd isC = true) (hn2 : va_nd isR = true) (hdis : ∀ i ∈ isR, i ∉ isC)
    (hO : isO.map (fun i => (wr ++ w1)[i]?) = w2.map some) (hO2 : va_nd isO = true) : tg_Mv (S := Unit) l y wy rm D ty av ws (fun _ => w2) mc ms := by
  intro sz p e ha hc hk s m args below hf happ hp _
  obtain ⟨n, o, h1, h2, h3, ⟨⟨u, hv, hr, hB⟩, hF⟩, L, hL1, hL2⟩ := hM sz p e ha hc hk s m args below hf happ (tg_fP isC hC hnd hp) trivial
  obtain ⟨g1, g2⟩ := tg_fB isC isR isO hC hR hn2 hdis rfl hO hO2 hp hB hF
  exact ⟨n, o, h1, h2, h3, ⟨⟨u, hv, hr, g1, g2⟩, tg_fF isC hC hF⟩, L, hL1, fun q hq => tg_fA isC hC _ (hL2 q hq)⟩
theorem tg_frL {l : Launch} {y : MethodName} {wy : List Cond} {rm : Room} {D : va_G} {ty : Nat → ClassId} {av : List Value} {ws wc wr w1 w2 : va_W} {r : Int64} {mc ms : Nat} (hM : tg_Ml l y wy rm D ty av wc w1 r mc ms) (isC isR isO : List Nat) (hC : isC.map (fun i => ws[i]?) = wc.map some) (hR : isR.map (fun i => ws[i]?) = wr.map some) (hnd : va_nd isC = true) (hn2 : va_nd isR = true) (hdis : ∀ i ∈ isR, i ∉ isC)
    (hO : isO.map (fun i => (wr ++ w1)[i]?) = w2.map some) (hO2 : va_nd isO = true) : tg_Ml l y wy rm D ty av ws w2 r mc ms := by
  intro sz p e ha hc hk s m args below hf happ hp _
  obtain ⟨n, o, h1, h2, h3, ⟨⟨r1, u, hv, hr, hB⟩, hF⟩, L, hL1, hL2⟩ := hM sz p e ha hc hk s m args below hf happ (tg_fP isC hC hnd hp) trivial
  obtain ⟨g1, g2⟩ := tg_fB isC isR isO hC hR hn2 hdis rfl hO hO2 hp hB hF
  exact ⟨n, o, h1, h2, h3, ⟨⟨r1, u, hv, hr, g1, g2⟩, tg_fF isC hC hF⟩, L, hL1, fun q hq => tg_fA isC hC _ (hL2 q hq)⟩
