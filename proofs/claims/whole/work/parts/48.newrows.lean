/-! ===== rows that make things: arrays of the five classes, objects, constructors ===== -/
section TNR
variable {p : Program} {l : Launch} {e : Env} {R : Room} {s : State} {m : MethodId} {args : Array Value} {below : List Frame} {meth : Method} {c : Code} {H : Heap} {locs : List Loc} {cells slots : Nat} {Q : State → Prop}
variable {cc : ByteArray} {pc : Nat} {ls : Array Slot} {rest : List Value} {D : va_G} {A : Nat → Prop} {a : Nat} {ty : Nat → ClassId} {ws : va_W} {H0 : Heap}
theorem tn_newI (hx : p.tables.exec = Jvm.exec) (hb : c.code = cc) (harr : (Cond.arrayClass .int).before args s = true) (hK : va_K D vwCl (tg_tys ty) s) (hP : va_P D vwCl ws H) (hD : va_D A ws) (hS : va_S A H0 H locs) (hA : ∀ q, H0.size ≤ q → A q)
    {N : Nat} (hN : N < 100000) (hcells : cells + 1 ≤ R.cells) (hslots : slots + N ≤ R.slots) (hdg : decode cc pc = .ok (.newarray .int, 2))
    (kk : ∀ (q : Nat) (H1 : Heap), va_P D vwCl (ws ++ [(q, .inl (ty 0, N, .inl (fun _ => 0)))]) H1 → va_D A (ws ++ [(q, .inl (ty 0, N, .inl (fun _ => 0)))]) → va_S A H0 H1 locs →
      W p l e R s m args below meth c H1 locs (cells + 1) (slots + N) Q (F0 m (pc + 2) ls (.ref q :: rest))) : W p l e R s m args below meth c H locs cells slots Q (F0 m pc ls (.int (nI N) :: rest)) := by
  refine va_newa hx hb (atype := .int) harr (ty := .int) rfl hK hP hD hS hA (a0 := (N, .inl (fun _ => 0))) (fun cA => vp_cell_i cA N (fun _ => 0)) (nI_pos (by omega)) (nI_clamp (by omega)) (by show N * 4 ≤ 536870912; omega) hcells hslots hdg (fun q cA H1 hK1 hP1 hD1 hS1 => ?_)
  have h1 : va_RA s cA .int := (hK1.2 5 _ rfl).2
  have h2 : va_RA s (ty 0) .int := (hK.2 0 _ rfl).2
  cases Option.some.inj ((show s.vm.findClass ("[" ++ FieldType.int.toString) = some cA from h1).symm.trans h2)
  exact kk q H1 hP1 hD1 hS1
theorem tn_newJ (hx : p.tables.exec = Jvm.exec) (hb : c.code = cc) (harr : (Cond.arrayClass .long).before args s = true) (hK : va_K D vwCl (tg_tys ty) s) (hP : va_P D vwCl ws H) (hD : va_D A ws) (hS : va_S A H0 H locs) (hA : ∀ q, H0.size ≤ q → A q)
    {N : Nat} (hN : N < 100000) (hcells : cells + 1 ≤ R.cells) (hslots : slots + N ≤ R.slots) (hdg : decode cc pc = .ok (.newarray .long, 2))
    (kk : ∀ (q : Nat) (H1 : Heap), va_P D vwCl (ws ++ [(q, .inl (ty 1, N, .inr (.inl (fun _ => 0))))]) H1 → va_D A (ws ++ [(q, .inl (ty 1, N, .inr (.inl (fun _ => 0))))]) → va_S A H0 H1 locs →
      W p l e R s m args below meth c H1 locs (cells + 1) (slots + N) Q (F0 m (pc + 2) ls (.ref q :: rest))) : W p l e R s m args below meth c H locs cells slots Q (F0 m pc ls (.int (nI N) :: rest)) := by
  refine va_newa hx hb (atype := .long) harr (ty := .long) rfl hK hP hD hS hA (a0 := (N, .inr (.inl (fun _ => 0)))) (fun cA => vp_cell_l cA N (fun _ => 0)) (nI_pos (by omega)) (nI_clamp (by omega)) (by show N * 8 ≤ 536870912; omega) hcells hslots hdg (fun q cA H1 hK1 hP1 hD1 hS1 => ?_)
  have h1 : va_RA s cA .long := (hK1.2 5 _ rfl).2
  have h2 : va_RA s (ty 1) .long := (hK.2 1 _ rfl).2
  cases Option.some.inj ((show s.vm.findClass ("[" ++ FieldType.long.toString) = some cA from h1).symm.trans h2)
  exact kk q H1 hP1 hD1 hS1
theorem tn_newZ (hx : p.tables.exec = Jvm.exec) (hb : c.code = cc) (harr : (Cond.arrayClass .boolean).before args s = true) (hK : va_K D vwCl (tg_tys ty) s) (hP : va_P D vwCl ws H) (hD : va_D A ws) (hS : va_S A H0 H locs) (hA : ∀ q, H0.size ≤ q → A q)
    {N : Nat} (hN : N < 100000) (hcells : cells + 1 ≤ R.cells) (hslots : slots + N ≤ R.slots) (hdg : decode cc pc = .ok (.newarray .boolean, 2))
    (kk : ∀ (q : Nat) (H1 : Heap), va_P D vwCl (ws ++ [(q, .inl (ty 2, N, .inl (fun _ => 0)))]) H1 → va_D A (ws ++ [(q, .inl (ty 2, N, .inl (fun _ => 0)))]) → va_S A H0 H1 locs →
      W p l e R s m args below meth c H1 locs (cells + 1) (slots + N) Q (F0 m (pc + 2) ls (.ref q :: rest))) : W p l e R s m args below meth c H locs cells slots Q (F0 m pc ls (.int (nI N) :: rest)) := by
  refine va_newa hx hb (atype := .boolean) harr (ty := .boolean) rfl hK hP hD hS hA (a0 := (N, .inl (fun _ => 0))) (fun cA => vp_cell_i cA N (fun _ => 0)) (nI_pos (by omega)) (nI_clamp (by omega)) (by show N * 1 ≤ 536870912; omega) hcells hslots hdg (fun q cA H1 hK1 hP1 hD1 hS1 => ?_)
  have h1 : va_RA s cA .boolean := (hK1.2 5 _ rfl).2
  have h2 : va_RA s (ty 2) .boolean := (hK.2 2 _ rfl).2
  cases Option.some.inj ((show s.vm.findClass ("[" ++ FieldType.boolean.toString) = some cA from h1).symm.trans h2)
  exact kk q H1 hP1 hD1 hS1
theorem tn_newR (hx : p.tables.exec = Jvm.exec) (hb : c.code = cc) {own C : String} {index : Nat} (hown : s.vm.findClass own = some m.cls) (hcl : (Cond.classLink own index C).before args s = true) (hover : va_AO C s) (hK : va_K D vwCl (tg_tys ty) s) (hP : va_P D vwCl ws H) (hD : va_D A ws) (hS : va_S A H0 H locs) (hA : ∀ q, H0.size ≤ q → A q) (t0 : Nat) (ht : (tg_tys ty)[t0]? = some (ty t0, .object C))
    {N : Nat} (hN : N < 100000) (hcells : cells + 1 ≤ R.cells) (hslots : slots + N ≤ R.slots) (hdg : decode cc pc = .ok (.anewarray index, 3))
    (kk : ∀ (q : Nat) (H1 : Heap), va_P D vwCl (ws ++ [(q, .inl (ty t0, N, .inr (.inr (.inr (.inr (fun _ => none))))))]) H1 → va_D A (ws ++ [(q, .inl (ty t0, N, .inr (.inr (.inr (.inr (fun _ => none))))))]) → va_S A H0 H1 locs →
      W p l e R s m args below meth c H1 locs (cells + 1) (slots + N) Q (F0 m (pc + 3) ls (.ref q :: rest))) : W p l e R s m args below meth c H locs cells slots Q (F0 m pc ls (.int (nI N) :: rest)) := by
  refine va_newq hx hb hown hcl hover hK hP hD hS hA (nI_pos (by omega)) (nI_clamp (by omega)) (by omega) hcells hslots hdg (fun q cA H1 hK1 hP1 hD1 hS1 => ?_)
  have h1 : va_RA s cA (.object C) := (hK1.2 5 _ rfl).2
  have h2 : va_RA s (ty t0) (.object C) := (hK.2 t0 _ ht).2
  obtain ⟨_, _, _, _, _, g1⟩ := h1
  obtain ⟨_, _, _, _, _, g2⟩ := h2
  cases Option.some.inj (g1.symm.trans g2)
  exact kk q H1 hP1 hD1 hS1
theorem tn_obj (hx : p.tables.exec = Jvm.exec) (hb : c.code = cc) {own : String} (hown : s.vm.findClass own = some m.cls) {idx : Nat} (hlink : (Cond.methodLink own idx objectInit).before args s = true) (hinst : (Cond.instanceMethod objectInit).before args s = true) (hcode : (Cond.code objectInit ⟨#[0xb1]⟩ 1 none).before args s = true)
    (hsize : ls.size = c.maxLocals) (hd : decode cc pc = .ok (.invokespecial idx, 3)) (hframes : 1 ≤ R.frames) (hlocals : 2 * (F0 m pc ls (.ref a :: rest)).monitorRoom + (rest.map fun v => v.category).sum + 12 ≤ R.locals)
    (kk : W p l e R s m args below meth c H locs cells slots Q (F0 m (pc + 3) ls rest)) : W p l e R s m args below meth c H locs cells slots Q (F0 m pc ls (.ref a :: rest)) :=
  W.objInit hx hb hown hlink hinst hcode (g := F0 m pc ls (.ref a :: rest)) rfl hsize rfl hd hframes hlocals kk
/-- a final field in a constructor, the new world named -/
theorem tn_put (hx : p.tables.exec = Jvm.exec) (hb : c.code = cc) {own ref C : String} {T : u_T} {N ci index : Nat} {Ts : List Cond} (hts : ∀ w ∈ Ts, w.before args s = true) (hin : ∀ w ∈ u_ws C T N, w ∈ Ts) (ty0 : Nat → FieldType) (hty : ∀ k, k < N → parseFieldDescriptor (T k).2.2.1 = some (ty0 k)) (hnm : ∀ a, a < N → ∀ b, b < N → a ≠ b → (T a).2.1 ≠ (T b).2.1) (hown : s.vm.findClass own = some m.cls) (hK : va_K D vwCl (tg_tys ty) s) (hP : va_P D vwCl ws H) (hD : va_D A ws) (hS0 : va_S A H0 H locs) (q0 : Nat) {fs : List Value} (he : ws[q0]? = some (a, .inr (ci, fs))) (hc : vwCl[ci]? = some (C, T, N)) (k : Nat) (hk : k < N) (hlink : (Cond.fieldLink own index ref (T k).2.1 (T k).2.2.1).before args s = true) (hsame : ∀ x, s.fieldFound? (T k).1 (T k).2.1 (T k).2.2.1 = some x → s.fieldFound? ref (T k).2.1 (T k).2.2.1 = some x) (hfin : (T k).2.2.2 = true) (hin2 : meth.name = "<init>") (hdecl : (T k).1 = own) {v : Value} (hn : narrow (ty0 k) v = v) (hfit : fits (ty0 k) v = true) (hl : k < fs.length)
    (hdg : decode cc pc = .ok (.putfield index, 3)) {ws' : va_W} (hw : ws.set q0 (a, .inr (ci, fs.set k v)) = ws')
    (kk : ∀ (H1 : Heap) (locs1 : List Loc), va_P D vwCl ws' H1 → va_D A ws' → va_S A H0 H1 locs1 → W p l e R s m args below meth c H1 locs1 cells slots Q (F0 m (pc + 3) ls rest)) : W p l e R s m args below meth c H locs cells slots Q (F0 m pc ls (v :: .ref a :: rest)) := by
  subst hw
  exact va_putF hx hb hts hin ty0 hty hnm hown hK hP hD hS0 q0 he hc k hk hlink hsame hfin hin2 hdecl (hty k hk) hn hfit hl hdg kk
/-- an element of an array of objects -/
theorem tn_aast (hx : p.tables.exec = Jvm.exec) (hb : c.code = cc) (hK : va_K D vwCl (tg_tys ty) s) (hP : va_P D vwCl ws H) (hD : va_D A ws) (hS : va_S A H0 H locs) (q0 t0 qk ci : Nat) {r : vw_C} {n v : Nat} {vs : List Value} {f : Nat → Option Nat} (ha : ws[q0]? = some (a, .inl (ty t0, n, .inr (.inr (.inr (.inr f)))))) (ht : (tg_tys ty)[t0]? = some (ty t0, .object r.1)) (hv : ws[qk]? = some (v, .inr (ci, vs))) (hc : vwCl[ci]? = some r) {k : Nat} (hk : k < n) (hn : n < 2 ^ 31) (hdg : decode cc pc = .ok (.aastore, 1)) {ws' : va_W} (hw : ws.set q0 (a, .inl (ty t0, n, .inr (.inr (.inr (.inr (va_up f k (some v))))))) = ws')
    (kk : ∀ (H1 : Heap) (locs1 : List Loc), va_P D vwCl ws' H1 → va_D A ws' → va_S A H0 H1 locs1 → W p l e R s m args below meth c H1 locs1 cells slots Q (F0 m (pc + 1) ls rest)) : W p l e R s m args below meth c H locs cells slots Q (F0 m pc ls (.ref v :: .int (nI k) :: .ref a :: rest)) := by
  subst hw
  refine va_astq hx hb hK hP hD hS q0 t0 qk ci ha ht hv hc (vp_in_nI hk hn) hdg ?_
  rw [nI_clamp (by omega)]
  exact kk
variable {y : MethodName} {bytes : ByteArray} {maxL nL mc ms n index : Nat} {wy : List Cond} {rm : Room} {Ts : List Cond} {own : String} {b : Addr} {st0 : List Value} {wc wr : va_W}
/-- a constructor without arguments is called -/
theorem tn_I {S : Type} {cs' : S → va_W} (F : CallFix p m c cc nL s args Ts own) (hM : tg_Mv (S := S) l y wy rm D ty [.ref b] wc cs' mc ms) (cw : CallB R s args own index y bytes maxL none wy rm mc ms 0 ∧ y.name = "<init>" ∧ (Cond.instanceMethod y).before args s = true) (hK : va_K D vwCl (tg_tys ty) s) (hN : tg_N s) (hP : va_P D vwCl ws H) (hD : va_D A ws) (hS : va_S A s.heap H locs) (hA : ∀ q, s.heap.size ≤ q → A q) (isC isR : List Nat)
    (hC : isC.map (fun i => ws[i]?) = wc.map some) (hR : isR.map (fun i => ws[i]?) = wr.map some) (hnd : va_nd isC = true) (hn2 : va_nd isR = true) (hdis : ∀ i ∈ isR, i ∉ isC) (hsize : ls.size = nL) (hst : st0 = .ref b :: rest) (hW : (rest.map fun v => v.category).sum ≤ 8) (hdg : decode cc pc = .ok (.invokespecial index, 3)) (hf : cells + mc ≤ R.cells ∧ slots + ms ≤ R.slots)
    (kk : ∀ (u : S) (H1 : Heap) (locs1 : List Loc), va_P D vwCl (wr ++ cs' u) H1 → va_D A (wr ++ cs' u) → va_S A s.heap H1 locs1 → W p l e R s m args below meth c H1 locs1 (cells + mc) (slots + ms) Q (F0 m (pc + 3) ls rest)) : W p l e R s m args below meth c H locs cells slots Q (F0 m pc ls st0) := by
  have hF := va_free hD hS hA isC hC
  refine va_callv (va_runI (As := []) (rest := rest) F (hM H.size) cw (tg_pS hK hN hP hD isC hC hnd) rfl rfl hsize hst (lv_room hW) hdg hf) hS (fun q _ h => hF q h) hF (fun u t H1 locs1 ht hvm hw hB hz1 hk1 hS1 => ?_)
  subst ht
  obtain ⟨g1, g2⟩ := va_join hP hD isC isR hC hR hn2 hdis hk1 hF hB.1 hB.2
  exact kk u t.heap locs1 g1 g2 hS1
end TNR
/-- a constructor that makes arrays of objects -/
def tn_P (D : va_G) (ty : Nat → ClassId) (cs : va_W) (sz : Nat) (U : State) : Prop := tg_pre D ty cs sz U ∧ va_AO RX1 U ∧ va_AO RX0 U
def tn_Mv {S : Type} (l : Launch) (y : MethodName) (ws : List Cond) (rm : Room) (D : va_G) (ty : Nat → ClassId) (av : List Value) (cs : va_W) (cs' : S → va_W) (mc ms : Nat) : Prop :=
  ∀ sz : Nat, Met l y ws rm (va_Pc av (tn_P D ty cs sz)) (va_Qv (fun _ : S => True) (tg_B D cs cs' sz) (va_A cs sz)) mc ms (va_A cs sz)
theorem tn_blind {D : va_G} {ty : Nat → ClassId} {cs : va_W} {sz : Nat} {av : List Value} : FrameBlind (va_Pc av (tn_P D ty cs sz)) := fun a U g mk q => by
  obtain ⟨q0, ⟨q1, qP, qK, qD, qN⟩, h1, h2⟩ := q
  exact ⟨q0, ⟨q1, qP, va_K.moved (u := U) (U := U.calling g mk a) (Vm.Alike.refl U.vm) qK, qD, tg_N.same (s := U) (U := U.calling g mk a) rfl qN⟩, va_AO.moved (u := U) (U := U.calling g mk a) (Vm.Alike.refl U.vm) h1, va_AO.moved (u := U) (U := U.calling g mk a) (Vm.Alike.refl U.vm) h2⟩
theorem tn_start {S : Type} {l : Launch} {y : MethodName} {ws ws' : List Cond} {rm : Room} {D : va_G} {ty : Nat → ClassId} {av : List Value} {cs : va_W} {cs' : S → va_W} {mc ms : Nat} {cc : ByteArray} {maxL : Nat} {lvs : List (Nat × Value)}
    (hy : plainName y.cls = true) (hw : ws = Cond.code y cc maxL none :: ws') (hlen : (lg_sl av).length ≤ maxL) (hlv : lv_args 0 av = lvs)
    (body : ∀ (p : Program) (e : Env) (s : State) (m : MethodId) (args : Array Value) (below : List Frame) (meth : Method) (c : Code) (A : Nat → Prop) (ls : Array Slot) (Q : State → Prop), p.tables.exec = Jvm.exec → c.code = cc → meth.sig.returnType = none → (∀ w ∈ ws, w.before args s = true) → s.vm.findClass y.cls = some m.cls → meth.locks = false → c.maxLocals = maxL → meth.name = y.name →
      (∀ q, s.heap.size ≤ q → A q) → va_P D vwCl cs s.heap → va_D A cs → va_S A s.heap s.heap [] → va_K D vwCl (tg_tys ty) s → tg_N s → lv_has ls maxL lvs →
      (∀ (H : Heap) (locs : List Loc) (pc : Nat) (ls : Array Slot) (u : S), va_P D vwCl (cs' u) H → va_D A (cs' u) → va_S A s.heap H locs → decode cc pc = .ok (.return_, 1) → W p l e rm s m args below meth c H locs mc ms Q (F0 m pc ls [])) → va_AO RX1 s → va_AO RX0 s →
      W p l e rm s m args below meth c s.heap [] 0 0 Q (F0 m 0 ls [])) : tn_Mv l y ws rm D ty av cs cs' mc ms := by
  intro sz
  refine Met.ofW (cc := cc) (maxL := maxL) (ret := none) hy hw ?_
  intro p e s m args below meth c s₁ B hml hv
  obtain ⟨rfl, ⟨hsz, hP, hK, hD0, hN⟩, hO1, hO0⟩ := hv
  subst hsz
  subst hlv
  have hl := lv_entry av (n := maxL) hlen
  rw [lg_entry_eq]
  exact body p e s m av.toArray below meth c (va_A cs s.heap.size) _ _ B.exec B.bytes B.returns (atoms_spec (ws := ws) B.pre) (findClass_of_methodNamed B.named) B.notSynchronized hml (name_of_methodNamed B.named B.method).1 (fun q h => Or.inr h) hP hD0.self va_S.rf hK hN hl
    (fun H locs pc ls u h1 h2 h3 hd => W.vret B.exec B.bytes B.returns (fun t ht hW => ⟨⟨u, rfl, trivial, by rw [ht]; exact h1, h2⟩, h3.F ht⟩) h3.2.2 hd) hO1 hO0
