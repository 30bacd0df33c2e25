/-! ===== what this proof's contracts look like, and its rows for calls, arrays, branches and returns ===== -/
abbrev tg_tys (ty : Nat → ClassId) : List (ClassId × FieldType) := [(ty 0, .int), (ty 1, .long), (ty 2, .boolean), (ty 3, .object RX1), (ty 4, .object RX0)]
/-- what the tables say of the two calls from Store into its host -/
def tg_N (U : State) : Prop := va_Nw (.methodLinkNest RX1 35 yX2_treePlace RX2) U ∧ va_Nw (.methodLinkNest RX1 46 yX2_nodesOf RX2) U
theorem tg_N.warm {s U : State} (h : s.WarmedH U.vm) (hN : tg_N s) : tg_N U := ⟨va_Nw.warmM h hN.1, va_Nw.warmM h hN.2⟩
theorem tg_N.same {s U : State} (h : s.vm = U.vm) (hN : tg_N s) : tg_N U := ⟨va_Nw.same rfl h hN.1, va_Nw.same rfl h hN.2⟩
def tg_pre (D : va_G) (ty : Nat → ClassId) (cs : va_W) (sz : Nat) (U : State) : Prop := U.heap.size = sz ∧ va_P D vwCl cs U.heap ∧ va_K D vwCl (tg_tys ty) U ∧ va_D (fun _ => True) cs ∧ tg_N U
def tg_B {S : Type} (D : va_G) (cs : va_W) (cs' : S → va_W) (sz : Nat) (u : S) (t : State) : Prop := va_P D vwCl (cs' u) t.heap ∧ va_D (va_A cs sz) (cs' u)
/-- contracts: the cells cs become cs', the answer is r -/
def tg_Mi (l : Launch) (y : MethodName) (ws : List Cond) (rm : Room) (D : va_G) (ty : Nat → ClassId) (av : List Value) (cs cs' : va_W) (r : Int32) (mc ms : Nat) : Prop :=
  ∀ sz : Nat, Met l y ws rm (va_Pc av (tg_pre D ty cs sz)) (va_Qi (fun x (_ : Unit) => x = r) (tg_B D cs (fun _ => cs') sz) (va_A cs sz)) mc ms (va_A cs sz)
def tg_Ml (l : Launch) (y : MethodName) (ws : List Cond) (rm : Room) (D : va_G) (ty : Nat → ClassId) (av : List Value) (cs cs' : va_W) (r : Int64) (mc ms : Nat) : Prop :=
  ∀ sz : Nat, Met l y ws rm (va_Pc av (tg_pre D ty cs sz)) (va_Ql (fun x (_ : Unit) => x = r) (tg_B D cs (fun _ => cs') sz) (va_A cs sz)) mc ms (va_A cs sz)
def tg_Mv {S : Type} (l : Launch) (y : MethodName) (ws : List Cond) (rm : Room) (D : va_G) (ty : Nat → ClassId) (av : List Value) (cs : va_W) (cs' : S → va_W) (mc ms : Nat) : Prop :=
  ∀ sz : Nat, Met l y ws rm (va_Pc av (tg_pre D ty cs sz)) (va_Qv (fun _ : S => True) (tg_B D cs cs' sz) (va_A cs sz)) mc ms (va_A cs sz)
theorem tg_blind {D : va_G} {ty : Nat → ClassId} {cs : va_W} {sz : Nat} {av : List Value} : FrameBlind (va_Pc av (tg_pre D ty cs sz)) := fun a U g mk q => by
  obtain ⟨q0, q1, qP, qK, qD, qN⟩ := q
  exact ⟨q0, q1, qP, va_K.moved (u := U) (U := U.calling g mk a) (Vm.Alike.refl U.vm) qK, qD, tg_N.same (s := U) (U := U.calling g mk a) rfl qN⟩
/-- the start of a body -/
theorem tg_start {l : Launch} {y : MethodName} {ws ws' : List Cond} {rm : Room} {D : va_G} {ty : Nat → ClassId} {av : List Value} {cs : va_W} {Qc : Nat → Array Value → State → Outcome → State → Prop} {mc ms : Nat} {cc : ByteArray} {maxL : Nat} {ret : Option FieldType} {lvs : List (Nat × Value)}
    (hy : plainName y.cls = true) (hw : ws = Cond.code y cc maxL ret :: ws') (hlen : (lg_sl av).length ≤ maxL) (hlv : lv_args 0 av = lvs)
    (body : ∀ (p : Program) (e : Env) (s : State) (m : MethodId) (below : List Frame) (meth : Method) (c : Code) (A : Nat → Prop) (ls : Array Slot), p.tables.exec = Jvm.exec → c.code = cc → meth.sig.returnType = ret → (∀ w ∈ ws, w.before av.toArray s = true) → s.vm.findClass y.cls = some m.cls → meth.locks = false → c.maxLocals = maxL → meth.name = y.name →
      (∀ q, s.heap.size ≤ q → A q) → va_A cs s.heap.size = A → va_P D vwCl cs s.heap → va_D A cs → va_S A s.heap s.heap [] → va_K D vwCl (tg_tys ty) s → tg_N s → lv_has ls maxL lvs →
      W p l e rm s m av.toArray below meth c s.heap [] 0 0 (MQ below (Qc s.heap.size) av.toArray s mc ms A) (F0 m 0 ls [])) :
    ∀ sz : Nat, Met l y ws rm (va_Pc av (tg_pre D ty cs sz)) (Qc sz) mc ms (va_A cs sz) := by
  intro sz
  refine Met.ofW (cc := cc) (maxL := maxL) (ret := ret) hy hw ?_
  intro p e s m args below meth c s₁ B hml hv
  obtain ⟨rfl, hsz, hP, hK, hD0, hN⟩ := hv
  subst hsz
  subst hlv
  have hl := lv_entry av (n := maxL) hlen
  rw [lg_entry_eq]
  exact body p e s m below meth c (va_A cs s.heap.size) _ B.exec B.bytes B.returns (atoms_spec (ws := ws) B.pre) (findClass_of_methodNamed B.named) B.notSynchronized hml (name_of_methodNamed B.named B.method).1 (fun q h => Or.inr h) rfl hP hD0.self va_S.rf hK hN hl
/-- bodies: the end is one row, the goal a name -/
theorem tg_start_i {l : Launch} {y : MethodName} {ws ws' : List Cond} {rm : Room} {D : va_G} {ty : Nat → ClassId} {av : List Value} {cs cs' : va_W} {r : Int32} {mc ms : Nat} {cc : ByteArray} {maxL : Nat} {lvs : List (Nat × Value)}
    (hy : plainName y.cls = true) (hw : ws = Cond.code y cc maxL (some .int) :: ws') (hlen : (lg_sl av).length ≤ maxL) (hlv : lv_args 0 av = lvs)
    (body : ∀ (p : Program) (e : Env) (s : State) (m : MethodId) (args : Array Value) (below : List Frame) (meth : Method) (c : Code) (A : Nat → Prop) (ls : Array Slot) (Q : State → Prop), p.tables.exec = Jvm.exec → c.code = cc → meth.sig.returnType = some .int → (∀ w ∈ ws, w.before args s = true) → s.vm.findClass y.cls = some m.cls → meth.locks = false → c.maxLocals = maxL → meth.name = y.name →
      (∀ q, s.heap.size ≤ q → A q) → va_P D vwCl cs s.heap → va_D A cs → va_S A s.heap s.heap [] → va_K D vwCl (tg_tys ty) s → tg_N s → lv_has ls maxL lvs →
      (∀ (H : Heap) (locs : List Loc) (pc : Nat) (ls : Array Slot) (v : Int32), va_P D vwCl cs' H → va_D A cs' → va_S A s.heap H locs → v = r → decode cc pc = .ok (.ireturn, 1) → W p l e rm s m args below meth c H locs mc ms Q (F0 m pc ls [.int v])) →
      W p l e rm s m args below meth c s.heap [] 0 0 Q (F0 m 0 ls [])) : tg_Mi l y ws rm D ty av cs cs' r mc ms := by
  refine tg_start (Qc := fun sz => va_Qi (fun x (_ : Unit) => x = r) (tg_B D cs (fun _ => cs') sz) (va_A cs sz)) hy hw hlen hlv ?_
  intro p e s m below meth c A ls hx hb hr hts hown hlocks hml hnm hA hAe hP hD hS hK hN hl
  exact body p e s m av.toArray below meth c A ls _ hx hb hr hts hown hlocks hml hnm hA hP hD hS hK hN hl (fun H locs pc ls v h1 h2 h3 hv hd => by
    subst hAe
    exact W.iret (v := v) hx hb hr (fun t ht hW => ⟨⟨v, (), rfl, hv, by rw [ht]; exact h1, h2⟩, h3.F ht⟩) h3.2.2 hd)
theorem tg_start_z {l : Launch} {y : MethodName} {ws ws' : List Cond} {rm : Room} {D : va_G} {ty : Nat → ClassId} {av : List Value} {cs cs' : va_W} {r : Int32} {mc ms : Nat} {cc : ByteArray} {maxL : Nat} {lvs : List (Nat × Value)}
    (hy : plainName y.cls = true) (hw : ws = Cond.code y cc maxL (some .boolean) :: ws') (hlen : (lg_sl av).length ≤ maxL) (hlv : lv_args 0 av = lvs)
    (body : ∀ (p : Program) (e : Env) (s : State) (m : MethodId) (args : Array Value) (below : List Frame) (meth : Method) (c : Code) (A : Nat → Prop) (ls : Array Slot) (Q : State → Prop), p.tables.exec = Jvm.exec → c.code = cc → meth.sig.returnType = some .boolean → (∀ w ∈ ws, w.before args s = true) → s.vm.findClass y.cls = some m.cls → meth.locks = false → c.maxLocals = maxL → meth.name = y.name →
      (∀ q, s.heap.size ≤ q → A q) → va_P D vwCl cs s.heap → va_D A cs → va_S A s.heap s.heap [] → va_K D vwCl (tg_tys ty) s → tg_N s → lv_has ls maxL lvs →
      (∀ (H : Heap) (locs : List Loc) (pc : Nat) (ls : Array Slot) (v : Int32), va_P D vwCl cs' H → va_D A cs' → va_S A s.heap H locs → v = r → narrow .boolean (.int v) = .int v → decode cc pc = .ok (.ireturn, 1) → W p l e rm s m args below meth c H locs mc ms Q (F0 m pc ls [.int v])) →
      W p l e rm s m args below meth c s.heap [] 0 0 Q (F0 m 0 ls [])) : tg_Mi l y ws rm D ty av cs cs' r mc ms := by
  refine tg_start (Qc := fun sz => va_Qi (fun x (_ : Unit) => x = r) (tg_B D cs (fun _ => cs') sz) (va_A cs sz)) hy hw hlen hlv ?_
  intro p e s m below meth c A ls hx hb hr hts hown hlocks hml hnm hA hAe hP hD hS hK hN hl
  exact body p e s m av.toArray below meth c A ls _ hx hb hr hts hown hlocks hml hnm hA hP hD hS hK hN hl (fun H locs pc ls v h1 h2 h3 hv hn hd => by
    subst hAe
    exact W.zret (v := v) hx hb hr hn (fun t ht hW => ⟨⟨v, (), rfl, hv, by rw [ht]; exact h1, h2⟩, h3.F ht⟩) h3.2.2 hd)
theorem tg_start_l {l : Launch} {y : MethodName} {ws ws' : List Cond} {rm : Room} {D : va_G} {ty : Nat → ClassId} {av : List Value} {cs cs' : va_W} {r : Int64} {mc ms : Nat} {cc : ByteArray} {maxL : Nat} {lvs : List (Nat × Value)}
    (hy : plainName y.cls = true) (hw : ws = Cond.code y cc maxL (some .long) :: ws') (hlen : (lg_sl av).length ≤ maxL) (hlv : lv_args 0 av = lvs)
    (body : ∀ (p : Program) (e : Env) (s : State) (m : MethodId) (args : Array Value) (below : List Frame) (meth : Method) (c : Code) (A : Nat → Prop) (ls : Array Slot) (Q : State → Prop), p.tables.exec = Jvm.exec → c.code = cc → meth.sig.returnType = some .long → (∀ w ∈ ws, w.before args s = true) → s.vm.findClass y.cls = some m.cls → meth.locks = false → c.maxLocals = maxL → meth.name = y.name →
      (∀ q, s.heap.size ≤ q → A q) → va_P D vwCl cs s.heap → va_D A cs → va_S A s.heap s.heap [] → va_K D vwCl (tg_tys ty) s → tg_N s → lv_has ls maxL lvs →
      (∀ (H : Heap) (locs : List Loc) (pc : Nat) (ls : Array Slot) (v : Int64), va_P D vwCl cs' H → va_D A cs' → va_S A s.heap H locs → v = r → decode cc pc = .ok (.lreturn, 1) → W p l e rm s m args below meth c H locs mc ms Q (F0 m pc ls [.long v])) →
      W p l e rm s m args below meth c s.heap [] 0 0 Q (F0 m 0 ls [])) : tg_Ml l y ws rm D ty av cs cs' r mc ms := by
  refine tg_start (Qc := fun sz => va_Ql (fun x (_ : Unit) => x = r) (tg_B D cs (fun _ => cs') sz) (va_A cs sz)) hy hw hlen hlv ?_
  intro p e s m below meth c A ls hx hb hr hts hown hlocks hml hnm hA hAe hP hD hS hK hN hl
  exact body p e s m av.toArray below meth c A ls _ hx hb hr hts hown hlocks hml hnm hA hP hD hS hK hN hl (fun H locs pc ls v h1 h2 h3 hv hd => by
    subst hAe
    exact W.lret (v := v) hx hb hr (fun t ht hW => ⟨⟨v, (), rfl, hv, by rw [ht]; exact h1, h2⟩, h3.F ht⟩) h3.2.2 hd)
theorem tg_start_v {S : Type} {l : Launch} {y : MethodName} {ws ws' : List Cond} {rm : Room} {D : va_G} {ty : Nat → ClassId} {av : List Value} {cs : va_W} {cs' : S → va_W} {mc ms : Nat} {cc : ByteArray} {maxL : Nat} {lvs : List (Nat × Value)}
    (hy : plainName y.cls = true) (hw : ws = Cond.code y cc maxL none :: ws') (hlen : (lg_sl av).length ≤ maxL) (hlv : lv_args 0 av = lvs)
    (body : ∀ (p : Program) (e : Env) (s : State) (m : MethodId) (args : Array Value) (below : List Frame) (meth : Method) (c : Code) (A : Nat → Prop) (ls : Array Slot) (Q : State → Prop), p.tables.exec = Jvm.exec → c.code = cc → meth.sig.returnType = none → (∀ w ∈ ws, w.before args s = true) → s.vm.findClass y.cls = some m.cls → meth.locks = false → c.maxLocals = maxL → meth.name = y.name →
      (∀ q, s.heap.size ≤ q → A q) → va_P D vwCl cs s.heap → va_D A cs → va_S A s.heap s.heap [] → va_K D vwCl (tg_tys ty) s → tg_N s → lv_has ls maxL lvs →
      (∀ (H : Heap) (locs : List Loc) (pc : Nat) (ls : Array Slot) (u : S), va_P D vwCl (cs' u) H → va_D A (cs' u) → va_S A s.heap H locs → decode cc pc = .ok (.return_, 1) → W p l e rm s m args below meth c H locs mc ms Q (F0 m pc ls [])) →
      W p l e rm s m args below meth c s.heap [] 0 0 Q (F0 m 0 ls [])) : tg_Mv l y ws rm D ty av cs cs' mc ms := by
  refine tg_start (Qc := fun sz => va_Qv (fun _ : S => True) (tg_B D cs cs' sz) (va_A cs sz)) hy hw hlen hlv ?_
  intro p e s m below meth c A ls hx hb hr hts hown hlocks hml hnm hA hAe hP hD hS hK hN hl
  exact body p e s m av.toArray below meth c A ls _ hx hb hr hts hown hlocks hml hnm hA hP hD hS hK hN hl (fun H locs pc ls u h1 h2 h3 hd => by
    subst hAe
    exact W.vret hx hb hr (fun t ht hW => ⟨⟨u, rfl, trivial, by rw [ht]; exact h1, h2⟩, h3.F ht⟩) h3.2.2 hd)
/-- shifts and steps by their numbers -/
def tg_lu (x : Int64) (y : Int32) : Int64 := (x.toUInt64 >>> (y.toInt64.toUInt64 &&& Int64.toUInt64 63)).toInt64
def tg_ll (x : Int64) (y : Int32) : Int64 := x <<< (y.toInt64 &&& 63)
def tg_iu (x y : Int32) : Int32 := (x.toUInt32 >>> (y.toUInt32 &&& Int32.toUInt32 31)).toInt32
theorem tg_inc (i k : Nat) : nI i + Int32.ofInt (k : Int) = nI (i + k) := by
  rw [← nI_add]; rfl
theorem tg_inc1 (i : Nat) : nI i + Int32.ofInt 1 = nI (i + 1) := tg_inc i 1
theorem tg_dec1 {i : Nat} (h : 0 < i) : nI i + Int32.ofInt (-1) = nI (i - 1) := sb_m1 h
section TGR
variable {p : Program} {l : Launch} {e : Env} {R : Room} {s : State} {m : MethodId} {args : Array Value} {below : List Frame} {meth : Method} {c : Code} {H : Heap} {locs : List Loc} {cells slots : Nat} {Q : State → Prop}
variable {cc : ByteArray} {pc : Nat} {ls : Array Slot} {rest : List Value} {D : va_G} {A : Nat → Prop} {a : Nat} {ty : Nat → ClassId} {ws : va_W} {H0 : Heap}
theorem tg_vi {x y : Int32} (h : x = y) (k : W p l e R s m args below meth c H locs cells slots Q (F0 m pc ls (.int y :: rest))) : W p l e R s m args below meth c H locs cells slots Q (F0 m pc ls (.int x :: rest)) := by rw [h]; exact k
theorem tg_vl {x y : Int64} (h : x = y) (k : W p l e R s m args below meth c H locs cells slots Q (F0 m pc ls (.long y :: rest))) : W p l e R s m args below meth c H locs cells slots Q (F0 m pc ls (.long x :: rest)) := by rw [h]; exact k
theorem tg_vr {x : Option Nat} {y : Nat} (h : x = some y) (k : W p l e R s m args below meth c H locs cells slots Q (F0 m pc ls (.ref y :: rest))) : W p l e R s m args below meth c H locs cells slots Q (F0 m pc ls (va_rf x :: rest)) := by rw [h]; exact k
/-- arrays, by a Nat's place -/
theorem tg_iald (hx : p.tables.exec = Jvm.exec) (hb : c.code = cc) (hK : va_K D vwCl (tg_tys ty) s) (hP : va_P D vwCl ws H) (q0 : Nat) {n : Nat} {f : Nat → Int32} (ha : ws[q0]? = some (a, .inl (ty 0, n, .inl f))) {k : Nat} (hk : k < n) (hn : n < 2 ^ 31) (hdg : decode cc pc = .ok (.iaload, 1))
    (kk : W p l e R s m args below meth c H locs cells slots Q (F0 m (pc + 1) ls (.int (f k) :: rest))) : W p l e R s m args below meth c H locs cells slots Q (F0 m pc ls (.int (nI k) :: .ref a :: rest)) :=
  va_iald hx hb hK hP q0 0 ha rfl (vp_in_nI hk hn) hdg (by rw [nI_clamp (by omega)]; exact kk)
theorem tg_zald (hx : p.tables.exec = Jvm.exec) (hb : c.code = cc) (hK : va_K D vwCl (tg_tys ty) s) (hP : va_P D vwCl ws H) (q0 : Nat) {n : Nat} {f : Nat → Int32} (ha : ws[q0]? = some (a, .inl (ty 2, n, .inl f))) {k : Nat} (hk : k < n) (hn : n < 2 ^ 31) (hdg : decode cc pc = .ok (.baload, 1))
    (kk : W p l e R s m args below meth c H locs cells slots Q (F0 m (pc + 1) ls (.int (f k) :: rest))) : W p l e R s m args below meth c H locs cells slots Q (F0 m pc ls (.int (nI k) :: .ref a :: rest)) :=
  va_zald hx hb hK hP q0 2 ha rfl (vp_in_nI hk hn) hdg (by rw [nI_clamp (by omega)]; exact kk)
theorem tg_lald (hx : p.tables.exec = Jvm.exec) (hb : c.code = cc) (hK : va_K D vwCl (tg_tys ty) s) (hP : va_P D vwCl ws H) (q0 : Nat) {n : Nat} {f : Nat → Int64} (ha : ws[q0]? = some (a, .inl (ty 1, n, .inr (.inl f)))) {k : Nat} (hk : k < n) (hn : n < 2 ^ 31) (hdg : decode cc pc = .ok (.laload, 1))
    (kk : W p l e R s m args below meth c H locs cells slots Q (F0 m (pc + 1) ls (.long (f k) :: rest))) : W p l e R s m args below meth c H locs cells slots Q (F0 m pc ls (.int (nI k) :: .ref a :: rest)) :=
  va_lald hx hb hK hP q0 1 ha rfl (vp_in_nI hk hn) hdg (by rw [nI_clamp (by omega)]; exact kk)
theorem tg_aald (hx : p.tables.exec = Jvm.exec) (hb : c.code = cc) (hK : va_K D vwCl (tg_tys ty) s) (hP : va_P D vwCl ws H) (q0 t0 : Nat) {cA : ClassId} {C : String} {n : Nat} {f : Nat → Option Nat} (ha : ws[q0]? = some (a, .inl (cA, n, .inr (.inr (.inr (.inr f)))))) (ht : (tg_tys ty)[t0]? = some (cA, .object C)) {k z : Nat} (hk : k < n) (hn : n < 2 ^ 31) (hz : f k = some z) (hdg : decode cc pc = .ok (.aaload, 1))
    (kk : W p l e R s m args below meth c H locs cells slots Q (F0 m (pc + 1) ls (.ref z :: rest))) : W p l e R s m args below meth c H locs cells slots Q (F0 m pc ls (.int (nI k) :: .ref a :: rest)) :=
  va_aldq hx hb hK hP q0 t0 ha ht (vp_in_nI hk hn) hdg (by rw [nI_clamp (by omega), hz]; exact kk)
theorem tg_iast (hx : p.tables.exec = Jvm.exec) (hb : c.code = cc) (hK : va_K D vwCl (tg_tys ty) s) (hP : va_P D vwCl ws H) (hD : va_D A ws) (hS : va_S A H0 H locs) (q0 : Nat) {n : Nat} {f : Nat → Int32} (ha : ws[q0]? = some (a, .inl (ty 0, n, .inl f))) {k : Nat} {x : Int32} (hk : k < n) (hn : n < 2 ^ 31) (hdg : decode cc pc = .ok (.iastore, 1)) {ws' : va_W} (hw : ws.set q0 (a, .inl (ty 0, n, .inl (upd f k x))) = ws')
    (kk : ∀ (H1 : Heap) (locs1 : List Loc), va_P D vwCl ws' H1 → va_D A ws' → va_S A H0 H1 locs1 → W p l e R s m args below meth c H1 locs1 cells slots Q (F0 m (pc + 1) ls rest)) : W p l e R s m args below meth c H locs cells slots Q (F0 m pc ls (.int x :: .int (nI k) :: .ref a :: rest)) := by
  subst hw
  refine va_iast hx hb hK hP hD hS q0 0 ha rfl (vp_in_nI hk hn) hdg ?_
  rw [nI_clamp (by omega)]
  exact kk
theorem tg_last (hx : p.tables.exec = Jvm.exec) (hb : c.code = cc) (hK : va_K D vwCl (tg_tys ty) s) (hP : va_P D vwCl ws H) (hD : va_D A ws) (hS : va_S A H0 H locs) (q0 : Nat) {n : Nat} {f : Nat → Int64} (ha : ws[q0]? = some (a, .inl (ty 1, n, .inr (.inl f)))) {k : Nat} {x : Int64} (hk : k < n) (hn : n < 2 ^ 31) (hdg : decode cc pc = .ok (.lastore, 1)) {ws' : va_W} (hw : ws.set q0 (a, .inl (ty 1, n, .inr (.inl (vp_updL f k x)))) = ws')
    (kk : ∀ (H1 : Heap) (locs1 : List Loc), va_P D vwCl ws' H1 → va_D A ws' → va_S A H0 H1 locs1 → W p l e R s m args below meth c H1 locs1 cells slots Q (F0 m (pc + 1) ls rest)) : W p l e R s m args below meth c H locs cells slots Q (F0 m pc ls (.long x :: .int (nI k) :: .ref a :: rest)) := by
  subst hw
  refine va_last hx hb hK hP hD hS q0 1 ha rfl (vp_in_nI hk hn) hdg ?_
  rw [nI_clamp (by omega)]
  exact kk
theorem tg_zast (hx : p.tables.exec = Jvm.exec) (hb : c.code = cc) (hK : va_K D vwCl (tg_tys ty) s) (hP : va_P D vwCl ws H) (hD : va_D A ws) (hS : va_S A H0 H locs) (q0 : Nat) {n : Nat} {f : Nat → Int32} (ha : ws[q0]? = some (a, .inl (ty 2, n, .inl f))) {k : Nat} {x : Int32} (hx1 : x = 0 ∨ x = 1) (hk : k < n) (hn : n < 2 ^ 31) (hdg : decode cc pc = .ok (.bastore, 1)) {ws' : va_W} (hw : ws.set q0 (a, .inl (ty 2, n, .inl (upd f k x))) = ws')
    (kk : ∀ (H1 : Heap) (locs1 : List Loc), va_P D vwCl ws' H1 → va_D A ws' → va_S A H0 H1 locs1 → W p l e R s m args below meth c H1 locs1 cells slots Q (F0 m (pc + 1) ls rest)) : W p l e R s m args below meth c H locs cells slots Q (F0 m pc ls (.int x :: .int (nI k) :: .ref a :: rest)) := by
  subst hw
  have e : vp_nar .boolean x = x := by rcases hx1 with rfl | rfl <;> rfl
  refine va_zast hx hb hK hP hD hS q0 2 ha rfl (vp_in_nI hk hn) hdg ?_
  rw [nI_clamp (by omega)]
  first | exact kk | (rw [e]; exact kk)
/-- branches between numbers -/
theorem tg_ge (hx : p.tables.exec = Jvm.exec) (hb : c.code = cc) {x y : Nat} {off : Int} {tgt : Nat} (hdg : decode cc pc = .ok (.if_icmp .ge off, 3)) (ht : (pc : Int) + off = (tgt : Int)) (h1 : x < 2 ^ 31) (h2 : y < 2 ^ 31)
    (kt : y ≤ x → W p l e R s m args below meth c H locs cells slots Q (F0 m tgt ls rest)) (kf : x < y → W p l e R s m args below meth c H locs cells slots Q (F0 m (pc + 3) ls rest)) : W p l e R s m args below meth c H locs cells slots Q (F0 m pc ls (.int (nI y) :: .int (nI x) :: rest)) :=
  lv_icmp_ge hx hb hdg ht (fun z => kt ((nI_leI h2 h1).mp z)) (fun z => kf (Nat.not_le.mp fun q => z ((nI_leI h2 h1).mpr q)))
theorem tg_lt (hx : p.tables.exec = Jvm.exec) (hb : c.code = cc) {x y : Nat} {off : Int} {tgt : Nat} (hdg : decode cc pc = .ok (.if_icmp .lt off, 3)) (ht : (pc : Int) + off = (tgt : Int)) (h1 : x < 2 ^ 31) (h2 : y < 2 ^ 31)
    (kt : x < y → W p l e R s m args below meth c H locs cells slots Q (F0 m tgt ls rest)) (kf : y ≤ x → W p l e R s m args below meth c H locs cells slots Q (F0 m (pc + 3) ls rest)) : W p l e R s m args below meth c H locs cells slots Q (F0 m pc ls (.int (nI y) :: .int (nI x) :: rest)) :=
  lv_icmp_lt hx hb hdg ht (fun z => kt ((nI_ltI h1 h2).mp z)) (fun z => kf (Nat.not_lt.mp fun q => z ((nI_ltI h1 h2).mpr q)))
theorem tg_le (hx : p.tables.exec = Jvm.exec) (hb : c.code = cc) {x y : Nat} {off : Int} {tgt : Nat} (hdg : decode cc pc = .ok (.if_icmp .le off, 3)) (ht : (pc : Int) + off = (tgt : Int)) (h1 : x < 2 ^ 31) (h2 : y < 2 ^ 31)
    (kt : x ≤ y → W p l e R s m args below meth c H locs cells slots Q (F0 m tgt ls rest)) (kf : y < x → W p l e R s m args below meth c H locs cells slots Q (F0 m (pc + 3) ls rest)) : W p l e R s m args below meth c H locs cells slots Q (F0 m pc ls (.int (nI y) :: .int (nI x) :: rest)) :=
  lv_icmp_le hx hb hdg ht (fun z => kt ((nI_leI h1 h2).mp z)) (fun z => kf (Nat.not_le.mp fun q => z ((nI_leI h1 h2).mpr q)))
theorem tg_gt (hx : p.tables.exec = Jvm.exec) (hb : c.code = cc) {x y : Nat} {off : Int} {tgt : Nat} (hdg : decode cc pc = .ok (.if_icmp .gt off, 3)) (ht : (pc : Int) + off = (tgt : Int)) (h1 : x < 2 ^ 31) (h2 : y < 2 ^ 31)
    (kt : y < x → W p l e R s m args below meth c H locs cells slots Q (F0 m tgt ls rest)) (kf : x ≤ y → W p l e R s m args below meth c H locs cells slots Q (F0 m (pc + 3) ls rest)) : W p l e R s m args below meth c H locs cells slots Q (F0 m pc ls (.int (nI y) :: .int (nI x) :: rest)) :=
  lv_icmp_gt hx hb hdg ht (fun z => kt ((nI_ltI h2 h1).mp z)) (fun z => kf (Nat.not_lt.mp fun q => z ((nI_ltI h2 h1).mpr q)))
theorem tg_eq (hx : p.tables.exec = Jvm.exec) (hb : c.code = cc) {x y : Nat} {off : Int} {tgt : Nat} (hdg : decode cc pc = .ok (.if_icmp .eq off, 3)) (ht : (pc : Int) + off = (tgt : Int)) (h1 : x < 2 ^ 31) (h2 : y < 2 ^ 31)
    (kt : x = y → W p l e R s m args below meth c H locs cells slots Q (F0 m tgt ls rest)) (kf : ¬ x = y → W p l e R s m args below meth c H locs cells slots Q (F0 m (pc + 3) ls rest)) : W p l e R s m args below meth c H locs cells slots Q (F0 m pc ls (.int (nI y) :: .int (nI x) :: rest)) :=
  lv_icmp_eq hx hb hdg ht (fun z => kt ((nI_eq h1 h2).mp z)) (fun z => kf (fun q => z ((nI_eq h1 h2).mpr q)))
theorem tg_ne (hx : p.tables.exec = Jvm.exec) (hb : c.code = cc) {x y : Nat} {off : Int} {tgt : Nat} (hdg : decode cc pc = .ok (.if_icmp .ne off, 3)) (ht : (pc : Int) + off = (tgt : Int)) (h1 : x < 2 ^ 31) (h2 : y < 2 ^ 31)
    (kt : ¬ x = y → W p l e R s m args below meth c H locs cells slots Q (F0 m tgt ls rest)) (kf : x = y → W p l e R s m args below meth c H locs cells slots Q (F0 m (pc + 3) ls rest)) : W p l e R s m args below meth c H locs cells slots Q (F0 m pc ls (.int (nI y) :: .int (nI x) :: rest)) :=
  lv_icmp_ne hx hb hdg ht (fun z => kt (fun q => z ((nI_eq h1 h2).mpr q))) (fun z => kf ((nI_eq h1 h2).mp z))
theorem tg_if_ne (hx : p.tables.exec = Jvm.exec) (hb : c.code = cc) {x : Nat} {off : Int} {tgt : Nat} (hdg : decode cc pc = .ok (.ifCond .ne off, 3)) (ht : (pc : Int) + off = (tgt : Int)) (h1 : x < 2 ^ 31)
    (kt : ¬ x = 0 → W p l e R s m args below meth c H locs cells slots Q (F0 m tgt ls rest)) (kf : x = 0 → W p l e R s m args below meth c H locs cells slots Q (F0 m (pc + 3) ls rest)) : W p l e R s m args below meth c H locs cells slots Q (F0 m pc ls (.int (nI x) :: rest)) :=
  lv_if_ne hx hb hdg ht (fun z => kt (fun q => z (by rw [q]; exact nI_0))) (fun z => kf ((nI_eq h1 (by omega)).mp (z.trans nI_0.symm)))
theorem tg_if_eq (hx : p.tables.exec = Jvm.exec) (hb : c.code = cc) {x : Nat} {off : Int} {tgt : Nat} (hdg : decode cc pc = .ok (.ifCond .eq off, 3)) (ht : (pc : Int) + off = (tgt : Int)) (h1 : x < 2 ^ 31)
    (kt : x = 0 → W p l e R s m args below meth c H locs cells slots Q (F0 m tgt ls rest)) (kf : ¬ x = 0 → W p l e R s m args below meth c H locs cells slots Q (F0 m (pc + 3) ls rest)) : W p l e R s m args below meth c H locs cells slots Q (F0 m pc ls (.int (nI x) :: rest)) :=
  lv_if_eq hx hb hdg ht (fun z => kt ((nI_eq h1 (by omega)).mp (z.trans nI_0.symm))) (fun z => kf (fun q => z (by rw [q]; exact nI_0)))
theorem tg_cmp0 (x y : Int64) : lg_cmp x y = 0 ↔ x = y := by
  unfold lg_cmp
  by_cases h : x > y
  · rw [if_pos h]
    exact ⟨fun z => absurd z (by decide), fun z => absurd h (by rw [z]; exact Int64.lt_irrefl)⟩
  · rw [if_neg h]
    by_cases h2 : x = y
    · rw [if_pos h2]; exact ⟨fun _ => h2, fun _ => rfl⟩
    · rw [if_neg h2]; exact ⟨fun z => absurd z (by decide), fun z => absurd z h2⟩
theorem tg_leq (hx : p.tables.exec = Jvm.exec) (hb : c.code = cc) {x y : Int64} {off : Int} {tgt : Nat} (hdg : decode cc pc = .ok (.ifCond .eq off, 3)) (ht : (pc : Int) + off = (tgt : Int))
    (kt : x = y → W p l e R s m args below meth c H locs cells slots Q (F0 m tgt ls rest)) (kf : ¬ x = y → W p l e R s m args below meth c H locs cells slots Q (F0 m (pc + 3) ls rest)) : W p l e R s m args below meth c H locs cells slots Q (F0 m pc ls (.int (lg_cmp x y) :: rest)) :=
  lv_if_eq hx hb hdg ht (fun z => kt ((tg_cmp0 x y).mp z)) (fun z => kf (fun q => z ((tg_cmp0 x y).mpr q)))
theorem tg_lne (hx : p.tables.exec = Jvm.exec) (hb : c.code = cc) {x y : Int64} {off : Int} {tgt : Nat} (hdg : decode cc pc = .ok (.ifCond .ne off, 3)) (ht : (pc : Int) + off = (tgt : Int))
    (kt : ¬ x = y → W p l e R s m args below meth c H locs cells slots Q (F0 m tgt ls rest)) (kf : x = y → W p l e R s m args below meth c H locs cells slots Q (F0 m (pc + 3) ls rest)) : W p l e R s m args below meth c H locs cells slots Q (F0 m pc ls (.int (lg_cmp x y) :: rest)) :=
  lv_if_ne hx hb hdg ht (fun z => kt (fun q => z ((tg_cmp0 x y).mpr q))) (fun z => kf ((tg_cmp0 x y).mp z))
theorem tg_llt (hx : p.tables.exec = Jvm.exec) (hb : c.code = cc) {x y : Int64} {off : Int} {tgt : Nat} (hdg : decode cc pc = .ok (.ifCond .lt off, 3)) (ht : (pc : Int) + off = (tgt : Int))
    (kt : x < y → W p l e R s m args below meth c H locs cells slots Q (F0 m tgt ls rest)) (kf : y ≤ x → W p l e R s m args below meth c H locs cells slots Q (F0 m (pc + 3) ls rest)) : W p l e R s m args below meth c H locs cells slots Q (F0 m pc ls (.int (lg_cmp x y) :: rest)) :=
  lv_if_lt hx hb hdg ht (fun z => kt ((lg_cmp_lt x y).mp z)) (fun z => kf (Int64.not_lt.mp fun q => z ((lg_cmp_lt x y).mpr q)))
theorem tg_lge (hx : p.tables.exec = Jvm.exec) (hb : c.code = cc) {x y : Int64} {off : Int} {tgt : Nat} (hdg : decode cc pc = .ok (.ifCond .ge off, 3)) (ht : (pc : Int) + off = (tgt : Int))
    (kt : y ≤ x → W p l e R s m args below meth c H locs cells slots Q (F0 m tgt ls rest)) (kf : x < y → W p l e R s m args below meth c H locs cells slots Q (F0 m (pc + 3) ls rest)) : W p l e R s m args below meth c H locs cells slots Q (F0 m pc ls (.int (lg_cmp x y) :: rest)) :=
  lv_if_ge hx hb hdg ht (fun z => kt ((lg_cmp_ge x y).mp z)) (fun z => kf (Int64.not_le.mp fun q => z ((lg_cmp_ge x y).mpr q)))
theorem tg_lgt (hx : p.tables.exec = Jvm.exec) (hb : c.code = cc) {x y : Int64} {off : Int} {tgt : Nat} (hdg : decode cc pc = .ok (.ifCond .gt off, 3)) (ht : (pc : Int) + off = (tgt : Int))
    (kt : y < x → W p l e R s m args below meth c H locs cells slots Q (F0 m tgt ls rest)) (kf : x ≤ y → W p l e R s m args below meth c H locs cells slots Q (F0 m (pc + 3) ls rest)) : W p l e R s m args below meth c H locs cells slots Q (F0 m pc ls (.int (lg_cmp x y) :: rest)) :=
  lv_if_gt hx hb hdg ht (fun z => kt ((lg_cmp_gt x y).mp z)) (fun z => kf (Int64.not_lt.mp fun q => z ((lg_cmp_gt x y).mpr q)))
theorem tg_lle (hx : p.tables.exec = Jvm.exec) (hb : c.code = cc) {x y : Int64} {off : Int} {tgt : Nat} (hdg : decode cc pc = .ok (.ifCond .le off, 3)) (ht : (pc : Int) + off = (tgt : Int))
    (kt : x ≤ y → W p l e R s m args below meth c H locs cells slots Q (F0 m tgt ls rest)) (kf : y < x → W p l e R s m args below meth c H locs cells slots Q (F0 m (pc + 3) ls rest)) : W p l e R s m args below meth c H locs cells slots Q (F0 m pc ls (.int (lg_cmp x y) :: rest)) :=
  lv_if_le hx hb hdg ht (fun z => kt ((lg_cmp_le x y).mp z)) (fun z => kf (Int64.not_le.mp fun q => z ((lg_cmp_le x y).mpr q)))
theorem tg_if_gt (hx : p.tables.exec = Jvm.exec) (hb : c.code = cc) {x : Nat} {off : Int} {tgt : Nat} (hdg : decode cc pc = .ok (.ifCond .gt off, 3)) (ht : (pc : Int) + off = (tgt : Int)) (h1 : x < 2 ^ 31)
    (kt : 0 < x → W p l e R s m args below meth c H locs cells slots Q (F0 m tgt ls rest)) (kf : x = 0 → W p l e R s m args below meth c H locs cells slots Q (F0 m (pc + 3) ls rest)) : W p l e R s m args below meth c H locs cells slots Q (F0 m pc ls (.int (nI x) :: rest)) :=
  lv_if_gt hx hb hdg ht (fun z => kt (Nat.pos_of_ne_zero fun q => by rw [q, nI_0] at z; exact absurd z (by decide))) (fun z => kf (Nat.eq_zero_of_not_pos fun q => z (by have h := (nI_ltI (a := 0) (b := x) (by omega) h1).mpr q; rw [nI_0] at h; exact h)))
theorem tg_if_le (hx : p.tables.exec = Jvm.exec) (hb : c.code = cc) {x : Nat} {off : Int} {tgt : Nat} (hdg : decode cc pc = .ok (.ifCond .le off, 3)) (ht : (pc : Int) + off = (tgt : Int)) (h1 : x < 2 ^ 31)
    (kt : x = 0 → W p l e R s m args below meth c H locs cells slots Q (F0 m tgt ls rest)) (kf : 0 < x → W p l e R s m args below meth c H locs cells slots Q (F0 m (pc + 3) ls rest)) : W p l e R s m args below meth c H locs cells slots Q (F0 m pc ls (.int (nI x) :: rest)) :=
  lv_if_le hx hb hdg ht (fun z => kt (Nat.eq_zero_of_not_pos fun q => by have h := nI_nle q h1; exact h z)) (fun z => kf (Nat.pos_of_ne_zero fun q => z (by rw [q, nI_0]; decide)))
/-- the answer of a branch that tests a truth value -/
def tg_b (b : Bool) : Int32 := if b then 1 else 0
theorem tg_if_eqb (hx : p.tables.exec = Jvm.exec) (hb : c.code = cc) {b : Bool} {off : Int} {tgt : Nat} (hdg : decode cc pc = .ok (.ifCond .eq off, 3)) (ht : (pc : Int) + off = (tgt : Int))
    (kt : b = false → W p l e R s m args below meth c H locs cells slots Q (F0 m tgt ls rest)) (kf : b = true → W p l e R s m args below meth c H locs cells slots Q (F0 m (pc + 3) ls rest)) : W p l e R s m args below meth c H locs cells slots Q (F0 m pc ls (.int (tg_b b) :: rest)) :=
  lv_if_eq hx hb hdg ht (fun z => kt (by cases b with | false => rfl | true => exact absurd z (by decide))) (fun z => kf (by cases b with | true => rfl | false => exact absurd rfl z))
theorem tg_if_neb (hx : p.tables.exec = Jvm.exec) (hb : c.code = cc) {b : Bool} {off : Int} {tgt : Nat} (hdg : decode cc pc = .ok (.ifCond .ne off, 3)) (ht : (pc : Int) + off = (tgt : Int))
    (kt : b = true → W p l e R s m args below meth c H locs cells slots Q (F0 m tgt ls rest)) (kf : b = false → W p l e R s m args below meth c H locs cells slots Q (F0 m (pc + 3) ls rest)) : W p l e R s m args below meth c H locs cells slots Q (F0 m pc ls (.int (tg_b b) :: rest)) :=
  lv_if_ne hx hb hdg ht (fun z => kt (by cases b with | true => rfl | false => exact absurd rfl z)) (fun z => kf (by cases b with | false => rfl | true => exact absurd z (by decide)))
theorem tg_bn (b : Bool) : narrow .boolean (.int (tg_b b)) = .int (tg_b b) := by cases b <;> rfl
/-- a field's write, the new world named -/
theorem tg_put (hx : p.tables.exec = Jvm.exec) (hb : c.code = cc) {own ref C : String} {T : u_T} {N ci index : Nat} {Ts : List Cond} (hts : ∀ w ∈ Ts, w.before args s = true) (hin : ∀ w ∈ u_ws C T N, w ∈ Ts) (ty0 : Nat → FieldType) (hty : ∀ k, k < N → parseFieldDescriptor (T k).2.2.1 = some (ty0 k)) (hnm : ∀ a, a < N → ∀ b, b < N → a ≠ b → (T a).2.1 ≠ (T b).2.1) (hown : s.vm.findClass own = some m.cls) (hK : va_K D vwCl (tg_tys ty) s) (hP : va_P D vwCl ws H) (hD : va_D A ws) (hS0 : va_S A H0 H locs) (q0 : Nat) {fs : List Value} (he : ws[q0]? = some (a, .inr (ci, fs))) (hc : vwCl[ci]? = some (C, T, N)) (k : Nat) (hk : k < N) (hlink : (Cond.fieldLink own index ref (T k).2.1 (T k).2.2.1).before args s = true) (hsame : ∀ x, s.fieldFound? (T k).1 (T k).2.1 (T k).2.2.1 = some x → s.fieldFound? ref (T k).2.1 (T k).2.2.1 = some x) (hfin : (T k).2.2.2 = false) {ft : FieldType} {v : Value} (hd : parseFieldDescriptor (T k).2.2.1 = some ft) (hn : narrow ft v = v) (hfit : fits ft v = true) (hl : k < fs.length)
    (hdg : decode cc pc = .ok (.putfield index, 3)) {ws' : va_W} (hw : ws.set q0 (a, .inr (ci, fs.set k v)) = ws')
    (kk : ∀ (H1 : Heap) (locs1 : List Loc), va_P D vwCl ws' H1 → va_D A ws' → va_S A H0 H1 locs1 → W p l e R s m args below meth c H1 locs1 cells slots Q (F0 m (pc + 3) ls rest)) : W p l e R s m args below meth c H locs cells slots Q (F0 m pc ls (v :: .ref a :: rest)) := by
  subst hw
  exact va_put hx hb hts hin ty0 hty hnm hown hK hP hD hS0 q0 he hc k hk hlink hsame hfin hd hn hfit hl hdg kk
theorem tg_subP {wc : va_W} (hP : va_P D vwCl ws H) (isC : List Nat) (hC : isC.map (fun i => ws[i]?) = wc.map some) : va_P D vwCl wc H := by
  intro k q hq
  have h1 : (isC.map (fun i => ws[i]?))[k]? = some (some q) := by rw [hC, List.getElem?_map, hq]; rfl
  rw [List.getElem?_map] at h1
  cases hi : isC[k]? with
  | none => rw [hi] at h1; cases h1
  | some i => rw [hi] at h1; exact hP i q (Option.some.inj h1)
/-- calls: the callee's cells wc at isC become w1, the rest wr at isR stays; behind it the world is w2 -/
theorem tg_go {S : Type} {wc wr w1 w2 : va_W} {t : State} {H1 : Heap} {u : S} {cs' : S → va_W} (hP : va_P D vwCl ws H) (hD : va_D A ws) (hS : va_S A s.heap H locs) (hA : ∀ q, s.heap.size ≤ q → A q) (isC isR : List Nat) (hC : isC.map (fun i => ws[i]?) = wc.map some) (hR : isR.map (fun i => ws[i]?) = wr.map some) (hn2 : va_nd isR = true) (hdis : ∀ i ∈ isR, i ∉ isC)
    (ht : t.heap = H1) (hk : ∀ q : Nat, q < H.size → ¬ va_A wc H.size q → H1[q]? = H[q]?) (hB : tg_B D wc cs' H.size u t) (h1 : cs' u = w1) (isO : List Nat) (hO : isO.map (fun i => (wr ++ w1)[i]?) = w2.map some) (hO2 : va_nd isO = true) : va_P D vwCl w2 H1 ∧ va_D A w2 := by
  subst h1; subst ht
  obtain ⟨g1, g2⟩ := va_join hP hD isC isR hC hR hn2 hdis hk (va_free hD hS hA isC hC) hB.1 hB.2
  exact ⟨tg_subP g1 isO hO, g2.sub isO hO2 hO⟩
theorem tg_pS {wc : va_W} (hK : va_K D vwCl (tg_tys ty) s) (hN : tg_N s) (hP : va_P D vwCl ws H) (hD : va_D A ws) (isC : List Nat) (hC : isC.map (fun i => ws[i]?) = wc.map some) (hnd : va_nd isC = true) {As : List Value} : PreS s H (va_Pc As (tg_pre D ty wc H.size)) As := by
  have hPc : va_P D vwCl wc H := tg_subP hP isC hC
  exact ⟨tg_blind, fun U hU hW => ⟨rfl, by rw [hU], by rw [hU]; exact hPc, va_K.moved hW.alike hK, (hD.sub isC hnd hC).weaken (fun _ _ _ _ => trivial), hN.warm hW⟩⟩
theorem tg_pV {wc : va_W} {C : String} {b q0 ci : Nat} {qc : vw_C} {fs : List Value} (hK : va_K D vwCl (tg_tys ty) s) (hN : tg_N s) (hP : va_P D vwCl ws H) (hD : va_D A ws) (isC : List Nat) (hC : isC.map (fun i => ws[i]?) = wc.map some) (hnd : va_nd isC = true) {As : List Value} (hc : vwCl[ci]? = some qc) (he : ws[q0]? = some (b, .inr (ci, fs))) (hq : qc.1 = C) : PreV s H C b (va_Pc (.ref b :: As) (tg_pre D ty wc H.size)) As := by
  subst hq
  obtain ⟨h1, h2⟩ := tg_pS (As := .ref b :: As) hK hN hP hD isC hC hnd
  exact ⟨h1, va_recv hK hP hc he, h2⟩
variable {y : MethodName} {bytes : ByteArray} {maxL nL mc ms n index : Nat} {ret : Option FieldType} {wy : List Cond} {rm : Room} {Ts : List Cond} {own C : String} {b : Addr} {As st0 : List Value} {wc wr w1 w2 : va_W}
theorem tg_Vi {r : Int32} (S : CallFix p m c cc nL s args Ts own) (hM : tg_Mi l y wy rm D ty (.ref b :: As) wc w1 r mc ms) (cw : CallW R s args own C index y bytes maxL ret wy rm mc ms n) (hK : va_K D vwCl (tg_tys ty) s) (hN : tg_N s) (hP : va_P D vwCl ws H) (hD : va_D A ws) (hS : va_S A s.heap H locs) (hA : ∀ q, s.heap.size ≤ q → A q) (isC isR isO : List Nat) (q0 ci : Nat) {qc : vw_C} {fs : List Value} (hc : vwCl[ci]? = some qc) (he : ws[q0]? = some (b, .inr (ci, fs))) (hq : qc.1 = C)
    (hC : isC.map (fun i => ws[i]?) = wc.map some) (hR : isR.map (fun i => ws[i]?) = wr.map some) (hnd : va_nd isC = true) (hn2 : va_nd isR = true) (hdis : ∀ i ∈ isR, i ∉ isC) (hn : As.length = n) (hsize : ls.size = nL) (hst : st0 = As.reverse ++ .ref b :: rest) (hW : (rest.map fun v => v.category).sum ≤ 8) (hdg : decode cc pc = .ok (.invokevirtual index, 3)) (hO : isO.map (fun i => (wr ++ w1)[i]?) = w2.map some) (hO2 : va_nd isO = true) (hf : cells + mc ≤ R.cells ∧ slots + ms ≤ R.slots)
    (kk : ∀ (H1 : Heap) (locs1 : List Loc), va_P D vwCl w2 H1 → va_D A w2 → va_S A s.heap H1 locs1 → W p l e R s m args below meth c H1 locs1 (cells + mc) (slots + ms) Q (F0 m (pc + 3) ls (.int r :: rest))) : W p l e R s m args below meth c H locs cells slots Q (F0 m pc ls st0) := by
  have hF := va_free hD hS hA isC hC
  refine va_calli (va_runV (As := As) (rest := rest) S (hM H.size) cw (tg_pV hK hN hP hD isC hC hnd hc he hq) rfl hn hsize hst (lv_room hW) hdg hf) hS (fun q _ h => hF q h) hF (fun r1 u t H1 locs1 ht hvm hw hB hz1 hk1 hS1 => ?_)
  obtain ⟨hP1, hD1⟩ := tg_go hP hD hS hA isC isR hC hR hn2 hdis ht hk1 hB rfl isO hO hO2
  subst hw
  exact kk H1 locs1 hP1 hD1 hS1
theorem tg_Vl {r : Int64} (S : CallFix p m c cc nL s args Ts own) (hM : tg_Ml l y wy rm D ty (.ref b :: As) wc w1 r mc ms) (cw : CallW R s args own C index y bytes maxL ret wy rm mc ms n) (hK : va_K D vwCl (tg_tys ty) s) (hN : tg_N s) (hP : va_P D vwCl ws H) (hD : va_D A ws) (hS : va_S A s.heap H locs) (hA : ∀ q, s.heap.size ≤ q → A q) (isC isR isO : List Nat) (q0 ci : Nat) {qc : vw_C} {fs : List Value} (hc : vwCl[ci]? = some qc) (he : ws[q0]? = some (b, .inr (ci, fs))) (hq : qc.1 = C)
    (hC : isC.map (fun i => ws[i]?) = wc.map some) (hR : isR.map (fun i => ws[i]?) = wr.map some) (hnd : va_nd isC = true) (hn2 : va_nd isR = true) (hdis : ∀ i ∈ isR, i ∉ isC) (hn : As.length = n) (hsize : ls.size = nL) (hst : st0 = As.reverse ++ .ref b :: rest) (hW : (rest.map fun v => v.category).sum ≤ 8) (hdg : decode cc pc = .ok (.invokevirtual index, 3)) (hO : isO.map (fun i => (wr ++ w1)[i]?) = w2.map some) (hO2 : va_nd isO = true) (hf : cells + mc ≤ R.cells ∧ slots + ms ≤ R.slots)
    (kk : ∀ (H1 : Heap) (locs1 : List Loc), va_P D vwCl w2 H1 → va_D A w2 → va_S A s.heap H1 locs1 → W p l e R s m args below meth c H1 locs1 (cells + mc) (slots + ms) Q (F0 m (pc + 3) ls (.long r :: rest))) : W p l e R s m args below meth c H locs cells slots Q (F0 m pc ls st0) := by
  have hF := va_free hD hS hA isC hC
  refine va_calll (va_runV (As := As) (rest := rest) S (hM H.size) cw (tg_pV hK hN hP hD isC hC hnd hc he hq) rfl hn hsize hst (lv_room hW) hdg hf) hS (fun q _ h => hF q h) hF (fun r1 u t H1 locs1 ht hvm hw hB hz1 hk1 hS1 => ?_)
  obtain ⟨hP1, hD1⟩ := tg_go hP hD hS hA isC isR hC hR hn2 hdis ht hk1 hB rfl isO hO hO2
  subst hw
  exact kk H1 locs1 hP1 hD1 hS1
theorem tg_Vv (S : CallFix p m c cc nL s args Ts own) (hM : tg_Mv (S := Unit) l y wy rm D ty (.ref b :: As) wc (fun _ => w1) mc ms) (cw : CallW R s args own C index y bytes maxL ret wy rm mc ms n) (hK : va_K D vwCl (tg_tys ty) s) (hN : tg_N s) (hP : va_P D vwCl ws H) (hD : va_D A ws) (hS : va_S A s.heap H locs) (hA : ∀ q, s.heap.size ≤ q → A q) (isC isR isO : List Nat) (q0 ci : Nat) {qc : vw_C} {fs : List Value} (hc : vwCl[ci]? = some qc) (he : ws[q0]? = some (b, .inr (ci, fs))) (hq : qc.1 = C)
    (hC : isC.map (fun i => ws[i]?) = wc.map some) (hR : isR.map (fun i => ws[i]?) = wr.map some) (hnd : va_nd isC = true) (hn2 : va_nd isR = true) (hdis : ∀ i ∈ isR, i ∉ isC) (hn : As.length = n) (hsize : ls.size = nL) (hst : st0 = As.reverse ++ .ref b :: rest) (hW : (rest.map fun v => v.category).sum ≤ 8) (hdg : decode cc pc = .ok (.invokevirtual index, 3)) (hO : isO.map (fun i => (wr ++ w1)[i]?) = w2.map some) (hO2 : va_nd isO = true) (hf : cells + mc ≤ R.cells ∧ slots + ms ≤ R.slots)
    (kk : ∀ (H1 : Heap) (locs1 : List Loc), va_P D vwCl w2 H1 → va_D A w2 → va_S A s.heap H1 locs1 → W p l e R s m args below meth c H1 locs1 (cells + mc) (slots + ms) Q (F0 m (pc + 3) ls rest)) : W p l e R s m args below meth c H locs cells slots Q (F0 m pc ls st0) := by
  have hF := va_free hD hS hA isC hC
  refine va_callv (va_runV (As := As) (rest := rest) S (hM H.size) cw (tg_pV hK hN hP hD isC hC hnd hc he hq) rfl hn hsize hst (lv_room hW) hdg hf) hS (fun q _ h => hF q h) hF (fun u t H1 locs1 ht hvm hw hB hz1 hk1 hS1 => ?_)
  obtain ⟨hP1, hD1⟩ := tg_go hP hD hS hA isC isR hC hR hn2 hdis ht hk1 hB rfl isO hO hO2
  exact kk H1 locs1 hP1 hD1 hS1
theorem tg_k0 {H1 : Heap} (hP : va_P D vwCl ws H) (hk1 : ∀ q : Nat, q < H.size → ¬ va_A ([] : va_W) H.size q → H1[q]? = H[q]?) : va_P D vwCl ws H1 := hP.kept (fun k q hq => hk1 q.1 ((hP k q hq).lt) (fun z => by
  rcases z with ⟨i, e, h⟩ | h
  · simp at h
  · exact absurd ((hP k q hq).lt) (Nat.not_lt.mpr h)))
/-- static calls of methods that touch no cell -/
theorem tg_Si {r : Int32} (S : CallFix p m c cc nL s args Ts own) (hM : tg_Mi l y wy rm D ty As [] [] r mc ms) (cw : CallB R s args own index y bytes maxL ret wy rm mc ms n ∧ (Cond.static y).before args s = true) (hK : va_K D vwCl (tg_tys ty) s) (hN : tg_N s) (hP : va_P D vwCl ws H) (hD : va_D A ws) (hS : va_S A s.heap H locs) (hA : ∀ q, s.heap.size ≤ q → A q)
    (hn : As.length = n) (hsize : ls.size = nL) (hst : st0 = As.reverse ++ rest) (hW : (rest.map fun v => v.category).sum ≤ 8) (hdg : decode cc pc = .ok (.invokestatic index, 3)) (hf : cells + mc ≤ R.cells ∧ slots + ms ≤ R.slots)
    (kk : ∀ (H1 : Heap) (locs1 : List Loc), va_P D vwCl ws H1 → va_D A ws → va_S A s.heap H1 locs1 → W p l e R s m args below meth c H1 locs1 (cells + mc) (slots + ms) Q (F0 m (pc + 3) ls (.int r :: rest))) : W p l e R s m args below meth c H locs cells slots Q (F0 m pc ls st0) := by
  have hF : ∀ q, va_A ([] : va_W) H.size q → A q := va_free (wc := []) hD hS hA [] rfl
  refine va_calli (va_runS (As := As) (rest := rest) S (hM H.size) cw (tg_pS hK hN hP hD [] rfl rfl) rfl hn hsize hst (lv_room hW) hdg hf) hS (fun q _ h => hF q h) hF (fun r1 u t H1 locs1 ht hvm hw hB hz1 hk1 hS1 => ?_)
  subst hw
  exact kk H1 locs1 (tg_k0 hP hk1) hD hS1
theorem tg_Sl {r : Int64} (S : CallFix p m c cc nL s args Ts own) (hM : tg_Ml l y wy rm D ty As [] [] r mc ms) (cw : CallB R s args own index y bytes maxL ret wy rm mc ms n ∧ (Cond.static y).before args s = true) (hK : va_K D vwCl (tg_tys ty) s) (hN : tg_N s) (hP : va_P D vwCl ws H) (hD : va_D A ws) (hS : va_S A s.heap H locs) (hA : ∀ q, s.heap.size ≤ q → A q)
    (hn : As.length = n) (hsize : ls.size = nL) (hst : st0 = As.reverse ++ rest) (hW : (rest.map fun v => v.category).sum ≤ 8) (hdg : decode cc pc = .ok (.invokestatic index, 3)) (hf : cells + mc ≤ R.cells ∧ slots + ms ≤ R.slots)
    (kk : ∀ (H1 : Heap) (locs1 : List Loc), va_P D vwCl ws H1 → va_D A ws → va_S A s.heap H1 locs1 → W p l e R s m args below meth c H1 locs1 (cells + mc) (slots + ms) Q (F0 m (pc + 3) ls (.long r :: rest))) : W p l e R s m args below meth c H locs cells slots Q (F0 m pc ls st0) := by
  have hF : ∀ q, va_A ([] : va_W) H.size q → A q := va_free (wc := []) hD hS hA [] rfl
  refine va_calll (va_runS (As := As) (rest := rest) S (hM H.size) cw (tg_pS hK hN hP hD [] rfl rfl) rfl hn hsize hst (lv_room hW) hdg hf) hS (fun q _ h => hF q h) hF (fun r1 u t H1 locs1 ht hvm hw hB hz1 hk1 hS1 => ?_)
  subst hw
  exact kk H1 locs1 (tg_k0 hP hk1) hD hS1
theorem tg_Sv (S : CallFix p m c cc nL s args Ts own) (hM : tg_Mv (S := Unit) l y wy rm D ty As [] (fun _ => []) mc ms) (cw : CallB R s args own index y bytes maxL ret wy rm mc ms n ∧ (Cond.static y).before args s = true) (hK : va_K D vwCl (tg_tys ty) s) (hN : tg_N s) (hP : va_P D vwCl ws H) (hD : va_D A ws) (hS : va_S A s.heap H locs) (hA : ∀ q, s.heap.size ≤ q → A q)
    (hn : As.length = n) (hsize : ls.size = nL) (hst : st0 = As.reverse ++ rest) (hW : (rest.map fun v => v.category).sum ≤ 8) (hdg : decode cc pc = .ok (.invokestatic index, 3)) (hf : cells + mc ≤ R.cells ∧ slots + ms ≤ R.slots)
    (kk : ∀ (H1 : Heap) (locs1 : List Loc), va_P D vwCl ws H1 → va_D A ws → va_S A s.heap H1 locs1 → W p l e R s m args below meth c H1 locs1 (cells + mc) (slots + ms) Q (F0 m (pc + 3) ls rest)) : W p l e R s m args below meth c H locs cells slots Q (F0 m pc ls st0) := by
  have hF : ∀ q, va_A ([] : va_W) H.size q → A q := va_free (wc := []) hD hS hA [] rfl
  refine va_callv (va_runS (As := As) (rest := rest) S (hM H.size) cw (tg_pS hK hN hP hD [] rfl rfl) rfl hn hsize hst (lv_room hW) hdg hf) hS (fun q _ h => hF q h) hF (fun u t H1 locs1 ht hvm hw hB hz1 hk1 hS1 => ?_)
  exact kk H1 locs1 (tg_k0 hP hk1) hD hS1
theorem tg_SNi {r : Int32} {host : String} (S : CallFix p m c cc nL s args Ts own) (hM : tg_Mi l y wy rm D ty As [] [] r mc ms) (cw : va_CN R s args own index y host bytes maxL ret wy rm mc ms n ∧ (Cond.static y).before args s = true ∧ True) (hK : va_K D vwCl (tg_tys ty) s) (hN : tg_N s) (hP : va_P D vwCl ws H) (hD : va_D A ws) (hS : va_S A s.heap H locs) (hA : ∀ q, s.heap.size ≤ q → A q)
    (hn : As.length = n) (hsize : ls.size = nL) (hst : st0 = As.reverse ++ rest) (hW : (rest.map fun v => v.category).sum ≤ 8) (hdg : decode cc pc = .ok (.invokestatic index, 3)) (hf : cells + mc ≤ R.cells ∧ slots + ms ≤ R.slots)
    (kk : ∀ (H1 : Heap) (locs1 : List Loc), va_P D vwCl ws H1 → va_D A ws → va_S A s.heap H1 locs1 → W p l e R s m args below meth c H1 locs1 (cells + mc) (slots + ms) Q (F0 m (pc + 3) ls (.int r :: rest))) : W p l e R s m args below meth c H locs cells slots Q (F0 m pc ls st0) := by
  have hF : ∀ q, va_A ([] : va_W) H.size q → A q := va_free (wc := []) hD hS hA [] rfl
  refine va_calli (va_runSN (As := As) (rest := rest) S (hM H.size) cw (tg_pS hK hN hP hD [] rfl rfl) rfl hn hsize hst (lv_room hW) hdg hf) hS (fun q _ h => hF q h) hF (fun r1 u t H1 locs1 ht hvm hw hB hz1 hk1 hS1 => ?_)
  subst hw
  exact kk H1 locs1 (tg_k0 hP hk1) hD hS1
end TGR
