/-! ===== the law's own helpers: called, they return; what they call may throw, they catch ===== -/
def tw_P (D : va_G) (ty : Nat → ClassId) (cs : va_W) (sz : Nat) (U : State) : Prop := tx_P D ty cs sz U ∧ va_Nc tx_IA tx_IO U
def tw_Mi (l : Launch) (y : MethodName) (ws : List Cond) (rm : Room) (D : va_G) (ty : Nat → ClassId) (av : List Value) (cs cs' : va_W) (r : Int32) : Prop :=
  ∀ sz : Nat, Met l y ws rm (va_Pc av (tw_P D ty cs sz)) (va_Qi (fun x (_ : Unit) => x = r) (tg_B D cs (fun _ => cs') sz) (va_A cs sz)) 1 6 (va_A cs sz)
theorem tw_blind {D : va_G} {ty : Nat → ClassId} {cs : va_W} {sz : Nat} {av : List Value} : FrameBlind (va_Pc av (tw_P D ty cs sz)) := fun a U g mk q => by
  obtain ⟨q0, q1, q2⟩ := q
  obtain ⟨g0, g1⟩ := tx_blind (av := av) (D := D) (ty := ty) (cs := cs) (sz := sz) a U g mk ⟨q0, q1⟩
  exact ⟨g0, g1, va_Nc.moved (u := U) (U := U.calling g mk a) (Vm.Alike.refl U.vm) q2⟩
theorem tw_start {l : Launch} {y : MethodName} {ws ws' : List Cond} {rm : Room} {D : va_G} {ty : Nat → ClassId} {av : List Value} {cs cs' : va_W} {r : Int32} {cc : ByteArray} {maxL : Nat} {hh : List (Nat × Nat × Nat × Nat)} {lvs : List (Nat × Value)}
    (hy : plainName y.cls = true) (hw : ws = Cond.codeWith y cc maxL (some .int) hh :: ws') (hlen : (lg_sl av).length ≤ maxL) (hlv : lv_args 0 av = lvs)
    (body : ∀ (p : Program) (e : Env) (s : State) (m : MethodId) (args : Array Value) (below : List Frame) (meth : Method) (c : Code) (A : Nat → Prop) (ls : Array Slot) (Q : State → Prop), p.tables.exec = Jvm.exec → c.code = cc → (∀ w ∈ ws, w.before args s = true) → s.vm.findClass y.cls = some m.cls → c.maxLocals = maxL →
      (∀ q, s.heap.size ≤ q → A q) → va_P D vwCl cs s.heap → va_D A cs → va_S A s.heap s.heap [] → va_K D vwCl (tg_tys ty) s → tg_N s → lv_has ls maxL lvs → tx_Z A s s.heap → va_Nc tx_IA tx_IO s → c.exceptionTable.toList = tableOf hh →
      (∀ (H : Heap) (locs : List Loc) (pc : Nat) (ls : Array Slot) (v : Int32) (cells slots : Nat), cells ≤ 1 → slots ≤ 6 → va_P D vwCl cs' H → va_D A cs' → va_S A s.heap H locs → v = r → decode cc pc = .ok (.ireturn, 1) → W p l e rm s m args below meth c H locs cells slots Q (F0 m pc ls [.int v])) →
      W p l e rm s m args below meth c s.heap [] 0 0 Q (F0 m 0 ls [])) : tw_Mi l y ws rm D ty av cs cs' r := by
  intro sz
  refine va_MetW (cc := cc) (maxL := maxL) (ret := some .int) (hh := hh) hy hw ?_
  intro p e s m args below meth c s₁ B hml hv
  obtain ⟨rfl, ⟨⟨hsz, hP, hK, hD0, hN⟩, hZ⟩, hNc⟩ := hv
  subst hsz
  subst hlv
  have hl := lv_entry av (n := maxL) hlen
  have hts := atoms_spec (ws := ws) B.pre
  rw [lg_entry_eq]
  exact body p e s m av.toArray below meth c (va_A cs s.heap.size) _ _ B.exec B.bytes hts (findClass_of_methodNamed B.named) hml (fun q h => Or.inr h) hP hD0.self va_S.rf hK hN hl hZ hNc
    (vx_table (x := y) B (hts (Cond.codeWith y cc maxL (some .int) hh) (by rw [hw]; exact List.mem_cons_self)))
    (fun H locs pc ls v cells slots hc1 hc2 h1 h2 h3 hv hd => W.widen hc1 hc2 (W.iret (v := v) B.exec B.bytes B.returns (fun t ht hW => ⟨⟨v, (), rfl, hv, by rw [ht]; exact h1, h2⟩, h3.F ht⟩) h3.2.2 hd))
section TWR
variable {p : Program} {l : Launch} {e : Env} {R : Room} {s : State} {m : MethodId} {args : Array Value} {below : List Frame} {meth : Method} {c : Code} {H : Heap} {locs : List Loc} {cells slots : Nat} {Q : State → Prop}
variable {cc : ByteArray} {pc : Nat} {ls : Array Slot} {rest : List Value} {D : va_G} {A : Nat → Prop} {ty : Nat → ClassId} {ws : va_W}
variable {y : MethodName} {bytes : ByteArray} {maxL nL n index : Nat} {ret : Option FieldType} {wy : List Cond} {rm : Room} {Ts : List Cond} {own C : String} {b : Addr} {As st0 : List Value} {wc wr : va_W}
/-- a method of the class is called and throws -/
theorem tx_V {E : String} (F : CallFix p m c cc nL s args Ts own) (hM : tx_M l y wy rm D ty (.ref b :: As) wc E) (cw : CallW R s args own C index y bytes maxL ret wy rm 1 6 n) (hK : va_K D vwCl (tg_tys ty) s) (hN : tg_N s) (hP : va_P D vwCl ws H) (hD : va_D A ws) (hS : va_S A s.heap H locs) (hA : ∀ q, s.heap.size ≤ q → A q) (hZ : tx_Z A s s.heap) (isC isR isO : List Nat) (q0 ci : Nat) {qc : vw_C} {fs : List Value} (hc : vwCl[ci]? = some qc) (he : ws[q0]? = some (b, .inr (ci, fs))) (hq : qc.1 = C)
    (hC : isC.map (fun i => ws[i]?) = wc.map some) (hR : isR.map (fun i => ws[i]?) = wr.map some) (hnd : va_nd isC = true) (hn2 : va_nd isR = true) (hdis : ∀ i ∈ isR, i ∉ isC) (hn : As.length = n) (hsize : ls.size = nL) (hst : st0 = As.reverse ++ .ref b :: rest) (hW : (rest.map fun v => v.category).sum ≤ 8) (hdg : decode cc pc = .ok (.invokevirtual index, 3)) (hO : isO.map (fun i => (wr ++ wc)[i]?) = ws.map some) (hO2 : va_nd isO = true) (hf : cells + 1 ≤ R.cells ∧ slots + 6 ≤ R.slots)
    (kx : ∀ (ce : Cell) (q9 : Addr) (H1 : Heap) (locs1 : List Loc), va_P D vwCl ws H1 → va_D A ws → va_S A s.heap H1 locs1 → H1[q9]? = some ce → ce.vm = .none → s.vm.findClass E = some ce.cls → vx_W p l e R s m args below meth c H1 locs1 (cells + 1) (slots + 6) Q (F0 m pc ls rest) q9) : W p l e R s m args below meth c H locs cells slots Q (F0 m pc ls st0) := by
  have hF := va_free hD hS hA isC hC
  have hpre : PreV s H C b (va_Pc (.ref b :: As) (tx_P D ty wc H.size)) As := by
    obtain ⟨h1, h2, h3⟩ := tg_pV (As := As) hK hN hP hD isC hC hnd hc he hq
    exact ⟨tx_blind, h2, fun U hU hWm => ⟨(h3 U hU hWm).1, (h3 U hU hWm).2, by rw [hU]; exact hZ.go hWm hS.2.1 hF⟩⟩
  refine tx_call (vx_runV (As := As) (rest := rest) F (hM H.size) cw hpre rfl hn hsize hst (lv_room hW) hdg hf) hS hF (fun q _ h => hF q h) (fun ce q9 t H1 locs1 ht hB hz1 hk1 hS1 hce hcv hcl => ?_)
  obtain ⟨hP1, hD1⟩ := tg_go hP hD hS hA isC isR hC hR hn2 hdis ht hk1 hB rfl isO hO hO2
  exact kx ce q9 H1 locs1 hP1 hD1 hS1 hce hcv hcl
/-- one of the law's helpers is called -/
theorem tw_S {r : Int32} {hh : List (Nat × Nat × Nat × Nat)} {w1 w2 : va_W} (F : CallFix p m c cc nL s args Ts own) (hM : tw_Mi l y wy rm D ty As wc w1 r) (cw : vx_CSW R s args own index y bytes maxL ret hh wy rm 1 6 n) (hK : va_K D vwCl (tg_tys ty) s) (hN : tg_N s) (hP : va_P D vwCl ws H) (hD : va_D A ws) (hS : va_S A s.heap H locs) (hA : ∀ q, s.heap.size ≤ q → A q) (hZ : tx_Z A s s.heap) (hNc : va_Nc tx_IA tx_IO s) (isC isR isO : List Nat)
    (hC : isC.map (fun i => ws[i]?) = wc.map some) (hR : isR.map (fun i => ws[i]?) = wr.map some) (hnd : va_nd isC = true) (hn2 : va_nd isR = true) (hdis : ∀ i ∈ isR, i ∉ isC) (hn : As.length = n) (hsize : ls.size = nL) (hst : st0 = As.reverse ++ rest) (hW : (rest.map fun v => v.category).sum ≤ 8) (hdg : decode cc pc = .ok (.invokestatic index, 3)) (hO : isO.map (fun i => (wr ++ w1)[i]?) = w2.map some) (hO2 : va_nd isO = true) (hf : cells + 1 ≤ R.cells ∧ slots + 6 ≤ R.slots)
    (kk : ∀ (H1 : Heap) (locs1 : List Loc), va_P D vwCl w2 H1 → va_D A w2 → va_S A s.heap H1 locs1 → W p l e R s m args below meth c H1 locs1 (cells + 1) (slots + 6) Q (F0 m (pc + 3) ls (.int r :: rest))) : W p l e R s m args below meth c H locs cells slots Q (F0 m pc ls st0) := by
  have hF := va_free hD hS hA isC hC
  have hpre : PreS s H (va_Pc As (tw_P D ty wc H.size)) As := by
    obtain ⟨h1, h2⟩ := tg_pS (As := As) hK hN hP hD isC hC hnd
    exact ⟨tw_blind, fun U hU hWm => ⟨(h2 U hU hWm).1, ⟨(h2 U hU hWm).2, by rw [hU]; exact hZ.go hWm hS.2.1 hF⟩, va_Nc.moved hWm.alike hNc⟩⟩
  refine va_calli (vx_runSW (As := As) (rest := rest) F (hM H.size) cw hpre rfl hn hsize hst (lv_room hW) hdg hf) hS (fun q _ h => hF q h) hF (fun r1 u t H1 locs1 ht hvm hw hB hz1 hk1 hS1 => ?_)
  obtain ⟨hP1, hD1⟩ := tg_go hP hD hS hA isC isR hC hR hn2 hdis ht hk1 hB rfl isO hO hO2
  subst hw
  exact kk H1 locs1 hP1 hD1 hS1
end TWR
def tg_bl (b : Bool) : Int64 := if b then 1 else 0
theorem tg_bl_t {b : Bool} (h : b = true) : 1 = tg_bl b := by rw [h]; rfl
theorem tg_bl_f {b : Bool} (h : b = false) : 0 = tg_bl b := by rw [h]; rfl
