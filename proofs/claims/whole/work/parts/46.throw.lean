/-! ===== methods of the class that throw: what they need of the start, their contract's form ===== -/
abbrev tx_IO : String := "java/lang/IndexOutOfBoundsException"
abbrev tx_IA : String := "java/lang/IllegalArgumentException"
abbrev tx_ns : List String := ["java/lang/RuntimeException", "java/lang/Exception"]
def tx_dc (U : State) : Prop := va_Nw (.declares (Bundle.initS "java/lang/RuntimeException")) U ∧ va_Nw (.declares (Bundle.initS "java/lang/Exception")) U ∧ va_Nw (.declares (Bundle.initS "java/lang/Throwable")) U
theorem tx_dw {x : MethodName} {s U : State} (hW : s.WarmedH U.vm) (hZ : va_Nw (.declares x) s) : va_Nw (.declares x) U := va_tabs rfl (rfl : (s.setVm U.vm).vm = U.vm) (by rw [Cond.declares_setVm hW.alike]; exact hZ)
/-- the four texts, the two classes' own casts, Throwable's two statics -/
def tx_Z (A : Nat → Prop) (U : State) (H : Heap) : Prop :=
  (∃ a, vk_R RX2 185 "no such store, key, level, node, message or what" a U) ∧ (∃ a, vk_R RX2 39 "a value has 0 to 8 bytes" a U) ∧ (∃ a, vk_R RX2 103 "n is 0 to 1000" a U) ∧ (∃ a, vk_R RX2 134 "no such what" a U) ∧
  va_Nw (.castable tx_IO tx_IO) U ∧ va_Nw (.castable tx_IA tx_IA) U ∧ tx_dc U ∧ vx_Zq Bundle.tN "UNASSIGNED_STACK" Bundle.steD A U H ∧ vx_Zq Bundle.tN "SUPPRESSED_SENTINEL" Bundle.listD A U H
theorem tx_Z.go {A B : Nat → Prop} {s U : State} {H0 H : Heap} (h : tx_Z A s H0) (hW : s.WarmedH U.vm) (hH : ∀ a : Nat, a < H0.size → ¬ A a → H[a]? = H0[a]?) (hB : ∀ q, B q → A q) : tx_Z B U H := by
  obtain ⟨⟨a1, h1⟩, ⟨a2, h2⟩, ⟨a3, h3⟩, ⟨a4, h4⟩, h5, h6, hd, h7, h8⟩ := h
  exact ⟨⟨a1, h1.warm hW⟩, ⟨a2, h2.warm hW⟩, ⟨a3, h3.warm hW⟩, ⟨a4, h4.warm hW⟩, va_Nw.warmC hW h5, va_Nw.warmC hW h6, ⟨tx_dw hW hd.1, tx_dw hW hd.2.1, tx_dw hW hd.2.2⟩, vx_Zq.moved hW.alike ((h7.kept hH).narrow hB), vx_Zq.moved hW.alike ((h8.kept hH).narrow hB)⟩
theorem tx_Z.same {A : Nat → Prop} {s U : State} {H : Heap} (h : tx_Z A s H) (hv : s.vm = U.vm) : tx_Z A U H := h.go (by rw [← hv]; exact State.WarmedH.refl s) (fun _ _ _ => rfl) (fun _ h => h)
def tx_P (D : va_G) (ty : Nat → ClassId) (cs : va_W) (sz : Nat) (U : State) : Prop := tg_pre D ty cs sz U ∧ tx_Z (va_A cs sz) U U.heap
def tx_M (l : Launch) (y : MethodName) (ws : List Cond) (rm : Room) (D : va_G) (ty : Nat → ClassId) (av : List Value) (cs : va_W) (E : String) : Prop :=
  ∀ sz : Nat, vx_Met l y ws rm (va_Pc av (tx_P D ty cs sz)) (fun _ _ _ _ => False) (vx_X (fun _ : Unit => True) (fun E' u t => E' = E ∧ tg_B D cs (fun _ => cs) sz u t) (va_A cs sz)) 1 6 (va_A cs sz)
theorem tx_blind {D : va_G} {ty : Nat → ClassId} {cs : va_W} {sz : Nat} {av : List Value} : FrameBlind (va_Pc av (tx_P D ty cs sz)) := fun a U g mk q => by
  obtain ⟨q0, ⟨q1, qP, qK, qD, qN⟩, qZ⟩ := q
  exact ⟨q0, ⟨q1, qP, va_K.moved (u := U) (U := U.calling g mk a) (Vm.Alike.refl U.vm) qK, qD, tg_N.same (s := U) (U := U.calling g mk a) rfl qN⟩, qZ.same (U := U.calling g mk a) rfl⟩
theorem tx_start {l : Launch} {y : MethodName} {ws ws' : List Cond} {rm : Room} {D : va_G} {ty : Nat → ClassId} {av : List Value} {cs : va_W} {E : String} {cc : ByteArray} {maxL : Nat} {ret : Option FieldType} {lvs : List (Nat × Value)}
    (hy : plainName y.cls = true) (hw : ws = Cond.code y cc maxL ret :: ws') (hlen : (lg_sl av).length ≤ maxL) (hlv : lv_args 0 av = lvs)
    (body : ∀ (p : Program) (e : Env) (s : State) (m : MethodId) (args : Array Value) (below : List Frame) (meth : Method) (c : Code) (A : Nat → Prop) (ls : Array Slot) (Qc : Array Value → State → Outcome → State → Prop) (XC : String → State → State → Prop) (free : Addr → Prop), p.tables.exec = Jvm.exec → c.code = cc → (∀ w ∈ ws, w.before args s = true) → s.vm.findClass y.cls = some m.cls → meth.locks = false → c.maxLocals = maxL →
      (∀ q, s.heap.size ≤ q → A q) → va_P D vwCl cs s.heap → va_D A cs → va_S A s.heap s.heap [] → va_K D vwCl (tg_tys ty) s → tg_N s → lv_has ls maxL lvs → tx_Z A s s.heap → (∀ x ∈ c.exceptionTable.toList, False) →
      (∀ (H : Heap) (locs : List Loc) (t : State), va_P D vwCl cs H → va_D A cs → va_S A s.heap H locs → s.vm.Alike t.vm → H.size ≤ t.heap.size → (∀ q : Nat, q < H.size → t.heap[q]? = H[q]?) → XC E s t) → (∀ (H : Heap) (locs : List Loc), va_S A s.heap H locs → ∀ z ∈ locs, free z.base) →
      W p l e rm s m args below meth c s.heap [] 0 0 (vx_MQ below Qc XC args s 1 6 free) (F0 m 0 ls [])) : tx_M l y ws rm D ty av cs E := by
  intro sz
  refine vx_ofW (cc := cc) (maxL := maxL) (ret := ret) hy hw ?_
  intro p e s m args below meth c s₁ B hml hex hv
  obtain ⟨rfl, ⟨hsz, hP, hK, hD0, hN⟩, hZ⟩ := hv
  subst hsz
  subst hlv
  have hl := lv_entry av (n := maxL) hlen
  rw [lg_entry_eq]
  exact body p e s m av.toArray below meth c (va_A cs s.heap.size) _ _ _ _ B.exec B.bytes (atoms_spec (ws := ws) B.pre) (findClass_of_methodNamed B.named) B.notSynchronized hml (fun q h => Or.inr h) hP hD0.self va_S.rf hK hN hl hZ hex
    (fun H locs t h1 h2 h3 _ h5 h6 => ⟨(), trivial, ⟨rfl, h1.kept (fun k q hq => h6 q.1 ((h1 k q hq).lt)), h2⟩, Nat.le_trans h3.1 h5, fun q hq hn => (h6 q (Nat.lt_of_lt_of_le hq h3.1)).trans (h3.2.1 q hq hn)⟩)
    (fun H locs h => h.2.2)
section TXT
variable {p : Program} {l : Launch} {e : Env} {R : Room} {s : State} {m : MethodId} {args : Array Value} {below : List Frame} {meth : Method} {c : Code} {H : Heap} {locs : List Loc} {cells slots : Nat} {Q : State → Prop}
variable {cc : ByteArray} {pc : Nat} {ls : Array Slot} {rest : List Value} {D : va_G} {A : Nat → Prop} {ty : Nat → ClassId} {ws : va_W}
/-- a call that throws -/
theorem tx_call {mc ms : Nat} {free : Addr → Prop} {A0 AX : Nat → Prop} {H0 : Heap} {st0 : List Value} {E : String} {cs : va_W} {sz : Nat} (hr : vx_Run p l e R s m args below meth c H locs cells slots mc ms (F0 m pc ls st0) rest (fun _ _ _ => False) (vx_X (fun _ : Unit => True) (fun E' u t => E' = E ∧ tg_B D cs (fun _ => cs) sz u t) AX) free) (hS : va_S A0 H0 H locs) (hf : ∀ q, free q → A0 q) (hAX : ∀ q, q < H.size → AX q → A0 q)
    (kx : ∀ (ce : Cell) (q9 : Addr) (t : State) (H1 : Heap) (locs1 : List Loc), t.heap = H1 → tg_B D cs (fun _ : Unit => cs) sz () t → H.size ≤ H1.size → (∀ q : Nat, q < H.size → ¬ AX q → H1[q]? = H[q]?) → va_S A0 H0 H1 locs1 → H1[q9]? = some ce → ce.vm = .none → s.vm.findClass E = some ce.cls → vx_W p l e R s m args below meth c H1 locs1 (cells + mc) (slots + ms) Q (F0 m pc ls rest) q9) : W p l e R s m args below meth c H locs cells slots Q (F0 m pc ls st0) := by
  intro T hT X
  rcases hr T hT X with ⟨v, st₀, t, T', L, h0, X', hL, e1, e2, hq, st⟩ | ⟨q, st₀, t, T', L, E', ce, h0, X', hL, e1, e2, ⟨u, hp, ⟨hE, hb⟩, hF⟩, hce, hcv, hcl, st⟩
  · exact hq.elim
  · subst hE
    obtain ⟨k1, k2, k3⟩ := vx_keep h0 e1 hS hAX hf hL hF
    obtain ⟨t2, a1, b1⟩ := kx ce q t T'.heap (locs ++ L) e1.symm hb k1 k2 k3 (by rw [e1]; exact hce) hcv hcl T' rfl X'
    exact ⟨t2, st.trans a1, b1⟩
variable {y : MethodName} {bytes : ByteArray} {maxL nL n index : Nat} {ret : Option FieldType} {wy : List Cond} {rm : Room} {Ts : List Cond} {own C : String} {b : Addr} {As st0 : List Value} {wc wr : va_W}
/-- .. of a static method that touches no cell, out of a method that doesn't catch -/
theorem tx_S {E : String} {Qc : Array Value → State → Outcome → State → Prop} {XC : String → State → State → Prop} {free : Addr → Prop} (S : CallFix p m c cc nL s args Ts own) (hM : tx_M l y wy rm D ty As [] E) (cw : CallB R s args own index y bytes maxL ret wy rm 1 6 n ∧ (Cond.static y).before args s = true) (hK : va_K D vwCl (tg_tys ty) s) (hN : tg_N s) (hP : va_P D vwCl ws H) (hD : va_D A ws) (hS : va_S A s.heap H locs) (hA : ∀ q, s.heap.size ≤ q → A q) (hZ : tx_Z A s s.heap)
    (hex : ∀ x ∈ c.exceptionTable.toList, False) (hlocks : meth.locks = false)
    (hxc : ∀ (H : Heap) (locs : List Loc) (t : State), va_P D vwCl ws H → va_D A ws → va_S A s.heap H locs → s.vm.Alike t.vm → H.size ≤ t.heap.size → (∀ q : Nat, q < H.size → t.heap[q]? = H[q]?) → XC E s t) (hfr : ∀ (H : Heap) (locs : List Loc), va_S A s.heap H locs → ∀ z ∈ locs, free z.base)
    (hn : As.length = n) (hsize : ls.size = nL) (hst : st0 = As.reverse ++ rest) (hW : (rest.map fun v => v.category).sum ≤ 8) (hdg : decode cc pc = .ok (.invokestatic index, 3)) (hf : cells + 1 ≤ R.cells ∧ slots + 6 ≤ R.slots) (hc : cells = 0 ∧ slots = 0) :
    W p l e R s m args below meth c H locs cells slots (vx_MQ below Qc XC args s 1 6 free) (F0 m pc ls st0) := by
  have hF : ∀ q, va_A ([] : va_W) H.size q → A q := va_free (wc := []) hD hS hA [] rfl
  have hpre : PreS s H (va_Pc As (tx_P D ty [] H.size)) As := by
    obtain ⟨h1, h2⟩ := tg_pS (As := As) (wc := []) hK hN hP hD [] rfl rfl
    exact ⟨tx_blind, fun U hU hWm => ⟨(h2 U hU hWm).1, (h2 U hU hWm).2, by rw [hU]; exact hZ.go hWm hS.2.1 hF⟩⟩
  refine tx_call (vx_runS (As := As) (rest := rest) S (hM H.size) cw hpre rfl hn hsize hst (lv_room hW) hdg hf) hS hF (fun q _ h => hF q h) (fun ce q9 t H1 locs1 ht hB hz1 hk1 hS1 hce hcv hcl => ?_)
  have hP1 : va_P D vwCl ws H1 := tg_k0 hP hk1
  refine vx_out (fun x hx => (hex x hx).elim) hlocks hce hcv hcl (fun t2 ht2 hal => hxc H1 locs1 t2 hP1 hD hS1 hal (by rw [ht2]; exact Nat.le_refl _) (fun q _ => by rw [ht2])) (hfr H1 locs1 hS1) ?_ ?_
  · rw [hc.1]; exact Nat.le_refl 1
  · rw [hc.2]; exact Nat.le_refl 6
end TXT
def rmx_X2_checkIndex : Room := { frames := 6, cells := 1, slots := 6, locals := 90 }
theorem tx_gIO : ∀ w ∈ Cond.classLink RX2 132 tx_IO :: Cond.initialized tx_IO :: vx_atS RX2 136 tx_IO tx_ns, vx_ot w = true := by decide +kernel
theorem tx_gIA : ∀ w ∈ Cond.classLink RX2 37 tx_IA :: Cond.initialized tx_IA :: vx_atS RX2 41 tx_IA tx_ns, vx_ot w = true := by decide +kernel
def tx_B (E : String) : List Cond := [Cond.castable E E, Cond.declares (Bundle.initS "java/lang/RuntimeException"), Cond.declares (Bundle.initS "java/lang/Exception"), Cond.declares (Bundle.initS "java/lang/Throwable")]
theorem tx_nIO : ∀ w ∈ (vx_atS RX2 136 tx_IO tx_ns).filter (fun w => !goodWord w), w ∈ tx_B tx_IO := by decide +kernel
theorem tx_nIA : ∀ w ∈ (vx_atS RX2 41 tx_IA tx_ns).filter (fun w => !goodWord w), w ∈ tx_B tx_IA := by decide +kernel
theorem tx_cast {E : String} {s : State} {args : Array Value} (h : va_Nw (.castable E E) s) (hd : tx_dc s) : ∀ w ∈ tx_B E, w.before args s = true := vx_c (va_Nw.use (A := args) rfl h) (vx_c (va_Nw.use (A := args) rfl hd.1) (vx_c (va_Nw.use (A := args) rfl hd.2.1) (vx_c (va_Nw.use (A := args) rfl hd.2.2) vx_n)))
set_option maxHeartbeats 4000000 in
set_option maxRecDepth 100000 in
theorem x_X2_checkIndex (l : Launch) (hl0 : l.stackTraces = false) (D : va_G) (ty : Nat → ClassId) (k1 n1 : Int32) (hv : ¬ k1 < 0 → k1 < n1 → False) : tx_M l yX2_checkIndex wsX2_checkIndex rmx_X2_checkIndex D ty [.int k1, .int n1] [] tx_IO := by
  refine tx_start (cc := cX2_checkIndex) (maxL := 2) (lvs := [(0, .int k1), (1, .int n1)]) (by decide) rfl (Nat.le_of_ble_eq_true rfl) rfl ?_
  intro pp ee ss mm args below meth cc AA ls Qc XC free hx hb hts hown hlocks hml hA hP hD hS hK hN hl hZ hex hxc hfr
  have hthrow : ∀ ls : Array Slot, ls.size = 2 → W pp l ee rmx_X2_checkIndex ss mm args below meth cc ss.heap [] 0 0 (vx_MQ below Qc XC args ss 1 6 free) (F0 mm 9 ls []) := fun ls hsz => by
    obtain ⟨⟨a1, h1⟩, -, -, -, h5, -, hd, h7, h8⟩ := hZ
    exact vx_throwS (own := RX2) (cls := tx_IO) (names := tx_ns) (ik := 132) (is := 185) (ic := 136) hx hb hl0 hown (by decide) (by decide) (hts _ (by decide +kernel)) (hts _ (by decide +kernel)) h1
      (vx_hat (fun w hw => hts w (List.mem_cons_of_mem _ (List.mem_append_right _ hw))) tx_nIO (tx_cast h5 hd)) tx_gIO h7 h8 hS (hsz.trans hml.symm) dX2_checkIndex_9 dX2_checkIndex_12 dX2_checkIndex_13 dX2_checkIndex_15 dX2_checkIndex_18 (fun x hx => (hex x hx).elim)
      (by decide) (Nat.le_of_ble_eq_true rfl) (Nat.le_of_ble_eq_true rfl) (Nat.le_of_ble_eq_true rfl) hlocks (fun t ha hz hq => hxc ss.heap [] t hP hD hS ha hz hq) (hfr _ _ hS) (Nat.le_refl _) (Nat.le_refl _)
  refine lv_iload_n hx hb dX2_checkIndex_0 rfl (lv_at hl 0 rfl) ?_
  refine lv_if_lt (tgt := 9) hx hb dX2_checkIndex_1 (by decide) (fun h1 => ?_) (fun h1 => ?_)
  · exact hthrow ls hl.1
  · refine lv_iload_n hx hb dX2_checkIndex_4 rfl (lv_at hl 0 rfl) ?_
    refine lv_iload_n hx hb dX2_checkIndex_5 rfl (lv_at hl 1 rfl) ?_
    refine lv_icmp_lt (tgt := 19) hx hb dX2_checkIndex_6 (by decide) (fun h2 => (hv h1 h2).elim) (fun h2 => ?_)
    exact hthrow ls hl.1
