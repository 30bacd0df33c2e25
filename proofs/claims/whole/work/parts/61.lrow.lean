/-! ===== the law: what holds at its head, rows of its own ===== -/
def tl_At (p : Program) (s : State) (m : MethodId) (c : Code) (b L : Nat) (xs : Nat → Int32) (D : va_G) (ty : Nat → ClassId) : Prop :=
  p.tables.exec = Jvm.exec ∧ c.code = cL_law ∧ c.maxLocals = 8 ∧ s.vm.findClass RL = some m.cls ∧ (∀ w ∈ wsL_law, w.before #[Value.ref b] s = true) ∧ va_X b L xs s s.heap ∧ b < s.heap.size ∧ va_K D vwCl (tg_tys ty) s ∧ tg_N s ∧ tx_Z (fun q => s.heap.size ≤ q) s s.heap ∧ va_Nc tx_IA tx_IO s
def tl_L (x y : Int32) : Int64 := tg_ll (Int32.toInt64 x) (nI 32) ||| (Int32.toInt64 y &&& 4294967295)
/-- the room of one of the law's helpers, of a method called by the law itself -/
def tl_rw (rm : Room) (n : Nat) : Prop := rm.cells = 1 ∧ rm.slots = 6 ∧ rm.frames + 1 ≤ 11 ∧ 8 + (n + 11) + rm.locals ≤ 414
def tl_rr (rm : Room) (n : Nat) : Prop := rm.cells = 0 ∧ rm.slots = 0 ∧ rm.frames + 1 ≤ 11 ∧ 8 + (n + 11) + rm.locals ≤ 414
section TLR
variable {p : Program} {l : Launch} {e : Env} {R : Room} {s : State} {m : MethodId} {args : Array Value} {below : List Frame} {meth : Method} {c : Code} {H : Heap} {locs : List Loc} {cells slots : Nat} {Q : State → Prop}
variable {cc : ByteArray} {pc : Nat} {ls : Array Slot} {rest : List Value}
/-- an int of the script -/
theorem tl_sld (hx : p.tables.exec = Jvm.exec) (hb : c.code = cc) {b L : Nat} {xs : Nat → Int32} (hX : va_X b L xs s s.heap) (hbl : b < s.heap.size) (hS : va_S (fun q => s.heap.size ≤ q) s.heap H locs) {k : Nat} (hk : k < L) (hL : L ≤ 4096) (hdg : decode cc pc = .ok (.iaload, 1))
    (kk : W p l e R s m args below meth c H locs cells slots Q (F0 m (pc + 1) ls (.int (xs k) :: rest))) : W p l e R s m args below meth c H locs cells slots Q (F0 m pc ls (.int (nI k) :: .ref b :: rest)) :=
  va_sld hx hb hX hbl (fun h => Nat.lt_irrefl b (Nat.lt_of_lt_of_le hbl h)) hS (vp_in_nI hk (by omega)) hdg (by rw [nI_clamp (by omega)]; exact kk)
theorem tl_slen (hx : p.tables.exec = Jvm.exec) (hb : c.code = cc) {b L : Nat} {xs : Nat → Int32} (hX : va_X b L xs s s.heap) (hbl : b < s.heap.size) (hS : va_S (fun q => s.heap.size ≤ q) s.heap H locs) (hdg : decode cc pc = .ok (.arraylength, 1))
    (kk : W p l e R s m args below meth c H locs cells slots Q (F0 m (pc + 1) ls (.int (nI L) :: rest))) : W p l e R s m args below meth c H locs cells slots Q (F0 m pc ls (.ref b :: rest)) :=
  va_slen hx hb hX hbl (fun h => Nat.lt_irrefl b (Nat.lt_of_lt_of_le hbl h)) hS hdg kk
theorem tl_eq (hx : p.tables.exec = Jvm.exec) (hb : c.code = cc) {x y : Int32} (hxy : x = y) {off : Int} {tgt : Nat} (hdg : decode cc pc = .ok (.if_icmp .eq off, 3)) (ht : (pc : Int) + off = (tgt : Int))
    (kk : W p l e R s m args below meth c H locs cells slots Q (F0 m tgt ls rest)) : W p l e R s m args below meth c H locs cells slots Q (F0 m pc ls (.int y :: .int x :: rest)) :=
  lv_icmp_eq hx hb hdg ht (fun _ => kk) (fun h => absurd hxy h)
variable {D : va_G} {A : Nat → Prop} {ty : Nat → ClassId} {ws : va_W} {y : MethodName} {bytes : ByteArray} {maxL nL mc ms n index : Nat} {wy : List Cond} {rm : Room} {Ts : List Cond} {own : String} {b : Addr} {st0 : List Value} {wc wr : va_W}
/-- the class's own constructor is called -/
theorem tl_I {S : Type} {cs' : S → va_W} (F : CallFix p m c cc nL s args Ts own) (hM : tn_Mv (S := S) l y wy rm D ty [.ref b] wc cs' mc ms) (cw : CallB R s args own index y bytes maxL none wy rm mc ms 0 ∧ y.name = "<init>" ∧ (Cond.instanceMethod y).before args s = true) (hK : va_K D vwCl (tg_tys ty) s) (hN : tg_N s) (hO1 : va_AO RX1 s) (hO0 : va_AO RX0 s) (hP : va_P D vwCl ws H) (hD : va_D A ws) (hS : va_S A s.heap H locs) (hA : ∀ q, s.heap.size ≤ q → A q) (isC isR : List Nat)
    (hC : isC.map (fun i => ws[i]?) = wc.map some) (hR : isR.map (fun i => ws[i]?) = wr.map some) (hnd : va_nd isC = true) (hn2 : va_nd isR = true) (hdis : ∀ i ∈ isR, i ∉ isC) (hsize : ls.size = nL) (hst : st0 = .ref b :: rest) (hW : (rest.map fun v => v.category).sum ≤ 8) (hdg : decode cc pc = .ok (.invokespecial index, 3)) (hf : cells + mc ≤ R.cells ∧ slots + ms ≤ R.slots)
    (kk : ∀ (u : S) (H1 : Heap) (locs1 : List Loc), va_P D vwCl (wr ++ cs' u) H1 → va_D A (wr ++ cs' u) → va_S A s.heap H1 locs1 → W p l e R s m args below meth c H1 locs1 (cells + mc) (slots + ms) Q (F0 m (pc + 3) ls rest)) : W p l e R s m args below meth c H locs cells slots Q (F0 m pc ls st0) := by
  have hF := va_free hD hS hA isC hC
  have hpre : PreS s H (va_Pc [.ref b] (tn_P D ty wc H.size)) [.ref b] := by
    obtain ⟨h1, h2⟩ := tg_pS (As := [.ref b]) hK hN hP hD isC hC hnd
    exact ⟨tn_blind, fun U hU hWm => ⟨(h2 U hU hWm).1, (h2 U hU hWm).2, va_AO.moved hWm.alike hO1, va_AO.moved hWm.alike hO0⟩⟩
  refine va_callv (va_runI (As := []) (rest := rest) F (hM H.size) cw hpre rfl rfl hsize hst (lv_room hW) hdg hf) hS (fun q _ h => hF q h) hF (fun u t H1 locs1 ht hvm hw hB hz1 hk1 hS1 => ?_)
  subst ht
  obtain ⟨g1, g2⟩ := va_join hP hD isC isR hC hR hn2 hdis hk1 hF hB.1 hB.2
  exact kk u t.heap locs1 g1 g2 hS1
end TLR
theorem tl_rg {α : Type} (a b : List α) : (List.range a.length).map (fun i => (a ++ b)[i]?) = a.map some := by
  refine List.ext_getElem (by simp) (fun i h1 h2 => ?_)
  have h3 : i < a.length := by simpa using h1
  simp [List.getElem?_append_left, h3]
theorem tl_rg2 {α : Type} (a b : List α) : (List.range' a.length b.length).map (fun i => (a ++ b)[i]?) = b.map some := by
  refine List.ext_getElem (by simp) (fun i h1 h2 => ?_)
  have h3 : i < b.length := by simpa using h1
  simp [List.getElem?_append_right, h3]
theorem tl_rg0 {α : Type} (a : List α) : (List.range a.length).map (fun i => a[i]?) = a.map some := by
  refine List.ext_getElem (by simp) (fun i h1 h2 => ?_)
  have h3 : i < a.length := by simpa using h1
  simp [h3]
theorem tl_nd : ∀ (l : List Nat), l.Nodup → va_nd l = true
  | [], _ => rfl
  | a :: l, h => by
    obtain ⟨h1, h2⟩ := List.nodup_cons.mp h
    show (decide (a ∉ l) && va_nd l) = true
    rw [tl_nd l h2, decide_eq_true h1]; rfl
theorem tl_dis1 {n k : Nat} : ∀ i ∈ List.range' n k, i ∉ List.range n := fun i h1 h2 => by
  have := List.mem_range.mp h2
  have := (List.mem_range'_1.mp h1).1
  omega
theorem tl_dis2 {n k : Nat} : ∀ i ∈ List.range n, i ∉ List.range' n k := fun i h1 h2 => tl_dis1 i h2 h1
theorem tl_apl {α : Type} {a b : List α} {k : Nat} {x : α} (h : a[k]? = some x) : (a ++ b)[k]? = some x := by
  rw [List.getElem?_append_left (List.getElem?_eq_some_iff.mp h).1]; exact h
theorem tl_apr {α : Type} {a b : List α} {x : α} (h : b[0]? = some x) : (a ++ b)[a.length]? = some x := by
  rw [List.getElem?_append_right (Nat.le_refl _), Nat.sub_self]; exact h
section TLC
variable {p : Program} {l : Launch} {e : Env} {R : Room} {s : State} {m : MethodId} {args : Array Value} {below : List Frame} {meth : Method} {c : Code} {H : Heap} {locs : List Loc} {cells slots : Nat} {Q : State → Prop}
variable {cc : ByteArray} {pc : Nat} {ls : Array Slot} {rest : List Value} {D : va_G} {A : Nat → Prop} {ty : Nat → ClassId}
variable {y : MethodName} {bytes : ByteArray} {maxL nL mc ms n index : Nat} {ret : Option FieldType} {wy : List Cond} {rm : Room} {Ts : List Cond} {own C : String} {b : Addr} {As st0 : List Value} {wc wr : va_W}
theorem tl_ViF {r : Int32} {w1 : va_W} (S : CallFix p m c cc nL s args Ts own) (hM : tg_Mi l y wy rm D ty (.ref b :: As) wc w1 r mc ms) (cw : CallW R s args own C index y bytes maxL ret wy rm mc ms n) (hK : va_K D vwCl (tg_tys ty) s) (hN : tg_N s) (hP : va_P D vwCl (wc ++ wr) H) (hD : va_D A (wc ++ wr)) (hS : va_S A s.heap H locs) (hA : ∀ q, s.heap.size ≤ q → A q) (ci : Nat) {qc : vw_C} {fs : List Value} (hc : vwCl[ci]? = some qc) (he : wc[0]? = some (b, .inr (ci, fs))) (hq : qc.1 = C) (hn : As.length = n) (hsize : ls.size = nL) (hst : st0 = As.reverse ++ .ref b :: rest) (hW : (rest.map fun v => v.category).sum ≤ 8) (hdg : decode cc pc = .ok (.invokevirtual index, 3)) (hf : cells + mc ≤ R.cells ∧ slots + ms ≤ R.slots)
    (kk : ∀ (H1 : Heap) (locs1 : List Loc), va_P D vwCl (wr ++ w1) H1 → va_D A (wr ++ w1) → va_S A s.heap H1 locs1 → W p l e R s m args below meth c H1 locs1 (cells + mc) (slots + ms) Q (F0 m (pc + 3) ls (.int r :: rest))) : W p l e R s m args below meth c H locs cells slots Q (F0 m pc ls st0) :=
  tg_Vi S hM cw hK hN hP hD hS hA (List.range wc.length) (List.range' wc.length wr.length) (List.range (wr ++ w1).length) 0 ci hc (tl_apl he) hq (tl_rg wc wr) (tl_rg2 wc wr) (tl_nd _ List.nodup_range) (tl_nd _ List.nodup_range') tl_dis1 hn hsize hst hW hdg (tl_rg0 _) (tl_nd _ List.nodup_range) hf kk
theorem tl_VlF {r : Int64} {w1 : va_W} (S : CallFix p m c cc nL s args Ts own) (hM : tg_Ml l y wy rm D ty (.ref b :: As) wc w1 r mc ms) (cw : CallW R s args own C index y bytes maxL ret wy rm mc ms n) (hK : va_K D vwCl (tg_tys ty) s) (hN : tg_N s) (hP : va_P D vwCl (wc ++ wr) H) (hD : va_D A (wc ++ wr)) (hS : va_S A s.heap H locs) (hA : ∀ q, s.heap.size ≤ q → A q) (ci : Nat) {qc : vw_C} {fs : List Value} (hc : vwCl[ci]? = some qc) (he : wc[0]? = some (b, .inr (ci, fs))) (hq : qc.1 = C) (hn : As.length = n) (hsize : ls.size = nL) (hst : st0 = As.reverse ++ .ref b :: rest) (hW : (rest.map fun v => v.category).sum ≤ 8) (hdg : decode cc pc = .ok (.invokevirtual index, 3)) (hf : cells + mc ≤ R.cells ∧ slots + ms ≤ R.slots)
    (kk : ∀ (H1 : Heap) (locs1 : List Loc), va_P D vwCl (wr ++ w1) H1 → va_D A (wr ++ w1) → va_S A s.heap H1 locs1 → W p l e R s m args below meth c H1 locs1 (cells + mc) (slots + ms) Q (F0 m (pc + 3) ls (.long r :: rest))) : W p l e R s m args below meth c H locs cells slots Q (F0 m pc ls st0) :=
  tg_Vl S hM cw hK hN hP hD hS hA (List.range wc.length) (List.range' wc.length wr.length) (List.range (wr ++ w1).length) 0 ci hc (tl_apl he) hq (tl_rg wc wr) (tl_rg2 wc wr) (tl_nd _ List.nodup_range) (tl_nd _ List.nodup_range') tl_dis1 hn hsize hst hW hdg (tl_rg0 _) (tl_nd _ List.nodup_range) hf kk
theorem tl_VvF {w1 : va_W} (S : CallFix p m c cc nL s args Ts own) (hM : tg_Mv (S := Unit) l y wy rm D ty (.ref b :: As) wc (fun _ => w1) mc ms) (cw : CallW R s args own C index y bytes maxL ret wy rm mc ms n) (hK : va_K D vwCl (tg_tys ty) s) (hN : tg_N s) (hP : va_P D vwCl (wc ++ wr) H) (hD : va_D A (wc ++ wr)) (hS : va_S A s.heap H locs) (hA : ∀ q, s.heap.size ≤ q → A q) (ci : Nat) {qc : vw_C} {fs : List Value} (hc : vwCl[ci]? = some qc) (he : wc[0]? = some (b, .inr (ci, fs))) (hq : qc.1 = C) (hn : As.length = n) (hsize : ls.size = nL) (hst : st0 = As.reverse ++ .ref b :: rest) (hW : (rest.map fun v => v.category).sum ≤ 8) (hdg : decode cc pc = .ok (.invokevirtual index, 3)) (hf : cells + mc ≤ R.cells ∧ slots + ms ≤ R.slots)
    (kk : ∀ (H1 : Heap) (locs1 : List Loc), va_P D vwCl (wr ++ w1) H1 → va_D A (wr ++ w1) → va_S A s.heap H1 locs1 → W p l e R s m args below meth c H1 locs1 (cells + mc) (slots + ms) Q (F0 m (pc + 3) ls (rest))) : W p l e R s m args below meth c H locs cells slots Q (F0 m pc ls st0) :=
  tg_Vv S hM cw hK hN hP hD hS hA (List.range wc.length) (List.range' wc.length wr.length) (List.range (wr ++ w1).length) 0 ci hc (tl_apl he) hq (tl_rg wc wr) (tl_rg2 wc wr) (tl_nd _ List.nodup_range) (tl_nd _ List.nodup_range') tl_dis1 hn hsize hst hW hdg (tl_rg0 _) (tl_nd _ List.nodup_range) hf kk
theorem tl_ViL {r : Int32} {w1 : va_W} (S : CallFix p m c cc nL s args Ts own) (hM : tg_Mi l y wy rm D ty (.ref b :: As) wc w1 r mc ms) (cw : CallW R s args own C index y bytes maxL ret wy rm mc ms n) (hK : va_K D vwCl (tg_tys ty) s) (hN : tg_N s) (hP : va_P D vwCl (wr ++ wc) H) (hD : va_D A (wr ++ wc)) (hS : va_S A s.heap H locs) (hA : ∀ q, s.heap.size ≤ q → A q) (ci : Nat) {qc : vw_C} {fs : List Value} (hc : vwCl[ci]? = some qc) (he : wc[0]? = some (b, .inr (ci, fs))) (hq : qc.1 = C) (hn : As.length = n) (hsize : ls.size = nL) (hst : st0 = As.reverse ++ .ref b :: rest) (hW : (rest.map fun v => v.category).sum ≤ 8) (hdg : decode cc pc = .ok (.invokevirtual index, 3)) (hf : cells + mc ≤ R.cells ∧ slots + ms ≤ R.slots)
    (kk : ∀ (H1 : Heap) (locs1 : List Loc), va_P D vwCl (wr ++ w1) H1 → va_D A (wr ++ w1) → va_S A s.heap H1 locs1 → W p l e R s m args below meth c H1 locs1 (cells + mc) (slots + ms) Q (F0 m (pc + 3) ls (.int r :: rest))) : W p l e R s m args below meth c H locs cells slots Q (F0 m pc ls st0) :=
  tg_Vi S hM cw hK hN hP hD hS hA (List.range' wr.length wc.length) (List.range wr.length) (List.range (wr ++ w1).length) wr.length ci hc (tl_apr he) hq (tl_rg2 wr wc) (tl_rg wr wc) (tl_nd _ List.nodup_range') (tl_nd _ List.nodup_range) tl_dis2 hn hsize hst hW hdg (tl_rg0 _) (tl_nd _ List.nodup_range) hf kk
theorem tl_SF {r : Int32} {w1 : va_W} {hh : List (Nat × Nat × Nat × Nat)} (S : CallFix p m c cc nL s args Ts own) (hM : tw_Mi l y wy rm D ty As wc w1 r) (cw : vx_CSW R s args own index y bytes maxL ret hh wy rm 1 6 n) (hK : va_K D vwCl (tg_tys ty) s) (hN : tg_N s) (hP : va_P D vwCl (wc ++ wr) H) (hD : va_D A (wc ++ wr)) (hS : va_S A s.heap H locs) (hA : ∀ q, s.heap.size ≤ q → A q) (hZ : tx_Z A s s.heap) (hNc : va_Nc tx_IA tx_IO s) (hn : As.length = n) (hsize : ls.size = nL) (hst : st0 = As.reverse ++ rest) (hW : (rest.map fun v => v.category).sum ≤ 8) (hdg : decode cc pc = .ok (.invokestatic index, 3)) (hf : cells + 1 ≤ R.cells ∧ slots + 6 ≤ R.slots)
    (kk : ∀ (H1 : Heap) (locs1 : List Loc), va_P D vwCl (wr ++ w1) H1 → va_D A (wr ++ w1) → va_S A s.heap H1 locs1 → W p l e R s m args below meth c H1 locs1 (cells + 1) (slots + 6) Q (F0 m (pc + 3) ls (.int r :: rest))) : W p l e R s m args below meth c H locs cells slots Q (F0 m pc ls st0) :=
  tw_S S hM cw hK hN hP hD hS hA hZ hNc (List.range wc.length) (List.range' wc.length wr.length) (List.range (wr ++ w1).length) (tl_rg wc wr) (tl_rg2 wc wr) (tl_nd _ List.nodup_range) (tl_nd _ List.nodup_range') tl_dis1 hn hsize hst hW hdg (tl_rg0 _) (tl_nd _ List.nodup_range) hf kk
end TLC
