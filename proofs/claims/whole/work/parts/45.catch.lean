/-! ===== a thrown object is caught by a row of the method's own table (rows ahead may name other classes) ===== -/
/-- one row whose range holds the pc, its class linked: it takes the object, or the search goes on; either way the link is noted -/
theorem tx_row {Q : Handler → Pre} {E : CtlPost} {e : Env} {d : Bool} {acts : List Action} {S : State} {f : JFrame} {a : Addr} {z : ExceptionTableEntry} {t : List ExceptionTableEntry} {k : ClassId} {ce : Cell}
    (hz : covers z f.pc = true) (h0 : z.catchType ≠ 0) (hl : S.vm.ClassLinks e.platform f.method.cls z.catchType k) (hce : S.heap[a]? = some ce) (ho : ∀ j, ce.vm ≠ .statics j)
    (hk1 : ∃ u, S.vm.classes[ce.cls]? = some u) (hk2 : ∃ u, S.vm.classes[k]? = some u) :
    wp (findHandler.go f a (z :: t)) Q E e d acts S ↔ (if S.vm.assignable ce.cls k = true then Q (.found z.handlerPc) d acts (S.setVm (S.vm.noted f.method.cls z.catchType (.cls k))) else wp (findHandler.go f a t) Q E e d acts (S.setVm (S.vm.noted f.method.cls z.catchType (.cls k)))) := by
  have hz' : (decide (z.startPc ≤ f.pc) && decide (f.pc < z.endPc)) = true := hz
  have hA : S.vm.Alike (S.vm.noted f.method.cls z.catchType (.cls k)) := (Vm.Alike.refl S.vm).noted _ _ _
  obtain ⟨u1, hu1⟩ := hk1
  obtain ⟨u2, hu2⟩ := hk2
  obtain ⟨v1, hv1, -⟩ := hA.2.2 _ _ hu1
  obtain ⟨v2, hv2, -⟩ := hA.2.2 _ _ hu2
  obtain ⟨r1, r2⟩ := (resolveClass_links e.toSetting hl).op (op := VmOp.resolveClass f.method.cls z.catchType) rfl
  have hB := hA.assignable ce.cls k
  cases q : S.vm.assignable ce.cls k with
  | true =>
    rw [q] at hB
    simp [findHandler.go, hz', h0, r1, r2, hce, ho, hv1, hv2, hB, VmOp.dirties, VmOp.acts]
  | false =>
    rw [q] at hB
    simp [findHandler.go, hz', h0, r1, r2, hce, ho, hv1, hv2, hB, VmOp.dirties, VmOp.acts]
/-- the whole search: rows that pass, then one that takes -/
theorem tx_find {e : Env} {s0 : State} {f : JFrame} {a : Addr} {ce : Cell} (ho : ∀ j, ce.vm ≠ .statics j) (hk : ∃ u, s0.vm.classes[ce.cls]? = some u) (z : ExceptionTableEntry) (suf : List ExceptionTableEntry)
    (hz : covers z f.pc = true) (h0 : z.catchType ≠ 0) {k : ClassId} (hl : s0.vm.ClassLinks e.platform f.method.cls z.catchType k) (hfit : s0.vm.assignable ce.cls k = true) :
    ∀ (pre : List ExceptionTableEntry) (S : State), s0.WarmedH S.vm → S.heap[a]? = some ce →
      (∀ y ∈ pre, covers y f.pc = false ∨ (y.catchType ≠ 0 ∧ ∃ j, s0.vm.ClassLinks e.platform f.method.cls y.catchType j ∧ s0.vm.assignable ce.cls j = false)) →
      ∃ V, s0.WarmedH V ∧ ∀ (Q : Handler → Pre) (E : CtlPost) (d : Bool) (acts : List Action), wp (findHandler.go f a (pre ++ z :: suf)) Q E e d acts S ↔ Q (.found z.handlerPc) d acts (S.setVm V)
  | [], S, hW, hce, _ => by
    obtain ⟨u, hu⟩ := hk
    obtain ⟨u', hu', -⟩ := hW.alike.2.2 _ _ hu
    obtain ⟨_, _, _, w, h4, _, _, _, _, h9, _, h11⟩ := hl.here
    obtain ⟨w', hw', -⟩ := hW.alike.2.2 _ _ h9
    refine ⟨_, hW.noted h4 h11 (State.rightAt_cls hl), fun Q E d acts => ?_⟩
    have h := tx_row (Q := Q) (E := E) (d := d) (acts := acts) (t := suf) hz h0 (hW.classLinks hl) hce ho ⟨u', hu'⟩ ⟨w', hw'⟩
    rw [hW.alike.assignable, if_pos hfit] at h
    exact h
  | y :: ys, S, hW, hce, hp => by
    have hp' := fun v hv => hp v (List.mem_cons_of_mem _ hv)
    rcases hp y List.mem_cons_self with hn | ⟨y0, j, hj, hno⟩
    · obtain ⟨V, hV, hq⟩ := tx_find ho hk z suf hz h0 hl hfit ys S hW hce hp'
      exact ⟨V, hV, fun Q E d acts => (W.findHandler_go_skip hn).trans (hq Q E d acts)⟩
    · cases hc : covers y f.pc with
      | false =>
        obtain ⟨V, hV, hq⟩ := tx_find ho hk z suf hz h0 hl hfit ys S hW hce hp'
        exact ⟨V, hV, fun Q E d acts => (W.findHandler_go_skip hc).trans (hq Q E d acts)⟩
      | true =>
        obtain ⟨u, hu⟩ := hk
        obtain ⟨u', hu', -⟩ := hW.alike.2.2 _ _ hu
        obtain ⟨_, _, _, w, h4, _, _, _, _, h9, _, h11⟩ := hj.here
        obtain ⟨w', hw', -⟩ := hW.alike.2.2 _ _ h9
        obtain ⟨V, hV, hq⟩ := tx_find ho ⟨u, hu⟩ z suf hz h0 hl hfit ys (S.setVm (S.vm.noted f.method.cls y.catchType (.cls j))) (hW.noted h4 h11 (State.rightAt_cls hj)) hce hp'
        refine ⟨V, hV, fun Q E d acts => ?_⟩
        have h := tx_row (Q := Q) (E := E) (d := d) (acts := acts) (t := ys ++ z :: suf) hc y0 (hW.classLinks hj) hce ho ⟨u', hu'⟩ ⟨w', hw'⟩
        rw [hW.alike.assignable, hno, if_neg (by decide)] at h
        exact h.trans (hq Q E d acts)
section TXC
variable {p : Program} {l : Launch} {e : Env} {R : Room} {s : State} {m : MethodId} {args : Array Value} {below : List Frame} {meth : Method} {c : Code} {H : Heap} {locs : List Loc} {cells slots : Nat} {Q : State → Prop}
theorem tx_catch {pc : Nat} {ls : Array Slot} {rest : List Value} {own name : String} {E : String} {ce : Cell} {q : Addr} (hown : s.vm.findClass own = some m.cls) (pre : List ExceptionTableEntry) (x : ExceptionTableEntry) (suf : List ExceptionTableEntry) (hsplit : c.exceptionTable.toList = pre ++ x :: suf)
    (hpass : ∀ z ∈ pre, covers z pc = false ∨ (z.catchType ≠ 0 ∧ ∃ nm : String, (Cond.classLink own z.catchType nm).before args s = true ∧ va_Nc E nm s)) (hx : covers x pc = true) (h0 : x.catchType ≠ 0)
    (hlink : (Cond.classLink own x.catchType name).before args s = true) (hcast : (Cond.castable E name).before args s = true) (hcell : H[q]? = some ce) (hv : ce.vm = .none) (hcl : s.vm.findClass E = some ce.cls)
    (kk : W p l e R s m args below meth c H locs cells slots Q (F0 m x.handlerPc ls [.ref q])) : vx_W p l e R s m args below meth c H locs cells slots Q (F0 m pc ls rest) q := by
  intro T hT X
  have hpl : e.platform.magicAccessors = ({} : Platform).magicAccessors := by rw [X.admits.platform]
  obtain ⟨c3, c4, hc3, hc4, hasg⟩ := Cond.castable_spec hcast
  cases Option.some.inj (hc3.symm.trans hcl)
  obtain ⟨c5, hc5, hcl5⟩ := Cond.classLink_spec hown hlink e.platform hpl
  cases Option.some.inj (hc4.symm.trans hc5)
  have hk : ∃ u, s.vm.classes[ce.cls]? = some u := Vm.classAt_of_findClass hcl
  obtain ⟨V, hV, hq⟩ := tx_find (e := e) (s0 := s) (f := F0 m pc ls rest) (a := q) (ce := ce) (fun j => by rw [hv]; intro h; cases h) hk x suf hx h0 hcl5 hasg pre ((T.setTop (F0 m pc ls rest)).pushFrame (.throwing q)) X.warmed (by show T.heap[q]? = some ce; rw [hT]; exact hcell)
    (fun z hz => by
      rcases hpass z hz with h | ⟨hz0, nm, hl1, hn1⟩
      · exact Or.inl h
      · obtain ⟨c6, hc6, hcl6⟩ := Cond.classLink_spec hown hl1 e.platform hpl
        obtain ⟨a8, b8, h1, h2, h3⟩ := hn1
        cases Option.some.inj (h1.symm.trans hcl)
        cases Option.some.inj (h2.symm.trans hc6)
        exact Or.inr ⟨hz0, _, hcl6, h3⟩)
  have hfind : ∀ (Q : Handler → Pre) (E : CtlPost) (d : Bool) (acts : List Action), wp (findHandler (F0 m pc ls rest) q) Q E e d acts ((T.setTop (F0 m pc ls rest)).pushFrame (.throwing q)) ↔ Q (.found x.handlerPc) d acts (((T.setTop (F0 m pc ls rest)).pushFrame (.throwing q)).setVm V) := fun Q E d acts => by
    rw [W.findHandler_eq (meth := meth) (code := c) X.method' X.code, hsplit]
    exact hq Q E d acts
  obtain ⟨t, a1, b1⟩ := kk (T.setVm V) hT (X.noted hV)
  refine ⟨t, ?_, b1⟩
  obtain ⟨g0, hfr⟩ := X.frames_eq
  obtain ⟨hgo, hw⟩ := At.throwing (g := F0 m pc ls rest) X.here q
  refine Steps.head hgo hw ?_
  rw [stepThread_throwing (frames_entered X.here.top _)]
  have hst : (stepThrowing e ((T.setTop (F0 m pc ls rest)).pushFrame (.throwing q)) q (.java (F0 m pc ls rest) :: T.frames.tail)).1 = (T.setVm V).setTop (F0 m x.handlerPc ls [.ref q]) := by
    simp only [stepThrowing, searchFrame, vmDo]
    generalize hr : Sem.go _ e false [] ((T.setTop (F0 m pc ls rest)).pushFrame (.throwing q)) = res
    obtain ⟨as, rfl, -⟩ := Sem.eq_ok_of hr (a := Handler.found x.handlerPc) (s' := ((T.setTop (F0 m pc ls rest)).pushFrame (.throwing q)).setVm V) (acts' := []) (by simp [hfind _ _ _ _])
    have hfr2 : (T.setVm V).frames = .java g0 :: below := hfr
    rw [State.setTop_of_frames _ hfr2, hfr, State.pushFrame, State.setTop_of_frames _ hfr, State.setFrames_setFrames]
    show (((T.setFrames _).setVm V).setFrames _) = _
    have h1 : ∀ F : List Frame, (T.setFrames F).setVm V = (T.setVm V).setFrames F := fun F => rfl
    rw [h1, State.setFrames_setFrames]
    rfl
  rw [hst]
  exact a1
end TXC
