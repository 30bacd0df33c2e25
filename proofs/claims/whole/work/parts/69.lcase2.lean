/-! ===== the law: one call ===== -/
set_option maxHeartbeats 4000000 in
set_option maxRecDepth 100000 in
theorem lc_lose (l : Launch) {pp : Program} {ee : Env} {ss : State} {mm : MethodId} {below : List Frame} {meth : Method} {cc : Code} {b L : Nat} {xs : Nat → Int32} {D : va_G} {ty : Nat → ClassId} (C0 : tl_At pp ss mm cc b L xs D ty) {QQ : State → Prop} {H : Heap} {locs : List Loc} {ls : Array Slot} {cells slots : Nat} {t0 m0 o0 : Nat} {A A2 M M2 : va_W} {fsM : List Value} {fsN : List Value} {ov2 : Nat → Int64} {cd : Int32} (br : Int32) (i : Nat) (hi : i + 8 ≤ L) (hL : L ≤ 4096) (rc rr : Room) (hrc : tl_rw rc 4) (hrr : tl_rr rr 3) (kc : Nat) (hcd : cd = nI kc) (hk2 : kc ≤ 2) (hval : kc = 0 → ov2 0 = Int32.toInt64 br) (hC : tw_Mi l yL_lose wsL_lose rc D ty [.ref t0, .int (xs (i + 1)), .ref o0] A A2 (nI (kc))) (hM : tg_Mi l yX3_lose wsX3_lose rr D ty [.ref m0, .int (xs (i + 1))] M M2 (br) 0 0) (hM0 : M[0]? = some (m0, .inr (3, fsM))) (hM2 : M2[0]? = some (m0, .inr (3, fsN))) (hO2 : A2[31]? = some (o0, .inl (ty 1, 1, .inr (.inl ov2)))) (hT : tg_Mi l yX3_thrown wsX3_thrown rmk_X3_thrown D ty [.ref m0] M2 M2 (cd) 0 0)
    (hP : va_P D vwCl (A ++ M) H) (hD : va_D (fun q => ss.heap.size ≤ q) (A ++ M)) (hS : va_S (fun q => ss.heap.size ≤ q) ss.heap H locs) (hl : lv_has ls 8 [(0, .ref b), (1, .ref t0), (2, .ref m0), (3, .ref o0), (4, .int (nI i))]) (hc1 : cells + 1 ≤ 601024) (hc2 : slots + 6 ≤ 7293033)
    (hnext : ∀ (H : Heap) (locs : List Loc) (ls : Array Slot), va_P D vwCl (A2 ++ M2) H → va_D (fun q => ss.heap.size ≤ q) (A2 ++ M2) → va_S (fun q => ss.heap.size ≤ q) ss.heap H locs → lv_has ls 8 [(0, .ref b), (1, .ref t0), (2, .ref m0), (3, .ref o0), (4, .int (nI (i + 8)))] → W pp l ee room_1 ss mm #[Value.ref b] below meth cc H locs (cells + 1) (slots + 6) QQ (F0 mm 23 ls [])) : W pp l ee room_1 ss mm #[Value.ref b] below meth cc H locs cells slots QQ (F0 mm 628 ls []) := by
  obtain ⟨hx, hb, hml, hown, hts, hX, hbl, hK, hN, hZ, hNc⟩ := C0
  have hA : ∀ q : Nat, ss.heap.size ≤ q → (fun q : Nat => ss.heap.size ≤ q) q := fun _ h => h
  refine lv_aload_n hx hb dL_law_628 rfl (lv_at hl 1 rfl) ?_
  refine lv_aload_n hx hb dL_law_629 rfl (lv_at hl 0 rfl) ?_
  refine lv_iload hx hb dL_law_630 (lv_at hl 4 rfl) ?_
  refine lv_iconst (v := nI (1)) hx hb dL_law_632 (by decide) ?_
  refine lv_iadd hx hb dL_law_633 ?_
  refine tg_vi (nI_add _ _) ?_
  refine tl_sld hx hb hX hbl hS (k := i + 1) (by omega) hL dL_law_634 ?_
  refine lv_aload_n hx hb dL_law_635 rfl (lv_at hl 3 rfl) ?_
  refine tl_SF (As := [.ref t0, .int (xs (i + 1)), .ref o0]) (rest := []) (wc := A) (wr := M) (w1 := A2) ⟨hx, hb, hml, hown, hts⟩ hC (vx_cwSW 3 hts gL_law_L_lose rfl hrc.1 hrc.2.1 (by decide +kernel) ⟨hrc.2.2.1, hrc.2.2.2⟩) hK hN hP hD hS hA hZ hNc rfl hl.1 rfl (Nat.le_of_ble_eq_true rfl) dL_law_636 ⟨by show _ ≤ 601024; omega, by show _ ≤ 7293033; omega⟩ (fun H locs hP hD hS => ?_)
  refine lv_istore (lv' := [(5, .int (nI (kc))), (0, .ref b), (1, .ref t0), (2, .ref m0), (3, .ref o0), (4, .int (nI (i)))]) hx hb dL_law_639 hl (by decide) rfl (fun ls hl => ?_)
  refine lv_aload_n hx hb dL_law_641 rfl (lv_at hl 3 rfl) ?_
  refine lv_aload_n hx hb dL_law_642 rfl (lv_at hl 1 rfl) ?_
  refine lv_iload hx hb dL_law_643 (lv_at hl 5 rfl) ?_
  refine lv_iconst (v := nI (1)) hx hb dL_law_645 (by decide) ?_
  refine lv_iadd hx hb dL_law_646 ?_
  refine tg_vi (nI_add _ _) ?_
  refine tl_sld hx hb hX hbl hS (k := i + 1) (by omega) hL dL_law_647 ?_
  refine tl_ViF (As := [.int (xs (i + 1))]) (rest := []) (wc := M) (wr := A2) (w1 := M2) ⟨hx, hb, hml, hown, hts⟩ hM (cwV 1 hts gL_law_X3_lose rfl hrr.1 hrr.2.1 (by decide +kernel) ⟨hrr.2.2.1, hrr.2.2.2⟩) hK hN hP hD hS hA 3 rfl hM0 rfl rfl hl.1 rfl (Nat.le_of_ble_eq_true rfl) dL_law_648 ⟨by show _ ≤ 601024; omega, by show _ ≤ 7293033; omega⟩ (fun H locs hP hD hS => ?_)
  refine lv_istore (lv' := [(6, .int (br)), (5, .int (nI (kc))), (0, .ref b), (1, .ref t0), (2, .ref m0), (3, .ref o0), (4, .int (nI (i)))]) hx hb dL_law_651 hl (by decide) rfl (fun ls hl => ?_)
  refine lv_aload_n hx hb dL_law_653 rfl (lv_at hl 4 rfl) ?_
  refine tl_ViL (As := []) (rest := []) (wc := M2) (wr := A2) (w1 := M2) ⟨hx, hb, hml, hown, hts⟩ hT (cwV 0 hts gL_law_X3_thrown rfl rfl rfl (by decide +kernel) ⟨Nat.le_of_ble_eq_true rfl, Nat.le_of_ble_eq_true rfl⟩) hK hN hP hD hS hA 3 rfl hM2 rfl rfl hl.1 rfl (Nat.le_of_ble_eq_true rfl) dL_law_654 ⟨by show _ ≤ 601024; omega, by show _ ≤ 7293033; omega⟩ (fun H locs hP hD hS => ?_)
  refine lv_iload hx hb dL_law_657 (lv_at hl 1 rfl) ?_
  refine tl_eq hx hb (hcd) (tgt := 664) dL_law_659 (by decide) ?_
  refine lv_iload hx hb dL_law_664 (lv_at hl 1 rfl) ?_
  refine tg_if_ne (tgt := 681) hx hb dL_law_666 (by decide) (by omega) (fun c666 => ?_) (fun c666 => ?_)
  · skip
    refine lv_goto (tgt := 900) hx hb dL_law_681 (by decide) ?_
    refine lv_iinc (v := nI (i + 8)) (lv' := [(4, .int (nI (i + 8))), (6, .int (br)), (5, .int (nI (kc))), (0, .ref b), (1, .ref t0), (2, .ref m0), (3, .ref o0)]) hx hb dL_law_900 hl (k := 6) rfl (tg_inc _ _) (by decide) rfl (fun ls hl => ?_)
    refine lv_goto (tgt := 23) hx hb dL_law_903 (by decide) ?_
    exact hnext _ _ _ hP hD hS (lv_sub hl [3, 4, 5, 6, 0] rfl)
  · skip
    refine lv_aload_n hx hb dL_law_669 rfl (lv_at hl 5 rfl) ?_
    refine lv_iconst (v := nI (0)) hx hb dL_law_670 (by decide) ?_
    refine tg_lald hx hb hK hP 31 (tl_apl hO2) (f := ov2) (k := 0) (by omega) (by decide) dL_law_671 ?_
    refine lv_iload hx hb dL_law_672 (lv_at hl 0 rfl) ?_
    refine lv_i2l (v := Int32.toInt64 br) hx hb dL_law_674 rfl ?_
    refine W.lcmp hx hb dL_law_675 ?_
    refine tg_leq (tgt := 681) hx hb dL_law_676 (by decide) (fun _ => ?_) (fun c676 => absurd (hval c666) c676)
    refine lv_goto (tgt := 900) hx hb dL_law_681 (by decide) ?_
    refine lv_iinc (v := nI (i + 8)) (lv' := [(4, .int (nI (i + 8))), (6, .int (br)), (5, .int (nI (kc))), (0, .ref b), (1, .ref t0), (2, .ref m0), (3, .ref o0)]) hx hb dL_law_900 hl (k := 6) rfl (tg_inc _ _) (by decide) rfl (fun ls hl => ?_)
    refine lv_goto (tgt := 23) hx hb dL_law_903 (by decide) ?_
    exact hnext _ _ _ hP hD hS (lv_sub hl [3, 4, 5, 6, 0] rfl)
set_option maxHeartbeats 4000000 in
set_option maxRecDepth 100000 in
theorem lc_run (l : Launch) {pp : Program} {ee : Env} {ss : State} {mm : MethodId} {below : List Frame} {meth : Method} {cc : Code} {b L : Nat} {xs : Nat → Int32} {D : va_G} {ty : Nat → ClassId} (C0 : tl_At pp ss mm cc b L xs D ty) {QQ : State → Prop} {H : Heap} {locs : List Loc} {ls : Array Slot} {cells slots : Nat} {t0 m0 o0 : Nat} {A A2 M M2 : va_W} {fsM : List Value} {fsN : List Value} {ov2 : Nat → Int64} {cd : Int32} (br : Int32) (i : Nat) (hi : i + 8 ≤ L) (hL : L ≤ 4096) (rc rr : Room) (hrc : tl_rw rc 4) (hrr : tl_rr rr 4) (kc : Nat) (hcd : cd = nI kc) (hk2 : kc ≤ 2) (hval : kc = 0 → ov2 0 = Int32.toInt64 br) (hC : tw_Mi l yL_run wsL_run rc D ty [.ref t0, .int (xs (i + 1)), .ref o0] A A2 (nI (kc))) (hM : tg_Mi l yX3_run wsX3_run rr D ty [.ref m0, .int (xs (i + 1))] M M2 (br) 0 0) (hM0 : M[0]? = some (m0, .inr (3, fsM))) (hM2 : M2[0]? = some (m0, .inr (3, fsN))) (hO2 : A2[31]? = some (o0, .inl (ty 1, 1, .inr (.inl ov2)))) (hT : tg_Mi l yX3_thrown wsX3_thrown rmk_X3_thrown D ty [.ref m0] M2 M2 (cd) 0 0)
    (hP : va_P D vwCl (A ++ M) H) (hD : va_D (fun q => ss.heap.size ≤ q) (A ++ M)) (hS : va_S (fun q => ss.heap.size ≤ q) ss.heap H locs) (hl : lv_has ls 8 [(0, .ref b), (1, .ref t0), (2, .ref m0), (3, .ref o0), (4, .int (nI i))]) (hc1 : cells + 1 ≤ 601024) (hc2 : slots + 6 ≤ 7293033)
    (hnext : ∀ (H : Heap) (locs : List Loc) (ls : Array Slot), va_P D vwCl (A2 ++ M2) H → va_D (fun q => ss.heap.size ≤ q) (A2 ++ M2) → va_S (fun q => ss.heap.size ≤ q) ss.heap H locs → lv_has ls 8 [(0, .ref b), (1, .ref t0), (2, .ref m0), (3, .ref o0), (4, .int (nI (i + 8)))] → W pp l ee room_1 ss mm #[Value.ref b] below meth cc H locs (cells + 1) (slots + 6) QQ (F0 mm 23 ls [])) : W pp l ee room_1 ss mm #[Value.ref b] below meth cc H locs cells slots QQ (F0 mm 684 ls []) := by
  obtain ⟨hx, hb, hml, hown, hts, hX, hbl, hK, hN, hZ, hNc⟩ := C0
  have hA : ∀ q : Nat, ss.heap.size ≤ q → (fun q : Nat => ss.heap.size ≤ q) q := fun _ h => h
  refine lv_aload_n hx hb dL_law_684 rfl (lv_at hl 1 rfl) ?_
  refine lv_aload_n hx hb dL_law_685 rfl (lv_at hl 0 rfl) ?_
  refine lv_iload hx hb dL_law_686 (lv_at hl 4 rfl) ?_
  refine lv_iconst (v := nI (1)) hx hb dL_law_688 (by decide) ?_
  refine lv_iadd hx hb dL_law_689 ?_
  refine tg_vi (nI_add _ _) ?_
  refine tl_sld hx hb hX hbl hS (k := i + 1) (by omega) hL dL_law_690 ?_
  refine lv_aload_n hx hb dL_law_691 rfl (lv_at hl 3 rfl) ?_
  refine tl_SF (As := [.ref t0, .int (xs (i + 1)), .ref o0]) (rest := []) (wc := A) (wr := M) (w1 := A2) ⟨hx, hb, hml, hown, hts⟩ hC (vx_cwSW 3 hts gL_law_L_run rfl hrc.1 hrc.2.1 (by decide +kernel) ⟨hrc.2.2.1, hrc.2.2.2⟩) hK hN hP hD hS hA hZ hNc rfl hl.1 rfl (Nat.le_of_ble_eq_true rfl) dL_law_692 ⟨by show _ ≤ 601024; omega, by show _ ≤ 7293033; omega⟩ (fun H locs hP hD hS => ?_)
  refine lv_istore (lv' := [(5, .int (nI (kc))), (0, .ref b), (1, .ref t0), (2, .ref m0), (3, .ref o0), (4, .int (nI (i)))]) hx hb dL_law_695 hl (by decide) rfl (fun ls hl => ?_)
  refine lv_aload_n hx hb dL_law_697 rfl (lv_at hl 3 rfl) ?_
  refine lv_aload_n hx hb dL_law_698 rfl (lv_at hl 1 rfl) ?_
  refine lv_iload hx hb dL_law_699 (lv_at hl 5 rfl) ?_
  refine lv_iconst (v := nI (1)) hx hb dL_law_701 (by decide) ?_
  refine lv_iadd hx hb dL_law_702 ?_
  refine tg_vi (nI_add _ _) ?_
  refine tl_sld hx hb hX hbl hS (k := i + 1) (by omega) hL dL_law_703 ?_
  refine tl_ViF (As := [.int (xs (i + 1))]) (rest := []) (wc := M) (wr := A2) (w1 := M2) ⟨hx, hb, hml, hown, hts⟩ hM (cwV 1 hts gL_law_X3_run rfl hrr.1 hrr.2.1 (by decide +kernel) ⟨hrr.2.2.1, hrr.2.2.2⟩) hK hN hP hD hS hA 3 rfl hM0 rfl rfl hl.1 rfl (Nat.le_of_ble_eq_true rfl) dL_law_704 ⟨by show _ ≤ 601024; omega, by show _ ≤ 7293033; omega⟩ (fun H locs hP hD hS => ?_)
  refine lv_istore (lv' := [(6, .int (br)), (5, .int (nI (kc))), (0, .ref b), (1, .ref t0), (2, .ref m0), (3, .ref o0), (4, .int (nI (i)))]) hx hb dL_law_707 hl (by decide) rfl (fun ls hl => ?_)
  refine lv_aload_n hx hb dL_law_709 rfl (lv_at hl 4 rfl) ?_
  refine tl_ViL (As := []) (rest := []) (wc := M2) (wr := A2) (w1 := M2) ⟨hx, hb, hml, hown, hts⟩ hT (cwV 0 hts gL_law_X3_thrown rfl rfl rfl (by decide +kernel) ⟨Nat.le_of_ble_eq_true rfl, Nat.le_of_ble_eq_true rfl⟩) hK hN hP hD hS hA 3 rfl hM2 rfl rfl hl.1 rfl (Nat.le_of_ble_eq_true rfl) dL_law_710 ⟨by show _ ≤ 601024; omega, by show _ ≤ 7293033; omega⟩ (fun H locs hP hD hS => ?_)
  refine lv_iload hx hb dL_law_713 (lv_at hl 1 rfl) ?_
  refine tl_eq hx hb (hcd) (tgt := 720) dL_law_715 (by decide) ?_
  refine lv_iload hx hb dL_law_720 (lv_at hl 1 rfl) ?_
  refine tg_if_ne (tgt := 737) hx hb dL_law_722 (by decide) (by omega) (fun c722 => ?_) (fun c722 => ?_)
  · skip
    refine lv_goto (tgt := 900) hx hb dL_law_737 (by decide) ?_
    refine lv_iinc (v := nI (i + 8)) (lv' := [(4, .int (nI (i + 8))), (6, .int (br)), (5, .int (nI (kc))), (0, .ref b), (1, .ref t0), (2, .ref m0), (3, .ref o0)]) hx hb dL_law_900 hl (k := 6) rfl (tg_inc _ _) (by decide) rfl (fun ls hl => ?_)
    refine lv_goto (tgt := 23) hx hb dL_law_903 (by decide) ?_
    exact hnext _ _ _ hP hD hS (lv_sub hl [3, 4, 5, 6, 0] rfl)
  · skip
    refine lv_aload_n hx hb dL_law_725 rfl (lv_at hl 5 rfl) ?_
    refine lv_iconst (v := nI (0)) hx hb dL_law_726 (by decide) ?_
    refine tg_lald hx hb hK hP 31 (tl_apl hO2) (f := ov2) (k := 0) (by omega) (by decide) dL_law_727 ?_
    refine lv_iload hx hb dL_law_728 (lv_at hl 0 rfl) ?_
    refine lv_i2l (v := Int32.toInt64 br) hx hb dL_law_730 rfl ?_
    refine W.lcmp hx hb dL_law_731 ?_
    refine tg_leq (tgt := 737) hx hb dL_law_732 (by decide) (fun _ => ?_) (fun c732 => absurd (hval c722) c732)
    refine lv_goto (tgt := 900) hx hb dL_law_737 (by decide) ?_
    refine lv_iinc (v := nI (i + 8)) (lv' := [(4, .int (nI (i + 8))), (6, .int (br)), (5, .int (nI (kc))), (0, .ref b), (1, .ref t0), (2, .ref m0), (3, .ref o0)]) hx hb dL_law_900 hl (k := 6) rfl (tg_inc _ _) (by decide) rfl (fun ls hl => ?_)
    refine lv_goto (tgt := 23) hx hb dL_law_903 (by decide) ?_
    exact hnext _ _ _ hP hD hS (lv_sub hl [3, 4, 5, 6, 0] rfl)
set_option maxHeartbeats 4000000 in
set_option maxRecDepth 100000 in
theorem lc_message (l : Launch) {pp : Program} {ee : Env} {ss : State} {mm : MethodId} {below : List Frame} {meth : Method} {cc : Code} {b L : Nat} {xs : Nat → Int32} {D : va_G} {ty : Nat → ClassId} (C0 : tl_At pp ss mm cc b L xs D ty) {QQ : State → Prop} {H : Heap} {locs : List Loc} {ls : Array Slot} {cells slots : Nat} {t0 m0 o0 : Nat} {A A2 M M2 : va_W} {fsM : List Value} {fsN : List Value} {ov2 : Nat → Int64} {cd : Int32} (br : Int32) (i : Nat) (hi : i + 8 ≤ L) (hL : L ≤ 4096) (rc rr : Room) (hrc : tl_rw rc 6) (hrr : tl_rr rr 5) (kc : Nat) (hcd : cd = nI kc) (hk2 : kc ≤ 2) (hval : kc = 0 → ov2 0 = Int32.toInt64 br) (hC : tw_Mi l yL_message wsL_message rc D ty [.ref t0, .int (xs (i + 1)), .int (xs (i + 2)), .int (xs (i + 3)), .ref o0] A A2 (nI (kc))) (hM : tg_Mi l yX3_message wsX3_message rr D ty [.ref m0, .int (xs (i + 1)), .int (xs (i + 2)), .int (xs (i + 3))] M M2 (br) 0 0) (hM0 : M[0]? = some (m0, .inr (3, fsM))) (hM2 : M2[0]? = some (m0, .inr (3, fsN))) (hO2 : A2[31]? = some (o0, .inl (ty 1, 1, .inr (.inl ov2)))) (hT : tg_Mi l yX3_thrown wsX3_thrown rmk_X3_thrown D ty [.ref m0] M2 M2 (cd) 0 0)
    (hP : va_P D vwCl (A ++ M) H) (hD : va_D (fun q => ss.heap.size ≤ q) (A ++ M)) (hS : va_S (fun q => ss.heap.size ≤ q) ss.heap H locs) (hl : lv_has ls 8 [(0, .ref b), (1, .ref t0), (2, .ref m0), (3, .ref o0), (4, .int (nI i))]) (hc1 : cells + 1 ≤ 601024) (hc2 : slots + 6 ≤ 7293033)
    (hnext : ∀ (H : Heap) (locs : List Loc) (ls : Array Slot), va_P D vwCl (A2 ++ M2) H → va_D (fun q => ss.heap.size ≤ q) (A2 ++ M2) → va_S (fun q => ss.heap.size ≤ q) ss.heap H locs → lv_has ls 8 [(0, .ref b), (1, .ref t0), (2, .ref m0), (3, .ref o0), (4, .int (nI (i + 8)))] → W pp l ee room_1 ss mm #[Value.ref b] below meth cc H locs (cells + 1) (slots + 6) QQ (F0 mm 23 ls [])) : W pp l ee room_1 ss mm #[Value.ref b] below meth cc H locs cells slots QQ (F0 mm 740 ls []) := by
  obtain ⟨hx, hb, hml, hown, hts, hX, hbl, hK, hN, hZ, hNc⟩ := C0
  have hA : ∀ q : Nat, ss.heap.size ≤ q → (fun q : Nat => ss.heap.size ≤ q) q := fun _ h => h
  refine lv_aload_n hx hb dL_law_740 rfl (lv_at hl 1 rfl) ?_
  refine lv_aload_n hx hb dL_law_741 rfl (lv_at hl 0 rfl) ?_
  refine lv_iload hx hb dL_law_742 (lv_at hl 4 rfl) ?_
  refine lv_iconst (v := nI (1)) hx hb dL_law_744 (by decide) ?_
  refine lv_iadd hx hb dL_law_745 ?_
  refine tg_vi (nI_add _ _) ?_
  refine tl_sld hx hb hX hbl hS (k := i + 1) (by omega) hL dL_law_746 ?_
  refine lv_aload_n hx hb dL_law_747 rfl (lv_at hl 0 rfl) ?_
  refine lv_iload hx hb dL_law_748 (lv_at hl 4 rfl) ?_
  refine lv_iconst (v := nI (2)) hx hb dL_law_750 (by decide) ?_
  refine lv_iadd hx hb dL_law_751 ?_
  refine tg_vi (nI_add _ _) ?_
  refine tl_sld hx hb hX hbl hS (k := i + 2) (by omega) hL dL_law_752 ?_
  refine lv_aload_n hx hb dL_law_753 rfl (lv_at hl 0 rfl) ?_
  refine lv_iload hx hb dL_law_754 (lv_at hl 4 rfl) ?_
  refine lv_iconst (v := nI (3)) hx hb dL_law_756 (by decide) ?_
  refine lv_iadd hx hb dL_law_757 ?_
  refine tg_vi (nI_add _ _) ?_
  refine tl_sld hx hb hX hbl hS (k := i + 3) (by omega) hL dL_law_758 ?_
  refine lv_aload_n hx hb dL_law_759 rfl (lv_at hl 3 rfl) ?_
  refine tl_SF (As := [.ref t0, .int (xs (i + 1)), .int (xs (i + 2)), .int (xs (i + 3)), .ref o0]) (rest := []) (wc := A) (wr := M) (w1 := A2) ⟨hx, hb, hml, hown, hts⟩ hC (vx_cwSW 5 hts gL_law_L_message rfl hrc.1 hrc.2.1 (by decide +kernel) ⟨hrc.2.2.1, hrc.2.2.2⟩) hK hN hP hD hS hA hZ hNc rfl hl.1 rfl (Nat.le_of_ble_eq_true rfl) dL_law_760 ⟨by show _ ≤ 601024; omega, by show _ ≤ 7293033; omega⟩ (fun H locs hP hD hS => ?_)
  refine lv_istore (lv' := [(5, .int (nI (kc))), (0, .ref b), (1, .ref t0), (2, .ref m0), (3, .ref o0), (4, .int (nI (i)))]) hx hb dL_law_763 hl (by decide) rfl (fun ls hl => ?_)
  refine lv_aload_n hx hb dL_law_765 rfl (lv_at hl 3 rfl) ?_
  refine lv_aload_n hx hb dL_law_766 rfl (lv_at hl 1 rfl) ?_
  refine lv_iload hx hb dL_law_767 (lv_at hl 5 rfl) ?_
  refine lv_iconst (v := nI (1)) hx hb dL_law_769 (by decide) ?_
  refine lv_iadd hx hb dL_law_770 ?_
  refine tg_vi (nI_add _ _) ?_
  refine tl_sld hx hb hX hbl hS (k := i + 1) (by omega) hL dL_law_771 ?_
  refine lv_aload_n hx hb dL_law_772 rfl (lv_at hl 1 rfl) ?_
  refine lv_iload hx hb dL_law_773 (lv_at hl 5 rfl) ?_
  refine lv_iconst (v := nI (2)) hx hb dL_law_775 (by decide) ?_
  refine lv_iadd hx hb dL_law_776 ?_
  refine tg_vi (nI_add _ _) ?_
  refine tl_sld hx hb hX hbl hS (k := i + 2) (by omega) hL dL_law_777 ?_
  refine lv_aload_n hx hb dL_law_778 rfl (lv_at hl 1 rfl) ?_
  refine lv_iload hx hb dL_law_779 (lv_at hl 5 rfl) ?_
  refine lv_iconst (v := nI (3)) hx hb dL_law_781 (by decide) ?_
  refine lv_iadd hx hb dL_law_782 ?_
  refine tg_vi (nI_add _ _) ?_
  refine tl_sld hx hb hX hbl hS (k := i + 3) (by omega) hL dL_law_783 ?_
  refine tl_ViF (As := [.int (xs (i + 1)), .int (xs (i + 2)), .int (xs (i + 3))]) (rest := []) (wc := M) (wr := A2) (w1 := M2) ⟨hx, hb, hml, hown, hts⟩ hM (cwV 3 hts gL_law_X3_message rfl hrr.1 hrr.2.1 (by decide +kernel) ⟨hrr.2.2.1, hrr.2.2.2⟩) hK hN hP hD hS hA 3 rfl hM0 rfl rfl hl.1 rfl (Nat.le_of_ble_eq_true rfl) dL_law_784 ⟨by show _ ≤ 601024; omega, by show _ ≤ 7293033; omega⟩ (fun H locs hP hD hS => ?_)
  refine lv_istore (lv' := [(6, .int (br)), (5, .int (nI (kc))), (0, .ref b), (1, .ref t0), (2, .ref m0), (3, .ref o0), (4, .int (nI (i)))]) hx hb dL_law_787 hl (by decide) rfl (fun ls hl => ?_)
  refine lv_aload_n hx hb dL_law_789 rfl (lv_at hl 4 rfl) ?_
  refine tl_ViL (As := []) (rest := []) (wc := M2) (wr := A2) (w1 := M2) ⟨hx, hb, hml, hown, hts⟩ hT (cwV 0 hts gL_law_X3_thrown rfl rfl rfl (by decide +kernel) ⟨Nat.le_of_ble_eq_true rfl, Nat.le_of_ble_eq_true rfl⟩) hK hN hP hD hS hA 3 rfl hM2 rfl rfl hl.1 rfl (Nat.le_of_ble_eq_true rfl) dL_law_790 ⟨by show _ ≤ 601024; omega, by show _ ≤ 7293033; omega⟩ (fun H locs hP hD hS => ?_)
  refine lv_iload hx hb dL_law_793 (lv_at hl 1 rfl) ?_
  refine tl_eq hx hb (hcd) (tgt := 800) dL_law_795 (by decide) ?_
  refine lv_iload hx hb dL_law_800 (lv_at hl 1 rfl) ?_
  refine tg_if_ne (tgt := 817) hx hb dL_law_802 (by decide) (by omega) (fun c802 => ?_) (fun c802 => ?_)
  · skip
    refine lv_goto (tgt := 900) hx hb dL_law_817 (by decide) ?_
    refine lv_iinc (v := nI (i + 8)) (lv' := [(4, .int (nI (i + 8))), (6, .int (br)), (5, .int (nI (kc))), (0, .ref b), (1, .ref t0), (2, .ref m0), (3, .ref o0)]) hx hb dL_law_900 hl (k := 6) rfl (tg_inc _ _) (by decide) rfl (fun ls hl => ?_)
    refine lv_goto (tgt := 23) hx hb dL_law_903 (by decide) ?_
    exact hnext _ _ _ hP hD hS (lv_sub hl [3, 4, 5, 6, 0] rfl)
  · skip
    refine lv_aload_n hx hb dL_law_805 rfl (lv_at hl 5 rfl) ?_
    refine lv_iconst (v := nI (0)) hx hb dL_law_806 (by decide) ?_
    refine tg_lald hx hb hK hP 31 (tl_apl hO2) (f := ov2) (k := 0) (by omega) (by decide) dL_law_807 ?_
    refine lv_iload hx hb dL_law_808 (lv_at hl 0 rfl) ?_
    refine lv_i2l (v := Int32.toInt64 br) hx hb dL_law_810 rfl ?_
    refine W.lcmp hx hb dL_law_811 ?_
    refine tg_leq (tgt := 817) hx hb dL_law_812 (by decide) (fun _ => ?_) (fun c812 => absurd (hval c802) c812)
    refine lv_goto (tgt := 900) hx hb dL_law_817 (by decide) ?_
    refine lv_iinc (v := nI (i + 8)) (lv' := [(4, .int (nI (i + 8))), (6, .int (br)), (5, .int (nI (kc))), (0, .ref b), (1, .ref t0), (2, .ref m0), (3, .ref o0)]) hx hb dL_law_900 hl (k := 6) rfl (tg_inc _ _) (by decide) rfl (fun ls hl => ?_)
    refine lv_goto (tgt := 23) hx hb dL_law_903 (by decide) ?_
    exact hnext _ _ _ hP hD hS (lv_sub hl [3, 4, 5, 6, 0] rfl)
set_option maxHeartbeats 4000000 in
set_option maxRecDepth 100000 in
theorem lc_count (l : Launch) {pp : Program} {ee : Env} {ss : State} {mm : MethodId} {below : List Frame} {meth : Method} {cc : Code} {b L : Nat} {xs : Nat → Int32} {D : va_G} {ty : Nat → ClassId} (C0 : tl_At pp ss mm cc b L xs D ty) {QQ : State → Prop} {H : Heap} {locs : List Loc} {ls : Array Slot} {cells slots : Nat} {t0 m0 o0 : Nat} {A A2 M M2 : va_W} {fsM : List Value} {fsN : List Value} {ov2 : Nat → Int64} {cd : Int32} (br : Int32) (i : Nat) (hi : i + 8 ≤ L) (hL : L ≤ 4096) (rc rr : Room) (hrc : tl_rw rc 4) (hrr : tl_rr rr 2) (kc : Nat) (hcd : cd = nI kc) (hk2 : kc ≤ 2) (hval : kc = 0 → ov2 0 = Int32.toInt64 br) (hC : tw_Mi l yL_count wsL_count rc D ty [.ref t0, .int (xs (i + 1)), .ref o0] A A2 (nI (kc))) (hM : tg_Mi l yX3_count wsX3_count rr D ty [.ref m0, .int (xs (i + 1))] M M2 (br) 0 0) (hM0 : M[0]? = some (m0, .inr (3, fsM))) (hM2 : M2[0]? = some (m0, .inr (3, fsN))) (hO2 : A2[31]? = some (o0, .inl (ty 1, 1, .inr (.inl ov2)))) (hT : tg_Mi l yX3_thrown wsX3_thrown rmk_X3_thrown D ty [.ref m0] M2 M2 (cd) 0 0)
    (hP : va_P D vwCl (A ++ M) H) (hD : va_D (fun q => ss.heap.size ≤ q) (A ++ M)) (hS : va_S (fun q => ss.heap.size ≤ q) ss.heap H locs) (hl : lv_has ls 8 [(0, .ref b), (1, .ref t0), (2, .ref m0), (3, .ref o0), (4, .int (nI i))]) (hc1 : cells + 1 ≤ 601024) (hc2 : slots + 6 ≤ 7293033)
    (hnext : ∀ (H : Heap) (locs : List Loc) (ls : Array Slot), va_P D vwCl (A2 ++ M2) H → va_D (fun q => ss.heap.size ≤ q) (A2 ++ M2) → va_S (fun q => ss.heap.size ≤ q) ss.heap H locs → lv_has ls 8 [(0, .ref b), (1, .ref t0), (2, .ref m0), (3, .ref o0), (4, .int (nI (i + 8)))] → W pp l ee room_1 ss mm #[Value.ref b] below meth cc H locs (cells + 1) (slots + 6) QQ (F0 mm 23 ls [])) : W pp l ee room_1 ss mm #[Value.ref b] below meth cc H locs cells slots QQ (F0 mm 820 ls []) := by
  obtain ⟨hx, hb, hml, hown, hts, hX, hbl, hK, hN, hZ, hNc⟩ := C0
  have hA : ∀ q : Nat, ss.heap.size ≤ q → (fun q : Nat => ss.heap.size ≤ q) q := fun _ h => h
  refine lv_aload_n hx hb dL_law_820 rfl (lv_at hl 1 rfl) ?_
  refine lv_aload_n hx hb dL_law_821 rfl (lv_at hl 0 rfl) ?_
  refine lv_iload hx hb dL_law_822 (lv_at hl 4 rfl) ?_
  refine lv_iconst (v := nI (1)) hx hb dL_law_824 (by decide) ?_
  refine lv_iadd hx hb dL_law_825 ?_
  refine tg_vi (nI_add _ _) ?_
  refine tl_sld hx hb hX hbl hS (k := i + 1) (by omega) hL dL_law_826 ?_
  refine lv_aload_n hx hb dL_law_827 rfl (lv_at hl 3 rfl) ?_
  refine tl_SF (As := [.ref t0, .int (xs (i + 1)), .ref o0]) (rest := []) (wc := A) (wr := M) (w1 := A2) ⟨hx, hb, hml, hown, hts⟩ hC (vx_cwSW 3 hts gL_law_L_count rfl hrc.1 hrc.2.1 (by decide +kernel) ⟨hrc.2.2.1, hrc.2.2.2⟩) hK hN hP hD hS hA hZ hNc rfl hl.1 rfl (Nat.le_of_ble_eq_true rfl) dL_law_828 ⟨by show _ ≤ 601024; omega, by show _ ≤ 7293033; omega⟩ (fun H locs hP hD hS => ?_)
  refine lv_istore (lv' := [(5, .int (nI (kc))), (0, .ref b), (1, .ref t0), (2, .ref m0), (3, .ref o0), (4, .int (nI (i)))]) hx hb dL_law_831 hl (by decide) rfl (fun ls hl => ?_)
  refine lv_aload_n hx hb dL_law_833 rfl (lv_at hl 3 rfl) ?_
  refine lv_aload_n hx hb dL_law_834 rfl (lv_at hl 1 rfl) ?_
  refine lv_iload hx hb dL_law_835 (lv_at hl 5 rfl) ?_
  refine lv_iconst (v := nI (1)) hx hb dL_law_837 (by decide) ?_
  refine lv_iadd hx hb dL_law_838 ?_
  refine tg_vi (nI_add _ _) ?_
  refine tl_sld hx hb hX hbl hS (k := i + 1) (by omega) hL dL_law_839 ?_
  refine tl_ViF (As := [.int (xs (i + 1))]) (rest := []) (wc := M) (wr := A2) (w1 := M2) ⟨hx, hb, hml, hown, hts⟩ hM (cwV 1 hts gL_law_X3_count rfl hrr.1 hrr.2.1 (by decide +kernel) ⟨hrr.2.2.1, hrr.2.2.2⟩) hK hN hP hD hS hA 3 rfl hM0 rfl rfl hl.1 rfl (Nat.le_of_ble_eq_true rfl) dL_law_840 ⟨by show _ ≤ 601024; omega, by show _ ≤ 7293033; omega⟩ (fun H locs hP hD hS => ?_)
  refine lv_istore (lv' := [(6, .int (br)), (5, .int (nI (kc))), (0, .ref b), (1, .ref t0), (2, .ref m0), (3, .ref o0), (4, .int (nI (i)))]) hx hb dL_law_843 hl (by decide) rfl (fun ls hl => ?_)
  refine lv_aload_n hx hb dL_law_845 rfl (lv_at hl 4 rfl) ?_
  refine tl_ViL (As := []) (rest := []) (wc := M2) (wr := A2) (w1 := M2) ⟨hx, hb, hml, hown, hts⟩ hT (cwV 0 hts gL_law_X3_thrown rfl rfl rfl (by decide +kernel) ⟨Nat.le_of_ble_eq_true rfl, Nat.le_of_ble_eq_true rfl⟩) hK hN hP hD hS hA 3 rfl hM2 rfl rfl hl.1 rfl (Nat.le_of_ble_eq_true rfl) dL_law_846 ⟨by show _ ≤ 601024; omega, by show _ ≤ 7293033; omega⟩ (fun H locs hP hD hS => ?_)
  refine lv_iload hx hb dL_law_849 (lv_at hl 1 rfl) ?_
  refine tl_eq hx hb (hcd) (tgt := 856) dL_law_851 (by decide) ?_
  refine lv_iload hx hb dL_law_856 (lv_at hl 1 rfl) ?_
  refine tg_if_ne (tgt := 873) hx hb dL_law_858 (by decide) (by omega) (fun c858 => ?_) (fun c858 => ?_)
  · skip
    refine lv_goto (tgt := 900) hx hb dL_law_873 (by decide) ?_
    refine lv_iinc (v := nI (i + 8)) (lv' := [(4, .int (nI (i + 8))), (6, .int (br)), (5, .int (nI (kc))), (0, .ref b), (1, .ref t0), (2, .ref m0), (3, .ref o0)]) hx hb dL_law_900 hl (k := 6) rfl (tg_inc _ _) (by decide) rfl (fun ls hl => ?_)
    refine lv_goto (tgt := 23) hx hb dL_law_903 (by decide) ?_
    exact hnext _ _ _ hP hD hS (lv_sub hl [3, 4, 5, 6, 0] rfl)
  · skip
    refine lv_aload_n hx hb dL_law_861 rfl (lv_at hl 5 rfl) ?_
    refine lv_iconst (v := nI (0)) hx hb dL_law_862 (by decide) ?_
    refine tg_lald hx hb hK hP 31 (tl_apl hO2) (f := ov2) (k := 0) (by omega) (by decide) dL_law_863 ?_
    refine lv_iload hx hb dL_law_864 (lv_at hl 0 rfl) ?_
    refine lv_i2l (v := Int32.toInt64 br) hx hb dL_law_866 rfl ?_
    refine W.lcmp hx hb dL_law_867 ?_
    refine tg_leq (tgt := 873) hx hb dL_law_868 (by decide) (fun _ => ?_) (fun c868 => absurd (hval c858) c868)
    refine lv_goto (tgt := 900) hx hb dL_law_873 (by decide) ?_
    refine lv_iinc (v := nI (i + 8)) (lv' := [(4, .int (nI (i + 8))), (6, .int (br)), (5, .int (nI (kc))), (0, .ref b), (1, .ref t0), (2, .ref m0), (3, .ref o0)]) hx hb dL_law_900 hl (k := 6) rfl (tg_inc _ _) (by decide) rfl (fun ls hl => ?_)
    refine lv_goto (tgt := 23) hx hb dL_law_903 (by decide) ?_
    exact hnext _ _ _ hP hD hS (lv_sub hl [3, 4, 5, 6, 0] rfl)
set_option maxHeartbeats 4000000 in
set_option maxRecDepth 100000 in
theorem lc_same (l : Launch) {pp : Program} {ee : Env} {ss : State} {mm : MethodId} {below : List Frame} {meth : Method} {cc : Code} {b L : Nat} {xs : Nat → Int32} {D : va_G} {ty : Nat → ClassId} (C0 : tl_At pp ss mm cc b L xs D ty) {QQ : State → Prop} {H : Heap} {locs : List Loc} {ls : Array Slot} {cells slots : Nat} {t0 m0 o0 : Nat} {A A2 M M2 : va_W} {fsM : List Value} {fsA : List Value} (bc : Int32) (br : Int32) (i : Nat) (hi : i + 8 ≤ L) (hL : L ≤ 4096) (rc rr : Room) (hrc : tl_rr rc 3) (hrr : tl_rr rr 3) (hcd : bc = br) (hC : tg_Mi l yX2_same wsX2_same rc D ty [.ref t0] A A2 (bc) 0 0) (hM : tg_Mi l yX3_same wsX3_same rr D ty [.ref m0] M M2 (br) 0 0) (hM0 : M[0]? = some (m0, .inr (3, fsM))) (hA0 : A[0]? = some (t0, .inr (2, fsA)))
    (hP : va_P D vwCl (A ++ M) H) (hD : va_D (fun q => ss.heap.size ≤ q) (A ++ M)) (hS : va_S (fun q => ss.heap.size ≤ q) ss.heap H locs) (hl : lv_has ls 8 [(0, .ref b), (1, .ref t0), (2, .ref m0), (3, .ref o0), (4, .int (nI i))]) (hc1 : cells + 1 ≤ 601024) (hc2 : slots + 6 ≤ 7293033)
    (hnext : ∀ (H : Heap) (locs : List Loc) (ls : Array Slot), va_P D vwCl (A2 ++ M2) H → va_D (fun q => ss.heap.size ≤ q) (A2 ++ M2) → va_S (fun q => ss.heap.size ≤ q) ss.heap H locs → lv_has ls 8 [(0, .ref b), (1, .ref t0), (2, .ref m0), (3, .ref o0), (4, .int (nI (i + 8)))] → W pp l ee room_1 ss mm #[Value.ref b] below meth cc H locs (cells + 0) (slots + 0) QQ (F0 mm 23 ls [])) : W pp l ee room_1 ss mm #[Value.ref b] below meth cc H locs cells slots QQ (F0 mm 876 ls []) := by
  obtain ⟨hx, hb, hml, hown, hts, hX, hbl, hK, hN, hZ, hNc⟩ := C0
  have hA : ∀ q : Nat, ss.heap.size ≤ q → (fun q : Nat => ss.heap.size ≤ q) q := fun _ h => h
  refine lv_aload_n hx hb dL_law_876 rfl (lv_at hl 1 rfl) ?_
  refine tl_ViF (As := []) (rest := []) (wc := A) (wr := M) (w1 := A2) ⟨hx, hb, hml, hown, hts⟩ hC (cwV 0 hts gL_law_X2_same rfl hrc.1 hrc.2.1 (by decide +kernel) ⟨hrc.2.2.1, hrc.2.2.2⟩) hK hN hP hD hS hA 2 rfl hA0 rfl rfl hl.1 rfl (Nat.le_of_ble_eq_true rfl) dL_law_877 ⟨by show _ ≤ 601024; omega, by show _ ≤ 7293033; omega⟩ (fun H locs hP hD hS => ?_)
  refine lv_aload_n hx hb dL_law_880 rfl (lv_at hl 2 rfl) ?_
  refine tl_ViF (As := []) (rest := [.int (bc)]) (wc := M) (wr := A2) (w1 := M2) ⟨hx, hb, hml, hown, hts⟩ hM (cwV 0 hts gL_law_X3_same rfl hrr.1 hrr.2.1 (by decide +kernel) ⟨hrr.2.2.1, hrr.2.2.2⟩) hK hN hP hD hS hA 3 rfl hM0 rfl rfl hl.1 rfl (Nat.le_of_ble_eq_true rfl) dL_law_881 ⟨by show _ ≤ 601024; omega, by show _ ≤ 7293033; omega⟩ (fun H locs hP hD hS => ?_)
  refine tl_eq hx hb (hcd) (tgt := 900) dL_law_884 (by decide) ?_
  refine lv_iinc (v := nI (i + 8)) (lv' := [(4, .int (nI (i + 8))), (0, .ref b), (1, .ref t0), (2, .ref m0), (3, .ref o0)]) hx hb dL_law_900 hl (k := 4) rfl (tg_inc _ _) (by decide) rfl (fun ls hl => ?_)
  refine lv_goto (tgt := 23) hx hb dL_law_903 (by decide) ?_
  exact hnext _ _ _ hP hD hS (lv_sub hl [1, 2, 3, 4, 0] rfl)
set_option maxHeartbeats 4000000 in
set_option maxRecDepth 100000 in
theorem lc_clear (l : Launch) {pp : Program} {ee : Env} {ss : State} {mm : MethodId} {below : List Frame} {meth : Method} {cc : Code} {b L : Nat} {xs : Nat → Int32} {D : va_G} {ty : Nat → ClassId} (C0 : tl_At pp ss mm cc b L xs D ty) {QQ : State → Prop} {H : Heap} {locs : List Loc} {ls : Array Slot} {cells slots : Nat} {t0 m0 o0 : Nat} {A A2 M M2 : va_W} {fsM : List Value} {fsA : List Value}  (i : Nat) (hi : i + 8 ≤ L) (hL : L ≤ 4096) (rc rr : Room) (hrc : tl_rr rc 2) (hrr : tl_rr rr 2) (hC : tg_Mv l yX2_clear wsX2_clear rc D ty [.ref t0] A (fun _ : Unit => A2) 0 0) (hM : tg_Mv l yX3_clear wsX3_clear rr D ty [.ref m0] M (fun _ : Unit => M2) 0 0) (hM0 : M[0]? = some (m0, .inr (3, fsM))) (hA0 : A[0]? = some (t0, .inr (2, fsA)))
    (hP : va_P D vwCl (A ++ M) H) (hD : va_D (fun q => ss.heap.size ≤ q) (A ++ M)) (hS : va_S (fun q => ss.heap.size ≤ q) ss.heap H locs) (hl : lv_has ls 8 [(0, .ref b), (1, .ref t0), (2, .ref m0), (3, .ref o0), (4, .int (nI i))]) (hc1 : cells + 1 ≤ 601024) (hc2 : slots + 6 ≤ 7293033)
    (hnext : ∀ (H : Heap) (locs : List Loc) (ls : Array Slot), va_P D vwCl (A2 ++ M2) H → va_D (fun q => ss.heap.size ≤ q) (A2 ++ M2) → va_S (fun q => ss.heap.size ≤ q) ss.heap H locs → lv_has ls 8 [(0, .ref b), (1, .ref t0), (2, .ref m0), (3, .ref o0), (4, .int (nI (i + 8)))] → W pp l ee room_1 ss mm #[Value.ref b] below meth cc H locs (cells + 0) (slots + 0) QQ (F0 mm 23 ls [])) : W pp l ee room_1 ss mm #[Value.ref b] below meth cc H locs cells slots QQ (F0 mm 889 ls []) := by
  obtain ⟨hx, hb, hml, hown, hts, hX, hbl, hK, hN, hZ, hNc⟩ := C0
  have hA : ∀ q : Nat, ss.heap.size ≤ q → (fun q : Nat => ss.heap.size ≤ q) q := fun _ h => h
  refine lv_aload_n hx hb dL_law_889 rfl (lv_at hl 1 rfl) ?_
  refine tl_VvF (As := []) (rest := []) (wc := A) (wr := M) (w1 := A2) ⟨hx, hb, hml, hown, hts⟩ hC (cwV 0 hts gL_law_X2_clear rfl hrc.1 hrc.2.1 (by decide +kernel) ⟨hrc.2.2.1, hrc.2.2.2⟩) hK hN hP hD hS hA 2 rfl hA0 rfl rfl hl.1 rfl (Nat.le_of_ble_eq_true rfl) dL_law_890 ⟨by show _ ≤ 601024; omega, by show _ ≤ 7293033; omega⟩ (fun H locs hP hD hS => ?_)
  refine lv_aload_n hx hb dL_law_893 rfl (lv_at hl 2 rfl) ?_
  refine tl_VvF (As := []) (rest := []) (wc := M) (wr := A2) (w1 := M2) ⟨hx, hb, hml, hown, hts⟩ hM (cwV 0 hts gL_law_X3_clear rfl hrr.1 hrr.2.1 (by decide +kernel) ⟨hrr.2.2.1, hrr.2.2.2⟩) hK hN hP hD hS hA 3 rfl hM0 rfl rfl hl.1 rfl (Nat.le_of_ble_eq_true rfl) dL_law_894 ⟨by show _ ≤ 601024; omega, by show _ ≤ 7293033; omega⟩ (fun H locs hP hD hS => ?_)
  refine lv_goto (tgt := 900) hx hb dL_law_897 (by decide) ?_
  refine lv_iinc (v := nI (i + 8)) (lv' := [(4, .int (nI (i + 8))), (0, .ref b), (1, .ref t0), (2, .ref m0), (3, .ref o0)]) hx hb dL_law_900 hl (k := 4) rfl (tg_inc _ _) (by decide) rfl (fun ls hl => ?_)
  refine lv_goto (tgt := 23) hx hb dL_law_903 (by decide) ?_
  exact hnext _ _ _ hP hD hS (lv_sub hl [1, 2, 3, 4, 0] rfl)
