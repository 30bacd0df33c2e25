/-! ===== contracts: the reference, hashes ===== -/
def rmk_X3_leaf : Room := { frames := 2, cells := 0, slots := 0, locals := 45 }
theorem ink_X3_leaf_X3 : ∀ w ∈ wsX30, w ∈ wsX3_leaf := by decide +kernel
set_option maxHeartbeats 4000000 in
set_option maxRecDepth 100000 in
theorem k_X3_leaf (l : Launch) (D : va_G) (ty : Nat → ClassId) (m0 : Nat) (m1 : Nat) (m2 : Nat) (m3 : Nat) (m4 : Nat) (m5 : Nat) (m7 : Nat) (m8 : Nat) (m9 : Nat) (m10 : Nat) (m11 : Nat) (m12 : Nat) (m13 : Nat) (m14 : Nat) (m15 : Nat) (m16 : Nat) (m17 : Nat) (m19 : Nat) (m20 : Nat) (m21 : Nat) (m22 : Nat) (m26 : Nat) (m28 : Nat) (m29 : Nat) (m30 : Nat) (m31 : Nat) (cd : Int32) (hh : Int64) (mn : Int32) (c0 : Int32) (c1 : Int32) (c2 : Int32) (gm : Int32) (th : Nat → Int32) (ms : Nat → Int64) (ml : Nat → Int32) (mv : Nat → Int64) (si : Nat) (nd : Nat) (hsi : si ≤ 1) (hnd : nd < 64) (hoe : tg_okE th ml) : tg_Ml l yX3_leaf wsX3_leaf rmk_X3_leaf D ty [.ref m0, .int (nI (si)), .int (nI (nd))] [(m0, .inr (3, [.int (cd), .ref m1, .ref m2, .ref m3, .ref m4, .ref m5, .long (hh), .ref m7, .ref m8, .ref m9, .ref m10, .ref m11, .ref m12, .ref m13, .ref m14, .ref m15, .ref m16, .ref m17, .int (mn), .ref m19, .ref m20, .ref m21, .ref m22, .int (c0), .int (c1), .int (c2), .ref m26, .int (gm), .ref m28, .ref m29, .ref m30, .ref m31])), (m1, .inl (ty 2, 512, .inl th)), (m2, .inl (ty 1, 512, .inr (.inl ms))), (m3, .inl (ty 0, 512, .inl ml)), (m4, .inl (ty 1, 512, .inr (.inl mv)))] [(m0, .inr (3, [.int (cd), .ref m1, .ref m2, .ref m3, .ref m4, .ref m5, .long (tg_rlf th ms ml mv si nd 4), .ref m7, .ref m8, .ref m9, .ref m10, .ref m11, .ref m12, .ref m13, .ref m14, .ref m15, .ref m16, .ref m17, .int (mn), .ref m19, .ref m20, .ref m21, .ref m22, .int (c0), .int (c1), .int (c2), .ref m26, .int (gm), .ref m28, .ref m29, .ref m30, .ref m31])), (m1, .inl (ty 2, 512, .inl th)), (m2, .inl (ty 1, 512, .inr (.inl ms))), (m3, .inl (ty 0, 512, .inl ml)), (m4, .inl (ty 1, 512, .inr (.inl mv)))] (tg_fin (tg_rlf th ms ml mv si nd 4)) 0 0 := by
  refine tg_start_l (cc := cX3_leaf) (maxL := 6) (lvs := [(0, .ref m0), (1, .int (nI (si))), (2, .int (nI (nd)))]) (by decide) rfl (Nat.le_of_ble_eq_true rfl) rfl ?_
  intro pp ee ss mm args below meth cc AA ls QQ hx hb hr hts hown hlocks hml hnm hA hP hD hS hK hN hl hret
  have hinX3 := ink_X3_leaf_X3
  refine lv_aload_n hx hb dX3_leaf_0 rfl (lv_at hl 0 rfl) ?_
  refine lv_ldc2 (v := 5903417617427348583) hx hb hown (hts (.constantLong RX3 124 (5903417617427348583)) (by decide +kernel)) dX3_leaf_1 ?_
  refine tg_put (ci := 3) (v := .long (5903417617427348583)) (ft := .long) (C := RX3) (T := TX3) (N := 32) hx hb hts hinX3 tyX3 tyX3_ok nmX3 hown hK hP hD hS 0 rfl rfl 6 (by decide) (hts (.fieldLink RX3 114 "TreeGossipModel" "h" "J") (by decide +kernel)) (fun _ h9 => h9) rfl (by decide +kernel) rfl rfl (Nat.le_of_ble_eq_true rfl) dX3_leaf_4 (ws' := [(m0, .inr (3, [.int (cd), .ref m1, .ref m2, .ref m3, .ref m4, .ref m5, .long (5903417617427348583), .ref m7, .ref m8, .ref m9, .ref m10, .ref m11, .ref m12, .ref m13, .ref m14, .ref m15, .ref m16, .ref m17, .int (mn), .ref m19, .ref m20, .ref m21, .ref m22, .int (c0), .int (c1), .int (c2), .ref m26, .int (gm), .ref m28, .ref m29, .ref m30, .ref m31])), (m1, .inl (ty 2, 512, .inl th)), (m2, .inl (ty 1, 512, .inr (.inl ms))), (m3, .inl (ty 0, 512, .inl ml)), (m4, .inl (ty 1, 512, .inr (.inl mv)))]) rfl (fun H locs hP hD hS => ?_)
  refine lv_iconst (v := nI (4)) hx hb dX3_leaf_7 (by decide) ?_
  refine lv_iload_n hx hb dX3_leaf_8 rfl (lv_at hl 2 rfl) ?_
  refine lv_imul hx hb dX3_leaf_9 ?_
  refine tg_vi (pk_mul _ _) ?_
  refine lv_istore_n (lv' := [(3, .int (nI (4 * nd))), (0, .ref m0), (1, .int (nI (si))), (2, .int (nI (nd)))]) hx hb dX3_leaf_10 rfl hl (by decide) rfl (fun ls hl => ?_)
  have hL11 : ∀ (n11 i : Nat) , i ≤ 4 → 4 + 1 ≤ i + n11 → ∀ (H : Heap) (locs : List Loc) (ls : Array Slot), va_P D vwCl [(m0, .inr (3, [.int (cd), .ref m1, .ref m2, .ref m3, .ref m4, .ref m5, .long (tg_rlf th ms ml mv si nd i), .ref m7, .ref m8, .ref m9, .ref m10, .ref m11, .ref m12, .ref m13, .ref m14, .ref m15, .ref m16, .ref m17, .int (mn), .ref m19, .ref m20, .ref m21, .ref m22, .int (c0), .int (c1), .int (c2), .ref m26, .int (gm), .ref m28, .ref m29, .ref m30, .ref m31])), (m1, .inl (ty 2, 512, .inl th)), (m2, .inl (ty 1, 512, .inr (.inl ms))), (m3, .inl (ty 0, 512, .inl ml)), (m4, .inl (ty 1, 512, .inr (.inl mv)))] H → va_D AA [(m0, .inr (3, [.int (cd), .ref m1, .ref m2, .ref m3, .ref m4, .ref m5, .long (tg_rlf th ms ml mv si nd i), .ref m7, .ref m8, .ref m9, .ref m10, .ref m11, .ref m12, .ref m13, .ref m14, .ref m15, .ref m16, .ref m17, .int (mn), .ref m19, .ref m20, .ref m21, .ref m22, .int (c0), .int (c1), .int (c2), .ref m26, .int (gm), .ref m28, .ref m29, .ref m30, .ref m31])), (m1, .inl (ty 2, 512, .inl th)), (m2, .inl (ty 1, 512, .inr (.inl ms))), (m3, .inl (ty 0, 512, .inl ml)), (m4, .inl (ty 1, 512, .inr (.inl mv)))] → va_S AA ss.heap H locs → lv_has ls 6 [(0, .ref m0), (1, .int (nI (si))), (2, .int (nI (nd))), (3, .int (nI (4 * nd + i)))] → W pp l ee rmk_X3_leaf ss mm args below meth cc H locs 0 0 QQ (F0 mm 11 ls []) := by
    intro n11
    induction n11 with
    | zero => intro i  h1 h2; omega
    | succ n11 ih11 =>
      intro i  hi11 hn11  H locs ls hP hD hS hl
      refine lv_iload_n hx hb dX3_leaf_11 rfl (lv_at hl 3 rfl) ?_
      refine lv_iconst (v := nI (4)) hx hb dX3_leaf_12 (by decide) ?_
      refine lv_iload_n hx hb dX3_leaf_13 rfl (lv_at hl 2 rfl) ?_
      refine lv_imul hx hb dX3_leaf_14 ?_
      refine tg_vi (pk_mul _ _) ?_
      refine lv_iconst (v := nI (4)) hx hb dX3_leaf_15 (by decide) ?_
      refine lv_iadd hx hb dX3_leaf_16 ?_
      refine tg_vi (nI_add _ _) ?_
      refine tg_ge (tgt := 112) hx hb dX3_leaf_17 (by decide) (by omega) (by omega) (fun c17_1 => ?_) (fun c17_1 => ?_)
      · skip
        obtain rfl : 4 = i := by omega
        refine lv_aload_n hx hb dX3_leaf_112 rfl (lv_at hl 0 rfl) ?_
        refine va_get (D := D) (ci := 3) (v := .long (tg_rlf th ms ml mv si nd 4)) (C := RX3) (T := TX3) (N := 32) hx hb hts hinX3 hown hK hP 0 rfl rfl 6 (by decide) (hts (.fieldLink RX3 114 "TreeGossipModel" "h" "J") (by decide +kernel)) (fun _ h9 => h9) rfl dX3_leaf_113 ?_
        refine lv_aload_n hx hb dX3_leaf_116 rfl (lv_at hl 0 rfl) ?_
        refine va_get (D := D) (ci := 3) (v := .long (tg_rlf th ms ml mv si nd 4)) (C := RX3) (T := TX3) (N := 32) hx hb hts hinX3 hown hK hP 0 rfl rfl 6 (by decide) (hts (.fieldLink RX3 114 "TreeGossipModel" "h" "J") (by decide +kernel)) (fun _ h9 => h9) rfl dX3_leaf_117 ?_
        refine lv_bipush (v := nI (31)) hx hb dX3_leaf_120 (by decide) ?_
        refine lv_lushr (v := tg_lu (tg_rlf th ms ml mv si nd 4) (nI (31))) hx hb dX3_leaf_122 rfl ?_
        refine lv_lxor hx hb dX3_leaf_123 ?_
        exact hret _ _ 124 _ _ hP hD hS (rfl) dX3_leaf_124
      · skip
        refine lv_sipush (v := nI (256)) hx hb dX3_leaf_20 (by decide) ?_
        refine lv_iload_n hx hb dX3_leaf_23 rfl (lv_at hl 1 rfl) ?_
        refine lv_imul hx hb dX3_leaf_24 ?_
        refine tg_vi (pk_mul _ _) ?_
        refine lv_iload_n hx hb dX3_leaf_25 rfl (lv_at hl 3 rfl) ?_
        refine lv_iadd hx hb dX3_leaf_26 ?_
        refine tg_vi (nI_add _ _) ?_
        refine lv_istore (lv' := [(4, .int (nI ((256 * si) + (4 * nd + i)))), (0, .ref m0), (1, .int (nI (si))), (2, .int (nI (nd))), (3, .int (nI (4 * nd + i)))]) hx hb dX3_leaf_27 hl (by decide) rfl (fun ls hl => ?_)
        refine lv_aload_n hx hb dX3_leaf_29 rfl (lv_at hl 1 rfl) ?_
        refine va_get (D := D) (ci := 3) (v := .ref m1) (C := RX3) (T := TX3) (N := 32) hx hb hts hinX3 hown hK hP 0 rfl rfl 1 (by decide) (hts (.fieldLink RX3 7 "TreeGossipModel" "there" "[Z") (by decide +kernel)) (fun _ h9 => h9) rfl dX3_leaf_30 ?_
        refine lv_iload hx hb dX3_leaf_33 (lv_at hl 0 rfl) ?_
        refine tg_zald hx hb hK hP 1 rfl (f := th) (k := (256 * si) + (4 * nd + i)) (by omega) (by decide) dX3_leaf_35 ?_
        refine lv_if_ne (tgt := 42) hx hb dX3_leaf_36 (by decide) (fun c36_2 => ?_) (fun c36_2 => ?_)
        · skip
          have e36 := hoe (256 * si + (4 * nd + i)) (by omega) c36_2
          refine lv_aload_n hx hb dX3_leaf_42 rfl (lv_at hl 1 rfl) ?_
          refine lv_iload_n hx hb dX3_leaf_43 rfl (lv_at hl 4 rfl) ?_
          refine tg_Vv (As := [.int (nI (4 * nd + i))]) (rest := []) (wr := [(m1, .inl (ty 2, 512, .inl th)), (m2, .inl (ty 1, 512, .inr (.inl ms))), (m3, .inl (ty 0, 512, .inl ml)), (m4, .inl (ty 1, 512, .inr (.inl mv)))]) (w2 := [(m0, .inr (3, [.int (cd), .ref m1, .ref m2, .ref m3, .ref m4, .ref m5, .long (tg_mxi (tg_rlf th ms ml mv si nd i) (nI (4 * nd + i))), .ref m7, .ref m8, .ref m9, .ref m10, .ref m11, .ref m12, .ref m13, .ref m14, .ref m15, .ref m16, .ref m17, .int (mn), .ref m19, .ref m20, .ref m21, .ref m22, .int (c0), .int (c1), .int (c2), .ref m26, .int (gm), .ref m28, .ref m29, .ref m30, .ref m31])), (m1, .inl (ty 2, 512, .inl th)), (m2, .inl (ty 1, 512, .inr (.inl ms))), (m3, .inl (ty 0, 512, .inl ml)), (m4, .inl (ty 1, 512, .inr (.inl mv)))]) ⟨hx, hb, hml, hown, hts⟩ (k_X3_mix l D ty m0 m1 m2 m3 m4 m5 m7 m8 m9 m10 m11 m12 m13 m14 m15 m16 m17 m19 m20 m21 m22 m26 m28 m29 m30 m31 cd (tg_rlf th ms ml mv si nd i) mn c0 c1 c2 gm (nI (4 * nd + i)) ) (cwV 1 hts gX3_leaf_X3_mix rfl rfl rfl (by decide +kernel) ⟨Nat.le_of_ble_eq_true rfl, Nat.le_of_ble_eq_true rfl⟩) hK hN hP hD hS hA [0] [1, 2, 3, 4] [4, 0, 1, 2, 3] 0 3 rfl rfl rfl rfl rfl rfl rfl (by decide) rfl hl.1 rfl (Nat.le_of_ble_eq_true rfl) dX3_leaf_44 rfl rfl ⟨Nat.le_of_ble_eq_true rfl, Nat.le_of_ble_eq_true rfl⟩ (fun H locs hP hD hS => ?_)
          refine lv_aload_n hx hb dX3_leaf_47 rfl (lv_at hl 1 rfl) ?_
          refine lv_aload_n hx hb dX3_leaf_48 rfl (lv_at hl 1 rfl) ?_
          refine va_get (D := D) (ci := 3) (v := .ref m2) (C := RX3) (T := TX3) (N := 32) hx hb hts hinX3 hown hK hP 0 rfl rfl 2 (by decide) (hts (.fieldLink RX3 13 "TreeGossipModel" "stamps" "[J") (by decide +kernel)) (fun _ h9 => h9) rfl dX3_leaf_49 ?_
          refine lv_iload hx hb dX3_leaf_52 (lv_at hl 0 rfl) ?_
          refine tg_lald hx hb hK hP 2 rfl (f := ms) (k := (256 * si) + (4 * nd + i)) (by omega) (by decide) dX3_leaf_54 ?_
          refine tg_Vv (As := [.long (ms ((256 * si) + (4 * nd + i)))]) (rest := []) (wr := [(m1, .inl (ty 2, 512, .inl th)), (m2, .inl (ty 1, 512, .inr (.inl ms))), (m3, .inl (ty 0, 512, .inl ml)), (m4, .inl (ty 1, 512, .inr (.inl mv)))]) (w2 := [(m0, .inr (3, [.int (cd), .ref m1, .ref m2, .ref m3, .ref m4, .ref m5, .long (tg_ml8 (tg_mxi (tg_rlf th ms ml mv si nd i) (nI (4 * nd + i))) (ms ((256 * si) + (4 * nd + i))) 8), .ref m7, .ref m8, .ref m9, .ref m10, .ref m11, .ref m12, .ref m13, .ref m14, .ref m15, .ref m16, .ref m17, .int (mn), .ref m19, .ref m20, .ref m21, .ref m22, .int (c0), .int (c1), .int (c2), .ref m26, .int (gm), .ref m28, .ref m29, .ref m30, .ref m31])), (m1, .inl (ty 2, 512, .inl th)), (m2, .inl (ty 1, 512, .inr (.inl ms))), (m3, .inl (ty 0, 512, .inl ml)), (m4, .inl (ty 1, 512, .inr (.inl mv)))]) ⟨hx, hb, hml, hown, hts⟩ (k_X3_mixLong l D ty m0 m1 m2 m3 m4 m5 m7 m8 m9 m10 m11 m12 m13 m14 m15 m16 m17 m19 m20 m21 m22 m26 m28 m29 m30 m31 cd (tg_mxi (tg_rlf th ms ml mv si nd i) (nI (4 * nd + i))) mn c0 c1 c2 gm (ms ((256 * si) + (4 * nd + i))) ) (cwV 1 hts gX3_leaf_X3_mixLong rfl rfl rfl (by decide +kernel) ⟨Nat.le_of_ble_eq_true rfl, Nat.le_of_ble_eq_true rfl⟩) hK hN hP hD hS hA [0] [1, 2, 3, 4] [4, 0, 1, 2, 3] 0 3 rfl rfl rfl rfl rfl rfl rfl (by decide) rfl hl.1 rfl (Nat.le_of_ble_eq_true rfl) dX3_leaf_55 rfl rfl ⟨Nat.le_of_ble_eq_true rfl, Nat.le_of_ble_eq_true rfl⟩ (fun H locs hP hD hS => ?_)
          refine lv_aload_n hx hb dX3_leaf_58 rfl (lv_at hl 1 rfl) ?_
          refine lv_aload_n hx hb dX3_leaf_59 rfl (lv_at hl 1 rfl) ?_
          refine va_get (D := D) (ci := 3) (v := .ref m3) (C := RX3) (T := TX3) (N := 32) hx hb hts hinX3 hown hK hP 0 rfl rfl 3 (by decide) (hts (.fieldLink RX3 17 "TreeGossipModel" "lengths" "[I") (by decide +kernel)) (fun _ h9 => h9) rfl dX3_leaf_60 ?_
          refine lv_iload hx hb dX3_leaf_63 (lv_at hl 0 rfl) ?_
          refine tg_iald hx hb hK hP 3 rfl (f := ml) (k := (256 * si) + (4 * nd + i)) (by omega) (by decide) dX3_leaf_65 ?_
          refine tg_vi (e36.1) ?_
          refine tg_Vv (As := [.int (nI (tg_cn (ml (256 * si + (4 * nd + i)))))]) (rest := []) (wr := [(m1, .inl (ty 2, 512, .inl th)), (m2, .inl (ty 1, 512, .inr (.inl ms))), (m3, .inl (ty 0, 512, .inl ml)), (m4, .inl (ty 1, 512, .inr (.inl mv)))]) (w2 := [(m0, .inr (3, [.int (cd), .ref m1, .ref m2, .ref m3, .ref m4, .ref m5, .long (tg_mxi (tg_ml8 (tg_mxi (tg_rlf th ms ml mv si nd i) (nI (4 * nd + i))) (ms ((256 * si) + (4 * nd + i))) 8) (nI (tg_cn (ml (256 * si + (4 * nd + i)))))), .ref m7, .ref m8, .ref m9, .ref m10, .ref m11, .ref m12, .ref m13, .ref m14, .ref m15, .ref m16, .ref m17, .int (mn), .ref m19, .ref m20, .ref m21, .ref m22, .int (c0), .int (c1), .int (c2), .ref m26, .int (gm), .ref m28, .ref m29, .ref m30, .ref m31])), (m1, .inl (ty 2, 512, .inl th)), (m2, .inl (ty 1, 512, .inr (.inl ms))), (m3, .inl (ty 0, 512, .inl ml)), (m4, .inl (ty 1, 512, .inr (.inl mv)))]) ⟨hx, hb, hml, hown, hts⟩ (k_X3_mix l D ty m0 m1 m2 m3 m4 m5 m7 m8 m9 m10 m11 m12 m13 m14 m15 m16 m17 m19 m20 m21 m22 m26 m28 m29 m30 m31 cd (tg_ml8 (tg_mxi (tg_rlf th ms ml mv si nd i) (nI (4 * nd + i))) (ms ((256 * si) + (4 * nd + i))) 8) mn c0 c1 c2 gm (nI (tg_cn (ml (256 * si + (4 * nd + i))))) ) (cwV 1 hts gX3_leaf_X3_mix rfl rfl rfl (by decide +kernel) ⟨Nat.le_of_ble_eq_true rfl, Nat.le_of_ble_eq_true rfl⟩) hK hN hP hD hS hA [0] [1, 2, 3, 4] [4, 0, 1, 2, 3] 0 3 rfl rfl rfl rfl rfl rfl rfl (by decide) rfl hl.1 rfl (Nat.le_of_ble_eq_true rfl) dX3_leaf_66 rfl rfl ⟨Nat.le_of_ble_eq_true rfl, Nat.le_of_ble_eq_true rfl⟩ (fun H locs hP hD hS => ?_)
          refine lv_iconst (v := nI (0)) hx hb dX3_leaf_69 (by decide) ?_
          refine lv_istore (lv' := [(5, .int (nI (0))), (4, .int (nI ((256 * si) + (4 * nd + i)))), (0, .ref m0), (1, .int (nI (si))), (2, .int (nI (nd))), (3, .int (nI (4 * nd + i)))]) hx hb dX3_leaf_70 hl (by decide) rfl (fun ls hl => ?_)
          have hL72 : ∀ (n72 j : Nat) , j ≤ tg_cn (ml (256 * si + (4 * nd + i))) → tg_cn (ml (256 * si + (4 * nd + i))) + 1 ≤ j + n72 → ∀ (H : Heap) (locs : List Loc) (ls : Array Slot), va_P D vwCl [(m0, .inr (3, [.int (cd), .ref m1, .ref m2, .ref m3, .ref m4, .ref m5, .long (tg_ml8 (tg_mxi (tg_ml8 (tg_mxi (tg_rlf th ms ml mv si nd i) (nI (4 * nd + i))) (ms ((256 * si) + (4 * nd + i))) 8) (nI (tg_cn (ml (256 * si + (4 * nd + i)))))) (mv (256 * si + (4 * nd + i))) j), .ref m7, .ref m8, .ref m9, .ref m10, .ref m11, .ref m12, .ref m13, .ref m14, .ref m15, .ref m16, .ref m17, .int (mn), .ref m19, .ref m20, .ref m21, .ref m22, .int (c0), .int (c1), .int (c2), .ref m26, .int (gm), .ref m28, .ref m29, .ref m30, .ref m31])), (m1, .inl (ty 2, 512, .inl th)), (m2, .inl (ty 1, 512, .inr (.inl ms))), (m3, .inl (ty 0, 512, .inl ml)), (m4, .inl (ty 1, 512, .inr (.inl mv)))] H → va_D AA [(m0, .inr (3, [.int (cd), .ref m1, .ref m2, .ref m3, .ref m4, .ref m5, .long (tg_ml8 (tg_mxi (tg_ml8 (tg_mxi (tg_rlf th ms ml mv si nd i) (nI (4 * nd + i))) (ms ((256 * si) + (4 * nd + i))) 8) (nI (tg_cn (ml (256 * si + (4 * nd + i)))))) (mv (256 * si + (4 * nd + i))) j), .ref m7, .ref m8, .ref m9, .ref m10, .ref m11, .ref m12, .ref m13, .ref m14, .ref m15, .ref m16, .ref m17, .int (mn), .ref m19, .ref m20, .ref m21, .ref m22, .int (c0), .int (c1), .int (c2), .ref m26, .int (gm), .ref m28, .ref m29, .ref m30, .ref m31])), (m1, .inl (ty 2, 512, .inl th)), (m2, .inl (ty 1, 512, .inr (.inl ms))), (m3, .inl (ty 0, 512, .inl ml)), (m4, .inl (ty 1, 512, .inr (.inl mv)))] → va_S AA ss.heap H locs → lv_has ls 6 [(0, .ref m0), (1, .int (nI (si))), (2, .int (nI (nd))), (3, .int (nI (4 * nd + i))), (4, .int (nI (256 * si + (4 * nd + i)))), (5, .int (nI (j)))] → W pp l ee rmk_X3_leaf ss mm args below meth cc H locs 0 0 QQ (F0 mm 72 ls []) := by
            intro n72
            induction n72 with
            | zero => intro j  h1 h2; omega
            | succ n72 ih72 =>
              intro j  hi72 hn72  H locs ls hP hD hS hl
              refine lv_iload hx hb dX3_leaf_72 (lv_at hl 5 rfl) ?_
              refine lv_aload_n hx hb dX3_leaf_74 rfl (lv_at hl 0 rfl) ?_
              refine va_get (D := D) (ci := 3) (v := .ref m3) (C := RX3) (T := TX3) (N := 32) hx hb hts hinX3 hown hK hP 0 rfl rfl 3 (by decide) (hts (.fieldLink RX3 17 "TreeGossipModel" "lengths" "[I") (by decide +kernel)) (fun _ h9 => h9) rfl dX3_leaf_75 ?_
              refine lv_iload hx hb dX3_leaf_78 (lv_at hl 4 rfl) ?_
              refine tg_iald hx hb hK hP 3 rfl (f := ml) (k := 256 * si + (4 * nd + i)) (by omega) (by decide) dX3_leaf_80 ?_
              refine tg_vi (e36.1) ?_
              refine tg_ge (tgt := 106) hx hb dX3_leaf_81 (by decide) (by omega) (by omega) (fun c81_3 => ?_) (fun c81_3 => ?_)
              · skip
                obtain rfl : tg_cn (ml (256 * si + (4 * nd + i))) = j := by omega
                refine lv_iinc (v := nI ((4 * nd + i) + 1)) (lv' := [(3, .int (nI ((4 * nd + i) + 1))), (0, .ref m0), (1, .int (nI (si))), (2, .int (nI (nd))), (4, .int (nI (256 * si + (4 * nd + i)))), (5, .int (nI ((tg_cn (ml (256 * si + (4 * nd + i)))))))]) hx hb dX3_leaf_106 hl (k := 3) rfl (tg_inc1 _) (by decide) rfl (fun ls hl => ?_)
                refine lv_goto (tgt := 11) hx hb dX3_leaf_109 (by decide) ?_
                exact ih11 (i + 1) (by omega) (by omega)  _ _ _ (by rw [tg_rlf_y c36_2]; exact hP) (by rw [tg_rlf_y c36_2]; exact hD) hS (lv_sub hl [1, 2, 3, 0] rfl)
              · skip
                refine lv_aload_n hx hb dX3_leaf_84 rfl (lv_at hl 0 rfl) ?_
                refine lv_aload_n hx hb dX3_leaf_85 rfl (lv_at hl 0 rfl) ?_
                refine va_get (D := D) (ci := 3) (v := .ref m4) (C := RX3) (T := TX3) (N := 32) hx hb hts hinX3 hown hK hP 0 rfl rfl 4 (by decide) (hts (.fieldLink RX3 21 "TreeGossipModel" "values" "[J") (by decide +kernel)) (fun _ h9 => h9) rfl dX3_leaf_86 ?_
                refine lv_iload hx hb dX3_leaf_89 (lv_at hl 4 rfl) ?_
                refine tg_lald hx hb hK hP 4 rfl (f := mv) (k := 256 * si + (4 * nd + i)) (by omega) (by decide) dX3_leaf_91 ?_
                refine lv_iload hx hb dX3_leaf_92 (lv_at hl 5 rfl) ?_
                refine tg_Si (As := [.long (mv (256 * si + (4 * nd + i))), .int (nI (j))]) (rest := [.ref m0]) ⟨hx, hb, hml, hown, hts⟩ (k_X3_byteOf l D ty (mv (256 * si + (4 * nd + i))) j (by omega)) (va_cwS 2 hts gX3_leaf_X3_byteOf rfl rfl rfl (by decide +kernel) ⟨Nat.le_of_ble_eq_true rfl, Nat.le_of_ble_eq_true rfl⟩) hK hN hP hD hS hA rfl hl.1 rfl (Nat.le_of_ble_eq_true rfl) dX3_leaf_94 ⟨Nat.le_of_ble_eq_true rfl, Nat.le_of_ble_eq_true rfl⟩ (fun H locs hP hD hS => ?_)
                refine tg_Vv (As := [.int (tg_bi (mv (256 * si + (4 * nd + i))) j)]) (rest := []) (wr := [(m1, .inl (ty 2, 512, .inl th)), (m2, .inl (ty 1, 512, .inr (.inl ms))), (m3, .inl (ty 0, 512, .inl ml)), (m4, .inl (ty 1, 512, .inr (.inl mv)))]) (w2 := [(m0, .inr (3, [.int (cd), .ref m1, .ref m2, .ref m3, .ref m4, .ref m5, .long (tg_mxi (tg_ml8 (tg_mxi (tg_ml8 (tg_mxi (tg_rlf th ms ml mv si nd i) (nI (4 * nd + i))) (ms ((256 * si) + (4 * nd + i))) 8) (nI (tg_cn (ml (256 * si + (4 * nd + i)))))) (mv (256 * si + (4 * nd + i))) j) (tg_bi (mv (256 * si + (4 * nd + i))) j)), .ref m7, .ref m8, .ref m9, .ref m10, .ref m11, .ref m12, .ref m13, .ref m14, .ref m15, .ref m16, .ref m17, .int (mn), .ref m19, .ref m20, .ref m21, .ref m22, .int (c0), .int (c1), .int (c2), .ref m26, .int (gm), .ref m28, .ref m29, .ref m30, .ref m31])), (m1, .inl (ty 2, 512, .inl th)), (m2, .inl (ty 1, 512, .inr (.inl ms))), (m3, .inl (ty 0, 512, .inl ml)), (m4, .inl (ty 1, 512, .inr (.inl mv)))]) ⟨hx, hb, hml, hown, hts⟩ (k_X3_mix l D ty m0 m1 m2 m3 m4 m5 m7 m8 m9 m10 m11 m12 m13 m14 m15 m16 m17 m19 m20 m21 m22 m26 m28 m29 m30 m31 cd (tg_ml8 (tg_mxi (tg_ml8 (tg_mxi (tg_rlf th ms ml mv si nd i) (nI (4 * nd + i))) (ms ((256 * si) + (4 * nd + i))) 8) (nI (tg_cn (ml (256 * si + (4 * nd + i)))))) (mv (256 * si + (4 * nd + i))) j) mn c0 c1 c2 gm (tg_bi (mv (256 * si + (4 * nd + i))) j) ) (cwV 1 hts gX3_leaf_X3_mix rfl rfl rfl (by decide +kernel) ⟨Nat.le_of_ble_eq_true rfl, Nat.le_of_ble_eq_true rfl⟩) hK hN hP hD hS hA [0] [1, 2, 3, 4] [4, 0, 1, 2, 3] 0 3 rfl rfl rfl rfl rfl rfl rfl (by decide) rfl hl.1 rfl (Nat.le_of_ble_eq_true rfl) dX3_leaf_97 rfl rfl ⟨Nat.le_of_ble_eq_true rfl, Nat.le_of_ble_eq_true rfl⟩ (fun H locs hP hD hS => ?_)
                refine lv_iinc (v := nI (j + 1)) (lv' := [(5, .int (nI (j + 1))), (0, .ref m0), (1, .int (nI (si))), (2, .int (nI (nd))), (3, .int (nI (4 * nd + i))), (4, .int (nI (256 * si + (4 * nd + i))))]) hx hb dX3_leaf_100 hl (k := 5) rfl (tg_inc1 _) (by decide) rfl (fun ls hl => ?_)
                refine lv_goto (tgt := 72) hx hb dX3_leaf_103 (by decide) ?_
                exact ih72 (j + 1) (by omega) (by omega)  _ _ _ hP hD hS (lv_sub hl [1, 2, 3, 4, 5, 0] rfl)
          exact hL72 (tg_cn (ml (256 * si + (4 * nd + i))) + 1) 0 (by omega) (by omega)  _ _ _ hP hD hS (lv_sub hl [2, 3, 4, 5, 1, 0] rfl)
        · skip
          refine lv_goto (tgt := 106) hx hb dX3_leaf_39 (by decide) ?_
          refine lv_iinc (v := nI ((4 * nd + i) + 1)) (lv' := [(3, .int (nI ((4 * nd + i) + 1))), (4, .int (nI ((256 * si) + (4 * nd + i)))), (0, .ref m0), (1, .int (nI (si))), (2, .int (nI (nd)))]) hx hb dX3_leaf_106 hl (k := 4) rfl (tg_inc1 _) (by decide) rfl (fun ls hl => ?_)
          refine lv_goto (tgt := 11) hx hb dX3_leaf_109 (by decide) ?_
          exact ih11 (i + 1) (by omega) (by omega)  _ _ _ (by rw [tg_rlf_n c36_2]; exact hP) (by rw [tg_rlf_n c36_2]; exact hD) hS (lv_sub hl [2, 3, 4, 0] rfl)
  exact hL11 (4 + 1) 0 (by omega) (by omega)  _ _ _ hP hD hS (lv_sub hl [1, 2, 3, 0] rfl)
def rmk_X3_hashAll : Room := { frames := 3, cells := 0, slots := 0, locals := 70 }
theorem ink_X3_hashAll_X3 : ∀ w ∈ wsX30, w ∈ wsX3_hashAll := by decide +kernel
set_option maxHeartbeats 4000000 in
set_option maxRecDepth 100000 in
theorem k_X3_hashAll (l : Launch) (D : va_G) (ty : Nat → ClassId) (m0 : Nat) (m1 : Nat) (m2 : Nat) (m3 : Nat) (m4 : Nat) (m5 : Nat) (m7 : Nat) (m8 : Nat) (m9 : Nat) (m10 : Nat) (m11 : Nat) (m12 : Nat) (m13 : Nat) (m14 : Nat) (m15 : Nat) (m16 : Nat) (m17 : Nat) (m19 : Nat) (m20 : Nat) (m21 : Nat) (m22 : Nat) (m26 : Nat) (m28 : Nat) (m29 : Nat) (m30 : Nat) (m31 : Nat) (cd : Int32) (hh : Int64) (mn : Int32) (c0 : Int32) (c1 : Int32) (c2 : Int32) (gm : Int32) (th : Nat → Int32) (ms : Nat → Int64) (ml : Nat → Int32) (mv : Nat → Int64) (ha : Nat → Int64) (si : Nat) (hsi : si ≤ 1) (hoe : tg_okE th ml) : tg_Mv l yX3_hashAll wsX3_hashAll rmk_X3_hashAll D ty [.ref m0, .int (nI (si))] [(m0, .inr (3, [.int (cd), .ref m1, .ref m2, .ref m3, .ref m4, .ref m5, .long (hh), .ref m7, .ref m8, .ref m9, .ref m10, .ref m11, .ref m12, .ref m13, .ref m14, .ref m15, .ref m16, .ref m17, .int (mn), .ref m19, .ref m20, .ref m21, .ref m22, .int (c0), .int (c1), .int (c2), .ref m26, .int (gm), .ref m28, .ref m29, .ref m30, .ref m31])), (m1, .inl (ty 2, 512, .inl th)), (m2, .inl (ty 1, 512, .inr (.inl ms))), (m3, .inl (ty 0, 512, .inl ml)), (m4, .inl (ty 1, 512, .inr (.inl mv))), (m5, .inl (ty 1, 85, .inr (.inl ha)))] (fun _ : Unit => [(m0, .inr (3, [.int (cd), .ref m1, .ref m2, .ref m3, .ref m4, .ref m5, .long (tg_Hh th ms ml mv si ha), .ref m7, .ref m8, .ref m9, .ref m10, .ref m11, .ref m12, .ref m13, .ref m14, .ref m15, .ref m16, .ref m17, .int (mn), .ref m19, .ref m20, .ref m21, .ref m22, .int (c0), .int (c1), .int (c2), .ref m26, .int (gm), .ref m28, .ref m29, .ref m30, .ref m31])), (m1, .inl (ty 2, 512, .inl th)), (m2, .inl (ty 1, 512, .inr (.inl ms))), (m3, .inl (ty 0, 512, .inl ml)), (m4, .inl (ty 1, 512, .inr (.inl mv))), (m5, .inl (ty 1, 85, .inr (.inl (tg_H0 th ms ml mv si ha))))]) 0 0 := by
  refine tg_start_v (cc := cX3_hashAll) (maxL := 5) (lvs := [(0, .ref m0), (1, .int (nI (si)))]) (by decide) rfl (Nat.le_of_ble_eq_true rfl) rfl ?_
  intro pp ee ss mm args below meth cc AA ls QQ hx hb hr hts hown hlocks hml hnm hA hP hD hS hK hN hl hret
  have hinX3 := ink_X3_hashAll_X3
  refine lv_iconst (v := nI (0)) hx hb dX3_hashAll_0 (by decide) ?_
  refine lv_istore_n (lv' := [(2, .int (nI (0))), (0, .ref m0), (1, .int (nI (si)))]) hx hb dX3_hashAll_1 rfl hl (by decide) rfl (fun ls hl => ?_)
  have hL2 : ∀ (n2 n : Nat) , n ≤ 64 → 64 + 1 ≤ n + n2 → ∀ (H : Heap) (locs : List Loc) (ls : Array Slot), va_P D vwCl [(m0, .inr (3, [.int (cd), .ref m1, .ref m2, .ref m3, .ref m4, .ref m5, .long (tg_rh1 th ms ml mv si hh n), .ref m7, .ref m8, .ref m9, .ref m10, .ref m11, .ref m12, .ref m13, .ref m14, .ref m15, .ref m16, .ref m17, .int (mn), .ref m19, .ref m20, .ref m21, .ref m22, .int (c0), .int (c1), .int (c2), .ref m26, .int (gm), .ref m28, .ref m29, .ref m30, .ref m31])), (m1, .inl (ty 2, 512, .inl th)), (m2, .inl (ty 1, 512, .inr (.inl ms))), (m3, .inl (ty 0, 512, .inl ml)), (m4, .inl (ty 1, 512, .inr (.inl mv))), (m5, .inl (ty 1, 85, .inr (.inl (tg_rl1 th ms ml mv si ha n))))] H → va_D AA [(m0, .inr (3, [.int (cd), .ref m1, .ref m2, .ref m3, .ref m4, .ref m5, .long (tg_rh1 th ms ml mv si hh n), .ref m7, .ref m8, .ref m9, .ref m10, .ref m11, .ref m12, .ref m13, .ref m14, .ref m15, .ref m16, .ref m17, .int (mn), .ref m19, .ref m20, .ref m21, .ref m22, .int (c0), .int (c1), .int (c2), .ref m26, .int (gm), .ref m28, .ref m29, .ref m30, .ref m31])), (m1, .inl (ty 2, 512, .inl th)), (m2, .inl (ty 1, 512, .inr (.inl ms))), (m3, .inl (ty 0, 512, .inl ml)), (m4, .inl (ty 1, 512, .inr (.inl mv))), (m5, .inl (ty 1, 85, .inr (.inl (tg_rl1 th ms ml mv si ha n))))] → va_S AA ss.heap H locs → lv_has ls 5 [(0, .ref m0), (1, .int (nI (si))), (2, .int (nI (n)))] → W pp l ee rmk_X3_hashAll ss mm args below meth cc H locs 0 0 QQ (F0 mm 2 ls []) := by
    intro n2
    induction n2 with
    | zero => intro n  h1 h2; omega
    | succ n2 ih2 =>
      intro n  hi2 hn2  H locs ls hP hD hS hl
      refine lv_iload_n hx hb dX3_hashAll_2 rfl (lv_at hl 2 rfl) ?_
      refine lv_bipush (v := nI (64)) hx hb dX3_hashAll_3 (by decide) ?_
      refine tg_ge (tgt := 29) hx hb dX3_hashAll_5 (by decide) (by omega) (by omega) (fun c5_1 => ?_) (fun c5_1 => ?_)
      · skip
        obtain rfl : 64 = n := by omega
        refine lv_iconst (v := nI (2)) hx hb dX3_hashAll_29 (by decide) ?_
        refine lv_istore_n (lv' := [(2, .int (nI (2))), (0, .ref m0), (1, .int (nI (si)))]) hx hb dX3_hashAll_30 rfl hl (by decide) rfl (fun ls hl => ?_)
        refine lv_iload_n hx hb dX3_hashAll_31 rfl (lv_at hl 0 rfl) ?_
        refine lv_if_lt (tgt := 124) hx hb dX3_hashAll_32 (by decide) (fun c32_2 => ?_) (fun c32_2 => ?_)
        · exact absurd c32_2 (by decide)
        · skip
          refine lv_iconst (v := nI (0)) hx hb dX3_hashAll_35 (by decide) ?_
          refine lv_istore_n (lv' := [(3, .int (nI (0))), (2, .int (nI (2))), (0, .ref m0), (1, .int (nI (si)))]) hx hb dX3_hashAll_36 rfl hl (by decide) rfl (fun ls hl => ?_)
          have hL37 : ∀ (n37 n : Nat) , n ≤ 16 → 16 + 1 ≤ n + n37 → ∀ (H : Heap) (locs : List Loc) (ls : Array Slot), va_P D vwCl [(m0, .inr (3, [.int (cd), .ref m1, .ref m2, .ref m3, .ref m4, .ref m5, .long (tg_rih (tg_rl1 th ms ml mv si ha 64) 5 21 (tg_rh1 th ms ml mv si hh 64) n), .ref m7, .ref m8, .ref m9, .ref m10, .ref m11, .ref m12, .ref m13, .ref m14, .ref m15, .ref m16, .ref m17, .int (mn), .ref m19, .ref m20, .ref m21, .ref m22, .int (c0), .int (c1), .int (c2), .ref m26, .int (gm), .ref m28, .ref m29, .ref m30, .ref m31])), (m1, .inl (ty 2, 512, .inl th)), (m2, .inl (ty 1, 512, .inr (.inl ms))), (m3, .inl (ty 0, 512, .inl ml)), (m4, .inl (ty 1, 512, .inr (.inl mv))), (m5, .inl (ty 1, 85, .inr (.inl (tg_ri (tg_rl1 th ms ml mv si ha 64) 5 21 n))))] H → va_D AA [(m0, .inr (3, [.int (cd), .ref m1, .ref m2, .ref m3, .ref m4, .ref m5, .long (tg_rih (tg_rl1 th ms ml mv si ha 64) 5 21 (tg_rh1 th ms ml mv si hh 64) n), .ref m7, .ref m8, .ref m9, .ref m10, .ref m11, .ref m12, .ref m13, .ref m14, .ref m15, .ref m16, .ref m17, .int (mn), .ref m19, .ref m20, .ref m21, .ref m22, .int (c0), .int (c1), .int (c2), .ref m26, .int (gm), .ref m28, .ref m29, .ref m30, .ref m31])), (m1, .inl (ty 2, 512, .inl th)), (m2, .inl (ty 1, 512, .inr (.inl ms))), (m3, .inl (ty 0, 512, .inl ml)), (m4, .inl (ty 1, 512, .inr (.inl mv))), (m5, .inl (ty 1, 85, .inr (.inl (tg_ri (tg_rl1 th ms ml mv si ha 64) 5 21 n))))] → va_S AA ss.heap H locs → lv_has ls 5 [(0, .ref m0), (1, .int (nI (si))), (2, .int (nI (2))), (3, .int (nI (n)))] → W pp l ee rmk_X3_hashAll ss mm args below meth cc H locs 0 0 QQ (F0 mm 37 ls []) := by
            intro n37
            induction n37 with
            | zero => intro n  h1 h2; omega
            | succ n37 ih37 =>
              intro n  hi37 hn37  H locs ls hP hD hS hl
              refine lv_iload_n hx hb dX3_hashAll_37 rfl (lv_at hl 3 rfl) ?_
              refine lv_iload_n hx hb dX3_hashAll_38 rfl (lv_at hl 2 rfl) ?_
              refine tg_Si (As := [.int (nI (2))]) (rest := [.int (nI (n))]) ⟨hx, hb, hml, hown, hts⟩ (k_X3_width l D ty 2 (by omega)) (va_cwS 1 hts gX3_hashAll_X3_width rfl rfl rfl (by decide +kernel) ⟨Nat.le_of_ble_eq_true rfl, Nat.le_of_ble_eq_true rfl⟩) hK hN hP hD hS hA rfl hl.1 rfl (Nat.le_of_ble_eq_true rfl) dX3_hashAll_39 ⟨Nat.le_of_ble_eq_true rfl, Nat.le_of_ble_eq_true rfl⟩ (fun H locs hP hD hS => ?_)
              refine tg_vi (y := nI (16)) rfl ?_
              refine tg_ge (tgt := 118) hx hb dX3_hashAll_42 (by decide) (by omega) (by omega) (fun c42_3 => ?_) (fun c42_3 => ?_)
              · skip
                obtain rfl : 16 = n := by omega
                refine lv_iinc (v := nI (1)) (lv' := [(2, .int (nI (1))), (0, .ref m0), (1, .int (nI (si))), (3, .int (nI (16)))]) hx hb dX3_hashAll_118 hl (k := 2) rfl (by decide) (by decide) rfl (fun ls hl => ?_)
                refine lv_goto (tgt := 31) hx hb dX3_hashAll_121 (by decide) ?_
                refine lv_iload_n hx hb dX3_hashAll_31 rfl (lv_at hl 0 rfl) ?_
                refine lv_if_lt (tgt := 124) hx hb dX3_hashAll_32 (by decide) (fun c32_4 => ?_) (fun c32_4 => ?_)
                · exact absurd c32_4 (by decide)
                · skip
                  refine lv_iconst (v := nI (0)) hx hb dX3_hashAll_35 (by decide) ?_
                  refine lv_istore_n (lv' := [(3, .int (nI (0))), (2, .int (nI (1))), (0, .ref m0), (1, .int (nI (si)))]) hx hb dX3_hashAll_36 rfl hl (by decide) rfl (fun ls hl => ?_)
                  have hL37 : ∀ (n37 n : Nat) , n ≤ 4 → 4 + 1 ≤ n + n37 → ∀ (H : Heap) (locs : List Loc) (ls : Array Slot), va_P D vwCl [(m0, .inr (3, [.int (cd), .ref m1, .ref m2, .ref m3, .ref m4, .ref m5, .long (tg_rih (tg_ri (tg_rl1 th ms ml mv si ha 64) 5 21 16) 1 5 (tg_rih (tg_rl1 th ms ml mv si ha 64) 5 21 (tg_rh1 th ms ml mv si hh 64) 16) n), .ref m7, .ref m8, .ref m9, .ref m10, .ref m11, .ref m12, .ref m13, .ref m14, .ref m15, .ref m16, .ref m17, .int (mn), .ref m19, .ref m20, .ref m21, .ref m22, .int (c0), .int (c1), .int (c2), .ref m26, .int (gm), .ref m28, .ref m29, .ref m30, .ref m31])), (m1, .inl (ty 2, 512, .inl th)), (m2, .inl (ty 1, 512, .inr (.inl ms))), (m3, .inl (ty 0, 512, .inl ml)), (m4, .inl (ty 1, 512, .inr (.inl mv))), (m5, .inl (ty 1, 85, .inr (.inl (tg_ri (tg_ri (tg_rl1 th ms ml mv si ha 64) 5 21 16) 1 5 n))))] H → va_D AA [(m0, .inr (3, [.int (cd), .ref m1, .ref m2, .ref m3, .ref m4, .ref m5, .long (tg_rih (tg_ri (tg_rl1 th ms ml mv si ha 64) 5 21 16) 1 5 (tg_rih (tg_rl1 th ms ml mv si ha 64) 5 21 (tg_rh1 th ms ml mv si hh 64) 16) n), .ref m7, .ref m8, .ref m9, .ref m10, .ref m11, .ref m12, .ref m13, .ref m14, .ref m15, .ref m16, .ref m17, .int (mn), .ref m19, .ref m20, .ref m21, .ref m22, .int (c0), .int (c1), .int (c2), .ref m26, .int (gm), .ref m28, .ref m29, .ref m30, .ref m31])), (m1, .inl (ty 2, 512, .inl th)), (m2, .inl (ty 1, 512, .inr (.inl ms))), (m3, .inl (ty 0, 512, .inl ml)), (m4, .inl (ty 1, 512, .inr (.inl mv))), (m5, .inl (ty 1, 85, .inr (.inl (tg_ri (tg_ri (tg_rl1 th ms ml mv si ha 64) 5 21 16) 1 5 n))))] → va_S AA ss.heap H locs → lv_has ls 5 [(0, .ref m0), (1, .int (nI (si))), (2, .int (nI (1))), (3, .int (nI (n)))] → W pp l ee rmk_X3_hashAll ss mm args below meth cc H locs 0 0 QQ (F0 mm 37 ls []) := by
                    intro n37
                    induction n37 with
                    | zero => intro n  h1 h2; omega
                    | succ n37 ih37 =>
                      intro n  hi37 hn37  H locs ls hP hD hS hl
                      refine lv_iload_n hx hb dX3_hashAll_37 rfl (lv_at hl 3 rfl) ?_
                      refine lv_iload_n hx hb dX3_hashAll_38 rfl (lv_at hl 2 rfl) ?_
                      refine tg_Si (As := [.int (nI (1))]) (rest := [.int (nI (n))]) ⟨hx, hb, hml, hown, hts⟩ (k_X3_width l D ty 1 (by omega)) (va_cwS 1 hts gX3_hashAll_X3_width rfl rfl rfl (by decide +kernel) ⟨Nat.le_of_ble_eq_true rfl, Nat.le_of_ble_eq_true rfl⟩) hK hN hP hD hS hA rfl hl.1 rfl (Nat.le_of_ble_eq_true rfl) dX3_hashAll_39 ⟨Nat.le_of_ble_eq_true rfl, Nat.le_of_ble_eq_true rfl⟩ (fun H locs hP hD hS => ?_)
                      refine tg_vi (y := nI (4)) rfl ?_
                      refine tg_ge (tgt := 118) hx hb dX3_hashAll_42 (by decide) (by omega) (by omega) (fun c42_5 => ?_) (fun c42_5 => ?_)
                      · skip
                        obtain rfl : 4 = n := by omega
                        refine lv_iinc (v := nI (0)) (lv' := [(2, .int (nI (0))), (0, .ref m0), (1, .int (nI (si))), (3, .int (nI (4)))]) hx hb dX3_hashAll_118 hl (k := 2) rfl (by decide) (by decide) rfl (fun ls hl => ?_)
                        refine lv_goto (tgt := 31) hx hb dX3_hashAll_121 (by decide) ?_
                        refine lv_iload_n hx hb dX3_hashAll_31 rfl (lv_at hl 0 rfl) ?_
                        refine lv_if_lt (tgt := 124) hx hb dX3_hashAll_32 (by decide) (fun c32_6 => ?_) (fun c32_6 => ?_)
                        · exact absurd c32_6 (by decide)
                        · skip
                          refine lv_iconst (v := nI (0)) hx hb dX3_hashAll_35 (by decide) ?_
                          refine lv_istore_n (lv' := [(3, .int (nI (0))), (2, .int (nI (0))), (0, .ref m0), (1, .int (nI (si)))]) hx hb dX3_hashAll_36 rfl hl (by decide) rfl (fun ls hl => ?_)
                          have hL37 : ∀ (n37 n : Nat) , n ≤ 1 → 1 + 1 ≤ n + n37 → ∀ (H : Heap) (locs : List Loc) (ls : Array Slot), va_P D vwCl [(m0, .inr (3, [.int (cd), .ref m1, .ref m2, .ref m3, .ref m4, .ref m5, .long (tg_rih (tg_ri (tg_ri (tg_rl1 th ms ml mv si ha 64) 5 21 16) 1 5 4) 0 1 (tg_rih (tg_ri (tg_rl1 th ms ml mv si ha 64) 5 21 16) 1 5 (tg_rih (tg_rl1 th ms ml mv si ha 64) 5 21 (tg_rh1 th ms ml mv si hh 64) 16) 4) n), .ref m7, .ref m8, .ref m9, .ref m10, .ref m11, .ref m12, .ref m13, .ref m14, .ref m15, .ref m16, .ref m17, .int (mn), .ref m19, .ref m20, .ref m21, .ref m22, .int (c0), .int (c1), .int (c2), .ref m26, .int (gm), .ref m28, .ref m29, .ref m30, .ref m31])), (m1, .inl (ty 2, 512, .inl th)), (m2, .inl (ty 1, 512, .inr (.inl ms))), (m3, .inl (ty 0, 512, .inl ml)), (m4, .inl (ty 1, 512, .inr (.inl mv))), (m5, .inl (ty 1, 85, .inr (.inl (tg_ri (tg_ri (tg_ri (tg_rl1 th ms ml mv si ha 64) 5 21 16) 1 5 4) 0 1 n))))] H → va_D AA [(m0, .inr (3, [.int (cd), .ref m1, .ref m2, .ref m3, .ref m4, .ref m5, .long (tg_rih (tg_ri (tg_ri (tg_rl1 th ms ml mv si ha 64) 5 21 16) 1 5 4) 0 1 (tg_rih (tg_ri (tg_rl1 th ms ml mv si ha 64) 5 21 16) 1 5 (tg_rih (tg_rl1 th ms ml mv si ha 64) 5 21 (tg_rh1 th ms ml mv si hh 64) 16) 4) n), .ref m7, .ref m8, .ref m9, .ref m10, .ref m11, .ref m12, .ref m13, .ref m14, .ref m15, .ref m16, .ref m17, .int (mn), .ref m19, .ref m20, .ref m21, .ref m22, .int (c0), .int (c1), .int (c2), .ref m26, .int (gm), .ref m28, .ref m29, .ref m30, .ref m31])), (m1, .inl (ty 2, 512, .inl th)), (m2, .inl (ty 1, 512, .inr (.inl ms))), (m3, .inl (ty 0, 512, .inl ml)), (m4, .inl (ty 1, 512, .inr (.inl mv))), (m5, .inl (ty 1, 85, .inr (.inl (tg_ri (tg_ri (tg_ri (tg_rl1 th ms ml mv si ha 64) 5 21 16) 1 5 4) 0 1 n))))] → va_S AA ss.heap H locs → lv_has ls 5 [(0, .ref m0), (1, .int (nI (si))), (2, .int (nI (0))), (3, .int (nI (n)))] → W pp l ee rmk_X3_hashAll ss mm args below meth cc H locs 0 0 QQ (F0 mm 37 ls []) := by
                            intro n37
                            induction n37 with
                            | zero => intro n  h1 h2; omega
                            | succ n37 ih37 =>
                              intro n  hi37 hn37  H locs ls hP hD hS hl
                              refine lv_iload_n hx hb dX3_hashAll_37 rfl (lv_at hl 3 rfl) ?_
                              refine lv_iload_n hx hb dX3_hashAll_38 rfl (lv_at hl 2 rfl) ?_
                              refine tg_Si (As := [.int (nI (0))]) (rest := [.int (nI (n))]) ⟨hx, hb, hml, hown, hts⟩ (k_X3_width l D ty 0 (by omega)) (va_cwS 1 hts gX3_hashAll_X3_width rfl rfl rfl (by decide +kernel) ⟨Nat.le_of_ble_eq_true rfl, Nat.le_of_ble_eq_true rfl⟩) hK hN hP hD hS hA rfl hl.1 rfl (Nat.le_of_ble_eq_true rfl) dX3_hashAll_39 ⟨Nat.le_of_ble_eq_true rfl, Nat.le_of_ble_eq_true rfl⟩ (fun H locs hP hD hS => ?_)
                              refine tg_vi (y := nI (1)) rfl ?_
                              refine tg_ge (tgt := 118) hx hb dX3_hashAll_42 (by decide) (by omega) (by omega) (fun c42_7 => ?_) (fun c42_7 => ?_)
                              · skip
                                obtain rfl : 1 = n := by omega
                                refine lv_iinc (v := -1) (lv' := [(2, .int (-1)), (0, .ref m0), (1, .int (nI (si))), (3, .int (nI (1)))]) hx hb dX3_hashAll_118 hl (k := 2) rfl (by decide) (by decide) rfl (fun ls hl => ?_)
                                refine lv_goto (tgt := 31) hx hb dX3_hashAll_121 (by decide) ?_
                                refine lv_iload_n hx hb dX3_hashAll_31 rfl (lv_at hl 0 rfl) ?_
                                refine lv_if_lt (tgt := 124) hx hb dX3_hashAll_32 (by decide) (fun c32_8 => ?_) (fun c32_8 => ?_)
                                · skip
                                  exact hret _ _ 124 _ () hP hD hS dX3_hashAll_124
                                · exact absurd (by decide) c32_8
                              · skip
                                refine lv_aload_n hx hb dX3_hashAll_45 rfl (lv_at hl 0 rfl) ?_
                                refine lv_ldc2 (v := 5903417617427348583) hx hb hown (hts (.constantLong RX3 124 (5903417617427348583)) (by decide +kernel)) dX3_hashAll_46 ?_
                                refine tg_put (ci := 3) (v := .long (5903417617427348583)) (ft := .long) (C := RX3) (T := TX3) (N := 32) hx hb hts hinX3 tyX3 tyX3_ok nmX3 hown hK hP hD hS 0 rfl rfl 6 (by decide) (hts (.fieldLink RX3 114 "TreeGossipModel" "h" "J") (by decide +kernel)) (fun _ h9 => h9) rfl (by decide +kernel) rfl rfl (Nat.le_of_ble_eq_true rfl) dX3_hashAll_49 (ws' := [(m0, .inr (3, [.int (cd), .ref m1, .ref m2, .ref m3, .ref m4, .ref m5, .long (5903417617427348583), .ref m7, .ref m8, .ref m9, .ref m10, .ref m11, .ref m12, .ref m13, .ref m14, .ref m15, .ref m16, .ref m17, .int (mn), .ref m19, .ref m20, .ref m21, .ref m22, .int (c0), .int (c1), .int (c2), .ref m26, .int (gm), .ref m28, .ref m29, .ref m30, .ref m31])), (m1, .inl (ty 2, 512, .inl th)), (m2, .inl (ty 1, 512, .inr (.inl ms))), (m3, .inl (ty 0, 512, .inl ml)), (m4, .inl (ty 1, 512, .inr (.inl mv))), (m5, .inl (ty 1, 85, .inr (.inl (tg_ri (tg_ri (tg_ri (tg_rl1 th ms ml mv si ha 64) 5 21 16) 1 5 4) 0 1 n))))]) rfl (fun H locs hP hD hS => ?_)
                                refine lv_iconst (v := nI (0)) hx hb dX3_hashAll_52 (by decide) ?_
                                refine lv_istore (lv' := [(4, .int (nI (0))), (0, .ref m0), (1, .int (nI (si))), (2, .int (nI (0))), (3, .int (nI (n)))]) hx hb dX3_hashAll_53 hl (by decide) rfl (fun ls hl => ?_)
                                have hL55 : ∀ (n55 cx : Nat) , cx ≤ 4 → 4 + 1 ≤ cx + n55 → ∀ (H : Heap) (locs : List Loc) (ls : Array Slot), va_P D vwCl [(m0, .inr (3, [.int (cd), .ref m1, .ref m2, .ref m3, .ref m4, .ref m5, .long (tg_ic (tg_ri (tg_ri (tg_ri (tg_rl1 th ms ml mv si ha 64) 5 21 16) 1 5 4) 0 1 n) (1 + 4 * n) cx), .ref m7, .ref m8, .ref m9, .ref m10, .ref m11, .ref m12, .ref m13, .ref m14, .ref m15, .ref m16, .ref m17, .int (mn), .ref m19, .ref m20, .ref m21, .ref m22, .int (c0), .int (c1), .int (c2), .ref m26, .int (gm), .ref m28, .ref m29, .ref m30, .ref m31])), (m1, .inl (ty 2, 512, .inl th)), (m2, .inl (ty 1, 512, .inr (.inl ms))), (m3, .inl (ty 0, 512, .inl ml)), (m4, .inl (ty 1, 512, .inr (.inl mv))), (m5, .inl (ty 1, 85, .inr (.inl (tg_ri (tg_ri (tg_ri (tg_rl1 th ms ml mv si ha 64) 5 21 16) 1 5 4) 0 1 n))))] H → va_D AA [(m0, .inr (3, [.int (cd), .ref m1, .ref m2, .ref m3, .ref m4, .ref m5, .long (tg_ic (tg_ri (tg_ri (tg_ri (tg_rl1 th ms ml mv si ha 64) 5 21 16) 1 5 4) 0 1 n) (1 + 4 * n) cx), .ref m7, .ref m8, .ref m9, .ref m10, .ref m11, .ref m12, .ref m13, .ref m14, .ref m15, .ref m16, .ref m17, .int (mn), .ref m19, .ref m20, .ref m21, .ref m22, .int (c0), .int (c1), .int (c2), .ref m26, .int (gm), .ref m28, .ref m29, .ref m30, .ref m31])), (m1, .inl (ty 2, 512, .inl th)), (m2, .inl (ty 1, 512, .inr (.inl ms))), (m3, .inl (ty 0, 512, .inl ml)), (m4, .inl (ty 1, 512, .inr (.inl mv))), (m5, .inl (ty 1, 85, .inr (.inl (tg_ri (tg_ri (tg_ri (tg_rl1 th ms ml mv si ha 64) 5 21 16) 1 5 4) 0 1 n))))] → va_S AA ss.heap H locs → lv_has ls 5 [(0, .ref m0), (1, .int (nI (si))), (2, .int (nI (0))), (3, .int (nI (n))), (4, .int (nI (cx)))] → W pp l ee rmk_X3_hashAll ss mm args below meth cc H locs 0 0 QQ (F0 mm 55 ls []) := by
                                  intro n55
                                  induction n55 with
                                  | zero => intro cx  h1 h2; omega
                                  | succ n55 ih55 =>
                                    intro cx  hi55 hn55  H locs ls hP hD hS hl
                                    refine lv_iload hx hb dX3_hashAll_55 (lv_at hl 4 rfl) ?_
                                    refine lv_iconst (v := nI (4)) hx hb dX3_hashAll_57 (by decide) ?_
                                    refine tg_ge (tgt := 89) hx hb dX3_hashAll_58 (by decide) (by omega) (by omega) (fun c58_9 => ?_) (fun c58_9 => ?_)
                                    · skip
                                      obtain rfl : 4 = cx := by omega
                                      refine lv_aload_n hx hb dX3_hashAll_89 rfl (lv_at hl 0 rfl) ?_
                                      refine va_get (D := D) (ci := 3) (v := .ref m5) (C := RX3) (T := TX3) (N := 32) hx hb hts hinX3 hown hK hP 0 rfl rfl 5 (by decide) (hts (.fieldLink RX3 24 "TreeGossipModel" "hashes" "[J") (by decide +kernel)) (fun _ h9 => h9) rfl dX3_hashAll_90 ?_
                                      refine lv_iload_n hx hb dX3_hashAll_93 rfl (lv_at hl 2 rfl) ?_
                                      refine tg_Si (As := [.int (nI (0))]) (rest := [.ref m5]) ⟨hx, hb, hml, hown, hts⟩ (k_X3_begin l D ty 0 (by omega)) (va_cwS 1 hts gX3_hashAll_X3_begin rfl rfl rfl (by decide +kernel) ⟨Nat.le_of_ble_eq_true rfl, Nat.le_of_ble_eq_true rfl⟩) hK hN hP hD hS hA rfl hl.1 rfl (Nat.le_of_ble_eq_true rfl) dX3_hashAll_94 ⟨Nat.le_of_ble_eq_true rfl, Nat.le_of_ble_eq_true rfl⟩ (fun H locs hP hD hS => ?_)
                                      refine tg_vi (y := nI (0)) rfl ?_
                                      refine lv_iload_n hx hb dX3_hashAll_97 rfl (lv_at hl 3 rfl) ?_
                                      refine lv_iadd hx hb dX3_hashAll_98 ?_
                                      refine tg_vi (nI_add _ _) ?_
                                      refine lv_aload_n hx hb dX3_hashAll_99 rfl (lv_at hl 0 rfl) ?_
                                      refine va_get (D := D) (ci := 3) (v := .long (tg_ic (tg_ri (tg_ri (tg_ri (tg_rl1 th ms ml mv si ha 64) 5 21 16) 1 5 4) 0 1 n) (1 + 4 * n) 4)) (C := RX3) (T := TX3) (N := 32) hx hb hts hinX3 hown hK hP 0 rfl rfl 6 (by decide) (hts (.fieldLink RX3 114 "TreeGossipModel" "h" "J") (by decide +kernel)) (fun _ h9 => h9) rfl dX3_hashAll_100 ?_
                                      refine lv_aload_n hx hb dX3_hashAll_103 rfl (lv_at hl 0 rfl) ?_
                                      refine va_get (D := D) (ci := 3) (v := .long (tg_ic (tg_ri (tg_ri (tg_ri (tg_rl1 th ms ml mv si ha 64) 5 21 16) 1 5 4) 0 1 n) (1 + 4 * n) 4)) (C := RX3) (T := TX3) (N := 32) hx hb hts hinX3 hown hK hP 0 rfl rfl 6 (by decide) (hts (.fieldLink RX3 114 "TreeGossipModel" "h" "J") (by decide +kernel)) (fun _ h9 => h9) rfl dX3_hashAll_104 ?_
                                      refine lv_bipush (v := nI (31)) hx hb dX3_hashAll_107 (by decide) ?_
                                      refine lv_lushr (v := tg_lu (tg_ic (tg_ri (tg_ri (tg_ri (tg_rl1 th ms ml mv si ha 64) 5 21 16) 1 5 4) 0 1 n) (1 + 4 * n) 4) (nI (31))) hx hb dX3_hashAll_109 rfl ?_
                                      refine lv_lxor hx hb dX3_hashAll_110 ?_
                                      refine tg_last hx hb hK hP hD hS 5 rfl (k := 0 + n) (by omega) (by decide) dX3_hashAll_111 (ws' := [(m0, .inr (3, [.int (cd), .ref m1, .ref m2, .ref m3, .ref m4, .ref m5, .long (tg_ic (tg_ri (tg_ri (tg_ri (tg_rl1 th ms ml mv si ha 64) 5 21 16) 1 5 4) 0 1 n) (1 + 4 * n) 4), .ref m7, .ref m8, .ref m9, .ref m10, .ref m11, .ref m12, .ref m13, .ref m14, .ref m15, .ref m16, .ref m17, .int (mn), .ref m19, .ref m20, .ref m21, .ref m22, .int (c0), .int (c1), .int (c2), .ref m26, .int (gm), .ref m28, .ref m29, .ref m30, .ref m31])), (m1, .inl (ty 2, 512, .inl th)), (m2, .inl (ty 1, 512, .inr (.inl ms))), (m3, .inl (ty 0, 512, .inl ml)), (m4, .inl (ty 1, 512, .inr (.inl mv))), (m5, .inl (ty 1, 85, .inr (.inl (vp_updL (tg_ri (tg_ri (tg_ri (tg_rl1 th ms ml mv si ha 64) 5 21 16) 1 5 4) 0 1 n) (0 + n) ((tg_ic (tg_ri (tg_ri (tg_ri (tg_rl1 th ms ml mv si ha 64) 5 21 16) 1 5 4) 0 1 n) (1 + 4 * n) 4) ^^^ (tg_lu (tg_ic (tg_ri (tg_ri (tg_ri (tg_rl1 th ms ml mv si ha 64) 5 21 16) 1 5 4) 0 1 n) (1 + 4 * n) 4) (nI (31))))))))]) rfl (fun H locs hP hD hS => ?_)
                                      refine lv_iinc (v := nI (n + 1)) (lv' := [(3, .int (nI (n + 1))), (0, .ref m0), (1, .int (nI (si))), (2, .int (nI (0))), (4, .int (nI (4)))]) hx hb dX3_hashAll_112 hl (k := 3) rfl (tg_inc1 _) (by decide) rfl (fun ls hl => ?_)
                                      refine lv_goto (tgt := 37) hx hb dX3_hashAll_115 (by decide) ?_
                                      exact ih37 (n + 1) (by omega) (by omega)  _ _ _ hP hD hS (lv_sub hl [1, 2, 3, 0] rfl)
                                    · skip
                                      refine lv_aload_n hx hb dX3_hashAll_61 rfl (lv_at hl 0 rfl) ?_
                                      refine lv_aload_n hx hb dX3_hashAll_62 rfl (lv_at hl 0 rfl) ?_
                                      refine va_get (D := D) (ci := 3) (v := .ref m5) (C := RX3) (T := TX3) (N := 32) hx hb hts hinX3 hown hK hP 0 rfl rfl 5 (by decide) (hts (.fieldLink RX3 24 "TreeGossipModel" "hashes" "[J") (by decide +kernel)) (fun _ h9 => h9) rfl dX3_hashAll_63 ?_
                                      refine lv_iload_n hx hb dX3_hashAll_66 rfl (lv_at hl 2 rfl) ?_
                                      refine lv_iconst (v := nI (1)) hx hb dX3_hashAll_67 (by decide) ?_
                                      refine lv_iadd hx hb dX3_hashAll_68 ?_
                                      refine tg_vi (y := nI 1) (by decide) ?_
                                      refine tg_Si (As := [.int (nI (1))]) (rest := [.ref m5, .ref m0]) ⟨hx, hb, hml, hown, hts⟩ (k_X3_begin l D ty 1 (by omega)) (va_cwS 1 hts gX3_hashAll_X3_begin rfl rfl rfl (by decide +kernel) ⟨Nat.le_of_ble_eq_true rfl, Nat.le_of_ble_eq_true rfl⟩) hK hN hP hD hS hA rfl hl.1 rfl (Nat.le_of_ble_eq_true rfl) dX3_hashAll_69 ⟨Nat.le_of_ble_eq_true rfl, Nat.le_of_ble_eq_true rfl⟩ (fun H locs hP hD hS => ?_)
                                      refine tg_vi (y := nI (1)) rfl ?_
                                      refine lv_iconst (v := nI (4)) hx hb dX3_hashAll_72 (by decide) ?_
                                      refine lv_iload_n hx hb dX3_hashAll_73 rfl (lv_at hl 3 rfl) ?_
                                      refine lv_imul hx hb dX3_hashAll_74 ?_
                                      refine tg_vi (pk_mul _ _) ?_
                                      refine lv_iadd hx hb dX3_hashAll_75 ?_
                                      refine tg_vi (nI_add _ _) ?_
                                      refine lv_iload hx hb dX3_hashAll_76 (lv_at hl 4 rfl) ?_
                                      refine lv_iadd hx hb dX3_hashAll_78 ?_
                                      refine tg_vi (nI_add _ _) ?_
                                      refine tg_lald hx hb hK hP 5 rfl (f := tg_ri (tg_ri (tg_ri (tg_rl1 th ms ml mv si ha 64) 5 21 16) 1 5 4) 0 1 n) (k := (1 + (4 * n)) + cx) (by omega) (by decide) dX3_hashAll_79 ?_
                                      refine tg_Vv (As := [.long ((tg_ri (tg_ri (tg_ri (tg_rl1 th ms ml mv si ha 64) 5 21 16) 1 5 4) 0 1 n) ((1 + (4 * n)) + cx))]) (rest := []) (wr := [(m1, .inl (ty 2, 512, .inl th)), (m2, .inl (ty 1, 512, .inr (.inl ms))), (m3, .inl (ty 0, 512, .inl ml)), (m4, .inl (ty 1, 512, .inr (.inl mv))), (m5, .inl (ty 1, 85, .inr (.inl (tg_ri (tg_ri (tg_ri (tg_rl1 th ms ml mv si ha 64) 5 21 16) 1 5 4) 0 1 n))))]) (w2 := [(m0, .inr (3, [.int (cd), .ref m1, .ref m2, .ref m3, .ref m4, .ref m5, .long (tg_ml8 (tg_ic (tg_ri (tg_ri (tg_ri (tg_rl1 th ms ml mv si ha 64) 5 21 16) 1 5 4) 0 1 n) (1 + 4 * n) cx) ((tg_ri (tg_ri (tg_ri (tg_rl1 th ms ml mv si ha 64) 5 21 16) 1 5 4) 0 1 n) ((1 + (4 * n)) + cx)) 8), .ref m7, .ref m8, .ref m9, .ref m10, .ref m11, .ref m12, .ref m13, .ref m14, .ref m15, .ref m16, .ref m17, .int (mn), .ref m19, .ref m20, .ref m21, .ref m22, .int (c0), .int (c1), .int (c2), .ref m26, .int (gm), .ref m28, .ref m29, .ref m30, .ref m31])), (m1, .inl (ty 2, 512, .inl th)), (m2, .inl (ty 1, 512, .inr (.inl ms))), (m3, .inl (ty 0, 512, .inl ml)), (m4, .inl (ty 1, 512, .inr (.inl mv))), (m5, .inl (ty 1, 85, .inr (.inl (tg_ri (tg_ri (tg_ri (tg_rl1 th ms ml mv si ha 64) 5 21 16) 1 5 4) 0 1 n))))]) ⟨hx, hb, hml, hown, hts⟩ (k_X3_mixLong l D ty m0 m1 m2 m3 m4 m5 m7 m8 m9 m10 m11 m12 m13 m14 m15 m16 m17 m19 m20 m21 m22 m26 m28 m29 m30 m31 cd (tg_ic (tg_ri (tg_ri (tg_ri (tg_rl1 th ms ml mv si ha 64) 5 21 16) 1 5 4) 0 1 n) (1 + 4 * n) cx) mn c0 c1 c2 gm ((tg_ri (tg_ri (tg_ri (tg_rl1 th ms ml mv si ha 64) 5 21 16) 1 5 4) 0 1 n) ((1 + (4 * n)) + cx)) ) (cwV 1 hts gX3_hashAll_X3_mixLong rfl rfl rfl (by decide +kernel) ⟨Nat.le_of_ble_eq_true rfl, Nat.le_of_ble_eq_true rfl⟩) hK hN hP hD hS hA [0] [1, 2, 3, 4, 5] [5, 0, 1, 2, 3, 4] 0 3 rfl rfl rfl rfl rfl rfl rfl (by decide) rfl hl.1 rfl (Nat.le_of_ble_eq_true rfl) dX3_hashAll_80 rfl rfl ⟨Nat.le_of_ble_eq_true rfl, Nat.le_of_ble_eq_true rfl⟩ (fun H locs hP hD hS => ?_)
                                      refine lv_iinc (v := nI (cx + 1)) (lv' := [(4, .int (nI (cx + 1))), (0, .ref m0), (1, .int (nI (si))), (2, .int (nI (0))), (3, .int (nI (n)))]) hx hb dX3_hashAll_83 hl (k := 4) rfl (tg_inc1 _) (by decide) rfl (fun ls hl => ?_)
                                      refine lv_goto (tgt := 55) hx hb dX3_hashAll_86 (by decide) ?_
                                      exact ih55 (cx + 1) (by omega) (by omega)  _ _ _ hP hD hS (lv_sub hl [1, 2, 3, 4, 0] rfl)
                                exact hL55 (4 + 1) 0 (by omega) (by omega)  _ _ _ hP hD hS (lv_sub hl [1, 2, 3, 4, 0] rfl)
                          exact hL37 (1 + 1) 0 (by omega) (by omega)  _ _ _ hP hD hS (lv_sub hl [2, 3, 1, 0] rfl)
                      · skip
                        refine lv_aload_n hx hb dX3_hashAll_45 rfl (lv_at hl 0 rfl) ?_
                        refine lv_ldc2 (v := 5903417617427348583) hx hb hown (hts (.constantLong RX3 124 (5903417617427348583)) (by decide +kernel)) dX3_hashAll_46 ?_
                        refine tg_put (ci := 3) (v := .long (5903417617427348583)) (ft := .long) (C := RX3) (T := TX3) (N := 32) hx hb hts hinX3 tyX3 tyX3_ok nmX3 hown hK hP hD hS 0 rfl rfl 6 (by decide) (hts (.fieldLink RX3 114 "TreeGossipModel" "h" "J") (by decide +kernel)) (fun _ h9 => h9) rfl (by decide +kernel) rfl rfl (Nat.le_of_ble_eq_true rfl) dX3_hashAll_49 (ws' := [(m0, .inr (3, [.int (cd), .ref m1, .ref m2, .ref m3, .ref m4, .ref m5, .long (5903417617427348583), .ref m7, .ref m8, .ref m9, .ref m10, .ref m11, .ref m12, .ref m13, .ref m14, .ref m15, .ref m16, .ref m17, .int (mn), .ref m19, .ref m20, .ref m21, .ref m22, .int (c0), .int (c1), .int (c2), .ref m26, .int (gm), .ref m28, .ref m29, .ref m30, .ref m31])), (m1, .inl (ty 2, 512, .inl th)), (m2, .inl (ty 1, 512, .inr (.inl ms))), (m3, .inl (ty 0, 512, .inl ml)), (m4, .inl (ty 1, 512, .inr (.inl mv))), (m5, .inl (ty 1, 85, .inr (.inl (tg_ri (tg_ri (tg_rl1 th ms ml mv si ha 64) 5 21 16) 1 5 n))))]) rfl (fun H locs hP hD hS => ?_)
                        refine lv_iconst (v := nI (0)) hx hb dX3_hashAll_52 (by decide) ?_
                        refine lv_istore (lv' := [(4, .int (nI (0))), (0, .ref m0), (1, .int (nI (si))), (2, .int (nI (1))), (3, .int (nI (n)))]) hx hb dX3_hashAll_53 hl (by decide) rfl (fun ls hl => ?_)
                        have hL55 : ∀ (n55 cx : Nat) , cx ≤ 4 → 4 + 1 ≤ cx + n55 → ∀ (H : Heap) (locs : List Loc) (ls : Array Slot), va_P D vwCl [(m0, .inr (3, [.int (cd), .ref m1, .ref m2, .ref m3, .ref m4, .ref m5, .long (tg_ic (tg_ri (tg_ri (tg_rl1 th ms ml mv si ha 64) 5 21 16) 1 5 n) (5 + 4 * n) cx), .ref m7, .ref m8, .ref m9, .ref m10, .ref m11, .ref m12, .ref m13, .ref m14, .ref m15, .ref m16, .ref m17, .int (mn), .ref m19, .ref m20, .ref m21, .ref m22, .int (c0), .int (c1), .int (c2), .ref m26, .int (gm), .ref m28, .ref m29, .ref m30, .ref m31])), (m1, .inl (ty 2, 512, .inl th)), (m2, .inl (ty 1, 512, .inr (.inl ms))), (m3, .inl (ty 0, 512, .inl ml)), (m4, .inl (ty 1, 512, .inr (.inl mv))), (m5, .inl (ty 1, 85, .inr (.inl (tg_ri (tg_ri (tg_rl1 th ms ml mv si ha 64) 5 21 16) 1 5 n))))] H → va_D AA [(m0, .inr (3, [.int (cd), .ref m1, .ref m2, .ref m3, .ref m4, .ref m5, .long (tg_ic (tg_ri (tg_ri (tg_rl1 th ms ml mv si ha 64) 5 21 16) 1 5 n) (5 + 4 * n) cx), .ref m7, .ref m8, .ref m9, .ref m10, .ref m11, .ref m12, .ref m13, .ref m14, .ref m15, .ref m16, .ref m17, .int (mn), .ref m19, .ref m20, .ref m21, .ref m22, .int (c0), .int (c1), .int (c2), .ref m26, .int (gm), .ref m28, .ref m29, .ref m30, .ref m31])), (m1, .inl (ty 2, 512, .inl th)), (m2, .inl (ty 1, 512, .inr (.inl ms))), (m3, .inl (ty 0, 512, .inl ml)), (m4, .inl (ty 1, 512, .inr (.inl mv))), (m5, .inl (ty 1, 85, .inr (.inl (tg_ri (tg_ri (tg_rl1 th ms ml mv si ha 64) 5 21 16) 1 5 n))))] → va_S AA ss.heap H locs → lv_has ls 5 [(0, .ref m0), (1, .int (nI (si))), (2, .int (nI (1))), (3, .int (nI (n))), (4, .int (nI (cx)))] → W pp l ee rmk_X3_hashAll ss mm args below meth cc H locs 0 0 QQ (F0 mm 55 ls []) := by
                          intro n55
                          induction n55 with
                          | zero => intro cx  h1 h2; omega
                          | succ n55 ih55 =>
                            intro cx  hi55 hn55  H locs ls hP hD hS hl
                            refine lv_iload hx hb dX3_hashAll_55 (lv_at hl 4 rfl) ?_
                            refine lv_iconst (v := nI (4)) hx hb dX3_hashAll_57 (by decide) ?_
                            refine tg_ge (tgt := 89) hx hb dX3_hashAll_58 (by decide) (by omega) (by omega) (fun c58_10 => ?_) (fun c58_10 => ?_)
                            · skip
                              obtain rfl : 4 = cx := by omega
                              refine lv_aload_n hx hb dX3_hashAll_89 rfl (lv_at hl 0 rfl) ?_
                              refine va_get (D := D) (ci := 3) (v := .ref m5) (C := RX3) (T := TX3) (N := 32) hx hb hts hinX3 hown hK hP 0 rfl rfl 5 (by decide) (hts (.fieldLink RX3 24 "TreeGossipModel" "hashes" "[J") (by decide +kernel)) (fun _ h9 => h9) rfl dX3_hashAll_90 ?_
                              refine lv_iload_n hx hb dX3_hashAll_93 rfl (lv_at hl 2 rfl) ?_
                              refine tg_Si (As := [.int (nI (1))]) (rest := [.ref m5]) ⟨hx, hb, hml, hown, hts⟩ (k_X3_begin l D ty 1 (by omega)) (va_cwS 1 hts gX3_hashAll_X3_begin rfl rfl rfl (by decide +kernel) ⟨Nat.le_of_ble_eq_true rfl, Nat.le_of_ble_eq_true rfl⟩) hK hN hP hD hS hA rfl hl.1 rfl (Nat.le_of_ble_eq_true rfl) dX3_hashAll_94 ⟨Nat.le_of_ble_eq_true rfl, Nat.le_of_ble_eq_true rfl⟩ (fun H locs hP hD hS => ?_)
                              refine tg_vi (y := nI (1)) rfl ?_
                              refine lv_iload_n hx hb dX3_hashAll_97 rfl (lv_at hl 3 rfl) ?_
                              refine lv_iadd hx hb dX3_hashAll_98 ?_
                              refine tg_vi (nI_add _ _) ?_
                              refine lv_aload_n hx hb dX3_hashAll_99 rfl (lv_at hl 0 rfl) ?_
                              refine va_get (D := D) (ci := 3) (v := .long (tg_ic (tg_ri (tg_ri (tg_rl1 th ms ml mv si ha 64) 5 21 16) 1 5 n) (5 + 4 * n) 4)) (C := RX3) (T := TX3) (N := 32) hx hb hts hinX3 hown hK hP 0 rfl rfl 6 (by decide) (hts (.fieldLink RX3 114 "TreeGossipModel" "h" "J") (by decide +kernel)) (fun _ h9 => h9) rfl dX3_hashAll_100 ?_
                              refine lv_aload_n hx hb dX3_hashAll_103 rfl (lv_at hl 0 rfl) ?_
                              refine va_get (D := D) (ci := 3) (v := .long (tg_ic (tg_ri (tg_ri (tg_rl1 th ms ml mv si ha 64) 5 21 16) 1 5 n) (5 + 4 * n) 4)) (C := RX3) (T := TX3) (N := 32) hx hb hts hinX3 hown hK hP 0 rfl rfl 6 (by decide) (hts (.fieldLink RX3 114 "TreeGossipModel" "h" "J") (by decide +kernel)) (fun _ h9 => h9) rfl dX3_hashAll_104 ?_
                              refine lv_bipush (v := nI (31)) hx hb dX3_hashAll_107 (by decide) ?_
                              refine lv_lushr (v := tg_lu (tg_ic (tg_ri (tg_ri (tg_rl1 th ms ml mv si ha 64) 5 21 16) 1 5 n) (5 + 4 * n) 4) (nI (31))) hx hb dX3_hashAll_109 rfl ?_
                              refine lv_lxor hx hb dX3_hashAll_110 ?_
                              refine tg_last hx hb hK hP hD hS 5 rfl (k := 1 + n) (by omega) (by decide) dX3_hashAll_111 (ws' := [(m0, .inr (3, [.int (cd), .ref m1, .ref m2, .ref m3, .ref m4, .ref m5, .long (tg_ic (tg_ri (tg_ri (tg_rl1 th ms ml mv si ha 64) 5 21 16) 1 5 n) (5 + 4 * n) 4), .ref m7, .ref m8, .ref m9, .ref m10, .ref m11, .ref m12, .ref m13, .ref m14, .ref m15, .ref m16, .ref m17, .int (mn), .ref m19, .ref m20, .ref m21, .ref m22, .int (c0), .int (c1), .int (c2), .ref m26, .int (gm), .ref m28, .ref m29, .ref m30, .ref m31])), (m1, .inl (ty 2, 512, .inl th)), (m2, .inl (ty 1, 512, .inr (.inl ms))), (m3, .inl (ty 0, 512, .inl ml)), (m4, .inl (ty 1, 512, .inr (.inl mv))), (m5, .inl (ty 1, 85, .inr (.inl (vp_updL (tg_ri (tg_ri (tg_rl1 th ms ml mv si ha 64) 5 21 16) 1 5 n) (1 + n) ((tg_ic (tg_ri (tg_ri (tg_rl1 th ms ml mv si ha 64) 5 21 16) 1 5 n) (5 + 4 * n) 4) ^^^ (tg_lu (tg_ic (tg_ri (tg_ri (tg_rl1 th ms ml mv si ha 64) 5 21 16) 1 5 n) (5 + 4 * n) 4) (nI (31))))))))]) rfl (fun H locs hP hD hS => ?_)
                              refine lv_iinc (v := nI (n + 1)) (lv' := [(3, .int (nI (n + 1))), (0, .ref m0), (1, .int (nI (si))), (2, .int (nI (1))), (4, .int (nI (4)))]) hx hb dX3_hashAll_112 hl (k := 3) rfl (tg_inc1 _) (by decide) rfl (fun ls hl => ?_)
                              refine lv_goto (tgt := 37) hx hb dX3_hashAll_115 (by decide) ?_
                              exact ih37 (n + 1) (by omega) (by omega)  _ _ _ hP hD hS (lv_sub hl [1, 2, 3, 0] rfl)
                            · skip
                              refine lv_aload_n hx hb dX3_hashAll_61 rfl (lv_at hl 0 rfl) ?_
                              refine lv_aload_n hx hb dX3_hashAll_62 rfl (lv_at hl 0 rfl) ?_
                              refine va_get (D := D) (ci := 3) (v := .ref m5) (C := RX3) (T := TX3) (N := 32) hx hb hts hinX3 hown hK hP 0 rfl rfl 5 (by decide) (hts (.fieldLink RX3 24 "TreeGossipModel" "hashes" "[J") (by decide +kernel)) (fun _ h9 => h9) rfl dX3_hashAll_63 ?_
                              refine lv_iload_n hx hb dX3_hashAll_66 rfl (lv_at hl 2 rfl) ?_
                              refine lv_iconst (v := nI (1)) hx hb dX3_hashAll_67 (by decide) ?_
                              refine lv_iadd hx hb dX3_hashAll_68 ?_
                              refine tg_vi (y := nI 2) (by decide) ?_
                              refine tg_Si (As := [.int (nI (2))]) (rest := [.ref m5, .ref m0]) ⟨hx, hb, hml, hown, hts⟩ (k_X3_begin l D ty 2 (by omega)) (va_cwS 1 hts gX3_hashAll_X3_begin rfl rfl rfl (by decide +kernel) ⟨Nat.le_of_ble_eq_true rfl, Nat.le_of_ble_eq_true rfl⟩) hK hN hP hD hS hA rfl hl.1 rfl (Nat.le_of_ble_eq_true rfl) dX3_hashAll_69 ⟨Nat.le_of_ble_eq_true rfl, Nat.le_of_ble_eq_true rfl⟩ (fun H locs hP hD hS => ?_)
                              refine tg_vi (y := nI (5)) rfl ?_
                              refine lv_iconst (v := nI (4)) hx hb dX3_hashAll_72 (by decide) ?_
                              refine lv_iload_n hx hb dX3_hashAll_73 rfl (lv_at hl 3 rfl) ?_
                              refine lv_imul hx hb dX3_hashAll_74 ?_
                              refine tg_vi (pk_mul _ _) ?_
                              refine lv_iadd hx hb dX3_hashAll_75 ?_
                              refine tg_vi (nI_add _ _) ?_
                              refine lv_iload hx hb dX3_hashAll_76 (lv_at hl 4 rfl) ?_
                              refine lv_iadd hx hb dX3_hashAll_78 ?_
                              refine tg_vi (nI_add _ _) ?_
                              refine tg_lald hx hb hK hP 5 rfl (f := tg_ri (tg_ri (tg_rl1 th ms ml mv si ha 64) 5 21 16) 1 5 n) (k := (5 + (4 * n)) + cx) (by omega) (by decide) dX3_hashAll_79 ?_
                              refine tg_Vv (As := [.long ((tg_ri (tg_ri (tg_rl1 th ms ml mv si ha 64) 5 21 16) 1 5 n) ((5 + (4 * n)) + cx))]) (rest := []) (wr := [(m1, .inl (ty 2, 512, .inl th)), (m2, .inl (ty 1, 512, .inr (.inl ms))), (m3, .inl (ty 0, 512, .inl ml)), (m4, .inl (ty 1, 512, .inr (.inl mv))), (m5, .inl (ty 1, 85, .inr (.inl (tg_ri (tg_ri (tg_rl1 th ms ml mv si ha 64) 5 21 16) 1 5 n))))]) (w2 := [(m0, .inr (3, [.int (cd), .ref m1, .ref m2, .ref m3, .ref m4, .ref m5, .long (tg_ml8 (tg_ic (tg_ri (tg_ri (tg_rl1 th ms ml mv si ha 64) 5 21 16) 1 5 n) (5 + 4 * n) cx) ((tg_ri (tg_ri (tg_rl1 th ms ml mv si ha 64) 5 21 16) 1 5 n) ((5 + (4 * n)) + cx)) 8), .ref m7, .ref m8, .ref m9, .ref m10, .ref m11, .ref m12, .ref m13, .ref m14, .ref m15, .ref m16, .ref m17, .int (mn), .ref m19, .ref m20, .ref m21, .ref m22, .int (c0), .int (c1), .int (c2), .ref m26, .int (gm), .ref m28, .ref m29, .ref m30, .ref m31])), (m1, .inl (ty 2, 512, .inl th)), (m2, .inl (ty 1, 512, .inr (.inl ms))), (m3, .inl (ty 0, 512, .inl ml)), (m4, .inl (ty 1, 512, .inr (.inl mv))), (m5, .inl (ty 1, 85, .inr (.inl (tg_ri (tg_ri (tg_rl1 th ms ml mv si ha 64) 5 21 16) 1 5 n))))]) ⟨hx, hb, hml, hown, hts⟩ (k_X3_mixLong l D ty m0 m1 m2 m3 m4 m5 m7 m8 m9 m10 m11 m12 m13 m14 m15 m16 m17 m19 m20 m21 m22 m26 m28 m29 m30 m31 cd (tg_ic (tg_ri (tg_ri (tg_rl1 th ms ml mv si ha 64) 5 21 16) 1 5 n) (5 + 4 * n) cx) mn c0 c1 c2 gm ((tg_ri (tg_ri (tg_rl1 th ms ml mv si ha 64) 5 21 16) 1 5 n) ((5 + (4 * n)) + cx)) ) (cwV 1 hts gX3_hashAll_X3_mixLong rfl rfl rfl (by decide +kernel) ⟨Nat.le_of_ble_eq_true rfl, Nat.le_of_ble_eq_true rfl⟩) hK hN hP hD hS hA [0] [1, 2, 3, 4, 5] [5, 0, 1, 2, 3, 4] 0 3 rfl rfl rfl rfl rfl rfl rfl (by decide) rfl hl.1 rfl (Nat.le_of_ble_eq_true rfl) dX3_hashAll_80 rfl rfl ⟨Nat.le_of_ble_eq_true rfl, Nat.le_of_ble_eq_true rfl⟩ (fun H locs hP hD hS => ?_)
                              refine lv_iinc (v := nI (cx + 1)) (lv' := [(4, .int (nI (cx + 1))), (0, .ref m0), (1, .int (nI (si))), (2, .int (nI (1))), (3, .int (nI (n)))]) hx hb dX3_hashAll_83 hl (k := 4) rfl (tg_inc1 _) (by decide) rfl (fun ls hl => ?_)
                              refine lv_goto (tgt := 55) hx hb dX3_hashAll_86 (by decide) ?_
                              exact ih55 (cx + 1) (by omega) (by omega)  _ _ _ hP hD hS (lv_sub hl [1, 2, 3, 4, 0] rfl)
                        exact hL55 (4 + 1) 0 (by omega) (by omega)  _ _ _ hP hD hS (lv_sub hl [1, 2, 3, 4, 0] rfl)
                  exact hL37 (4 + 1) 0 (by omega) (by omega)  _ _ _ hP hD hS (lv_sub hl [2, 3, 1, 0] rfl)
              · skip
                refine lv_aload_n hx hb dX3_hashAll_45 rfl (lv_at hl 0 rfl) ?_
                refine lv_ldc2 (v := 5903417617427348583) hx hb hown (hts (.constantLong RX3 124 (5903417617427348583)) (by decide +kernel)) dX3_hashAll_46 ?_
                refine tg_put (ci := 3) (v := .long (5903417617427348583)) (ft := .long) (C := RX3) (T := TX3) (N := 32) hx hb hts hinX3 tyX3 tyX3_ok nmX3 hown hK hP hD hS 0 rfl rfl 6 (by decide) (hts (.fieldLink RX3 114 "TreeGossipModel" "h" "J") (by decide +kernel)) (fun _ h9 => h9) rfl (by decide +kernel) rfl rfl (Nat.le_of_ble_eq_true rfl) dX3_hashAll_49 (ws' := [(m0, .inr (3, [.int (cd), .ref m1, .ref m2, .ref m3, .ref m4, .ref m5, .long (5903417617427348583), .ref m7, .ref m8, .ref m9, .ref m10, .ref m11, .ref m12, .ref m13, .ref m14, .ref m15, .ref m16, .ref m17, .int (mn), .ref m19, .ref m20, .ref m21, .ref m22, .int (c0), .int (c1), .int (c2), .ref m26, .int (gm), .ref m28, .ref m29, .ref m30, .ref m31])), (m1, .inl (ty 2, 512, .inl th)), (m2, .inl (ty 1, 512, .inr (.inl ms))), (m3, .inl (ty 0, 512, .inl ml)), (m4, .inl (ty 1, 512, .inr (.inl mv))), (m5, .inl (ty 1, 85, .inr (.inl (tg_ri (tg_rl1 th ms ml mv si ha 64) 5 21 n))))]) rfl (fun H locs hP hD hS => ?_)
                refine lv_iconst (v := nI (0)) hx hb dX3_hashAll_52 (by decide) ?_
                refine lv_istore (lv' := [(4, .int (nI (0))), (0, .ref m0), (1, .int (nI (si))), (2, .int (nI (2))), (3, .int (nI (n)))]) hx hb dX3_hashAll_53 hl (by decide) rfl (fun ls hl => ?_)
                have hL55 : ∀ (n55 cx : Nat) , cx ≤ 4 → 4 + 1 ≤ cx + n55 → ∀ (H : Heap) (locs : List Loc) (ls : Array Slot), va_P D vwCl [(m0, .inr (3, [.int (cd), .ref m1, .ref m2, .ref m3, .ref m4, .ref m5, .long (tg_ic (tg_ri (tg_rl1 th ms ml mv si ha 64) 5 21 n) (21 + 4 * n) cx), .ref m7, .ref m8, .ref m9, .ref m10, .ref m11, .ref m12, .ref m13, .ref m14, .ref m15, .ref m16, .ref m17, .int (mn), .ref m19, .ref m20, .ref m21, .ref m22, .int (c0), .int (c1), .int (c2), .ref m26, .int (gm), .ref m28, .ref m29, .ref m30, .ref m31])), (m1, .inl (ty 2, 512, .inl th)), (m2, .inl (ty 1, 512, .inr (.inl ms))), (m3, .inl (ty 0, 512, .inl ml)), (m4, .inl (ty 1, 512, .inr (.inl mv))), (m5, .inl (ty 1, 85, .inr (.inl (tg_ri (tg_rl1 th ms ml mv si ha 64) 5 21 n))))] H → va_D AA [(m0, .inr (3, [.int (cd), .ref m1, .ref m2, .ref m3, .ref m4, .ref m5, .long (tg_ic (tg_ri (tg_rl1 th ms ml mv si ha 64) 5 21 n) (21 + 4 * n) cx), .ref m7, .ref m8, .ref m9, .ref m10, .ref m11, .ref m12, .ref m13, .ref m14, .ref m15, .ref m16, .ref m17, .int (mn), .ref m19, .ref m20, .ref m21, .ref m22, .int (c0), .int (c1), .int (c2), .ref m26, .int (gm), .ref m28, .ref m29, .ref m30, .ref m31])), (m1, .inl (ty 2, 512, .inl th)), (m2, .inl (ty 1, 512, .inr (.inl ms))), (m3, .inl (ty 0, 512, .inl ml)), (m4, .inl (ty 1, 512, .inr (.inl mv))), (m5, .inl (ty 1, 85, .inr (.inl (tg_ri (tg_rl1 th ms ml mv si ha 64) 5 21 n))))] → va_S AA ss.heap H locs → lv_has ls 5 [(0, .ref m0), (1, .int (nI (si))), (2, .int (nI (2))), (3, .int (nI (n))), (4, .int (nI (cx)))] → W pp l ee rmk_X3_hashAll ss mm args below meth cc H locs 0 0 QQ (F0 mm 55 ls []) := by
                  intro n55
                  induction n55 with
                  | zero => intro cx  h1 h2; omega
                  | succ n55 ih55 =>
                    intro cx  hi55 hn55  H locs ls hP hD hS hl
                    refine lv_iload hx hb dX3_hashAll_55 (lv_at hl 4 rfl) ?_
                    refine lv_iconst (v := nI (4)) hx hb dX3_hashAll_57 (by decide) ?_
                    refine tg_ge (tgt := 89) hx hb dX3_hashAll_58 (by decide) (by omega) (by omega) (fun c58_11 => ?_) (fun c58_11 => ?_)
                    · skip
                      obtain rfl : 4 = cx := by omega
                      refine lv_aload_n hx hb dX3_hashAll_89 rfl (lv_at hl 0 rfl) ?_
                      refine va_get (D := D) (ci := 3) (v := .ref m5) (C := RX3) (T := TX3) (N := 32) hx hb hts hinX3 hown hK hP 0 rfl rfl 5 (by decide) (hts (.fieldLink RX3 24 "TreeGossipModel" "hashes" "[J") (by decide +kernel)) (fun _ h9 => h9) rfl dX3_hashAll_90 ?_
                      refine lv_iload_n hx hb dX3_hashAll_93 rfl (lv_at hl 2 rfl) ?_
                      refine tg_Si (As := [.int (nI (2))]) (rest := [.ref m5]) ⟨hx, hb, hml, hown, hts⟩ (k_X3_begin l D ty 2 (by omega)) (va_cwS 1 hts gX3_hashAll_X3_begin rfl rfl rfl (by decide +kernel) ⟨Nat.le_of_ble_eq_true rfl, Nat.le_of_ble_eq_true rfl⟩) hK hN hP hD hS hA rfl hl.1 rfl (Nat.le_of_ble_eq_true rfl) dX3_hashAll_94 ⟨Nat.le_of_ble_eq_true rfl, Nat.le_of_ble_eq_true rfl⟩ (fun H locs hP hD hS => ?_)
                      refine tg_vi (y := nI (5)) rfl ?_
                      refine lv_iload_n hx hb dX3_hashAll_97 rfl (lv_at hl 3 rfl) ?_
                      refine lv_iadd hx hb dX3_hashAll_98 ?_
                      refine tg_vi (nI_add _ _) ?_
                      refine lv_aload_n hx hb dX3_hashAll_99 rfl (lv_at hl 0 rfl) ?_
                      refine va_get (D := D) (ci := 3) (v := .long (tg_ic (tg_ri (tg_rl1 th ms ml mv si ha 64) 5 21 n) (21 + 4 * n) 4)) (C := RX3) (T := TX3) (N := 32) hx hb hts hinX3 hown hK hP 0 rfl rfl 6 (by decide) (hts (.fieldLink RX3 114 "TreeGossipModel" "h" "J") (by decide +kernel)) (fun _ h9 => h9) rfl dX3_hashAll_100 ?_
                      refine lv_aload_n hx hb dX3_hashAll_103 rfl (lv_at hl 0 rfl) ?_
                      refine va_get (D := D) (ci := 3) (v := .long (tg_ic (tg_ri (tg_rl1 th ms ml mv si ha 64) 5 21 n) (21 + 4 * n) 4)) (C := RX3) (T := TX3) (N := 32) hx hb hts hinX3 hown hK hP 0 rfl rfl 6 (by decide) (hts (.fieldLink RX3 114 "TreeGossipModel" "h" "J") (by decide +kernel)) (fun _ h9 => h9) rfl dX3_hashAll_104 ?_
                      refine lv_bipush (v := nI (31)) hx hb dX3_hashAll_107 (by decide) ?_
                      refine lv_lushr (v := tg_lu (tg_ic (tg_ri (tg_rl1 th ms ml mv si ha 64) 5 21 n) (21 + 4 * n) 4) (nI (31))) hx hb dX3_hashAll_109 rfl ?_
                      refine lv_lxor hx hb dX3_hashAll_110 ?_
                      refine tg_last hx hb hK hP hD hS 5 rfl (k := 5 + n) (by omega) (by decide) dX3_hashAll_111 (ws' := [(m0, .inr (3, [.int (cd), .ref m1, .ref m2, .ref m3, .ref m4, .ref m5, .long (tg_ic (tg_ri (tg_rl1 th ms ml mv si ha 64) 5 21 n) (21 + 4 * n) 4), .ref m7, .ref m8, .ref m9, .ref m10, .ref m11, .ref m12, .ref m13, .ref m14, .ref m15, .ref m16, .ref m17, .int (mn), .ref m19, .ref m20, .ref m21, .ref m22, .int (c0), .int (c1), .int (c2), .ref m26, .int (gm), .ref m28, .ref m29, .ref m30, .ref m31])), (m1, .inl (ty 2, 512, .inl th)), (m2, .inl (ty 1, 512, .inr (.inl ms))), (m3, .inl (ty 0, 512, .inl ml)), (m4, .inl (ty 1, 512, .inr (.inl mv))), (m5, .inl (ty 1, 85, .inr (.inl (vp_updL (tg_ri (tg_rl1 th ms ml mv si ha 64) 5 21 n) (5 + n) ((tg_ic (tg_ri (tg_rl1 th ms ml mv si ha 64) 5 21 n) (21 + 4 * n) 4) ^^^ (tg_lu (tg_ic (tg_ri (tg_rl1 th ms ml mv si ha 64) 5 21 n) (21 + 4 * n) 4) (nI (31))))))))]) rfl (fun H locs hP hD hS => ?_)
                      refine lv_iinc (v := nI (n + 1)) (lv' := [(3, .int (nI (n + 1))), (0, .ref m0), (1, .int (nI (si))), (2, .int (nI (2))), (4, .int (nI (4)))]) hx hb dX3_hashAll_112 hl (k := 3) rfl (tg_inc1 _) (by decide) rfl (fun ls hl => ?_)
                      refine lv_goto (tgt := 37) hx hb dX3_hashAll_115 (by decide) ?_
                      exact ih37 (n + 1) (by omega) (by omega)  _ _ _ hP hD hS (lv_sub hl [1, 2, 3, 0] rfl)
                    · skip
                      refine lv_aload_n hx hb dX3_hashAll_61 rfl (lv_at hl 0 rfl) ?_
                      refine lv_aload_n hx hb dX3_hashAll_62 rfl (lv_at hl 0 rfl) ?_
                      refine va_get (D := D) (ci := 3) (v := .ref m5) (C := RX3) (T := TX3) (N := 32) hx hb hts hinX3 hown hK hP 0 rfl rfl 5 (by decide) (hts (.fieldLink RX3 24 "TreeGossipModel" "hashes" "[J") (by decide +kernel)) (fun _ h9 => h9) rfl dX3_hashAll_63 ?_
                      refine lv_iload_n hx hb dX3_hashAll_66 rfl (lv_at hl 2 rfl) ?_
                      refine lv_iconst (v := nI (1)) hx hb dX3_hashAll_67 (by decide) ?_
                      refine lv_iadd hx hb dX3_hashAll_68 ?_
                      refine tg_vi (y := nI 3) (by decide) ?_
                      refine tg_Si (As := [.int (nI (3))]) (rest := [.ref m5, .ref m0]) ⟨hx, hb, hml, hown, hts⟩ (k_X3_begin l D ty 3 (by omega)) (va_cwS 1 hts gX3_hashAll_X3_begin rfl rfl rfl (by decide +kernel) ⟨Nat.le_of_ble_eq_true rfl, Nat.le_of_ble_eq_true rfl⟩) hK hN hP hD hS hA rfl hl.1 rfl (Nat.le_of_ble_eq_true rfl) dX3_hashAll_69 ⟨Nat.le_of_ble_eq_true rfl, Nat.le_of_ble_eq_true rfl⟩ (fun H locs hP hD hS => ?_)
                      refine tg_vi (y := nI (21)) rfl ?_
                      refine lv_iconst (v := nI (4)) hx hb dX3_hashAll_72 (by decide) ?_
                      refine lv_iload_n hx hb dX3_hashAll_73 rfl (lv_at hl 3 rfl) ?_
                      refine lv_imul hx hb dX3_hashAll_74 ?_
                      refine tg_vi (pk_mul _ _) ?_
                      refine lv_iadd hx hb dX3_hashAll_75 ?_
                      refine tg_vi (nI_add _ _) ?_
                      refine lv_iload hx hb dX3_hashAll_76 (lv_at hl 4 rfl) ?_
                      refine lv_iadd hx hb dX3_hashAll_78 ?_
                      refine tg_vi (nI_add _ _) ?_
                      refine tg_lald hx hb hK hP 5 rfl (f := tg_ri (tg_rl1 th ms ml mv si ha 64) 5 21 n) (k := (21 + (4 * n)) + cx) (by omega) (by decide) dX3_hashAll_79 ?_
                      refine tg_Vv (As := [.long ((tg_ri (tg_rl1 th ms ml mv si ha 64) 5 21 n) ((21 + (4 * n)) + cx))]) (rest := []) (wr := [(m1, .inl (ty 2, 512, .inl th)), (m2, .inl (ty 1, 512, .inr (.inl ms))), (m3, .inl (ty 0, 512, .inl ml)), (m4, .inl (ty 1, 512, .inr (.inl mv))), (m5, .inl (ty 1, 85, .inr (.inl (tg_ri (tg_rl1 th ms ml mv si ha 64) 5 21 n))))]) (w2 := [(m0, .inr (3, [.int (cd), .ref m1, .ref m2, .ref m3, .ref m4, .ref m5, .long (tg_ml8 (tg_ic (tg_ri (tg_rl1 th ms ml mv si ha 64) 5 21 n) (21 + 4 * n) cx) ((tg_ri (tg_rl1 th ms ml mv si ha 64) 5 21 n) ((21 + (4 * n)) + cx)) 8), .ref m7, .ref m8, .ref m9, .ref m10, .ref m11, .ref m12, .ref m13, .ref m14, .ref m15, .ref m16, .ref m17, .int (mn), .ref m19, .ref m20, .ref m21, .ref m22, .int (c0), .int (c1), .int (c2), .ref m26, .int (gm), .ref m28, .ref m29, .ref m30, .ref m31])), (m1, .inl (ty 2, 512, .inl th)), (m2, .inl (ty 1, 512, .inr (.inl ms))), (m3, .inl (ty 0, 512, .inl ml)), (m4, .inl (ty 1, 512, .inr (.inl mv))), (m5, .inl (ty 1, 85, .inr (.inl (tg_ri (tg_rl1 th ms ml mv si ha 64) 5 21 n))))]) ⟨hx, hb, hml, hown, hts⟩ (k_X3_mixLong l D ty m0 m1 m2 m3 m4 m5 m7 m8 m9 m10 m11 m12 m13 m14 m15 m16 m17 m19 m20 m21 m22 m26 m28 m29 m30 m31 cd (tg_ic (tg_ri (tg_rl1 th ms ml mv si ha 64) 5 21 n) (21 + 4 * n) cx) mn c0 c1 c2 gm ((tg_ri (tg_rl1 th ms ml mv si ha 64) 5 21 n) ((21 + (4 * n)) + cx)) ) (cwV 1 hts gX3_hashAll_X3_mixLong rfl rfl rfl (by decide +kernel) ⟨Nat.le_of_ble_eq_true rfl, Nat.le_of_ble_eq_true rfl⟩) hK hN hP hD hS hA [0] [1, 2, 3, 4, 5] [5, 0, 1, 2, 3, 4] 0 3 rfl rfl rfl rfl rfl rfl rfl (by decide) rfl hl.1 rfl (Nat.le_of_ble_eq_true rfl) dX3_hashAll_80 rfl rfl ⟨Nat.le_of_ble_eq_true rfl, Nat.le_of_ble_eq_true rfl⟩ (fun H locs hP hD hS => ?_)
                      refine lv_iinc (v := nI (cx + 1)) (lv' := [(4, .int (nI (cx + 1))), (0, .ref m0), (1, .int (nI (si))), (2, .int (nI (2))), (3, .int (nI (n)))]) hx hb dX3_hashAll_83 hl (k := 4) rfl (tg_inc1 _) (by decide) rfl (fun ls hl => ?_)
                      refine lv_goto (tgt := 55) hx hb dX3_hashAll_86 (by decide) ?_
                      exact ih55 (cx + 1) (by omega) (by omega)  _ _ _ hP hD hS (lv_sub hl [1, 2, 3, 4, 0] rfl)
                exact hL55 (4 + 1) 0 (by omega) (by omega)  _ _ _ hP hD hS (lv_sub hl [1, 2, 3, 4, 0] rfl)
          exact hL37 (16 + 1) 0 (by omega) (by omega)  _ _ _ hP hD hS (lv_sub hl [2, 3, 1, 0] rfl)
      · skip
        refine lv_aload_n hx hb dX3_hashAll_8 rfl (lv_at hl 0 rfl) ?_
        refine va_get (D := D) (ci := 3) (v := .ref m5) (C := RX3) (T := TX3) (N := 32) hx hb hts hinX3 hown hK hP 0 rfl rfl 5 (by decide) (hts (.fieldLink RX3 24 "TreeGossipModel" "hashes" "[J") (by decide +kernel)) (fun _ h9 => h9) rfl dX3_hashAll_9 ?_
        refine lv_bipush (v := nI (21)) hx hb dX3_hashAll_12 (by decide) ?_
        refine lv_iload_n hx hb dX3_hashAll_14 rfl (lv_at hl 2 rfl) ?_
        refine lv_iadd hx hb dX3_hashAll_15 ?_
        refine tg_vi (nI_add _ _) ?_
        refine lv_aload_n hx hb dX3_hashAll_16 rfl (lv_at hl 0 rfl) ?_
        refine lv_iload_n hx hb dX3_hashAll_17 rfl (lv_at hl 1 rfl) ?_
        refine lv_iload_n hx hb dX3_hashAll_18 rfl (lv_at hl 2 rfl) ?_
        refine tg_Vl (As := [.int (nI (si)), .int (nI (n))]) (rest := [.int (nI (21 + n)), .ref m5]) (wr := [(m5, .inl (ty 1, 85, .inr (.inl (tg_rl1 th ms ml mv si ha n))))]) (w2 := [(m0, .inr (3, [.int (cd), .ref m1, .ref m2, .ref m3, .ref m4, .ref m5, .long (tg_rlf th ms ml mv si n 4), .ref m7, .ref m8, .ref m9, .ref m10, .ref m11, .ref m12, .ref m13, .ref m14, .ref m15, .ref m16, .ref m17, .int (mn), .ref m19, .ref m20, .ref m21, .ref m22, .int (c0), .int (c1), .int (c2), .ref m26, .int (gm), .ref m28, .ref m29, .ref m30, .ref m31])), (m1, .inl (ty 2, 512, .inl th)), (m2, .inl (ty 1, 512, .inr (.inl ms))), (m3, .inl (ty 0, 512, .inl ml)), (m4, .inl (ty 1, 512, .inr (.inl mv))), (m5, .inl (ty 1, 85, .inr (.inl (tg_rl1 th ms ml mv si ha n))))]) ⟨hx, hb, hml, hown, hts⟩ (k_X3_leaf l D ty m0 m1 m2 m3 m4 m5 m7 m8 m9 m10 m11 m12 m13 m14 m15 m16 m17 m19 m20 m21 m22 m26 m28 m29 m30 m31 cd (tg_rh1 th ms ml mv si hh n) mn c0 c1 c2 gm th ms ml mv si n hsi (by omega) hoe) (cwV 2 hts gX3_hashAll_X3_leaf rfl rfl rfl (by decide +kernel) ⟨Nat.le_of_ble_eq_true rfl, Nat.le_of_ble_eq_true rfl⟩) hK hN hP hD hS hA [0, 1, 2, 3, 4] [5] [1, 2, 3, 4, 5, 0] 0 3 rfl rfl rfl rfl rfl rfl rfl (by decide) rfl hl.1 rfl (Nat.le_of_ble_eq_true rfl) dX3_hashAll_19 rfl rfl ⟨Nat.le_of_ble_eq_true rfl, Nat.le_of_ble_eq_true rfl⟩ (fun H locs hP hD hS => ?_)
        refine tg_last hx hb hK hP hD hS 5 rfl (k := 21 + n) (by omega) (by decide) dX3_hashAll_22 (ws' := [(m0, .inr (3, [.int (cd), .ref m1, .ref m2, .ref m3, .ref m4, .ref m5, .long (tg_rlf th ms ml mv si n 4), .ref m7, .ref m8, .ref m9, .ref m10, .ref m11, .ref m12, .ref m13, .ref m14, .ref m15, .ref m16, .ref m17, .int (mn), .ref m19, .ref m20, .ref m21, .ref m22, .int (c0), .int (c1), .int (c2), .ref m26, .int (gm), .ref m28, .ref m29, .ref m30, .ref m31])), (m1, .inl (ty 2, 512, .inl th)), (m2, .inl (ty 1, 512, .inr (.inl ms))), (m3, .inl (ty 0, 512, .inl ml)), (m4, .inl (ty 1, 512, .inr (.inl mv))), (m5, .inl (ty 1, 85, .inr (.inl (vp_updL (tg_rl1 th ms ml mv si ha n) (21 + n) (tg_fin (tg_rlf th ms ml mv si n 4))))))]) rfl (fun H locs hP hD hS => ?_)
        refine lv_iinc (v := nI (n + 1)) (lv' := [(2, .int (nI (n + 1))), (0, .ref m0), (1, .int (nI (si)))]) hx hb dX3_hashAll_23 hl (k := 2) rfl (tg_inc1 _) (by decide) rfl (fun ls hl => ?_)
        refine lv_goto (tgt := 2) hx hb dX3_hashAll_26 (by decide) ?_
        exact ih2 (n + 1) (by omega) (by omega)  _ _ _ hP hD hS (lv_sub hl [1, 2, 0] rfl)
  exact hL2 (64 + 1) 0 (by omega) (by omega)  _ _ _ hP hD hS (lv_sub hl [1, 2, 0] rfl)
