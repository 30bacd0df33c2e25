/-! ===== contracts: the reference, small ===== -/
def rmk_X3_thrown : Room := { frames := 0, cells := 0, slots := 0, locals := 0 }
theorem ink_X3_thrown_X3 : ∀ w ∈ wsX30, w ∈ wsX3_thrown := by decide +kernel
set_option maxHeartbeats 4000000 in
set_option maxRecDepth 100000 in
theorem k_X3_thrown (l : Launch) (D : va_G) (ty : Nat → ClassId) (m0 : Nat) (m1 : Nat) (m2 : Nat) (m3 : Nat) (m4 : Nat) (m5 : Nat) (m7 : Nat) (m8 : Nat) (m9 : Nat) (m10 : Nat) (m11 : Nat) (m12 : Nat) (m13 : Nat) (m14 : Nat) (m15 : Nat) (m16 : Nat) (m17 : Nat) (m19 : Nat) (m20 : Nat) (m21 : Nat) (m22 : Nat) (m26 : Nat) (m28 : Nat) (m29 : Nat) (m30 : Nat) (m31 : Nat) (cd : Int32) (hh : Int64) (mn : Int32) (c0 : Int32) (c1 : Int32) (c2 : Int32) (gm : Int32)  : tg_Mi l yX3_thrown wsX3_thrown rmk_X3_thrown D ty [.ref m0] [(m0, .inr (3, [.int (cd), .ref m1, .ref m2, .ref m3, .ref m4, .ref m5, .long (hh), .ref m7, .ref m8, .ref m9, .ref m10, .ref m11, .ref m12, .ref m13, .ref m14, .ref m15, .ref m16, .ref m17, .int (mn), .ref m19, .ref m20, .ref m21, .ref m22, .int (c0), .int (c1), .int (c2), .ref m26, .int (gm), .ref m28, .ref m29, .ref m30, .ref m31]))] [(m0, .inr (3, [.int (cd), .ref m1, .ref m2, .ref m3, .ref m4, .ref m5, .long (hh), .ref m7, .ref m8, .ref m9, .ref m10, .ref m11, .ref m12, .ref m13, .ref m14, .ref m15, .ref m16, .ref m17, .int (mn), .ref m19, .ref m20, .ref m21, .ref m22, .int (c0), .int (c1), .int (c2), .ref m26, .int (gm), .ref m28, .ref m29, .ref m30, .ref m31]))] (cd) 0 0 := by
  refine tg_start_i (cc := cX3_thrown) (maxL := 1) (lvs := [(0, .ref m0)]) (by decide) rfl (Nat.le_of_ble_eq_true rfl) rfl ?_
  intro pp ee ss mm args below meth cc AA ls QQ hx hb hr hts hown hlocks hml hnm hA hP hD hS hK hN hl hret
  have hinX3 := ink_X3_thrown_X3
  refine lv_aload_n hx hb dX3_thrown_0 rfl (lv_at hl 0 rfl) ?_
  refine va_get (D := D) (ci := 3) (v := .int (cd)) (C := RX3) (T := TX3) (N := 32) hx hb hts hinX3 hown hK hP 0 rfl rfl 0 (by decide) (hts (.fieldLink RX3 87 "TreeGossipModel" "code" "I") (by decide +kernel)) (fun _ h9 => h9) rfl dX3_thrown_1 ?_
  exact hret _ _ 4 _ _ hP hD hS (rfl) dX3_thrown_4
def rmk_X3_isStore : Room := { frames := 0, cells := 0, slots := 0, locals := 0 }
set_option maxHeartbeats 4000000 in
set_option maxRecDepth 100000 in
theorem k_X3_isStore (l : Launch) (D : va_G) (ty : Nat → ClassId) (s1 : Int32)  : tg_Mi l yX3_isStore wsX3_isStore rmk_X3_isStore D ty [.int (s1)] [] [] (tg_b (tg_isS s1)) 0 0 := by
  refine tg_start_z (cc := cX3_isStore) (maxL := 1) (lvs := [(0, .int (s1))]) (by decide) rfl (Nat.le_of_ble_eq_true rfl) rfl ?_
  intro pp ee ss mm args below meth cc AA ls QQ hx hb hr hts hown hlocks hml hnm hA hP hD hS hK hN hl hret
  refine lv_iload_n hx hb dX3_isStore_0 rfl (lv_at hl 0 rfl) ?_
  refine lv_if_eq (tgt := 9) hx hb dX3_isStore_1 (by decide) (fun c1_1 => ?_) (fun c1_1 => ?_)
  · skip
    refine lv_iconst (v := nI (1)) hx hb dX3_isStore_9 (by decide) ?_
    refine lv_goto (tgt := 14) hx hb dX3_isStore_10 (by decide) ?_
    exact hret _ _ 14 _ _ hP hD hS (by unfold tg_isS; rw [decide_eq_true c1_1]; rfl) rfl dX3_isStore_14
  · skip
    refine lv_iload_n hx hb dX3_isStore_4 rfl (lv_at hl 0 rfl) ?_
    refine lv_iconst (v := nI (1)) hx hb dX3_isStore_5 (by decide) ?_
    refine lv_icmp_ne (tgt := 13) hx hb dX3_isStore_6 (by decide) (fun c6_2 => ?_) (fun c6_2 => ?_)
    · skip
      refine lv_iconst (v := nI (0)) hx hb dX3_isStore_13 (by decide) ?_
      exact hret _ _ 14 _ _ hP hD hS (by unfold tg_isS; rw [decide_eq_false c1_1, decide_eq_false (show ¬ s1 = 1 from c6_2)]; rfl) rfl dX3_isStore_14
    · skip
      refine lv_iconst (v := nI (1)) hx hb dX3_isStore_9 (by decide) ?_
      refine lv_goto (tgt := 14) hx hb dX3_isStore_10 (by decide) ?_
      exact hret _ _ 14 _ _ hP hD hS (by unfold tg_isS; rw [decide_eq_true (show s1 = 1 from c6_2), Bool.or_true]; rfl) rfl dX3_isStore_14
def rmk_X3_isKey : Room := { frames := 0, cells := 0, slots := 0, locals := 0 }
set_option maxHeartbeats 4000000 in
set_option maxRecDepth 100000 in
theorem k_X3_isKey (l : Launch) (D : va_G) (ty : Nat → ClassId) (k1 : Int32)  : tg_Mi l yX3_isKey wsX3_isKey rmk_X3_isKey D ty [.int (k1)] [] [] (tg_b (tg_isK k1)) 0 0 := by
  refine tg_start_z (cc := cX3_isKey) (maxL := 1) (lvs := [(0, .int (k1))]) (by decide) rfl (Nat.le_of_ble_eq_true rfl) rfl ?_
  intro pp ee ss mm args below meth cc AA ls QQ hx hb hr hts hown hlocks hml hnm hA hP hD hS hK hN hl hret
  refine lv_iload_n hx hb dX3_isKey_0 rfl (lv_at hl 0 rfl) ?_
  refine lv_if_lt (tgt := 15) hx hb dX3_isKey_1 (by decide) (fun c1_1 => ?_) (fun c1_1 => ?_)
  · skip
    refine lv_iconst (v := nI (0)) hx hb dX3_isKey_15 (by decide) ?_
    exact hret _ _ 16 _ _ hP hD hS (by unfold tg_isK; rw [decide_eq_false (fun q => q c1_1)]; rfl) rfl dX3_isKey_16
  · skip
    refine lv_iload_n hx hb dX3_isKey_4 rfl (lv_at hl 0 rfl) ?_
    refine lv_sipush (v := nI (256)) hx hb dX3_isKey_5 (by decide) ?_
    refine lv_icmp_ge (tgt := 15) hx hb dX3_isKey_8 (by decide) (fun c8_2 => ?_) (fun c8_2 => ?_)
    · skip
      refine lv_iconst (v := nI (0)) hx hb dX3_isKey_15 (by decide) ?_
      exact hret _ _ 16 _ _ hP hD hS (by unfold tg_isK; rw [decide_eq_false (p := ¬ nI 256 ≤ k1) (fun q => q c8_2), Bool.and_false]; rfl) rfl dX3_isKey_16
    · skip
      refine lv_iconst (v := nI (1)) hx hb dX3_isKey_11 (by decide) ?_
      refine lv_goto (tgt := 16) hx hb dX3_isKey_12 (by decide) ?_
      exact hret _ _ 16 _ _ hP hD hS (by unfold tg_isK; rw [decide_eq_true c1_1, decide_eq_true (p := ¬ nI 256 ≤ k1) c8_2]; rfl) rfl dX3_isKey_16
def rmk_X3_byteOf : Room := { frames := 0, cells := 0, slots := 0, locals := 0 }
set_option maxHeartbeats 4000000 in
set_option maxRecDepth 100000 in
theorem k_X3_byteOf (l : Launch) (D : va_G) (ty : Nat → ClassId) (v : Int64) (j : Nat) (hj : j < 8) : tg_Mi l yX3_byteOf wsX3_byteOf rmk_X3_byteOf D ty [.long (v), .int (nI (j))] [] [] (tg_bi v j) 0 0 := by
  refine tg_start_i (cc := cX3_byteOf) (maxL := 3) (lvs := [(0, .long (v)), (2, .int (nI (j)))]) (by decide) rfl (Nat.le_of_ble_eq_true rfl) rfl ?_
  intro pp ee ss mm args below meth cc AA ls QQ hx hb hr hts hown hlocks hml hnm hA hP hD hS hK hN hl hret
  refine lv_lload_n hx hb dX3_byteOf_0 rfl (lv_at hl 0 rfl) ?_
  refine lv_bipush (v := nI (56)) hx hb dX3_byteOf_1 (by decide) ?_
  refine lv_bipush (v := nI (8)) hx hb dX3_byteOf_3 (by decide) ?_
  refine lv_iload_n hx hb dX3_byteOf_5 rfl (lv_at hl 1 rfl) ?_
  refine lv_imul hx hb dX3_byteOf_6 ?_
  refine tg_vi (pk_mul _ _) ?_
  refine lv_isub hx hb dX3_byteOf_7 ?_
  refine tg_vi (pk_sub (by omega)) ?_
  refine lv_lushr (v := tg_lu v (nI (56 - (8 * j)))) hx hb dX3_byteOf_8 rfl ?_
  refine lv_l2i (v := Int64.toInt32 (tg_lu v (nI (56 - (8 * j))))) hx hb dX3_byteOf_9 rfl ?_
  refine lv_sipush (v := nI (255)) hx hb dX3_byteOf_10 (by decide) ?_
  refine lv_iand hx hb dX3_byteOf_13 ?_
  exact hret _ _ 14 _ _ hP hD hS (rfl) dX3_byteOf_14
def rmk_X3_cut : Room := { frames := 0, cells := 0, slots := 0, locals := 0 }
set_option maxHeartbeats 4000000 in
set_option maxRecDepth 100000 in
theorem k_X3_cut (l : Launch) (D : va_G) (ty : Nat → ClassId) (v : Int64) (k : Nat) (hk : k ≤ 8) : tg_Ml l yX3_cut wsX3_cut rmk_X3_cut D ty [.long (v), .int (nI (k))] [] [] (tg_ut v k) 0 0 := by
  refine tg_start_l (cc := cX3_cut) (maxL := 3) (lvs := [(0, .long (v)), (2, .int (nI (k)))]) (by decide) rfl (Nat.le_of_ble_eq_true rfl) rfl ?_
  intro pp ee ss mm args below meth cc AA ls QQ hx hb hr hts hown hlocks hml hnm hA hP hD hS hK hN hl hret
  refine lv_iload_n hx hb dX3_cut_0 rfl (lv_at hl 1 rfl) ?_
  refine tg_if_ne (tgt := 8) hx hb dX3_cut_1 (by decide) (by omega) (fun c1_1 => ?_) (fun c1_1 => ?_)
  · skip
    refine lv_lload_n hx hb dX3_cut_8 rfl (lv_at hl 0 rfl) ?_
    refine lv_bipush (v := nI (64)) hx hb dX3_cut_9 (by decide) ?_
    refine lv_bipush (v := nI (8)) hx hb dX3_cut_11 (by decide) ?_
    refine lv_iload_n hx hb dX3_cut_13 rfl (lv_at hl 1 rfl) ?_
    refine lv_imul hx hb dX3_cut_14 ?_
    refine tg_vi (pk_mul _ _) ?_
    refine lv_isub hx hb dX3_cut_15 ?_
    refine tg_vi (pk_sub (by omega)) ?_
    refine lv_lushr (v := tg_lu v (nI (64 - (8 * k)))) hx hb dX3_cut_16 rfl ?_
    refine lv_bipush (v := nI (64)) hx hb dX3_cut_17 (by decide) ?_
    refine lv_bipush (v := nI (8)) hx hb dX3_cut_19 (by decide) ?_
    refine lv_iload_n hx hb dX3_cut_21 rfl (lv_at hl 1 rfl) ?_
    refine lv_imul hx hb dX3_cut_22 ?_
    refine tg_vi (pk_mul _ _) ?_
    refine lv_isub hx hb dX3_cut_23 ?_
    refine tg_vi (pk_sub (by omega)) ?_
    refine lv_lshl (v := tg_ll (tg_lu v (nI (64 - (8 * k)))) (nI (64 - (8 * k)))) hx hb dX3_cut_24 rfl ?_
    exact hret _ _ 25 _ _ hP hD hS (by unfold tg_ut; rw [if_neg c1_1]) dX3_cut_25
  · skip
    refine lv_lconst (v := 0) hx hb dX3_cut_4 (by decide) ?_
    refine lv_goto (tgt := 25) hx hb dX3_cut_5 (by decide) ?_
    exact hret _ _ 25 _ _ hP hD hS (by unfold tg_ut; rw [if_pos c1_1]) dX3_cut_25
def rmk_X3_isNewer : Room := { frames := 1, cells := 0, slots := 0, locals := 22 }
theorem ink_X3_isNewer_X3 : ∀ w ∈ wsX30, w ∈ wsX3_isNewer := by decide +kernel
set_option maxHeartbeats 4000000 in
set_option maxRecDepth 100000 in
theorem k_X3_isNewer (l : Launch) (D : va_G) (ty : Nat → ClassId) (m0 : Nat) (m1 : Nat) (m2 : Nat) (m3 : Nat) (m4 : Nat) (m5 : Nat) (m7 : Nat) (m8 : Nat) (m9 : Nat) (m10 : Nat) (m11 : Nat) (m12 : Nat) (m13 : Nat) (m14 : Nat) (m15 : Nat) (m16 : Nat) (m17 : Nat) (m19 : Nat) (m20 : Nat) (m21 : Nat) (m22 : Nat) (m26 : Nat) (m28 : Nat) (m29 : Nat) (m30 : Nat) (m31 : Nat) (cd : Int32) (hh : Int64) (mn : Int32) (c0 : Int32) (c1 : Int32) (c2 : Int32) (gm : Int32) (ms : Nat → Int64) (ml : Nat → Int32) (mv : Nat → Int64) (ix : Nat) (s1 : Int64) (n : Nat) (v1 : Int64) (hix : ix < 512) (hn : n ≤ 8) : tg_Mi l yX3_isNewer wsX3_isNewer rmk_X3_isNewer D ty [.ref m0, .int (nI (ix)), .long (s1), .int (nI (n)), .long (v1)] [(m0, .inr (3, [.int (cd), .ref m1, .ref m2, .ref m3, .ref m4, .ref m5, .long (hh), .ref m7, .ref m8, .ref m9, .ref m10, .ref m11, .ref m12, .ref m13, .ref m14, .ref m15, .ref m16, .ref m17, .int (mn), .ref m19, .ref m20, .ref m21, .ref m22, .int (c0), .int (c1), .int (c2), .ref m26, .int (gm), .ref m28, .ref m29, .ref m30, .ref m31])), (m2, .inl (ty 1, 512, .inr (.inl ms))), (m3, .inl (ty 0, 512, .inl ml)), (m4, .inl (ty 1, 512, .inr (.inl mv)))] [(m0, .inr (3, [.int (cd), .ref m1, .ref m2, .ref m3, .ref m4, .ref m5, .long (hh), .ref m7, .ref m8, .ref m9, .ref m10, .ref m11, .ref m12, .ref m13, .ref m14, .ref m15, .ref m16, .ref m17, .int (mn), .ref m19, .ref m20, .ref m21, .ref m22, .int (c0), .int (c1), .int (c2), .ref m26, .int (gm), .ref m28, .ref m29, .ref m30, .ref m31])), (m2, .inl (ty 1, 512, .inr (.inl ms))), (m3, .inl (ty 0, 512, .inl ml)), (m4, .inl (ty 1, 512, .inr (.inl mv)))] (tg_b (tg_rnw (ms ix) (ml ix) (mv ix) s1 n v1)) 0 0 := by
  refine tg_start_z (cc := cX3_isNewer) (maxL := 8) (lvs := [(0, .ref m0), (1, .int (nI (ix))), (2, .long (s1)), (4, .int (nI (n))), (5, .long (v1))]) (by decide) rfl (Nat.le_of_ble_eq_true rfl) rfl ?_
  intro pp ee ss mm args below meth cc AA ls QQ hx hb hr hts hown hlocks hml hnm hA hP hD hS hK hN hl hret
  have hinX3 := ink_X3_isNewer_X3
  refine lv_lload_n hx hb dX3_isNewer_0 rfl (lv_at hl 2 rfl) ?_
  refine lv_aload_n hx hb dX3_isNewer_1 rfl (lv_at hl 0 rfl) ?_
  refine va_get (D := D) (ci := 3) (v := .ref m2) (C := RX3) (T := TX3) (N := 32) hx hb hts hinX3 hown hK hP 0 rfl rfl 2 (by decide) (hts (.fieldLink RX3 13 "TreeGossipModel" "stamps" "[J") (by decide +kernel)) (fun _ h9 => h9) rfl dX3_isNewer_2 ?_
  refine lv_iload_n hx hb dX3_isNewer_5 rfl (lv_at hl 1 rfl) ?_
  refine tg_lald hx hb hK hP 1 rfl (f := ms) (k := ix) (by omega) (by decide) dX3_isNewer_6 ?_
  refine W.lcmp hx hb dX3_isNewer_7 ?_
  refine tg_leq (tgt := 28) hx hb dX3_isNewer_8 (by decide) (fun c8_1 => ?_) (fun c8_1 => ?_)
  · skip
    refine lv_iload hx hb dX3_isNewer_28 (lv_at hl 3 rfl) ?_
    refine lv_aload_n hx hb dX3_isNewer_30 rfl (lv_at hl 0 rfl) ?_
    refine va_get (D := D) (ci := 3) (v := .ref m3) (C := RX3) (T := TX3) (N := 32) hx hb hts hinX3 hown hK hP 0 rfl rfl 3 (by decide) (hts (.fieldLink RX3 17 "TreeGossipModel" "lengths" "[I") (by decide +kernel)) (fun _ h9 => h9) rfl dX3_isNewer_31 ?_
    refine lv_iload_n hx hb dX3_isNewer_34 rfl (lv_at hl 1 rfl) ?_
    refine tg_iald hx hb hK hP 2 rfl (f := ml) (k := ix) (by omega) (by decide) dX3_isNewer_35 ?_
    refine lv_icmp_eq (tgt := 56) hx hb dX3_isNewer_36 (by decide) (fun c36_2 => ?_) (fun c36_2 => ?_)
    · skip
      refine lv_iconst (v := nI (0)) hx hb dX3_isNewer_56 (by decide) ?_
      refine lv_istore (lv' := [(7, .int (nI (0))), (0, .ref m0), (1, .int (nI (ix))), (2, .long (s1)), (4, .int (nI (n))), (5, .long (v1))]) hx hb dX3_isNewer_57 hl (by decide) rfl (fun ls hl => ?_)
      have hL59 : ∀ (n59 i : Nat) , i ≤ n → n + 1 ≤ i + n59 → tg_bn2 v1 (mv ix) (n - i) i = tg_bn2 v1 (mv ix) n 0 → ∀ (H : Heap) (locs : List Loc) (ls : Array Slot), va_P D vwCl [(m0, .inr (3, [.int (cd), .ref m1, .ref m2, .ref m3, .ref m4, .ref m5, .long (hh), .ref m7, .ref m8, .ref m9, .ref m10, .ref m11, .ref m12, .ref m13, .ref m14, .ref m15, .ref m16, .ref m17, .int (mn), .ref m19, .ref m20, .ref m21, .ref m22, .int (c0), .int (c1), .int (c2), .ref m26, .int (gm), .ref m28, .ref m29, .ref m30, .ref m31])), (m2, .inl (ty 1, 512, .inr (.inl ms))), (m3, .inl (ty 0, 512, .inl ml)), (m4, .inl (ty 1, 512, .inr (.inl mv)))] H → va_D AA [(m0, .inr (3, [.int (cd), .ref m1, .ref m2, .ref m3, .ref m4, .ref m5, .long (hh), .ref m7, .ref m8, .ref m9, .ref m10, .ref m11, .ref m12, .ref m13, .ref m14, .ref m15, .ref m16, .ref m17, .int (mn), .ref m19, .ref m20, .ref m21, .ref m22, .int (c0), .int (c1), .int (c2), .ref m26, .int (gm), .ref m28, .ref m29, .ref m30, .ref m31])), (m2, .inl (ty 1, 512, .inr (.inl ms))), (m3, .inl (ty 0, 512, .inl ml)), (m4, .inl (ty 1, 512, .inr (.inl mv)))] → va_S AA ss.heap H locs → lv_has ls 8 [(0, .ref m0), (1, .int (nI (ix))), (2, .long (s1)), (4, .int (nI (n))), (5, .long (v1)), (7, .int (nI (i)))] → W pp l ee rmk_X3_isNewer ss mm args below meth cc H locs 0 0 QQ (F0 mm 59 ls []) := by
        intro n59
        induction n59 with
        | zero => intro i  h1 h2; omega
        | succ n59 ih59 =>
          intro i  hi59 hn59 hq H locs ls hP hD hS hl
          refine lv_iload hx hb dX3_isNewer_59 (lv_at hl 5 rfl) ?_
          refine lv_iload hx hb dX3_isNewer_61 (lv_at hl 3 rfl) ?_
          refine tg_ge (tgt := 120) hx hb dX3_isNewer_63 (by decide) (by omega) (by omega) (fun c63_3 => ?_) (fun c63_3 => ?_)
          · skip
            refine lv_iconst (v := nI (0)) hx hb dX3_isNewer_120 (by decide) ?_
            exact hret _ _ 121 _ _ hP hD hS (by unfold tg_rnw; rw [if_pos c8_1, if_pos c36_2, ← hq, show n - i = 0 by omega]; rfl) rfl dX3_isNewer_121
          · skip
            have hf : n - i = (n - (i + 1)) + 1 := by omega
            refine lv_lload hx hb dX3_isNewer_66 (lv_at hl 4 rfl) ?_
            refine lv_iload hx hb dX3_isNewer_68 (lv_at hl 5 rfl) ?_
            refine tg_Si (As := [.long (v1), .int (nI (i))]) (rest := []) ⟨hx, hb, hml, hown, hts⟩ (k_X3_byteOf l D ty v1 i (by omega)) (va_cwS 2 hts gX3_isNewer_X3_byteOf rfl rfl rfl (by decide +kernel) ⟨Nat.le_of_ble_eq_true rfl, Nat.le_of_ble_eq_true rfl⟩) hK hN hP hD hS hA rfl hl.1 rfl (Nat.le_of_ble_eq_true rfl) dX3_isNewer_70 ⟨Nat.le_of_ble_eq_true rfl, Nat.le_of_ble_eq_true rfl⟩ (fun H locs hP hD hS => ?_)
            refine lv_aload_n hx hb dX3_isNewer_73 rfl (lv_at hl 0 rfl) ?_
            refine va_get (D := D) (ci := 3) (v := .ref m4) (C := RX3) (T := TX3) (N := 32) hx hb hts hinX3 hown hK hP 0 rfl rfl 4 (by decide) (hts (.fieldLink RX3 21 "TreeGossipModel" "values" "[J") (by decide +kernel)) (fun _ h9 => h9) rfl dX3_isNewer_74 ?_
            refine lv_iload_n hx hb dX3_isNewer_77 rfl (lv_at hl 1 rfl) ?_
            refine tg_lald hx hb hK hP 3 rfl (f := mv) (k := ix) (by omega) (by decide) dX3_isNewer_78 ?_
            refine lv_iload hx hb dX3_isNewer_79 (lv_at hl 5 rfl) ?_
            refine tg_Si (As := [.long (mv ix), .int (nI (i))]) (rest := [.int (tg_bi v1 i)]) ⟨hx, hb, hml, hown, hts⟩ (k_X3_byteOf l D ty (mv ix) i (by omega)) (va_cwS 2 hts gX3_isNewer_X3_byteOf rfl rfl rfl (by decide +kernel) ⟨Nat.le_of_ble_eq_true rfl, Nat.le_of_ble_eq_true rfl⟩) hK hN hP hD hS hA rfl hl.1 rfl (Nat.le_of_ble_eq_true rfl) dX3_isNewer_81 ⟨Nat.le_of_ble_eq_true rfl, Nat.le_of_ble_eq_true rfl⟩ (fun H locs hP hD hS => ?_)
            refine lv_icmp_eq (tgt := 114) hx hb dX3_isNewer_84 (by decide) (fun c84_4 => ?_) (fun c84_4 => ?_)
            · skip
              have hq2 : tg_bn2 v1 (mv ix) (n - (i + 1)) (i + 1) = tg_bn2 v1 (mv ix) n 0 := by rw [← hq, hf, tg_bn2_s c84_4]
              refine lv_iinc (v := nI (i + 1)) (lv' := [(7, .int (nI (i + 1))), (0, .ref m0), (1, .int (nI (ix))), (2, .long (s1)), (4, .int (nI (n))), (5, .long (v1))]) hx hb dX3_isNewer_114 hl (k := 5) rfl (tg_inc1 _) (by decide) rfl (fun ls hl => ?_)
              refine lv_goto (tgt := 59) hx hb dX3_isNewer_117 (by decide) ?_
              exact ih59 (i + 1) (by omega) (by omega) hq2 _ _ _ hP hD hS (lv_sub hl [1, 2, 3, 4, 5, 0] rfl)
            · skip
              refine lv_lload hx hb dX3_isNewer_87 (lv_at hl 4 rfl) ?_
              refine lv_iload hx hb dX3_isNewer_89 (lv_at hl 5 rfl) ?_
              refine tg_Si (As := [.long (v1), .int (nI (i))]) (rest := []) ⟨hx, hb, hml, hown, hts⟩ (k_X3_byteOf l D ty v1 i (by omega)) (va_cwS 2 hts gX3_isNewer_X3_byteOf rfl rfl rfl (by decide +kernel) ⟨Nat.le_of_ble_eq_true rfl, Nat.le_of_ble_eq_true rfl⟩) hK hN hP hD hS hA rfl hl.1 rfl (Nat.le_of_ble_eq_true rfl) dX3_isNewer_91 ⟨Nat.le_of_ble_eq_true rfl, Nat.le_of_ble_eq_true rfl⟩ (fun H locs hP hD hS => ?_)
              refine lv_aload_n hx hb dX3_isNewer_94 rfl (lv_at hl 0 rfl) ?_
              refine va_get (D := D) (ci := 3) (v := .ref m4) (C := RX3) (T := TX3) (N := 32) hx hb hts hinX3 hown hK hP 0 rfl rfl 4 (by decide) (hts (.fieldLink RX3 21 "TreeGossipModel" "values" "[J") (by decide +kernel)) (fun _ h9 => h9) rfl dX3_isNewer_95 ?_
              refine lv_iload_n hx hb dX3_isNewer_98 rfl (lv_at hl 1 rfl) ?_
              refine tg_lald hx hb hK hP 3 rfl (f := mv) (k := ix) (by omega) (by decide) dX3_isNewer_99 ?_
              refine lv_iload hx hb dX3_isNewer_100 (lv_at hl 5 rfl) ?_
              refine tg_Si (As := [.long (mv ix), .int (nI (i))]) (rest := [.int (tg_bi v1 i)]) ⟨hx, hb, hml, hown, hts⟩ (k_X3_byteOf l D ty (mv ix) i (by omega)) (va_cwS 2 hts gX3_isNewer_X3_byteOf rfl rfl rfl (by decide +kernel) ⟨Nat.le_of_ble_eq_true rfl, Nat.le_of_ble_eq_true rfl⟩) hK hN hP hD hS hA rfl hl.1 rfl (Nat.le_of_ble_eq_true rfl) dX3_isNewer_102 ⟨Nat.le_of_ble_eq_true rfl, Nat.le_of_ble_eq_true rfl⟩ (fun H locs hP hD hS => ?_)
              refine lv_icmp_le (tgt := 112) hx hb dX3_isNewer_105 (by decide) (fun c105_5 => ?_) (fun c105_5 => ?_)
              · skip
                refine lv_iconst (v := nI (0)) hx hb dX3_isNewer_112 (by decide) ?_
                exact hret _ _ 113 _ _ hP hD hS (by unfold tg_rnw; rw [if_pos c8_1, if_pos c36_2, ← hq, hf, tg_bn2_n c84_4, decide_eq_false (fun q => q c105_5)]; rfl) rfl dX3_isNewer_113
              · skip
                refine lv_iconst (v := nI (1)) hx hb dX3_isNewer_108 (by decide) ?_
                refine lv_goto (tgt := 113) hx hb dX3_isNewer_109 (by decide) ?_
                exact hret _ _ 113 _ _ hP hD hS (by unfold tg_rnw; rw [if_pos c8_1, if_pos c36_2, ← hq, hf, tg_bn2_n c84_4, decide_eq_true c105_5]; rfl) rfl dX3_isNewer_113
      exact hL59 (n + 1) 0 (by omega) (by omega) rfl _ _ _ hP hD hS (lv_sub hl [1, 2, 3, 4, 5, 0] rfl)
    · skip
      refine lv_iload hx hb dX3_isNewer_39 (lv_at hl 3 rfl) ?_
      refine lv_aload_n hx hb dX3_isNewer_41 rfl (lv_at hl 0 rfl) ?_
      refine va_get (D := D) (ci := 3) (v := .ref m3) (C := RX3) (T := TX3) (N := 32) hx hb hts hinX3 hown hK hP 0 rfl rfl 3 (by decide) (hts (.fieldLink RX3 17 "TreeGossipModel" "lengths" "[I") (by decide +kernel)) (fun _ h9 => h9) rfl dX3_isNewer_42 ?_
      refine lv_iload_n hx hb dX3_isNewer_45 rfl (lv_at hl 1 rfl) ?_
      refine tg_iald hx hb hK hP 2 rfl (f := ml) (k := ix) (by omega) (by decide) dX3_isNewer_46 ?_
      refine lv_icmp_le (tgt := 54) hx hb dX3_isNewer_47 (by decide) (fun c47_6 => ?_) (fun c47_6 => ?_)
      · skip
        refine lv_iconst (v := nI (0)) hx hb dX3_isNewer_54 (by decide) ?_
        exact hret _ _ 55 _ _ hP hD hS (by unfold tg_rnw; rw [if_pos c8_1, if_neg c36_2, decide_eq_false (fun q => q c47_6)]; rfl) rfl dX3_isNewer_55
      · skip
        refine lv_iconst (v := nI (1)) hx hb dX3_isNewer_50 (by decide) ?_
        refine lv_goto (tgt := 55) hx hb dX3_isNewer_51 (by decide) ?_
        exact hret _ _ 55 _ _ hP hD hS (by unfold tg_rnw; rw [if_pos c8_1, if_neg c36_2, decide_eq_true c47_6]; rfl) rfl dX3_isNewer_55
  · skip
    refine lv_lload_n hx hb dX3_isNewer_11 rfl (lv_at hl 2 rfl) ?_
    refine lv_aload_n hx hb dX3_isNewer_12 rfl (lv_at hl 0 rfl) ?_
    refine va_get (D := D) (ci := 3) (v := .ref m2) (C := RX3) (T := TX3) (N := 32) hx hb hts hinX3 hown hK hP 0 rfl rfl 2 (by decide) (hts (.fieldLink RX3 13 "TreeGossipModel" "stamps" "[J") (by decide +kernel)) (fun _ h9 => h9) rfl dX3_isNewer_13 ?_
    refine lv_iload_n hx hb dX3_isNewer_16 rfl (lv_at hl 1 rfl) ?_
    refine tg_lald hx hb hK hP 1 rfl (f := ms) (k := ix) (by omega) (by decide) dX3_isNewer_17 ?_
    refine W.lcmp hx hb dX3_isNewer_18 ?_
    refine tg_lle (tgt := 26) hx hb dX3_isNewer_19 (by decide) (fun c19_7 => ?_) (fun c19_7 => ?_)
    · skip
      refine lv_iconst (v := nI (0)) hx hb dX3_isNewer_26 (by decide) ?_
      exact hret _ _ 27 _ _ hP hD hS (by unfold tg_rnw; rw [if_neg c8_1, decide_eq_false (Int64.not_lt.mpr c19_7)]; rfl) rfl dX3_isNewer_27
    · skip
      refine lv_iconst (v := nI (1)) hx hb dX3_isNewer_22 (by decide) ?_
      refine lv_goto (tgt := 27) hx hb dX3_isNewer_23 (by decide) ?_
      exact hret _ _ 27 _ _ hP hD hS (by unfold tg_rnw; rw [if_neg c8_1, decide_eq_true c19_7]; rfl) rfl dX3_isNewer_27
def rmk_X3_merge : Room := { frames := 2, cells := 0, slots := 0, locals := 49 }
theorem ink_X3_merge_X3 : ∀ w ∈ wsX30, w ∈ wsX3_merge := by decide +kernel
set_option maxHeartbeats 4000000 in
set_option maxRecDepth 100000 in
theorem k_X3_merge (l : Launch) (D : va_G) (ty : Nat → ClassId) (m0 : Nat) (m1 : Nat) (m2 : Nat) (m3 : Nat) (m4 : Nat) (m5 : Nat) (m7 : Nat) (m8 : Nat) (m9 : Nat) (m10 : Nat) (m11 : Nat) (m12 : Nat) (m13 : Nat) (m14 : Nat) (m15 : Nat) (m16 : Nat) (m17 : Nat) (m19 : Nat) (m20 : Nat) (m21 : Nat) (m22 : Nat) (m26 : Nat) (m28 : Nat) (m29 : Nat) (m30 : Nat) (m31 : Nat) (cd : Int32) (hh : Int64) (mn : Int32) (c0 : Int32) (c1 : Int32) (c2 : Int32) (gm : Int32) (th : Nat → Int32) (ms : Nat → Int64) (ml : Nat → Int32) (mv : Nat → Int64) (si : Nat) (k : Nat) (s1 : Int64) (n : Nat) (v1 : Int64) (hsi : si ≤ 1) (hk : k < 256) (hn : n ≤ 8) : tg_Mi l yX3_merge wsX3_merge rmk_X3_merge D ty [.ref m0, .int (nI (si)), .int (nI (k)), .long (s1), .int (nI (n)), .long (v1)] [(m0, .inr (3, [.int (cd), .ref m1, .ref m2, .ref m3, .ref m4, .ref m5, .long (hh), .ref m7, .ref m8, .ref m9, .ref m10, .ref m11, .ref m12, .ref m13, .ref m14, .ref m15, .ref m16, .ref m17, .int (mn), .ref m19, .ref m20, .ref m21, .ref m22, .int (c0), .int (c1), .int (c2), .ref m26, .int (gm), .ref m28, .ref m29, .ref m30, .ref m31])), (m1, .inl (ty 2, 512, .inl th)), (m2, .inl (ty 1, 512, .inr (.inl ms))), (m3, .inl (ty 0, 512, .inl ml)), (m4, .inl (ty 1, 512, .inr (.inl mv)))] [(m0, .inr (3, [.int (cd), .ref m1, .ref m2, .ref m3, .ref m4, .ref m5, .long (hh), .ref m7, .ref m8, .ref m9, .ref m10, .ref m11, .ref m12, .ref m13, .ref m14, .ref m15, .ref m16, .ref m17, .int (mn), .ref m19, .ref m20, .ref m21, .ref m22, .int (c0), .int (c1), .int (c2), .ref m26, .int (gm), .ref m28, .ref m29, .ref m30, .ref m31])), (m1, .inl (ty 2, 512, .inl (cond (tg_rin th ms ml mv (256 * si + k) s1 n v1) (upd th (256 * si + k) (nI 1)) th))), (m2, .inl (ty 1, 512, .inr (.inl (cond (tg_rin th ms ml mv (256 * si + k) s1 n v1) (vp_updL ms (256 * si + k) s1) ms)))), (m3, .inl (ty 0, 512, .inl (cond (tg_rin th ms ml mv (256 * si + k) s1 n v1) (upd ml (256 * si + k) (nI n)) ml))), (m4, .inl (ty 1, 512, .inr (.inl (cond (tg_rin th ms ml mv (256 * si + k) s1 n v1) (vp_updL mv (256 * si + k) (tg_ut v1 n)) mv))))] (tg_b (tg_rin th ms ml mv (256 * si + k) s1 n v1)) 0 0 := by
  refine tg_start_z (cc := cX3_merge) (maxL := 9) (lvs := [(0, .ref m0), (1, .int (nI (si))), (2, .int (nI (k))), (3, .long (s1)), (5, .int (nI (n))), (6, .long (v1))]) (by decide) rfl (Nat.le_of_ble_eq_true rfl) rfl ?_
  intro pp ee ss mm args below meth cc AA ls QQ hx hb hr hts hown hlocks hml hnm hA hP hD hS hK hN hl hret
  have hinX3 := ink_X3_merge_X3
  refine lv_sipush (v := nI (256)) hx hb dX3_merge_0 (by decide) ?_
  refine lv_iload_n hx hb dX3_merge_3 rfl (lv_at hl 1 rfl) ?_
  refine lv_imul hx hb dX3_merge_4 ?_
  refine tg_vi (pk_mul _ _) ?_
  refine lv_iload_n hx hb dX3_merge_5 rfl (lv_at hl 2 rfl) ?_
  refine lv_iadd hx hb dX3_merge_6 ?_
  refine tg_vi (nI_add _ _) ?_
  refine lv_istore (lv' := [(8, .int (nI ((256 * si) + k))), (0, .ref m0), (1, .int (nI (si))), (2, .int (nI (k))), (3, .long (s1)), (5, .int (nI (n))), (6, .long (v1))]) hx hb dX3_merge_7 hl (by decide) rfl (fun ls hl => ?_)
  refine lv_aload_n hx hb dX3_merge_9 rfl (lv_at hl 1 rfl) ?_
  refine va_get (D := D) (ci := 3) (v := .ref m1) (C := RX3) (T := TX3) (N := 32) hx hb hts hinX3 hown hK hP 0 rfl rfl 1 (by decide) (hts (.fieldLink RX3 7 "TreeGossipModel" "there" "[Z") (by decide +kernel)) (fun _ h9 => h9) rfl dX3_merge_10 ?_
  refine lv_iload hx hb dX3_merge_13 (lv_at hl 0 rfl) ?_
  refine tg_zald hx hb hK hP 1 rfl (f := th) (k := (256 * si) + k) (by omega) (by decide) dX3_merge_15 ?_
  refine lv_if_eq (tgt := 35) hx hb dX3_merge_16 (by decide) (fun c16_1 => ?_) (fun c16_1 => ?_)
  · skip
    refine lv_aload_n hx hb dX3_merge_35 rfl (lv_at hl 1 rfl) ?_
    refine va_get (D := D) (ci := 3) (v := .ref m1) (C := RX3) (T := TX3) (N := 32) hx hb hts hinX3 hown hK hP 0 rfl rfl 1 (by decide) (hts (.fieldLink RX3 7 "TreeGossipModel" "there" "[Z") (by decide +kernel)) (fun _ h9 => h9) rfl dX3_merge_36 ?_
    refine lv_iload hx hb dX3_merge_39 (lv_at hl 0 rfl) ?_
    refine lv_iconst (v := nI (1)) hx hb dX3_merge_41 (by decide) ?_
    refine tg_zast hx hb hK hP hD hS 1 rfl (k := (256 * si) + k) (by decide) (by omega) (by decide) dX3_merge_42 (ws' := [(m0, .inr (3, [.int (cd), .ref m1, .ref m2, .ref m3, .ref m4, .ref m5, .long (hh), .ref m7, .ref m8, .ref m9, .ref m10, .ref m11, .ref m12, .ref m13, .ref m14, .ref m15, .ref m16, .ref m17, .int (mn), .ref m19, .ref m20, .ref m21, .ref m22, .int (c0), .int (c1), .int (c2), .ref m26, .int (gm), .ref m28, .ref m29, .ref m30, .ref m31])), (m1, .inl (ty 2, 512, .inl (upd th ((256 * si) + k) (nI (1))))), (m2, .inl (ty 1, 512, .inr (.inl ms))), (m3, .inl (ty 0, 512, .inl ml)), (m4, .inl (ty 1, 512, .inr (.inl mv)))]) rfl (fun H locs hP hD hS => ?_)
    refine lv_aload_n hx hb dX3_merge_43 rfl (lv_at hl 1 rfl) ?_
    refine va_get (D := D) (ci := 3) (v := .ref m2) (C := RX3) (T := TX3) (N := 32) hx hb hts hinX3 hown hK hP 0 rfl rfl 2 (by decide) (hts (.fieldLink RX3 13 "TreeGossipModel" "stamps" "[J") (by decide +kernel)) (fun _ h9 => h9) rfl dX3_merge_44 ?_
    refine lv_iload hx hb dX3_merge_47 (lv_at hl 0 rfl) ?_
    refine lv_lload_n hx hb dX3_merge_49 rfl (lv_at hl 4 rfl) ?_
    refine tg_last hx hb hK hP hD hS 2 rfl (k := (256 * si) + k) (by omega) (by decide) dX3_merge_50 (ws' := [(m0, .inr (3, [.int (cd), .ref m1, .ref m2, .ref m3, .ref m4, .ref m5, .long (hh), .ref m7, .ref m8, .ref m9, .ref m10, .ref m11, .ref m12, .ref m13, .ref m14, .ref m15, .ref m16, .ref m17, .int (mn), .ref m19, .ref m20, .ref m21, .ref m22, .int (c0), .int (c1), .int (c2), .ref m26, .int (gm), .ref m28, .ref m29, .ref m30, .ref m31])), (m1, .inl (ty 2, 512, .inl (upd th ((256 * si) + k) (nI (1))))), (m2, .inl (ty 1, 512, .inr (.inl (vp_updL ms ((256 * si) + k) s1)))), (m3, .inl (ty 0, 512, .inl ml)), (m4, .inl (ty 1, 512, .inr (.inl mv)))]) rfl (fun H locs hP hD hS => ?_)
    refine lv_aload_n hx hb dX3_merge_51 rfl (lv_at hl 1 rfl) ?_
    refine va_get (D := D) (ci := 3) (v := .ref m3) (C := RX3) (T := TX3) (N := 32) hx hb hts hinX3 hown hK hP 0 rfl rfl 3 (by decide) (hts (.fieldLink RX3 17 "TreeGossipModel" "lengths" "[I") (by decide +kernel)) (fun _ h9 => h9) rfl dX3_merge_52 ?_
    refine lv_iload hx hb dX3_merge_55 (lv_at hl 0 rfl) ?_
    refine lv_iload hx hb dX3_merge_57 (lv_at hl 5 rfl) ?_
    refine tg_iast hx hb hK hP hD hS 3 rfl (k := (256 * si) + k) (by omega) (by decide) dX3_merge_59 (ws' := [(m0, .inr (3, [.int (cd), .ref m1, .ref m2, .ref m3, .ref m4, .ref m5, .long (hh), .ref m7, .ref m8, .ref m9, .ref m10, .ref m11, .ref m12, .ref m13, .ref m14, .ref m15, .ref m16, .ref m17, .int (mn), .ref m19, .ref m20, .ref m21, .ref m22, .int (c0), .int (c1), .int (c2), .ref m26, .int (gm), .ref m28, .ref m29, .ref m30, .ref m31])), (m1, .inl (ty 2, 512, .inl (upd th ((256 * si) + k) (nI (1))))), (m2, .inl (ty 1, 512, .inr (.inl (vp_updL ms ((256 * si) + k) s1)))), (m3, .inl (ty 0, 512, .inl (upd ml ((256 * si) + k) (nI (n))))), (m4, .inl (ty 1, 512, .inr (.inl mv)))]) rfl (fun H locs hP hD hS => ?_)
    refine lv_aload_n hx hb dX3_merge_60 rfl (lv_at hl 1 rfl) ?_
    refine va_get (D := D) (ci := 3) (v := .ref m4) (C := RX3) (T := TX3) (N := 32) hx hb hts hinX3 hown hK hP 0 rfl rfl 4 (by decide) (hts (.fieldLink RX3 21 "TreeGossipModel" "values" "[J") (by decide +kernel)) (fun _ h9 => h9) rfl dX3_merge_61 ?_
    refine lv_iload hx hb dX3_merge_64 (lv_at hl 0 rfl) ?_
    refine lv_lload hx hb dX3_merge_66 (lv_at hl 6 rfl) ?_
    refine lv_iload hx hb dX3_merge_68 (lv_at hl 5 rfl) ?_
    refine tg_Sl (As := [.long (v1), .int (nI (n))]) (rest := [.int (nI ((256 * si) + k)), .ref m4]) ⟨hx, hb, hml, hown, hts⟩ (k_X3_cut l D ty v1 n (by omega)) (va_cwS 2 hts gX3_merge_X3_cut rfl rfl rfl (by decide +kernel) ⟨Nat.le_of_ble_eq_true rfl, Nat.le_of_ble_eq_true rfl⟩) hK hN hP hD hS hA rfl hl.1 rfl (Nat.le_of_ble_eq_true rfl) dX3_merge_70 ⟨Nat.le_of_ble_eq_true rfl, Nat.le_of_ble_eq_true rfl⟩ (fun H locs hP hD hS => ?_)
    refine tg_last hx hb hK hP hD hS 4 rfl (k := (256 * si) + k) (by omega) (by decide) dX3_merge_73 (ws' := [(m0, .inr (3, [.int (cd), .ref m1, .ref m2, .ref m3, .ref m4, .ref m5, .long (hh), .ref m7, .ref m8, .ref m9, .ref m10, .ref m11, .ref m12, .ref m13, .ref m14, .ref m15, .ref m16, .ref m17, .int (mn), .ref m19, .ref m20, .ref m21, .ref m22, .int (c0), .int (c1), .int (c2), .ref m26, .int (gm), .ref m28, .ref m29, .ref m30, .ref m31])), (m1, .inl (ty 2, 512, .inl (upd th ((256 * si) + k) (nI (1))))), (m2, .inl (ty 1, 512, .inr (.inl (vp_updL ms ((256 * si) + k) s1)))), (m3, .inl (ty 0, 512, .inl (upd ml ((256 * si) + k) (nI (n))))), (m4, .inl (ty 1, 512, .inr (.inl (vp_updL mv ((256 * si) + k) (tg_ut v1 n)))))]) rfl (fun H locs hP hD hS => ?_)
    refine lv_iconst (v := nI (1)) hx hb dX3_merge_74 (by decide) ?_
    have hin : tg_rin th ms ml mv (256 * si + k) s1 n v1 = true := by unfold tg_rin; rw [decide_eq_true (show th (256 * si + k) = 0 from c16_1)]; rfl
    exact hret _ _ 75 _ _ (by rw [hin]; exact hP) (by rw [hin]; exact hD) hS (by rw [hin]; rfl) rfl dX3_merge_75
  · skip
    refine lv_aload_n hx hb dX3_merge_19 rfl (lv_at hl 1 rfl) ?_
    refine lv_iload hx hb dX3_merge_20 (lv_at hl 0 rfl) ?_
    refine lv_lload_n hx hb dX3_merge_22 rfl (lv_at hl 4 rfl) ?_
    refine lv_iload hx hb dX3_merge_23 (lv_at hl 5 rfl) ?_
    refine lv_lload hx hb dX3_merge_25 (lv_at hl 6 rfl) ?_
    refine tg_Vi (As := [.int (nI ((256 * si) + k)), .long (s1), .int (nI (n)), .long (v1)]) (rest := []) (wr := [(m1, .inl (ty 2, 512, .inl th))]) (w2 := [(m0, .inr (3, [.int (cd), .ref m1, .ref m2, .ref m3, .ref m4, .ref m5, .long (hh), .ref m7, .ref m8, .ref m9, .ref m10, .ref m11, .ref m12, .ref m13, .ref m14, .ref m15, .ref m16, .ref m17, .int (mn), .ref m19, .ref m20, .ref m21, .ref m22, .int (c0), .int (c1), .int (c2), .ref m26, .int (gm), .ref m28, .ref m29, .ref m30, .ref m31])), (m1, .inl (ty 2, 512, .inl th)), (m2, .inl (ty 1, 512, .inr (.inl ms))), (m3, .inl (ty 0, 512, .inl ml)), (m4, .inl (ty 1, 512, .inr (.inl mv)))]) ⟨hx, hb, hml, hown, hts⟩ (k_X3_isNewer l D ty m0 m1 m2 m3 m4 m5 m7 m8 m9 m10 m11 m12 m13 m14 m15 m16 m17 m19 m20 m21 m22 m26 m28 m29 m30 m31 cd hh mn c0 c1 c2 gm ms ml mv ((256 * si) + k) s1 n v1 (by omega) (by omega)) (cwV 4 hts gX3_merge_X3_isNewer rfl rfl rfl (by decide +kernel) ⟨Nat.le_of_ble_eq_true rfl, Nat.le_of_ble_eq_true rfl⟩) hK hN hP hD hS hA [0, 2, 3, 4] [1] [1, 0, 2, 3, 4] 0 3 rfl rfl rfl rfl rfl rfl rfl (by decide) rfl hl.1 rfl (Nat.le_of_ble_eq_true rfl) dX3_merge_27 rfl rfl ⟨Nat.le_of_ble_eq_true rfl, Nat.le_of_ble_eq_true rfl⟩ (fun H locs hP hD hS => ?_)
    refine tg_if_neb (tgt := 35) hx hb dX3_merge_30 (by decide) (fun c30_2 => ?_) (fun c30_2 => ?_)
    · skip
      refine lv_aload_n hx hb dX3_merge_35 rfl (lv_at hl 1 rfl) ?_
      refine va_get (D := D) (ci := 3) (v := .ref m1) (C := RX3) (T := TX3) (N := 32) hx hb hts hinX3 hown hK hP 0 rfl rfl 1 (by decide) (hts (.fieldLink RX3 7 "TreeGossipModel" "there" "[Z") (by decide +kernel)) (fun _ h9 => h9) rfl dX3_merge_36 ?_
      refine lv_iload hx hb dX3_merge_39 (lv_at hl 0 rfl) ?_
      refine lv_iconst (v := nI (1)) hx hb dX3_merge_41 (by decide) ?_
      refine tg_zast hx hb hK hP hD hS 1 rfl (k := (256 * si) + k) (by decide) (by omega) (by decide) dX3_merge_42 (ws' := [(m0, .inr (3, [.int (cd), .ref m1, .ref m2, .ref m3, .ref m4, .ref m5, .long (hh), .ref m7, .ref m8, .ref m9, .ref m10, .ref m11, .ref m12, .ref m13, .ref m14, .ref m15, .ref m16, .ref m17, .int (mn), .ref m19, .ref m20, .ref m21, .ref m22, .int (c0), .int (c1), .int (c2), .ref m26, .int (gm), .ref m28, .ref m29, .ref m30, .ref m31])), (m1, .inl (ty 2, 512, .inl (upd th ((256 * si) + k) (nI (1))))), (m2, .inl (ty 1, 512, .inr (.inl ms))), (m3, .inl (ty 0, 512, .inl ml)), (m4, .inl (ty 1, 512, .inr (.inl mv)))]) rfl (fun H locs hP hD hS => ?_)
      refine lv_aload_n hx hb dX3_merge_43 rfl (lv_at hl 1 rfl) ?_
      refine va_get (D := D) (ci := 3) (v := .ref m2) (C := RX3) (T := TX3) (N := 32) hx hb hts hinX3 hown hK hP 0 rfl rfl 2 (by decide) (hts (.fieldLink RX3 13 "TreeGossipModel" "stamps" "[J") (by decide +kernel)) (fun _ h9 => h9) rfl dX3_merge_44 ?_
      refine lv_iload hx hb dX3_merge_47 (lv_at hl 0 rfl) ?_
      refine lv_lload_n hx hb dX3_merge_49 rfl (lv_at hl 4 rfl) ?_
      refine tg_last hx hb hK hP hD hS 2 rfl (k := (256 * si) + k) (by omega) (by decide) dX3_merge_50 (ws' := [(m0, .inr (3, [.int (cd), .ref m1, .ref m2, .ref m3, .ref m4, .ref m5, .long (hh), .ref m7, .ref m8, .ref m9, .ref m10, .ref m11, .ref m12, .ref m13, .ref m14, .ref m15, .ref m16, .ref m17, .int (mn), .ref m19, .ref m20, .ref m21, .ref m22, .int (c0), .int (c1), .int (c2), .ref m26, .int (gm), .ref m28, .ref m29, .ref m30, .ref m31])), (m1, .inl (ty 2, 512, .inl (upd th ((256 * si) + k) (nI (1))))), (m2, .inl (ty 1, 512, .inr (.inl (vp_updL ms ((256 * si) + k) s1)))), (m3, .inl (ty 0, 512, .inl ml)), (m4, .inl (ty 1, 512, .inr (.inl mv)))]) rfl (fun H locs hP hD hS => ?_)
      refine lv_aload_n hx hb dX3_merge_51 rfl (lv_at hl 1 rfl) ?_
      refine va_get (D := D) (ci := 3) (v := .ref m3) (C := RX3) (T := TX3) (N := 32) hx hb hts hinX3 hown hK hP 0 rfl rfl 3 (by decide) (hts (.fieldLink RX3 17 "TreeGossipModel" "lengths" "[I") (by decide +kernel)) (fun _ h9 => h9) rfl dX3_merge_52 ?_
      refine lv_iload hx hb dX3_merge_55 (lv_at hl 0 rfl) ?_
      refine lv_iload hx hb dX3_merge_57 (lv_at hl 5 rfl) ?_
      refine tg_iast hx hb hK hP hD hS 3 rfl (k := (256 * si) + k) (by omega) (by decide) dX3_merge_59 (ws' := [(m0, .inr (3, [.int (cd), .ref m1, .ref m2, .ref m3, .ref m4, .ref m5, .long (hh), .ref m7, .ref m8, .ref m9, .ref m10, .ref m11, .ref m12, .ref m13, .ref m14, .ref m15, .ref m16, .ref m17, .int (mn), .ref m19, .ref m20, .ref m21, .ref m22, .int (c0), .int (c1), .int (c2), .ref m26, .int (gm), .ref m28, .ref m29, .ref m30, .ref m31])), (m1, .inl (ty 2, 512, .inl (upd th ((256 * si) + k) (nI (1))))), (m2, .inl (ty 1, 512, .inr (.inl (vp_updL ms ((256 * si) + k) s1)))), (m3, .inl (ty 0, 512, .inl (upd ml ((256 * si) + k) (nI (n))))), (m4, .inl (ty 1, 512, .inr (.inl mv)))]) rfl (fun H locs hP hD hS => ?_)
      refine lv_aload_n hx hb dX3_merge_60 rfl (lv_at hl 1 rfl) ?_
      refine va_get (D := D) (ci := 3) (v := .ref m4) (C := RX3) (T := TX3) (N := 32) hx hb hts hinX3 hown hK hP 0 rfl rfl 4 (by decide) (hts (.fieldLink RX3 21 "TreeGossipModel" "values" "[J") (by decide +kernel)) (fun _ h9 => h9) rfl dX3_merge_61 ?_
      refine lv_iload hx hb dX3_merge_64 (lv_at hl 0 rfl) ?_
      refine lv_lload hx hb dX3_merge_66 (lv_at hl 6 rfl) ?_
      refine lv_iload hx hb dX3_merge_68 (lv_at hl 5 rfl) ?_
      refine tg_Sl (As := [.long (v1), .int (nI (n))]) (rest := [.int (nI ((256 * si) + k)), .ref m4]) ⟨hx, hb, hml, hown, hts⟩ (k_X3_cut l D ty v1 n (by omega)) (va_cwS 2 hts gX3_merge_X3_cut rfl rfl rfl (by decide +kernel) ⟨Nat.le_of_ble_eq_true rfl, Nat.le_of_ble_eq_true rfl⟩) hK hN hP hD hS hA rfl hl.1 rfl (Nat.le_of_ble_eq_true rfl) dX3_merge_70 ⟨Nat.le_of_ble_eq_true rfl, Nat.le_of_ble_eq_true rfl⟩ (fun H locs hP hD hS => ?_)
      refine tg_last hx hb hK hP hD hS 4 rfl (k := (256 * si) + k) (by omega) (by decide) dX3_merge_73 (ws' := [(m0, .inr (3, [.int (cd), .ref m1, .ref m2, .ref m3, .ref m4, .ref m5, .long (hh), .ref m7, .ref m8, .ref m9, .ref m10, .ref m11, .ref m12, .ref m13, .ref m14, .ref m15, .ref m16, .ref m17, .int (mn), .ref m19, .ref m20, .ref m21, .ref m22, .int (c0), .int (c1), .int (c2), .ref m26, .int (gm), .ref m28, .ref m29, .ref m30, .ref m31])), (m1, .inl (ty 2, 512, .inl (upd th ((256 * si) + k) (nI (1))))), (m2, .inl (ty 1, 512, .inr (.inl (vp_updL ms ((256 * si) + k) s1)))), (m3, .inl (ty 0, 512, .inl (upd ml ((256 * si) + k) (nI (n))))), (m4, .inl (ty 1, 512, .inr (.inl (vp_updL mv ((256 * si) + k) (tg_ut v1 n)))))]) rfl (fun H locs hP hD hS => ?_)
      refine lv_iconst (v := nI (1)) hx hb dX3_merge_74 (by decide) ?_
      have hin : tg_rin th ms ml mv (256 * si + k) s1 n v1 = true := by unfold tg_rin; rw [c30_2, Bool.or_true]
      exact hret _ _ 75 _ _ (by rw [hin]; exact hP) (by rw [hin]; exact hD) hS (by rw [hin]; rfl) rfl dX3_merge_75
    · skip
      refine lv_iconst (v := nI (0)) hx hb dX3_merge_33 (by decide) ?_
      have hin : tg_rin th ms ml mv (256 * si + k) s1 n v1 = false := by unfold tg_rin; rw [decide_eq_false (show ¬ th (256 * si + k) = 0 from c16_1), c30_2]; rfl
      exact hret _ _ 34 _ _ (by rw [hin]; exact hP) (by rw [hin]; exact hD) hS (by rw [hin]; rfl) rfl dX3_merge_34
def rmk_X3_mix : Room := { frames := 0, cells := 0, slots := 0, locals := 0 }
theorem ink_X3_mix_X3 : ∀ w ∈ wsX30, w ∈ wsX3_mix := by decide +kernel
set_option maxHeartbeats 4000000 in
set_option maxRecDepth 100000 in
theorem k_X3_mix (l : Launch) (D : va_G) (ty : Nat → ClassId) (m0 : Nat) (m1 : Nat) (m2 : Nat) (m3 : Nat) (m4 : Nat) (m5 : Nat) (m7 : Nat) (m8 : Nat) (m9 : Nat) (m10 : Nat) (m11 : Nat) (m12 : Nat) (m13 : Nat) (m14 : Nat) (m15 : Nat) (m16 : Nat) (m17 : Nat) (m19 : Nat) (m20 : Nat) (m21 : Nat) (m22 : Nat) (m26 : Nat) (m28 : Nat) (m29 : Nat) (m30 : Nat) (m31 : Nat) (cd : Int32) (hh : Int64) (mn : Int32) (c0 : Int32) (c1 : Int32) (c2 : Int32) (gm : Int32) (b : Int32)  : tg_Mv l yX3_mix wsX3_mix rmk_X3_mix D ty [.ref m0, .int (b)] [(m0, .inr (3, [.int (cd), .ref m1, .ref m2, .ref m3, .ref m4, .ref m5, .long (hh), .ref m7, .ref m8, .ref m9, .ref m10, .ref m11, .ref m12, .ref m13, .ref m14, .ref m15, .ref m16, .ref m17, .int (mn), .ref m19, .ref m20, .ref m21, .ref m22, .int (c0), .int (c1), .int (c2), .ref m26, .int (gm), .ref m28, .ref m29, .ref m30, .ref m31]))] (fun _ : Unit => [(m0, .inr (3, [.int (cd), .ref m1, .ref m2, .ref m3, .ref m4, .ref m5, .long (tg_mxi hh b), .ref m7, .ref m8, .ref m9, .ref m10, .ref m11, .ref m12, .ref m13, .ref m14, .ref m15, .ref m16, .ref m17, .int (mn), .ref m19, .ref m20, .ref m21, .ref m22, .int (c0), .int (c1), .int (c2), .ref m26, .int (gm), .ref m28, .ref m29, .ref m30, .ref m31]))]) 0 0 := by
  refine tg_start_v (cc := cX3_mix) (maxL := 2) (lvs := [(0, .ref m0), (1, .int (b))]) (by decide) rfl (Nat.le_of_ble_eq_true rfl) rfl ?_
  intro pp ee ss mm args below meth cc AA ls QQ hx hb hr hts hown hlocks hml hnm hA hP hD hS hK hN hl hret
  have hinX3 := ink_X3_mix_X3
  refine lv_aload_n hx hb dX3_mix_0 rfl (lv_at hl 0 rfl) ?_
  refine lv_aload_n hx hb dX3_mix_1 rfl (lv_at hl 0 rfl) ?_
  refine va_get (D := D) (ci := 3) (v := .long (hh)) (C := RX3) (T := TX3) (N := 32) hx hb hts hinX3 hown hK hP 0 rfl rfl 6 (by decide) (hts (.fieldLink RX3 114 "TreeGossipModel" "h" "J") (by decide +kernel)) (fun _ h9 => h9) rfl dX3_mix_2 ?_
  refine lv_iload_n hx hb dX3_mix_5 rfl (lv_at hl 1 rfl) ?_
  refine lv_i2l (v := Int32.toInt64 b) hx hb dX3_mix_6 rfl ?_
  refine lv_lxor hx hb dX3_mix_7 ?_
  refine lv_ldc2 (v := -7046029254386353131) hx hb hown (hts (.constantLong RX3 118 (-7046029254386353131)) (by decide +kernel)) dX3_mix_8 ?_
  refine lv_lmul hx hb dX3_mix_11 ?_
  refine tg_put (ci := 3) (v := .long ((hh ^^^ (Int32.toInt64 b)) * (-7046029254386353131))) (ft := .long) (C := RX3) (T := TX3) (N := 32) hx hb hts hinX3 tyX3 tyX3_ok nmX3 hown hK hP hD hS 0 rfl rfl 6 (by decide) (hts (.fieldLink RX3 114 "TreeGossipModel" "h" "J") (by decide +kernel)) (fun _ h9 => h9) rfl (by decide +kernel) rfl rfl (Nat.le_of_ble_eq_true rfl) dX3_mix_12 (ws' := [(m0, .inr (3, [.int (cd), .ref m1, .ref m2, .ref m3, .ref m4, .ref m5, .long ((hh ^^^ (Int32.toInt64 b)) * (-7046029254386353131)), .ref m7, .ref m8, .ref m9, .ref m10, .ref m11, .ref m12, .ref m13, .ref m14, .ref m15, .ref m16, .ref m17, .int (mn), .ref m19, .ref m20, .ref m21, .ref m22, .int (c0), .int (c1), .int (c2), .ref m26, .int (gm), .ref m28, .ref m29, .ref m30, .ref m31]))]) rfl (fun H locs hP hD hS => ?_)
  refine lv_aload_n hx hb dX3_mix_15 rfl (lv_at hl 0 rfl) ?_
  refine lv_aload_n hx hb dX3_mix_16 rfl (lv_at hl 0 rfl) ?_
  refine va_get (D := D) (ci := 3) (v := .long ((hh ^^^ (Int32.toInt64 b)) * (-7046029254386353131))) (C := RX3) (T := TX3) (N := 32) hx hb hts hinX3 hown hK hP 0 rfl rfl 6 (by decide) (hts (.fieldLink RX3 114 "TreeGossipModel" "h" "J") (by decide +kernel)) (fun _ h9 => h9) rfl dX3_mix_17 ?_
  refine lv_bipush (v := nI (23)) hx hb dX3_mix_20 (by decide) ?_
  refine lv_lshl (v := tg_ll ((hh ^^^ (Int32.toInt64 b)) * (-7046029254386353131)) (nI (23))) hx hb dX3_mix_22 rfl ?_
  refine lv_aload_n hx hb dX3_mix_23 rfl (lv_at hl 0 rfl) ?_
  refine va_get (D := D) (ci := 3) (v := .long ((hh ^^^ (Int32.toInt64 b)) * (-7046029254386353131))) (C := RX3) (T := TX3) (N := 32) hx hb hts hinX3 hown hK hP 0 rfl rfl 6 (by decide) (hts (.fieldLink RX3 114 "TreeGossipModel" "h" "J") (by decide +kernel)) (fun _ h9 => h9) rfl dX3_mix_24 ?_
  refine lv_bipush (v := nI (41)) hx hb dX3_mix_27 (by decide) ?_
  refine lv_lushr (v := tg_lu ((hh ^^^ (Int32.toInt64 b)) * (-7046029254386353131)) (nI (41))) hx hb dX3_mix_29 rfl ?_
  refine lv_lor hx hb dX3_mix_30 ?_
  refine tg_put (ci := 3) (v := .long ((tg_ll ((hh ^^^ (Int32.toInt64 b)) * (-7046029254386353131)) (nI (23))) ||| (tg_lu ((hh ^^^ (Int32.toInt64 b)) * (-7046029254386353131)) (nI (41))))) (ft := .long) (C := RX3) (T := TX3) (N := 32) hx hb hts hinX3 tyX3 tyX3_ok nmX3 hown hK hP hD hS 0 rfl rfl 6 (by decide) (hts (.fieldLink RX3 114 "TreeGossipModel" "h" "J") (by decide +kernel)) (fun _ h9 => h9) rfl (by decide +kernel) rfl rfl (Nat.le_of_ble_eq_true rfl) dX3_mix_31 (ws' := [(m0, .inr (3, [.int (cd), .ref m1, .ref m2, .ref m3, .ref m4, .ref m5, .long ((tg_ll ((hh ^^^ (Int32.toInt64 b)) * (-7046029254386353131)) (nI (23))) ||| (tg_lu ((hh ^^^ (Int32.toInt64 b)) * (-7046029254386353131)) (nI (41)))), .ref m7, .ref m8, .ref m9, .ref m10, .ref m11, .ref m12, .ref m13, .ref m14, .ref m15, .ref m16, .ref m17, .int (mn), .ref m19, .ref m20, .ref m21, .ref m22, .int (c0), .int (c1), .int (c2), .ref m26, .int (gm), .ref m28, .ref m29, .ref m30, .ref m31]))]) rfl (fun H locs hP hD hS => ?_)
  exact hret _ _ 34 _ () hP hD hS dX3_mix_34
def rmk_X3_mixLong : Room := { frames := 1, cells := 0, slots := 0, locals := 22 }
set_option maxHeartbeats 4000000 in
set_option maxRecDepth 100000 in
theorem k_X3_mixLong (l : Launch) (D : va_G) (ty : Nat → ClassId) (m0 : Nat) (m1 : Nat) (m2 : Nat) (m3 : Nat) (m4 : Nat) (m5 : Nat) (m7 : Nat) (m8 : Nat) (m9 : Nat) (m10 : Nat) (m11 : Nat) (m12 : Nat) (m13 : Nat) (m14 : Nat) (m15 : Nat) (m16 : Nat) (m17 : Nat) (m19 : Nat) (m20 : Nat) (m21 : Nat) (m22 : Nat) (m26 : Nat) (m28 : Nat) (m29 : Nat) (m30 : Nat) (m31 : Nat) (cd : Int32) (hh : Int64) (mn : Int32) (c0 : Int32) (c1 : Int32) (c2 : Int32) (gm : Int32) (v : Int64)  : tg_Mv l yX3_mixLong wsX3_mixLong rmk_X3_mixLong D ty [.ref m0, .long (v)] [(m0, .inr (3, [.int (cd), .ref m1, .ref m2, .ref m3, .ref m4, .ref m5, .long (hh), .ref m7, .ref m8, .ref m9, .ref m10, .ref m11, .ref m12, .ref m13, .ref m14, .ref m15, .ref m16, .ref m17, .int (mn), .ref m19, .ref m20, .ref m21, .ref m22, .int (c0), .int (c1), .int (c2), .ref m26, .int (gm), .ref m28, .ref m29, .ref m30, .ref m31]))] (fun _ : Unit => [(m0, .inr (3, [.int (cd), .ref m1, .ref m2, .ref m3, .ref m4, .ref m5, .long (tg_ml8 hh v 8), .ref m7, .ref m8, .ref m9, .ref m10, .ref m11, .ref m12, .ref m13, .ref m14, .ref m15, .ref m16, .ref m17, .int (mn), .ref m19, .ref m20, .ref m21, .ref m22, .int (c0), .int (c1), .int (c2), .ref m26, .int (gm), .ref m28, .ref m29, .ref m30, .ref m31]))]) 0 0 := by
  refine tg_start_v (cc := cX3_mixLong) (maxL := 4) (lvs := [(0, .ref m0), (1, .long (v))]) (by decide) rfl (Nat.le_of_ble_eq_true rfl) rfl ?_
  intro pp ee ss mm args below meth cc AA ls QQ hx hb hr hts hown hlocks hml hnm hA hP hD hS hK hN hl hret
  refine lv_iconst (v := nI (0)) hx hb dX3_mixLong_0 (by decide) ?_
  refine lv_istore_n (lv' := [(3, .int (nI (0))), (0, .ref m0), (1, .long (v))]) hx hb dX3_mixLong_1 rfl hl (by decide) rfl (fun ls hl => ?_)
  have hL2 : ∀ (n2 i : Nat) , i ≤ 8 → 8 + 1 ≤ i + n2 → ∀ (H : Heap) (locs : List Loc) (ls : Array Slot), va_P D vwCl [(m0, .inr (3, [.int (cd), .ref m1, .ref m2, .ref m3, .ref m4, .ref m5, .long (tg_ml8 hh v i), .ref m7, .ref m8, .ref m9, .ref m10, .ref m11, .ref m12, .ref m13, .ref m14, .ref m15, .ref m16, .ref m17, .int (mn), .ref m19, .ref m20, .ref m21, .ref m22, .int (c0), .int (c1), .int (c2), .ref m26, .int (gm), .ref m28, .ref m29, .ref m30, .ref m31]))] H → va_D AA [(m0, .inr (3, [.int (cd), .ref m1, .ref m2, .ref m3, .ref m4, .ref m5, .long (tg_ml8 hh v i), .ref m7, .ref m8, .ref m9, .ref m10, .ref m11, .ref m12, .ref m13, .ref m14, .ref m15, .ref m16, .ref m17, .int (mn), .ref m19, .ref m20, .ref m21, .ref m22, .int (c0), .int (c1), .int (c2), .ref m26, .int (gm), .ref m28, .ref m29, .ref m30, .ref m31]))] → va_S AA ss.heap H locs → lv_has ls 4 [(0, .ref m0), (1, .long (v)), (3, .int (nI (i)))] → W pp l ee rmk_X3_mixLong ss mm args below meth cc H locs 0 0 QQ (F0 mm 2 ls []) := by
    intro n2
    induction n2 with
    | zero => intro i  h1 h2; omega
    | succ n2 ih2 =>
      intro i  hi2 hn2  H locs ls hP hD hS hl
      refine lv_iload_n hx hb dX3_mixLong_2 rfl (lv_at hl 2 rfl) ?_
      refine lv_bipush (v := nI (8)) hx hb dX3_mixLong_3 (by decide) ?_
      refine tg_ge (tgt := 23) hx hb dX3_mixLong_5 (by decide) (by omega) (by omega) (fun c5_1 => ?_) (fun c5_1 => ?_)
      · skip
        obtain rfl : 8 = i := by omega
        exact hret _ _ 23 _ () hP hD hS dX3_mixLong_23
      · skip
        refine lv_aload_n hx hb dX3_mixLong_8 rfl (lv_at hl 0 rfl) ?_
        refine lv_lload_n hx hb dX3_mixLong_9 rfl (lv_at hl 1 rfl) ?_
        refine lv_iload_n hx hb dX3_mixLong_10 rfl (lv_at hl 2 rfl) ?_
        refine tg_Si (As := [.long (v), .int (nI (i))]) (rest := [.ref m0]) ⟨hx, hb, hml, hown, hts⟩ (k_X3_byteOf l D ty v i (by omega)) (va_cwS 2 hts gX3_mixLong_X3_byteOf rfl rfl rfl (by decide +kernel) ⟨Nat.le_of_ble_eq_true rfl, Nat.le_of_ble_eq_true rfl⟩) hK hN hP hD hS hA rfl hl.1 rfl (Nat.le_of_ble_eq_true rfl) dX3_mixLong_11 ⟨Nat.le_of_ble_eq_true rfl, Nat.le_of_ble_eq_true rfl⟩ (fun H locs hP hD hS => ?_)
        refine tg_Vv (As := [.int (tg_bi v i)]) (rest := []) (wr := []) (w2 := [(m0, .inr (3, [.int (cd), .ref m1, .ref m2, .ref m3, .ref m4, .ref m5, .long (tg_mxi (tg_ml8 hh v i) (tg_bi v i)), .ref m7, .ref m8, .ref m9, .ref m10, .ref m11, .ref m12, .ref m13, .ref m14, .ref m15, .ref m16, .ref m17, .int (mn), .ref m19, .ref m20, .ref m21, .ref m22, .int (c0), .int (c1), .int (c2), .ref m26, .int (gm), .ref m28, .ref m29, .ref m30, .ref m31]))]) ⟨hx, hb, hml, hown, hts⟩ (k_X3_mix l D ty m0 m1 m2 m3 m4 m5 m7 m8 m9 m10 m11 m12 m13 m14 m15 m16 m17 m19 m20 m21 m22 m26 m28 m29 m30 m31 cd (tg_ml8 hh v i) mn c0 c1 c2 gm (tg_bi v i) ) (cwV 1 hts gX3_mixLong_X3_mix rfl rfl rfl (by decide +kernel) ⟨Nat.le_of_ble_eq_true rfl, Nat.le_of_ble_eq_true rfl⟩) hK hN hP hD hS hA [0] [] [0] 0 3 rfl rfl rfl rfl rfl rfl rfl (by decide) rfl hl.1 rfl (Nat.le_of_ble_eq_true rfl) dX3_mixLong_14 rfl rfl ⟨Nat.le_of_ble_eq_true rfl, Nat.le_of_ble_eq_true rfl⟩ (fun H locs hP hD hS => ?_)
        refine lv_iinc (v := nI (i + 1)) (lv' := [(3, .int (nI (i + 1))), (0, .ref m0), (1, .long (v))]) hx hb dX3_mixLong_17 hl (k := 2) rfl (tg_inc1 _) (by decide) rfl (fun ls hl => ?_)
        refine lv_goto (tgt := 2) hx hb dX3_mixLong_20 (by decide) ?_
        exact ih2 (i + 1) (by omega) (by omega)  _ _ _ hP hD hS (lv_sub hl [1, 2, 0] rfl)
  exact hL2 (8 + 1) 0 (by omega) (by omega)  _ _ _ hP hD hS (lv_sub hl [1, 2, 0] rfl)
def rmk_X3_begin : Room := { frames := 0, cells := 0, slots := 0, locals := 0 }
set_option maxHeartbeats 4000000 in
set_option maxRecDepth 100000 in
theorem k_X3_begin (l : Launch) (D : va_G) (ty : Nat → ClassId) (k : Nat) (hk : k < 4) : tg_Mi l yX3_begin wsX3_begin rmk_X3_begin D ty [.int (nI (k))] [] [] (nI (tg_bg k)) 0 0 := by
  refine tg_start_i (cc := cX3_begin) (maxL := 1) (lvs := [(0, .int (nI (k)))]) (by decide) rfl (Nat.le_of_ble_eq_true rfl) rfl ?_
  intro pp ee ss mm args below meth cc AA ls QQ hx hb hr hts hown hlocks hml hnm hA hP hD hS hK hN hl hret
  refine lv_iload_n hx hb dX3_begin_0 rfl (lv_at hl 0 rfl) ?_
  refine tg_if_ne (tgt := 8) hx hb dX3_begin_1 (by decide) (by omega) (fun c1_1 => ?_) (fun c1_1 => ?_)
  · skip
    refine lv_iload_n hx hb dX3_begin_8 rfl (lv_at hl 0 rfl) ?_
    refine lv_iconst (v := nI (1)) hx hb dX3_begin_9 (by decide) ?_
    refine tg_ne (tgt := 17) hx hb dX3_begin_10 (by decide) (by omega) (by omega) (fun c10_2 => ?_) (fun c10_2 => ?_)
    · skip
      refine lv_iload_n hx hb dX3_begin_17 rfl (lv_at hl 0 rfl) ?_
      refine lv_iconst (v := nI (2)) hx hb dX3_begin_18 (by decide) ?_
      refine tg_ne (tgt := 26) hx hb dX3_begin_19 (by decide) (by omega) (by omega) (fun c19_3 => ?_) (fun c19_3 => ?_)
      · skip
        refine lv_bipush (v := nI (21)) hx hb dX3_begin_26 (by decide) ?_
        exact hret _ _ 28 _ _ hP hD hS (by unfold tg_bg; rw [if_neg c1_1, if_neg c10_2, if_neg c19_3]) dX3_begin_28
      · skip
        refine lv_iconst (v := nI (5)) hx hb dX3_begin_22 (by decide) ?_
        refine lv_goto (tgt := 28) hx hb dX3_begin_23 (by decide) ?_
        exact hret _ _ 28 _ _ hP hD hS (by unfold tg_bg; rw [if_neg c1_1, if_neg c10_2, if_pos c19_3]) dX3_begin_28
    · skip
      refine lv_iconst (v := nI (1)) hx hb dX3_begin_13 (by decide) ?_
      refine lv_goto (tgt := 28) hx hb dX3_begin_14 (by decide) ?_
      exact hret _ _ 28 _ _ hP hD hS (by unfold tg_bg; rw [if_neg c1_1, if_pos c10_2]) dX3_begin_28
  · skip
    refine lv_iconst (v := nI (0)) hx hb dX3_begin_4 (by decide) ?_
    refine lv_goto (tgt := 28) hx hb dX3_begin_5 (by decide) ?_
    exact hret _ _ 28 _ _ hP hD hS (by unfold tg_bg; rw [if_pos c1_1]) dX3_begin_28
def rmk_X3_width : Room := { frames := 0, cells := 0, slots := 0, locals := 0 }
set_option maxHeartbeats 4000000 in
set_option maxRecDepth 100000 in
theorem k_X3_width (l : Launch) (D : va_G) (ty : Nat → ClassId) (k : Nat) (hk : k < 4) : tg_Mi l yX3_width wsX3_width rmk_X3_width D ty [.int (nI (k))] [] [] (nI (4 ^ k)) 0 0 := by
  refine tg_start_i (cc := cX3_width) (maxL := 1) (lvs := [(0, .int (nI (k)))]) (by decide) rfl (Nat.le_of_ble_eq_true rfl) rfl ?_
  intro pp ee ss mm args below meth cc AA ls QQ hx hb hr hts hown hlocks hml hnm hA hP hD hS hK hN hl hret
  refine lv_iconst (v := nI (1)) hx hb dX3_width_0 (by decide) ?_
  refine lv_iconst (v := nI (2)) hx hb dX3_width_1 (by decide) ?_
  refine lv_iload_n hx hb dX3_width_2 rfl (lv_at hl 0 rfl) ?_
  refine lv_imul hx hb dX3_width_3 ?_
  refine tg_vi (pk_mul _ _) ?_
  refine lv_ishl hx hb dX3_width_4 ?_
  refine tg_vi (tg_n4 k hk) ?_
  exact hret _ _ 5 _ _ hP hD hS (rfl) dX3_width_5
