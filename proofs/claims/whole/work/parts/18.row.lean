/-! ===== contracts: Row ===== -/
def rmk_J6_bitCount_0f7a4 : Room := { frames := 0, cells := 0, slots := 0, locals := 0 }
set_option maxHeartbeats 4000000 in
set_option maxRecDepth 100000 in
theorem k_J6_bitCount_0f7a4 (l : Launch) (D : va_G) (ty : Nat → ClassId) (m : Nat) (hm : m < 16) : tg_Mi l yJ6_bitCount_0f7a4 wsJ6_bitCount_0f7a4 rmk_J6_bitCount_0f7a4 D ty [.int (nI (m))] [] [] (nI (tg_pc m)) 0 0 := by
  refine tg_start_i (cc := cJ6_bitCount_0f7a4) (maxL := 1) (lvs := [(0, .int (nI (m)))]) (by decide) rfl (Nat.le_of_ble_eq_true rfl) rfl ?_
  intro pp ee ss mm args below meth cc AA ls QQ hx hb hr hts hown hlocks hml hnm hA hP hD hS hK hN hl hret
  refine lv_iload_n hx hb dJ6_bitCount_0f7a4_0 rfl (lv_at hl 0 rfl) ?_
  refine lv_iload_n hx hb dJ6_bitCount_0f7a4_1 rfl (lv_at hl 0 rfl) ?_
  refine lv_iconst (v := nI (1)) hx hb dJ6_bitCount_0f7a4_2 (by decide) ?_
  refine lv_iushr (v := tg_iu (nI (m)) (nI (1))) hx hb dJ6_bitCount_0f7a4_3 rfl ?_
  refine lv_ldcw (v := 1431655765) hx hb hown (hts (.constant RJ6 265 (1431655765)) (by decide +kernel)) dJ6_bitCount_0f7a4_4 ?_
  refine lv_iand hx hb dJ6_bitCount_0f7a4_7 ?_
  refine lv_isub hx hb dJ6_bitCount_0f7a4_8 ?_
  refine lv_istore_n (lv' := [(0, .int ((nI (m)) - ((tg_iu (nI (m)) (nI (1))) &&& 1431655765)))]) hx hb dJ6_bitCount_0f7a4_9 rfl hl (by decide) rfl (fun ls hl => ?_)
  refine lv_iload_n hx hb dJ6_bitCount_0f7a4_10 rfl (lv_at hl 0 rfl) ?_
  refine lv_ldcw (v := 858993459) hx hb hown (hts (.constant RJ6 266 (858993459)) (by decide +kernel)) dJ6_bitCount_0f7a4_11 ?_
  refine lv_iand hx hb dJ6_bitCount_0f7a4_14 ?_
  refine lv_iload_n hx hb dJ6_bitCount_0f7a4_15 rfl (lv_at hl 0 rfl) ?_
  refine lv_iconst (v := nI (2)) hx hb dJ6_bitCount_0f7a4_16 (by decide) ?_
  refine lv_iushr (v := tg_iu ((nI (m)) - ((tg_iu (nI (m)) (nI (1))) &&& 1431655765)) (nI (2))) hx hb dJ6_bitCount_0f7a4_17 rfl ?_
  refine lv_ldcw (v := 858993459) hx hb hown (hts (.constant RJ6 266 (858993459)) (by decide +kernel)) dJ6_bitCount_0f7a4_18 ?_
  refine lv_iand hx hb dJ6_bitCount_0f7a4_21 ?_
  refine lv_iadd hx hb dJ6_bitCount_0f7a4_22 ?_
  refine lv_istore_n (lv' := [(0, .int ((((nI (m)) - ((tg_iu (nI (m)) (nI (1))) &&& 1431655765)) &&& 858993459) + ((tg_iu ((nI (m)) - ((tg_iu (nI (m)) (nI (1))) &&& 1431655765)) (nI (2))) &&& 858993459)))]) hx hb dJ6_bitCount_0f7a4_23 rfl hl (by decide) rfl (fun ls hl => ?_)
  refine lv_iload_n hx hb dJ6_bitCount_0f7a4_24 rfl (lv_at hl 0 rfl) ?_
  refine lv_iload_n hx hb dJ6_bitCount_0f7a4_25 rfl (lv_at hl 0 rfl) ?_
  refine lv_iconst (v := nI (4)) hx hb dJ6_bitCount_0f7a4_26 (by decide) ?_
  refine lv_iushr (v := tg_iu ((((nI (m)) - ((tg_iu (nI (m)) (nI (1))) &&& 1431655765)) &&& 858993459) + ((tg_iu ((nI (m)) - ((tg_iu (nI (m)) (nI (1))) &&& 1431655765)) (nI (2))) &&& 858993459)) (nI (4))) hx hb dJ6_bitCount_0f7a4_27 rfl ?_
  refine lv_iadd hx hb dJ6_bitCount_0f7a4_28 ?_
  refine lv_ldcw (v := 252645135) hx hb hown (hts (.constant RJ6 267 (252645135)) (by decide +kernel)) dJ6_bitCount_0f7a4_29 ?_
  refine lv_iand hx hb dJ6_bitCount_0f7a4_32 ?_
  refine lv_istore_n (lv' := [(0, .int ((((((nI (m)) - ((tg_iu (nI (m)) (nI (1))) &&& 1431655765)) &&& 858993459) + ((tg_iu ((nI (m)) - ((tg_iu (nI (m)) (nI (1))) &&& 1431655765)) (nI (2))) &&& 858993459)) + (tg_iu ((((nI (m)) - ((tg_iu (nI (m)) (nI (1))) &&& 1431655765)) &&& 858993459) + ((tg_iu ((nI (m)) - ((tg_iu (nI (m)) (nI (1))) &&& 1431655765)) (nI (2))) &&& 858993459)) (nI (4)))) &&& 252645135))]) hx hb dJ6_bitCount_0f7a4_33 rfl hl (by decide) rfl (fun ls hl => ?_)
  refine lv_iload_n hx hb dJ6_bitCount_0f7a4_34 rfl (lv_at hl 0 rfl) ?_
  refine lv_iload_n hx hb dJ6_bitCount_0f7a4_35 rfl (lv_at hl 0 rfl) ?_
  refine lv_bipush (v := nI (8)) hx hb dJ6_bitCount_0f7a4_36 (by decide) ?_
  refine lv_iushr (v := tg_iu ((((((nI (m)) - ((tg_iu (nI (m)) (nI (1))) &&& 1431655765)) &&& 858993459) + ((tg_iu ((nI (m)) - ((tg_iu (nI (m)) (nI (1))) &&& 1431655765)) (nI (2))) &&& 858993459)) + (tg_iu ((((nI (m)) - ((tg_iu (nI (m)) (nI (1))) &&& 1431655765)) &&& 858993459) + ((tg_iu ((nI (m)) - ((tg_iu (nI (m)) (nI (1))) &&& 1431655765)) (nI (2))) &&& 858993459)) (nI (4)))) &&& 252645135) (nI (8))) hx hb dJ6_bitCount_0f7a4_38 rfl ?_
  refine lv_iadd hx hb dJ6_bitCount_0f7a4_39 ?_
  refine lv_istore_n (lv' := [(0, .int (((((((nI (m)) - ((tg_iu (nI (m)) (nI (1))) &&& 1431655765)) &&& 858993459) + ((tg_iu ((nI (m)) - ((tg_iu (nI (m)) (nI (1))) &&& 1431655765)) (nI (2))) &&& 858993459)) + (tg_iu ((((nI (m)) - ((tg_iu (nI (m)) (nI (1))) &&& 1431655765)) &&& 858993459) + ((tg_iu ((nI (m)) - ((tg_iu (nI (m)) (nI (1))) &&& 1431655765)) (nI (2))) &&& 858993459)) (nI (4)))) &&& 252645135) + (tg_iu ((((((nI (m)) - ((tg_iu (nI (m)) (nI (1))) &&& 1431655765)) &&& 858993459) + ((tg_iu ((nI (m)) - ((tg_iu (nI (m)) (nI (1))) &&& 1431655765)) (nI (2))) &&& 858993459)) + (tg_iu ((((nI (m)) - ((tg_iu (nI (m)) (nI (1))) &&& 1431655765)) &&& 858993459) + ((tg_iu ((nI (m)) - ((tg_iu (nI (m)) (nI (1))) &&& 1431655765)) (nI (2))) &&& 858993459)) (nI (4)))) &&& 252645135) (nI (8)))))]) hx hb dJ6_bitCount_0f7a4_40 rfl hl (by decide) rfl (fun ls hl => ?_)
  refine lv_iload_n hx hb dJ6_bitCount_0f7a4_41 rfl (lv_at hl 0 rfl) ?_
  refine lv_iload_n hx hb dJ6_bitCount_0f7a4_42 rfl (lv_at hl 0 rfl) ?_
  refine lv_bipush (v := nI (16)) hx hb dJ6_bitCount_0f7a4_43 (by decide) ?_
  refine lv_iushr (v := tg_iu (((((((nI (m)) - ((tg_iu (nI (m)) (nI (1))) &&& 1431655765)) &&& 858993459) + ((tg_iu ((nI (m)) - ((tg_iu (nI (m)) (nI (1))) &&& 1431655765)) (nI (2))) &&& 858993459)) + (tg_iu ((((nI (m)) - ((tg_iu (nI (m)) (nI (1))) &&& 1431655765)) &&& 858993459) + ((tg_iu ((nI (m)) - ((tg_iu (nI (m)) (nI (1))) &&& 1431655765)) (nI (2))) &&& 858993459)) (nI (4)))) &&& 252645135) + (tg_iu ((((((nI (m)) - ((tg_iu (nI (m)) (nI (1))) &&& 1431655765)) &&& 858993459) + ((tg_iu ((nI (m)) - ((tg_iu (nI (m)) (nI (1))) &&& 1431655765)) (nI (2))) &&& 858993459)) + (tg_iu ((((nI (m)) - ((tg_iu (nI (m)) (nI (1))) &&& 1431655765)) &&& 858993459) + ((tg_iu ((nI (m)) - ((tg_iu (nI (m)) (nI (1))) &&& 1431655765)) (nI (2))) &&& 858993459)) (nI (4)))) &&& 252645135) (nI (8)))) (nI (16))) hx hb dJ6_bitCount_0f7a4_45 rfl ?_
  refine lv_iadd hx hb dJ6_bitCount_0f7a4_46 ?_
  refine lv_istore_n (lv' := [(0, .int ((((((((nI (m)) - ((tg_iu (nI (m)) (nI (1))) &&& 1431655765)) &&& 858993459) + ((tg_iu ((nI (m)) - ((tg_iu (nI (m)) (nI (1))) &&& 1431655765)) (nI (2))) &&& 858993459)) + (tg_iu ((((nI (m)) - ((tg_iu (nI (m)) (nI (1))) &&& 1431655765)) &&& 858993459) + ((tg_iu ((nI (m)) - ((tg_iu (nI (m)) (nI (1))) &&& 1431655765)) (nI (2))) &&& 858993459)) (nI (4)))) &&& 252645135) + (tg_iu ((((((nI (m)) - ((tg_iu (nI (m)) (nI (1))) &&& 1431655765)) &&& 858993459) + ((tg_iu ((nI (m)) - ((tg_iu (nI (m)) (nI (1))) &&& 1431655765)) (nI (2))) &&& 858993459)) + (tg_iu ((((nI (m)) - ((tg_iu (nI (m)) (nI (1))) &&& 1431655765)) &&& 858993459) + ((tg_iu ((nI (m)) - ((tg_iu (nI (m)) (nI (1))) &&& 1431655765)) (nI (2))) &&& 858993459)) (nI (4)))) &&& 252645135) (nI (8)))) + (tg_iu (((((((nI (m)) - ((tg_iu (nI (m)) (nI (1))) &&& 1431655765)) &&& 858993459) + ((tg_iu ((nI (m)) - ((tg_iu (nI (m)) (nI (1))) &&& 1431655765)) (nI (2))) &&& 858993459)) + (tg_iu ((((nI (m)) - ((tg_iu (nI (m)) (nI (1))) &&& 1431655765)) &&& 858993459) + ((tg_iu ((nI (m)) - ((tg_iu (nI (m)) (nI (1))) &&& 1431655765)) (nI (2))) &&& 858993459)) (nI (4)))) &&& 252645135) + (tg_iu ((((((nI (m)) - ((tg_iu (nI (m)) (nI (1))) &&& 1431655765)) &&& 858993459) + ((tg_iu ((nI (m)) - ((tg_iu (nI (m)) (nI (1))) &&& 1431655765)) (nI (2))) &&& 858993459)) + (tg_iu ((((nI (m)) - ((tg_iu (nI (m)) (nI (1))) &&& 1431655765)) &&& 858993459) + ((tg_iu ((nI (m)) - ((tg_iu (nI (m)) (nI (1))) &&& 1431655765)) (nI (2))) &&& 858993459)) (nI (4)))) &&& 252645135) (nI (8)))) (nI (16)))))]) hx hb dJ6_bitCount_0f7a4_47 rfl hl (by decide) rfl (fun ls hl => ?_)
  refine lv_iload_n hx hb dJ6_bitCount_0f7a4_48 rfl (lv_at hl 0 rfl) ?_
  refine lv_bipush (v := nI (63)) hx hb dJ6_bitCount_0f7a4_49 (by decide) ?_
  refine lv_iand hx hb dJ6_bitCount_0f7a4_51 ?_
  exact hret _ _ 52 _ _ hP hD hS (tg_bc0 m hm _ rfl _ rfl _ rfl _ rfl _ rfl) dJ6_bitCount_0f7a4_52
def rmk_X0_becomeEmpty : Room := { frames := 0, cells := 0, slots := 0, locals := 0 }
theorem ink_X0_becomeEmpty_X0 : ∀ w ∈ wsX00, w ∈ wsX0_becomeEmpty := by decide +kernel
set_option maxHeartbeats 4000000 in
set_option maxRecDepth 100000 in
theorem k_X0_becomeEmpty (l : Launch) (D : va_G) (ty : Nat → ClassId) (g0 : Nat) (b1 : Nat) (b2 : Nat) (b3 : Nat) (b4 : Nat) (b5 : Nat) (b6 : Nat) (b7 : Nat) (b8 : Nat) (z : Nat) (o : Nat)  : tg_Mv l yX0_becomeEmpty wsX0_becomeEmpty rmk_X0_becomeEmpty D ty [.ref g0] [(g0, .inr (0, [.ref b1, .ref b2, .ref b3, .ref b4, .ref b5, .ref b6, .ref b7, .ref b8, .int (nI (z)), .int (nI (o))]))] (fun _ : Unit => [(g0, .inr (0, [.ref b1, .ref b2, .ref b3, .ref b4, .ref b5, .ref b6, .ref b7, .ref b8, .int (nI (0)), .int (nI (0))]))]) 0 0 := by
  refine tg_start_v (cc := cX0_becomeEmpty) (maxL := 1) (lvs := [(0, .ref g0)]) (by decide) rfl (Nat.le_of_ble_eq_true rfl) rfl ?_
  intro pp ee ss mm args below meth cc AA ls QQ hx hb hr hts hown hlocks hml hnm hA hP hD hS hK hN hl hret
  have hinX0 := ink_X0_becomeEmpty_X0
  refine lv_aload_n hx hb dX0_becomeEmpty_0 rfl (lv_at hl 0 rfl) ?_
  refine lv_iconst (v := nI (0)) hx hb dX0_becomeEmpty_1 (by decide) ?_
  refine tg_put (ci := 0) (v := .int (nI (0))) (ft := .int) (C := RX0) (T := TX0) (N := 10) hx hb hts hinX0 tyX0 tyX0_ok nmX0 hown hK hP hD hS 0 rfl rfl 8 (by decide) (hts (.fieldLink RX0 40 "TreeGossip$Row" "size" "I") (by decide +kernel)) (fun _ h9 => h9) rfl (by decide +kernel) rfl rfl (Nat.le_of_ble_eq_true rfl) dX0_becomeEmpty_2 (ws' := [(g0, .inr (0, [.ref b1, .ref b2, .ref b3, .ref b4, .ref b5, .ref b6, .ref b7, .ref b8, .int (nI (0)), .int (nI (o))]))]) rfl (fun H locs hP hD hS => ?_)
  refine lv_aload_n hx hb dX0_becomeEmpty_5 rfl (lv_at hl 0 rfl) ?_
  refine lv_iconst (v := nI (0)) hx hb dX0_becomeEmpty_6 (by decide) ?_
  refine tg_put (ci := 0) (v := .int (nI (0))) (ft := .int) (C := RX0) (T := TX0) (N := 10) hx hb hts hinX0 tyX0 tyX0_ok nmX0 hown hK hP hD hS 0 rfl rfl 9 (by decide) (hts (.fieldLink RX0 44 "TreeGossip$Row" "oldest" "I") (by decide +kernel)) (fun _ h9 => h9) rfl (by decide +kernel) rfl rfl (Nat.le_of_ble_eq_true rfl) dX0_becomeEmpty_7 (ws' := [(g0, .inr (0, [.ref b1, .ref b2, .ref b3, .ref b4, .ref b5, .ref b6, .ref b7, .ref b8, .int (nI (0)), .int (nI (0))]))]) rfl (fun H locs hP hD hS => ?_)
  exact hret _ _ 10 _ () hP hD hS dX0_becomeEmpty_10
def rmk_X0_ringPlace : Room := { frames := 0, cells := 0, slots := 0, locals := 0 }
theorem ink_X0_ringPlace_X0 : ∀ w ∈ wsX00, w ∈ wsX0_ringPlace := by decide +kernel
set_option maxHeartbeats 4000000 in
set_option maxRecDepth 100000 in
theorem k_X0_ringPlace (l : Launch) (D : va_G) (ty : Nat → ClassId) (g0 : Nat) (b1 : Nat) (b2 : Nat) (b3 : Nat) (b4 : Nat) (b5 : Nat) (b6 : Nat) (b7 : Nat) (b8 : Nat) (z : Nat) (o : Nat) (k : Nat) (ho : o < 100) (hk : k ≤ 100) : tg_Mi l yX0_ringPlace wsX0_ringPlace rmk_X0_ringPlace D ty [.ref g0, .int (nI (k))] [(g0, .inr (0, [.ref b1, .ref b2, .ref b3, .ref b4, .ref b5, .ref b6, .ref b7, .ref b8, .int (nI (z)), .int (nI (o))]))] [(g0, .inr (0, [.ref b1, .ref b2, .ref b3, .ref b4, .ref b5, .ref b6, .ref b7, .ref b8, .int (nI (z)), .int (nI (o))]))] (nI ((o + k) % 100)) 0 0 := by
  refine tg_start_i (cc := cX0_ringPlace) (maxL := 2) (lvs := [(0, .ref g0), (1, .int (nI (k)))]) (by decide) rfl (Nat.le_of_ble_eq_true rfl) rfl ?_
  intro pp ee ss mm args below meth cc AA ls QQ hx hb hr hts hown hlocks hml hnm hA hP hD hS hK hN hl hret
  have hinX0 := ink_X0_ringPlace_X0
  refine lv_aload_n hx hb dX0_ringPlace_0 rfl (lv_at hl 0 rfl) ?_
  refine va_get (D := D) (ci := 0) (v := .int (nI (o))) (C := RX0) (T := TX0) (N := 10) hx hb hts hinX0 hown hK hP 0 rfl rfl 9 (by decide) (hts (.fieldLink RX0 44 "TreeGossip$Row" "oldest" "I") (by decide +kernel)) (fun _ h9 => h9) rfl dX0_ringPlace_1 ?_
  refine lv_iload_n hx hb dX0_ringPlace_4 rfl (lv_at hl 1 rfl) ?_
  refine lv_iadd hx hb dX0_ringPlace_5 ?_
  refine tg_vi (nI_add _ _) ?_
  refine lv_bipush (v := nI (100)) hx hb dX0_ringPlace_6 (by decide) ?_
  refine lv_irem hx hb dX0_ringPlace_8 (by decide) ?_
  refine tg_vi (pk_rem (by omega) (by omega) (by omega)) ?_
  exact hret _ _ 9 _ _ hP hD hS (rfl) dX0_ringPlace_9
def rmk_X0_add : Room := { frames := 1, cells := 0, slots := 0, locals := 21 }
theorem ink_X0_add_X0 : ∀ w ∈ wsX00, w ∈ wsX0_add := by decide +kernel
set_option maxHeartbeats 4000000 in
set_option maxRecDepth 100000 in
theorem k_X0_add (l : Launch) (D : va_G) (ty : Nat → ClassId) (g0 : Nat) (b1 : Nat) (b2 : Nat) (b3 : Nat) (b4 : Nat) (b5 : Nat) (b6 : Nat) (b7 : Nat) (b8 : Nat) (z : Nat) (o : Nat) (ki : Nat → Int32) (lv : Nat → Int32) (no : Nat → Int32) (ma : Nat → Int32) (x1 : Int32) (x2 : Int32) (x3 : Int32) (x4 : Int32) (ho : o < 100) (hz : z < 100) : tg_Mi l yX0_add wsX0_add rmk_X0_add D ty [.ref g0, .int (x1), .int (x2), .int (x3), .int (x4)] [(g0, .inr (0, [.ref b1, .ref b2, .ref b3, .ref b4, .ref b5, .ref b6, .ref b7, .ref b8, .int (nI (z)), .int (nI (o))])), (b1, .inl (ty 0, 100, .inl ki)), (b2, .inl (ty 0, 100, .inl lv)), (b3, .inl (ty 0, 100, .inl no)), (b4, .inl (ty 0, 100, .inl ma))] [(g0, .inr (0, [.ref b1, .ref b2, .ref b3, .ref b4, .ref b5, .ref b6, .ref b7, .ref b8, .int (nI (z + 1)), .int (nI (o))])), (b1, .inl (ty 0, 100, .inl (upd ki ((o + z) % 100) x1))), (b2, .inl (ty 0, 100, .inl (upd lv ((o + z) % 100) x2))), (b3, .inl (ty 0, 100, .inl (upd no ((o + z) % 100) x3))), (b4, .inl (ty 0, 100, .inl (upd ma ((o + z) % 100) x4)))] (nI ((o + z) % 100)) 0 0 := by
  refine tg_start_i (cc := cX0_add) (maxL := 6) (lvs := [(0, .ref g0), (1, .int (x1)), (2, .int (x2)), (3, .int (x3)), (4, .int (x4))]) (by decide) rfl (Nat.le_of_ble_eq_true rfl) rfl ?_
  intro pp ee ss mm args below meth cc AA ls QQ hx hb hr hts hown hlocks hml hnm hA hP hD hS hK hN hl hret
  have hinX0 := ink_X0_add_X0
  refine lv_aload_n hx hb dX0_add_0 rfl (lv_at hl 0 rfl) ?_
  refine va_get (D := D) (ci := 0) (v := .int (nI (z))) (C := RX0) (T := TX0) (N := 10) hx hb hts hinX0 hown hK hP 0 rfl rfl 8 (by decide) (hts (.fieldLink RX0 40 "TreeGossip$Row" "size" "I") (by decide +kernel)) (fun _ h9 => h9) rfl dX0_add_1 ?_
  refine lv_bipush (v := nI (100)) hx hb dX0_add_4 (by decide) ?_
  refine tg_ne (tgt := 11) hx hb dX0_add_6 (by decide) (by omega) (by omega) (fun c6_1 => ?_) (fun c6_1 => ?_)
  · skip
    refine lv_aload_n hx hb dX0_add_11 rfl (lv_at hl 0 rfl) ?_
    refine lv_aload_n hx hb dX0_add_12 rfl (lv_at hl 0 rfl) ?_
    refine va_get (D := D) (ci := 0) (v := .int (nI (z))) (C := RX0) (T := TX0) (N := 10) hx hb hts hinX0 hown hK hP 0 rfl rfl 8 (by decide) (hts (.fieldLink RX0 40 "TreeGossip$Row" "size" "I") (by decide +kernel)) (fun _ h9 => h9) rfl dX0_add_13 ?_
    refine tg_Vi (As := [.int (nI (z))]) (rest := []) (wr := [(b1, .inl (ty 0, 100, .inl ki)), (b2, .inl (ty 0, 100, .inl lv)), (b3, .inl (ty 0, 100, .inl no)), (b4, .inl (ty 0, 100, .inl ma))]) (w2 := [(g0, .inr (0, [.ref b1, .ref b2, .ref b3, .ref b4, .ref b5, .ref b6, .ref b7, .ref b8, .int (nI (z)), .int (nI (o))])), (b1, .inl (ty 0, 100, .inl ki)), (b2, .inl (ty 0, 100, .inl lv)), (b3, .inl (ty 0, 100, .inl no)), (b4, .inl (ty 0, 100, .inl ma))]) ⟨hx, hb, hml, hown, hts⟩ (k_X0_ringPlace l D ty g0 b1 b2 b3 b4 b5 b6 b7 b8 z o z (by omega) (by omega)) (cwV 1 hts gX0_add_X0_ringPlace rfl rfl rfl (by decide +kernel) ⟨Nat.le_of_ble_eq_true rfl, Nat.le_of_ble_eq_true rfl⟩) hK hN hP hD hS hA [0] [1, 2, 3, 4] [4, 0, 1, 2, 3] 0 0 rfl rfl rfl rfl rfl rfl rfl (by decide) rfl hl.1 rfl (Nat.le_of_ble_eq_true rfl) dX0_add_16 rfl rfl ⟨Nat.le_of_ble_eq_true rfl, Nat.le_of_ble_eq_true rfl⟩ (fun H locs hP hD hS => ?_)
    refine lv_istore (lv' := [(5, .int (nI ((o + z) % 100))), (0, .ref g0), (1, .int (x1)), (2, .int (x2)), (3, .int (x3)), (4, .int (x4))]) hx hb dX0_add_19 hl (by decide) rfl (fun ls hl => ?_)
    refine lv_aload_n hx hb dX0_add_21 rfl (lv_at hl 1 rfl) ?_
    refine va_get (D := D) (ci := 0) (v := .ref b1) (C := RX0) (T := TX0) (N := 10) hx hb hts hinX0 hown hK hP 0 rfl rfl 0 (by decide) (hts (.fieldLink RX0 11 "TreeGossip$Row" "kinds" "[I") (by decide +kernel)) (fun _ h9 => h9) rfl dX0_add_22 ?_
    refine lv_iload hx hb dX0_add_25 (lv_at hl 0 rfl) ?_
    refine lv_iload_n hx hb dX0_add_27 rfl (lv_at hl 2 rfl) ?_
    refine tg_iast hx hb hK hP hD hS 1 rfl (k := (o + z) % 100) (by omega) (by decide) dX0_add_28 (ws' := [(g0, .inr (0, [.ref b1, .ref b2, .ref b3, .ref b4, .ref b5, .ref b6, .ref b7, .ref b8, .int (nI (z)), .int (nI (o))])), (b1, .inl (ty 0, 100, .inl (upd ki ((o + z) % 100) x1))), (b2, .inl (ty 0, 100, .inl lv)), (b3, .inl (ty 0, 100, .inl no)), (b4, .inl (ty 0, 100, .inl ma))]) rfl (fun H locs hP hD hS => ?_)
    refine lv_aload_n hx hb dX0_add_29 rfl (lv_at hl 1 rfl) ?_
    refine va_get (D := D) (ci := 0) (v := .ref b2) (C := RX0) (T := TX0) (N := 10) hx hb hts hinX0 hown hK hP 0 rfl rfl 1 (by decide) (hts (.fieldLink RX0 15 "TreeGossip$Row" "levels" "[I") (by decide +kernel)) (fun _ h9 => h9) rfl dX0_add_30 ?_
    refine lv_iload hx hb dX0_add_33 (lv_at hl 0 rfl) ?_
    refine lv_iload_n hx hb dX0_add_35 rfl (lv_at hl 3 rfl) ?_
    refine tg_iast hx hb hK hP hD hS 2 rfl (k := (o + z) % 100) (by omega) (by decide) dX0_add_36 (ws' := [(g0, .inr (0, [.ref b1, .ref b2, .ref b3, .ref b4, .ref b5, .ref b6, .ref b7, .ref b8, .int (nI (z)), .int (nI (o))])), (b1, .inl (ty 0, 100, .inl (upd ki ((o + z) % 100) x1))), (b2, .inl (ty 0, 100, .inl (upd lv ((o + z) % 100) x2))), (b3, .inl (ty 0, 100, .inl no)), (b4, .inl (ty 0, 100, .inl ma))]) rfl (fun H locs hP hD hS => ?_)
    refine lv_aload_n hx hb dX0_add_37 rfl (lv_at hl 1 rfl) ?_
    refine va_get (D := D) (ci := 0) (v := .ref b3) (C := RX0) (T := TX0) (N := 10) hx hb hts hinX0 hown hK hP 0 rfl rfl 2 (by decide) (hts (.fieldLink RX0 18 "TreeGossip$Row" "nodes" "[I") (by decide +kernel)) (fun _ h9 => h9) rfl dX0_add_38 ?_
    refine lv_iload hx hb dX0_add_41 (lv_at hl 0 rfl) ?_
    refine lv_iload_n hx hb dX0_add_43 rfl (lv_at hl 4 rfl) ?_
    refine tg_iast hx hb hK hP hD hS 3 rfl (k := (o + z) % 100) (by omega) (by decide) dX0_add_44 (ws' := [(g0, .inr (0, [.ref b1, .ref b2, .ref b3, .ref b4, .ref b5, .ref b6, .ref b7, .ref b8, .int (nI (z)), .int (nI (o))])), (b1, .inl (ty 0, 100, .inl (upd ki ((o + z) % 100) x1))), (b2, .inl (ty 0, 100, .inl (upd lv ((o + z) % 100) x2))), (b3, .inl (ty 0, 100, .inl (upd no ((o + z) % 100) x3))), (b4, .inl (ty 0, 100, .inl ma))]) rfl (fun H locs hP hD hS => ?_)
    refine lv_aload_n hx hb dX0_add_45 rfl (lv_at hl 1 rfl) ?_
    refine va_get (D := D) (ci := 0) (v := .ref b4) (C := RX0) (T := TX0) (N := 10) hx hb hts hinX0 hown hK hP 0 rfl rfl 3 (by decide) (hts (.fieldLink RX0 21 "TreeGossip$Row" "masks" "[I") (by decide +kernel)) (fun _ h9 => h9) rfl dX0_add_46 ?_
    refine lv_iload hx hb dX0_add_49 (lv_at hl 0 rfl) ?_
    refine lv_iload hx hb dX0_add_51 (lv_at hl 5 rfl) ?_
    refine tg_iast hx hb hK hP hD hS 4 rfl (k := (o + z) % 100) (by omega) (by decide) dX0_add_53 (ws' := [(g0, .inr (0, [.ref b1, .ref b2, .ref b3, .ref b4, .ref b5, .ref b6, .ref b7, .ref b8, .int (nI (z)), .int (nI (o))])), (b1, .inl (ty 0, 100, .inl (upd ki ((o + z) % 100) x1))), (b2, .inl (ty 0, 100, .inl (upd lv ((o + z) % 100) x2))), (b3, .inl (ty 0, 100, .inl (upd no ((o + z) % 100) x3))), (b4, .inl (ty 0, 100, .inl (upd ma ((o + z) % 100) x4)))]) rfl (fun H locs hP hD hS => ?_)
    refine lv_aload_n hx hb dX0_add_54 rfl (lv_at hl 1 rfl) ?_
    refine lv_dup hx hb dX0_add_55 rfl ?_
    refine va_get (D := D) (ci := 0) (v := .int (nI (z))) (C := RX0) (T := TX0) (N := 10) hx hb hts hinX0 hown hK hP 0 rfl rfl 8 (by decide) (hts (.fieldLink RX0 40 "TreeGossip$Row" "size" "I") (by decide +kernel)) (fun _ h9 => h9) rfl dX0_add_56 ?_
    refine lv_iconst (v := nI (1)) hx hb dX0_add_59 (by decide) ?_
    refine lv_iadd hx hb dX0_add_60 ?_
    refine tg_vi (nI_add _ _) ?_
    refine tg_put (ci := 0) (v := .int (nI (z + 1))) (ft := .int) (C := RX0) (T := TX0) (N := 10) hx hb hts hinX0 tyX0 tyX0_ok nmX0 hown hK hP hD hS 0 rfl rfl 8 (by decide) (hts (.fieldLink RX0 40 "TreeGossip$Row" "size" "I") (by decide +kernel)) (fun _ h9 => h9) rfl (by decide +kernel) rfl rfl (Nat.le_of_ble_eq_true rfl) dX0_add_61 (ws' := [(g0, .inr (0, [.ref b1, .ref b2, .ref b3, .ref b4, .ref b5, .ref b6, .ref b7, .ref b8, .int (nI (z + 1)), .int (nI (o))])), (b1, .inl (ty 0, 100, .inl (upd ki ((o + z) % 100) x1))), (b2, .inl (ty 0, 100, .inl (upd lv ((o + z) % 100) x2))), (b3, .inl (ty 0, 100, .inl (upd no ((o + z) % 100) x3))), (b4, .inl (ty 0, 100, .inl (upd ma ((o + z) % 100) x4)))]) rfl (fun H locs hP hD hS => ?_)
    refine lv_iload hx hb dX0_add_64 (lv_at hl 0 rfl) ?_
    exact hret _ _ 66 _ _ hP hD hS (rfl) dX0_add_66
  · omega
def rmk_X0_add_full : Room := { frames := 0, cells := 0, slots := 0, locals := 0 }
theorem ink_X0_add_full_X0 : ∀ w ∈ wsX00, w ∈ wsX0_add := by decide +kernel
set_option maxHeartbeats 4000000 in
set_option maxRecDepth 100000 in
theorem k_X0_add_full (l : Launch) (D : va_G) (ty : Nat → ClassId) (g0 : Nat) (b1 : Nat) (b2 : Nat) (b3 : Nat) (b4 : Nat) (b5 : Nat) (b6 : Nat) (b7 : Nat) (b8 : Nat) (z : Nat) (o : Nat) (ki : Nat → Int32) (lv : Nat → Int32) (no : Nat → Int32) (ma : Nat → Int32) (x1 : Int32) (x2 : Int32) (x3 : Int32) (x4 : Int32) (hz : z = 100) : tg_Mi l yX0_add wsX0_add rmk_X0_add_full D ty [.ref g0, .int (x1), .int (x2), .int (x3), .int (x4)] [(g0, .inr (0, [.ref b1, .ref b2, .ref b3, .ref b4, .ref b5, .ref b6, .ref b7, .ref b8, .int (nI (z)), .int (nI (o))])), (b1, .inl (ty 0, 100, .inl ki)), (b2, .inl (ty 0, 100, .inl lv)), (b3, .inl (ty 0, 100, .inl no)), (b4, .inl (ty 0, 100, .inl ma))] [(g0, .inr (0, [.ref b1, .ref b2, .ref b3, .ref b4, .ref b5, .ref b6, .ref b7, .ref b8, .int (nI (z)), .int (nI (o))])), (b1, .inl (ty 0, 100, .inl ki)), (b2, .inl (ty 0, 100, .inl lv)), (b3, .inl (ty 0, 100, .inl no)), (b4, .inl (ty 0, 100, .inl ma))] (-1) 0 0 := by
  refine tg_start_i (cc := cX0_add) (maxL := 6) (lvs := [(0, .ref g0), (1, .int (x1)), (2, .int (x2)), (3, .int (x3)), (4, .int (x4))]) (by decide) rfl (Nat.le_of_ble_eq_true rfl) rfl ?_
  intro pp ee ss mm args below meth cc AA ls QQ hx hb hr hts hown hlocks hml hnm hA hP hD hS hK hN hl hret
  have hinX0 := ink_X0_add_full_X0
  refine lv_aload_n hx hb dX0_add_0 rfl (lv_at hl 0 rfl) ?_
  refine va_get (D := D) (ci := 0) (v := .int (nI (z))) (C := RX0) (T := TX0) (N := 10) hx hb hts hinX0 hown hK hP 0 rfl rfl 8 (by decide) (hts (.fieldLink RX0 40 "TreeGossip$Row" "size" "I") (by decide +kernel)) (fun _ h9 => h9) rfl dX0_add_1 ?_
  refine lv_bipush (v := nI (100)) hx hb dX0_add_4 (by decide) ?_
  refine tg_ne (tgt := 11) hx hb dX0_add_6 (by decide) (by omega) (by omega) (fun c6_1 => ?_) (fun c6_1 => ?_)
  · omega
  · skip
    refine lv_iconst (v := -1) hx hb dX0_add_9 (by decide) ?_
    exact hret _ _ 10 _ _ hP hD hS (rfl) dX0_add_10
def rmk_X0_takeOldest : Room := { frames := 1, cells := 0, slots := 0, locals := 21 }
theorem ink_X0_takeOldest_X0 : ∀ w ∈ wsX00, w ∈ wsX0_takeOldest := by decide +kernel
set_option maxHeartbeats 4000000 in
set_option maxRecDepth 100000 in
theorem k_X0_takeOldest (l : Launch) (D : va_G) (ty : Nat → ClassId) (g0 : Nat) (b1 : Nat) (b2 : Nat) (b3 : Nat) (b4 : Nat) (b5 : Nat) (b6 : Nat) (b7 : Nat) (b8 : Nat) (z : Nat) (o : Nat) (ho : o < 100) (hz : 0 < z) : tg_Mi l yX0_takeOldest wsX0_takeOldest rmk_X0_takeOldest D ty [.ref g0] [(g0, .inr (0, [.ref b1, .ref b2, .ref b3, .ref b4, .ref b5, .ref b6, .ref b7, .ref b8, .int (nI (z)), .int (nI (o))]))] [(g0, .inr (0, [.ref b1, .ref b2, .ref b3, .ref b4, .ref b5, .ref b6, .ref b7, .ref b8, .int (nI (z - 1)), .int (nI ((o + 1) % 100))]))] (nI (o)) 0 0 := by
  refine tg_start_i (cc := cX0_takeOldest) (maxL := 2) (lvs := [(0, .ref g0)]) (by decide) rfl (Nat.le_of_ble_eq_true rfl) rfl ?_
  intro pp ee ss mm args below meth cc AA ls QQ hx hb hr hts hown hlocks hml hnm hA hP hD hS hK hN hl hret
  have hinX0 := ink_X0_takeOldest_X0
  refine lv_aload_n hx hb dX0_takeOldest_0 rfl (lv_at hl 0 rfl) ?_
  refine va_get (D := D) (ci := 0) (v := .int (nI (o))) (C := RX0) (T := TX0) (N := 10) hx hb hts hinX0 hown hK hP 0 rfl rfl 9 (by decide) (hts (.fieldLink RX0 44 "TreeGossip$Row" "oldest" "I") (by decide +kernel)) (fun _ h9 => h9) rfl dX0_takeOldest_1 ?_
  refine lv_istore_n (lv' := [(1, .int (nI (o))), (0, .ref g0)]) hx hb dX0_takeOldest_4 rfl hl (by decide) rfl (fun ls hl => ?_)
  refine lv_aload_n hx hb dX0_takeOldest_5 rfl (lv_at hl 1 rfl) ?_
  refine lv_aload_n hx hb dX0_takeOldest_6 rfl (lv_at hl 1 rfl) ?_
  refine lv_iconst (v := nI (1)) hx hb dX0_takeOldest_7 (by decide) ?_
  refine tg_Vi (As := [.int (nI (1))]) (rest := [.ref g0]) (wr := []) (w2 := [(g0, .inr (0, [.ref b1, .ref b2, .ref b3, .ref b4, .ref b5, .ref b6, .ref b7, .ref b8, .int (nI (z)), .int (nI (o))]))]) ⟨hx, hb, hml, hown, hts⟩ (k_X0_ringPlace l D ty g0 b1 b2 b3 b4 b5 b6 b7 b8 z o 1 (by omega) (by omega)) (cwV 1 hts gX0_takeOldest_X0_ringPlace rfl rfl rfl (by decide +kernel) ⟨Nat.le_of_ble_eq_true rfl, Nat.le_of_ble_eq_true rfl⟩) hK hN hP hD hS hA [0] [] [0] 0 0 rfl rfl rfl rfl rfl rfl rfl (by decide) rfl hl.1 rfl (Nat.le_of_ble_eq_true rfl) dX0_takeOldest_8 rfl rfl ⟨Nat.le_of_ble_eq_true rfl, Nat.le_of_ble_eq_true rfl⟩ (fun H locs hP hD hS => ?_)
  refine tg_put (ci := 0) (v := .int (nI ((o + 1) % 100))) (ft := .int) (C := RX0) (T := TX0) (N := 10) hx hb hts hinX0 tyX0 tyX0_ok nmX0 hown hK hP hD hS 0 rfl rfl 9 (by decide) (hts (.fieldLink RX0 44 "TreeGossip$Row" "oldest" "I") (by decide +kernel)) (fun _ h9 => h9) rfl (by decide +kernel) rfl rfl (Nat.le_of_ble_eq_true rfl) dX0_takeOldest_11 (ws' := [(g0, .inr (0, [.ref b1, .ref b2, .ref b3, .ref b4, .ref b5, .ref b6, .ref b7, .ref b8, .int (nI (z)), .int (nI ((o + 1) % 100))]))]) rfl (fun H locs hP hD hS => ?_)
  refine lv_aload_n hx hb dX0_takeOldest_14 rfl (lv_at hl 1 rfl) ?_
  refine lv_dup hx hb dX0_takeOldest_15 rfl ?_
  refine va_get (D := D) (ci := 0) (v := .int (nI (z))) (C := RX0) (T := TX0) (N := 10) hx hb hts hinX0 hown hK hP 0 rfl rfl 8 (by decide) (hts (.fieldLink RX0 40 "TreeGossip$Row" "size" "I") (by decide +kernel)) (fun _ h9 => h9) rfl dX0_takeOldest_16 ?_
  refine lv_iconst (v := nI (1)) hx hb dX0_takeOldest_19 (by decide) ?_
  refine lv_isub hx hb dX0_takeOldest_20 ?_
  refine tg_vi (pk_sub (by omega)) ?_
  refine tg_put (ci := 0) (v := .int (nI (z - 1))) (ft := .int) (C := RX0) (T := TX0) (N := 10) hx hb hts hinX0 tyX0 tyX0_ok nmX0 hown hK hP hD hS 0 rfl rfl 8 (by decide) (hts (.fieldLink RX0 40 "TreeGossip$Row" "size" "I") (by decide +kernel)) (fun _ h9 => h9) rfl (by decide +kernel) rfl rfl (Nat.le_of_ble_eq_true rfl) dX0_takeOldest_21 (ws' := [(g0, .inr (0, [.ref b1, .ref b2, .ref b3, .ref b4, .ref b5, .ref b6, .ref b7, .ref b8, .int (nI (z - 1)), .int (nI ((o + 1) % 100))]))]) rfl (fun H locs hP hD hS => ?_)
  refine lv_iload_n hx hb dX0_takeOldest_24 rfl (lv_at hl 0 rfl) ?_
  exact hret _ _ 25 _ _ hP hD hS (rfl) dX0_takeOldest_25
def rmk_X0_hasEntry : Room := { frames := 0, cells := 0, slots := 0, locals := 0 }
theorem ink_X0_hasEntry_X0 : ∀ w ∈ wsX00, w ∈ wsX0_hasEntry := by decide +kernel
set_option maxHeartbeats 4000000 in
set_option maxRecDepth 100000 in
theorem k_X0_hasEntry (l : Launch) (D : va_G) (ty : Nat → ClassId) (g0 : Nat) (b1 : Nat) (b2 : Nat) (b3 : Nat) (b4 : Nat) (b5 : Nat) (b6 : Nat) (b7 : Nat) (b8 : Nat) (z : Nat) (o : Nat) (ma : Nat → Int32) (pl : Nat) (pa : Nat) (m : Nat) (hpl : pl < 100) (hpa : pa < 4) (hm : m < 16) (hma : ma pl = nI m) : tg_Mi l yX0_hasEntry wsX0_hasEntry rmk_X0_hasEntry D ty [.ref g0, .int (nI (pl)), .int (nI (pa))] [(g0, .inr (0, [.ref b1, .ref b2, .ref b3, .ref b4, .ref b5, .ref b6, .ref b7, .ref b8, .int (nI (z)), .int (nI (o))])), (b4, .inl (ty 0, 100, .inl ma))] [(g0, .inr (0, [.ref b1, .ref b2, .ref b3, .ref b4, .ref b5, .ref b6, .ref b7, .ref b8, .int (nI (z)), .int (nI (o))])), (b4, .inl (ty 0, 100, .inl ma))] (tg_b (Nat.testBit m pa)) 0 0 := by
  refine tg_start_z (cc := cX0_hasEntry) (maxL := 3) (lvs := [(0, .ref g0), (1, .int (nI (pl))), (2, .int (nI (pa)))]) (by decide) rfl (Nat.le_of_ble_eq_true rfl) rfl ?_
  intro pp ee ss mm args below meth cc AA ls QQ hx hb hr hts hown hlocks hml hnm hA hP hD hS hK hN hl hret
  have hinX0 := ink_X0_hasEntry_X0
  refine lv_aload_n hx hb dX0_hasEntry_0 rfl (lv_at hl 0 rfl) ?_
  refine va_get (D := D) (ci := 0) (v := .ref b4) (C := RX0) (T := TX0) (N := 10) hx hb hts hinX0 hown hK hP 0 rfl rfl 3 (by decide) (hts (.fieldLink RX0 21 "TreeGossip$Row" "masks" "[I") (by decide +kernel)) (fun _ h9 => h9) rfl dX0_hasEntry_1 ?_
  refine lv_iload_n hx hb dX0_hasEntry_4 rfl (lv_at hl 1 rfl) ?_
  refine tg_iald hx hb hK hP 1 rfl (f := ma) (k := pl) (by omega) (by decide) dX0_hasEntry_5 ?_
  refine tg_vi (hma) ?_
  refine lv_iload_n hx hb dX0_hasEntry_6 rfl (lv_at hl 2 rfl) ?_
  refine lv_ishr hx hb dX0_hasEntry_7 ?_
  refine lv_iconst (v := nI (1)) hx hb dX0_hasEntry_8 (by decide) ?_
  refine lv_iand hx hb dX0_hasEntry_9 ?_
  refine tg_vi (tg_tb0 m hm pa hpa) ?_
  refine lv_iconst (v := nI (1)) hx hb dX0_hasEntry_10 (by decide) ?_
  have hlt : (Nat.testBit m pa).toNat ≤ 1 := Bool.toNat_le _
  refine tg_ne (tgt := 18) hx hb dX0_hasEntry_11 (by decide) (by omega) (by omega) (fun c11_1 => ?_) (fun c11_1 => ?_)
  · skip
    refine lv_iconst (v := nI (0)) hx hb dX0_hasEntry_18 (by decide) ?_
    exact hret _ _ 19 _ _ hP hD hS (by cases e : Nat.testBit m pa with | false => rfl | true => exact absurd (by rw [e]; rfl) c11_1) rfl dX0_hasEntry_19
  · skip
    refine lv_iconst (v := nI (1)) hx hb dX0_hasEntry_14 (by decide) ?_
    refine lv_goto (tgt := 19) hx hb dX0_hasEntry_15 (by decide) ?_
    exact hret _ _ 19 _ _ hP hD hS (by cases e : Nat.testBit m pa with | true => rfl | false => exact absurd c11_1 (by rw [e]; decide)) rfl dX0_hasEntry_19
def rmk_X0_copyEntries : Room := { frames := 1, cells := 0, slots := 0, locals := 22 }
theorem ink_X0_copyEntries_X0 : ∀ w ∈ wsX00, w ∈ wsX0_copyEntries := by decide +kernel
theorem ink_X0_copyEntries_X1 : ∀ w ∈ wsX10, w ∈ wsX0_copyEntries := by decide +kernel
set_option maxHeartbeats 4000000 in
set_option maxRecDepth 100000 in
theorem k_X0_copyEntries (l : Launch) (D : va_G) (ty : Nat → ClassId) (g0 : Nat) (b1 : Nat) (b2 : Nat) (b3 : Nat) (b4 : Nat) (b5 : Nat) (b6 : Nat) (b7 : Nat) (b8 : Nat) (z : Nat) (o : Nat) (h0 : Nat) (a1 : Nat) (a2 : Nat) (a3 : Nat) (a4 : Nat) (en : Int32) (no : Nat → Int32) (ma : Nat → Int32) (rs : Nat → Int64) (rv : Nat → Int64) (rl : Nat → Int32) (st : Nat → Int64) (va : Nat → Int64) (le : Nat → Int32) (pl : Nat) (m : Nat) (nd : Nat) (hpl : pl < 100) (hm : m < 16) (hnd : nd < 64) (hma : ma pl = nI m) (hno : no pl = nI nd) : tg_Mv l yX0_copyEntries wsX0_copyEntries rmk_X0_copyEntries D ty [.ref g0, .int (nI (pl)), .ref h0] [(g0, .inr (0, [.ref b1, .ref b2, .ref b3, .ref b4, .ref b5, .ref b6, .ref b7, .ref b8, .int (nI (z)), .int (nI (o))])), (b3, .inl (ty 0, 100, .inl no)), (b4, .inl (ty 0, 100, .inl ma)), (b6, .inl (ty 1, 400, .inr (.inl rs))), (b7, .inl (ty 1, 400, .inr (.inl rv))), (b8, .inl (ty 0, 400, .inl rl)), (h0, .inr (1, [.ref a1, .ref a2, .ref a3, .ref a4, .int (en)])), (a1, .inl (ty 1, 256, .inr (.inl st))), (a2, .inl (ty 1, 256, .inr (.inl va))), (a3, .inl (ty 0, 256, .inl le))] (fun _ : Unit => [(g0, .inr (0, [.ref b1, .ref b2, .ref b3, .ref b4, .ref b5, .ref b6, .ref b7, .ref b8, .int (nI (z)), .int (nI (o))])), (b3, .inl (ty 0, 100, .inl no)), (b4, .inl (ty 0, 100, .inl ma)), (b6, .inl (ty 1, 400, .inr (.inl (tg_cpL rs pl m nd st 4)))), (b7, .inl (ty 1, 400, .inr (.inl (tg_cpL rv pl m nd va 4)))), (b8, .inl (ty 0, 400, .inl (tg_cpI rl pl m nd le 4))), (h0, .inr (1, [.ref a1, .ref a2, .ref a3, .ref a4, .int (en)])), (a1, .inl (ty 1, 256, .inr (.inl st))), (a2, .inl (ty 1, 256, .inr (.inl va))), (a3, .inl (ty 0, 256, .inl le))]) 0 0 := by
  refine tg_start_v (cc := cX0_copyEntries) (maxL := 5) (lvs := [(0, .ref g0), (1, .int (nI (pl))), (2, .ref h0)]) (by decide) rfl (Nat.le_of_ble_eq_true rfl) rfl ?_
  intro pp ee ss mm args below meth cc AA ls QQ hx hb hr hts hown hlocks hml hnm hA hP hD hS hK hN hl hret
  have hinX0 := ink_X0_copyEntries_X0
  have hinX1 := ink_X0_copyEntries_X1
  refine lv_iconst (v := nI (0)) hx hb dX0_copyEntries_0 (by decide) ?_
  refine lv_istore_n (lv' := [(3, .int (nI (0))), (0, .ref g0), (1, .int (nI (pl))), (2, .ref h0)]) hx hb dX0_copyEntries_1 rfl hl (by decide) rfl (fun ls hl => ?_)
  have hL2 : ∀ (n2 i : Nat) , i ≤ 4 → 4 + 1 ≤ i + n2 → ∀ (H : Heap) (locs : List Loc) (ls : Array Slot), va_P D vwCl [(g0, .inr (0, [.ref b1, .ref b2, .ref b3, .ref b4, .ref b5, .ref b6, .ref b7, .ref b8, .int (nI (z)), .int (nI (o))])), (b3, .inl (ty 0, 100, .inl no)), (b4, .inl (ty 0, 100, .inl ma)), (b6, .inl (ty 1, 400, .inr (.inl (tg_cpL rs pl m nd st i)))), (b7, .inl (ty 1, 400, .inr (.inl (tg_cpL rv pl m nd va i)))), (b8, .inl (ty 0, 400, .inl (tg_cpI rl pl m nd le i))), (h0, .inr (1, [.ref a1, .ref a2, .ref a3, .ref a4, .int (en)])), (a1, .inl (ty 1, 256, .inr (.inl st))), (a2, .inl (ty 1, 256, .inr (.inl va))), (a3, .inl (ty 0, 256, .inl le))] H → va_D AA [(g0, .inr (0, [.ref b1, .ref b2, .ref b3, .ref b4, .ref b5, .ref b6, .ref b7, .ref b8, .int (nI (z)), .int (nI (o))])), (b3, .inl (ty 0, 100, .inl no)), (b4, .inl (ty 0, 100, .inl ma)), (b6, .inl (ty 1, 400, .inr (.inl (tg_cpL rs pl m nd st i)))), (b7, .inl (ty 1, 400, .inr (.inl (tg_cpL rv pl m nd va i)))), (b8, .inl (ty 0, 400, .inl (tg_cpI rl pl m nd le i))), (h0, .inr (1, [.ref a1, .ref a2, .ref a3, .ref a4, .int (en)])), (a1, .inl (ty 1, 256, .inr (.inl st))), (a2, .inl (ty 1, 256, .inr (.inl va))), (a3, .inl (ty 0, 256, .inl le))] → va_S AA ss.heap H locs → lv_has ls 5 [(0, .ref g0), (1, .int (nI (pl))), (2, .ref h0), (3, .int (nI (i)))] → W pp l ee rmk_X0_copyEntries ss mm args below meth cc H locs 0 0 QQ (F0 mm 2 ls []) := by
    intro n2
    induction n2 with
    | zero => intro i  h1 h2; omega
    | succ n2 ih2 =>
      intro i  hi2 hn2  H locs ls hP hD hS hl
      refine lv_iload_n hx hb dX0_copyEntries_2 rfl (lv_at hl 3 rfl) ?_
      refine lv_iconst (v := nI (4)) hx hb dX0_copyEntries_3 (by decide) ?_
      refine tg_ge (tgt := 85) hx hb dX0_copyEntries_4 (by decide) (by omega) (by omega) (fun c4_1 => ?_) (fun c4_1 => ?_)
      · skip
        obtain rfl : 4 = i := by omega
        exact hret _ _ 85 _ () hP hD hS dX0_copyEntries_85
      · skip
        refine lv_aload_n hx hb dX0_copyEntries_7 rfl (lv_at hl 0 rfl) ?_
        refine lv_iload_n hx hb dX0_copyEntries_8 rfl (lv_at hl 1 rfl) ?_
        refine lv_iload_n hx hb dX0_copyEntries_9 rfl (lv_at hl 3 rfl) ?_
        refine tg_Vi (As := [.int (nI (pl)), .int (nI (i))]) (rest := []) (wr := [(b3, .inl (ty 0, 100, .inl no)), (b6, .inl (ty 1, 400, .inr (.inl (tg_cpL rs pl m nd st i)))), (b7, .inl (ty 1, 400, .inr (.inl (tg_cpL rv pl m nd va i)))), (b8, .inl (ty 0, 400, .inl (tg_cpI rl pl m nd le i))), (h0, .inr (1, [.ref a1, .ref a2, .ref a3, .ref a4, .int (en)])), (a1, .inl (ty 1, 256, .inr (.inl st))), (a2, .inl (ty 1, 256, .inr (.inl va))), (a3, .inl (ty 0, 256, .inl le))]) (w2 := [(g0, .inr (0, [.ref b1, .ref b2, .ref b3, .ref b4, .ref b5, .ref b6, .ref b7, .ref b8, .int (nI (z)), .int (nI (o))])), (b3, .inl (ty 0, 100, .inl no)), (b4, .inl (ty 0, 100, .inl ma)), (b6, .inl (ty 1, 400, .inr (.inl (tg_cpL rs pl m nd st i)))), (b7, .inl (ty 1, 400, .inr (.inl (tg_cpL rv pl m nd va i)))), (b8, .inl (ty 0, 400, .inl (tg_cpI rl pl m nd le i))), (h0, .inr (1, [.ref a1, .ref a2, .ref a3, .ref a4, .int (en)])), (a1, .inl (ty 1, 256, .inr (.inl st))), (a2, .inl (ty 1, 256, .inr (.inl va))), (a3, .inl (ty 0, 256, .inl le))]) ⟨hx, hb, hml, hown, hts⟩ (k_X0_hasEntry l D ty g0 b1 b2 b3 b4 b5 b6 b7 b8 z o ma pl i m (by omega) (by omega) (by omega) hma) (cwV 2 hts gX0_copyEntries_X0_hasEntry rfl rfl rfl (by decide +kernel) ⟨Nat.le_of_ble_eq_true rfl, Nat.le_of_ble_eq_true rfl⟩) hK hN hP hD hS hA [0, 2] [1, 3, 4, 5, 6, 7, 8, 9] [8, 0, 9, 1, 2, 3, 4, 5, 6, 7] 0 0 rfl rfl rfl rfl rfl rfl rfl (by decide) rfl hl.1 rfl (Nat.le_of_ble_eq_true rfl) dX0_copyEntries_10 rfl rfl ⟨Nat.le_of_ble_eq_true rfl, Nat.le_of_ble_eq_true rfl⟩ (fun H locs hP hD hS => ?_)
        refine tg_if_eqb (tgt := 79) hx hb dX0_copyEntries_13 (by decide) (fun c13_2 => ?_) (fun c13_2 => ?_)
        · skip
          refine lv_iinc (v := nI (i + 1)) (lv' := [(3, .int (nI (i + 1))), (0, .ref g0), (1, .int (nI (pl))), (2, .ref h0)]) hx hb dX0_copyEntries_79 hl (k := 3) rfl (tg_inc1 _) (by decide) rfl (fun ls hl => ?_)
          refine lv_goto (tgt := 2) hx hb dX0_copyEntries_82 (by decide) ?_
          exact ih2 (i + 1) (by omega) (by omega)  _ _ _ (by rw [tg_cpL_f c13_2, tg_cpL_f c13_2, tg_cpI_f c13_2]; exact hP) (by rw [tg_cpL_f c13_2, tg_cpL_f c13_2, tg_cpI_f c13_2]; exact hD) hS (lv_sub hl [1, 2, 3, 0] rfl)
        · skip
          refine lv_aload_n hx hb dX0_copyEntries_16 rfl (lv_at hl 0 rfl) ?_
          refine va_get (D := D) (ci := 0) (v := .ref b3) (C := RX0) (T := TX0) (N := 10) hx hb hts hinX0 hown hK hP 0 rfl rfl 2 (by decide) (hts (.fieldLink RX0 18 "TreeGossip$Row" "nodes" "[I") (by decide +kernel)) (fun _ h9 => h9) rfl dX0_copyEntries_17 ?_
          refine lv_iload_n hx hb dX0_copyEntries_20 rfl (lv_at hl 1 rfl) ?_
          refine tg_iald hx hb hK hP 1 rfl (f := no) (k := pl) (by omega) (by decide) dX0_copyEntries_21 ?_
          refine tg_vi (hno) ?_
          refine lv_iconst (v := nI (4)) hx hb dX0_copyEntries_22 (by decide) ?_
          refine lv_imul hx hb dX0_copyEntries_23 ?_
          refine tg_vi (pk_mul _ _) ?_
          refine lv_iload_n hx hb dX0_copyEntries_24 rfl (lv_at hl 3 rfl) ?_
          refine lv_iadd hx hb dX0_copyEntries_25 ?_
          refine tg_vi (nI_add _ _) ?_
          refine lv_istore (lv' := [(4, .int (nI ((nd * 4) + i))), (0, .ref g0), (1, .int (nI (pl))), (2, .ref h0), (3, .int (nI (i)))]) hx hb dX0_copyEntries_26 hl (by decide) rfl (fun ls hl => ?_)
          refine lv_aload_n hx hb dX0_copyEntries_28 rfl (lv_at hl 1 rfl) ?_
          refine va_get (D := D) (ci := 0) (v := .ref b6) (C := RX0) (T := TX0) (N := 10) hx hb hts hinX0 hown hK hP 0 rfl rfl 5 (by decide) (hts (.fieldLink RX0 28 "TreeGossip$Row" "stamps" "[J") (by decide +kernel)) (fun _ h9 => h9) rfl dX0_copyEntries_29 ?_
          refine lv_iload_n hx hb dX0_copyEntries_32 rfl (lv_at hl 2 rfl) ?_
          refine lv_iconst (v := nI (4)) hx hb dX0_copyEntries_33 (by decide) ?_
          refine lv_imul hx hb dX0_copyEntries_34 ?_
          refine tg_vi (pk_mul _ _) ?_
          refine lv_iload_n hx hb dX0_copyEntries_35 rfl (lv_at hl 4 rfl) ?_
          refine lv_iadd hx hb dX0_copyEntries_36 ?_
          refine tg_vi (nI_add _ _) ?_
          refine lv_aload_n hx hb dX0_copyEntries_37 rfl (lv_at hl 3 rfl) ?_
          refine va_get (D := D) (ci := 1) (v := .ref a1) (C := RX1) (T := TX1) (N := 5) hx hb hts hinX1 hown hK hP 6 rfl rfl 0 (by decide) (hts (.fieldLink RX0 55 "TreeGossip$Store" "stamps" "[J") (by decide +kernel)) (fun _ h9 => h9) rfl dX0_copyEntries_38 ?_
          refine lv_iload hx hb dX0_copyEntries_41 (lv_at hl 0 rfl) ?_
          refine tg_lald hx hb hK hP 7 rfl (f := st) (k := (nd * 4) + i) (by omega) (by decide) dX0_copyEntries_43 ?_
          refine tg_last hx hb hK hP hD hS 3 rfl (k := (pl * 4) + i) (by omega) (by decide) dX0_copyEntries_44 (ws' := [(g0, .inr (0, [.ref b1, .ref b2, .ref b3, .ref b4, .ref b5, .ref b6, .ref b7, .ref b8, .int (nI (z)), .int (nI (o))])), (b3, .inl (ty 0, 100, .inl no)), (b4, .inl (ty 0, 100, .inl ma)), (b6, .inl (ty 1, 400, .inr (.inl (vp_updL (tg_cpL rs pl m nd st i) ((pl * 4) + i) (st ((nd * 4) + i)))))), (b7, .inl (ty 1, 400, .inr (.inl (tg_cpL rv pl m nd va i)))), (b8, .inl (ty 0, 400, .inl (tg_cpI rl pl m nd le i))), (h0, .inr (1, [.ref a1, .ref a2, .ref a3, .ref a4, .int (en)])), (a1, .inl (ty 1, 256, .inr (.inl st))), (a2, .inl (ty 1, 256, .inr (.inl va))), (a3, .inl (ty 0, 256, .inl le))]) rfl (fun H locs hP hD hS => ?_)
          refine lv_aload_n hx hb dX0_copyEntries_45 rfl (lv_at hl 1 rfl) ?_
          refine va_get (D := D) (ci := 0) (v := .ref b7) (C := RX0) (T := TX0) (N := 10) hx hb hts hinX0 hown hK hP 0 rfl rfl 6 (by decide) (hts (.fieldLink RX0 31 "TreeGossip$Row" "values" "[J") (by decide +kernel)) (fun _ h9 => h9) rfl dX0_copyEntries_46 ?_
          refine lv_iload_n hx hb dX0_copyEntries_49 rfl (lv_at hl 2 rfl) ?_
          refine lv_iconst (v := nI (4)) hx hb dX0_copyEntries_50 (by decide) ?_
          refine lv_imul hx hb dX0_copyEntries_51 ?_
          refine tg_vi (pk_mul _ _) ?_
          refine lv_iload_n hx hb dX0_copyEntries_52 rfl (lv_at hl 4 rfl) ?_
          refine lv_iadd hx hb dX0_copyEntries_53 ?_
          refine tg_vi (nI_add _ _) ?_
          refine lv_aload_n hx hb dX0_copyEntries_54 rfl (lv_at hl 3 rfl) ?_
          refine va_get (D := D) (ci := 1) (v := .ref a2) (C := RX1) (T := TX1) (N := 5) hx hb hts hinX1 hown hK hP 6 rfl rfl 1 (by decide) (hts (.fieldLink RX0 58 "TreeGossip$Store" "values" "[J") (by decide +kernel)) (fun _ h9 => h9) rfl dX0_copyEntries_55 ?_
          refine lv_iload hx hb dX0_copyEntries_58 (lv_at hl 0 rfl) ?_
          refine tg_lald hx hb hK hP 8 rfl (f := va) (k := (nd * 4) + i) (by omega) (by decide) dX0_copyEntries_60 ?_
          refine tg_last hx hb hK hP hD hS 4 rfl (k := (pl * 4) + i) (by omega) (by decide) dX0_copyEntries_61 (ws' := [(g0, .inr (0, [.ref b1, .ref b2, .ref b3, .ref b4, .ref b5, .ref b6, .ref b7, .ref b8, .int (nI (z)), .int (nI (o))])), (b3, .inl (ty 0, 100, .inl no)), (b4, .inl (ty 0, 100, .inl ma)), (b6, .inl (ty 1, 400, .inr (.inl (vp_updL (tg_cpL rs pl m nd st i) ((pl * 4) + i) (st ((nd * 4) + i)))))), (b7, .inl (ty 1, 400, .inr (.inl (vp_updL (tg_cpL rv pl m nd va i) ((pl * 4) + i) (va ((nd * 4) + i)))))), (b8, .inl (ty 0, 400, .inl (tg_cpI rl pl m nd le i))), (h0, .inr (1, [.ref a1, .ref a2, .ref a3, .ref a4, .int (en)])), (a1, .inl (ty 1, 256, .inr (.inl st))), (a2, .inl (ty 1, 256, .inr (.inl va))), (a3, .inl (ty 0, 256, .inl le))]) rfl (fun H locs hP hD hS => ?_)
          refine lv_aload_n hx hb dX0_copyEntries_62 rfl (lv_at hl 1 rfl) ?_
          refine va_get (D := D) (ci := 0) (v := .ref b8) (C := RX0) (T := TX0) (N := 10) hx hb hts hinX0 hown hK hP 0 rfl rfl 7 (by decide) (hts (.fieldLink RX0 34 "TreeGossip$Row" "lengths" "[I") (by decide +kernel)) (fun _ h9 => h9) rfl dX0_copyEntries_63 ?_
          refine lv_iload_n hx hb dX0_copyEntries_66 rfl (lv_at hl 2 rfl) ?_
          refine lv_iconst (v := nI (4)) hx hb dX0_copyEntries_67 (by decide) ?_
          refine lv_imul hx hb dX0_copyEntries_68 ?_
          refine tg_vi (pk_mul _ _) ?_
          refine lv_iload_n hx hb dX0_copyEntries_69 rfl (lv_at hl 4 rfl) ?_
          refine lv_iadd hx hb dX0_copyEntries_70 ?_
          refine tg_vi (nI_add _ _) ?_
          refine lv_aload_n hx hb dX0_copyEntries_71 rfl (lv_at hl 3 rfl) ?_
          refine va_get (D := D) (ci := 1) (v := .ref a3) (C := RX1) (T := TX1) (N := 5) hx hb hts hinX1 hown hK hP 6 rfl rfl 2 (by decide) (hts (.fieldLink RX0 59 "TreeGossip$Store" "lengths" "[I") (by decide +kernel)) (fun _ h9 => h9) rfl dX0_copyEntries_72 ?_
          refine lv_iload hx hb dX0_copyEntries_75 (lv_at hl 0 rfl) ?_
          refine tg_iald hx hb hK hP 9 rfl (f := le) (k := (nd * 4) + i) (by omega) (by decide) dX0_copyEntries_77 ?_
          refine tg_iast hx hb hK hP hD hS 5 rfl (k := (pl * 4) + i) (by omega) (by decide) dX0_copyEntries_78 (ws' := [(g0, .inr (0, [.ref b1, .ref b2, .ref b3, .ref b4, .ref b5, .ref b6, .ref b7, .ref b8, .int (nI (z)), .int (nI (o))])), (b3, .inl (ty 0, 100, .inl no)), (b4, .inl (ty 0, 100, .inl ma)), (b6, .inl (ty 1, 400, .inr (.inl (vp_updL (tg_cpL rs pl m nd st i) ((pl * 4) + i) (st ((nd * 4) + i)))))), (b7, .inl (ty 1, 400, .inr (.inl (vp_updL (tg_cpL rv pl m nd va i) ((pl * 4) + i) (va ((nd * 4) + i)))))), (b8, .inl (ty 0, 400, .inl (upd (tg_cpI rl pl m nd le i) ((pl * 4) + i) (le ((nd * 4) + i))))), (h0, .inr (1, [.ref a1, .ref a2, .ref a3, .ref a4, .int (en)])), (a1, .inl (ty 1, 256, .inr (.inl st))), (a2, .inl (ty 1, 256, .inr (.inl va))), (a3, .inl (ty 0, 256, .inl le))]) rfl (fun H locs hP hD hS => ?_)
          refine lv_iinc (v := nI (i + 1)) (lv' := [(3, .int (nI (i + 1))), (4, .int (nI ((nd * 4) + i))), (0, .ref g0), (1, .int (nI (pl))), (2, .ref h0)]) hx hb dX0_copyEntries_79 hl (k := 4) rfl (tg_inc1 _) (by decide) rfl (fun ls hl => ?_)
          refine lv_goto (tgt := 2) hx hb dX0_copyEntries_82 (by decide) ?_
          exact ih2 (i + 1) (by omega) (by omega)  _ _ _ (by rw [tg_cpL_t c13_2, tg_cpL_t c13_2, tg_cpI_t c13_2]; exact hP) (by rw [tg_cpL_t c13_2, tg_cpL_t c13_2, tg_cpI_t c13_2]; exact hD) hS (lv_sub hl [2, 3, 4, 0] rfl)
  exact hL2 (4 + 1) 0 (by omega) (by omega)  _ _ _ hP hD hS (lv_sub hl [1, 2, 3, 0] rfl)
def rmk_X0_keyOfEntry : Room := { frames := 1, cells := 0, slots := 0, locals := 22 }
theorem ink_X0_keyOfEntry_X0 : ∀ w ∈ wsX00, w ∈ wsX0_keyOfEntry := by decide +kernel
set_option maxHeartbeats 4000000 in
set_option maxRecDepth 100000 in
theorem k_X0_keyOfEntry (l : Launch) (D : va_G) (ty : Nat → ClassId) (g0 : Nat) (b1 : Nat) (b2 : Nat) (b3 : Nat) (b4 : Nat) (b5 : Nat) (b6 : Nat) (b7 : Nat) (b8 : Nat) (z : Nat) (o : Nat) (no : Nat → Int32) (ma : Nat → Int32) (pl : Nat) (ix : Nat) (m : Nat) (nd : Nat) (hpl : pl < 100) (hix : ix < 8) (hm : m < 16) (hnd : nd < 64) (hma : ma pl = nI m) (hno : no pl = nI nd) : tg_Mi l yX0_keyOfEntry wsX0_keyOfEntry rmk_X0_keyOfEntry D ty [.ref g0, .int (nI (pl)), .int (nI (ix))] [(g0, .inr (0, [.ref b1, .ref b2, .ref b3, .ref b4, .ref b5, .ref b6, .ref b7, .ref b8, .int (nI (z)), .int (nI (o))])), (b3, .inl (ty 0, 100, .inl no)), (b4, .inl (ty 0, 100, .inl ma))] [(g0, .inr (0, [.ref b1, .ref b2, .ref b3, .ref b4, .ref b5, .ref b6, .ref b7, .ref b8, .int (nI (z)), .int (nI (o))])), (b3, .inl (ty 0, 100, .inl no)), (b4, .inl (ty 0, 100, .inl ma))] (tg_kf m nd ix 4 0) 0 0 := by
  refine tg_start_i (cc := cX0_keyOfEntry) (maxL := 5) (lvs := [(0, .ref g0), (1, .int (nI (pl))), (2, .int (nI (ix)))]) (by decide) rfl (Nat.le_of_ble_eq_true rfl) rfl ?_
  intro pp ee ss mm args below meth cc AA ls QQ hx hb hr hts hown hlocks hml hnm hA hP hD hS hK hN hl hret
  have hinX0 := ink_X0_keyOfEntry_X0
  refine lv_iconst (v := nI (0)) hx hb dX0_keyOfEntry_0 (by decide) ?_
  refine lv_istore_n (lv' := [(3, .int (nI (0))), (0, .ref g0), (1, .int (nI (pl))), (2, .int (nI (ix)))]) hx hb dX0_keyOfEntry_1 rfl hl (by decide) rfl (fun ls hl => ?_)
  refine lv_iconst (v := nI (0)) hx hb dX0_keyOfEntry_2 (by decide) ?_
  refine lv_istore (lv' := [(4, .int (nI (0))), (3, .int (nI (0))), (0, .ref g0), (1, .int (nI (pl))), (2, .int (nI (ix)))]) hx hb dX0_keyOfEntry_3 hl (by decide) rfl (fun ls hl => ?_)
  have hL5 : ∀ (n5 i : Nat) , i ≤ 4 → 4 + 1 ≤ i + n5 → tg_kf m nd ix (4 - i) i = tg_kf m nd ix 4 0 → ∀ (H : Heap) (locs : List Loc) (ls : Array Slot), va_P D vwCl [(g0, .inr (0, [.ref b1, .ref b2, .ref b3, .ref b4, .ref b5, .ref b6, .ref b7, .ref b8, .int (nI (z)), .int (nI (o))])), (b3, .inl (ty 0, 100, .inl no)), (b4, .inl (ty 0, 100, .inl ma))] H → va_D AA [(g0, .inr (0, [.ref b1, .ref b2, .ref b3, .ref b4, .ref b5, .ref b6, .ref b7, .ref b8, .int (nI (z)), .int (nI (o))])), (b3, .inl (ty 0, 100, .inl no)), (b4, .inl (ty 0, 100, .inl ma))] → va_S AA ss.heap H locs → lv_has ls 5 [(0, .ref g0), (1, .int (nI (pl))), (2, .int (nI (ix))), (3, .int (nI (tg_ct m i))), (4, .int (nI (i)))] → W pp l ee rmk_X0_keyOfEntry ss mm args below meth cc H locs 0 0 QQ (F0 mm 5 ls []) := by
    intro n5
    induction n5 with
    | zero => intro i  h1 h2; omega
    | succ n5 ih5 =>
      intro i  hi5 hn5 hq H locs ls hP hD hS hl
      have hct := tg_ct_le m i
      refine lv_iload hx hb dX0_keyOfEntry_5 (lv_at hl 4 rfl) ?_
      refine lv_iconst (v := nI (4)) hx hb dX0_keyOfEntry_7 (by decide) ?_
      refine tg_ge (tgt := 47) hx hb dX0_keyOfEntry_8 (by decide) (by omega) (by omega) (fun c8_1 => ?_) (fun c8_1 => ?_)
      · skip
        obtain rfl : 4 = i := by omega
        refine lv_iconst (v := -1) hx hb dX0_keyOfEntry_47 (by decide) ?_
        exact hret _ _ 48 _ _ hP hD hS (by rw [← hq]; rfl) dX0_keyOfEntry_48
      · skip
        have hf5 : 4 - i = (4 - (i + 1)) + 1 := by omega
        refine lv_aload_n hx hb dX0_keyOfEntry_11 rfl (lv_at hl 0 rfl) ?_
        refine lv_iload_n hx hb dX0_keyOfEntry_12 rfl (lv_at hl 1 rfl) ?_
        refine lv_iload hx hb dX0_keyOfEntry_13 (lv_at hl 4 rfl) ?_
        refine tg_Vi (As := [.int (nI (pl)), .int (nI (i))]) (rest := []) (wr := [(b3, .inl (ty 0, 100, .inl no))]) (w2 := [(g0, .inr (0, [.ref b1, .ref b2, .ref b3, .ref b4, .ref b5, .ref b6, .ref b7, .ref b8, .int (nI (z)), .int (nI (o))])), (b3, .inl (ty 0, 100, .inl no)), (b4, .inl (ty 0, 100, .inl ma))]) ⟨hx, hb, hml, hown, hts⟩ (k_X0_hasEntry l D ty g0 b1 b2 b3 b4 b5 b6 b7 b8 z o ma pl i m (by omega) (by omega) (by omega) hma) (cwV 2 hts gX0_keyOfEntry_X0_hasEntry rfl rfl rfl (by decide +kernel) ⟨Nat.le_of_ble_eq_true rfl, Nat.le_of_ble_eq_true rfl⟩) hK hN hP hD hS hA [0, 2] [1] [1, 0, 2] 0 0 rfl rfl rfl rfl rfl rfl rfl (by decide) rfl hl.1 rfl (Nat.le_of_ble_eq_true rfl) dX0_keyOfEntry_15 rfl rfl ⟨Nat.le_of_ble_eq_true rfl, Nat.le_of_ble_eq_true rfl⟩ (fun H locs hP hD hS => ?_)
        refine tg_if_eqb (tgt := 41) hx hb dX0_keyOfEntry_18 (by decide) (fun c18_2 => ?_) (fun c18_2 => ?_)
        · skip
          have hq2 : tg_kf m nd ix (4 - (i + 1)) (i + 1) = tg_kf m nd ix (4 - i) i := by rw [hf5]; exact (tg_kf_f c18_2).symm
          refine lv_iinc (v := nI (i + 1)) (lv' := [(4, .int (nI (i + 1))), (0, .ref g0), (1, .int (nI (pl))), (2, .int (nI (ix))), (3, .int (nI (tg_ct m i)))]) hx hb dX0_keyOfEntry_41 hl (k := 4) rfl (tg_inc1 _) (by decide) rfl (fun ls hl => ?_)
          refine lv_goto (tgt := 5) hx hb dX0_keyOfEntry_44 (by decide) ?_
          exact ih5 (i + 1) (by omega) (by omega) (hq ▸ hq2) _ _ _ hP hD hS (by rw [tg_ct_f c18_2]; exact lv_sub hl [1, 2, 3, 4, 0] rfl)
        · skip
          refine lv_iload_n hx hb dX0_keyOfEntry_21 rfl (lv_at hl 3 rfl) ?_
          refine lv_iload_n hx hb dX0_keyOfEntry_22 rfl (lv_at hl 2 rfl) ?_
          refine tg_ne (tgt := 38) hx hb dX0_keyOfEntry_23 (by decide) (by omega) (by omega) (fun c23_3 => ?_) (fun c23_3 => ?_)
          · skip
            have hq2 : tg_kf m nd ix (4 - (i + 1)) (i + 1) = tg_kf m nd ix (4 - i) i := by rw [hf5]; exact (tg_kf_n c18_2 c23_3).symm
            refine lv_iinc (v := nI ((tg_ct m i) + 1)) (lv' := [(3, .int (nI ((tg_ct m i) + 1))), (0, .ref g0), (1, .int (nI (pl))), (2, .int (nI (ix))), (4, .int (nI (i)))]) hx hb dX0_keyOfEntry_38 hl (k := 3) rfl (tg_inc1 _) (by decide) rfl (fun ls hl => ?_)
            refine lv_iinc (v := nI (i + 1)) (lv' := [(4, .int (nI (i + 1))), (3, .int (nI ((tg_ct m i) + 1))), (0, .ref g0), (1, .int (nI (pl))), (2, .int (nI (ix)))]) hx hb dX0_keyOfEntry_41 hl (k := 4) rfl (tg_inc1 _) (by decide) rfl (fun ls hl => ?_)
            refine lv_goto (tgt := 5) hx hb dX0_keyOfEntry_44 (by decide) ?_
            exact ih5 (i + 1) (by omega) (by omega) (hq ▸ hq2) _ _ _ hP hD hS (by rw [tg_ct_t c18_2]; exact lv_sub hl [2, 3, 4, 1, 0] rfl)
          · skip
            refine lv_aload_n hx hb dX0_keyOfEntry_26 rfl (lv_at hl 0 rfl) ?_
            refine va_get (D := D) (ci := 0) (v := .ref b3) (C := RX0) (T := TX0) (N := 10) hx hb hts hinX0 hown hK hP 0 rfl rfl 2 (by decide) (hts (.fieldLink RX0 18 "TreeGossip$Row" "nodes" "[I") (by decide +kernel)) (fun _ h9 => h9) rfl dX0_keyOfEntry_27 ?_
            refine lv_iload_n hx hb dX0_keyOfEntry_30 rfl (lv_at hl 1 rfl) ?_
            refine tg_iald hx hb hK hP 1 rfl (f := no) (k := pl) (by omega) (by decide) dX0_keyOfEntry_31 ?_
            refine tg_vi (hno) ?_
            refine lv_iconst (v := nI (4)) hx hb dX0_keyOfEntry_32 (by decide) ?_
            refine lv_imul hx hb dX0_keyOfEntry_33 ?_
            refine tg_vi (pk_mul _ _) ?_
            refine lv_iload hx hb dX0_keyOfEntry_34 (lv_at hl 4 rfl) ?_
            refine lv_iadd hx hb dX0_keyOfEntry_36 ?_
            refine tg_vi (nI_add _ _) ?_
            exact hret _ _ 37 _ _ hP hD hS (by rw [← hq, hf5]; exact (tg_kf_y c18_2 c23_3).symm) dX0_keyOfEntry_37
  exact hL5 (4 + 1) 0 (by omega) (by omega) rfl _ _ _ hP hD hS (lv_sub hl [2, 3, 4, 1, 0] rfl)
