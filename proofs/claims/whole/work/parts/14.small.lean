/-! ===== contracts: small methods ===== -/
def rmk_X2_other : Room := { frames := 0, cells := 0, slots := 0, locals := 0 }
set_option maxHeartbeats 4000000 in
set_option maxRecDepth 100000 in
theorem k_X2_other (l : Launch) (D : va_G) (ty : Nat → ClassId) (si : Nat) (hs : si ≤ 1) : tg_Mi l yX2_other wsX2_other rmk_X2_other D ty [.int (nI (si))] [] [] (nI (1 - si)) 0 0 := by
  refine tg_start_i (cc := cX2_other) (maxL := 1) (lvs := [(0, .int (nI (si)))]) (by decide) rfl (Nat.le_of_ble_eq_true rfl) rfl ?_
  intro pp ee ss mm args below meth cc AA ls QQ hx hb hr hts hown hlocks hml hnm hA hP hD hS hK hN hl hret
  refine lv_iconst (v := nI (1)) hx hb dX2_other_0 (by decide) ?_
  refine lv_iload_n hx hb dX2_other_1 rfl (lv_at hl 0 rfl) ?_
  refine lv_isub hx hb dX2_other_2 ?_
  refine tg_vi (pk_sub (by omega)) ?_
  exact hret _ _ 3 _ _ hP hD hS (rfl) dX2_other_3
def rmk_X2_nodesOf : Room := { frames := 0, cells := 0, slots := 0, locals := 0 }
set_option maxHeartbeats 4000000 in
set_option maxRecDepth 100000 in
theorem k_X2_nodesOf (l : Launch) (D : va_G) (ty : Nat → ClassId) (k : Nat) (hk : k < 4) : tg_Mi l yX2_nodesOf wsX2_nodesOf rmk_X2_nodesOf D ty [.int (nI (k))] [] [] (nI (4 ^ k)) 0 0 := by
  refine tg_start_i (cc := cX2_nodesOf) (maxL := 1) (lvs := [(0, .int (nI (k)))]) (by decide) rfl (Nat.le_of_ble_eq_true rfl) rfl ?_
  intro pp ee ss mm args below meth cc AA ls QQ hx hb hr hts hown hlocks hml hnm hA hP hD hS hK hN hl hret
  refine lv_iconst (v := nI (1)) hx hb dX2_nodesOf_0 (by decide) ?_
  refine lv_iconst (v := nI (2)) hx hb dX2_nodesOf_1 (by decide) ?_
  refine lv_iload_n hx hb dX2_nodesOf_2 rfl (lv_at hl 0 rfl) ?_
  refine lv_imul hx hb dX2_nodesOf_3 ?_
  refine tg_vi (pk_mul _ _) ?_
  refine lv_ishl hx hb dX2_nodesOf_4 ?_
  refine tg_vi (tg_n4 k hk) ?_
  exact hret _ _ 5 _ _ hP hD hS (rfl) dX2_nodesOf_5
def rmk_X2_treePlace : Room := { frames := 1, cells := 0, slots := 0, locals := 20 }
set_option maxHeartbeats 4000000 in
set_option maxRecDepth 100000 in
theorem k_X2_treePlace (l : Launch) (D : va_G) (ty : Nat → ClassId) (k : Nat) (nd : Nat) (hk : k < 4) (hn : nd < 64) : tg_Mi l yX2_treePlace wsX2_treePlace rmk_X2_treePlace D ty [.int (nI (k)), .int (nI (nd))] [] [] (nI ((4 ^ k - 1) / 3 + nd)) 0 0 := by
  refine tg_start_i (cc := cX2_treePlace) (maxL := 2) (lvs := [(0, .int (nI (k))), (1, .int (nI (nd)))]) (by decide) rfl (Nat.le_of_ble_eq_true rfl) rfl ?_
  intro pp ee ss mm args below meth cc AA ls QQ hx hb hr hts hown hlocks hml hnm hA hP hD hS hK hN hl hret
  have h4 : 0 < 4 ^ k := Nat.pow_pos (by decide)
  have h5 : 4 ^ k ≤ 4 ^ 3 := Nat.pow_le_pow_right (by decide) (by omega)
  refine lv_iload_n hx hb dX2_treePlace_0 rfl (lv_at hl 0 rfl) ?_
  refine tg_Si (As := [.int (nI (k))]) (rest := []) ⟨hx, hb, hml, hown, hts⟩ (k_X2_nodesOf l D ty k (by omega)) (va_cwS 1 hts gX2_treePlace_X2_nodesOf rfl rfl rfl (by decide +kernel) ⟨Nat.le_of_ble_eq_true rfl, Nat.le_of_ble_eq_true rfl⟩) hK hN hP hD hS hA rfl hl.1 rfl (Nat.le_of_ble_eq_true rfl) dX2_treePlace_1 ⟨Nat.le_of_ble_eq_true rfl, Nat.le_of_ble_eq_true rfl⟩ (fun H locs hP hD hS => ?_)
  refine lv_iconst (v := nI (1)) hx hb dX2_treePlace_4 (by decide) ?_
  refine lv_isub hx hb dX2_treePlace_5 ?_
  refine tg_vi (pk_sub (by omega)) ?_
  refine lv_iconst (v := nI (3)) hx hb dX2_treePlace_6 (by decide) ?_
  refine lv_idiv hx hb dX2_treePlace_7 (by decide) ?_
  refine tg_vi (pk_div (by omega) (by omega) (by omega)) ?_
  refine lv_iload_n hx hb dX2_treePlace_8 rfl (lv_at hl 1 rfl) ?_
  refine lv_iadd hx hb dX2_treePlace_9 ?_
  refine tg_vi (nI_add _ _) ?_
  exact hret _ _ 10 _ _ hP hD hS (rfl) dX2_treePlace_10
def rmk_X2_byteAt : Room := { frames := 0, cells := 0, slots := 0, locals := 0 }
set_option maxHeartbeats 4000000 in
set_option maxRecDepth 100000 in
theorem k_X2_byteAt (l : Launch) (D : va_G) (ty : Nat → ClassId) (v : Int64) (j : Nat) (hj : j < 8) : tg_Mi l yX2_byteAt wsX2_byteAt rmk_X2_byteAt D ty [.long (v), .int (nI (j))] [] [] (tg_bi v j) 0 0 := by
  refine tg_start_i (cc := cX2_byteAt) (maxL := 3) (lvs := [(0, .long (v)), (2, .int (nI (j)))]) (by decide) rfl (Nat.le_of_ble_eq_true rfl) rfl ?_
  intro pp ee ss mm args below meth cc AA ls QQ hx hb hr hts hown hlocks hml hnm hA hP hD hS hK hN hl hret
  refine lv_lload_n hx hb dX2_byteAt_0 rfl (lv_at hl 0 rfl) ?_
  refine lv_bipush (v := nI (56)) hx hb dX2_byteAt_1 (by decide) ?_
  refine lv_bipush (v := nI (8)) hx hb dX2_byteAt_3 (by decide) ?_
  refine lv_iload_n hx hb dX2_byteAt_5 rfl (lv_at hl 1 rfl) ?_
  refine lv_imul hx hb dX2_byteAt_6 ?_
  refine tg_vi (pk_mul _ _) ?_
  refine lv_isub hx hb dX2_byteAt_7 ?_
  refine tg_vi (pk_sub (by omega)) ?_
  refine lv_lushr (v := tg_lu v (nI (56 - (8 * j)))) hx hb dX2_byteAt_8 rfl ?_
  refine lv_l2i (v := Int64.toInt32 (tg_lu v (nI (56 - (8 * j))))) hx hb dX2_byteAt_9 rfl ?_
  refine lv_sipush (v := nI (255)) hx hb dX2_byteAt_10 (by decide) ?_
  refine lv_iand hx hb dX2_byteAt_13 ?_
  exact hret _ _ 14 _ _ hP hD hS (rfl) dX2_byteAt_14
def rmk_X2_highestBytes : Room := { frames := 0, cells := 0, slots := 0, locals := 0 }
set_option maxHeartbeats 4000000 in
set_option maxRecDepth 100000 in
theorem k_X2_highestBytes (l : Launch) (D : va_G) (ty : Nat → ClassId) (v : Int64) (k : Nat) (hk : k ≤ 8) : tg_Ml l yX2_highestBytes wsX2_highestBytes rmk_X2_highestBytes D ty [.long (v), .int (nI (k))] [] [] (tg_hb v k) 0 0 := by
  refine tg_start_l (cc := cX2_highestBytes) (maxL := 3) (lvs := [(0, .long (v)), (2, .int (nI (k)))]) (by decide) rfl (Nat.le_of_ble_eq_true rfl) rfl ?_
  intro pp ee ss mm args below meth cc AA ls QQ hx hb hr hts hown hlocks hml hnm hA hP hD hS hK hN hl hret
  refine lv_iload_n hx hb dX2_highestBytes_0 rfl (lv_at hl 1 rfl) ?_
  refine tg_if_ne (tgt := 8) hx hb dX2_highestBytes_1 (by decide) (by omega) (fun c1_1 => ?_) (fun c1_1 => ?_)
  · skip
    refine lv_lload_n hx hb dX2_highestBytes_8 rfl (lv_at hl 0 rfl) ?_
    refine lv_ldc2 (v := -1) hx hb hown (hts (.constantLong RX2 187 (-1)) (by decide +kernel)) dX2_highestBytes_9 ?_
    refine lv_bipush (v := nI (64)) hx hb dX2_highestBytes_12 (by decide) ?_
    refine lv_bipush (v := nI (8)) hx hb dX2_highestBytes_14 (by decide) ?_
    refine lv_iload_n hx hb dX2_highestBytes_16 rfl (lv_at hl 1 rfl) ?_
    refine lv_imul hx hb dX2_highestBytes_17 ?_
    refine tg_vi (pk_mul _ _) ?_
    refine lv_isub hx hb dX2_highestBytes_18 ?_
    refine tg_vi (pk_sub (by omega)) ?_
    refine lv_lshl (v := tg_ll (-1) (nI (64 - (8 * k)))) hx hb dX2_highestBytes_19 rfl ?_
    refine lv_land hx hb dX2_highestBytes_20 ?_
    exact hret _ _ 21 _ _ hP hD hS (by unfold tg_hb; rw [if_neg (by assumption)]) dX2_highestBytes_21
  · skip
    refine lv_lconst (v := 0) hx hb dX2_highestBytes_4 (by decide) ?_
    refine lv_goto (tgt := 21) hx hb dX2_highestBytes_5 (by decide) ?_
    exact hret _ _ 21 _ _ hP hD hS (by unfold tg_hb; rw [if_pos (by assumption)]) dX2_highestBytes_21
def rmk_X1_asHighestByte : Room := { frames := 0, cells := 0, slots := 0, locals := 0 }
set_option maxHeartbeats 4000000 in
set_option maxRecDepth 100000 in
theorem k_X1_asHighestByte (l : Launch) (D : va_G) (ty : Nat → ClassId) (k : Nat)  : tg_Ml l yX1_asHighestByte wsX1_asHighestByte rmk_X1_asHighestByte D ty [.int (nI (k))] [] [] (tg_hi (nI k)) 0 0 := by
  refine tg_start_l (cc := cX1_asHighestByte) (maxL := 1) (lvs := [(0, .int (nI (k)))]) (by decide) rfl (Nat.le_of_ble_eq_true rfl) rfl ?_
  intro pp ee ss mm args below meth cc AA ls QQ hx hb hr hts hown hlocks hml hnm hA hP hD hS hK hN hl hret
  refine lv_iload_n hx hb dX1_asHighestByte_0 rfl (lv_at hl 0 rfl) ?_
  refine lv_i2l (v := Int32.toInt64 (nI (k))) hx hb dX1_asHighestByte_1 rfl ?_
  refine lv_bipush (v := nI (56)) hx hb dX1_asHighestByte_2 (by decide) ?_
  refine lv_lshl (v := tg_ll (Int32.toInt64 (nI (k))) (nI (56))) hx hb dX1_asHighestByte_4 rfl ?_
  exact hret _ _ 5 _ _ hP hD hS (rfl) dX1_asHighestByte_5
def rmk_X1_finished : Room := { frames := 0, cells := 0, slots := 0, locals := 0 }
set_option maxHeartbeats 4000000 in
set_option maxRecDepth 100000 in
theorem k_X1_finished (l : Launch) (D : va_G) (ty : Nat → ClassId) (h : Int64)  : tg_Ml l yX1_finished wsX1_finished rmk_X1_finished D ty [.long (h)] [] [] (tg_fin h) 0 0 := by
  refine tg_start_l (cc := cX1_finished) (maxL := 2) (lvs := [(0, .long (h))]) (by decide) rfl (Nat.le_of_ble_eq_true rfl) rfl ?_
  intro pp ee ss mm args below meth cc AA ls QQ hx hb hr hts hown hlocks hml hnm hA hP hD hS hK hN hl hret
  refine lv_lload_n hx hb dX1_finished_0 rfl (lv_at hl 0 rfl) ?_
  refine lv_lload_n hx hb dX1_finished_1 rfl (lv_at hl 0 rfl) ?_
  refine lv_bipush (v := nI (31)) hx hb dX1_finished_2 (by decide) ?_
  refine lv_lushr (v := tg_lu h (nI (31))) hx hb dX1_finished_4 rfl ?_
  refine lv_lxor hx hb dX1_finished_5 ?_
  exact hret _ _ 6 _ _ hP hD hS (rfl) dX1_finished_6
def rmk_X1_withBytes : Room := { frames := 0, cells := 0, slots := 0, locals := 0 }
set_option maxHeartbeats 4000000 in
set_option maxRecDepth 100000 in
theorem k_X1_withBytes (l : Launch) (D : va_G) (ty : Nat → ClassId) (h : Int64) (v : Int64) (k : Nat) (hk : k ≤ 8) : tg_Ml l yX1_withBytes wsX1_withBytes rmk_X1_withBytes D ty [.long (h), .long (v), .int (nI (k))] [] [] (tg_wb h v k) 0 0 := by
  refine tg_start_l (cc := cX1_withBytes) (maxL := 10) (lvs := [(0, .long (h)), (2, .long (v)), (4, .int (nI (k)))]) (by decide) rfl (Nat.le_of_ble_eq_true rfl) rfl ?_
  intro pp ee ss mm args below meth cc AA ls QQ hx hb hr hts hown hlocks hml hnm hA hP hD hS hK hN hl hret
  refine lv_lload_n hx hb dX1_withBytes_0 rfl (lv_at hl 0 rfl) ?_
  refine lv_lstore (lv' := [(5, .long (h)), (0, .long (h)), (2, .long (v)), (4, .int (nI (k)))]) hx hb dX1_withBytes_1 hl (by decide) rfl (fun ls hl => ?_)
  refine lv_iconst (v := nI (0)) hx hb dX1_withBytes_3 (by decide) ?_
  refine lv_istore (lv' := [(7, .int (nI (0))), (5, .long (h)), (0, .long (h)), (2, .long (v)), (4, .int (nI (k)))]) hx hb dX1_withBytes_4 hl (by decide) rfl (fun ls hl => ?_)
  have hL6 : ∀ (n6 i : Nat) , i ≤ k → k + 1 ≤ i + n6 → ∀ (H : Heap) (locs : List Loc) (ls : Array Slot), va_P D vwCl [] H → va_D AA [] → va_S AA ss.heap H locs → lv_has ls 10 [(0, .long (h)), (2, .long (v)), (4, .int (nI (k))), (5, .long (tg_wb h v i)), (7, .int (nI (i)))] → W pp l ee rmk_X1_withBytes ss mm args below meth cc H locs 0 0 QQ (F0 mm 6 ls []) := by
    intro n6
    induction n6 with
    | zero => intro i  h1 h2; omega
    | succ n6 ih6 =>
      intro i  hi6 hn6  H locs ls hP hD hS hl
      refine lv_iload hx hb dX1_withBytes_6 (lv_at hl 4 rfl) ?_
      refine lv_iload hx hb dX1_withBytes_8 (lv_at hl 2 rfl) ?_
      refine tg_ge (tgt := 55) hx hb dX1_withBytes_10 (by decide) (by omega) (by omega) (fun c10_1 => ?_) (fun c10_1 => ?_)
      · skip
        obtain rfl : k = i := by omega
        refine lv_lload hx hb dX1_withBytes_55 (lv_at hl 3 rfl) ?_
        exact hret _ _ 57 _ _ hP hD hS (rfl) dX1_withBytes_57
      · skip
        refine lv_lload hx hb dX1_withBytes_13 (lv_at hl 3 rfl) ?_
        refine lv_lload_n hx hb dX1_withBytes_15 rfl (lv_at hl 1 rfl) ?_
        refine lv_bipush (v := nI (56)) hx hb dX1_withBytes_16 (by decide) ?_
        refine lv_bipush (v := nI (8)) hx hb dX1_withBytes_18 (by decide) ?_
        refine lv_iload hx hb dX1_withBytes_20 (lv_at hl 4 rfl) ?_
        refine lv_imul hx hb dX1_withBytes_22 ?_
        refine tg_vi (pk_mul _ _) ?_
        refine lv_isub hx hb dX1_withBytes_23 ?_
        refine tg_vi (pk_sub (by omega)) ?_
        refine lv_lushr (v := tg_lu v (nI (56 - (8 * i)))) hx hb dX1_withBytes_24 rfl ?_
        refine lv_ldc2 (v := 255) hx hb hown (hts (.constantLong RX1 81 (255)) (by decide +kernel)) dX1_withBytes_25 ?_
        refine lv_land hx hb dX1_withBytes_28 ?_
        refine lv_lxor hx hb dX1_withBytes_29 ?_
        refine lv_ldc2 (v := -7046029254386353131) hx hb hown (hts (.constantLong RX1 83 (-7046029254386353131)) (by decide +kernel)) dX1_withBytes_30 ?_
        refine lv_lmul hx hb dX1_withBytes_33 ?_
        refine lv_lstore (lv' := [(8, .long (((tg_wb h v i) ^^^ ((tg_lu v (nI (56 - (8 * i)))) &&& 255)) * (-7046029254386353131))), (0, .long (h)), (2, .long (v)), (4, .int (nI (k))), (5, .long (tg_wb h v i)), (7, .int (nI (i)))]) hx hb dX1_withBytes_34 hl (by decide) rfl (fun ls hl => ?_)
        refine lv_lload hx hb dX1_withBytes_36 (lv_at hl 0 rfl) ?_
        refine lv_bipush (v := nI (23)) hx hb dX1_withBytes_38 (by decide) ?_
        refine lv_lshl (v := tg_ll (((tg_wb h v i) ^^^ ((tg_lu v (nI (56 - (8 * i)))) &&& 255)) * (-7046029254386353131)) (nI (23))) hx hb dX1_withBytes_40 rfl ?_
        refine lv_lload hx hb dX1_withBytes_41 (lv_at hl 0 rfl) ?_
        refine lv_bipush (v := nI (41)) hx hb dX1_withBytes_43 (by decide) ?_
        refine lv_lushr (v := tg_lu (((tg_wb h v i) ^^^ ((tg_lu v (nI (56 - (8 * i)))) &&& 255)) * (-7046029254386353131)) (nI (41))) hx hb dX1_withBytes_45 rfl ?_
        refine lv_lor hx hb dX1_withBytes_46 ?_
        refine lv_lstore (lv' := [(5, .long ((tg_ll (((tg_wb h v i) ^^^ ((tg_lu v (nI (56 - (8 * i)))) &&& 255)) * (-7046029254386353131)) (nI (23))) ||| (tg_lu (((tg_wb h v i) ^^^ ((tg_lu v (nI (56 - (8 * i)))) &&& 255)) * (-7046029254386353131)) (nI (41))))), (8, .long (((tg_wb h v i) ^^^ ((tg_lu v (nI (56 - (8 * i)))) &&& 255)) * (-7046029254386353131))), (0, .long (h)), (2, .long (v)), (4, .int (nI (k))), (7, .int (nI (i)))]) hx hb dX1_withBytes_47 hl (by decide) rfl (fun ls hl => ?_)
        refine lv_iinc (v := nI (i + 1)) (lv' := [(7, .int (nI (i + 1))), (5, .long ((tg_ll (((tg_wb h v i) ^^^ ((tg_lu v (nI (56 - (8 * i)))) &&& 255)) * (-7046029254386353131)) (nI (23))) ||| (tg_lu (((tg_wb h v i) ^^^ ((tg_lu v (nI (56 - (8 * i)))) &&& 255)) * (-7046029254386353131)) (nI (41))))), (8, .long (((tg_wb h v i) ^^^ ((tg_lu v (nI (56 - (8 * i)))) &&& 255)) * (-7046029254386353131))), (0, .long (h)), (2, .long (v)), (4, .int (nI (k)))]) hx hb dX1_withBytes_49 hl (k := 5) rfl (tg_inc1 _) (by decide) rfl (fun ls hl => ?_)
        refine lv_goto (tgt := 6) hx hb dX1_withBytes_52 (by decide) ?_
        exact ih6 (i + 1) (by omega) (by omega)  _ _ _ hP hD hS (lv_sub hl [3, 4, 5, 1, 0] rfl)
  exact hL6 (k + 1) 0 (by omega) (by omega)  _ _ _ hP hD hS (lv_sub hl [2, 3, 4, 1, 0] rfl)
def rmk_X1_has : Room := { frames := 0, cells := 0, slots := 0, locals := 0 }
theorem ink_X1_has_X1 : ∀ w ∈ wsX10, w ∈ wsX1_has := by decide +kernel
set_option maxHeartbeats 4000000 in
set_option maxRecDepth 100000 in
theorem k_X1_has (l : Launch) (D : va_G) (ty : Nat → ClassId) (h0 : Nat) (a1 : Nat) (a2 : Nat) (a3 : Nat) (a4 : Nat) (en : Int32) (le : Nat → Int32) (k : Nat) (hk : k < 256) : tg_Mi l yX1_has wsX1_has rmk_X1_has D ty [.ref h0, .int (nI (k))] [(h0, .inr (1, [.ref a1, .ref a2, .ref a3, .ref a4, .int (en)])), (a3, .inl (ty 0, 256, .inl le))] [(h0, .inr (1, [.ref a1, .ref a2, .ref a3, .ref a4, .int (en)])), (a3, .inl (ty 0, 256, .inl le))] (tg_b (tg_has le k)) 0 0 := by
  refine tg_start_z (cc := cX1_has) (maxL := 2) (lvs := [(0, .ref h0), (1, .int (nI (k)))]) (by decide) rfl (Nat.le_of_ble_eq_true rfl) rfl ?_
  intro pp ee ss mm args below meth cc AA ls QQ hx hb hr hts hown hlocks hml hnm hA hP hD hS hK hN hl hret
  have hinX1 := ink_X1_has_X1
  refine lv_aload_n hx hb dX1_has_0 rfl (lv_at hl 0 rfl) ?_
  refine va_get (D := D) (ci := 1) (v := .ref a3) (C := RX1) (T := TX1) (N := 5) hx hb hts hinX1 hown hK hP 0 rfl rfl 2 (by decide) (hts (.fieldLink RX1 18 "TreeGossip$Store" "lengths" "[I") (by decide +kernel)) (fun _ h9 => h9) rfl dX1_has_1 ?_
  refine lv_iload_n hx hb dX1_has_4 rfl (lv_at hl 1 rfl) ?_
  refine tg_iald hx hb hK hP 1 rfl (f := le) (k := k) (by omega) (by decide) dX1_has_5 ?_
  refine lv_iconst (v := -1) hx hb dX1_has_6 (by decide) ?_
  refine lv_icmp_eq (tgt := 14) hx hb dX1_has_7 (by decide) (fun c7_1 => ?_) (fun c7_1 => ?_)
  · skip
    refine lv_iconst (v := nI (0)) hx hb dX1_has_14 (by decide) ?_
    exact hret _ _ 15 _ _ hP hD hS (by rw [show tg_has le k = false from decide_eq_false (fun q => q (by assumption))]; decide) rfl dX1_has_15
  · skip
    refine lv_iconst (v := nI (1)) hx hb dX1_has_10 (by decide) ?_
    refine lv_goto (tgt := 15) hx hb dX1_has_11 (by decide) ?_
    exact hret _ _ 15 _ _ hP hD hS (by rw [show tg_has le k = true from decide_eq_true (by assumption)]; decide) rfl dX1_has_15
