/-! ===== contracts: Store, that write ===== -/
def rmk_X1_rehashAbove : Room := { frames := 2, cells := 0, slots := 0, locals := 54 }
theorem ink_X1_rehashAbove_X1 : ∀ w ∈ wsX10, w ∈ wsX1_rehashAbove := by decide +kernel
set_option maxHeartbeats 4000000 in
set_option maxRecDepth 100000 in
theorem k_X1_rehashAbove (l : Launch) (D : va_G) (ty : Nat → ClassId) (h0 : Nat) (a1 : Nat) (a2 : Nat) (a3 : Nat) (a4 : Nat) (en : Int32) (st : Nat → Int64) (va : Nat → Int64) (le : Nat → Int32) (ha : Nat → Int64) (k : Nat) (hk : k < 256) (hle : tg_okL le) : tg_Mv l yX1_rehashAbove wsX1_rehashAbove rmk_X1_rehashAbove D ty [.ref h0, .int (nI (k))] [(h0, .inr (1, [.ref a1, .ref a2, .ref a3, .ref a4, .int (en)])), (a1, .inl (ty 1, 256, .inr (.inl st))), (a2, .inl (ty 1, 256, .inr (.inl va))), (a3, .inl (ty 0, 256, .inl le)), (a4, .inl (ty 1, 85, .inr (.inl ha)))] (fun _ : Unit => [(h0, .inr (1, [.ref a1, .ref a2, .ref a3, .ref a4, .int (en)])), (a1, .inl (ty 1, 256, .inr (.inl st))), (a2, .inl (ty 1, 256, .inr (.inl va))), (a3, .inl (ty 0, 256, .inl le)), (a4, .inl (ty 1, 85, .inr (.inl (tg_rh st va le ha k))))]) 0 0 := by
  refine tg_start_v (cc := cX1_rehashAbove) (maxL := 5) (lvs := [(0, .ref h0), (1, .int (nI (k)))]) (by decide) rfl (Nat.le_of_ble_eq_true rfl) rfl ?_
  intro pp ee ss mm args below meth cc AA ls QQ hx hb hr hts hown hlocks hml hnm hA hP hD hS hK hN hl hret
  have hinX1 := ink_X1_rehashAbove_X1
  refine lv_iload_n hx hb dX1_rehashAbove_0 rfl (lv_at hl 1 rfl) ?_
  refine lv_iconst (v := nI (4)) hx hb dX1_rehashAbove_1 (by decide) ?_
  refine lv_idiv hx hb dX1_rehashAbove_2 (by decide) ?_
  refine tg_vi (pk_div (by omega) (by omega) (by omega)) ?_
  refine lv_istore_n (lv' := [(2, .int (nI (k / 4))), (0, .ref h0), (1, .int (nI (k)))]) hx hb dX1_rehashAbove_3 rfl hl (by decide) rfl (fun ls hl => ?_)
  refine lv_bipush (v := nI (21)) hx hb dX1_rehashAbove_4 (by decide) ?_
  refine lv_iload_n hx hb dX1_rehashAbove_6 rfl (lv_at hl 0 rfl) ?_
  refine lv_iadd hx hb dX1_rehashAbove_7 ?_
  refine tg_vi (nI_add _ _) ?_
  refine lv_istore_n (lv' := [(3, .int (nI (21 + (k / 4)))), (2, .int (nI (k / 4))), (0, .ref h0), (1, .int (nI (k)))]) hx hb dX1_rehashAbove_8 rfl hl (by decide) rfl (fun ls hl => ?_)
  refine lv_aload_n hx hb dX1_rehashAbove_9 rfl (lv_at hl 2 rfl) ?_
  refine va_get (D := D) (ci := 1) (v := .ref a4) (C := RX1) (T := TX1) (N := 5) hx hb hts hinX1 hown hK hP 0 rfl rfl 3 (by decide) (hts (.fieldLink RX1 22 "TreeGossip$Store" "hashes" "[J") (by decide +kernel)) (fun _ h9 => h9) rfl dX1_rehashAbove_10 ?_
  refine lv_iload_n hx hb dX1_rehashAbove_13 rfl (lv_at hl 0 rfl) ?_
  refine lv_aload_n hx hb dX1_rehashAbove_14 rfl (lv_at hl 2 rfl) ?_
  refine lv_iload_n hx hb dX1_rehashAbove_15 rfl (lv_at hl 1 rfl) ?_
  refine tg_Vl (As := [.int (nI (k / 4))]) (rest := [.int (nI (21 + (k / 4))), .ref a4]) (wr := [(a4, .inl (ty 1, 85, .inr (.inl ha)))]) (w2 := [(h0, .inr (1, [.ref a1, .ref a2, .ref a3, .ref a4, .int (en)])), (a1, .inl (ty 1, 256, .inr (.inl st))), (a2, .inl (ty 1, 256, .inr (.inl va))), (a3, .inl (ty 0, 256, .inl le)), (a4, .inl (ty 1, 85, .inr (.inl ha)))]) ⟨hx, hb, hml, hown, hts⟩ (k_X1_hashOfLeaf l D ty h0 a1 a2 a3 a4 en st va le (k / 4) (by omega) hle) (cwV 1 hts gX1_rehashAbove_X1_hashOfLeaf rfl rfl rfl (by decide +kernel) ⟨Nat.le_of_ble_eq_true rfl, Nat.le_of_ble_eq_true rfl⟩) hK hN hP hD hS hA [0, 1, 2, 3] [4] [1, 2, 3, 4, 0] 0 1 rfl rfl rfl rfl rfl rfl rfl (by decide) rfl hl.1 rfl (Nat.le_of_ble_eq_true rfl) dX1_rehashAbove_16 rfl rfl ⟨Nat.le_of_ble_eq_true rfl, Nat.le_of_ble_eq_true rfl⟩ (fun H locs hP hD hS => ?_)
  refine tg_last hx hb hK hP hD hS 4 rfl (k := 21 + (k / 4)) (by omega) (by decide) dX1_rehashAbove_19 (ws' := [(h0, .inr (1, [.ref a1, .ref a2, .ref a3, .ref a4, .int (en)])), (a1, .inl (ty 1, 256, .inr (.inl st))), (a2, .inl (ty 1, 256, .inr (.inl va))), (a3, .inl (ty 0, 256, .inl le)), (a4, .inl (ty 1, 85, .inr (.inl (tg_r3 st va le ha k))))]) rfl (fun H locs hP hD hS => ?_)
  refine lv_iconst (v := nI (3)) hx hb dX1_rehashAbove_20 (by decide) ?_
  refine lv_istore (lv' := [(4, .int (nI (3))), (3, .int (nI (21 + (k / 4)))), (2, .int (nI (k / 4))), (0, .ref h0), (1, .int (nI (k)))]) hx hb dX1_rehashAbove_21 hl (by decide) rfl (fun ls hl => ?_)
  refine lv_iload hx hb dX1_rehashAbove_23 (lv_at hl 0 rfl) ?_
  refine lv_if_le (tgt := 51) hx hb dX1_rehashAbove_25 (by decide) (fun c25_1 => ?_) (fun c25_1 => ?_)
  · exact absurd c25_1 (by decide)
  · skip
    refine lv_iload_n hx hb dX1_rehashAbove_28 rfl (lv_at hl 1 rfl) ?_
    refine lv_iconst (v := nI (1)) hx hb dX1_rehashAbove_29 (by decide) ?_
    refine lv_isub hx hb dX1_rehashAbove_30 ?_
    refine tg_vi (pk_sub (by omega)) ?_
    refine lv_iconst (v := nI (4)) hx hb dX1_rehashAbove_31 (by decide) ?_
    refine lv_idiv hx hb dX1_rehashAbove_32 (by decide) ?_
    refine tg_vi (pk_div (by omega) (by omega) (by omega)) ?_
    refine lv_istore_n (lv' := [(3, .int (nI (((21 + (k / 4)) - 1) / 4))), (4, .int (nI (3))), (2, .int (nI (k / 4))), (0, .ref h0), (1, .int (nI (k)))]) hx hb dX1_rehashAbove_33 rfl hl (by decide) rfl (fun ls hl => ?_)
    refine lv_aload_n hx hb dX1_rehashAbove_34 rfl (lv_at hl 3 rfl) ?_
    refine va_get (D := D) (ci := 1) (v := .ref a4) (C := RX1) (T := TX1) (N := 5) hx hb hts hinX1 hown hK hP 0 rfl rfl 3 (by decide) (hts (.fieldLink RX1 22 "TreeGossip$Store" "hashes" "[J") (by decide +kernel)) (fun _ h9 => h9) rfl dX1_rehashAbove_35 ?_
    refine lv_iload_n hx hb dX1_rehashAbove_38 rfl (lv_at hl 0 rfl) ?_
    refine lv_aload_n hx hb dX1_rehashAbove_39 rfl (lv_at hl 3 rfl) ?_
    refine lv_iload_n hx hb dX1_rehashAbove_40 rfl (lv_at hl 0 rfl) ?_
    refine tg_Vl (As := [.int (nI (((21 + (k / 4)) - 1) / 4))]) (rest := [.int (nI (((21 + (k / 4)) - 1) / 4)), .ref a4]) (wr := [(a1, .inl (ty 1, 256, .inr (.inl st))), (a2, .inl (ty 1, 256, .inr (.inl va))), (a3, .inl (ty 0, 256, .inl le))]) (w2 := [(h0, .inr (1, [.ref a1, .ref a2, .ref a3, .ref a4, .int (en)])), (a1, .inl (ty 1, 256, .inr (.inl st))), (a2, .inl (ty 1, 256, .inr (.inl va))), (a3, .inl (ty 0, 256, .inl le)), (a4, .inl (ty 1, 85, .inr (.inl (tg_r3 st va le ha k))))]) ⟨hx, hb, hml, hown, hts⟩ (k_X1_hashOfChildren l D ty h0 a1 a2 a3 a4 en (tg_r3 st va le ha k) (((21 + (k / 4)) - 1) / 4) (by omega)) (cwV 1 hts gX1_rehashAbove_X1_hashOfChildren rfl rfl rfl (by decide +kernel) ⟨Nat.le_of_ble_eq_true rfl, Nat.le_of_ble_eq_true rfl⟩) hK hN hP hD hS hA [0, 4] [1, 2, 3] [3, 0, 1, 2, 4] 0 1 rfl rfl rfl rfl rfl rfl rfl (by decide) rfl hl.1 rfl (Nat.le_of_ble_eq_true rfl) dX1_rehashAbove_41 rfl rfl ⟨Nat.le_of_ble_eq_true rfl, Nat.le_of_ble_eq_true rfl⟩ (fun H locs hP hD hS => ?_)
    refine tg_last hx hb hK hP hD hS 4 rfl (k := ((21 + (k / 4)) - 1) / 4) (by omega) (by decide) dX1_rehashAbove_44 (ws' := [(h0, .inr (1, [.ref a1, .ref a2, .ref a3, .ref a4, .int (en)])), (a1, .inl (ty 1, 256, .inr (.inl st))), (a2, .inl (ty 1, 256, .inr (.inl va))), (a3, .inl (ty 0, 256, .inl le)), (a4, .inl (ty 1, 85, .inr (.inl (tg_rc (tg_r3 st va le ha k) ((21 + k / 4 - 1) / 4)))))]) rfl (fun H locs hP hD hS => ?_)
    refine lv_iinc (v := nI (2)) (lv' := [(4, .int (nI (2))), (3, .int (nI (((21 + (k / 4)) - 1) / 4))), (2, .int (nI (k / 4))), (0, .ref h0), (1, .int (nI (k)))]) hx hb dX1_rehashAbove_45 hl (k := 1) rfl (by decide) (by decide) rfl (fun ls hl => ?_)
    refine lv_goto (tgt := 23) hx hb dX1_rehashAbove_48 (by decide) ?_
    refine lv_iload hx hb dX1_rehashAbove_23 (lv_at hl 0 rfl) ?_
    refine lv_if_le (tgt := 51) hx hb dX1_rehashAbove_25 (by decide) (fun c25_2 => ?_) (fun c25_2 => ?_)
    · exact absurd c25_2 (by decide)
    · skip
      refine lv_iload_n hx hb dX1_rehashAbove_28 rfl (lv_at hl 1 rfl) ?_
      refine lv_iconst (v := nI (1)) hx hb dX1_rehashAbove_29 (by decide) ?_
      refine lv_isub hx hb dX1_rehashAbove_30 ?_
      refine tg_vi (pk_sub (by omega)) ?_
      refine lv_iconst (v := nI (4)) hx hb dX1_rehashAbove_31 (by decide) ?_
      refine lv_idiv hx hb dX1_rehashAbove_32 (by decide) ?_
      refine tg_vi (pk_div (by omega) (by omega) (by omega)) ?_
      refine lv_istore_n (lv' := [(3, .int (nI (((((21 + (k / 4)) - 1) / 4) - 1) / 4))), (4, .int (nI (2))), (2, .int (nI (k / 4))), (0, .ref h0), (1, .int (nI (k)))]) hx hb dX1_rehashAbove_33 rfl hl (by decide) rfl (fun ls hl => ?_)
      refine lv_aload_n hx hb dX1_rehashAbove_34 rfl (lv_at hl 3 rfl) ?_
      refine va_get (D := D) (ci := 1) (v := .ref a4) (C := RX1) (T := TX1) (N := 5) hx hb hts hinX1 hown hK hP 0 rfl rfl 3 (by decide) (hts (.fieldLink RX1 22 "TreeGossip$Store" "hashes" "[J") (by decide +kernel)) (fun _ h9 => h9) rfl dX1_rehashAbove_35 ?_
      refine lv_iload_n hx hb dX1_rehashAbove_38 rfl (lv_at hl 0 rfl) ?_
      refine lv_aload_n hx hb dX1_rehashAbove_39 rfl (lv_at hl 3 rfl) ?_
      refine lv_iload_n hx hb dX1_rehashAbove_40 rfl (lv_at hl 0 rfl) ?_
      refine tg_Vl (As := [.int (nI (((((21 + (k / 4)) - 1) / 4) - 1) / 4))]) (rest := [.int (nI (((((21 + (k / 4)) - 1) / 4) - 1) / 4)), .ref a4]) (wr := [(a1, .inl (ty 1, 256, .inr (.inl st))), (a2, .inl (ty 1, 256, .inr (.inl va))), (a3, .inl (ty 0, 256, .inl le))]) (w2 := [(h0, .inr (1, [.ref a1, .ref a2, .ref a3, .ref a4, .int (en)])), (a1, .inl (ty 1, 256, .inr (.inl st))), (a2, .inl (ty 1, 256, .inr (.inl va))), (a3, .inl (ty 0, 256, .inl le)), (a4, .inl (ty 1, 85, .inr (.inl (tg_rc (tg_r3 st va le ha k) ((21 + k / 4 - 1) / 4)))))]) ⟨hx, hb, hml, hown, hts⟩ (k_X1_hashOfChildren l D ty h0 a1 a2 a3 a4 en (tg_rc (tg_r3 st va le ha k) ((21 + k / 4 - 1) / 4)) (((((21 + (k / 4)) - 1) / 4) - 1) / 4) (by omega)) (cwV 1 hts gX1_rehashAbove_X1_hashOfChildren rfl rfl rfl (by decide +kernel) ⟨Nat.le_of_ble_eq_true rfl, Nat.le_of_ble_eq_true rfl⟩) hK hN hP hD hS hA [0, 4] [1, 2, 3] [3, 0, 1, 2, 4] 0 1 rfl rfl rfl rfl rfl rfl rfl (by decide) rfl hl.1 rfl (Nat.le_of_ble_eq_true rfl) dX1_rehashAbove_41 rfl rfl ⟨Nat.le_of_ble_eq_true rfl, Nat.le_of_ble_eq_true rfl⟩ (fun H locs hP hD hS => ?_)
      refine tg_last hx hb hK hP hD hS 4 rfl (k := ((((21 + (k / 4)) - 1) / 4) - 1) / 4) (by omega) (by decide) dX1_rehashAbove_44 (ws' := [(h0, .inr (1, [.ref a1, .ref a2, .ref a3, .ref a4, .int (en)])), (a1, .inl (ty 1, 256, .inr (.inl st))), (a2, .inl (ty 1, 256, .inr (.inl va))), (a3, .inl (ty 0, 256, .inl le)), (a4, .inl (ty 1, 85, .inr (.inl (tg_rc (tg_rc (tg_r3 st va le ha k) ((21 + k / 4 - 1) / 4)) (((21 + k / 4 - 1) / 4 - 1) / 4)))))]) rfl (fun H locs hP hD hS => ?_)
      refine lv_iinc (v := nI (1)) (lv' := [(4, .int (nI (1))), (3, .int (nI (((((21 + (k / 4)) - 1) / 4) - 1) / 4))), (2, .int (nI (k / 4))), (0, .ref h0), (1, .int (nI (k)))]) hx hb dX1_rehashAbove_45 hl (k := 1) rfl (by decide) (by decide) rfl (fun ls hl => ?_)
      refine lv_goto (tgt := 23) hx hb dX1_rehashAbove_48 (by decide) ?_
      refine lv_iload hx hb dX1_rehashAbove_23 (lv_at hl 0 rfl) ?_
      refine lv_if_le (tgt := 51) hx hb dX1_rehashAbove_25 (by decide) (fun c25_3 => ?_) (fun c25_3 => ?_)
      · exact absurd c25_3 (by decide)
      · skip
        refine lv_iload_n hx hb dX1_rehashAbove_28 rfl (lv_at hl 1 rfl) ?_
        refine lv_iconst (v := nI (1)) hx hb dX1_rehashAbove_29 (by decide) ?_
        refine lv_isub hx hb dX1_rehashAbove_30 ?_
        refine tg_vi (pk_sub (by omega)) ?_
        refine lv_iconst (v := nI (4)) hx hb dX1_rehashAbove_31 (by decide) ?_
        refine lv_idiv hx hb dX1_rehashAbove_32 (by decide) ?_
        refine tg_vi (pk_div (by omega) (by omega) (by omega)) ?_
        refine lv_istore_n (lv' := [(3, .int (nI (((((((21 + (k / 4)) - 1) / 4) - 1) / 4) - 1) / 4))), (4, .int (nI (1))), (2, .int (nI (k / 4))), (0, .ref h0), (1, .int (nI (k)))]) hx hb dX1_rehashAbove_33 rfl hl (by decide) rfl (fun ls hl => ?_)
        refine lv_aload_n hx hb dX1_rehashAbove_34 rfl (lv_at hl 3 rfl) ?_
        refine va_get (D := D) (ci := 1) (v := .ref a4) (C := RX1) (T := TX1) (N := 5) hx hb hts hinX1 hown hK hP 0 rfl rfl 3 (by decide) (hts (.fieldLink RX1 22 "TreeGossip$Store" "hashes" "[J") (by decide +kernel)) (fun _ h9 => h9) rfl dX1_rehashAbove_35 ?_
        refine lv_iload_n hx hb dX1_rehashAbove_38 rfl (lv_at hl 0 rfl) ?_
        refine lv_aload_n hx hb dX1_rehashAbove_39 rfl (lv_at hl 3 rfl) ?_
        refine lv_iload_n hx hb dX1_rehashAbove_40 rfl (lv_at hl 0 rfl) ?_
        refine tg_Vl (As := [.int (nI (((((((21 + (k / 4)) - 1) / 4) - 1) / 4) - 1) / 4))]) (rest := [.int (nI (((((((21 + (k / 4)) - 1) / 4) - 1) / 4) - 1) / 4)), .ref a4]) (wr := [(a1, .inl (ty 1, 256, .inr (.inl st))), (a2, .inl (ty 1, 256, .inr (.inl va))), (a3, .inl (ty 0, 256, .inl le))]) (w2 := [(h0, .inr (1, [.ref a1, .ref a2, .ref a3, .ref a4, .int (en)])), (a1, .inl (ty 1, 256, .inr (.inl st))), (a2, .inl (ty 1, 256, .inr (.inl va))), (a3, .inl (ty 0, 256, .inl le)), (a4, .inl (ty 1, 85, .inr (.inl (tg_rc (tg_rc (tg_r3 st va le ha k) ((21 + k / 4 - 1) / 4)) (((21 + k / 4 - 1) / 4 - 1) / 4)))))]) ⟨hx, hb, hml, hown, hts⟩ (k_X1_hashOfChildren l D ty h0 a1 a2 a3 a4 en (tg_rc (tg_rc (tg_r3 st va le ha k) ((21 + k / 4 - 1) / 4)) (((21 + k / 4 - 1) / 4 - 1) / 4)) (((((((21 + (k / 4)) - 1) / 4) - 1) / 4) - 1) / 4) (by omega)) (cwV 1 hts gX1_rehashAbove_X1_hashOfChildren rfl rfl rfl (by decide +kernel) ⟨Nat.le_of_ble_eq_true rfl, Nat.le_of_ble_eq_true rfl⟩) hK hN hP hD hS hA [0, 4] [1, 2, 3] [3, 0, 1, 2, 4] 0 1 rfl rfl rfl rfl rfl rfl rfl (by decide) rfl hl.1 rfl (Nat.le_of_ble_eq_true rfl) dX1_rehashAbove_41 rfl rfl ⟨Nat.le_of_ble_eq_true rfl, Nat.le_of_ble_eq_true rfl⟩ (fun H locs hP hD hS => ?_)
        refine tg_last hx hb hK hP hD hS 4 rfl (k := ((((((21 + (k / 4)) - 1) / 4) - 1) / 4) - 1) / 4) (by omega) (by decide) dX1_rehashAbove_44 (ws' := [(h0, .inr (1, [.ref a1, .ref a2, .ref a3, .ref a4, .int (en)])), (a1, .inl (ty 1, 256, .inr (.inl st))), (a2, .inl (ty 1, 256, .inr (.inl va))), (a3, .inl (ty 0, 256, .inl le)), (a4, .inl (ty 1, 85, .inr (.inl (tg_rh st va le ha k))))]) rfl (fun H locs hP hD hS => ?_)
        refine lv_iinc (v := nI (0)) (lv' := [(4, .int (nI (0))), (3, .int (nI (((((((21 + (k / 4)) - 1) / 4) - 1) / 4) - 1) / 4))), (2, .int (nI (k / 4))), (0, .ref h0), (1, .int (nI (k)))]) hx hb dX1_rehashAbove_45 hl (k := 1) rfl (by decide) (by decide) rfl (fun ls hl => ?_)
        refine lv_goto (tgt := 23) hx hb dX1_rehashAbove_48 (by decide) ?_
        refine lv_iload hx hb dX1_rehashAbove_23 (lv_at hl 0 rfl) ?_
        refine lv_if_le (tgt := 51) hx hb dX1_rehashAbove_25 (by decide) (fun c25_4 => ?_) (fun c25_4 => ?_)
        · skip
          exact hret _ _ 51 _ () hP hD hS dX1_rehashAbove_51
        · exact absurd (by decide) c25_4
def rmk_X1_hashEmptyTree : Room := { frames := 2, cells := 0, slots := 0, locals := 54 }
theorem ink_X1_hashEmptyTree_X1 : ∀ w ∈ wsX10, w ∈ wsX1_hashEmptyTree := by decide +kernel
set_option maxHeartbeats 4000000 in
set_option maxRecDepth 100000 in
theorem k_X1_hashEmptyTree (l : Launch) (D : va_G) (ty : Nat → ClassId) (h0 : Nat) (a1 : Nat) (a2 : Nat) (a3 : Nat) (a4 : Nat) (en : Int32) (ha : Nat → Int64)  : tg_Mv l yX1_hashEmptyTree wsX1_hashEmptyTree rmk_X1_hashEmptyTree D ty [.ref h0] [(h0, .inr (1, [.ref a1, .ref a2, .ref a3, .ref a4, .int (en)])), (a1, .inl (ty 1, 256, .inr (.inl (fun _ => 0)))), (a2, .inl (ty 1, 256, .inr (.inl (fun _ => 0)))), (a3, .inl (ty 0, 256, .inl (fun _ => -1))), (a4, .inl (ty 1, 85, .inr (.inl ha)))] (fun _ : Unit => [(h0, .inr (1, [.ref a1, .ref a2, .ref a3, .ref a4, .int (en)])), (a1, .inl (ty 1, 256, .inr (.inl (fun _ => 0)))), (a2, .inl (ty 1, 256, .inr (.inl (fun _ => 0)))), (a3, .inl (ty 0, 256, .inl (fun _ => -1))), (a4, .inl (ty 1, 85, .inr (.inl tg_E)))]) 0 0 := by
  refine tg_start_v (cc := cX1_hashEmptyTree) (maxL := 6) (lvs := [(0, .ref h0)]) (by decide) rfl (Nat.le_of_ble_eq_true rfl) rfl ?_
  intro pp ee ss mm args below meth cc AA ls QQ hx hb hr hts hown hlocks hml hnm hA hP hD hS hK hN hl hret
  have hinX1 := ink_X1_hashEmptyTree_X1
  refine lv_iconst (v := nI (3)) hx hb dX1_hashEmptyTree_0 (by decide) ?_
  refine lv_istore_n (lv' := [(1, .int (nI (3))), (0, .ref h0)]) hx hb dX1_hashEmptyTree_1 rfl hl (by decide) rfl (fun ls hl => ?_)
  refine lv_iload_n hx hb dX1_hashEmptyTree_2 rfl (lv_at hl 0 rfl) ?_
  refine lv_if_lt (tgt := 65) hx hb dX1_hashEmptyTree_3 (by decide) (fun c3_1 => ?_) (fun c3_1 => ?_)
  · exact absurd c3_1 (by decide)
  · skip
    refine lv_iload_n hx hb dX1_hashEmptyTree_6 rfl (lv_at hl 0 rfl) ?_
    refine lv_iconst (v := nI (0)) hx hb dX1_hashEmptyTree_7 (by decide) ?_
    refine tg_SNi (As := [.int (nI (3)), .int (nI (0))]) (rest := []) ⟨hx, hb, hml, hown, hts⟩ (k_X2_treePlace l D ty 3 0 (by omega) (by omega)) ⟨va_cnB 2 hts gX1_hashEmptyTree_X2_treePlace_n35 rfl rfl rfl hN.1 (hts (.initialized RX2) (by decide +kernel)) (by decide +kernel) ⟨Nat.le_of_ble_eq_true rfl, Nat.le_of_ble_eq_true rfl⟩, hts (.static yX2_treePlace) (by decide +kernel), trivial⟩ hK hN hP hD hS hA rfl hl.1 rfl (Nat.le_of_ble_eq_true rfl) dX1_hashEmptyTree_8 ⟨Nat.le_of_ble_eq_true rfl, Nat.le_of_ble_eq_true rfl⟩ (fun H locs hP hD hS => ?_)
    refine tg_vi (y := nI (21)) rfl ?_
    refine lv_istore_n (lv' := [(2, .int (nI (21))), (1, .int (nI (3))), (0, .ref h0)]) hx hb dX1_hashEmptyTree_11 rfl hl (by decide) rfl (fun ls hl => ?_)
    refine lv_iload_n hx hb dX1_hashEmptyTree_12 rfl (lv_at hl 1 rfl) ?_
    refine lv_iconst (v := nI (3)) hx hb dX1_hashEmptyTree_13 (by decide) ?_
    refine tg_ne (tgt := 25) hx hb dX1_hashEmptyTree_14 (by decide) (by omega) (by omega) (fun c14_2 => ?_) (fun c14_2 => ?_)
    · omega
    · skip
      refine lv_aload_n hx hb dX1_hashEmptyTree_17 rfl (lv_at hl 2 rfl) ?_
      refine lv_iconst (v := nI (0)) hx hb dX1_hashEmptyTree_18 (by decide) ?_
      refine tg_Vl (As := [.int (nI (0))]) (rest := []) (wr := [(a4, .inl (ty 1, 85, .inr (.inl ha)))]) (w2 := [(h0, .inr (1, [.ref a1, .ref a2, .ref a3, .ref a4, .int (en)])), (a1, .inl (ty 1, 256, .inr (.inl (fun _ => 0)))), (a2, .inl (ty 1, 256, .inr (.inl (fun _ => 0)))), (a3, .inl (ty 0, 256, .inl (fun _ => -1))), (a4, .inl (ty 1, 85, .inr (.inl ha)))]) ⟨hx, hb, hml, hown, hts⟩ (k_X1_hashOfLeaf l D ty h0 a1 a2 a3 a4 en (fun _ => 0) (fun _ => 0) (fun _ => -1) 0 (by omega) tg_okL_e) (cwV 1 hts gX1_hashEmptyTree_X1_hashOfLeaf rfl rfl rfl (by decide +kernel) ⟨Nat.le_of_ble_eq_true rfl, Nat.le_of_ble_eq_true rfl⟩) hK hN hP hD hS hA [0, 1, 2, 3] [4] [1, 2, 3, 4, 0] 0 1 rfl rfl rfl rfl rfl rfl rfl (by decide) rfl hl.1 rfl (Nat.le_of_ble_eq_true rfl) dX1_hashEmptyTree_19 rfl rfl ⟨Nat.le_of_ble_eq_true rfl, Nat.le_of_ble_eq_true rfl⟩ (fun H locs hP hD hS => ?_)
      refine lv_goto (tgt := 30) hx hb dX1_hashEmptyTree_22 (by decide) ?_
      refine lv_lstore_n (lv' := [(3, .long (tg_LH (fun _ => 0) (fun _ => 0) (fun _ => -1) 0)), (2, .int (nI (21))), (1, .int (nI (3))), (0, .ref h0)]) hx hb dX1_hashEmptyTree_30 rfl hl (by decide) rfl (fun ls hl => ?_)
      refine lv_iconst (v := nI (0)) hx hb dX1_hashEmptyTree_31 (by decide) ?_
      refine lv_istore (lv' := [(5, .int (nI (0))), (3, .long (tg_LH (fun _ => 0) (fun _ => 0) (fun _ => -1) 0)), (2, .int (nI (21))), (1, .int (nI (3))), (0, .ref h0)]) hx hb dX1_hashEmptyTree_32 hl (by decide) rfl (fun ls hl => ?_)
      have hL34 : ∀ (n34 i : Nat) , i ≤ 64 → 64 + 1 ≤ i + n34 → ∀ (H : Heap) (locs : List Loc) (ls : Array Slot), va_P D vwCl [(h0, .inr (1, [.ref a1, .ref a2, .ref a3, .ref a4, .int (en)])), (a1, .inl (ty 1, 256, .inr (.inl (fun _ => 0)))), (a2, .inl (ty 1, 256, .inr (.inl (fun _ => 0)))), (a3, .inl (ty 0, 256, .inl (fun _ => -1))), (a4, .inl (ty 1, 85, .inr (.inl (tg_fill ha 21 (tg_LH (fun _ => 0) (fun _ => 0) (fun _ => -1) 0) i))))] H → va_D AA [(h0, .inr (1, [.ref a1, .ref a2, .ref a3, .ref a4, .int (en)])), (a1, .inl (ty 1, 256, .inr (.inl (fun _ => 0)))), (a2, .inl (ty 1, 256, .inr (.inl (fun _ => 0)))), (a3, .inl (ty 0, 256, .inl (fun _ => -1))), (a4, .inl (ty 1, 85, .inr (.inl (tg_fill ha 21 (tg_LH (fun _ => 0) (fun _ => 0) (fun _ => -1) 0) i))))] → va_S AA ss.heap H locs → lv_has ls 6 [(0, .ref h0), (1, .int (nI (3))), (2, .int (nI (21))), (3, .long (tg_LH (fun _ => 0) (fun _ => 0) (fun _ => -1) 0)), (5, .int (nI (i)))] → W pp l ee rmk_X1_hashEmptyTree ss mm args below meth cc H locs 0 0 QQ (F0 mm 34 ls []) := by
        intro n34
        induction n34 with
        | zero => intro i  h1 h2; omega
        | succ n34 ih34 =>
          intro i  hi34 hn34  H locs ls hP hD hS hl
          refine lv_iload hx hb dX1_hashEmptyTree_34 (lv_at hl 4 rfl) ?_
          refine lv_iload_n hx hb dX1_hashEmptyTree_36 rfl (lv_at hl 1 rfl) ?_
          refine tg_SNi (As := [.int (nI (3))]) (rest := [.int (nI (i))]) ⟨hx, hb, hml, hown, hts⟩ (k_X2_nodesOf l D ty 3 (by omega)) ⟨va_cnB 1 hts gX1_hashEmptyTree_X2_nodesOf_n46 rfl rfl rfl hN.2 (hts (.initialized RX2) (by decide +kernel)) (by decide +kernel) ⟨Nat.le_of_ble_eq_true rfl, Nat.le_of_ble_eq_true rfl⟩, hts (.static yX2_nodesOf) (by decide +kernel), trivial⟩ hK hN hP hD hS hA rfl hl.1 rfl (Nat.le_of_ble_eq_true rfl) dX1_hashEmptyTree_37 ⟨Nat.le_of_ble_eq_true rfl, Nat.le_of_ble_eq_true rfl⟩ (fun H locs hP hD hS => ?_)
          refine tg_vi (y := nI (64)) rfl ?_
          refine tg_ge (tgt := 59) hx hb dX1_hashEmptyTree_40 (by decide) (by omega) (by omega) (fun c40_3 => ?_) (fun c40_3 => ?_)
          · skip
            obtain rfl : 64 = i := by omega
            refine lv_iinc (v := nI (2)) (lv' := [(1, .int (nI (2))), (0, .ref h0), (2, .int (nI (21))), (3, .long (tg_LH (fun _ => 0) (fun _ => 0) (fun _ => -1) 0)), (5, .int (nI (64)))]) hx hb dX1_hashEmptyTree_59 hl (k := 1) rfl (by decide) (by decide) rfl (fun ls hl => ?_)
            refine lv_goto (tgt := 2) hx hb dX1_hashEmptyTree_62 (by decide) ?_
            refine lv_iload_n hx hb dX1_hashEmptyTree_2 rfl (lv_at hl 0 rfl) ?_
            refine lv_if_lt (tgt := 65) hx hb dX1_hashEmptyTree_3 (by decide) (fun c3_4 => ?_) (fun c3_4 => ?_)
            · exact absurd c3_4 (by decide)
            · skip
              refine lv_iload_n hx hb dX1_hashEmptyTree_6 rfl (lv_at hl 0 rfl) ?_
              refine lv_iconst (v := nI (0)) hx hb dX1_hashEmptyTree_7 (by decide) ?_
              refine tg_SNi (As := [.int (nI (2)), .int (nI (0))]) (rest := []) ⟨hx, hb, hml, hown, hts⟩ (k_X2_treePlace l D ty 2 0 (by omega) (by omega)) ⟨va_cnB 2 hts gX1_hashEmptyTree_X2_treePlace_n35 rfl rfl rfl hN.1 (hts (.initialized RX2) (by decide +kernel)) (by decide +kernel) ⟨Nat.le_of_ble_eq_true rfl, Nat.le_of_ble_eq_true rfl⟩, hts (.static yX2_treePlace) (by decide +kernel), trivial⟩ hK hN hP hD hS hA rfl hl.1 rfl (Nat.le_of_ble_eq_true rfl) dX1_hashEmptyTree_8 ⟨Nat.le_of_ble_eq_true rfl, Nat.le_of_ble_eq_true rfl⟩ (fun H locs hP hD hS => ?_)
              refine tg_vi (y := nI (5)) rfl ?_
              refine lv_istore_n (lv' := [(2, .int (nI (5))), (1, .int (nI (2))), (0, .ref h0), (3, .long (tg_LH (fun _ => 0) (fun _ => 0) (fun _ => -1) 0)), (5, .int (nI (64)))]) hx hb dX1_hashEmptyTree_11 rfl hl (by decide) rfl (fun ls hl => ?_)
              refine lv_iload_n hx hb dX1_hashEmptyTree_12 rfl (lv_at hl 1 rfl) ?_
              refine lv_iconst (v := nI (3)) hx hb dX1_hashEmptyTree_13 (by decide) ?_
              refine tg_ne (tgt := 25) hx hb dX1_hashEmptyTree_14 (by decide) (by omega) (by omega) (fun c14_5 => ?_) (fun c14_5 => ?_)
              · skip
                refine lv_aload_n hx hb dX1_hashEmptyTree_25 rfl (lv_at hl 2 rfl) ?_
                refine lv_iload_n hx hb dX1_hashEmptyTree_26 rfl (lv_at hl 0 rfl) ?_
                refine tg_Vl (As := [.int (nI (5))]) (rest := []) (wr := [(a1, .inl (ty 1, 256, .inr (.inl (fun _ => 0)))), (a2, .inl (ty 1, 256, .inr (.inl (fun _ => 0)))), (a3, .inl (ty 0, 256, .inl (fun _ => -1)))]) (w2 := [(h0, .inr (1, [.ref a1, .ref a2, .ref a3, .ref a4, .int (en)])), (a1, .inl (ty 1, 256, .inr (.inl (fun _ => 0)))), (a2, .inl (ty 1, 256, .inr (.inl (fun _ => 0)))), (a3, .inl (ty 0, 256, .inl (fun _ => -1))), (a4, .inl (ty 1, 85, .inr (.inl (tg_fill ha 21 (tg_LH (fun _ => 0) (fun _ => 0) (fun _ => -1) 0) 64))))]) ⟨hx, hb, hml, hown, hts⟩ (k_X1_hashOfChildren l D ty h0 a1 a2 a3 a4 en (tg_fill ha 21 (tg_LH (fun _ => 0) (fun _ => 0) (fun _ => -1) 0) 64) 5 (by omega)) (cwV 1 hts gX1_hashEmptyTree_X1_hashOfChildren rfl rfl rfl (by decide +kernel) ⟨Nat.le_of_ble_eq_true rfl, Nat.le_of_ble_eq_true rfl⟩) hK hN hP hD hS hA [0, 4] [1, 2, 3] [3, 0, 1, 2, 4] 0 1 rfl rfl rfl rfl rfl rfl rfl (by decide) rfl hl.1 rfl (Nat.le_of_ble_eq_true rfl) dX1_hashEmptyTree_27 rfl rfl ⟨Nat.le_of_ble_eq_true rfl, Nat.le_of_ble_eq_true rfl⟩ (fun H locs hP hD hS => ?_)
                refine lv_lstore_n (lv' := [(3, .long (tg_CH (tg_fill ha 21 (tg_LH (fun _ => 0) (fun _ => 0) (fun _ => -1) 0) 64) 5)), (2, .int (nI (5))), (1, .int (nI (2))), (0, .ref h0), (5, .int (nI (64)))]) hx hb dX1_hashEmptyTree_30 rfl hl (by decide) rfl (fun ls hl => ?_)
                refine lv_iconst (v := nI (0)) hx hb dX1_hashEmptyTree_31 (by decide) ?_
                refine lv_istore (lv' := [(5, .int (nI (0))), (3, .long (tg_CH (tg_fill ha 21 (tg_LH (fun _ => 0) (fun _ => 0) (fun _ => -1) 0) 64) 5)), (2, .int (nI (5))), (1, .int (nI (2))), (0, .ref h0)]) hx hb dX1_hashEmptyTree_32 hl (by decide) rfl (fun ls hl => ?_)
                have hL34 : ∀ (n34 i : Nat) , i ≤ 16 → 16 + 1 ≤ i + n34 → ∀ (H : Heap) (locs : List Loc) (ls : Array Slot), va_P D vwCl [(h0, .inr (1, [.ref a1, .ref a2, .ref a3, .ref a4, .int (en)])), (a1, .inl (ty 1, 256, .inr (.inl (fun _ => 0)))), (a2, .inl (ty 1, 256, .inr (.inl (fun _ => 0)))), (a3, .inl (ty 0, 256, .inl (fun _ => -1))), (a4, .inl (ty 1, 85, .inr (.inl (tg_fill (tg_fill ha 21 (tg_LH (fun _ => 0) (fun _ => 0) (fun _ => -1) 0) 64) 5 (tg_CH (tg_fill ha 21 (tg_LH (fun _ => 0) (fun _ => 0) (fun _ => -1) 0) 64) 5) i))))] H → va_D AA [(h0, .inr (1, [.ref a1, .ref a2, .ref a3, .ref a4, .int (en)])), (a1, .inl (ty 1, 256, .inr (.inl (fun _ => 0)))), (a2, .inl (ty 1, 256, .inr (.inl (fun _ => 0)))), (a3, .inl (ty 0, 256, .inl (fun _ => -1))), (a4, .inl (ty 1, 85, .inr (.inl (tg_fill (tg_fill ha 21 (tg_LH (fun _ => 0) (fun _ => 0) (fun _ => -1) 0) 64) 5 (tg_CH (tg_fill ha 21 (tg_LH (fun _ => 0) (fun _ => 0) (fun _ => -1) 0) 64) 5) i))))] → va_S AA ss.heap H locs → lv_has ls 6 [(0, .ref h0), (1, .int (nI (2))), (2, .int (nI (5))), (3, .long (tg_CH (tg_fill ha 21 (tg_LH (fun _ => 0) (fun _ => 0) (fun _ => -1) 0) 64) 5)), (5, .int (nI (i)))] → W pp l ee rmk_X1_hashEmptyTree ss mm args below meth cc H locs 0 0 QQ (F0 mm 34 ls []) := by
                  intro n34
                  induction n34 with
                  | zero => intro i  h1 h2; omega
                  | succ n34 ih34 =>
                    intro i  hi34 hn34  H locs ls hP hD hS hl
                    refine lv_iload hx hb dX1_hashEmptyTree_34 (lv_at hl 4 rfl) ?_
                    refine lv_iload_n hx hb dX1_hashEmptyTree_36 rfl (lv_at hl 1 rfl) ?_
                    refine tg_SNi (As := [.int (nI (2))]) (rest := [.int (nI (i))]) ⟨hx, hb, hml, hown, hts⟩ (k_X2_nodesOf l D ty 2 (by omega)) ⟨va_cnB 1 hts gX1_hashEmptyTree_X2_nodesOf_n46 rfl rfl rfl hN.2 (hts (.initialized RX2) (by decide +kernel)) (by decide +kernel) ⟨Nat.le_of_ble_eq_true rfl, Nat.le_of_ble_eq_true rfl⟩, hts (.static yX2_nodesOf) (by decide +kernel), trivial⟩ hK hN hP hD hS hA rfl hl.1 rfl (Nat.le_of_ble_eq_true rfl) dX1_hashEmptyTree_37 ⟨Nat.le_of_ble_eq_true rfl, Nat.le_of_ble_eq_true rfl⟩ (fun H locs hP hD hS => ?_)
                    refine tg_vi (y := nI (16)) rfl ?_
                    refine tg_ge (tgt := 59) hx hb dX1_hashEmptyTree_40 (by decide) (by omega) (by omega) (fun c40_6 => ?_) (fun c40_6 => ?_)
                    · skip
                      obtain rfl : 16 = i := by omega
                      refine lv_iinc (v := nI (1)) (lv' := [(1, .int (nI (1))), (0, .ref h0), (2, .int (nI (5))), (3, .long (tg_CH (tg_fill ha 21 (tg_LH (fun _ => 0) (fun _ => 0) (fun _ => -1) 0) 64) 5)), (5, .int (nI (16)))]) hx hb dX1_hashEmptyTree_59 hl (k := 1) rfl (by decide) (by decide) rfl (fun ls hl => ?_)
                      refine lv_goto (tgt := 2) hx hb dX1_hashEmptyTree_62 (by decide) ?_
                      refine lv_iload_n hx hb dX1_hashEmptyTree_2 rfl (lv_at hl 0 rfl) ?_
                      refine lv_if_lt (tgt := 65) hx hb dX1_hashEmptyTree_3 (by decide) (fun c3_7 => ?_) (fun c3_7 => ?_)
                      · exact absurd c3_7 (by decide)
                      · skip
                        refine lv_iload_n hx hb dX1_hashEmptyTree_6 rfl (lv_at hl 0 rfl) ?_
                        refine lv_iconst (v := nI (0)) hx hb dX1_hashEmptyTree_7 (by decide) ?_
                        refine tg_SNi (As := [.int (nI (1)), .int (nI (0))]) (rest := []) ⟨hx, hb, hml, hown, hts⟩ (k_X2_treePlace l D ty 1 0 (by omega) (by omega)) ⟨va_cnB 2 hts gX1_hashEmptyTree_X2_treePlace_n35 rfl rfl rfl hN.1 (hts (.initialized RX2) (by decide +kernel)) (by decide +kernel) ⟨Nat.le_of_ble_eq_true rfl, Nat.le_of_ble_eq_true rfl⟩, hts (.static yX2_treePlace) (by decide +kernel), trivial⟩ hK hN hP hD hS hA rfl hl.1 rfl (Nat.le_of_ble_eq_true rfl) dX1_hashEmptyTree_8 ⟨Nat.le_of_ble_eq_true rfl, Nat.le_of_ble_eq_true rfl⟩ (fun H locs hP hD hS => ?_)
                        refine tg_vi (y := nI (1)) rfl ?_
                        refine lv_istore_n (lv' := [(2, .int (nI (1))), (1, .int (nI (1))), (0, .ref h0), (3, .long (tg_CH (tg_fill ha 21 (tg_LH (fun _ => 0) (fun _ => 0) (fun _ => -1) 0) 64) 5)), (5, .int (nI (16)))]) hx hb dX1_hashEmptyTree_11 rfl hl (by decide) rfl (fun ls hl => ?_)
                        refine lv_iload_n hx hb dX1_hashEmptyTree_12 rfl (lv_at hl 1 rfl) ?_
                        refine lv_iconst (v := nI (3)) hx hb dX1_hashEmptyTree_13 (by decide) ?_
                        refine tg_ne (tgt := 25) hx hb dX1_hashEmptyTree_14 (by decide) (by omega) (by omega) (fun c14_8 => ?_) (fun c14_8 => ?_)
                        · skip
                          refine lv_aload_n hx hb dX1_hashEmptyTree_25 rfl (lv_at hl 2 rfl) ?_
                          refine lv_iload_n hx hb dX1_hashEmptyTree_26 rfl (lv_at hl 0 rfl) ?_
                          refine tg_Vl (As := [.int (nI (1))]) (rest := []) (wr := [(a1, .inl (ty 1, 256, .inr (.inl (fun _ => 0)))), (a2, .inl (ty 1, 256, .inr (.inl (fun _ => 0)))), (a3, .inl (ty 0, 256, .inl (fun _ => -1)))]) (w2 := [(h0, .inr (1, [.ref a1, .ref a2, .ref a3, .ref a4, .int (en)])), (a1, .inl (ty 1, 256, .inr (.inl (fun _ => 0)))), (a2, .inl (ty 1, 256, .inr (.inl (fun _ => 0)))), (a3, .inl (ty 0, 256, .inl (fun _ => -1))), (a4, .inl (ty 1, 85, .inr (.inl (tg_fill (tg_fill ha 21 (tg_LH (fun _ => 0) (fun _ => 0) (fun _ => -1) 0) 64) 5 (tg_CH (tg_fill ha 21 (tg_LH (fun _ => 0) (fun _ => 0) (fun _ => -1) 0) 64) 5) 16))))]) ⟨hx, hb, hml, hown, hts⟩ (k_X1_hashOfChildren l D ty h0 a1 a2 a3 a4 en (tg_fill (tg_fill ha 21 (tg_LH (fun _ => 0) (fun _ => 0) (fun _ => -1) 0) 64) 5 (tg_CH (tg_fill ha 21 (tg_LH (fun _ => 0) (fun _ => 0) (fun _ => -1) 0) 64) 5) 16) 1 (by omega)) (cwV 1 hts gX1_hashEmptyTree_X1_hashOfChildren rfl rfl rfl (by decide +kernel) ⟨Nat.le_of_ble_eq_true rfl, Nat.le_of_ble_eq_true rfl⟩) hK hN hP hD hS hA [0, 4] [1, 2, 3] [3, 0, 1, 2, 4] 0 1 rfl rfl rfl rfl rfl rfl rfl (by decide) rfl hl.1 rfl (Nat.le_of_ble_eq_true rfl) dX1_hashEmptyTree_27 rfl rfl ⟨Nat.le_of_ble_eq_true rfl, Nat.le_of_ble_eq_true rfl⟩ (fun H locs hP hD hS => ?_)
                          refine lv_lstore_n (lv' := [(3, .long (tg_CH (tg_fill (tg_fill ha 21 (tg_LH (fun _ => 0) (fun _ => 0) (fun _ => -1) 0) 64) 5 (tg_CH (tg_fill ha 21 (tg_LH (fun _ => 0) (fun _ => 0) (fun _ => -1) 0) 64) 5) 16) 1)), (2, .int (nI (1))), (1, .int (nI (1))), (0, .ref h0), (5, .int (nI (16)))]) hx hb dX1_hashEmptyTree_30 rfl hl (by decide) rfl (fun ls hl => ?_)
                          refine lv_iconst (v := nI (0)) hx hb dX1_hashEmptyTree_31 (by decide) ?_
                          refine lv_istore (lv' := [(5, .int (nI (0))), (3, .long (tg_CH (tg_fill (tg_fill ha 21 (tg_LH (fun _ => 0) (fun _ => 0) (fun _ => -1) 0) 64) 5 (tg_CH (tg_fill ha 21 (tg_LH (fun _ => 0) (fun _ => 0) (fun _ => -1) 0) 64) 5) 16) 1)), (2, .int (nI (1))), (1, .int (nI (1))), (0, .ref h0)]) hx hb dX1_hashEmptyTree_32 hl (by decide) rfl (fun ls hl => ?_)
                          have hL34 : ∀ (n34 i : Nat) , i ≤ 4 → 4 + 1 ≤ i + n34 → ∀ (H : Heap) (locs : List Loc) (ls : Array Slot), va_P D vwCl [(h0, .inr (1, [.ref a1, .ref a2, .ref a3, .ref a4, .int (en)])), (a1, .inl (ty 1, 256, .inr (.inl (fun _ => 0)))), (a2, .inl (ty 1, 256, .inr (.inl (fun _ => 0)))), (a3, .inl (ty 0, 256, .inl (fun _ => -1))), (a4, .inl (ty 1, 85, .inr (.inl (tg_fill (tg_fill (tg_fill ha 21 (tg_LH (fun _ => 0) (fun _ => 0) (fun _ => -1) 0) 64) 5 (tg_CH (tg_fill ha 21 (tg_LH (fun _ => 0) (fun _ => 0) (fun _ => -1) 0) 64) 5) 16) 1 (tg_CH (tg_fill (tg_fill ha 21 (tg_LH (fun _ => 0) (fun _ => 0) (fun _ => -1) 0) 64) 5 (tg_CH (tg_fill ha 21 (tg_LH (fun _ => 0) (fun _ => 0) (fun _ => -1) 0) 64) 5) 16) 1) i))))] H → va_D AA [(h0, .inr (1, [.ref a1, .ref a2, .ref a3, .ref a4, .int (en)])), (a1, .inl (ty 1, 256, .inr (.inl (fun _ => 0)))), (a2, .inl (ty 1, 256, .inr (.inl (fun _ => 0)))), (a3, .inl (ty 0, 256, .inl (fun _ => -1))), (a4, .inl (ty 1, 85, .inr (.inl (tg_fill (tg_fill (tg_fill ha 21 (tg_LH (fun _ => 0) (fun _ => 0) (fun _ => -1) 0) 64) 5 (tg_CH (tg_fill ha 21 (tg_LH (fun _ => 0) (fun _ => 0) (fun _ => -1) 0) 64) 5) 16) 1 (tg_CH (tg_fill (tg_fill ha 21 (tg_LH (fun _ => 0) (fun _ => 0) (fun _ => -1) 0) 64) 5 (tg_CH (tg_fill ha 21 (tg_LH (fun _ => 0) (fun _ => 0) (fun _ => -1) 0) 64) 5) 16) 1) i))))] → va_S AA ss.heap H locs → lv_has ls 6 [(0, .ref h0), (1, .int (nI (1))), (2, .int (nI (1))), (3, .long (tg_CH (tg_fill (tg_fill ha 21 (tg_LH (fun _ => 0) (fun _ => 0) (fun _ => -1) 0) 64) 5 (tg_CH (tg_fill ha 21 (tg_LH (fun _ => 0) (fun _ => 0) (fun _ => -1) 0) 64) 5) 16) 1)), (5, .int (nI (i)))] → W pp l ee rmk_X1_hashEmptyTree ss mm args below meth cc H locs 0 0 QQ (F0 mm 34 ls []) := by
                            intro n34
                            induction n34 with
                            | zero => intro i  h1 h2; omega
                            | succ n34 ih34 =>
                              intro i  hi34 hn34  H locs ls hP hD hS hl
                              refine lv_iload hx hb dX1_hashEmptyTree_34 (lv_at hl 4 rfl) ?_
                              refine lv_iload_n hx hb dX1_hashEmptyTree_36 rfl (lv_at hl 1 rfl) ?_
                              refine tg_SNi (As := [.int (nI (1))]) (rest := [.int (nI (i))]) ⟨hx, hb, hml, hown, hts⟩ (k_X2_nodesOf l D ty 1 (by omega)) ⟨va_cnB 1 hts gX1_hashEmptyTree_X2_nodesOf_n46 rfl rfl rfl hN.2 (hts (.initialized RX2) (by decide +kernel)) (by decide +kernel) ⟨Nat.le_of_ble_eq_true rfl, Nat.le_of_ble_eq_true rfl⟩, hts (.static yX2_nodesOf) (by decide +kernel), trivial⟩ hK hN hP hD hS hA rfl hl.1 rfl (Nat.le_of_ble_eq_true rfl) dX1_hashEmptyTree_37 ⟨Nat.le_of_ble_eq_true rfl, Nat.le_of_ble_eq_true rfl⟩ (fun H locs hP hD hS => ?_)
                              refine tg_vi (y := nI (4)) rfl ?_
                              refine tg_ge (tgt := 59) hx hb dX1_hashEmptyTree_40 (by decide) (by omega) (by omega) (fun c40_9 => ?_) (fun c40_9 => ?_)
                              · skip
                                obtain rfl : 4 = i := by omega
                                refine lv_iinc (v := nI (0)) (lv' := [(1, .int (nI (0))), (0, .ref h0), (2, .int (nI (1))), (3, .long (tg_CH (tg_fill (tg_fill ha 21 (tg_LH (fun _ => 0) (fun _ => 0) (fun _ => -1) 0) 64) 5 (tg_CH (tg_fill ha 21 (tg_LH (fun _ => 0) (fun _ => 0) (fun _ => -1) 0) 64) 5) 16) 1)), (5, .int (nI (4)))]) hx hb dX1_hashEmptyTree_59 hl (k := 1) rfl (by decide) (by decide) rfl (fun ls hl => ?_)
                                refine lv_goto (tgt := 2) hx hb dX1_hashEmptyTree_62 (by decide) ?_
                                refine lv_iload_n hx hb dX1_hashEmptyTree_2 rfl (lv_at hl 0 rfl) ?_
                                refine lv_if_lt (tgt := 65) hx hb dX1_hashEmptyTree_3 (by decide) (fun c3_10 => ?_) (fun c3_10 => ?_)
                                · exact absurd c3_10 (by decide)
                                · skip
                                  refine lv_iload_n hx hb dX1_hashEmptyTree_6 rfl (lv_at hl 0 rfl) ?_
                                  refine lv_iconst (v := nI (0)) hx hb dX1_hashEmptyTree_7 (by decide) ?_
                                  refine tg_SNi (As := [.int (nI (0)), .int (nI (0))]) (rest := []) ⟨hx, hb, hml, hown, hts⟩ (k_X2_treePlace l D ty 0 0 (by omega) (by omega)) ⟨va_cnB 2 hts gX1_hashEmptyTree_X2_treePlace_n35 rfl rfl rfl hN.1 (hts (.initialized RX2) (by decide +kernel)) (by decide +kernel) ⟨Nat.le_of_ble_eq_true rfl, Nat.le_of_ble_eq_true rfl⟩, hts (.static yX2_treePlace) (by decide +kernel), trivial⟩ hK hN hP hD hS hA rfl hl.1 rfl (Nat.le_of_ble_eq_true rfl) dX1_hashEmptyTree_8 ⟨Nat.le_of_ble_eq_true rfl, Nat.le_of_ble_eq_true rfl⟩ (fun H locs hP hD hS => ?_)
                                  refine tg_vi (y := nI (0)) rfl ?_
                                  refine lv_istore_n (lv' := [(2, .int (nI (0))), (1, .int (nI (0))), (0, .ref h0), (3, .long (tg_CH (tg_fill (tg_fill ha 21 (tg_LH (fun _ => 0) (fun _ => 0) (fun _ => -1) 0) 64) 5 (tg_CH (tg_fill ha 21 (tg_LH (fun _ => 0) (fun _ => 0) (fun _ => -1) 0) 64) 5) 16) 1)), (5, .int (nI (4)))]) hx hb dX1_hashEmptyTree_11 rfl hl (by decide) rfl (fun ls hl => ?_)
                                  refine lv_iload_n hx hb dX1_hashEmptyTree_12 rfl (lv_at hl 1 rfl) ?_
                                  refine lv_iconst (v := nI (3)) hx hb dX1_hashEmptyTree_13 (by decide) ?_
                                  refine tg_ne (tgt := 25) hx hb dX1_hashEmptyTree_14 (by decide) (by omega) (by omega) (fun c14_11 => ?_) (fun c14_11 => ?_)
                                  · skip
                                    refine lv_aload_n hx hb dX1_hashEmptyTree_25 rfl (lv_at hl 2 rfl) ?_
                                    refine lv_iload_n hx hb dX1_hashEmptyTree_26 rfl (lv_at hl 0 rfl) ?_
                                    refine tg_Vl (As := [.int (nI (0))]) (rest := []) (wr := [(a1, .inl (ty 1, 256, .inr (.inl (fun _ => 0)))), (a2, .inl (ty 1, 256, .inr (.inl (fun _ => 0)))), (a3, .inl (ty 0, 256, .inl (fun _ => -1)))]) (w2 := [(h0, .inr (1, [.ref a1, .ref a2, .ref a3, .ref a4, .int (en)])), (a1, .inl (ty 1, 256, .inr (.inl (fun _ => 0)))), (a2, .inl (ty 1, 256, .inr (.inl (fun _ => 0)))), (a3, .inl (ty 0, 256, .inl (fun _ => -1))), (a4, .inl (ty 1, 85, .inr (.inl (tg_fill (tg_fill (tg_fill ha 21 (tg_LH (fun _ => 0) (fun _ => 0) (fun _ => -1) 0) 64) 5 (tg_CH (tg_fill ha 21 (tg_LH (fun _ => 0) (fun _ => 0) (fun _ => -1) 0) 64) 5) 16) 1 (tg_CH (tg_fill (tg_fill ha 21 (tg_LH (fun _ => 0) (fun _ => 0) (fun _ => -1) 0) 64) 5 (tg_CH (tg_fill ha 21 (tg_LH (fun _ => 0) (fun _ => 0) (fun _ => -1) 0) 64) 5) 16) 1) 4))))]) ⟨hx, hb, hml, hown, hts⟩ (k_X1_hashOfChildren l D ty h0 a1 a2 a3 a4 en (tg_fill (tg_fill (tg_fill ha 21 (tg_LH (fun _ => 0) (fun _ => 0) (fun _ => -1) 0) 64) 5 (tg_CH (tg_fill ha 21 (tg_LH (fun _ => 0) (fun _ => 0) (fun _ => -1) 0) 64) 5) 16) 1 (tg_CH (tg_fill (tg_fill ha 21 (tg_LH (fun _ => 0) (fun _ => 0) (fun _ => -1) 0) 64) 5 (tg_CH (tg_fill ha 21 (tg_LH (fun _ => 0) (fun _ => 0) (fun _ => -1) 0) 64) 5) 16) 1) 4) 0 (by omega)) (cwV 1 hts gX1_hashEmptyTree_X1_hashOfChildren rfl rfl rfl (by decide +kernel) ⟨Nat.le_of_ble_eq_true rfl, Nat.le_of_ble_eq_true rfl⟩) hK hN hP hD hS hA [0, 4] [1, 2, 3] [3, 0, 1, 2, 4] 0 1 rfl rfl rfl rfl rfl rfl rfl (by decide) rfl hl.1 rfl (Nat.le_of_ble_eq_true rfl) dX1_hashEmptyTree_27 rfl rfl ⟨Nat.le_of_ble_eq_true rfl, Nat.le_of_ble_eq_true rfl⟩ (fun H locs hP hD hS => ?_)
                                    refine lv_lstore_n (lv' := [(3, .long (tg_CH (tg_fill (tg_fill (tg_fill ha 21 (tg_LH (fun _ => 0) (fun _ => 0) (fun _ => -1) 0) 64) 5 (tg_CH (tg_fill ha 21 (tg_LH (fun _ => 0) (fun _ => 0) (fun _ => -1) 0) 64) 5) 16) 1 (tg_CH (tg_fill (tg_fill ha 21 (tg_LH (fun _ => 0) (fun _ => 0) (fun _ => -1) 0) 64) 5 (tg_CH (tg_fill ha 21 (tg_LH (fun _ => 0) (fun _ => 0) (fun _ => -1) 0) 64) 5) 16) 1) 4) 0)), (2, .int (nI (0))), (1, .int (nI (0))), (0, .ref h0), (5, .int (nI (4)))]) hx hb dX1_hashEmptyTree_30 rfl hl (by decide) rfl (fun ls hl => ?_)
                                    refine lv_iconst (v := nI (0)) hx hb dX1_hashEmptyTree_31 (by decide) ?_
                                    refine lv_istore (lv' := [(5, .int (nI (0))), (3, .long (tg_CH (tg_fill (tg_fill (tg_fill ha 21 (tg_LH (fun _ => 0) (fun _ => 0) (fun _ => -1) 0) 64) 5 (tg_CH (tg_fill ha 21 (tg_LH (fun _ => 0) (fun _ => 0) (fun _ => -1) 0) 64) 5) 16) 1 (tg_CH (tg_fill (tg_fill ha 21 (tg_LH (fun _ => 0) (fun _ => 0) (fun _ => -1) 0) 64) 5 (tg_CH (tg_fill ha 21 (tg_LH (fun _ => 0) (fun _ => 0) (fun _ => -1) 0) 64) 5) 16) 1) 4) 0)), (2, .int (nI (0))), (1, .int (nI (0))), (0, .ref h0)]) hx hb dX1_hashEmptyTree_32 hl (by decide) rfl (fun ls hl => ?_)
                                    have hL34 : ∀ (n34 i : Nat) , i ≤ 1 → 1 + 1 ≤ i + n34 → ∀ (H : Heap) (locs : List Loc) (ls : Array Slot), va_P D vwCl [(h0, .inr (1, [.ref a1, .ref a2, .ref a3, .ref a4, .int (en)])), (a1, .inl (ty 1, 256, .inr (.inl (fun _ => 0)))), (a2, .inl (ty 1, 256, .inr (.inl (fun _ => 0)))), (a3, .inl (ty 0, 256, .inl (fun _ => -1))), (a4, .inl (ty 1, 85, .inr (.inl (tg_fill (tg_fill (tg_fill (tg_fill ha 21 (tg_LH (fun _ => 0) (fun _ => 0) (fun _ => -1) 0) 64) 5 (tg_CH (tg_fill ha 21 (tg_LH (fun _ => 0) (fun _ => 0) (fun _ => -1) 0) 64) 5) 16) 1 (tg_CH (tg_fill (tg_fill ha 21 (tg_LH (fun _ => 0) (fun _ => 0) (fun _ => -1) 0) 64) 5 (tg_CH (tg_fill ha 21 (tg_LH (fun _ => 0) (fun _ => 0) (fun _ => -1) 0) 64) 5) 16) 1) 4) 0 (tg_CH (tg_fill (tg_fill (tg_fill ha 21 (tg_LH (fun _ => 0) (fun _ => 0) (fun _ => -1) 0) 64) 5 (tg_CH (tg_fill ha 21 (tg_LH (fun _ => 0) (fun _ => 0) (fun _ => -1) 0) 64) 5) 16) 1 (tg_CH (tg_fill (tg_fill ha 21 (tg_LH (fun _ => 0) (fun _ => 0) (fun _ => -1) 0) 64) 5 (tg_CH (tg_fill ha 21 (tg_LH (fun _ => 0) (fun _ => 0) (fun _ => -1) 0) 64) 5) 16) 1) 4) 0) i))))] H → va_D AA [(h0, .inr (1, [.ref a1, .ref a2, .ref a3, .ref a4, .int (en)])), (a1, .inl (ty 1, 256, .inr (.inl (fun _ => 0)))), (a2, .inl (ty 1, 256, .inr (.inl (fun _ => 0)))), (a3, .inl (ty 0, 256, .inl (fun _ => -1))), (a4, .inl (ty 1, 85, .inr (.inl (tg_fill (tg_fill (tg_fill (tg_fill ha 21 (tg_LH (fun _ => 0) (fun _ => 0) (fun _ => -1) 0) 64) 5 (tg_CH (tg_fill ha 21 (tg_LH (fun _ => 0) (fun _ => 0) (fun _ => -1) 0) 64) 5) 16) 1 (tg_CH (tg_fill (tg_fill ha 21 (tg_LH (fun _ => 0) (fun _ => 0) (fun _ => -1) 0) 64) 5 (tg_CH (tg_fill ha 21 (tg_LH (fun _ => 0) (fun _ => 0) (fun _ => -1) 0) 64) 5) 16) 1) 4) 0 (tg_CH (tg_fill (tg_fill (tg_fill ha 21 (tg_LH (fun _ => 0) (fun _ => 0) (fun _ => -1) 0) 64) 5 (tg_CH (tg_fill ha 21 (tg_LH (fun _ => 0) (fun _ => 0) (fun _ => -1) 0) 64) 5) 16) 1 (tg_CH (tg_fill (tg_fill ha 21 (tg_LH (fun _ => 0) (fun _ => 0) (fun _ => -1) 0) 64) 5 (tg_CH (tg_fill ha 21 (tg_LH (fun _ => 0) (fun _ => 0) (fun _ => -1) 0) 64) 5) 16) 1) 4) 0) i))))] → va_S AA ss.heap H locs → lv_has ls 6 [(0, .ref h0), (1, .int (nI (0))), (2, .int (nI (0))), (3, .long (tg_CH (tg_fill (tg_fill (tg_fill ha 21 (tg_LH (fun _ => 0) (fun _ => 0) (fun _ => -1) 0) 64) 5 (tg_CH (tg_fill ha 21 (tg_LH (fun _ => 0) (fun _ => 0) (fun _ => -1) 0) 64) 5) 16) 1 (tg_CH (tg_fill (tg_fill ha 21 (tg_LH (fun _ => 0) (fun _ => 0) (fun _ => -1) 0) 64) 5 (tg_CH (tg_fill ha 21 (tg_LH (fun _ => 0) (fun _ => 0) (fun _ => -1) 0) 64) 5) 16) 1) 4) 0)), (5, .int (nI (i)))] → W pp l ee rmk_X1_hashEmptyTree ss mm args below meth cc H locs 0 0 QQ (F0 mm 34 ls []) := by
                                      intro n34
                                      induction n34 with
                                      | zero => intro i  h1 h2; omega
                                      | succ n34 ih34 =>
                                        intro i  hi34 hn34  H locs ls hP hD hS hl
                                        refine lv_iload hx hb dX1_hashEmptyTree_34 (lv_at hl 4 rfl) ?_
                                        refine lv_iload_n hx hb dX1_hashEmptyTree_36 rfl (lv_at hl 1 rfl) ?_
                                        refine tg_SNi (As := [.int (nI (0))]) (rest := [.int (nI (i))]) ⟨hx, hb, hml, hown, hts⟩ (k_X2_nodesOf l D ty 0 (by omega)) ⟨va_cnB 1 hts gX1_hashEmptyTree_X2_nodesOf_n46 rfl rfl rfl hN.2 (hts (.initialized RX2) (by decide +kernel)) (by decide +kernel) ⟨Nat.le_of_ble_eq_true rfl, Nat.le_of_ble_eq_true rfl⟩, hts (.static yX2_nodesOf) (by decide +kernel), trivial⟩ hK hN hP hD hS hA rfl hl.1 rfl (Nat.le_of_ble_eq_true rfl) dX1_hashEmptyTree_37 ⟨Nat.le_of_ble_eq_true rfl, Nat.le_of_ble_eq_true rfl⟩ (fun H locs hP hD hS => ?_)
                                        refine tg_vi (y := nI (1)) rfl ?_
                                        refine tg_ge (tgt := 59) hx hb dX1_hashEmptyTree_40 (by decide) (by omega) (by omega) (fun c40_12 => ?_) (fun c40_12 => ?_)
                                        · skip
                                          obtain rfl : 1 = i := by omega
                                          refine lv_iinc (v := -1) (lv' := [(1, .int (-1)), (0, .ref h0), (2, .int (nI (0))), (3, .long (tg_CH (tg_fill (tg_fill (tg_fill ha 21 (tg_LH (fun _ => 0) (fun _ => 0) (fun _ => -1) 0) 64) 5 (tg_CH (tg_fill ha 21 (tg_LH (fun _ => 0) (fun _ => 0) (fun _ => -1) 0) 64) 5) 16) 1 (tg_CH (tg_fill (tg_fill ha 21 (tg_LH (fun _ => 0) (fun _ => 0) (fun _ => -1) 0) 64) 5 (tg_CH (tg_fill ha 21 (tg_LH (fun _ => 0) (fun _ => 0) (fun _ => -1) 0) 64) 5) 16) 1) 4) 0)), (5, .int (nI (1)))]) hx hb dX1_hashEmptyTree_59 hl (k := 1) rfl (by decide) (by decide) rfl (fun ls hl => ?_)
                                          refine lv_goto (tgt := 2) hx hb dX1_hashEmptyTree_62 (by decide) ?_
                                          refine lv_iload_n hx hb dX1_hashEmptyTree_2 rfl (lv_at hl 0 rfl) ?_
                                          refine lv_if_lt (tgt := 65) hx hb dX1_hashEmptyTree_3 (by decide) (fun c3_13 => ?_) (fun c3_13 => ?_)
                                          · skip
                                            exact hret _ _ 65 _ () (tg_xL hP 4 rfl (tg_t0_at ha) rfl) (tg_xD hD rfl) hS dX1_hashEmptyTree_65
                                          · exact absurd (by decide) c3_13
                                        · skip
                                          refine lv_aload_n hx hb dX1_hashEmptyTree_43 rfl (lv_at hl 0 rfl) ?_
                                          refine va_get (D := D) (ci := 1) (v := .ref a4) (C := RX1) (T := TX1) (N := 5) hx hb hts hinX1 hown hK hP 0 rfl rfl 3 (by decide) (hts (.fieldLink RX1 22 "TreeGossip$Store" "hashes" "[J") (by decide +kernel)) (fun _ h9 => h9) rfl dX1_hashEmptyTree_44 ?_
                                          refine lv_iload_n hx hb dX1_hashEmptyTree_47 rfl (lv_at hl 2 rfl) ?_
                                          refine lv_iload hx hb dX1_hashEmptyTree_48 (lv_at hl 4 rfl) ?_
                                          refine lv_iadd hx hb dX1_hashEmptyTree_50 ?_
                                          refine tg_vi (nI_add _ _) ?_
                                          refine lv_lload_n hx hb dX1_hashEmptyTree_51 rfl (lv_at hl 3 rfl) ?_
                                          refine tg_last hx hb hK hP hD hS 4 rfl (k := 0 + i) (by omega) (by decide) dX1_hashEmptyTree_52 (ws' := [(h0, .inr (1, [.ref a1, .ref a2, .ref a3, .ref a4, .int (en)])), (a1, .inl (ty 1, 256, .inr (.inl (fun _ => 0)))), (a2, .inl (ty 1, 256, .inr (.inl (fun _ => 0)))), (a3, .inl (ty 0, 256, .inl (fun _ => -1))), (a4, .inl (ty 1, 85, .inr (.inl (vp_updL (tg_fill (tg_fill (tg_fill (tg_fill ha 21 (tg_LH (fun _ => 0) (fun _ => 0) (fun _ => -1) 0) 64) 5 (tg_CH (tg_fill ha 21 (tg_LH (fun _ => 0) (fun _ => 0) (fun _ => -1) 0) 64) 5) 16) 1 (tg_CH (tg_fill (tg_fill ha 21 (tg_LH (fun _ => 0) (fun _ => 0) (fun _ => -1) 0) 64) 5 (tg_CH (tg_fill ha 21 (tg_LH (fun _ => 0) (fun _ => 0) (fun _ => -1) 0) 64) 5) 16) 1) 4) 0 (tg_CH (tg_fill (tg_fill (tg_fill ha 21 (tg_LH (fun _ => 0) (fun _ => 0) (fun _ => -1) 0) 64) 5 (tg_CH (tg_fill ha 21 (tg_LH (fun _ => 0) (fun _ => 0) (fun _ => -1) 0) 64) 5) 16) 1 (tg_CH (tg_fill (tg_fill ha 21 (tg_LH (fun _ => 0) (fun _ => 0) (fun _ => -1) 0) 64) 5 (tg_CH (tg_fill ha 21 (tg_LH (fun _ => 0) (fun _ => 0) (fun _ => -1) 0) 64) 5) 16) 1) 4) 0) i) (0 + i) (tg_CH (tg_fill (tg_fill (tg_fill ha 21 (tg_LH (fun _ => 0) (fun _ => 0) (fun _ => -1) 0) 64) 5 (tg_CH (tg_fill ha 21 (tg_LH (fun _ => 0) (fun _ => 0) (fun _ => -1) 0) 64) 5) 16) 1 (tg_CH (tg_fill (tg_fill ha 21 (tg_LH (fun _ => 0) (fun _ => 0) (fun _ => -1) 0) 64) 5 (tg_CH (tg_fill ha 21 (tg_LH (fun _ => 0) (fun _ => 0) (fun _ => -1) 0) 64) 5) 16) 1) 4) 0)))))]) rfl (fun H locs hP hD hS => ?_)
                                          refine lv_iinc (v := nI (i + 1)) (lv' := [(5, .int (nI (i + 1))), (0, .ref h0), (1, .int (nI (0))), (2, .int (nI (0))), (3, .long (tg_CH (tg_fill (tg_fill (tg_fill ha 21 (tg_LH (fun _ => 0) (fun _ => 0) (fun _ => -1) 0) 64) 5 (tg_CH (tg_fill ha 21 (tg_LH (fun _ => 0) (fun _ => 0) (fun _ => -1) 0) 64) 5) 16) 1 (tg_CH (tg_fill (tg_fill ha 21 (tg_LH (fun _ => 0) (fun _ => 0) (fun _ => -1) 0) 64) 5 (tg_CH (tg_fill ha 21 (tg_LH (fun _ => 0) (fun _ => 0) (fun _ => -1) 0) 64) 5) 16) 1) 4) 0))]) hx hb dX1_hashEmptyTree_53 hl (k := 4) rfl (tg_inc1 _) (by decide) rfl (fun ls hl => ?_)
                                          refine lv_goto (tgt := 34) hx hb dX1_hashEmptyTree_56 (by decide) ?_
                                          exact ih34 (i + 1) (by omega) (by omega)  _ _ _ hP hD hS (lv_sub hl [1, 2, 3, 4, 0] rfl)
                                    exact hL34 (1 + 1) 0 (by omega) (by omega)  _ _ _ hP hD hS (lv_sub hl [4, 3, 2, 1, 0] rfl)
                                  · omega
                              · skip
                                refine lv_aload_n hx hb dX1_hashEmptyTree_43 rfl (lv_at hl 0 rfl) ?_
                                refine va_get (D := D) (ci := 1) (v := .ref a4) (C := RX1) (T := TX1) (N := 5) hx hb hts hinX1 hown hK hP 0 rfl rfl 3 (by decide) (hts (.fieldLink RX1 22 "TreeGossip$Store" "hashes" "[J") (by decide +kernel)) (fun _ h9 => h9) rfl dX1_hashEmptyTree_44 ?_
                                refine lv_iload_n hx hb dX1_hashEmptyTree_47 rfl (lv_at hl 2 rfl) ?_
                                refine lv_iload hx hb dX1_hashEmptyTree_48 (lv_at hl 4 rfl) ?_
                                refine lv_iadd hx hb dX1_hashEmptyTree_50 ?_
                                refine tg_vi (nI_add _ _) ?_
                                refine lv_lload_n hx hb dX1_hashEmptyTree_51 rfl (lv_at hl 3 rfl) ?_
                                refine tg_last hx hb hK hP hD hS 4 rfl (k := 1 + i) (by omega) (by decide) dX1_hashEmptyTree_52 (ws' := [(h0, .inr (1, [.ref a1, .ref a2, .ref a3, .ref a4, .int (en)])), (a1, .inl (ty 1, 256, .inr (.inl (fun _ => 0)))), (a2, .inl (ty 1, 256, .inr (.inl (fun _ => 0)))), (a3, .inl (ty 0, 256, .inl (fun _ => -1))), (a4, .inl (ty 1, 85, .inr (.inl (vp_updL (tg_fill (tg_fill (tg_fill ha 21 (tg_LH (fun _ => 0) (fun _ => 0) (fun _ => -1) 0) 64) 5 (tg_CH (tg_fill ha 21 (tg_LH (fun _ => 0) (fun _ => 0) (fun _ => -1) 0) 64) 5) 16) 1 (tg_CH (tg_fill (tg_fill ha 21 (tg_LH (fun _ => 0) (fun _ => 0) (fun _ => -1) 0) 64) 5 (tg_CH (tg_fill ha 21 (tg_LH (fun _ => 0) (fun _ => 0) (fun _ => -1) 0) 64) 5) 16) 1) i) (1 + i) (tg_CH (tg_fill (tg_fill ha 21 (tg_LH (fun _ => 0) (fun _ => 0) (fun _ => -1) 0) 64) 5 (tg_CH (tg_fill ha 21 (tg_LH (fun _ => 0) (fun _ => 0) (fun _ => -1) 0) 64) 5) 16) 1)))))]) rfl (fun H locs hP hD hS => ?_)
                                refine lv_iinc (v := nI (i + 1)) (lv' := [(5, .int (nI (i + 1))), (0, .ref h0), (1, .int (nI (1))), (2, .int (nI (1))), (3, .long (tg_CH (tg_fill (tg_fill ha 21 (tg_LH (fun _ => 0) (fun _ => 0) (fun _ => -1) 0) 64) 5 (tg_CH (tg_fill ha 21 (tg_LH (fun _ => 0) (fun _ => 0) (fun _ => -1) 0) 64) 5) 16) 1))]) hx hb dX1_hashEmptyTree_53 hl (k := 4) rfl (tg_inc1 _) (by decide) rfl (fun ls hl => ?_)
                                refine lv_goto (tgt := 34) hx hb dX1_hashEmptyTree_56 (by decide) ?_
                                exact ih34 (i + 1) (by omega) (by omega)  _ _ _ hP hD hS (lv_sub hl [1, 2, 3, 4, 0] rfl)
                          exact hL34 (4 + 1) 0 (by omega) (by omega)  _ _ _ hP hD hS (lv_sub hl [4, 3, 2, 1, 0] rfl)
                        · omega
                    · skip
                      refine lv_aload_n hx hb dX1_hashEmptyTree_43 rfl (lv_at hl 0 rfl) ?_
                      refine va_get (D := D) (ci := 1) (v := .ref a4) (C := RX1) (T := TX1) (N := 5) hx hb hts hinX1 hown hK hP 0 rfl rfl 3 (by decide) (hts (.fieldLink RX1 22 "TreeGossip$Store" "hashes" "[J") (by decide +kernel)) (fun _ h9 => h9) rfl dX1_hashEmptyTree_44 ?_
                      refine lv_iload_n hx hb dX1_hashEmptyTree_47 rfl (lv_at hl 2 rfl) ?_
                      refine lv_iload hx hb dX1_hashEmptyTree_48 (lv_at hl 4 rfl) ?_
                      refine lv_iadd hx hb dX1_hashEmptyTree_50 ?_
                      refine tg_vi (nI_add _ _) ?_
                      refine lv_lload_n hx hb dX1_hashEmptyTree_51 rfl (lv_at hl 3 rfl) ?_
                      refine tg_last hx hb hK hP hD hS 4 rfl (k := 5 + i) (by omega) (by decide) dX1_hashEmptyTree_52 (ws' := [(h0, .inr (1, [.ref a1, .ref a2, .ref a3, .ref a4, .int (en)])), (a1, .inl (ty 1, 256, .inr (.inl (fun _ => 0)))), (a2, .inl (ty 1, 256, .inr (.inl (fun _ => 0)))), (a3, .inl (ty 0, 256, .inl (fun _ => -1))), (a4, .inl (ty 1, 85, .inr (.inl (vp_updL (tg_fill (tg_fill ha 21 (tg_LH (fun _ => 0) (fun _ => 0) (fun _ => -1) 0) 64) 5 (tg_CH (tg_fill ha 21 (tg_LH (fun _ => 0) (fun _ => 0) (fun _ => -1) 0) 64) 5) i) (5 + i) (tg_CH (tg_fill ha 21 (tg_LH (fun _ => 0) (fun _ => 0) (fun _ => -1) 0) 64) 5)))))]) rfl (fun H locs hP hD hS => ?_)
                      refine lv_iinc (v := nI (i + 1)) (lv' := [(5, .int (nI (i + 1))), (0, .ref h0), (1, .int (nI (2))), (2, .int (nI (5))), (3, .long (tg_CH (tg_fill ha 21 (tg_LH (fun _ => 0) (fun _ => 0) (fun _ => -1) 0) 64) 5))]) hx hb dX1_hashEmptyTree_53 hl (k := 4) rfl (tg_inc1 _) (by decide) rfl (fun ls hl => ?_)
                      refine lv_goto (tgt := 34) hx hb dX1_hashEmptyTree_56 (by decide) ?_
                      exact ih34 (i + 1) (by omega) (by omega)  _ _ _ hP hD hS (lv_sub hl [1, 2, 3, 4, 0] rfl)
                exact hL34 (16 + 1) 0 (by omega) (by omega)  _ _ _ hP hD hS (lv_sub hl [4, 3, 2, 1, 0] rfl)
              · omega
          · skip
            refine lv_aload_n hx hb dX1_hashEmptyTree_43 rfl (lv_at hl 0 rfl) ?_
            refine va_get (D := D) (ci := 1) (v := .ref a4) (C := RX1) (T := TX1) (N := 5) hx hb hts hinX1 hown hK hP 0 rfl rfl 3 (by decide) (hts (.fieldLink RX1 22 "TreeGossip$Store" "hashes" "[J") (by decide +kernel)) (fun _ h9 => h9) rfl dX1_hashEmptyTree_44 ?_
            refine lv_iload_n hx hb dX1_hashEmptyTree_47 rfl (lv_at hl 2 rfl) ?_
            refine lv_iload hx hb dX1_hashEmptyTree_48 (lv_at hl 4 rfl) ?_
            refine lv_iadd hx hb dX1_hashEmptyTree_50 ?_
            refine tg_vi (nI_add _ _) ?_
            refine lv_lload_n hx hb dX1_hashEmptyTree_51 rfl (lv_at hl 3 rfl) ?_
            refine tg_last hx hb hK hP hD hS 4 rfl (k := 21 + i) (by omega) (by decide) dX1_hashEmptyTree_52 (ws' := [(h0, .inr (1, [.ref a1, .ref a2, .ref a3, .ref a4, .int (en)])), (a1, .inl (ty 1, 256, .inr (.inl (fun _ => 0)))), (a2, .inl (ty 1, 256, .inr (.inl (fun _ => 0)))), (a3, .inl (ty 0, 256, .inl (fun _ => -1))), (a4, .inl (ty 1, 85, .inr (.inl (vp_updL (tg_fill ha 21 (tg_LH (fun _ => 0) (fun _ => 0) (fun _ => -1) 0) i) (21 + i) (tg_LH (fun _ => 0) (fun _ => 0) (fun _ => -1) 0)))))]) rfl (fun H locs hP hD hS => ?_)
            refine lv_iinc (v := nI (i + 1)) (lv' := [(5, .int (nI (i + 1))), (0, .ref h0), (1, .int (nI (3))), (2, .int (nI (21))), (3, .long (tg_LH (fun _ => 0) (fun _ => 0) (fun _ => -1) 0))]) hx hb dX1_hashEmptyTree_53 hl (k := 4) rfl (tg_inc1 _) (by decide) rfl (fun ls hl => ?_)
            refine lv_goto (tgt := 34) hx hb dX1_hashEmptyTree_56 (by decide) ?_
            exact ih34 (i + 1) (by omega) (by omega)  _ _ _ hP hD hS (lv_sub hl [1, 2, 3, 4, 0] rfl)
      exact hL34 (64 + 1) 0 (by omega) (by omega)  _ _ _ hP hD hS (lv_sub hl [4, 3, 2, 1, 0] rfl)
def rmk_X1_becomeEmpty : Room := { frames := 3, cells := 0, slots := 0, locals := 79 }
theorem ink_X1_becomeEmpty_X1 : ∀ w ∈ wsX10, w ∈ wsX1_becomeEmpty := by decide +kernel
set_option maxHeartbeats 4000000 in
set_option maxRecDepth 100000 in
theorem k_X1_becomeEmpty (l : Launch) (D : va_G) (ty : Nat → ClassId) (h0 : Nat) (a1 : Nat) (a2 : Nat) (a3 : Nat) (a4 : Nat) (en : Int32) (st : Nat → Int64) (va : Nat → Int64) (le : Nat → Int32) (ha : Nat → Int64)  : tg_Mv l yX1_becomeEmpty wsX1_becomeEmpty rmk_X1_becomeEmpty D ty [.ref h0] [(h0, .inr (1, [.ref a1, .ref a2, .ref a3, .ref a4, .int (en)])), (a1, .inl (ty 1, 256, .inr (.inl st))), (a2, .inl (ty 1, 256, .inr (.inl va))), (a3, .inl (ty 0, 256, .inl le)), (a4, .inl (ty 1, 85, .inr (.inl ha)))] (fun _ : Unit => [(h0, .inr (1, [.ref a1, .ref a2, .ref a3, .ref a4, .int (nI 0)])), (a1, .inl (ty 1, 256, .inr (.inl (fun _ => 0)))), (a2, .inl (ty 1, 256, .inr (.inl (fun _ => 0)))), (a3, .inl (ty 0, 256, .inl (fun _ => -1))), (a4, .inl (ty 1, 85, .inr (.inl tg_E)))]) 0 0 := by
  refine tg_start_v (cc := cX1_becomeEmpty) (maxL := 2) (lvs := [(0, .ref h0)]) (by decide) rfl (Nat.le_of_ble_eq_true rfl) rfl ?_
  intro pp ee ss mm args below meth cc AA ls QQ hx hb hr hts hown hlocks hml hnm hA hP hD hS hK hN hl hret
  have hinX1 := ink_X1_becomeEmpty_X1
  refine lv_iconst (v := nI (0)) hx hb dX1_becomeEmpty_0 (by decide) ?_
  refine lv_istore_n (lv' := [(1, .int (nI (0))), (0, .ref h0)]) hx hb dX1_becomeEmpty_1 rfl hl (by decide) rfl (fun ls hl => ?_)
  have hL2 : ∀ (n2 i : Nat) , i ≤ 256 → 256 + 1 ≤ i + n2 → ∀ (H : Heap) (locs : List Loc) (ls : Array Slot), va_P D vwCl [(h0, .inr (1, [.ref a1, .ref a2, .ref a3, .ref a4, .int (en)])), (a1, .inl (ty 1, 256, .inr (.inl (tg_clL st i)))), (a2, .inl (ty 1, 256, .inr (.inl (tg_clL va i)))), (a3, .inl (ty 0, 256, .inl (tg_clI le i))), (a4, .inl (ty 1, 85, .inr (.inl ha)))] H → va_D AA [(h0, .inr (1, [.ref a1, .ref a2, .ref a3, .ref a4, .int (en)])), (a1, .inl (ty 1, 256, .inr (.inl (tg_clL st i)))), (a2, .inl (ty 1, 256, .inr (.inl (tg_clL va i)))), (a3, .inl (ty 0, 256, .inl (tg_clI le i))), (a4, .inl (ty 1, 85, .inr (.inl ha)))] → va_S AA ss.heap H locs → lv_has ls 2 [(0, .ref h0), (1, .int (nI (i)))] → W pp l ee rmk_X1_becomeEmpty ss mm args below meth cc H locs 0 0 QQ (F0 mm 2 ls []) := by
    intro n2
    induction n2 with
    | zero => intro i  h1 h2; omega
    | succ n2 ih2 =>
      intro i  hi2 hn2  H locs ls hP hD hS hl
      refine lv_iload_n hx hb dX1_becomeEmpty_2 rfl (lv_at hl 1 rfl) ?_
      refine lv_sipush (v := nI (256)) hx hb dX1_becomeEmpty_3 (by decide) ?_
      refine tg_ge (tgt := 36) hx hb dX1_becomeEmpty_6 (by decide) (by omega) (by omega) (fun c6_1 => ?_) (fun c6_1 => ?_)
      · skip
        obtain rfl : 256 = i := by omega
        have hP : va_P D vwCl [(h0, .inr (1, [.ref a1, .ref a2, .ref a3, .ref a4, .int (en)])), (a1, .inl (ty 1, 256, .inr (.inl (fun _ => 0)))), (a2, .inl (ty 1, 256, .inr (.inl (tg_clL va 256)))), (a3, .inl (ty 0, 256, .inl (tg_clI le 256))), (a4, .inl (ty 1, 85, .inr (.inl ha)))] _ := tg_xL hP 1 rfl (tg_clL_at st 256) rfl
        have hP : va_P D vwCl [(h0, .inr (1, [.ref a1, .ref a2, .ref a3, .ref a4, .int (en)])), (a1, .inl (ty 1, 256, .inr (.inl (fun _ => 0)))), (a2, .inl (ty 1, 256, .inr (.inl (fun _ => 0)))), (a3, .inl (ty 0, 256, .inl (tg_clI le 256))), (a4, .inl (ty 1, 85, .inr (.inl ha)))] _ := tg_xL hP 2 rfl (tg_clL_at va 256) rfl
        have hP : va_P D vwCl [(h0, .inr (1, [.ref a1, .ref a2, .ref a3, .ref a4, .int (en)])), (a1, .inl (ty 1, 256, .inr (.inl (fun _ => 0)))), (a2, .inl (ty 1, 256, .inr (.inl (fun _ => 0)))), (a3, .inl (ty 0, 256, .inl (fun _ => -1))), (a4, .inl (ty 1, 85, .inr (.inl ha)))] _ := tg_xI hP 3 rfl (tg_clI_at le 256) rfl
        have hD : va_D AA [(h0, .inr (1, [.ref a1, .ref a2, .ref a3, .ref a4, .int (en)])), (a1, .inl (ty 1, 256, .inr (.inl (fun _ => 0)))), (a2, .inl (ty 1, 256, .inr (.inl (fun _ => 0)))), (a3, .inl (ty 0, 256, .inl (fun _ => -1))), (a4, .inl (ty 1, 85, .inr (.inl ha)))] := tg_xD hD rfl
        refine lv_aload_n hx hb dX1_becomeEmpty_36 rfl (lv_at hl 0 rfl) ?_
        refine lv_iconst (v := nI (0)) hx hb dX1_becomeEmpty_37 (by decide) ?_
        refine tg_put (ci := 1) (v := .int (nI (0))) (ft := .int) (C := RX1) (T := TX1) (N := 5) hx hb hts hinX1 tyX1 tyX1_ok nmX1 hown hK hP hD hS 0 rfl rfl 4 (by decide) (hts (.fieldLink RX1 28 "TreeGossip$Store" "entries" "I") (by decide +kernel)) (fun _ h9 => h9) rfl (by decide +kernel) rfl rfl (Nat.le_of_ble_eq_true rfl) dX1_becomeEmpty_38 (ws' := [(h0, .inr (1, [.ref a1, .ref a2, .ref a3, .ref a4, .int (nI (0))])), (a1, .inl (ty 1, 256, .inr (.inl (fun _ => 0)))), (a2, .inl (ty 1, 256, .inr (.inl (fun _ => 0)))), (a3, .inl (ty 0, 256, .inl (fun _ => -1))), (a4, .inl (ty 1, 85, .inr (.inl ha)))]) rfl (fun H locs hP hD hS => ?_)
        refine lv_aload_n hx hb dX1_becomeEmpty_41 rfl (lv_at hl 0 rfl) ?_
        refine tg_Vv (As := []) (rest := []) (wr := []) (w2 := [(h0, .inr (1, [.ref a1, .ref a2, .ref a3, .ref a4, .int ((nI (0)))])), (a1, .inl (ty 1, 256, .inr (.inl (fun _ => 0)))), (a2, .inl (ty 1, 256, .inr (.inl (fun _ => 0)))), (a3, .inl (ty 0, 256, .inl (fun _ => -1))), (a4, .inl (ty 1, 85, .inr (.inl tg_E)))]) ⟨hx, hb, hml, hown, hts⟩ (k_X1_hashEmptyTree l D ty h0 a1 a2 a3 a4 (nI (0)) ha ) (cwV 0 hts gX1_becomeEmpty_X1_hashEmptyTree rfl rfl rfl (by decide +kernel) ⟨Nat.le_of_ble_eq_true rfl, Nat.le_of_ble_eq_true rfl⟩) hK hN hP hD hS hA [0, 1, 2, 3, 4] [] [0, 1, 2, 3, 4] 0 1 rfl rfl rfl rfl rfl rfl rfl (by decide) rfl hl.1 rfl (Nat.le_of_ble_eq_true rfl) dX1_becomeEmpty_42 rfl rfl ⟨Nat.le_of_ble_eq_true rfl, Nat.le_of_ble_eq_true rfl⟩ (fun H locs hP hD hS => ?_)
        exact hret _ _ 45 _ () hP hD hS dX1_becomeEmpty_45
      · skip
        refine lv_aload_n hx hb dX1_becomeEmpty_9 rfl (lv_at hl 0 rfl) ?_
        refine va_get (D := D) (ci := 1) (v := .ref a1) (C := RX1) (T := TX1) (N := 5) hx hb hts hinX1 hown hK hP 0 rfl rfl 0 (by decide) (hts (.fieldLink RX1 9 "TreeGossip$Store" "stamps" "[J") (by decide +kernel)) (fun _ h9 => h9) rfl dX1_becomeEmpty_10 ?_
        refine lv_iload_n hx hb dX1_becomeEmpty_13 rfl (lv_at hl 1 rfl) ?_
        refine lv_lconst (v := 0) hx hb dX1_becomeEmpty_14 (by decide) ?_
        refine tg_last hx hb hK hP hD hS 1 rfl (k := i) (by omega) (by decide) dX1_becomeEmpty_15 (ws' := [(h0, .inr (1, [.ref a1, .ref a2, .ref a3, .ref a4, .int (en)])), (a1, .inl (ty 1, 256, .inr (.inl (vp_updL (tg_clL st i) i 0)))), (a2, .inl (ty 1, 256, .inr (.inl (tg_clL va i)))), (a3, .inl (ty 0, 256, .inl (tg_clI le i))), (a4, .inl (ty 1, 85, .inr (.inl ha)))]) rfl (fun H locs hP hD hS => ?_)
        refine lv_aload_n hx hb dX1_becomeEmpty_16 rfl (lv_at hl 0 rfl) ?_
        refine va_get (D := D) (ci := 1) (v := .ref a2) (C := RX1) (T := TX1) (N := 5) hx hb hts hinX1 hown hK hP 0 rfl rfl 1 (by decide) (hts (.fieldLink RX1 15 "TreeGossip$Store" "values" "[J") (by decide +kernel)) (fun _ h9 => h9) rfl dX1_becomeEmpty_17 ?_
        refine lv_iload_n hx hb dX1_becomeEmpty_20 rfl (lv_at hl 1 rfl) ?_
        refine lv_lconst (v := 0) hx hb dX1_becomeEmpty_21 (by decide) ?_
        refine tg_last hx hb hK hP hD hS 2 rfl (k := i) (by omega) (by decide) dX1_becomeEmpty_22 (ws' := [(h0, .inr (1, [.ref a1, .ref a2, .ref a3, .ref a4, .int (en)])), (a1, .inl (ty 1, 256, .inr (.inl (vp_updL (tg_clL st i) i 0)))), (a2, .inl (ty 1, 256, .inr (.inl (vp_updL (tg_clL va i) i 0)))), (a3, .inl (ty 0, 256, .inl (tg_clI le i))), (a4, .inl (ty 1, 85, .inr (.inl ha)))]) rfl (fun H locs hP hD hS => ?_)
        refine lv_aload_n hx hb dX1_becomeEmpty_23 rfl (lv_at hl 0 rfl) ?_
        refine va_get (D := D) (ci := 1) (v := .ref a3) (C := RX1) (T := TX1) (N := 5) hx hb hts hinX1 hown hK hP 0 rfl rfl 2 (by decide) (hts (.fieldLink RX1 18 "TreeGossip$Store" "lengths" "[I") (by decide +kernel)) (fun _ h9 => h9) rfl dX1_becomeEmpty_24 ?_
        refine lv_iload_n hx hb dX1_becomeEmpty_27 rfl (lv_at hl 1 rfl) ?_
        refine lv_iconst (v := -1) hx hb dX1_becomeEmpty_28 (by decide) ?_
        refine tg_iast hx hb hK hP hD hS 3 rfl (k := i) (by omega) (by decide) dX1_becomeEmpty_29 (ws' := [(h0, .inr (1, [.ref a1, .ref a2, .ref a3, .ref a4, .int (en)])), (a1, .inl (ty 1, 256, .inr (.inl (vp_updL (tg_clL st i) i 0)))), (a2, .inl (ty 1, 256, .inr (.inl (vp_updL (tg_clL va i) i 0)))), (a3, .inl (ty 0, 256, .inl (upd (tg_clI le i) i (-1)))), (a4, .inl (ty 1, 85, .inr (.inl ha)))]) rfl (fun H locs hP hD hS => ?_)
        refine lv_iinc (v := nI (i + 1)) (lv' := [(1, .int (nI (i + 1))), (0, .ref h0)]) hx hb dX1_becomeEmpty_30 hl (k := 1) rfl (tg_inc1 _) (by decide) rfl (fun ls hl => ?_)
        refine lv_goto (tgt := 2) hx hb dX1_becomeEmpty_33 (by decide) ?_
        exact ih2 (i + 1) (by omega) (by omega)  _ _ _ hP hD hS (lv_sub hl [1, 0] rfl)
  exact hL2 (256 + 1) 0 (by omega) (by omega)  _ _ _ hP hD hS (lv_sub hl [1, 0] rfl)
def rmk_X1_merge : Room := { frames := 3, cells := 0, slots := 0, locals := 78 }
theorem ink_X1_merge_X1 : ∀ w ∈ wsX10, w ∈ wsX1_merge := by decide +kernel
set_option maxHeartbeats 4000000 in
set_option maxRecDepth 100000 in
theorem k_X1_merge (l : Launch) (D : va_G) (ty : Nat → ClassId) (h0 : Nat) (a1 : Nat) (a2 : Nat) (a3 : Nat) (a4 : Nat) (en : Int32) (st : Nat → Int64) (va : Nat → Int64) (le : Nat → Int32) (ha : Nat → Int64) (k : Nat) (s1 : Int64) (v1 : Int64) (n : Nat) (hk : k < 256) (hn : n ≤ 8) (hle : tg_okL le) : tg_Mi l yX1_merge wsX1_merge rmk_X1_merge D ty [.ref h0, .int (nI (k)), .long (s1), .long (v1), .int (nI (n))] [(h0, .inr (1, [.ref a1, .ref a2, .ref a3, .ref a4, .int (en)])), (a1, .inl (ty 1, 256, .inr (.inl st))), (a2, .inl (ty 1, 256, .inr (.inl va))), (a3, .inl (ty 0, 256, .inl le)), (a4, .inl (ty 1, 85, .inr (.inl ha)))] [(h0, .inr (1, [.ref a1, .ref a2, .ref a3, .ref a4, .int (cond (tg_in st va le k s1 v1 (nI n)) (tg_me le en k) en)])), (a1, .inl (ty 1, 256, .inr (.inl (cond (tg_in st va le k s1 v1 (nI n)) (vp_updL st k s1) st)))), (a2, .inl (ty 1, 256, .inr (.inl (cond (tg_in st va le k s1 v1 (nI n)) (vp_updL va k v1) va)))), (a3, .inl (ty 0, 256, .inl (cond (tg_in st va le k s1 v1 (nI n)) (upd le k (nI n)) le))), (a4, .inl (ty 1, 85, .inr (.inl (cond (tg_in st va le k s1 v1 (nI n)) (tg_rh (vp_updL st k s1) (vp_updL va k v1) (upd le k (nI n)) ha k) ha))))] (tg_b (tg_in st va le k s1 v1 (nI n))) 0 0 := by
  refine tg_start_z (cc := cX1_merge) (maxL := 7) (lvs := [(0, .ref h0), (1, .int (nI (k))), (2, .long (s1)), (4, .long (v1)), (6, .int (nI (n)))]) (by decide) rfl (Nat.le_of_ble_eq_true rfl) rfl ?_
  intro pp ee ss mm args below meth cc AA ls QQ hx hb hr hts hown hlocks hml hnm hA hP hD hS hK hN hl hret
  have hinX1 := ink_X1_merge_X1
  refine lv_aload_n hx hb dX1_merge_0 rfl (lv_at hl 0 rfl) ?_
  refine lv_iload_n hx hb dX1_merge_1 rfl (lv_at hl 1 rfl) ?_
  refine tg_Vi (As := [.int (nI (k))]) (rest := []) (wr := [(a1, .inl (ty 1, 256, .inr (.inl st))), (a2, .inl (ty 1, 256, .inr (.inl va))), (a4, .inl (ty 1, 85, .inr (.inl ha)))]) (w2 := [(h0, .inr (1, [.ref a1, .ref a2, .ref a3, .ref a4, .int (en)])), (a1, .inl (ty 1, 256, .inr (.inl st))), (a2, .inl (ty 1, 256, .inr (.inl va))), (a3, .inl (ty 0, 256, .inl le)), (a4, .inl (ty 1, 85, .inr (.inl ha)))]) ⟨hx, hb, hml, hown, hts⟩ (k_X1_has l D ty h0 a1 a2 a3 a4 en le k (by omega)) (cwV 1 hts gX1_merge_X1_has rfl rfl rfl (by decide +kernel) ⟨Nat.le_of_ble_eq_true rfl, Nat.le_of_ble_eq_true rfl⟩) hK hN hP hD hS hA [0, 3] [1, 2, 4] [3, 0, 1, 4, 2] 0 1 rfl rfl rfl rfl rfl rfl rfl (by decide) rfl hl.1 rfl (Nat.le_of_ble_eq_true rfl) dX1_merge_2 rfl rfl ⟨Nat.le_of_ble_eq_true rfl, Nat.le_of_ble_eq_true rfl⟩ (fun H locs hP hD hS => ?_)
  refine tg_if_eqb (tgt := 23) hx hb dX1_merge_5 (by decide) (fun c5_1 => ?_) (fun c5_1 => ?_)
  · skip
    refine lv_aload_n hx hb dX1_merge_23 rfl (lv_at hl 0 rfl) ?_
    refine lv_iload_n hx hb dX1_merge_24 rfl (lv_at hl 1 rfl) ?_
    refine tg_Vi (As := [.int (nI (k))]) (rest := []) (wr := [(a1, .inl (ty 1, 256, .inr (.inl st))), (a2, .inl (ty 1, 256, .inr (.inl va))), (a4, .inl (ty 1, 85, .inr (.inl ha)))]) (w2 := [(h0, .inr (1, [.ref a1, .ref a2, .ref a3, .ref a4, .int (en)])), (a1, .inl (ty 1, 256, .inr (.inl st))), (a2, .inl (ty 1, 256, .inr (.inl va))), (a3, .inl (ty 0, 256, .inl le)), (a4, .inl (ty 1, 85, .inr (.inl ha)))]) ⟨hx, hb, hml, hown, hts⟩ (k_X1_has l D ty h0 a1 a2 a3 a4 en le k (by omega)) (cwV 1 hts gX1_merge_X1_has rfl rfl rfl (by decide +kernel) ⟨Nat.le_of_ble_eq_true rfl, Nat.le_of_ble_eq_true rfl⟩) hK hN hP hD hS hA [0, 3] [1, 2, 4] [3, 0, 1, 4, 2] 0 1 rfl rfl rfl rfl rfl rfl rfl (by decide) rfl hl.1 rfl (Nat.le_of_ble_eq_true rfl) dX1_merge_25 rfl rfl ⟨Nat.le_of_ble_eq_true rfl, Nat.le_of_ble_eq_true rfl⟩ (fun H locs hP hD hS => ?_)
    refine tg_if_neb (tgt := 41) hx hb dX1_merge_28 (by decide) (fun c28_2 => ?_) (fun c28_2 => ?_)
    · exact absurd ((c5_1).symm.trans c28_2) (by decide)
    · skip
      refine lv_aload_n hx hb dX1_merge_31 rfl (lv_at hl 0 rfl) ?_
      refine lv_dup hx hb dX1_merge_32 rfl ?_
      refine va_get (D := D) (ci := 1) (v := .int (en)) (C := RX1) (T := TX1) (N := 5) hx hb hts hinX1 hown hK hP 0 rfl rfl 4 (by decide) (hts (.fieldLink RX1 28 "TreeGossip$Store" "entries" "I") (by decide +kernel)) (fun _ h9 => h9) rfl dX1_merge_33 ?_
      refine lv_iconst (v := nI (1)) hx hb dX1_merge_36 (by decide) ?_
      refine lv_iadd hx hb dX1_merge_37 ?_
      refine tg_put (ci := 1) (v := .int (en + (nI (1)))) (ft := .int) (C := RX1) (T := TX1) (N := 5) hx hb hts hinX1 tyX1 tyX1_ok nmX1 hown hK hP hD hS 0 rfl rfl 4 (by decide) (hts (.fieldLink RX1 28 "TreeGossip$Store" "entries" "I") (by decide +kernel)) (fun _ h9 => h9) rfl (by decide +kernel) rfl rfl (Nat.le_of_ble_eq_true rfl) dX1_merge_38 (ws' := [(h0, .inr (1, [.ref a1, .ref a2, .ref a3, .ref a4, .int (en + (nI (1)))])), (a1, .inl (ty 1, 256, .inr (.inl st))), (a2, .inl (ty 1, 256, .inr (.inl va))), (a3, .inl (ty 0, 256, .inl le)), (a4, .inl (ty 1, 85, .inr (.inl ha)))]) rfl (fun H locs hP hD hS => ?_)
      refine lv_aload_n hx hb dX1_merge_41 rfl (lv_at hl 0 rfl) ?_
      refine va_get (D := D) (ci := 1) (v := .ref a1) (C := RX1) (T := TX1) (N := 5) hx hb hts hinX1 hown hK hP 0 rfl rfl 0 (by decide) (hts (.fieldLink RX1 9 "TreeGossip$Store" "stamps" "[J") (by decide +kernel)) (fun _ h9 => h9) rfl dX1_merge_42 ?_
      refine lv_iload_n hx hb dX1_merge_45 rfl (lv_at hl 1 rfl) ?_
      refine lv_lload_n hx hb dX1_merge_46 rfl (lv_at hl 2 rfl) ?_
      refine tg_last hx hb hK hP hD hS 1 rfl (k := k) (by omega) (by decide) dX1_merge_47 (ws' := [(h0, .inr (1, [.ref a1, .ref a2, .ref a3, .ref a4, .int (en + (nI (1)))])), (a1, .inl (ty 1, 256, .inr (.inl (vp_updL st k s1)))), (a2, .inl (ty 1, 256, .inr (.inl va))), (a3, .inl (ty 0, 256, .inl le)), (a4, .inl (ty 1, 85, .inr (.inl ha)))]) rfl (fun H locs hP hD hS => ?_)
      refine lv_aload_n hx hb dX1_merge_48 rfl (lv_at hl 0 rfl) ?_
      refine va_get (D := D) (ci := 1) (v := .ref a2) (C := RX1) (T := TX1) (N := 5) hx hb hts hinX1 hown hK hP 0 rfl rfl 1 (by decide) (hts (.fieldLink RX1 15 "TreeGossip$Store" "values" "[J") (by decide +kernel)) (fun _ h9 => h9) rfl dX1_merge_49 ?_
      refine lv_iload_n hx hb dX1_merge_52 rfl (lv_at hl 1 rfl) ?_
      refine lv_lload hx hb dX1_merge_53 (lv_at hl 3 rfl) ?_
      refine tg_last hx hb hK hP hD hS 2 rfl (k := k) (by omega) (by decide) dX1_merge_55 (ws' := [(h0, .inr (1, [.ref a1, .ref a2, .ref a3, .ref a4, .int (en + (nI (1)))])), (a1, .inl (ty 1, 256, .inr (.inl (vp_updL st k s1)))), (a2, .inl (ty 1, 256, .inr (.inl (vp_updL va k v1)))), (a3, .inl (ty 0, 256, .inl le)), (a4, .inl (ty 1, 85, .inr (.inl ha)))]) rfl (fun H locs hP hD hS => ?_)
      refine lv_aload_n hx hb dX1_merge_56 rfl (lv_at hl 0 rfl) ?_
      refine va_get (D := D) (ci := 1) (v := .ref a3) (C := RX1) (T := TX1) (N := 5) hx hb hts hinX1 hown hK hP 0 rfl rfl 2 (by decide) (hts (.fieldLink RX1 18 "TreeGossip$Store" "lengths" "[I") (by decide +kernel)) (fun _ h9 => h9) rfl dX1_merge_57 ?_
      refine lv_iload_n hx hb dX1_merge_60 rfl (lv_at hl 1 rfl) ?_
      refine lv_iload hx hb dX1_merge_61 (lv_at hl 4 rfl) ?_
      refine tg_iast hx hb hK hP hD hS 3 rfl (k := k) (by omega) (by decide) dX1_merge_63 (ws' := [(h0, .inr (1, [.ref a1, .ref a2, .ref a3, .ref a4, .int (en + (nI (1)))])), (a1, .inl (ty 1, 256, .inr (.inl (vp_updL st k s1)))), (a2, .inl (ty 1, 256, .inr (.inl (vp_updL va k v1)))), (a3, .inl (ty 0, 256, .inl (upd le k (nI (n))))), (a4, .inl (ty 1, 85, .inr (.inl ha)))]) rfl (fun H locs hP hD hS => ?_)
      refine lv_aload_n hx hb dX1_merge_64 rfl (lv_at hl 0 rfl) ?_
      refine lv_iload_n hx hb dX1_merge_65 rfl (lv_at hl 1 rfl) ?_
      refine tg_Vv (As := [.int (nI (k))]) (rest := []) (wr := []) (w2 := [(h0, .inr (1, [.ref a1, .ref a2, .ref a3, .ref a4, .int ((en + (nI (1))))])), (a1, .inl (ty 1, 256, .inr (.inl (vp_updL st k s1)))), (a2, .inl (ty 1, 256, .inr (.inl (vp_updL va k v1)))), (a3, .inl (ty 0, 256, .inl (upd le k (nI (n))))), (a4, .inl (ty 1, 85, .inr (.inl (tg_rh (vp_updL st k s1) (vp_updL va k v1) (upd le k (nI (n))) ha k))))]) ⟨hx, hb, hml, hown, hts⟩ (k_X1_rehashAbove l D ty h0 a1 a2 a3 a4 (en + (nI (1))) (vp_updL st k s1) (vp_updL va k v1) (upd le k (nI (n))) ha k hk (tg_okL_u hle k hn)) (cwV 1 hts gX1_merge_X1_rehashAbove rfl rfl rfl (by decide +kernel) ⟨Nat.le_of_ble_eq_true rfl, Nat.le_of_ble_eq_true rfl⟩) hK hN hP hD hS hA [0, 1, 2, 3, 4] [] [0, 1, 2, 3, 4] 0 1 rfl rfl rfl rfl rfl rfl rfl (by decide) rfl hl.1 rfl (Nat.le_of_ble_eq_true rfl) dX1_merge_66 rfl rfl ⟨Nat.le_of_ble_eq_true rfl, Nat.le_of_ble_eq_true rfl⟩ (fun H locs hP hD hS => ?_)
      refine lv_iconst (v := nI (1)) hx hb dX1_merge_69 (by decide) ?_
      have hin : tg_in st va le k s1 v1 (nI n) = true := by unfold tg_in; rw [c5_1]; rfl
      exact hret _ _ 70 _ _ (by rw [hin]; unfold tg_me; rw [c5_1]; exact hP) (by rw [hin]; unfold tg_me; rw [c5_1]; exact hD) hS (by rw [hin]; rfl) rfl dX1_merge_70
  · skip
    refine lv_aload_n hx hb dX1_merge_8 rfl (lv_at hl 0 rfl) ?_
    refine lv_iload_n hx hb dX1_merge_9 rfl (lv_at hl 1 rfl) ?_
    refine lv_lload_n hx hb dX1_merge_10 rfl (lv_at hl 2 rfl) ?_
    refine lv_lload hx hb dX1_merge_11 (lv_at hl 3 rfl) ?_
    refine lv_iload hx hb dX1_merge_13 (lv_at hl 4 rfl) ?_
    refine tg_Vi (As := [.int (nI (k)), .long (s1), .long (v1), .int (nI (n))]) (rest := []) (wr := [(a4, .inl (ty 1, 85, .inr (.inl ha)))]) (w2 := [(h0, .inr (1, [.ref a1, .ref a2, .ref a3, .ref a4, .int (en)])), (a1, .inl (ty 1, 256, .inr (.inl st))), (a2, .inl (ty 1, 256, .inr (.inl va))), (a3, .inl (ty 0, 256, .inl le)), (a4, .inl (ty 1, 85, .inr (.inl ha)))]) ⟨hx, hb, hml, hown, hts⟩ (k_X1_isNewer l D ty h0 a1 a2 a3 a4 en st va le k s1 v1 (nI (n)) (by omega)) (cwV 4 hts gX1_merge_X1_isNewer rfl rfl rfl (by decide +kernel) ⟨Nat.le_of_ble_eq_true rfl, Nat.le_of_ble_eq_true rfl⟩) hK hN hP hD hS hA [0, 1, 2, 3] [4] [1, 2, 3, 4, 0] 0 1 rfl rfl rfl rfl rfl rfl rfl (by decide) rfl hl.1 rfl (Nat.le_of_ble_eq_true rfl) dX1_merge_15 rfl rfl ⟨Nat.le_of_ble_eq_true rfl, Nat.le_of_ble_eq_true rfl⟩ (fun H locs hP hD hS => ?_)
    refine tg_if_neb (tgt := 23) hx hb dX1_merge_18 (by decide) (fun c18_3 => ?_) (fun c18_3 => ?_)
    · skip
      refine lv_aload_n hx hb dX1_merge_23 rfl (lv_at hl 0 rfl) ?_
      refine lv_iload_n hx hb dX1_merge_24 rfl (lv_at hl 1 rfl) ?_
      refine tg_Vi (As := [.int (nI (k))]) (rest := []) (wr := [(a1, .inl (ty 1, 256, .inr (.inl st))), (a2, .inl (ty 1, 256, .inr (.inl va))), (a4, .inl (ty 1, 85, .inr (.inl ha)))]) (w2 := [(h0, .inr (1, [.ref a1, .ref a2, .ref a3, .ref a4, .int (en)])), (a1, .inl (ty 1, 256, .inr (.inl st))), (a2, .inl (ty 1, 256, .inr (.inl va))), (a3, .inl (ty 0, 256, .inl le)), (a4, .inl (ty 1, 85, .inr (.inl ha)))]) ⟨hx, hb, hml, hown, hts⟩ (k_X1_has l D ty h0 a1 a2 a3 a4 en le k (by omega)) (cwV 1 hts gX1_merge_X1_has rfl rfl rfl (by decide +kernel) ⟨Nat.le_of_ble_eq_true rfl, Nat.le_of_ble_eq_true rfl⟩) hK hN hP hD hS hA [0, 3] [1, 2, 4] [3, 0, 1, 4, 2] 0 1 rfl rfl rfl rfl rfl rfl rfl (by decide) rfl hl.1 rfl (Nat.le_of_ble_eq_true rfl) dX1_merge_25 rfl rfl ⟨Nat.le_of_ble_eq_true rfl, Nat.le_of_ble_eq_true rfl⟩ (fun H locs hP hD hS => ?_)
      refine tg_if_neb (tgt := 41) hx hb dX1_merge_28 (by decide) (fun c28_4 => ?_) (fun c28_4 => ?_)
      · skip
        refine lv_aload_n hx hb dX1_merge_41 rfl (lv_at hl 0 rfl) ?_
        refine va_get (D := D) (ci := 1) (v := .ref a1) (C := RX1) (T := TX1) (N := 5) hx hb hts hinX1 hown hK hP 0 rfl rfl 0 (by decide) (hts (.fieldLink RX1 9 "TreeGossip$Store" "stamps" "[J") (by decide +kernel)) (fun _ h9 => h9) rfl dX1_merge_42 ?_
        refine lv_iload_n hx hb dX1_merge_45 rfl (lv_at hl 1 rfl) ?_
        refine lv_lload_n hx hb dX1_merge_46 rfl (lv_at hl 2 rfl) ?_
        refine tg_last hx hb hK hP hD hS 1 rfl (k := k) (by omega) (by decide) dX1_merge_47 (ws' := [(h0, .inr (1, [.ref a1, .ref a2, .ref a3, .ref a4, .int (en)])), (a1, .inl (ty 1, 256, .inr (.inl (vp_updL st k s1)))), (a2, .inl (ty 1, 256, .inr (.inl va))), (a3, .inl (ty 0, 256, .inl le)), (a4, .inl (ty 1, 85, .inr (.inl ha)))]) rfl (fun H locs hP hD hS => ?_)
        refine lv_aload_n hx hb dX1_merge_48 rfl (lv_at hl 0 rfl) ?_
        refine va_get (D := D) (ci := 1) (v := .ref a2) (C := RX1) (T := TX1) (N := 5) hx hb hts hinX1 hown hK hP 0 rfl rfl 1 (by decide) (hts (.fieldLink RX1 15 "TreeGossip$Store" "values" "[J") (by decide +kernel)) (fun _ h9 => h9) rfl dX1_merge_49 ?_
        refine lv_iload_n hx hb dX1_merge_52 rfl (lv_at hl 1 rfl) ?_
        refine lv_lload hx hb dX1_merge_53 (lv_at hl 3 rfl) ?_
        refine tg_last hx hb hK hP hD hS 2 rfl (k := k) (by omega) (by decide) dX1_merge_55 (ws' := [(h0, .inr (1, [.ref a1, .ref a2, .ref a3, .ref a4, .int (en)])), (a1, .inl (ty 1, 256, .inr (.inl (vp_updL st k s1)))), (a2, .inl (ty 1, 256, .inr (.inl (vp_updL va k v1)))), (a3, .inl (ty 0, 256, .inl le)), (a4, .inl (ty 1, 85, .inr (.inl ha)))]) rfl (fun H locs hP hD hS => ?_)
        refine lv_aload_n hx hb dX1_merge_56 rfl (lv_at hl 0 rfl) ?_
        refine va_get (D := D) (ci := 1) (v := .ref a3) (C := RX1) (T := TX1) (N := 5) hx hb hts hinX1 hown hK hP 0 rfl rfl 2 (by decide) (hts (.fieldLink RX1 18 "TreeGossip$Store" "lengths" "[I") (by decide +kernel)) (fun _ h9 => h9) rfl dX1_merge_57 ?_
        refine lv_iload_n hx hb dX1_merge_60 rfl (lv_at hl 1 rfl) ?_
        refine lv_iload hx hb dX1_merge_61 (lv_at hl 4 rfl) ?_
        refine tg_iast hx hb hK hP hD hS 3 rfl (k := k) (by omega) (by decide) dX1_merge_63 (ws' := [(h0, .inr (1, [.ref a1, .ref a2, .ref a3, .ref a4, .int (en)])), (a1, .inl (ty 1, 256, .inr (.inl (vp_updL st k s1)))), (a2, .inl (ty 1, 256, .inr (.inl (vp_updL va k v1)))), (a3, .inl (ty 0, 256, .inl (upd le k (nI (n))))), (a4, .inl (ty 1, 85, .inr (.inl ha)))]) rfl (fun H locs hP hD hS => ?_)
        refine lv_aload_n hx hb dX1_merge_64 rfl (lv_at hl 0 rfl) ?_
        refine lv_iload_n hx hb dX1_merge_65 rfl (lv_at hl 1 rfl) ?_
        refine tg_Vv (As := [.int (nI (k))]) (rest := []) (wr := []) (w2 := [(h0, .inr (1, [.ref a1, .ref a2, .ref a3, .ref a4, .int (en)])), (a1, .inl (ty 1, 256, .inr (.inl (vp_updL st k s1)))), (a2, .inl (ty 1, 256, .inr (.inl (vp_updL va k v1)))), (a3, .inl (ty 0, 256, .inl (upd le k (nI (n))))), (a4, .inl (ty 1, 85, .inr (.inl (tg_rh (vp_updL st k s1) (vp_updL va k v1) (upd le k (nI (n))) ha k))))]) ⟨hx, hb, hml, hown, hts⟩ (k_X1_rehashAbove l D ty h0 a1 a2 a3 a4 en (vp_updL st k s1) (vp_updL va k v1) (upd le k (nI (n))) ha k hk (tg_okL_u hle k hn)) (cwV 1 hts gX1_merge_X1_rehashAbove rfl rfl rfl (by decide +kernel) ⟨Nat.le_of_ble_eq_true rfl, Nat.le_of_ble_eq_true rfl⟩) hK hN hP hD hS hA [0, 1, 2, 3, 4] [] [0, 1, 2, 3, 4] 0 1 rfl rfl rfl rfl rfl rfl rfl (by decide) rfl hl.1 rfl (Nat.le_of_ble_eq_true rfl) dX1_merge_66 rfl rfl ⟨Nat.le_of_ble_eq_true rfl, Nat.le_of_ble_eq_true rfl⟩ (fun H locs hP hD hS => ?_)
        refine lv_iconst (v := nI (1)) hx hb dX1_merge_69 (by decide) ?_
        have hin : tg_in st va le k s1 v1 (nI n) = true := by unfold tg_in; rw [c5_1, c18_3]; rfl
        exact hret _ _ 70 _ _ (by rw [hin]; unfold tg_me; rw [c5_1]; exact hP) (by rw [hin]; unfold tg_me; rw [c5_1]; exact hD) hS (by rw [hin]; rfl) rfl dX1_merge_70
      · exact absurd ((c5_1).symm.trans c28_4) (by decide)
    · skip
      refine lv_iconst (v := nI (0)) hx hb dX1_merge_21 (by decide) ?_
      have hin : tg_in st va le k s1 v1 (nI n) = false := by unfold tg_in; rw [c5_1, c18_3]; rfl
      exact hret _ _ 22 _ _ (by rw [hin]; exact hP) (by rw [hin]; exact hD) hS (by rw [hin]; rfl) rfl dX1_merge_22
