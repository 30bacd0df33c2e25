/-! ===== contracts: Store ===== -/
def rmk_J13_compare_74951 : Room := { frames := 0, cells := 0, slots := 0, locals := 0 }
set_option maxHeartbeats 4000000 in
set_option maxRecDepth 100000 in
theorem k_J13_compare_74951 (l : Launch) (D : va_G) (ty : Nat → ClassId) (x : Int64) (y : Int64)  : tg_Mi l yJ13_compare_74951 wsJ13_compare_74951 rmk_J13_compare_74951 D ty [.long (x), .long (y)] [] [] (tg_cp x y) 0 0 := by
  refine tg_start_i (cc := cJ13_compare_74951) (maxL := 4) (lvs := [(0, .long (x)), (2, .long (y))]) (by decide) rfl (Nat.le_of_ble_eq_true rfl) rfl ?_
  intro pp ee ss mm args below meth cc AA ls QQ hx hb hr hts hown hlocks hml hnm hA hP hD hS hK hN hl hret
  refine lv_lload_n hx hb dJ13_compare_74951_0 rfl (lv_at hl 0 rfl) ?_
  refine lv_lload_n hx hb dJ13_compare_74951_1 rfl (lv_at hl 1 rfl) ?_
  refine W.lcmp hx hb dJ13_compare_74951_2 ?_
  refine tg_lge (tgt := 10) hx hb dJ13_compare_74951_3 (by decide) (fun c3_1 => ?_) (fun c3_1 => ?_)
  · skip
    refine lv_lload_n hx hb dJ13_compare_74951_10 rfl (lv_at hl 0 rfl) ?_
    refine lv_lload_n hx hb dJ13_compare_74951_11 rfl (lv_at hl 1 rfl) ?_
    refine W.lcmp hx hb dJ13_compare_74951_12 ?_
    refine tg_lne (tgt := 20) hx hb dJ13_compare_74951_13 (by decide) (fun c13_2 => ?_) (fun c13_2 => ?_)
    · skip
      refine lv_iconst (v := nI (1)) hx hb dJ13_compare_74951_20 (by decide) ?_
      exact hret _ _ 21 _ _ hP hD hS (by unfold tg_cp; rw [if_neg (Int64.not_lt.mpr (by assumption)), if_neg (by assumption)]) dJ13_compare_74951_21
    · skip
      refine lv_iconst (v := nI (0)) hx hb dJ13_compare_74951_16 (by decide) ?_
      refine lv_goto (tgt := 21) hx hb dJ13_compare_74951_17 (by decide) ?_
      exact hret _ _ 21 _ _ hP hD hS (by unfold tg_cp; rw [if_neg (Int64.not_lt.mpr (by assumption)), if_pos (by assumption)]) dJ13_compare_74951_21
  · skip
    refine lv_iconst (v := -1) hx hb dJ13_compare_74951_6 (by decide) ?_
    refine lv_goto (tgt := 21) hx hb dJ13_compare_74951_7 (by decide) ?_
    exact hret _ _ 21 _ _ hP hD hS (by unfold tg_cp; rw [if_pos (by assumption)]) dJ13_compare_74951_21
def rmk_J13_compareUnsigned_74951 : Room := { frames := 1, cells := 0, slots := 0, locals := 23 }
set_option maxHeartbeats 4000000 in
set_option maxRecDepth 100000 in
theorem k_J13_compareUnsigned_74951 (l : Launch) (D : va_G) (ty : Nat → ClassId) (x : Int64) (y : Int64)  : tg_Mi l yJ13_compareUnsigned_74951 wsJ13_compareUnsigned_74951 rmk_J13_compareUnsigned_74951 D ty [.long (x), .long (y)] [] [] (tg_cu x y) 0 0 := by
  refine tg_start_i (cc := cJ13_compareUnsigned_74951) (maxL := 4) (lvs := [(0, .long (x)), (2, .long (y))]) (by decide) rfl (Nat.le_of_ble_eq_true rfl) rfl ?_
  intro pp ee ss mm args below meth cc AA ls QQ hx hb hr hts hown hlocks hml hnm hA hP hD hS hK hN hl hret
  refine lv_lload_n hx hb dJ13_compareUnsigned_74951_0 rfl (lv_at hl 0 rfl) ?_
  refine lv_ldc2 (v := -9223372036854775808) hx hb hown (hts (.constantLong RJ13 168 (-9223372036854775808)) (by decide +kernel)) dJ13_compareUnsigned_74951_1 ?_
  refine lv_ladd hx hb dJ13_compareUnsigned_74951_4 ?_
  refine lv_lload_n hx hb dJ13_compareUnsigned_74951_5 rfl (lv_at hl 1 rfl) ?_
  refine lv_ldc2 (v := -9223372036854775808) hx hb hown (hts (.constantLong RJ13 168 (-9223372036854775808)) (by decide +kernel)) dJ13_compareUnsigned_74951_6 ?_
  refine lv_ladd hx hb dJ13_compareUnsigned_74951_9 ?_
  refine tg_Si (As := [.long (x + (-9223372036854775808)), .long (y + (-9223372036854775808))]) (rest := []) ⟨hx, hb, hml, hown, hts⟩ (k_J13_compare_74951 l D ty (x + (-9223372036854775808)) (y + (-9223372036854775808)) ) (va_cwS 2 hts gJ13_compareUnsigned_74951_J13_compare_74951 rfl rfl rfl (by decide +kernel) ⟨Nat.le_of_ble_eq_true rfl, Nat.le_of_ble_eq_true rfl⟩) hK hN hP hD hS hA rfl hl.1 rfl (Nat.le_of_ble_eq_true rfl) dJ13_compareUnsigned_74951_10 ⟨Nat.le_of_ble_eq_true rfl, Nat.le_of_ble_eq_true rfl⟩ (fun H locs hP hD hS => ?_)
  exact hret _ _ 13 _ _ hP hD hS (rfl) dJ13_compareUnsigned_74951_13
def rmk_X1_hasJustSo : Room := { frames := 0, cells := 0, slots := 0, locals := 0 }
theorem ink_X1_hasJustSo_X1 : ∀ w ∈ wsX10, w ∈ wsX1_hasJustSo := by decide +kernel
set_option maxHeartbeats 4000000 in
set_option maxRecDepth 100000 in
theorem k_X1_hasJustSo (l : Launch) (D : va_G) (ty : Nat → ClassId) (h0 : Nat) (a1 : Nat) (a2 : Nat) (a3 : Nat) (a4 : Nat) (en : Int32) (st : Nat → Int64) (va : Nat → Int64) (le : Nat → Int32) (k : Nat) (s1 : Int64) (v1 : Int64) (n1 : Int32) (hk : k < 256) : tg_Mi l yX1_hasJustSo wsX1_hasJustSo rmk_X1_hasJustSo D ty [.ref h0, .int (nI (k)), .long (s1), .long (v1), .int (n1)] [(h0, .inr (1, [.ref a1, .ref a2, .ref a3, .ref a4, .int (en)])), (a1, .inl (ty 1, 256, .inr (.inl st))), (a2, .inl (ty 1, 256, .inr (.inl va))), (a3, .inl (ty 0, 256, .inl le))] [(h0, .inr (1, [.ref a1, .ref a2, .ref a3, .ref a4, .int (en)])), (a1, .inl (ty 1, 256, .inr (.inl st))), (a2, .inl (ty 1, 256, .inr (.inl va))), (a3, .inl (ty 0, 256, .inl le))] (tg_b (tg_js st va le k s1 v1 n1)) 0 0 := by
  refine tg_start_z (cc := cX1_hasJustSo) (maxL := 7) (lvs := [(0, .ref h0), (1, .int (nI (k))), (2, .long (s1)), (4, .long (v1)), (6, .int (n1))]) (by decide) rfl (Nat.le_of_ble_eq_true rfl) rfl ?_
  intro pp ee ss mm args below meth cc AA ls QQ hx hb hr hts hown hlocks hml hnm hA hP hD hS hK hN hl hret
  have hinX1 := ink_X1_hasJustSo_X1
  refine lv_aload_n hx hb dX1_hasJustSo_0 rfl (lv_at hl 0 rfl) ?_
  refine va_get (D := D) (ci := 1) (v := .ref a3) (C := RX1) (T := TX1) (N := 5) hx hb hts hinX1 hown hK hP 0 rfl rfl 2 (by decide) (hts (.fieldLink RX1 18 "TreeGossip$Store" "lengths" "[I") (by decide +kernel)) (fun _ h9 => h9) rfl dX1_hasJustSo_1 ?_
  refine lv_iload_n hx hb dX1_hasJustSo_4 rfl (lv_at hl 1 rfl) ?_
  refine tg_iald hx hb hK hP 3 rfl (f := le) (k := k) (by omega) (by decide) dX1_hasJustSo_5 ?_
  refine lv_iload hx hb dX1_hasJustSo_6 (lv_at hl 4 rfl) ?_
  refine lv_icmp_ne (tgt := 38) hx hb dX1_hasJustSo_8 (by decide) (fun c8_1 => ?_) (fun c8_1 => ?_)
  · skip
    refine lv_iconst (v := nI (0)) hx hb dX1_hasJustSo_38 (by decide) ?_
    exact hret _ _ 39 _ _ hP hD hS (by rw [show tg_js st va le k s1 v1 n1 = false by unfold tg_js; simp only [Bool.and_eq_false_iff, decide_eq_false_iff_not]; exact Or.inl (by assumption)]; decide) rfl dX1_hasJustSo_39
  · skip
    refine lv_aload_n hx hb dX1_hasJustSo_11 rfl (lv_at hl 0 rfl) ?_
    refine va_get (D := D) (ci := 1) (v := .ref a1) (C := RX1) (T := TX1) (N := 5) hx hb hts hinX1 hown hK hP 0 rfl rfl 0 (by decide) (hts (.fieldLink RX1 9 "TreeGossip$Store" "stamps" "[J") (by decide +kernel)) (fun _ h9 => h9) rfl dX1_hasJustSo_12 ?_
    refine lv_iload_n hx hb dX1_hasJustSo_15 rfl (lv_at hl 1 rfl) ?_
    refine tg_lald hx hb hK hP 1 rfl (f := st) (k := k) (by omega) (by decide) dX1_hasJustSo_16 ?_
    refine lv_lload_n hx hb dX1_hasJustSo_17 rfl (lv_at hl 2 rfl) ?_
    refine W.lcmp hx hb dX1_hasJustSo_18 ?_
    refine tg_lne (tgt := 38) hx hb dX1_hasJustSo_19 (by decide) (fun c19_2 => ?_) (fun c19_2 => ?_)
    · skip
      refine lv_iconst (v := nI (0)) hx hb dX1_hasJustSo_38 (by decide) ?_
      exact hret _ _ 39 _ _ hP hD hS (by rw [show tg_js st va le k s1 v1 n1 = false by unfold tg_js; simp only [Bool.and_eq_false_iff, decide_eq_false_iff_not]; exact Or.inr (Or.inl (by assumption))]; decide) rfl dX1_hasJustSo_39
    · skip
      refine lv_aload_n hx hb dX1_hasJustSo_22 rfl (lv_at hl 0 rfl) ?_
      refine va_get (D := D) (ci := 1) (v := .ref a2) (C := RX1) (T := TX1) (N := 5) hx hb hts hinX1 hown hK hP 0 rfl rfl 1 (by decide) (hts (.fieldLink RX1 15 "TreeGossip$Store" "values" "[J") (by decide +kernel)) (fun _ h9 => h9) rfl dX1_hasJustSo_23 ?_
      refine lv_iload_n hx hb dX1_hasJustSo_26 rfl (lv_at hl 1 rfl) ?_
      refine tg_lald hx hb hK hP 2 rfl (f := va) (k := k) (by omega) (by decide) dX1_hasJustSo_27 ?_
      refine lv_lload hx hb dX1_hasJustSo_28 (lv_at hl 3 rfl) ?_
      refine W.lcmp hx hb dX1_hasJustSo_30 ?_
      refine tg_lne (tgt := 38) hx hb dX1_hasJustSo_31 (by decide) (fun c31_3 => ?_) (fun c31_3 => ?_)
      · skip
        refine lv_iconst (v := nI (0)) hx hb dX1_hasJustSo_38 (by decide) ?_
        exact hret _ _ 39 _ _ hP hD hS (by rw [show tg_js st va le k s1 v1 n1 = false by unfold tg_js; simp only [Bool.and_eq_false_iff, decide_eq_false_iff_not]; exact Or.inr (Or.inr (by assumption))]; decide) rfl dX1_hasJustSo_39
      · skip
        refine lv_iconst (v := nI (1)) hx hb dX1_hasJustSo_34 (by decide) ?_
        refine lv_goto (tgt := 39) hx hb dX1_hasJustSo_35 (by decide) ?_
        exact hret _ _ 39 _ _ hP hD hS (by rw [show tg_js st va le k s1 v1 n1 = true by unfold tg_js; simp only [Bool.and_eq_true, decide_eq_true_eq]; exact ⟨by assumption, by assumption, by assumption⟩]; decide) rfl dX1_hasJustSo_39
def rmk_X1_isNewer : Room := { frames := 2, cells := 0, slots := 0, locals := 46 }
theorem ink_X1_isNewer_X1 : ∀ w ∈ wsX10, w ∈ wsX1_isNewer := by decide +kernel
set_option maxHeartbeats 4000000 in
set_option maxRecDepth 100000 in
theorem k_X1_isNewer (l : Launch) (D : va_G) (ty : Nat → ClassId) (h0 : Nat) (a1 : Nat) (a2 : Nat) (a3 : Nat) (a4 : Nat) (en : Int32) (st : Nat → Int64) (va : Nat → Int64) (le : Nat → Int32) (k : Nat) (s1 : Int64) (v1 : Int64) (n1 : Int32) (hk : k < 256) : tg_Mi l yX1_isNewer wsX1_isNewer rmk_X1_isNewer D ty [.ref h0, .int (nI (k)), .long (s1), .long (v1), .int (n1)] [(h0, .inr (1, [.ref a1, .ref a2, .ref a3, .ref a4, .int (en)])), (a1, .inl (ty 1, 256, .inr (.inl st))), (a2, .inl (ty 1, 256, .inr (.inl va))), (a3, .inl (ty 0, 256, .inl le))] [(h0, .inr (1, [.ref a1, .ref a2, .ref a3, .ref a4, .int (en)])), (a1, .inl (ty 1, 256, .inr (.inl st))), (a2, .inl (ty 1, 256, .inr (.inl va))), (a3, .inl (ty 0, 256, .inl le))] (tg_b (tg_new (st k) (le k) (va k) s1 n1 v1)) 0 0 := by
  refine tg_start_z (cc := cX1_isNewer) (maxL := 7) (lvs := [(0, .ref h0), (1, .int (nI (k))), (2, .long (s1)), (4, .long (v1)), (6, .int (n1))]) (by decide) rfl (Nat.le_of_ble_eq_true rfl) rfl ?_
  intro pp ee ss mm args below meth cc AA ls QQ hx hb hr hts hown hlocks hml hnm hA hP hD hS hK hN hl hret
  have hinX1 := ink_X1_isNewer_X1
  refine lv_lload_n hx hb dX1_isNewer_0 rfl (lv_at hl 2 rfl) ?_
  refine lv_aload_n hx hb dX1_isNewer_1 rfl (lv_at hl 0 rfl) ?_
  refine va_get (D := D) (ci := 1) (v := .ref a1) (C := RX1) (T := TX1) (N := 5) hx hb hts hinX1 hown hK hP 0 rfl rfl 0 (by decide) (hts (.fieldLink RX1 9 "TreeGossip$Store" "stamps" "[J") (by decide +kernel)) (fun _ h9 => h9) rfl dX1_isNewer_2 ?_
  refine lv_iload_n hx hb dX1_isNewer_5 rfl (lv_at hl 1 rfl) ?_
  refine tg_lald hx hb hK hP 1 rfl (f := st) (k := k) (by omega) (by decide) dX1_isNewer_6 ?_
  refine W.lcmp hx hb dX1_isNewer_7 ?_
  refine tg_leq (tgt := 28) hx hb dX1_isNewer_8 (by decide) (fun c8_1 => ?_) (fun c8_1 => ?_)
  · skip
    refine lv_iload hx hb dX1_isNewer_28 (lv_at hl 4 rfl) ?_
    refine lv_aload_n hx hb dX1_isNewer_30 rfl (lv_at hl 0 rfl) ?_
    refine va_get (D := D) (ci := 1) (v := .ref a3) (C := RX1) (T := TX1) (N := 5) hx hb hts hinX1 hown hK hP 0 rfl rfl 2 (by decide) (hts (.fieldLink RX1 18 "TreeGossip$Store" "lengths" "[I") (by decide +kernel)) (fun _ h9 => h9) rfl dX1_isNewer_31 ?_
    refine lv_iload_n hx hb dX1_isNewer_34 rfl (lv_at hl 1 rfl) ?_
    refine tg_iald hx hb hK hP 3 rfl (f := le) (k := k) (by omega) (by decide) dX1_isNewer_35 ?_
    refine lv_icmp_eq (tgt := 56) hx hb dX1_isNewer_36 (by decide) (fun c36_2 => ?_) (fun c36_2 => ?_)
    · skip
      refine lv_lload hx hb dX1_isNewer_56 (lv_at hl 3 rfl) ?_
      refine lv_aload_n hx hb dX1_isNewer_58 rfl (lv_at hl 0 rfl) ?_
      refine va_get (D := D) (ci := 1) (v := .ref a2) (C := RX1) (T := TX1) (N := 5) hx hb hts hinX1 hown hK hP 0 rfl rfl 1 (by decide) (hts (.fieldLink RX1 15 "TreeGossip$Store" "values" "[J") (by decide +kernel)) (fun _ h9 => h9) rfl dX1_isNewer_59 ?_
      refine lv_iload_n hx hb dX1_isNewer_62 rfl (lv_at hl 1 rfl) ?_
      refine tg_lald hx hb hK hP 2 rfl (f := va) (k := k) (by omega) (by decide) dX1_isNewer_63 ?_
      refine tg_Si (As := [.long (v1), .long (va k)]) (rest := []) ⟨hx, hb, hml, hown, hts⟩ (k_J13_compareUnsigned_74951 l D ty v1 (va k) ) (va_cwS 2 hts gX1_isNewer_J13_compareUnsigned_74951 rfl rfl rfl (by decide +kernel) ⟨Nat.le_of_ble_eq_true rfl, Nat.le_of_ble_eq_true rfl⟩) hK hN hP hD hS hA rfl hl.1 rfl (Nat.le_of_ble_eq_true rfl) dX1_isNewer_64 ⟨Nat.le_of_ble_eq_true rfl, Nat.le_of_ble_eq_true rfl⟩ (fun H locs hP hD hS => ?_)
      refine lv_if_le (tgt := 74) hx hb dX1_isNewer_67 (by decide) (fun c67_3 => ?_) (fun c67_3 => ?_)
      · skip
        refine lv_iconst (v := nI (0)) hx hb dX1_isNewer_74 (by decide) ?_
        exact hret _ _ 75 _ _ hP hD hS (by unfold tg_new; rw [if_pos c8_1, if_pos c36_2, decide_eq_false (fun q => q c67_3)]; decide) rfl dX1_isNewer_75
      · skip
        refine lv_iconst (v := nI (1)) hx hb dX1_isNewer_70 (by decide) ?_
        refine lv_goto (tgt := 75) hx hb dX1_isNewer_71 (by decide) ?_
        exact hret _ _ 75 _ _ hP hD hS (by unfold tg_new; rw [if_pos c8_1, if_pos c36_2, decide_eq_true c67_3]; decide) rfl dX1_isNewer_75
    · skip
      refine lv_iload hx hb dX1_isNewer_39 (lv_at hl 4 rfl) ?_
      refine lv_aload_n hx hb dX1_isNewer_41 rfl (lv_at hl 0 rfl) ?_
      refine va_get (D := D) (ci := 1) (v := .ref a3) (C := RX1) (T := TX1) (N := 5) hx hb hts hinX1 hown hK hP 0 rfl rfl 2 (by decide) (hts (.fieldLink RX1 18 "TreeGossip$Store" "lengths" "[I") (by decide +kernel)) (fun _ h9 => h9) rfl dX1_isNewer_42 ?_
      refine lv_iload_n hx hb dX1_isNewer_45 rfl (lv_at hl 1 rfl) ?_
      refine tg_iald hx hb hK hP 3 rfl (f := le) (k := k) (by omega) (by decide) dX1_isNewer_46 ?_
      refine lv_icmp_le (tgt := 54) hx hb dX1_isNewer_47 (by decide) (fun c47_4 => ?_) (fun c47_4 => ?_)
      · skip
        refine lv_iconst (v := nI (0)) hx hb dX1_isNewer_54 (by decide) ?_
        exact hret _ _ 55 _ _ hP hD hS (by unfold tg_new; rw [if_pos c8_1, if_neg c36_2, decide_eq_false (fun q => q c47_4)]; decide) rfl dX1_isNewer_55
      · skip
        refine lv_iconst (v := nI (1)) hx hb dX1_isNewer_50 (by decide) ?_
        refine lv_goto (tgt := 55) hx hb dX1_isNewer_51 (by decide) ?_
        exact hret _ _ 55 _ _ hP hD hS (by unfold tg_new; rw [if_pos c8_1, if_neg c36_2, decide_eq_true c47_4]; decide) rfl dX1_isNewer_55
  · skip
    refine lv_lload_n hx hb dX1_isNewer_11 rfl (lv_at hl 2 rfl) ?_
    refine lv_aload_n hx hb dX1_isNewer_12 rfl (lv_at hl 0 rfl) ?_
    refine va_get (D := D) (ci := 1) (v := .ref a1) (C := RX1) (T := TX1) (N := 5) hx hb hts hinX1 hown hK hP 0 rfl rfl 0 (by decide) (hts (.fieldLink RX1 9 "TreeGossip$Store" "stamps" "[J") (by decide +kernel)) (fun _ h9 => h9) rfl dX1_isNewer_13 ?_
    refine lv_iload_n hx hb dX1_isNewer_16 rfl (lv_at hl 1 rfl) ?_
    refine tg_lald hx hb hK hP 1 rfl (f := st) (k := k) (by omega) (by decide) dX1_isNewer_17 ?_
    refine W.lcmp hx hb dX1_isNewer_18 ?_
    refine tg_lle (tgt := 26) hx hb dX1_isNewer_19 (by decide) (fun c19_5 => ?_) (fun c19_5 => ?_)
    · skip
      refine lv_iconst (v := nI (0)) hx hb dX1_isNewer_26 (by decide) ?_
      exact hret _ _ 27 _ _ hP hD hS (by unfold tg_new; rw [if_neg c8_1, decide_eq_false (Int64.not_lt.mpr c19_5)]; decide) rfl dX1_isNewer_27
    · skip
      refine lv_iconst (v := nI (1)) hx hb dX1_isNewer_22 (by decide) ?_
      refine lv_goto (tgt := 27) hx hb dX1_isNewer_23 (by decide) ?_
      exact hret _ _ 27 _ _ hP hD hS (by unfold tg_new; rw [if_neg c8_1, decide_eq_true c19_5]; decide) rfl dX1_isNewer_27
def rmk_X1_maskOfLeaf : Room := { frames := 1, cells := 0, slots := 0, locals := 21 }
set_option maxHeartbeats 4000000 in
set_option maxRecDepth 100000 in
theorem k_X1_maskOfLeaf (l : Launch) (D : va_G) (ty : Nat → ClassId) (h0 : Nat) (a1 : Nat) (a2 : Nat) (a3 : Nat) (a4 : Nat) (en : Int32) (le : Nat → Int32) (lf : Nat) (hlf : lf < 64) : tg_Mi l yX1_maskOfLeaf wsX1_maskOfLeaf rmk_X1_maskOfLeaf D ty [.ref h0, .int (nI (lf))] [(h0, .inr (1, [.ref a1, .ref a2, .ref a3, .ref a4, .int (en)])), (a3, .inl (ty 0, 256, .inl le))] [(h0, .inr (1, [.ref a1, .ref a2, .ref a3, .ref a4, .int (en)])), (a3, .inl (ty 0, 256, .inl le))] (nI (tg_mk (fun j => tg_has le (lf * 4 + j)) 4)) 0 0 := by
  refine tg_start_i (cc := cX1_maskOfLeaf) (maxL := 4) (lvs := [(0, .ref h0), (1, .int (nI (lf)))]) (by decide) rfl (Nat.le_of_ble_eq_true rfl) rfl ?_
  intro pp ee ss mm args below meth cc AA ls QQ hx hb hr hts hown hlocks hml hnm hA hP hD hS hK hN hl hret
  refine lv_iconst (v := nI (0)) hx hb dX1_maskOfLeaf_0 (by decide) ?_
  refine lv_istore_n (lv' := [(2, .int (nI (0))), (0, .ref h0), (1, .int (nI (lf)))]) hx hb dX1_maskOfLeaf_1 rfl hl (by decide) rfl (fun ls hl => ?_)
  refine lv_iconst (v := nI (0)) hx hb dX1_maskOfLeaf_2 (by decide) ?_
  refine lv_istore_n (lv' := [(3, .int (nI (0))), (2, .int (nI (0))), (0, .ref h0), (1, .int (nI (lf)))]) hx hb dX1_maskOfLeaf_3 rfl hl (by decide) rfl (fun ls hl => ?_)
  have hL4 : ∀ (n4 i : Nat) , i ≤ 4 → 4 + 1 ≤ i + n4 → ∀ (H : Heap) (locs : List Loc) (ls : Array Slot), va_P D vwCl [(h0, .inr (1, [.ref a1, .ref a2, .ref a3, .ref a4, .int (en)])), (a3, .inl (ty 0, 256, .inl le))] H → va_D AA [(h0, .inr (1, [.ref a1, .ref a2, .ref a3, .ref a4, .int (en)])), (a3, .inl (ty 0, 256, .inl le))] → va_S AA ss.heap H locs → lv_has ls 4 [(0, .ref h0), (1, .int (nI (lf))), (2, .int (nI (tg_mk (fun j => tg_has le (lf * 4 + j)) i))), (3, .int (nI (i)))] → W pp l ee rmk_X1_maskOfLeaf ss mm args below meth cc H locs 0 0 QQ (F0 mm 4 ls []) := by
    intro n4
    induction n4 with
    | zero => intro i  h1 h2; omega
    | succ n4 ih4 =>
      intro i  hi4 hn4  H locs ls hP hD hS hl
      refine lv_iload_n hx hb dX1_maskOfLeaf_4 rfl (lv_at hl 3 rfl) ?_
      refine lv_iconst (v := nI (4)) hx hb dX1_maskOfLeaf_5 (by decide) ?_
      refine tg_ge (tgt := 33) hx hb dX1_maskOfLeaf_6 (by decide) (by omega) (by omega) (fun c6_1 => ?_) (fun c6_1 => ?_)
      · skip
        obtain rfl : 4 = i := by omega
        refine lv_iload_n hx hb dX1_maskOfLeaf_33 rfl (lv_at hl 2 rfl) ?_
        exact hret _ _ 34 _ _ hP hD hS (rfl) dX1_maskOfLeaf_34
      · skip
        refine lv_aload_n hx hb dX1_maskOfLeaf_9 rfl (lv_at hl 0 rfl) ?_
        refine lv_iload_n hx hb dX1_maskOfLeaf_10 rfl (lv_at hl 1 rfl) ?_
        refine lv_iconst (v := nI (4)) hx hb dX1_maskOfLeaf_11 (by decide) ?_
        refine lv_imul hx hb dX1_maskOfLeaf_12 ?_
        refine tg_vi (pk_mul _ _) ?_
        refine lv_iload_n hx hb dX1_maskOfLeaf_13 rfl (lv_at hl 3 rfl) ?_
        refine lv_iadd hx hb dX1_maskOfLeaf_14 ?_
        refine tg_vi (nI_add _ _) ?_
        refine tg_Vi (As := [.int (nI ((lf * 4) + i))]) (rest := []) (wr := []) (w2 := [(h0, .inr (1, [.ref a1, .ref a2, .ref a3, .ref a4, .int (en)])), (a3, .inl (ty 0, 256, .inl le))]) ⟨hx, hb, hml, hown, hts⟩ (k_X1_has l D ty h0 a1 a2 a3 a4 en le ((lf * 4) + i) (by omega)) (cwV 1 hts gX1_maskOfLeaf_X1_has rfl rfl rfl (by decide +kernel) ⟨Nat.le_of_ble_eq_true rfl, Nat.le_of_ble_eq_true rfl⟩) hK hN hP hD hS hA [0, 1] [] [0, 1] 0 1 rfl rfl rfl rfl rfl rfl rfl (by decide) rfl hl.1 rfl (Nat.le_of_ble_eq_true rfl) dX1_maskOfLeaf_15 rfl rfl ⟨Nat.le_of_ble_eq_true rfl, Nat.le_of_ble_eq_true rfl⟩ (fun H locs hP hD hS => ?_)
        refine tg_if_eqb (tgt := 27) hx hb dX1_maskOfLeaf_18 (by decide) (fun c18_2 => ?_) (fun c18_2 => ?_)
        · skip
          refine lv_iinc (v := nI (i + 1)) (lv' := [(3, .int (nI (i + 1))), (0, .ref h0), (1, .int (nI (lf))), (2, .int (nI (tg_mk (fun j => tg_has le (lf * 4 + j)) i)))]) hx hb dX1_maskOfLeaf_27 hl (k := 3) rfl (tg_inc1 _) (by decide) rfl (fun ls hl => ?_)
          refine lv_goto (tgt := 4) hx hb dX1_maskOfLeaf_30 (by decide) ?_
          exact ih4 (i + 1) (by omega) (by omega)  _ _ _ hP hD hS (by rw [tg_mk_f (b := fun j => tg_has le (lf * 4 + j)) c18_2]; exact lv_sub hl [1, 2, 3, 0] rfl)
        · skip
          refine lv_iload_n hx hb dX1_maskOfLeaf_21 rfl (lv_at hl 2 rfl) ?_
          refine lv_iconst (v := nI (1)) hx hb dX1_maskOfLeaf_22 (by decide) ?_
          refine lv_iload_n hx hb dX1_maskOfLeaf_23 rfl (lv_at hl 3 rfl) ?_
          refine lv_ishl hx hb dX1_maskOfLeaf_24 ?_
          refine lv_ior hx hb dX1_maskOfLeaf_25 ?_
          refine tg_vi (tg_mk_or (b := fun j => tg_has le (lf * 4 + j)) (by omega) c18_2) ?_
          refine lv_istore_n (lv' := [(2, .int (nI (tg_mk (fun j => tg_has le (lf * 4 + j)) (i + 1)))), (0, .ref h0), (1, .int (nI (lf))), (3, .int (nI (i)))]) hx hb dX1_maskOfLeaf_26 rfl hl (by decide) rfl (fun ls hl => ?_)
          refine lv_iinc (v := nI (i + 1)) (lv' := [(3, .int (nI (i + 1))), (2, .int (nI (tg_mk (fun j => tg_has le (lf * 4 + j)) (i + 1)))), (0, .ref h0), (1, .int (nI (lf)))]) hx hb dX1_maskOfLeaf_27 hl (k := 3) rfl (tg_inc1 _) (by decide) rfl (fun ls hl => ?_)
          refine lv_goto (tgt := 4) hx hb dX1_maskOfLeaf_30 (by decide) ?_
          exact ih4 (i + 1) (by omega) (by omega)  _ _ _ hP hD hS (lv_sub hl [2, 3, 1, 0] rfl)
  exact hL4 (4 + 1) 0 (by omega) (by omega)  _ _ _ hP hD hS (lv_sub hl [2, 3, 1, 0] rfl)
def rmk_X1_hashOfLeaf : Room := { frames := 1, cells := 0, slots := 0, locals := 29 }
theorem ink_X1_hashOfLeaf_X1 : ∀ w ∈ wsX10, w ∈ wsX1_hashOfLeaf := by decide +kernel
set_option maxHeartbeats 4000000 in
set_option maxRecDepth 100000 in
theorem k_X1_hashOfLeaf (l : Launch) (D : va_G) (ty : Nat → ClassId) (h0 : Nat) (a1 : Nat) (a2 : Nat) (a3 : Nat) (a4 : Nat) (en : Int32) (st : Nat → Int64) (va : Nat → Int64) (le : Nat → Int32) (lf : Nat) (hlf : lf < 64) (hle : tg_okL le) : tg_Ml l yX1_hashOfLeaf wsX1_hashOfLeaf rmk_X1_hashOfLeaf D ty [.ref h0, .int (nI (lf))] [(h0, .inr (1, [.ref a1, .ref a2, .ref a3, .ref a4, .int (en)])), (a1, .inl (ty 1, 256, .inr (.inl st))), (a2, .inl (ty 1, 256, .inr (.inl va))), (a3, .inl (ty 0, 256, .inl le))] [(h0, .inr (1, [.ref a1, .ref a2, .ref a3, .ref a4, .int (en)])), (a1, .inl (ty 1, 256, .inr (.inl st))), (a2, .inl (ty 1, 256, .inr (.inl va))), (a3, .inl (ty 0, 256, .inl le))] (tg_LH st va le lf) 0 0 := by
  refine tg_start_l (cc := cX1_hashOfLeaf) (maxL := 6) (lvs := [(0, .ref h0), (1, .int (nI (lf)))]) (by decide) rfl (Nat.le_of_ble_eq_true rfl) rfl ?_
  intro pp ee ss mm args below meth cc AA ls QQ hx hb hr hts hown hlocks hml hnm hA hP hD hS hK hN hl hret
  have hinX1 := ink_X1_hashOfLeaf_X1
  refine lv_ldc2 (v := 5903417617427348583) hx hb hown (hts (.constantLong RX1 68 (5903417617427348583)) (by decide +kernel)) dX1_hashOfLeaf_0 ?_
  refine lv_lstore_n (lv' := [(2, .long (5903417617427348583)), (0, .ref h0), (1, .int (nI (lf)))]) hx hb dX1_hashOfLeaf_3 rfl hl (by decide) rfl (fun ls hl => ?_)
  refine lv_iconst (v := nI (0)) hx hb dX1_hashOfLeaf_4 (by decide) ?_
  refine lv_istore (lv' := [(4, .int (nI (0))), (2, .long (5903417617427348583)), (0, .ref h0), (1, .int (nI (lf)))]) hx hb dX1_hashOfLeaf_5 hl (by decide) rfl (fun ls hl => ?_)
  have hL7 : ∀ (n7 i : Nat) , i ≤ 4 → 4 + 1 ≤ i + n7 → ∀ (H : Heap) (locs : List Loc) (ls : Array Slot), va_P D vwCl [(h0, .inr (1, [.ref a1, .ref a2, .ref a3, .ref a4, .int (en)])), (a1, .inl (ty 1, 256, .inr (.inl st))), (a2, .inl (ty 1, 256, .inr (.inl va))), (a3, .inl (ty 0, 256, .inl le))] H → va_D AA [(h0, .inr (1, [.ref a1, .ref a2, .ref a3, .ref a4, .int (en)])), (a1, .inl (ty 1, 256, .inr (.inl st))), (a2, .inl (ty 1, 256, .inr (.inl va))), (a3, .inl (ty 0, 256, .inl le))] → va_S AA ss.heap H locs → lv_has ls 6 [(0, .ref h0), (1, .int (nI (lf))), (2, .long (tg_lfh st va le lf i)), (4, .int (nI (i)))] → W pp l ee rmk_X1_hashOfLeaf ss mm args below meth cc H locs 0 0 QQ (F0 mm 7 ls []) := by
    intro n7
    induction n7 with
    | zero => intro i  h1 h2; omega
    | succ n7 ih7 =>
      intro i  hi7 hn7  H locs ls hP hD hS hl
      refine lv_iload hx hb dX1_hashOfLeaf_7 (lv_at hl 3 rfl) ?_
      refine lv_iconst (v := nI (4)) hx hb dX1_hashOfLeaf_9 (by decide) ?_
      refine tg_ge (tgt := 96) hx hb dX1_hashOfLeaf_10 (by decide) (by omega) (by omega) (fun c10_1 => ?_) (fun c10_1 => ?_)
      · skip
        obtain rfl : 4 = i := by omega
        refine lv_lload_n hx hb dX1_hashOfLeaf_96 rfl (lv_at hl 2 rfl) ?_
        refine tg_Sl (As := [.long (tg_lfh st va le lf 4)]) (rest := []) ⟨hx, hb, hml, hown, hts⟩ (k_X1_finished l D ty (tg_lfh st va le lf 4) ) (va_cwS 1 hts gX1_hashOfLeaf_X1_finished rfl rfl rfl (by decide +kernel) ⟨Nat.le_of_ble_eq_true rfl, Nat.le_of_ble_eq_true rfl⟩) hK hN hP hD hS hA rfl hl.1 rfl (Nat.le_of_ble_eq_true rfl) dX1_hashOfLeaf_97 ⟨Nat.le_of_ble_eq_true rfl, Nat.le_of_ble_eq_true rfl⟩ (fun H locs hP hD hS => ?_)
        exact hret _ _ 100 _ _ hP hD hS (rfl) dX1_hashOfLeaf_100
      · skip
        refine lv_iload_n hx hb dX1_hashOfLeaf_13 rfl (lv_at hl 1 rfl) ?_
        refine lv_iconst (v := nI (4)) hx hb dX1_hashOfLeaf_14 (by decide) ?_
        refine lv_imul hx hb dX1_hashOfLeaf_15 ?_
        refine tg_vi (pk_mul _ _) ?_
        refine lv_iload hx hb dX1_hashOfLeaf_16 (lv_at hl 3 rfl) ?_
        refine lv_iadd hx hb dX1_hashOfLeaf_18 ?_
        refine tg_vi (nI_add _ _) ?_
        refine lv_istore (lv' := [(5, .int (nI ((lf * 4) + i))), (0, .ref h0), (1, .int (nI (lf))), (2, .long (tg_lfh st va le lf i)), (4, .int (nI (i)))]) hx hb dX1_hashOfLeaf_19 hl (by decide) rfl (fun ls hl => ?_)
        refine lv_aload_n hx hb dX1_hashOfLeaf_21 rfl (lv_at hl 1 rfl) ?_
        refine lv_iload hx hb dX1_hashOfLeaf_22 (lv_at hl 0 rfl) ?_
        refine tg_Vi (As := [.int (nI ((lf * 4) + i))]) (rest := []) (wr := [(a1, .inl (ty 1, 256, .inr (.inl st))), (a2, .inl (ty 1, 256, .inr (.inl va)))]) (w2 := [(h0, .inr (1, [.ref a1, .ref a2, .ref a3, .ref a4, .int (en)])), (a1, .inl (ty 1, 256, .inr (.inl st))), (a2, .inl (ty 1, 256, .inr (.inl va))), (a3, .inl (ty 0, 256, .inl le))]) ⟨hx, hb, hml, hown, hts⟩ (k_X1_has l D ty h0 a1 a2 a3 a4 en le ((lf * 4) + i) (by omega)) (cwV 1 hts gX1_hashOfLeaf_X1_has rfl rfl rfl (by decide +kernel) ⟨Nat.le_of_ble_eq_true rfl, Nat.le_of_ble_eq_true rfl⟩) hK hN hP hD hS hA [0, 3] [1, 2] [2, 0, 1, 3] 0 1 rfl rfl rfl rfl rfl rfl rfl (by decide) rfl hl.1 rfl (Nat.le_of_ble_eq_true rfl) dX1_hashOfLeaf_24 rfl rfl ⟨Nat.le_of_ble_eq_true rfl, Nat.le_of_ble_eq_true rfl⟩ (fun H locs hP hD hS => ?_)
        refine tg_if_eqb (tgt := 90) hx hb dX1_hashOfLeaf_27 (by decide) (fun c27_2 => ?_) (fun c27_2 => ?_)
        · skip
          refine lv_iinc (v := nI (i + 1)) (lv' := [(4, .int (nI (i + 1))), (5, .int (nI ((lf * 4) + i))), (0, .ref h0), (1, .int (nI (lf))), (2, .long (tg_lfh st va le lf i))]) hx hb dX1_hashOfLeaf_90 hl (k := 4) rfl (tg_inc1 _) (by decide) rfl (fun ls hl => ?_)
          refine lv_goto (tgt := 7) hx hb dX1_hashOfLeaf_93 (by decide) ?_
          exact ih7 (i + 1) (by omega) (by omega)  _ _ _ hP hD hS (by rw [tg_lfh_f c27_2]; exact lv_sub hl [2, 3, 4, 0] rfl)
        · skip
          have e28 := hle (lf * 4 + i) (by omega) (of_decide_eq_true c27_2)
          refine lv_lload_n hx hb dX1_hashOfLeaf_30 rfl (lv_at hl 3 rfl) ?_
          refine lv_iload hx hb dX1_hashOfLeaf_31 (lv_at hl 0 rfl) ?_
          refine tg_Sl (As := [.int (nI ((lf * 4) + i))]) (rest := [.long (tg_lfh st va le lf i)]) ⟨hx, hb, hml, hown, hts⟩ (k_X1_asHighestByte l D ty ((lf * 4) + i) ) (va_cwS 1 hts gX1_hashOfLeaf_X1_asHighestByte rfl rfl rfl (by decide +kernel) ⟨Nat.le_of_ble_eq_true rfl, Nat.le_of_ble_eq_true rfl⟩) hK hN hP hD hS hA rfl hl.1 rfl (Nat.le_of_ble_eq_true rfl) dX1_hashOfLeaf_33 ⟨Nat.le_of_ble_eq_true rfl, Nat.le_of_ble_eq_true rfl⟩ (fun H locs hP hD hS => ?_)
          refine lv_iconst (v := nI (1)) hx hb dX1_hashOfLeaf_36 (by decide) ?_
          refine tg_Sl (As := [.long (tg_lfh st va le lf i), .long (tg_hi (nI ((lf * 4) + i))), .int (nI (1))]) (rest := []) ⟨hx, hb, hml, hown, hts⟩ (k_X1_withBytes l D ty (tg_lfh st va le lf i) (tg_hi (nI ((lf * 4) + i))) 1 (by omega)) (va_cwS 3 hts gX1_hashOfLeaf_X1_withBytes rfl rfl rfl (by decide +kernel) ⟨Nat.le_of_ble_eq_true rfl, Nat.le_of_ble_eq_true rfl⟩) hK hN hP hD hS hA rfl hl.1 rfl (Nat.le_of_ble_eq_true rfl) dX1_hashOfLeaf_37 ⟨Nat.le_of_ble_eq_true rfl, Nat.le_of_ble_eq_true rfl⟩ (fun H locs hP hD hS => ?_)
          refine lv_lstore_n (lv' := [(2, .long (tg_wb (tg_lfh st va le lf i) (tg_hi (nI ((lf * 4) + i))) 1)), (5, .int (nI ((lf * 4) + i))), (0, .ref h0), (1, .int (nI (lf))), (4, .int (nI (i)))]) hx hb dX1_hashOfLeaf_40 rfl hl (by decide) rfl (fun ls hl => ?_)
          refine lv_lload_n hx hb dX1_hashOfLeaf_41 rfl (lv_at hl 0 rfl) ?_
          refine lv_aload_n hx hb dX1_hashOfLeaf_42 rfl (lv_at hl 2 rfl) ?_
          refine va_get (D := D) (ci := 1) (v := .ref a1) (C := RX1) (T := TX1) (N := 5) hx hb hts hinX1 hown hK hP 0 rfl rfl 0 (by decide) (hts (.fieldLink RX1 9 "TreeGossip$Store" "stamps" "[J") (by decide +kernel)) (fun _ h9 => h9) rfl dX1_hashOfLeaf_43 ?_
          refine lv_iload hx hb dX1_hashOfLeaf_46 (lv_at hl 1 rfl) ?_
          refine tg_lald hx hb hK hP 1 rfl (f := st) (k := (lf * 4) + i) (by omega) (by decide) dX1_hashOfLeaf_48 ?_
          refine lv_bipush (v := nI (8)) hx hb dX1_hashOfLeaf_49 (by decide) ?_
          refine tg_Sl (As := [.long (tg_wb (tg_lfh st va le lf i) (tg_hi (nI ((lf * 4) + i))) 1), .long (st ((lf * 4) + i)), .int (nI (8))]) (rest := []) ⟨hx, hb, hml, hown, hts⟩ (k_X1_withBytes l D ty (tg_wb (tg_lfh st va le lf i) (tg_hi (nI ((lf * 4) + i))) 1) (st ((lf * 4) + i)) 8 (by omega)) (va_cwS 3 hts gX1_hashOfLeaf_X1_withBytes rfl rfl rfl (by decide +kernel) ⟨Nat.le_of_ble_eq_true rfl, Nat.le_of_ble_eq_true rfl⟩) hK hN hP hD hS hA rfl hl.1 rfl (Nat.le_of_ble_eq_true rfl) dX1_hashOfLeaf_51 ⟨Nat.le_of_ble_eq_true rfl, Nat.le_of_ble_eq_true rfl⟩ (fun H locs hP hD hS => ?_)
          refine lv_lstore_n (lv' := [(2, .long (tg_wb (tg_wb (tg_lfh st va le lf i) (tg_hi (nI ((lf * 4) + i))) 1) (st ((lf * 4) + i)) 8)), (5, .int (nI ((lf * 4) + i))), (0, .ref h0), (1, .int (nI (lf))), (4, .int (nI (i)))]) hx hb dX1_hashOfLeaf_54 rfl hl (by decide) rfl (fun ls hl => ?_)
          refine lv_lload_n hx hb dX1_hashOfLeaf_55 rfl (lv_at hl 0 rfl) ?_
          refine lv_aload_n hx hb dX1_hashOfLeaf_56 rfl (lv_at hl 2 rfl) ?_
          refine va_get (D := D) (ci := 1) (v := .ref a3) (C := RX1) (T := TX1) (N := 5) hx hb hts hinX1 hown hK hP 0 rfl rfl 2 (by decide) (hts (.fieldLink RX1 18 "TreeGossip$Store" "lengths" "[I") (by decide +kernel)) (fun _ h9 => h9) rfl dX1_hashOfLeaf_57 ?_
          refine lv_iload hx hb dX1_hashOfLeaf_60 (lv_at hl 1 rfl) ?_
          refine tg_iald hx hb hK hP 3 rfl (f := le) (k := (lf * 4) + i) (by omega) (by decide) dX1_hashOfLeaf_62 ?_
          refine tg_vi (e28.1) ?_
          refine tg_Sl (As := [.int (nI (tg_cn (le (lf * 4 + i))))]) (rest := [.long (tg_wb (tg_wb (tg_lfh st va le lf i) (tg_hi (nI ((lf * 4) + i))) 1) (st ((lf * 4) + i)) 8)]) ⟨hx, hb, hml, hown, hts⟩ (k_X1_asHighestByte l D ty (tg_cn (le (lf * 4 + i))) ) (va_cwS 1 hts gX1_hashOfLeaf_X1_asHighestByte rfl rfl rfl (by decide +kernel) ⟨Nat.le_of_ble_eq_true rfl, Nat.le_of_ble_eq_true rfl⟩) hK hN hP hD hS hA rfl hl.1 rfl (Nat.le_of_ble_eq_true rfl) dX1_hashOfLeaf_63 ⟨Nat.le_of_ble_eq_true rfl, Nat.le_of_ble_eq_true rfl⟩ (fun H locs hP hD hS => ?_)
          refine lv_iconst (v := nI (1)) hx hb dX1_hashOfLeaf_66 (by decide) ?_
          refine tg_Sl (As := [.long (tg_wb (tg_wb (tg_lfh st va le lf i) (tg_hi (nI ((lf * 4) + i))) 1) (st ((lf * 4) + i)) 8), .long (tg_hi (nI (tg_cn (le (lf * 4 + i))))), .int (nI (1))]) (rest := []) ⟨hx, hb, hml, hown, hts⟩ (k_X1_withBytes l D ty (tg_wb (tg_wb (tg_lfh st va le lf i) (tg_hi (nI ((lf * 4) + i))) 1) (st ((lf * 4) + i)) 8) (tg_hi (nI (tg_cn (le (lf * 4 + i))))) 1 (by omega)) (va_cwS 3 hts gX1_hashOfLeaf_X1_withBytes rfl rfl rfl (by decide +kernel) ⟨Nat.le_of_ble_eq_true rfl, Nat.le_of_ble_eq_true rfl⟩) hK hN hP hD hS hA rfl hl.1 rfl (Nat.le_of_ble_eq_true rfl) dX1_hashOfLeaf_67 ⟨Nat.le_of_ble_eq_true rfl, Nat.le_of_ble_eq_true rfl⟩ (fun H locs hP hD hS => ?_)
          refine lv_lstore_n (lv' := [(2, .long (tg_wb (tg_wb (tg_wb (tg_lfh st va le lf i) (tg_hi (nI ((lf * 4) + i))) 1) (st ((lf * 4) + i)) 8) (tg_hi (nI (tg_cn (le (lf * 4 + i))))) 1)), (5, .int (nI ((lf * 4) + i))), (0, .ref h0), (1, .int (nI (lf))), (4, .int (nI (i)))]) hx hb dX1_hashOfLeaf_70 rfl hl (by decide) rfl (fun ls hl => ?_)
          refine lv_lload_n hx hb dX1_hashOfLeaf_71 rfl (lv_at hl 0 rfl) ?_
          refine lv_aload_n hx hb dX1_hashOfLeaf_72 rfl (lv_at hl 2 rfl) ?_
          refine va_get (D := D) (ci := 1) (v := .ref a2) (C := RX1) (T := TX1) (N := 5) hx hb hts hinX1 hown hK hP 0 rfl rfl 1 (by decide) (hts (.fieldLink RX1 15 "TreeGossip$Store" "values" "[J") (by decide +kernel)) (fun _ h9 => h9) rfl dX1_hashOfLeaf_73 ?_
          refine lv_iload hx hb dX1_hashOfLeaf_76 (lv_at hl 1 rfl) ?_
          refine tg_lald hx hb hK hP 2 rfl (f := va) (k := (lf * 4) + i) (by omega) (by decide) dX1_hashOfLeaf_78 ?_
          refine lv_aload_n hx hb dX1_hashOfLeaf_79 rfl (lv_at hl 2 rfl) ?_
          refine va_get (D := D) (ci := 1) (v := .ref a3) (C := RX1) (T := TX1) (N := 5) hx hb hts hinX1 hown hK hP 0 rfl rfl 2 (by decide) (hts (.fieldLink RX1 18 "TreeGossip$Store" "lengths" "[I") (by decide +kernel)) (fun _ h9 => h9) rfl dX1_hashOfLeaf_80 ?_
          refine lv_iload hx hb dX1_hashOfLeaf_83 (lv_at hl 1 rfl) ?_
          refine tg_iald hx hb hK hP 3 rfl (f := le) (k := (lf * 4) + i) (by omega) (by decide) dX1_hashOfLeaf_85 ?_
          refine tg_vi (e28.1) ?_
          refine tg_Sl (As := [.long (tg_wb (tg_wb (tg_wb (tg_lfh st va le lf i) (tg_hi (nI ((lf * 4) + i))) 1) (st ((lf * 4) + i)) 8) (tg_hi (nI (tg_cn (le (lf * 4 + i))))) 1), .long (va ((lf * 4) + i)), .int (nI (tg_cn (le (lf * 4 + i))))]) (rest := []) ⟨hx, hb, hml, hown, hts⟩ (k_X1_withBytes l D ty (tg_wb (tg_wb (tg_wb (tg_lfh st va le lf i) (tg_hi (nI ((lf * 4) + i))) 1) (st ((lf * 4) + i)) 8) (tg_hi (nI (tg_cn (le (lf * 4 + i))))) 1) (va ((lf * 4) + i)) (tg_cn (le (lf * 4 + i))) e28.2) (va_cwS 3 hts gX1_hashOfLeaf_X1_withBytes rfl rfl rfl (by decide +kernel) ⟨Nat.le_of_ble_eq_true rfl, Nat.le_of_ble_eq_true rfl⟩) hK hN hP hD hS hA rfl hl.1 rfl (Nat.le_of_ble_eq_true rfl) dX1_hashOfLeaf_86 ⟨Nat.le_of_ble_eq_true rfl, Nat.le_of_ble_eq_true rfl⟩ (fun H locs hP hD hS => ?_)
          refine lv_lstore_n (lv' := [(2, .long (tg_wb (tg_wb (tg_wb (tg_wb (tg_lfh st va le lf i) (tg_hi (nI ((lf * 4) + i))) 1) (st ((lf * 4) + i)) 8) (tg_hi (nI (tg_cn (le (lf * 4 + i))))) 1) (va ((lf * 4) + i)) (tg_cn (le (lf * 4 + i))))), (5, .int (nI ((lf * 4) + i))), (0, .ref h0), (1, .int (nI (lf))), (4, .int (nI (i)))]) hx hb dX1_hashOfLeaf_89 rfl hl (by decide) rfl (fun ls hl => ?_)
          refine lv_iinc (v := nI (i + 1)) (lv' := [(4, .int (nI (i + 1))), (2, .long (tg_wb (tg_wb (tg_wb (tg_wb (tg_lfh st va le lf i) (tg_hi (nI ((lf * 4) + i))) 1) (st ((lf * 4) + i)) 8) (tg_hi (nI (tg_cn (le (lf * 4 + i))))) 1) (va ((lf * 4) + i)) (tg_cn (le (lf * 4 + i))))), (5, .int (nI ((lf * 4) + i))), (0, .ref h0), (1, .int (nI (lf)))]) hx hb dX1_hashOfLeaf_90 hl (k := 4) rfl (tg_inc1 _) (by decide) rfl (fun ls hl => ?_)
          refine lv_goto (tgt := 7) hx hb dX1_hashOfLeaf_93 (by decide) ?_
          exact ih7 (i + 1) (by omega) (by omega)  _ _ _ hP hD hS (by rw [tg_lfh_t c27_2]; exact lv_sub hl [3, 4, 1, 0] rfl)
  exact hL7 (4 + 1) 0 (by omega) (by omega)  _ _ _ hP hD hS (lv_sub hl [2, 3, 1, 0] rfl)
def rmk_X1_hashOfChildren : Room := { frames := 1, cells := 0, slots := 0, locals := 29 }
theorem ink_X1_hashOfChildren_X1 : ∀ w ∈ wsX10, w ∈ wsX1_hashOfChildren := by decide +kernel
set_option maxHeartbeats 4000000 in
set_option maxRecDepth 100000 in
theorem k_X1_hashOfChildren (l : Launch) (D : va_G) (ty : Nat → ClassId) (h0 : Nat) (a1 : Nat) (a2 : Nat) (a3 : Nat) (a4 : Nat) (en : Int32) (ha : Nat → Int64) (pl : Nat) (hpl : pl ≤ 20) : tg_Ml l yX1_hashOfChildren wsX1_hashOfChildren rmk_X1_hashOfChildren D ty [.ref h0, .int (nI (pl))] [(h0, .inr (1, [.ref a1, .ref a2, .ref a3, .ref a4, .int (en)])), (a4, .inl (ty 1, 85, .inr (.inl ha)))] [(h0, .inr (1, [.ref a1, .ref a2, .ref a3, .ref a4, .int (en)])), (a4, .inl (ty 1, 85, .inr (.inl ha)))] (tg_CH ha pl) 0 0 := by
  refine tg_start_l (cc := cX1_hashOfChildren) (maxL := 5) (lvs := [(0, .ref h0), (1, .int (nI (pl)))]) (by decide) rfl (Nat.le_of_ble_eq_true rfl) rfl ?_
  intro pp ee ss mm args below meth cc AA ls QQ hx hb hr hts hown hlocks hml hnm hA hP hD hS hK hN hl hret
  have hinX1 := ink_X1_hashOfChildren_X1
  refine lv_ldc2 (v := 5903417617427348583) hx hb hown (hts (.constantLong RX1 68 (5903417617427348583)) (by decide +kernel)) dX1_hashOfChildren_0 ?_
  refine lv_lstore_n (lv' := [(2, .long (5903417617427348583)), (0, .ref h0), (1, .int (nI (pl)))]) hx hb dX1_hashOfChildren_3 rfl hl (by decide) rfl (fun ls hl => ?_)
  refine lv_iconst (v := nI (0)) hx hb dX1_hashOfChildren_4 (by decide) ?_
  refine lv_istore (lv' := [(4, .int (nI (0))), (2, .long (5903417617427348583)), (0, .ref h0), (1, .int (nI (pl)))]) hx hb dX1_hashOfChildren_5 hl (by decide) rfl (fun ls hl => ?_)
  have hL7 : ∀ (n7 i : Nat) , i ≤ 4 → 4 + 1 ≤ i + n7 → ∀ (H : Heap) (locs : List Loc) (ls : Array Slot), va_P D vwCl [(h0, .inr (1, [.ref a1, .ref a2, .ref a3, .ref a4, .int (en)])), (a4, .inl (ty 1, 85, .inr (.inl ha)))] H → va_D AA [(h0, .inr (1, [.ref a1, .ref a2, .ref a3, .ref a4, .int (en)])), (a4, .inl (ty 1, 85, .inr (.inl ha)))] → va_S AA ss.heap H locs → lv_has ls 5 [(0, .ref h0), (1, .int (nI (pl))), (2, .long (tg_chh ha pl i)), (4, .int (nI (i)))] → W pp l ee rmk_X1_hashOfChildren ss mm args below meth cc H locs 0 0 QQ (F0 mm 7 ls []) := by
    intro n7
    induction n7 with
    | zero => intro i  h1 h2; omega
    | succ n7 ih7 =>
      intro i  hi7 hn7  H locs ls hP hD hS hl
      refine lv_iload hx hb dX1_hashOfChildren_7 (lv_at hl 3 rfl) ?_
      refine lv_iconst (v := nI (4)) hx hb dX1_hashOfChildren_9 (by decide) ?_
      refine tg_ge (tgt := 39) hx hb dX1_hashOfChildren_10 (by decide) (by omega) (by omega) (fun c10_1 => ?_) (fun c10_1 => ?_)
      · skip
        obtain rfl : 4 = i := by omega
        refine lv_lload_n hx hb dX1_hashOfChildren_39 rfl (lv_at hl 2 rfl) ?_
        refine tg_Sl (As := [.long (tg_chh ha pl 4)]) (rest := []) ⟨hx, hb, hml, hown, hts⟩ (k_X1_finished l D ty (tg_chh ha pl 4) ) (va_cwS 1 hts gX1_hashOfChildren_X1_finished rfl rfl rfl (by decide +kernel) ⟨Nat.le_of_ble_eq_true rfl, Nat.le_of_ble_eq_true rfl⟩) hK hN hP hD hS hA rfl hl.1 rfl (Nat.le_of_ble_eq_true rfl) dX1_hashOfChildren_40 ⟨Nat.le_of_ble_eq_true rfl, Nat.le_of_ble_eq_true rfl⟩ (fun H locs hP hD hS => ?_)
        exact hret _ _ 43 _ _ hP hD hS (rfl) dX1_hashOfChildren_43
      · skip
        refine lv_lload_n hx hb dX1_hashOfChildren_13 rfl (lv_at hl 2 rfl) ?_
        refine lv_aload_n hx hb dX1_hashOfChildren_14 rfl (lv_at hl 0 rfl) ?_
        refine va_get (D := D) (ci := 1) (v := .ref a4) (C := RX1) (T := TX1) (N := 5) hx hb hts hinX1 hown hK hP 0 rfl rfl 3 (by decide) (hts (.fieldLink RX1 22 "TreeGossip$Store" "hashes" "[J") (by decide +kernel)) (fun _ h9 => h9) rfl dX1_hashOfChildren_15 ?_
        refine lv_iload_n hx hb dX1_hashOfChildren_18 rfl (lv_at hl 1 rfl) ?_
        refine lv_iconst (v := nI (4)) hx hb dX1_hashOfChildren_19 (by decide) ?_
        refine lv_imul hx hb dX1_hashOfChildren_20 ?_
        refine tg_vi (pk_mul _ _) ?_
        refine lv_iconst (v := nI (1)) hx hb dX1_hashOfChildren_21 (by decide) ?_
        refine lv_iadd hx hb dX1_hashOfChildren_22 ?_
        refine tg_vi (nI_add _ _) ?_
        refine lv_iload hx hb dX1_hashOfChildren_23 (lv_at hl 3 rfl) ?_
        refine lv_iadd hx hb dX1_hashOfChildren_25 ?_
        refine tg_vi (nI_add _ _) ?_
        refine tg_lald hx hb hK hP 1 rfl (f := ha) (k := ((pl * 4) + 1) + i) (by omega) (by decide) dX1_hashOfChildren_26 ?_
        refine lv_bipush (v := nI (8)) hx hb dX1_hashOfChildren_27 (by decide) ?_
        refine tg_Sl (As := [.long (tg_chh ha pl i), .long (ha (((pl * 4) + 1) + i)), .int (nI (8))]) (rest := []) ⟨hx, hb, hml, hown, hts⟩ (k_X1_withBytes l D ty (tg_chh ha pl i) (ha (((pl * 4) + 1) + i)) 8 (by omega)) (va_cwS 3 hts gX1_hashOfChildren_X1_withBytes rfl rfl rfl (by decide +kernel) ⟨Nat.le_of_ble_eq_true rfl, Nat.le_of_ble_eq_true rfl⟩) hK hN hP hD hS hA rfl hl.1 rfl (Nat.le_of_ble_eq_true rfl) dX1_hashOfChildren_29 ⟨Nat.le_of_ble_eq_true rfl, Nat.le_of_ble_eq_true rfl⟩ (fun H locs hP hD hS => ?_)
        refine lv_lstore_n (lv' := [(2, .long (tg_wb (tg_chh ha pl i) (ha (((pl * 4) + 1) + i)) 8)), (0, .ref h0), (1, .int (nI (pl))), (4, .int (nI (i)))]) hx hb dX1_hashOfChildren_32 rfl hl (by decide) rfl (fun ls hl => ?_)
        refine lv_iinc (v := nI (i + 1)) (lv' := [(4, .int (nI (i + 1))), (2, .long (tg_wb (tg_chh ha pl i) (ha (((pl * 4) + 1) + i)) 8)), (0, .ref h0), (1, .int (nI (pl)))]) hx hb dX1_hashOfChildren_33 hl (k := 3) rfl (tg_inc1 _) (by decide) rfl (fun ls hl => ?_)
        refine lv_goto (tgt := 7) hx hb dX1_hashOfChildren_36 (by decide) ?_
        exact ih7 (i + 1) (by omega) (by omega)  _ _ _ hP hD hS (lv_sub hl [2, 3, 1, 0] rfl)
  exact hL7 (4 + 1) 0 (by omega) (by omega)  _ _ _ hP hD hS (lv_sub hl [2, 3, 1, 0] rfl)
