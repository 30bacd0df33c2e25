/-! ===== contracts: the reference, rows ===== -/
def rmk_X3_send : Room := { frames := 0, cells := 0, slots := 0, locals := 0 }
theorem ink_X3_send_X3 : ∀ w ∈ wsX30, w ∈ wsX3_send := by decide +kernel
set_option maxHeartbeats 4000000 in
set_option maxRecDepth 100000 in
theorem k_X3_send (l : Launch) (D : va_G) (ty : Nat → ClassId) (m0 : Nat) (m1 : Nat) (m2 : Nat) (m3 : Nat) (m4 : Nat) (m5 : Nat) (m7 : Nat) (m8 : Nat) (m9 : Nat) (m10 : Nat) (m11 : Nat) (m12 : Nat) (m13 : Nat) (m14 : Nat) (m15 : Nat) (m16 : Nat) (m17 : Nat) (m19 : Nat) (m20 : Nat) (m21 : Nat) (m22 : Nat) (m26 : Nat) (m28 : Nat) (m29 : Nat) (m30 : Nat) (m31 : Nat) (cd : Int32) (hh : Int64) (mn : Int32) (c0 : Int32) (c1 : Int32) (c2 : Int32) (gm : Int32) (cn : Nat → Int32) (ki : Nat → Int32) (lv : Nat → Int32) (no : Nat → Int32) (ls1 : Nat → Int64) (my : Nat → Int32) (ks : Nat → Int32) (kt : Nat → Int64) (kl : Nat → Int32) (kv : Nat → Int64) (li : Nat → Int64) (hk : Nat → Int32) (hs : Nat → Int64) (hl1 : Nat → Int32) (hv1 : Nat → Int64) (tto : Nat) (x1 : Int32) (x2 : Int32) (x3 : Int32) (z : Nat) (hto : tto ≤ 1) (hcn : cn tto = nI z) (hz : z < 100) : tg_Mi l yX3_send wsX3_send rmk_X3_send D ty [.ref m0, .int (nI (tto)), .int (x1), .int (x2), .int (x3)] [(m0, .inr (3, [.int (cd), .ref m1, .ref m2, .ref m3, .ref m4, .ref m5, .long (hh), .ref m7, .ref m8, .ref m9, .ref m10, .ref m11, .ref m12, .ref m13, .ref m14, .ref m15, .ref m16, .ref m17, .int (mn), .ref m19, .ref m20, .ref m21, .ref m22, .int (c0), .int (c1), .int (c2), .ref m26, .int (gm), .ref m28, .ref m29, .ref m30, .ref m31])), (m7, .inl (ty 0, 2, .inl cn)), (m8, .inl (ty 0, 200, .inl ki)), (m9, .inl (ty 0, 200, .inl lv)), (m10, .inl (ty 0, 200, .inl no)), (m11, .inl (ty 1, 800, .inr (.inl ls1))), (m12, .inl (ty 0, 200, .inl my)), (m13, .inl (ty 0, 800, .inl ks)), (m14, .inl (ty 1, 800, .inr (.inl kt))), (m15, .inl (ty 0, 800, .inl kl)), (m16, .inl (ty 1, 800, .inr (.inl kv))), (m17, .inl (ty 1, 4, .inr (.inl li))), (m19, .inl (ty 0, 4, .inl hk)), (m20, .inl (ty 1, 4, .inr (.inl hs))), (m21, .inl (ty 0, 4, .inl hl1)), (m22, .inl (ty 1, 4, .inr (.inl hv1)))] [(m0, .inr (3, [.int (cd), .ref m1, .ref m2, .ref m3, .ref m4, .ref m5, .long (hh), .ref m7, .ref m8, .ref m9, .ref m10, .ref m11, .ref m12, .ref m13, .ref m14, .ref m15, .ref m16, .ref m17, .int (mn), .ref m19, .ref m20, .ref m21, .ref m22, .int (c0 + nI 1), .int (c1), .int (c2 + mn), .ref m26, .int (gm), .ref m28, .ref m29, .ref m30, .ref m31])), (m7, .inl (ty 0, 2, .inl (upd cn tto (nI (z + 1))))), (m8, .inl (ty 0, 200, .inl (upd ki (100 * tto + z) x1))), (m9, .inl (ty 0, 200, .inl (upd lv (100 * tto + z) x2))), (m10, .inl (ty 0, 200, .inl (upd no (100 * tto + z) x3))), (m11, .inl (ty 1, 800, .inr (.inl (tg_c4L ls1 (4 * (100 * tto + z)) li 4)))), (m12, .inl (ty 0, 200, .inl (upd my (100 * tto + z) mn))), (m13, .inl (ty 0, 800, .inl (tg_c4I ks (4 * (100 * tto + z)) hk 4))), (m14, .inl (ty 1, 800, .inr (.inl (tg_c4L kt (4 * (100 * tto + z)) hs 4)))), (m15, .inl (ty 0, 800, .inl (tg_c4I kl (4 * (100 * tto + z)) hl1 4))), (m16, .inl (ty 1, 800, .inr (.inl (tg_c4L kv (4 * (100 * tto + z)) hv1 4)))), (m17, .inl (ty 1, 4, .inr (.inl li))), (m19, .inl (ty 0, 4, .inl hk)), (m20, .inl (ty 1, 4, .inr (.inl hs))), (m21, .inl (ty 0, 4, .inl hl1)), (m22, .inl (ty 1, 4, .inr (.inl hv1)))] (nI (1)) 0 0 := by
  refine tg_start_z (cc := cX3_send) (maxL := 7) (lvs := [(0, .ref m0), (1, .int (nI (tto))), (2, .int (x1)), (3, .int (x2)), (4, .int (x3))]) (by decide) rfl (Nat.le_of_ble_eq_true rfl) rfl ?_
  intro pp ee ss mm args below meth cc AA ls QQ hx hb hr hts hown hlocks hml hnm hA hP hD hS hK hN hl hret
  have hinX3 := ink_X3_send_X3
  refine lv_aload_n hx hb dX3_send_0 rfl (lv_at hl 0 rfl) ?_
  refine lv_dup hx hb dX3_send_1 rfl ?_
  refine va_get (D := D) (ci := 3) (v := .int (c0)) (C := RX3) (T := TX3) (N := 32) hx hb hts hinX3 hown hK hP 0 rfl rfl 23 (by decide) (hts (.fieldLink RX3 144 "TreeGossipModel" "sent" "I") (by decide +kernel)) (fun _ h9 => h9) rfl dX3_send_2 ?_
  refine lv_iconst (v := nI (1)) hx hb dX3_send_5 (by decide) ?_
  refine lv_iadd hx hb dX3_send_6 ?_
  refine tg_put (ci := 3) (v := .int (c0 + (nI (1)))) (ft := .int) (C := RX3) (T := TX3) (N := 32) hx hb hts hinX3 tyX3 tyX3_ok nmX3 hown hK hP hD hS 0 rfl rfl 23 (by decide) (hts (.fieldLink RX3 144 "TreeGossipModel" "sent" "I") (by decide +kernel)) (fun _ h9 => h9) rfl (by decide +kernel) rfl rfl (Nat.le_of_ble_eq_true rfl) dX3_send_7 (ws' := [(m0, .inr (3, [.int (cd), .ref m1, .ref m2, .ref m3, .ref m4, .ref m5, .long (hh), .ref m7, .ref m8, .ref m9, .ref m10, .ref m11, .ref m12, .ref m13, .ref m14, .ref m15, .ref m16, .ref m17, .int (mn), .ref m19, .ref m20, .ref m21, .ref m22, .int (c0 + (nI (1))), .int (c1), .int (c2), .ref m26, .int (gm), .ref m28, .ref m29, .ref m30, .ref m31])), (m7, .inl (ty 0, 2, .inl cn)), (m8, .inl (ty 0, 200, .inl ki)), (m9, .inl (ty 0, 200, .inl lv)), (m10, .inl (ty 0, 200, .inl no)), (m11, .inl (ty 1, 800, .inr (.inl ls1))), (m12, .inl (ty 0, 200, .inl my)), (m13, .inl (ty 0, 800, .inl ks)), (m14, .inl (ty 1, 800, .inr (.inl kt))), (m15, .inl (ty 0, 800, .inl kl)), (m16, .inl (ty 1, 800, .inr (.inl kv))), (m17, .inl (ty 1, 4, .inr (.inl li))), (m19, .inl (ty 0, 4, .inl hk)), (m20, .inl (ty 1, 4, .inr (.inl hs))), (m21, .inl (ty 0, 4, .inl hl1)), (m22, .inl (ty 1, 4, .inr (.inl hv1)))]) rfl (fun H locs hP hD hS => ?_)
  refine lv_aload_n hx hb dX3_send_10 rfl (lv_at hl 0 rfl) ?_
  refine lv_dup hx hb dX3_send_11 rfl ?_
  refine va_get (D := D) (ci := 3) (v := .int (c2)) (C := RX3) (T := TX3) (N := 32) hx hb hts hinX3 hown hK hP 0 rfl rfl 25 (by decide) (hts (.fieldLink RX3 147 "TreeGossipModel" "entries" "I") (by decide +kernel)) (fun _ h9 => h9) rfl dX3_send_12 ?_
  refine lv_aload_n hx hb dX3_send_15 rfl (lv_at hl 0 rfl) ?_
  refine va_get (D := D) (ci := 3) (v := .int (mn)) (C := RX3) (T := TX3) (N := 32) hx hb hts hinX3 hown hK hP 0 rfl rfl 18 (by decide) (hts (.fieldLink RX3 150 "TreeGossipModel" "many" "I") (by decide +kernel)) (fun _ h9 => h9) rfl dX3_send_16 ?_
  refine lv_iadd hx hb dX3_send_19 ?_
  refine tg_put (ci := 3) (v := .int (c2 + mn)) (ft := .int) (C := RX3) (T := TX3) (N := 32) hx hb hts hinX3 tyX3 tyX3_ok nmX3 hown hK hP hD hS 0 rfl rfl 25 (by decide) (hts (.fieldLink RX3 147 "TreeGossipModel" "entries" "I") (by decide +kernel)) (fun _ h9 => h9) rfl (by decide +kernel) rfl rfl (Nat.le_of_ble_eq_true rfl) dX3_send_20 (ws' := [(m0, .inr (3, [.int (cd), .ref m1, .ref m2, .ref m3, .ref m4, .ref m5, .long (hh), .ref m7, .ref m8, .ref m9, .ref m10, .ref m11, .ref m12, .ref m13, .ref m14, .ref m15, .ref m16, .ref m17, .int (mn), .ref m19, .ref m20, .ref m21, .ref m22, .int (c0 + (nI (1))), .int (c1), .int (c2 + mn), .ref m26, .int (gm), .ref m28, .ref m29, .ref m30, .ref m31])), (m7, .inl (ty 0, 2, .inl cn)), (m8, .inl (ty 0, 200, .inl ki)), (m9, .inl (ty 0, 200, .inl lv)), (m10, .inl (ty 0, 200, .inl no)), (m11, .inl (ty 1, 800, .inr (.inl ls1))), (m12, .inl (ty 0, 200, .inl my)), (m13, .inl (ty 0, 800, .inl ks)), (m14, .inl (ty 1, 800, .inr (.inl kt))), (m15, .inl (ty 0, 800, .inl kl)), (m16, .inl (ty 1, 800, .inr (.inl kv))), (m17, .inl (ty 1, 4, .inr (.inl li))), (m19, .inl (ty 0, 4, .inl hk)), (m20, .inl (ty 1, 4, .inr (.inl hs))), (m21, .inl (ty 0, 4, .inl hl1)), (m22, .inl (ty 1, 4, .inr (.inl hv1)))]) rfl (fun H locs hP hD hS => ?_)
  refine lv_aload_n hx hb dX3_send_23 rfl (lv_at hl 0 rfl) ?_
  refine va_get (D := D) (ci := 3) (v := .ref m7) (C := RX3) (T := TX3) (N := 32) hx hb hts hinX3 hown hK hP 0 rfl rfl 7 (by decide) (hts (.fieldLink RX3 27 "TreeGossipModel" "counts" "[I") (by decide +kernel)) (fun _ h9 => h9) rfl dX3_send_24 ?_
  refine lv_iload_n hx hb dX3_send_27 rfl (lv_at hl 1 rfl) ?_
  refine tg_iald hx hb hK hP 1 rfl (f := cn) (k := tto) (by omega) (by decide) dX3_send_28 ?_
  refine tg_vi (hcn) ?_
  refine lv_bipush (v := nI (100)) hx hb dX3_send_29 (by decide) ?_
  refine tg_ne (tgt := 46) hx hb dX3_send_31 (by decide) (by omega) (by omega) (fun c31_1 => ?_) (fun c31_1 => ?_)
  · skip
    refine lv_bipush (v := nI (100)) hx hb dX3_send_46 (by decide) ?_
    refine lv_iload_n hx hb dX3_send_48 rfl (lv_at hl 1 rfl) ?_
    refine lv_imul hx hb dX3_send_49 ?_
    refine tg_vi (pk_mul _ _) ?_
    refine lv_aload_n hx hb dX3_send_50 rfl (lv_at hl 0 rfl) ?_
    refine va_get (D := D) (ci := 3) (v := .ref m7) (C := RX3) (T := TX3) (N := 32) hx hb hts hinX3 hown hK hP 0 rfl rfl 7 (by decide) (hts (.fieldLink RX3 27 "TreeGossipModel" "counts" "[I") (by decide +kernel)) (fun _ h9 => h9) rfl dX3_send_51 ?_
    refine lv_iload_n hx hb dX3_send_54 rfl (lv_at hl 1 rfl) ?_
    refine tg_iald hx hb hK hP 1 rfl (f := cn) (k := tto) (by omega) (by decide) dX3_send_55 ?_
    refine tg_vi (hcn) ?_
    refine lv_iadd hx hb dX3_send_56 ?_
    refine tg_vi (nI_add _ _) ?_
    refine lv_istore (lv' := [(5, .int (nI ((100 * tto) + z))), (0, .ref m0), (1, .int (nI (tto))), (2, .int (x1)), (3, .int (x2)), (4, .int (x3))]) hx hb dX3_send_57 hl (by decide) rfl (fun ls hl => ?_)
    refine lv_aload_n hx hb dX3_send_59 rfl (lv_at hl 1 rfl) ?_
    refine va_get (D := D) (ci := 3) (v := .ref m8) (C := RX3) (T := TX3) (N := 32) hx hb hts hinX3 hown hK hP 0 rfl rfl 8 (by decide) (hts (.fieldLink RX3 30 "TreeGossipModel" "kinds" "[I") (by decide +kernel)) (fun _ h9 => h9) rfl dX3_send_60 ?_
    refine lv_iload hx hb dX3_send_63 (lv_at hl 0 rfl) ?_
    refine lv_iload_n hx hb dX3_send_65 rfl (lv_at hl 3 rfl) ?_
    refine tg_iast hx hb hK hP hD hS 2 rfl (k := (100 * tto) + z) (by omega) (by decide) dX3_send_66 (ws' := [(m0, .inr (3, [.int (cd), .ref m1, .ref m2, .ref m3, .ref m4, .ref m5, .long (hh), .ref m7, .ref m8, .ref m9, .ref m10, .ref m11, .ref m12, .ref m13, .ref m14, .ref m15, .ref m16, .ref m17, .int (mn), .ref m19, .ref m20, .ref m21, .ref m22, .int (c0 + (nI (1))), .int (c1), .int (c2 + mn), .ref m26, .int (gm), .ref m28, .ref m29, .ref m30, .ref m31])), (m7, .inl (ty 0, 2, .inl cn)), (m8, .inl (ty 0, 200, .inl (upd ki ((100 * tto) + z) x1))), (m9, .inl (ty 0, 200, .inl lv)), (m10, .inl (ty 0, 200, .inl no)), (m11, .inl (ty 1, 800, .inr (.inl ls1))), (m12, .inl (ty 0, 200, .inl my)), (m13, .inl (ty 0, 800, .inl ks)), (m14, .inl (ty 1, 800, .inr (.inl kt))), (m15, .inl (ty 0, 800, .inl kl)), (m16, .inl (ty 1, 800, .inr (.inl kv))), (m17, .inl (ty 1, 4, .inr (.inl li))), (m19, .inl (ty 0, 4, .inl hk)), (m20, .inl (ty 1, 4, .inr (.inl hs))), (m21, .inl (ty 0, 4, .inl hl1)), (m22, .inl (ty 1, 4, .inr (.inl hv1)))]) rfl (fun H locs hP hD hS => ?_)
    refine lv_aload_n hx hb dX3_send_67 rfl (lv_at hl 1 rfl) ?_
    refine va_get (D := D) (ci := 3) (v := .ref m9) (C := RX3) (T := TX3) (N := 32) hx hb hts hinX3 hown hK hP 0 rfl rfl 9 (by decide) (hts (.fieldLink RX3 33 "TreeGossipModel" "levels" "[I") (by decide +kernel)) (fun _ h9 => h9) rfl dX3_send_68 ?_
    refine lv_iload hx hb dX3_send_71 (lv_at hl 0 rfl) ?_
    refine lv_iload_n hx hb dX3_send_73 rfl (lv_at hl 4 rfl) ?_
    refine tg_iast hx hb hK hP hD hS 3 rfl (k := (100 * tto) + z) (by omega) (by decide) dX3_send_74 (ws' := [(m0, .inr (3, [.int (cd), .ref m1, .ref m2, .ref m3, .ref m4, .ref m5, .long (hh), .ref m7, .ref m8, .ref m9, .ref m10, .ref m11, .ref m12, .ref m13, .ref m14, .ref m15, .ref m16, .ref m17, .int (mn), .ref m19, .ref m20, .ref m21, .ref m22, .int (c0 + (nI (1))), .int (c1), .int (c2 + mn), .ref m26, .int (gm), .ref m28, .ref m29, .ref m30, .ref m31])), (m7, .inl (ty 0, 2, .inl cn)), (m8, .inl (ty 0, 200, .inl (upd ki ((100 * tto) + z) x1))), (m9, .inl (ty 0, 200, .inl (upd lv ((100 * tto) + z) x2))), (m10, .inl (ty 0, 200, .inl no)), (m11, .inl (ty 1, 800, .inr (.inl ls1))), (m12, .inl (ty 0, 200, .inl my)), (m13, .inl (ty 0, 800, .inl ks)), (m14, .inl (ty 1, 800, .inr (.inl kt))), (m15, .inl (ty 0, 800, .inl kl)), (m16, .inl (ty 1, 800, .inr (.inl kv))), (m17, .inl (ty 1, 4, .inr (.inl li))), (m19, .inl (ty 0, 4, .inl hk)), (m20, .inl (ty 1, 4, .inr (.inl hs))), (m21, .inl (ty 0, 4, .inl hl1)), (m22, .inl (ty 1, 4, .inr (.inl hv1)))]) rfl (fun H locs hP hD hS => ?_)
    refine lv_aload_n hx hb dX3_send_75 rfl (lv_at hl 1 rfl) ?_
    refine va_get (D := D) (ci := 3) (v := .ref m10) (C := RX3) (T := TX3) (N := 32) hx hb hts hinX3 hown hK hP 0 rfl rfl 10 (by decide) (hts (.fieldLink RX3 36 "TreeGossipModel" "nodes" "[I") (by decide +kernel)) (fun _ h9 => h9) rfl dX3_send_76 ?_
    refine lv_iload hx hb dX3_send_79 (lv_at hl 0 rfl) ?_
    refine lv_iload hx hb dX3_send_81 (lv_at hl 5 rfl) ?_
    refine tg_iast hx hb hK hP hD hS 4 rfl (k := (100 * tto) + z) (by omega) (by decide) dX3_send_83 (ws' := [(m0, .inr (3, [.int (cd), .ref m1, .ref m2, .ref m3, .ref m4, .ref m5, .long (hh), .ref m7, .ref m8, .ref m9, .ref m10, .ref m11, .ref m12, .ref m13, .ref m14, .ref m15, .ref m16, .ref m17, .int (mn), .ref m19, .ref m20, .ref m21, .ref m22, .int (c0 + (nI (1))), .int (c1), .int (c2 + mn), .ref m26, .int (gm), .ref m28, .ref m29, .ref m30, .ref m31])), (m7, .inl (ty 0, 2, .inl cn)), (m8, .inl (ty 0, 200, .inl (upd ki ((100 * tto) + z) x1))), (m9, .inl (ty 0, 200, .inl (upd lv ((100 * tto) + z) x2))), (m10, .inl (ty 0, 200, .inl (upd no ((100 * tto) + z) x3))), (m11, .inl (ty 1, 800, .inr (.inl ls1))), (m12, .inl (ty 0, 200, .inl my)), (m13, .inl (ty 0, 800, .inl ks)), (m14, .inl (ty 1, 800, .inr (.inl kt))), (m15, .inl (ty 0, 800, .inl kl)), (m16, .inl (ty 1, 800, .inr (.inl kv))), (m17, .inl (ty 1, 4, .inr (.inl li))), (m19, .inl (ty 0, 4, .inl hk)), (m20, .inl (ty 1, 4, .inr (.inl hs))), (m21, .inl (ty 0, 4, .inl hl1)), (m22, .inl (ty 1, 4, .inr (.inl hv1)))]) rfl (fun H locs hP hD hS => ?_)
    refine lv_aload_n hx hb dX3_send_84 rfl (lv_at hl 1 rfl) ?_
    refine va_get (D := D) (ci := 3) (v := .ref m12) (C := RX3) (T := TX3) (N := 32) hx hb hts hinX3 hown hK hP 0 rfl rfl 12 (by decide) (hts (.fieldLink RX3 42 "TreeGossipModel" "manys" "[I") (by decide +kernel)) (fun _ h9 => h9) rfl dX3_send_85 ?_
    refine lv_iload hx hb dX3_send_88 (lv_at hl 0 rfl) ?_
    refine lv_aload_n hx hb dX3_send_90 rfl (lv_at hl 1 rfl) ?_
    refine va_get (D := D) (ci := 3) (v := .int (mn)) (C := RX3) (T := TX3) (N := 32) hx hb hts hinX3 hown hK hP 0 rfl rfl 18 (by decide) (hts (.fieldLink RX3 150 "TreeGossipModel" "many" "I") (by decide +kernel)) (fun _ h9 => h9) rfl dX3_send_91 ?_
    refine tg_iast hx hb hK hP hD hS 6 rfl (k := (100 * tto) + z) (by omega) (by decide) dX3_send_94 (ws' := [(m0, .inr (3, [.int (cd), .ref m1, .ref m2, .ref m3, .ref m4, .ref m5, .long (hh), .ref m7, .ref m8, .ref m9, .ref m10, .ref m11, .ref m12, .ref m13, .ref m14, .ref m15, .ref m16, .ref m17, .int (mn), .ref m19, .ref m20, .ref m21, .ref m22, .int (c0 + (nI (1))), .int (c1), .int (c2 + mn), .ref m26, .int (gm), .ref m28, .ref m29, .ref m30, .ref m31])), (m7, .inl (ty 0, 2, .inl cn)), (m8, .inl (ty 0, 200, .inl (upd ki ((100 * tto) + z) x1))), (m9, .inl (ty 0, 200, .inl (upd lv ((100 * tto) + z) x2))), (m10, .inl (ty 0, 200, .inl (upd no ((100 * tto) + z) x3))), (m11, .inl (ty 1, 800, .inr (.inl ls1))), (m12, .inl (ty 0, 200, .inl (upd my ((100 * tto) + z) mn))), (m13, .inl (ty 0, 800, .inl ks)), (m14, .inl (ty 1, 800, .inr (.inl kt))), (m15, .inl (ty 0, 800, .inl kl)), (m16, .inl (ty 1, 800, .inr (.inl kv))), (m17, .inl (ty 1, 4, .inr (.inl li))), (m19, .inl (ty 0, 4, .inl hk)), (m20, .inl (ty 1, 4, .inr (.inl hs))), (m21, .inl (ty 0, 4, .inl hl1)), (m22, .inl (ty 1, 4, .inr (.inl hv1)))]) rfl (fun H locs hP hD hS => ?_)
    refine lv_iconst (v := nI (0)) hx hb dX3_send_95 (by decide) ?_
    refine lv_istore (lv' := [(6, .int (nI (0))), (5, .int (nI ((100 * tto) + z))), (0, .ref m0), (1, .int (nI (tto))), (2, .int (x1)), (3, .int (x2)), (4, .int (x3))]) hx hb dX3_send_96 hl (by decide) rfl (fun ls hl => ?_)
    have hL98 : ∀ (n98 i : Nat) , i ≤ 4 → 4 + 1 ≤ i + n98 → ∀ (H : Heap) (locs : List Loc) (ls : Array Slot), va_P D vwCl [(m0, .inr (3, [.int (cd), .ref m1, .ref m2, .ref m3, .ref m4, .ref m5, .long (hh), .ref m7, .ref m8, .ref m9, .ref m10, .ref m11, .ref m12, .ref m13, .ref m14, .ref m15, .ref m16, .ref m17, .int (mn), .ref m19, .ref m20, .ref m21, .ref m22, .int (c0 + (nI (1))), .int (c1), .int (c2 + mn), .ref m26, .int (gm), .ref m28, .ref m29, .ref m30, .ref m31])), (m7, .inl (ty 0, 2, .inl cn)), (m8, .inl (ty 0, 200, .inl (upd ki ((100 * tto) + z) x1))), (m9, .inl (ty 0, 200, .inl (upd lv ((100 * tto) + z) x2))), (m10, .inl (ty 0, 200, .inl (upd no ((100 * tto) + z) x3))), (m11, .inl (ty 1, 800, .inr (.inl (tg_c4L ls1 (4 * (100 * tto + z)) li i)))), (m12, .inl (ty 0, 200, .inl (upd my ((100 * tto) + z) mn))), (m13, .inl (ty 0, 800, .inl (tg_c4I ks (4 * (100 * tto + z)) hk i))), (m14, .inl (ty 1, 800, .inr (.inl (tg_c4L kt (4 * (100 * tto + z)) hs i)))), (m15, .inl (ty 0, 800, .inl (tg_c4I kl (4 * (100 * tto + z)) hl1 i))), (m16, .inl (ty 1, 800, .inr (.inl (tg_c4L kv (4 * (100 * tto + z)) hv1 i)))), (m17, .inl (ty 1, 4, .inr (.inl li))), (m19, .inl (ty 0, 4, .inl hk)), (m20, .inl (ty 1, 4, .inr (.inl hs))), (m21, .inl (ty 0, 4, .inl hl1)), (m22, .inl (ty 1, 4, .inr (.inl hv1)))] H → va_D AA [(m0, .inr (3, [.int (cd), .ref m1, .ref m2, .ref m3, .ref m4, .ref m5, .long (hh), .ref m7, .ref m8, .ref m9, .ref m10, .ref m11, .ref m12, .ref m13, .ref m14, .ref m15, .ref m16, .ref m17, .int (mn), .ref m19, .ref m20, .ref m21, .ref m22, .int (c0 + (nI (1))), .int (c1), .int (c2 + mn), .ref m26, .int (gm), .ref m28, .ref m29, .ref m30, .ref m31])), (m7, .inl (ty 0, 2, .inl cn)), (m8, .inl (ty 0, 200, .inl (upd ki ((100 * tto) + z) x1))), (m9, .inl (ty 0, 200, .inl (upd lv ((100 * tto) + z) x2))), (m10, .inl (ty 0, 200, .inl (upd no ((100 * tto) + z) x3))), (m11, .inl (ty 1, 800, .inr (.inl (tg_c4L ls1 (4 * (100 * tto + z)) li i)))), (m12, .inl (ty 0, 200, .inl (upd my ((100 * tto) + z) mn))), (m13, .inl (ty 0, 800, .inl (tg_c4I ks (4 * (100 * tto + z)) hk i))), (m14, .inl (ty 1, 800, .inr (.inl (tg_c4L kt (4 * (100 * tto + z)) hs i)))), (m15, .inl (ty 0, 800, .inl (tg_c4I kl (4 * (100 * tto + z)) hl1 i))), (m16, .inl (ty 1, 800, .inr (.inl (tg_c4L kv (4 * (100 * tto + z)) hv1 i)))), (m17, .inl (ty 1, 4, .inr (.inl li))), (m19, .inl (ty 0, 4, .inl hk)), (m20, .inl (ty 1, 4, .inr (.inl hs))), (m21, .inl (ty 0, 4, .inl hl1)), (m22, .inl (ty 1, 4, .inr (.inl hv1)))] → va_S AA ss.heap H locs → lv_has ls 7 [(0, .ref m0), (1, .int (nI (tto))), (5, .int (nI (100 * tto + z))), (6, .int (nI (i)))] → W pp l ee rmk_X3_send ss mm args below meth cc H locs 0 0 QQ (F0 mm 98 ls []) := by
      intro n98
      induction n98 with
      | zero => intro i  h1 h2; omega
      | succ n98 ih98 =>
        intro i  hi98 hn98  H locs ls hP hD hS hl
        refine lv_iload hx hb dX3_send_98 (lv_at hl 3 rfl) ?_
        refine lv_iconst (v := nI (4)) hx hb dX3_send_100 (by decide) ?_
        refine tg_ge (tgt := 205) hx hb dX3_send_101 (by decide) (by omega) (by omega) (fun c101_2 => ?_) (fun c101_2 => ?_)
        · skip
          obtain rfl : 4 = i := by omega
          refine lv_aload_n hx hb dX3_send_205 rfl (lv_at hl 0 rfl) ?_
          refine va_get (D := D) (ci := 3) (v := .ref m7) (C := RX3) (T := TX3) (N := 32) hx hb hts hinX3 hown hK hP 0 rfl rfl 7 (by decide) (hts (.fieldLink RX3 27 "TreeGossipModel" "counts" "[I") (by decide +kernel)) (fun _ h9 => h9) rfl dX3_send_206 ?_
          refine lv_iload_n hx hb dX3_send_209 rfl (lv_at hl 1 rfl) ?_
          refine lv_dup2_11 hx hb dX3_send_210 rfl rfl ?_
          refine tg_iald hx hb hK hP 1 rfl (f := cn) (k := tto) (by omega) (by decide) dX3_send_211 ?_
          refine tg_vi (hcn) ?_
          refine lv_iconst (v := nI (1)) hx hb dX3_send_212 (by decide) ?_
          refine lv_iadd hx hb dX3_send_213 ?_
          refine tg_vi (nI_add _ _) ?_
          refine tg_iast hx hb hK hP hD hS 1 rfl (k := tto) (by omega) (by decide) dX3_send_214 (ws' := [(m0, .inr (3, [.int (cd), .ref m1, .ref m2, .ref m3, .ref m4, .ref m5, .long (hh), .ref m7, .ref m8, .ref m9, .ref m10, .ref m11, .ref m12, .ref m13, .ref m14, .ref m15, .ref m16, .ref m17, .int (mn), .ref m19, .ref m20, .ref m21, .ref m22, .int (c0 + (nI (1))), .int (c1), .int (c2 + mn), .ref m26, .int (gm), .ref m28, .ref m29, .ref m30, .ref m31])), (m7, .inl (ty 0, 2, .inl (upd cn tto (nI (z + 1))))), (m8, .inl (ty 0, 200, .inl (upd ki ((100 * tto) + z) x1))), (m9, .inl (ty 0, 200, .inl (upd lv ((100 * tto) + z) x2))), (m10, .inl (ty 0, 200, .inl (upd no ((100 * tto) + z) x3))), (m11, .inl (ty 1, 800, .inr (.inl (tg_c4L ls1 (4 * (100 * tto + z)) li 4)))), (m12, .inl (ty 0, 200, .inl (upd my ((100 * tto) + z) mn))), (m13, .inl (ty 0, 800, .inl (tg_c4I ks (4 * (100 * tto + z)) hk 4))), (m14, .inl (ty 1, 800, .inr (.inl (tg_c4L kt (4 * (100 * tto + z)) hs 4)))), (m15, .inl (ty 0, 800, .inl (tg_c4I kl (4 * (100 * tto + z)) hl1 4))), (m16, .inl (ty 1, 800, .inr (.inl (tg_c4L kv (4 * (100 * tto + z)) hv1 4)))), (m17, .inl (ty 1, 4, .inr (.inl li))), (m19, .inl (ty 0, 4, .inl hk)), (m20, .inl (ty 1, 4, .inr (.inl hs))), (m21, .inl (ty 0, 4, .inl hl1)), (m22, .inl (ty 1, 4, .inr (.inl hv1)))]) rfl (fun H locs hP hD hS => ?_)
          refine lv_iconst (v := nI (1)) hx hb dX3_send_215 (by decide) ?_
          exact hret _ _ 216 _ _ hP hD hS (rfl) rfl dX3_send_216
        · skip
          refine lv_aload_n hx hb dX3_send_104 rfl (lv_at hl 0 rfl) ?_
          refine va_get (D := D) (ci := 3) (v := .ref m11) (C := RX3) (T := TX3) (N := 32) hx hb hts hinX3 hown hK hP 0 rfl rfl 11 (by decide) (hts (.fieldLink RX3 39 "TreeGossipModel" "lists" "[J") (by decide +kernel)) (fun _ h9 => h9) rfl dX3_send_105 ?_
          refine lv_iconst (v := nI (4)) hx hb dX3_send_108 (by decide) ?_
          refine lv_iload hx hb dX3_send_109 (lv_at hl 2 rfl) ?_
          refine lv_imul hx hb dX3_send_111 ?_
          refine tg_vi (pk_mul _ _) ?_
          refine lv_iload hx hb dX3_send_112 (lv_at hl 3 rfl) ?_
          refine lv_iadd hx hb dX3_send_114 ?_
          refine tg_vi (nI_add _ _) ?_
          refine lv_aload_n hx hb dX3_send_115 rfl (lv_at hl 0 rfl) ?_
          refine va_get (D := D) (ci := 3) (v := .ref m17) (C := RX3) (T := TX3) (N := 32) hx hb hts hinX3 hown hK hP 0 rfl rfl 17 (by decide) (hts (.fieldLink RX3 57 "TreeGossipModel" "list" "[J") (by decide +kernel)) (fun _ h9 => h9) rfl dX3_send_116 ?_
          refine lv_iload hx hb dX3_send_119 (lv_at hl 3 rfl) ?_
          refine tg_lald hx hb hK hP 11 rfl (f := li) (k := i) (by omega) (by decide) dX3_send_121 ?_
          refine tg_last hx hb hK hP hD hS 5 rfl (k := (4 * (100 * tto + z)) + i) (by omega) (by decide) dX3_send_122 (ws' := [(m0, .inr (3, [.int (cd), .ref m1, .ref m2, .ref m3, .ref m4, .ref m5, .long (hh), .ref m7, .ref m8, .ref m9, .ref m10, .ref m11, .ref m12, .ref m13, .ref m14, .ref m15, .ref m16, .ref m17, .int (mn), .ref m19, .ref m20, .ref m21, .ref m22, .int (c0 + (nI (1))), .int (c1), .int (c2 + mn), .ref m26, .int (gm), .ref m28, .ref m29, .ref m30, .ref m31])), (m7, .inl (ty 0, 2, .inl cn)), (m8, .inl (ty 0, 200, .inl (upd ki ((100 * tto) + z) x1))), (m9, .inl (ty 0, 200, .inl (upd lv ((100 * tto) + z) x2))), (m10, .inl (ty 0, 200, .inl (upd no ((100 * tto) + z) x3))), (m11, .inl (ty 1, 800, .inr (.inl (vp_updL (tg_c4L ls1 (4 * (100 * tto + z)) li i) ((4 * (100 * tto + z)) + i) (li i))))), (m12, .inl (ty 0, 200, .inl (upd my ((100 * tto) + z) mn))), (m13, .inl (ty 0, 800, .inl (tg_c4I ks (4 * (100 * tto + z)) hk i))), (m14, .inl (ty 1, 800, .inr (.inl (tg_c4L kt (4 * (100 * tto + z)) hs i)))), (m15, .inl (ty 0, 800, .inl (tg_c4I kl (4 * (100 * tto + z)) hl1 i))), (m16, .inl (ty 1, 800, .inr (.inl (tg_c4L kv (4 * (100 * tto + z)) hv1 i)))), (m17, .inl (ty 1, 4, .inr (.inl li))), (m19, .inl (ty 0, 4, .inl hk)), (m20, .inl (ty 1, 4, .inr (.inl hs))), (m21, .inl (ty 0, 4, .inl hl1)), (m22, .inl (ty 1, 4, .inr (.inl hv1)))]) rfl (fun H locs hP hD hS => ?_)
          refine lv_aload_n hx hb dX3_send_123 rfl (lv_at hl 0 rfl) ?_
          refine va_get (D := D) (ci := 3) (v := .ref m13) (C := RX3) (T := TX3) (N := 32) hx hb hts hinX3 hown hK hP 0 rfl rfl 13 (by decide) (hts (.fieldLink RX3 45 "TreeGossipModel" "keys" "[I") (by decide +kernel)) (fun _ h9 => h9) rfl dX3_send_124 ?_
          refine lv_iconst (v := nI (4)) hx hb dX3_send_127 (by decide) ?_
          refine lv_iload hx hb dX3_send_128 (lv_at hl 2 rfl) ?_
          refine lv_imul hx hb dX3_send_130 ?_
          refine tg_vi (pk_mul _ _) ?_
          refine lv_iload hx hb dX3_send_131 (lv_at hl 3 rfl) ?_
          refine lv_iadd hx hb dX3_send_133 ?_
          refine tg_vi (nI_add _ _) ?_
          refine lv_aload_n hx hb dX3_send_134 rfl (lv_at hl 0 rfl) ?_
          refine va_get (D := D) (ci := 3) (v := .ref m19) (C := RX3) (T := TX3) (N := 32) hx hb hts hinX3 hown hK hP 0 rfl rfl 19 (by decide) (hts (.fieldLink RX3 60 "TreeGossipModel" "handKeys" "[I") (by decide +kernel)) (fun _ h9 => h9) rfl dX3_send_135 ?_
          refine lv_iload hx hb dX3_send_138 (lv_at hl 3 rfl) ?_
          refine tg_iald hx hb hK hP 12 rfl (f := hk) (k := i) (by omega) (by decide) dX3_send_140 ?_
          refine tg_iast hx hb hK hP hD hS 7 rfl (k := (4 * (100 * tto + z)) + i) (by omega) (by decide) dX3_send_141 (ws' := [(m0, .inr (3, [.int (cd), .ref m1, .ref m2, .ref m3, .ref m4, .ref m5, .long (hh), .ref m7, .ref m8, .ref m9, .ref m10, .ref m11, .ref m12, .ref m13, .ref m14, .ref m15, .ref m16, .ref m17, .int (mn), .ref m19, .ref m20, .ref m21, .ref m22, .int (c0 + (nI (1))), .int (c1), .int (c2 + mn), .ref m26, .int (gm), .ref m28, .ref m29, .ref m30, .ref m31])), (m7, .inl (ty 0, 2, .inl cn)), (m8, .inl (ty 0, 200, .inl (upd ki ((100 * tto) + z) x1))), (m9, .inl (ty 0, 200, .inl (upd lv ((100 * tto) + z) x2))), (m10, .inl (ty 0, 200, .inl (upd no ((100 * tto) + z) x3))), (m11, .inl (ty 1, 800, .inr (.inl (vp_updL (tg_c4L ls1 (4 * (100 * tto + z)) li i) ((4 * (100 * tto + z)) + i) (li i))))), (m12, .inl (ty 0, 200, .inl (upd my ((100 * tto) + z) mn))), (m13, .inl (ty 0, 800, .inl (upd (tg_c4I ks (4 * (100 * tto + z)) hk i) ((4 * (100 * tto + z)) + i) (hk i)))), (m14, .inl (ty 1, 800, .inr (.inl (tg_c4L kt (4 * (100 * tto + z)) hs i)))), (m15, .inl (ty 0, 800, .inl (tg_c4I kl (4 * (100 * tto + z)) hl1 i))), (m16, .inl (ty 1, 800, .inr (.inl (tg_c4L kv (4 * (100 * tto + z)) hv1 i)))), (m17, .inl (ty 1, 4, .inr (.inl li))), (m19, .inl (ty 0, 4, .inl hk)), (m20, .inl (ty 1, 4, .inr (.inl hs))), (m21, .inl (ty 0, 4, .inl hl1)), (m22, .inl (ty 1, 4, .inr (.inl hv1)))]) rfl (fun H locs hP hD hS => ?_)
          refine lv_aload_n hx hb dX3_send_142 rfl (lv_at hl 0 rfl) ?_
          refine va_get (D := D) (ci := 3) (v := .ref m14) (C := RX3) (T := TX3) (N := 32) hx hb hts hinX3 hown hK hP 0 rfl rfl 14 (by decide) (hts (.fieldLink RX3 48 "TreeGossipModel" "keyStamps" "[J") (by decide +kernel)) (fun _ h9 => h9) rfl dX3_send_143 ?_
          refine lv_iconst (v := nI (4)) hx hb dX3_send_146 (by decide) ?_
          refine lv_iload hx hb dX3_send_147 (lv_at hl 2 rfl) ?_
          refine lv_imul hx hb dX3_send_149 ?_
          refine tg_vi (pk_mul _ _) ?_
          refine lv_iload hx hb dX3_send_150 (lv_at hl 3 rfl) ?_
          refine lv_iadd hx hb dX3_send_152 ?_
          refine tg_vi (nI_add _ _) ?_
          refine lv_aload_n hx hb dX3_send_153 rfl (lv_at hl 0 rfl) ?_
          refine va_get (D := D) (ci := 3) (v := .ref m20) (C := RX3) (T := TX3) (N := 32) hx hb hts hinX3 hown hK hP 0 rfl rfl 20 (by decide) (hts (.fieldLink RX3 63 "TreeGossipModel" "handStamps" "[J") (by decide +kernel)) (fun _ h9 => h9) rfl dX3_send_154 ?_
          refine lv_iload hx hb dX3_send_157 (lv_at hl 3 rfl) ?_
          refine tg_lald hx hb hK hP 13 rfl (f := hs) (k := i) (by omega) (by decide) dX3_send_159 ?_
          refine tg_last hx hb hK hP hD hS 8 rfl (k := (4 * (100 * tto + z)) + i) (by omega) (by decide) dX3_send_160 (ws' := [(m0, .inr (3, [.int (cd), .ref m1, .ref m2, .ref m3, .ref m4, .ref m5, .long (hh), .ref m7, .ref m8, .ref m9, .ref m10, .ref m11, .ref m12, .ref m13, .ref m14, .ref m15, .ref m16, .ref m17, .int (mn), .ref m19, .ref m20, .ref m21, .ref m22, .int (c0 + (nI (1))), .int (c1), .int (c2 + mn), .ref m26, .int (gm), .ref m28, .ref m29, .ref m30, .ref m31])), (m7, .inl (ty 0, 2, .inl cn)), (m8, .inl (ty 0, 200, .inl (upd ki ((100 * tto) + z) x1))), (m9, .inl (ty 0, 200, .inl (upd lv ((100 * tto) + z) x2))), (m10, .inl (ty 0, 200, .inl (upd no ((100 * tto) + z) x3))), (m11, .inl (ty 1, 800, .inr (.inl (vp_updL (tg_c4L ls1 (4 * (100 * tto + z)) li i) ((4 * (100 * tto + z)) + i) (li i))))), (m12, .inl (ty 0, 200, .inl (upd my ((100 * tto) + z) mn))), (m13, .inl (ty 0, 800, .inl (upd (tg_c4I ks (4 * (100 * tto + z)) hk i) ((4 * (100 * tto + z)) + i) (hk i)))), (m14, .inl (ty 1, 800, .inr (.inl (vp_updL (tg_c4L kt (4 * (100 * tto + z)) hs i) ((4 * (100 * tto + z)) + i) (hs i))))), (m15, .inl (ty 0, 800, .inl (tg_c4I kl (4 * (100 * tto + z)) hl1 i))), (m16, .inl (ty 1, 800, .inr (.inl (tg_c4L kv (4 * (100 * tto + z)) hv1 i)))), (m17, .inl (ty 1, 4, .inr (.inl li))), (m19, .inl (ty 0, 4, .inl hk)), (m20, .inl (ty 1, 4, .inr (.inl hs))), (m21, .inl (ty 0, 4, .inl hl1)), (m22, .inl (ty 1, 4, .inr (.inl hv1)))]) rfl (fun H locs hP hD hS => ?_)
          refine lv_aload_n hx hb dX3_send_161 rfl (lv_at hl 0 rfl) ?_
          refine va_get (D := D) (ci := 3) (v := .ref m15) (C := RX3) (T := TX3) (N := 32) hx hb hts hinX3 hown hK hP 0 rfl rfl 15 (by decide) (hts (.fieldLink RX3 51 "TreeGossipModel" "keyLengths" "[I") (by decide +kernel)) (fun _ h9 => h9) rfl dX3_send_162 ?_
          refine lv_iconst (v := nI (4)) hx hb dX3_send_165 (by decide) ?_
          refine lv_iload hx hb dX3_send_166 (lv_at hl 2 rfl) ?_
          refine lv_imul hx hb dX3_send_168 ?_
          refine tg_vi (pk_mul _ _) ?_
          refine lv_iload hx hb dX3_send_169 (lv_at hl 3 rfl) ?_
          refine lv_iadd hx hb dX3_send_171 ?_
          refine tg_vi (nI_add _ _) ?_
          refine lv_aload_n hx hb dX3_send_172 rfl (lv_at hl 0 rfl) ?_
          refine va_get (D := D) (ci := 3) (v := .ref m21) (C := RX3) (T := TX3) (N := 32) hx hb hts hinX3 hown hK hP 0 rfl rfl 21 (by decide) (hts (.fieldLink RX3 66 "TreeGossipModel" "handLengths" "[I") (by decide +kernel)) (fun _ h9 => h9) rfl dX3_send_173 ?_
          refine lv_iload hx hb dX3_send_176 (lv_at hl 3 rfl) ?_
          refine tg_iald hx hb hK hP 14 rfl (f := hl1) (k := i) (by omega) (by decide) dX3_send_178 ?_
          refine tg_iast hx hb hK hP hD hS 9 rfl (k := (4 * (100 * tto + z)) + i) (by omega) (by decide) dX3_send_179 (ws' := [(m0, .inr (3, [.int (cd), .ref m1, .ref m2, .ref m3, .ref m4, .ref m5, .long (hh), .ref m7, .ref m8, .ref m9, .ref m10, .ref m11, .ref m12, .ref m13, .ref m14, .ref m15, .ref m16, .ref m17, .int (mn), .ref m19, .ref m20, .ref m21, .ref m22, .int (c0 + (nI (1))), .int (c1), .int (c2 + mn), .ref m26, .int (gm), .ref m28, .ref m29, .ref m30, .ref m31])), (m7, .inl (ty 0, 2, .inl cn)), (m8, .inl (ty 0, 200, .inl (upd ki ((100 * tto) + z) x1))), (m9, .inl (ty 0, 200, .inl (upd lv ((100 * tto) + z) x2))), (m10, .inl (ty 0, 200, .inl (upd no ((100 * tto) + z) x3))), (m11, .inl (ty 1, 800, .inr (.inl (vp_updL (tg_c4L ls1 (4 * (100 * tto + z)) li i) ((4 * (100 * tto + z)) + i) (li i))))), (m12, .inl (ty 0, 200, .inl (upd my ((100 * tto) + z) mn))), (m13, .inl (ty 0, 800, .inl (upd (tg_c4I ks (4 * (100 * tto + z)) hk i) ((4 * (100 * tto + z)) + i) (hk i)))), (m14, .inl (ty 1, 800, .inr (.inl (vp_updL (tg_c4L kt (4 * (100 * tto + z)) hs i) ((4 * (100 * tto + z)) + i) (hs i))))), (m15, .inl (ty 0, 800, .inl (upd (tg_c4I kl (4 * (100 * tto + z)) hl1 i) ((4 * (100 * tto + z)) + i) (hl1 i)))), (m16, .inl (ty 1, 800, .inr (.inl (tg_c4L kv (4 * (100 * tto + z)) hv1 i)))), (m17, .inl (ty 1, 4, .inr (.inl li))), (m19, .inl (ty 0, 4, .inl hk)), (m20, .inl (ty 1, 4, .inr (.inl hs))), (m21, .inl (ty 0, 4, .inl hl1)), (m22, .inl (ty 1, 4, .inr (.inl hv1)))]) rfl (fun H locs hP hD hS => ?_)
          refine lv_aload_n hx hb dX3_send_180 rfl (lv_at hl 0 rfl) ?_
          refine va_get (D := D) (ci := 3) (v := .ref m16) (C := RX3) (T := TX3) (N := 32) hx hb hts hinX3 hown hK hP 0 rfl rfl 16 (by decide) (hts (.fieldLink RX3 54 "TreeGossipModel" "keyValues" "[J") (by decide +kernel)) (fun _ h9 => h9) rfl dX3_send_181 ?_
          refine lv_iconst (v := nI (4)) hx hb dX3_send_184 (by decide) ?_
          refine lv_iload hx hb dX3_send_185 (lv_at hl 2 rfl) ?_
          refine lv_imul hx hb dX3_send_187 ?_
          refine tg_vi (pk_mul _ _) ?_
          refine lv_iload hx hb dX3_send_188 (lv_at hl 3 rfl) ?_
          refine lv_iadd hx hb dX3_send_190 ?_
          refine tg_vi (nI_add _ _) ?_
          refine lv_aload_n hx hb dX3_send_191 rfl (lv_at hl 0 rfl) ?_
          refine va_get (D := D) (ci := 3) (v := .ref m22) (C := RX3) (T := TX3) (N := 32) hx hb hts hinX3 hown hK hP 0 rfl rfl 22 (by decide) (hts (.fieldLink RX3 69 "TreeGossipModel" "handValues" "[J") (by decide +kernel)) (fun _ h9 => h9) rfl dX3_send_192 ?_
          refine lv_iload hx hb dX3_send_195 (lv_at hl 3 rfl) ?_
          refine tg_lald hx hb hK hP 15 rfl (f := hv1) (k := i) (by omega) (by decide) dX3_send_197 ?_
          refine tg_last hx hb hK hP hD hS 10 rfl (k := (4 * (100 * tto + z)) + i) (by omega) (by decide) dX3_send_198 (ws' := [(m0, .inr (3, [.int (cd), .ref m1, .ref m2, .ref m3, .ref m4, .ref m5, .long (hh), .ref m7, .ref m8, .ref m9, .ref m10, .ref m11, .ref m12, .ref m13, .ref m14, .ref m15, .ref m16, .ref m17, .int (mn), .ref m19, .ref m20, .ref m21, .ref m22, .int (c0 + (nI (1))), .int (c1), .int (c2 + mn), .ref m26, .int (gm), .ref m28, .ref m29, .ref m30, .ref m31])), (m7, .inl (ty 0, 2, .inl cn)), (m8, .inl (ty 0, 200, .inl (upd ki ((100 * tto) + z) x1))), (m9, .inl (ty 0, 200, .inl (upd lv ((100 * tto) + z) x2))), (m10, .inl (ty 0, 200, .inl (upd no ((100 * tto) + z) x3))), (m11, .inl (ty 1, 800, .inr (.inl (vp_updL (tg_c4L ls1 (4 * (100 * tto + z)) li i) ((4 * (100 * tto + z)) + i) (li i))))), (m12, .inl (ty 0, 200, .inl (upd my ((100 * tto) + z) mn))), (m13, .inl (ty 0, 800, .inl (upd (tg_c4I ks (4 * (100 * tto + z)) hk i) ((4 * (100 * tto + z)) + i) (hk i)))), (m14, .inl (ty 1, 800, .inr (.inl (vp_updL (tg_c4L kt (4 * (100 * tto + z)) hs i) ((4 * (100 * tto + z)) + i) (hs i))))), (m15, .inl (ty 0, 800, .inl (upd (tg_c4I kl (4 * (100 * tto + z)) hl1 i) ((4 * (100 * tto + z)) + i) (hl1 i)))), (m16, .inl (ty 1, 800, .inr (.inl (vp_updL (tg_c4L kv (4 * (100 * tto + z)) hv1 i) ((4 * (100 * tto + z)) + i) (hv1 i))))), (m17, .inl (ty 1, 4, .inr (.inl li))), (m19, .inl (ty 0, 4, .inl hk)), (m20, .inl (ty 1, 4, .inr (.inl hs))), (m21, .inl (ty 0, 4, .inl hl1)), (m22, .inl (ty 1, 4, .inr (.inl hv1)))]) rfl (fun H locs hP hD hS => ?_)
          refine lv_iinc (v := nI (i + 1)) (lv' := [(6, .int (nI (i + 1))), (0, .ref m0), (1, .int (nI (tto))), (5, .int (nI (100 * tto + z)))]) hx hb dX3_send_199 hl (k := 3) rfl (tg_inc1 _) (by decide) rfl (fun ls hl => ?_)
          refine lv_goto (tgt := 98) hx hb dX3_send_202 (by decide) ?_
          exact ih98 (i + 1) (by omega) (by omega)  _ _ _ hP hD hS (lv_sub hl [1, 2, 3, 0] rfl)
    exact hL98 (4 + 1) 0 (by omega) (by omega)  _ _ _ hP hD hS (lv_sub hl [2, 3, 1, 0] rfl)
  · omega
def rmk_X3_send_full : Room := { frames := 0, cells := 0, slots := 0, locals := 0 }
theorem ink_X3_send_full_X3 : ∀ w ∈ wsX30, w ∈ wsX3_send := by decide +kernel
set_option maxHeartbeats 4000000 in
set_option maxRecDepth 100000 in
theorem k_X3_send_full (l : Launch) (D : va_G) (ty : Nat → ClassId) (m0 : Nat) (m1 : Nat) (m2 : Nat) (m3 : Nat) (m4 : Nat) (m5 : Nat) (m7 : Nat) (m8 : Nat) (m9 : Nat) (m10 : Nat) (m11 : Nat) (m12 : Nat) (m13 : Nat) (m14 : Nat) (m15 : Nat) (m16 : Nat) (m17 : Nat) (m19 : Nat) (m20 : Nat) (m21 : Nat) (m22 : Nat) (m26 : Nat) (m28 : Nat) (m29 : Nat) (m30 : Nat) (m31 : Nat) (cd : Int32) (hh : Int64) (mn : Int32) (c0 : Int32) (c1 : Int32) (c2 : Int32) (gm : Int32) (cn : Nat → Int32) (ki : Nat → Int32) (lv : Nat → Int32) (no : Nat → Int32) (ls1 : Nat → Int64) (my : Nat → Int32) (ks : Nat → Int32) (kt : Nat → Int64) (kl : Nat → Int32) (kv : Nat → Int64) (li : Nat → Int64) (hk : Nat → Int32) (hs : Nat → Int64) (hl1 : Nat → Int32) (hv1 : Nat → Int64) (tto : Nat) (x1 : Int32) (x2 : Int32) (x3 : Int32) (z : Nat) (hto : tto ≤ 1) (hcn : cn tto = nI z) (hz : z = 100) : tg_Mi l yX3_send wsX3_send rmk_X3_send_full D ty [.ref m0, .int (nI (tto)), .int (x1), .int (x2), .int (x3)] [(m0, .inr (3, [.int (cd), .ref m1, .ref m2, .ref m3, .ref m4, .ref m5, .long (hh), .ref m7, .ref m8, .ref m9, .ref m10, .ref m11, .ref m12, .ref m13, .ref m14, .ref m15, .ref m16, .ref m17, .int (mn), .ref m19, .ref m20, .ref m21, .ref m22, .int (c0), .int (c1), .int (c2), .ref m26, .int (gm), .ref m28, .ref m29, .ref m30, .ref m31])), (m7, .inl (ty 0, 2, .inl cn)), (m8, .inl (ty 0, 200, .inl ki)), (m9, .inl (ty 0, 200, .inl lv)), (m10, .inl (ty 0, 200, .inl no)), (m11, .inl (ty 1, 800, .inr (.inl ls1))), (m12, .inl (ty 0, 200, .inl my)), (m13, .inl (ty 0, 800, .inl ks)), (m14, .inl (ty 1, 800, .inr (.inl kt))), (m15, .inl (ty 0, 800, .inl kl)), (m16, .inl (ty 1, 800, .inr (.inl kv))), (m17, .inl (ty 1, 4, .inr (.inl li))), (m19, .inl (ty 0, 4, .inl hk)), (m20, .inl (ty 1, 4, .inr (.inl hs))), (m21, .inl (ty 0, 4, .inl hl1)), (m22, .inl (ty 1, 4, .inr (.inl hv1)))] [(m0, .inr (3, [.int (cd), .ref m1, .ref m2, .ref m3, .ref m4, .ref m5, .long (hh), .ref m7, .ref m8, .ref m9, .ref m10, .ref m11, .ref m12, .ref m13, .ref m14, .ref m15, .ref m16, .ref m17, .int (mn), .ref m19, .ref m20, .ref m21, .ref m22, .int (c0 + nI 1), .int (c1 + nI 1), .int (c2 + mn), .ref m26, .int (gm), .ref m28, .ref m29, .ref m30, .ref m31])), (m7, .inl (ty 0, 2, .inl cn)), (m8, .inl (ty 0, 200, .inl ki)), (m9, .inl (ty 0, 200, .inl lv)), (m10, .inl (ty 0, 200, .inl no)), (m11, .inl (ty 1, 800, .inr (.inl ls1))), (m12, .inl (ty 0, 200, .inl my)), (m13, .inl (ty 0, 800, .inl ks)), (m14, .inl (ty 1, 800, .inr (.inl kt))), (m15, .inl (ty 0, 800, .inl kl)), (m16, .inl (ty 1, 800, .inr (.inl kv))), (m17, .inl (ty 1, 4, .inr (.inl li))), (m19, .inl (ty 0, 4, .inl hk)), (m20, .inl (ty 1, 4, .inr (.inl hs))), (m21, .inl (ty 0, 4, .inl hl1)), (m22, .inl (ty 1, 4, .inr (.inl hv1)))] (nI (0)) 0 0 := by
  refine tg_start_z (cc := cX3_send) (maxL := 7) (lvs := [(0, .ref m0), (1, .int (nI (tto))), (2, .int (x1)), (3, .int (x2)), (4, .int (x3))]) (by decide) rfl (Nat.le_of_ble_eq_true rfl) rfl ?_
  intro pp ee ss mm args below meth cc AA ls QQ hx hb hr hts hown hlocks hml hnm hA hP hD hS hK hN hl hret
  have hinX3 := ink_X3_send_full_X3
  refine lv_aload_n hx hb dX3_send_0 rfl (lv_at hl 0 rfl) ?_
  refine lv_dup hx hb dX3_send_1 rfl ?_
  refine va_get (D := D) (ci := 3) (v := .int (c0)) (C := RX3) (T := TX3) (N := 32) hx hb hts hinX3 hown hK hP 0 rfl rfl 23 (by decide) (hts (.fieldLink RX3 144 "TreeGossipModel" "sent" "I") (by decide +kernel)) (fun _ h9 => h9) rfl dX3_send_2 ?_
  refine lv_iconst (v := nI (1)) hx hb dX3_send_5 (by decide) ?_
  refine lv_iadd hx hb dX3_send_6 ?_
  refine tg_put (ci := 3) (v := .int (c0 + (nI (1)))) (ft := .int) (C := RX3) (T := TX3) (N := 32) hx hb hts hinX3 tyX3 tyX3_ok nmX3 hown hK hP hD hS 0 rfl rfl 23 (by decide) (hts (.fieldLink RX3 144 "TreeGossipModel" "sent" "I") (by decide +kernel)) (fun _ h9 => h9) rfl (by decide +kernel) rfl rfl (Nat.le_of_ble_eq_true rfl) dX3_send_7 (ws' := [(m0, .inr (3, [.int (cd), .ref m1, .ref m2, .ref m3, .ref m4, .ref m5, .long (hh), .ref m7, .ref m8, .ref m9, .ref m10, .ref m11, .ref m12, .ref m13, .ref m14, .ref m15, .ref m16, .ref m17, .int (mn), .ref m19, .ref m20, .ref m21, .ref m22, .int (c0 + (nI (1))), .int (c1), .int (c2), .ref m26, .int (gm), .ref m28, .ref m29, .ref m30, .ref m31])), (m7, .inl (ty 0, 2, .inl cn)), (m8, .inl (ty 0, 200, .inl ki)), (m9, .inl (ty 0, 200, .inl lv)), (m10, .inl (ty 0, 200, .inl no)), (m11, .inl (ty 1, 800, .inr (.inl ls1))), (m12, .inl (ty 0, 200, .inl my)), (m13, .inl (ty 0, 800, .inl ks)), (m14, .inl (ty 1, 800, .inr (.inl kt))), (m15, .inl (ty 0, 800, .inl kl)), (m16, .inl (ty 1, 800, .inr (.inl kv))), (m17, .inl (ty 1, 4, .inr (.inl li))), (m19, .inl (ty 0, 4, .inl hk)), (m20, .inl (ty 1, 4, .inr (.inl hs))), (m21, .inl (ty 0, 4, .inl hl1)), (m22, .inl (ty 1, 4, .inr (.inl hv1)))]) rfl (fun H locs hP hD hS => ?_)
  refine lv_aload_n hx hb dX3_send_10 rfl (lv_at hl 0 rfl) ?_
  refine lv_dup hx hb dX3_send_11 rfl ?_
  refine va_get (D := D) (ci := 3) (v := .int (c2)) (C := RX3) (T := TX3) (N := 32) hx hb hts hinX3 hown hK hP 0 rfl rfl 25 (by decide) (hts (.fieldLink RX3 147 "TreeGossipModel" "entries" "I") (by decide +kernel)) (fun _ h9 => h9) rfl dX3_send_12 ?_
  refine lv_aload_n hx hb dX3_send_15 rfl (lv_at hl 0 rfl) ?_
  refine va_get (D := D) (ci := 3) (v := .int (mn)) (C := RX3) (T := TX3) (N := 32) hx hb hts hinX3 hown hK hP 0 rfl rfl 18 (by decide) (hts (.fieldLink RX3 150 "TreeGossipModel" "many" "I") (by decide +kernel)) (fun _ h9 => h9) rfl dX3_send_16 ?_
  refine lv_iadd hx hb dX3_send_19 ?_
  refine tg_put (ci := 3) (v := .int (c2 + mn)) (ft := .int) (C := RX3) (T := TX3) (N := 32) hx hb hts hinX3 tyX3 tyX3_ok nmX3 hown hK hP hD hS 0 rfl rfl 25 (by decide) (hts (.fieldLink RX3 147 "TreeGossipModel" "entries" "I") (by decide +kernel)) (fun _ h9 => h9) rfl (by decide +kernel) rfl rfl (Nat.le_of_ble_eq_true rfl) dX3_send_20 (ws' := [(m0, .inr (3, [.int (cd), .ref m1, .ref m2, .ref m3, .ref m4, .ref m5, .long (hh), .ref m7, .ref m8, .ref m9, .ref m10, .ref m11, .ref m12, .ref m13, .ref m14, .ref m15, .ref m16, .ref m17, .int (mn), .ref m19, .ref m20, .ref m21, .ref m22, .int (c0 + (nI (1))), .int (c1), .int (c2 + mn), .ref m26, .int (gm), .ref m28, .ref m29, .ref m30, .ref m31])), (m7, .inl (ty 0, 2, .inl cn)), (m8, .inl (ty 0, 200, .inl ki)), (m9, .inl (ty 0, 200, .inl lv)), (m10, .inl (ty 0, 200, .inl no)), (m11, .inl (ty 1, 800, .inr (.inl ls1))), (m12, .inl (ty 0, 200, .inl my)), (m13, .inl (ty 0, 800, .inl ks)), (m14, .inl (ty 1, 800, .inr (.inl kt))), (m15, .inl (ty 0, 800, .inl kl)), (m16, .inl (ty 1, 800, .inr (.inl kv))), (m17, .inl (ty 1, 4, .inr (.inl li))), (m19, .inl (ty 0, 4, .inl hk)), (m20, .inl (ty 1, 4, .inr (.inl hs))), (m21, .inl (ty 0, 4, .inl hl1)), (m22, .inl (ty 1, 4, .inr (.inl hv1)))]) rfl (fun H locs hP hD hS => ?_)
  refine lv_aload_n hx hb dX3_send_23 rfl (lv_at hl 0 rfl) ?_
  refine va_get (D := D) (ci := 3) (v := .ref m7) (C := RX3) (T := TX3) (N := 32) hx hb hts hinX3 hown hK hP 0 rfl rfl 7 (by decide) (hts (.fieldLink RX3 27 "TreeGossipModel" "counts" "[I") (by decide +kernel)) (fun _ h9 => h9) rfl dX3_send_24 ?_
  refine lv_iload_n hx hb dX3_send_27 rfl (lv_at hl 1 rfl) ?_
  refine tg_iald hx hb hK hP 1 rfl (f := cn) (k := tto) (by omega) (by decide) dX3_send_28 ?_
  refine tg_vi (hcn) ?_
  refine lv_bipush (v := nI (100)) hx hb dX3_send_29 (by decide) ?_
  refine tg_ne (tgt := 46) hx hb dX3_send_31 (by decide) (by omega) (by omega) (fun c31_1 => ?_) (fun c31_1 => ?_)
  · omega
  · skip
    refine lv_aload_n hx hb dX3_send_34 rfl (lv_at hl 0 rfl) ?_
    refine lv_dup hx hb dX3_send_35 rfl ?_
    refine va_get (D := D) (ci := 3) (v := .int (c1)) (C := RX3) (T := TX3) (N := 32) hx hb hts hinX3 hown hK hP 0 rfl rfl 24 (by decide) (hts (.fieldLink RX3 153 "TreeGossipModel" "lost" "I") (by decide +kernel)) (fun _ h9 => h9) rfl dX3_send_36 ?_
    refine lv_iconst (v := nI (1)) hx hb dX3_send_39 (by decide) ?_
    refine lv_iadd hx hb dX3_send_40 ?_
    refine tg_put (ci := 3) (v := .int (c1 + (nI (1)))) (ft := .int) (C := RX3) (T := TX3) (N := 32) hx hb hts hinX3 tyX3 tyX3_ok nmX3 hown hK hP hD hS 0 rfl rfl 24 (by decide) (hts (.fieldLink RX3 153 "TreeGossipModel" "lost" "I") (by decide +kernel)) (fun _ h9 => h9) rfl (by decide +kernel) rfl rfl (Nat.le_of_ble_eq_true rfl) dX3_send_41 (ws' := [(m0, .inr (3, [.int (cd), .ref m1, .ref m2, .ref m3, .ref m4, .ref m5, .long (hh), .ref m7, .ref m8, .ref m9, .ref m10, .ref m11, .ref m12, .ref m13, .ref m14, .ref m15, .ref m16, .ref m17, .int (mn), .ref m19, .ref m20, .ref m21, .ref m22, .int (c0 + (nI (1))), .int (c1 + (nI (1))), .int (c2 + mn), .ref m26, .int (gm), .ref m28, .ref m29, .ref m30, .ref m31])), (m7, .inl (ty 0, 2, .inl cn)), (m8, .inl (ty 0, 200, .inl ki)), (m9, .inl (ty 0, 200, .inl lv)), (m10, .inl (ty 0, 200, .inl no)), (m11, .inl (ty 1, 800, .inr (.inl ls1))), (m12, .inl (ty 0, 200, .inl my)), (m13, .inl (ty 0, 800, .inl ks)), (m14, .inl (ty 1, 800, .inr (.inl kt))), (m15, .inl (ty 0, 800, .inl kl)), (m16, .inl (ty 1, 800, .inr (.inl kv))), (m17, .inl (ty 1, 4, .inr (.inl li))), (m19, .inl (ty 0, 4, .inl hk)), (m20, .inl (ty 1, 4, .inr (.inl hs))), (m21, .inl (ty 0, 4, .inl hl1)), (m22, .inl (ty 1, 4, .inr (.inl hv1)))]) rfl (fun H locs hP hD hS => ?_)
    refine lv_iconst (v := nI (0)) hx hb dX3_send_44 (by decide) ?_
    exact hret _ _ 45 _ _ hP hD hS (rfl) rfl dX3_send_45
def rmk_X3_drop : Room := { frames := 0, cells := 0, slots := 0, locals := 0 }
theorem ink_X3_drop_X3 : ∀ w ∈ wsX30, w ∈ wsX3_drop := by decide +kernel
set_option maxHeartbeats 4000000 in
set_option maxRecDepth 100000 in
theorem k_X3_drop (l : Launch) (D : va_G) (ty : Nat → ClassId) (m0 : Nat) (m1 : Nat) (m2 : Nat) (m3 : Nat) (m4 : Nat) (m5 : Nat) (m7 : Nat) (m8 : Nat) (m9 : Nat) (m10 : Nat) (m11 : Nat) (m12 : Nat) (m13 : Nat) (m14 : Nat) (m15 : Nat) (m16 : Nat) (m17 : Nat) (m19 : Nat) (m20 : Nat) (m21 : Nat) (m22 : Nat) (m26 : Nat) (m28 : Nat) (m29 : Nat) (m30 : Nat) (m31 : Nat) (cd : Int32) (hh : Int64) (mn : Int32) (c0 : Int32) (c1 : Int32) (c2 : Int32) (gm : Int32) (cn : Nat → Int32) (ki : Nat → Int32) (lv : Nat → Int32) (no : Nat → Int32) (ls1 : Nat → Int64) (my : Nat → Int32) (ks : Nat → Int32) (kt : Nat → Int64) (kl : Nat → Int32) (kv : Nat → Int64) (si : Nat) (z : Nat) (hsi : si ≤ 1) (hcn : cn si = nI z) (hz : 0 < z) (hzu : z ≤ 100) : tg_Mv l yX3_drop wsX3_drop rmk_X3_drop D ty [.ref m0, .int (nI (si))] [(m0, .inr (3, [.int (cd), .ref m1, .ref m2, .ref m3, .ref m4, .ref m5, .long (hh), .ref m7, .ref m8, .ref m9, .ref m10, .ref m11, .ref m12, .ref m13, .ref m14, .ref m15, .ref m16, .ref m17, .int (mn), .ref m19, .ref m20, .ref m21, .ref m22, .int (c0), .int (c1), .int (c2), .ref m26, .int (gm), .ref m28, .ref m29, .ref m30, .ref m31])), (m7, .inl (ty 0, 2, .inl cn)), (m8, .inl (ty 0, 200, .inl ki)), (m9, .inl (ty 0, 200, .inl lv)), (m10, .inl (ty 0, 200, .inl no)), (m11, .inl (ty 1, 800, .inr (.inl ls1))), (m12, .inl (ty 0, 200, .inl my)), (m13, .inl (ty 0, 800, .inl ks)), (m14, .inl (ty 1, 800, .inr (.inl kt))), (m15, .inl (ty 0, 800, .inl kl)), (m16, .inl (ty 1, 800, .inr (.inl kv)))] (fun _ : Unit => [(m0, .inr (3, [.int (cd), .ref m1, .ref m2, .ref m3, .ref m4, .ref m5, .long (hh), .ref m7, .ref m8, .ref m9, .ref m10, .ref m11, .ref m12, .ref m13, .ref m14, .ref m15, .ref m16, .ref m17, .int (mn), .ref m19, .ref m20, .ref m21, .ref m22, .int (c0), .int (c1), .int (c2), .ref m26, .int (gm), .ref m28, .ref m29, .ref m30, .ref m31])), (m7, .inl (ty 0, 2, .inl (upd cn si (nI (z - 1))))), (m8, .inl (ty 0, 200, .inl (tg_shI ki (100 * si) (z - 1)))), (m9, .inl (ty 0, 200, .inl (tg_shI lv (100 * si) (z - 1)))), (m10, .inl (ty 0, 200, .inl (tg_shI no (100 * si) (z - 1)))), (m11, .inl (ty 1, 800, .inr (.inl (tg_sh4L ls1 (100 * si) (z - 1))))), (m12, .inl (ty 0, 200, .inl (tg_shI my (100 * si) (z - 1)))), (m13, .inl (ty 0, 800, .inl (tg_sh4I ks (100 * si) (z - 1)))), (m14, .inl (ty 1, 800, .inr (.inl (tg_sh4L kt (100 * si) (z - 1))))), (m15, .inl (ty 0, 800, .inl (tg_sh4I kl (100 * si) (z - 1)))), (m16, .inl (ty 1, 800, .inr (.inl (tg_sh4L kv (100 * si) (z - 1)))))]) 0 0 := by
  refine tg_start_v (cc := cX3_drop) (maxL := 4) (lvs := [(0, .ref m0), (1, .int (nI (si)))]) (by decide) rfl (Nat.le_of_ble_eq_true rfl) rfl ?_
  intro pp ee ss mm args below meth cc AA ls QQ hx hb hr hts hown hlocks hml hnm hA hP hD hS hK hN hl hret
  have hinX3 := ink_X3_drop_X3
  refine lv_bipush (v := nI (100)) hx hb dX3_drop_0 (by decide) ?_
  refine lv_iload_n hx hb dX3_drop_2 rfl (lv_at hl 1 rfl) ?_
  refine lv_imul hx hb dX3_drop_3 ?_
  refine tg_vi (pk_mul _ _) ?_
  refine lv_istore_n (lv' := [(2, .int (nI (100 * si))), (0, .ref m0), (1, .int (nI (si)))]) hx hb dX3_drop_4 rfl hl (by decide) rfl (fun ls hl => ?_)
  have hL5 : ∀ (n5 i : Nat) , i ≤ z - 1 → z - 1 + 1 ≤ i + n5 → ∀ (H : Heap) (locs : List Loc) (ls : Array Slot), va_P D vwCl [(m0, .inr (3, [.int (cd), .ref m1, .ref m2, .ref m3, .ref m4, .ref m5, .long (hh), .ref m7, .ref m8, .ref m9, .ref m10, .ref m11, .ref m12, .ref m13, .ref m14, .ref m15, .ref m16, .ref m17, .int (mn), .ref m19, .ref m20, .ref m21, .ref m22, .int (c0), .int (c1), .int (c2), .ref m26, .int (gm), .ref m28, .ref m29, .ref m30, .ref m31])), (m7, .inl (ty 0, 2, .inl cn)), (m8, .inl (ty 0, 200, .inl (tg_shI ki (100 * si) i))), (m9, .inl (ty 0, 200, .inl (tg_shI lv (100 * si) i))), (m10, .inl (ty 0, 200, .inl (tg_shI no (100 * si) i))), (m11, .inl (ty 1, 800, .inr (.inl (tg_sh4L ls1 (100 * si) i)))), (m12, .inl (ty 0, 200, .inl (tg_shI my (100 * si) i))), (m13, .inl (ty 0, 800, .inl (tg_sh4I ks (100 * si) i))), (m14, .inl (ty 1, 800, .inr (.inl (tg_sh4L kt (100 * si) i)))), (m15, .inl (ty 0, 800, .inl (tg_sh4I kl (100 * si) i))), (m16, .inl (ty 1, 800, .inr (.inl (tg_sh4L kv (100 * si) i))))] H → va_D AA [(m0, .inr (3, [.int (cd), .ref m1, .ref m2, .ref m3, .ref m4, .ref m5, .long (hh), .ref m7, .ref m8, .ref m9, .ref m10, .ref m11, .ref m12, .ref m13, .ref m14, .ref m15, .ref m16, .ref m17, .int (mn), .ref m19, .ref m20, .ref m21, .ref m22, .int (c0), .int (c1), .int (c2), .ref m26, .int (gm), .ref m28, .ref m29, .ref m30, .ref m31])), (m7, .inl (ty 0, 2, .inl cn)), (m8, .inl (ty 0, 200, .inl (tg_shI ki (100 * si) i))), (m9, .inl (ty 0, 200, .inl (tg_shI lv (100 * si) i))), (m10, .inl (ty 0, 200, .inl (tg_shI no (100 * si) i))), (m11, .inl (ty 1, 800, .inr (.inl (tg_sh4L ls1 (100 * si) i)))), (m12, .inl (ty 0, 200, .inl (tg_shI my (100 * si) i))), (m13, .inl (ty 0, 800, .inl (tg_sh4I ks (100 * si) i))), (m14, .inl (ty 1, 800, .inr (.inl (tg_sh4L kt (100 * si) i)))), (m15, .inl (ty 0, 800, .inl (tg_sh4I kl (100 * si) i))), (m16, .inl (ty 1, 800, .inr (.inl (tg_sh4L kv (100 * si) i))))] → va_S AA ss.heap H locs → lv_has ls 4 [(0, .ref m0), (1, .int (nI (si))), (2, .int (nI (100 * si + i)))] → W pp l ee rmk_X3_drop ss mm args below meth cc H locs 0 0 QQ (F0 mm 5 ls []) := by
    intro n5
    induction n5 with
    | zero => intro i  h1 h2; omega
    | succ n5 ih5 =>
      intro i  hi5 hn5  H locs ls hP hD hS hl
      refine lv_iload_n hx hb dX3_drop_5 rfl (lv_at hl 2 rfl) ?_
      refine lv_iconst (v := nI (1)) hx hb dX3_drop_6 (by decide) ?_
      refine lv_iadd hx hb dX3_drop_7 ?_
      refine tg_vi (nI_add _ _) ?_
      refine lv_bipush (v := nI (100)) hx hb dX3_drop_8 (by decide) ?_
      refine lv_iload_n hx hb dX3_drop_10 rfl (lv_at hl 1 rfl) ?_
      refine lv_imul hx hb dX3_drop_11 ?_
      refine tg_vi (pk_mul _ _) ?_
      refine lv_aload_n hx hb dX3_drop_12 rfl (lv_at hl 0 rfl) ?_
      refine va_get (D := D) (ci := 3) (v := .ref m7) (C := RX3) (T := TX3) (N := 32) hx hb hts hinX3 hown hK hP 0 rfl rfl 7 (by decide) (hts (.fieldLink RX3 27 "TreeGossipModel" "counts" "[I") (by decide +kernel)) (fun _ h9 => h9) rfl dX3_drop_13 ?_
      refine lv_iload_n hx hb dX3_drop_16 rfl (lv_at hl 1 rfl) ?_
      refine tg_iald hx hb hK hP 1 rfl (f := cn) (k := si) (by omega) (by decide) dX3_drop_17 ?_
      refine tg_vi (hcn) ?_
      refine lv_iadd hx hb dX3_drop_18 ?_
      refine tg_vi (nI_add _ _) ?_
      refine tg_ge (tgt := 173) hx hb dX3_drop_19 (by decide) (by omega) (by omega) (fun c19_1 => ?_) (fun c19_1 => ?_)
      · skip
        obtain rfl : z - 1 = i := by omega
        refine lv_aload_n hx hb dX3_drop_173 rfl (lv_at hl 0 rfl) ?_
        refine va_get (D := D) (ci := 3) (v := .ref m7) (C := RX3) (T := TX3) (N := 32) hx hb hts hinX3 hown hK hP 0 rfl rfl 7 (by decide) (hts (.fieldLink RX3 27 "TreeGossipModel" "counts" "[I") (by decide +kernel)) (fun _ h9 => h9) rfl dX3_drop_174 ?_
        refine lv_iload_n hx hb dX3_drop_177 rfl (lv_at hl 1 rfl) ?_
        refine lv_dup2_11 hx hb dX3_drop_178 rfl rfl ?_
        refine tg_iald hx hb hK hP 1 rfl (f := cn) (k := si) (by omega) (by decide) dX3_drop_179 ?_
        refine tg_vi (hcn) ?_
        refine lv_iconst (v := nI (1)) hx hb dX3_drop_180 (by decide) ?_
        refine lv_isub hx hb dX3_drop_181 ?_
        refine tg_vi (pk_sub (by omega)) ?_
        refine tg_iast hx hb hK hP hD hS 1 rfl (k := si) (by omega) (by decide) dX3_drop_182 (ws' := [(m0, .inr (3, [.int (cd), .ref m1, .ref m2, .ref m3, .ref m4, .ref m5, .long (hh), .ref m7, .ref m8, .ref m9, .ref m10, .ref m11, .ref m12, .ref m13, .ref m14, .ref m15, .ref m16, .ref m17, .int (mn), .ref m19, .ref m20, .ref m21, .ref m22, .int (c0), .int (c1), .int (c2), .ref m26, .int (gm), .ref m28, .ref m29, .ref m30, .ref m31])), (m7, .inl (ty 0, 2, .inl (upd cn si (nI (z - 1))))), (m8, .inl (ty 0, 200, .inl (tg_shI ki (100 * si) (z - 1)))), (m9, .inl (ty 0, 200, .inl (tg_shI lv (100 * si) (z - 1)))), (m10, .inl (ty 0, 200, .inl (tg_shI no (100 * si) (z - 1)))), (m11, .inl (ty 1, 800, .inr (.inl (tg_sh4L ls1 (100 * si) (z - 1))))), (m12, .inl (ty 0, 200, .inl (tg_shI my (100 * si) (z - 1)))), (m13, .inl (ty 0, 800, .inl (tg_sh4I ks (100 * si) (z - 1)))), (m14, .inl (ty 1, 800, .inr (.inl (tg_sh4L kt (100 * si) (z - 1))))), (m15, .inl (ty 0, 800, .inl (tg_sh4I kl (100 * si) (z - 1)))), (m16, .inl (ty 1, 800, .inr (.inl (tg_sh4L kv (100 * si) (z - 1)))))]) rfl (fun H locs hP hD hS => ?_)
        exact hret _ _ 183 _ () hP hD hS dX3_drop_183
      · skip
        refine lv_aload_n hx hb dX3_drop_22 rfl (lv_at hl 0 rfl) ?_
        refine va_get (D := D) (ci := 3) (v := .ref m8) (C := RX3) (T := TX3) (N := 32) hx hb hts hinX3 hown hK hP 0 rfl rfl 8 (by decide) (hts (.fieldLink RX3 30 "TreeGossipModel" "kinds" "[I") (by decide +kernel)) (fun _ h9 => h9) rfl dX3_drop_23 ?_
        refine lv_iload_n hx hb dX3_drop_26 rfl (lv_at hl 2 rfl) ?_
        refine lv_aload_n hx hb dX3_drop_27 rfl (lv_at hl 0 rfl) ?_
        refine va_get (D := D) (ci := 3) (v := .ref m8) (C := RX3) (T := TX3) (N := 32) hx hb hts hinX3 hown hK hP 0 rfl rfl 8 (by decide) (hts (.fieldLink RX3 30 "TreeGossipModel" "kinds" "[I") (by decide +kernel)) (fun _ h9 => h9) rfl dX3_drop_28 ?_
        refine lv_iload_n hx hb dX3_drop_31 rfl (lv_at hl 2 rfl) ?_
        refine lv_iconst (v := nI (1)) hx hb dX3_drop_32 (by decide) ?_
        refine lv_iadd hx hb dX3_drop_33 ?_
        refine tg_vi (nI_add _ _) ?_
        refine tg_iald hx hb hK hP 2 rfl (f := tg_shI ki (100 * si) i) (k := (100 * si + i) + 1) (by omega) (by decide) dX3_drop_34 ?_
        refine tg_iast hx hb hK hP hD hS 2 rfl (k := 100 * si + i) (by omega) (by decide) dX3_drop_35 (ws' := [(m0, .inr (3, [.int (cd), .ref m1, .ref m2, .ref m3, .ref m4, .ref m5, .long (hh), .ref m7, .ref m8, .ref m9, .ref m10, .ref m11, .ref m12, .ref m13, .ref m14, .ref m15, .ref m16, .ref m17, .int (mn), .ref m19, .ref m20, .ref m21, .ref m22, .int (c0), .int (c1), .int (c2), .ref m26, .int (gm), .ref m28, .ref m29, .ref m30, .ref m31])), (m7, .inl (ty 0, 2, .inl cn)), (m8, .inl (ty 0, 200, .inl (upd (tg_shI ki (100 * si) i) (100 * si + i) ((tg_shI ki (100 * si) i) ((100 * si + i) + 1))))), (m9, .inl (ty 0, 200, .inl (tg_shI lv (100 * si) i))), (m10, .inl (ty 0, 200, .inl (tg_shI no (100 * si) i))), (m11, .inl (ty 1, 800, .inr (.inl (tg_sh4L ls1 (100 * si) i)))), (m12, .inl (ty 0, 200, .inl (tg_shI my (100 * si) i))), (m13, .inl (ty 0, 800, .inl (tg_sh4I ks (100 * si) i))), (m14, .inl (ty 1, 800, .inr (.inl (tg_sh4L kt (100 * si) i)))), (m15, .inl (ty 0, 800, .inl (tg_sh4I kl (100 * si) i))), (m16, .inl (ty 1, 800, .inr (.inl (tg_sh4L kv (100 * si) i))))]) rfl (fun H locs hP hD hS => ?_)
        refine lv_aload_n hx hb dX3_drop_36 rfl (lv_at hl 0 rfl) ?_
        refine va_get (D := D) (ci := 3) (v := .ref m9) (C := RX3) (T := TX3) (N := 32) hx hb hts hinX3 hown hK hP 0 rfl rfl 9 (by decide) (hts (.fieldLink RX3 33 "TreeGossipModel" "levels" "[I") (by decide +kernel)) (fun _ h9 => h9) rfl dX3_drop_37 ?_
        refine lv_iload_n hx hb dX3_drop_40 rfl (lv_at hl 2 rfl) ?_
        refine lv_aload_n hx hb dX3_drop_41 rfl (lv_at hl 0 rfl) ?_
        refine va_get (D := D) (ci := 3) (v := .ref m9) (C := RX3) (T := TX3) (N := 32) hx hb hts hinX3 hown hK hP 0 rfl rfl 9 (by decide) (hts (.fieldLink RX3 33 "TreeGossipModel" "levels" "[I") (by decide +kernel)) (fun _ h9 => h9) rfl dX3_drop_42 ?_
        refine lv_iload_n hx hb dX3_drop_45 rfl (lv_at hl 2 rfl) ?_
        refine lv_iconst (v := nI (1)) hx hb dX3_drop_46 (by decide) ?_
        refine lv_iadd hx hb dX3_drop_47 ?_
        refine tg_vi (nI_add _ _) ?_
        refine tg_iald hx hb hK hP 3 rfl (f := tg_shI lv (100 * si) i) (k := (100 * si + i) + 1) (by omega) (by decide) dX3_drop_48 ?_
        refine tg_iast hx hb hK hP hD hS 3 rfl (k := 100 * si + i) (by omega) (by decide) dX3_drop_49 (ws' := [(m0, .inr (3, [.int (cd), .ref m1, .ref m2, .ref m3, .ref m4, .ref m5, .long (hh), .ref m7, .ref m8, .ref m9, .ref m10, .ref m11, .ref m12, .ref m13, .ref m14, .ref m15, .ref m16, .ref m17, .int (mn), .ref m19, .ref m20, .ref m21, .ref m22, .int (c0), .int (c1), .int (c2), .ref m26, .int (gm), .ref m28, .ref m29, .ref m30, .ref m31])), (m7, .inl (ty 0, 2, .inl cn)), (m8, .inl (ty 0, 200, .inl (upd (tg_shI ki (100 * si) i) (100 * si + i) ((tg_shI ki (100 * si) i) ((100 * si + i) + 1))))), (m9, .inl (ty 0, 200, .inl (upd (tg_shI lv (100 * si) i) (100 * si + i) ((tg_shI lv (100 * si) i) ((100 * si + i) + 1))))), (m10, .inl (ty 0, 200, .inl (tg_shI no (100 * si) i))), (m11, .inl (ty 1, 800, .inr (.inl (tg_sh4L ls1 (100 * si) i)))), (m12, .inl (ty 0, 200, .inl (tg_shI my (100 * si) i))), (m13, .inl (ty 0, 800, .inl (tg_sh4I ks (100 * si) i))), (m14, .inl (ty 1, 800, .inr (.inl (tg_sh4L kt (100 * si) i)))), (m15, .inl (ty 0, 800, .inl (tg_sh4I kl (100 * si) i))), (m16, .inl (ty 1, 800, .inr (.inl (tg_sh4L kv (100 * si) i))))]) rfl (fun H locs hP hD hS => ?_)
        refine lv_aload_n hx hb dX3_drop_50 rfl (lv_at hl 0 rfl) ?_
        refine va_get (D := D) (ci := 3) (v := .ref m10) (C := RX3) (T := TX3) (N := 32) hx hb hts hinX3 hown hK hP 0 rfl rfl 10 (by decide) (hts (.fieldLink RX3 36 "TreeGossipModel" "nodes" "[I") (by decide +kernel)) (fun _ h9 => h9) rfl dX3_drop_51 ?_
        refine lv_iload_n hx hb dX3_drop_54 rfl (lv_at hl 2 rfl) ?_
        refine lv_aload_n hx hb dX3_drop_55 rfl (lv_at hl 0 rfl) ?_
        refine va_get (D := D) (ci := 3) (v := .ref m10) (C := RX3) (T := TX3) (N := 32) hx hb hts hinX3 hown hK hP 0 rfl rfl 10 (by decide) (hts (.fieldLink RX3 36 "TreeGossipModel" "nodes" "[I") (by decide +kernel)) (fun _ h9 => h9) rfl dX3_drop_56 ?_
        refine lv_iload_n hx hb dX3_drop_59 rfl (lv_at hl 2 rfl) ?_
        refine lv_iconst (v := nI (1)) hx hb dX3_drop_60 (by decide) ?_
        refine lv_iadd hx hb dX3_drop_61 ?_
        refine tg_vi (nI_add _ _) ?_
        refine tg_iald hx hb hK hP 4 rfl (f := tg_shI no (100 * si) i) (k := (100 * si + i) + 1) (by omega) (by decide) dX3_drop_62 ?_
        refine tg_iast hx hb hK hP hD hS 4 rfl (k := 100 * si + i) (by omega) (by decide) dX3_drop_63 (ws' := [(m0, .inr (3, [.int (cd), .ref m1, .ref m2, .ref m3, .ref m4, .ref m5, .long (hh), .ref m7, .ref m8, .ref m9, .ref m10, .ref m11, .ref m12, .ref m13, .ref m14, .ref m15, .ref m16, .ref m17, .int (mn), .ref m19, .ref m20, .ref m21, .ref m22, .int (c0), .int (c1), .int (c2), .ref m26, .int (gm), .ref m28, .ref m29, .ref m30, .ref m31])), (m7, .inl (ty 0, 2, .inl cn)), (m8, .inl (ty 0, 200, .inl (upd (tg_shI ki (100 * si) i) (100 * si + i) ((tg_shI ki (100 * si) i) ((100 * si + i) + 1))))), (m9, .inl (ty 0, 200, .inl (upd (tg_shI lv (100 * si) i) (100 * si + i) ((tg_shI lv (100 * si) i) ((100 * si + i) + 1))))), (m10, .inl (ty 0, 200, .inl (upd (tg_shI no (100 * si) i) (100 * si + i) ((tg_shI no (100 * si) i) ((100 * si + i) + 1))))), (m11, .inl (ty 1, 800, .inr (.inl (tg_sh4L ls1 (100 * si) i)))), (m12, .inl (ty 0, 200, .inl (tg_shI my (100 * si) i))), (m13, .inl (ty 0, 800, .inl (tg_sh4I ks (100 * si) i))), (m14, .inl (ty 1, 800, .inr (.inl (tg_sh4L kt (100 * si) i)))), (m15, .inl (ty 0, 800, .inl (tg_sh4I kl (100 * si) i))), (m16, .inl (ty 1, 800, .inr (.inl (tg_sh4L kv (100 * si) i))))]) rfl (fun H locs hP hD hS => ?_)
        refine lv_aload_n hx hb dX3_drop_64 rfl (lv_at hl 0 rfl) ?_
        refine va_get (D := D) (ci := 3) (v := .ref m12) (C := RX3) (T := TX3) (N := 32) hx hb hts hinX3 hown hK hP 0 rfl rfl 12 (by decide) (hts (.fieldLink RX3 42 "TreeGossipModel" "manys" "[I") (by decide +kernel)) (fun _ h9 => h9) rfl dX3_drop_65 ?_
        refine lv_iload_n hx hb dX3_drop_68 rfl (lv_at hl 2 rfl) ?_
        refine lv_aload_n hx hb dX3_drop_69 rfl (lv_at hl 0 rfl) ?_
        refine va_get (D := D) (ci := 3) (v := .ref m12) (C := RX3) (T := TX3) (N := 32) hx hb hts hinX3 hown hK hP 0 rfl rfl 12 (by decide) (hts (.fieldLink RX3 42 "TreeGossipModel" "manys" "[I") (by decide +kernel)) (fun _ h9 => h9) rfl dX3_drop_70 ?_
        refine lv_iload_n hx hb dX3_drop_73 rfl (lv_at hl 2 rfl) ?_
        refine lv_iconst (v := nI (1)) hx hb dX3_drop_74 (by decide) ?_
        refine lv_iadd hx hb dX3_drop_75 ?_
        refine tg_vi (nI_add _ _) ?_
        refine tg_iald hx hb hK hP 6 rfl (f := tg_shI my (100 * si) i) (k := (100 * si + i) + 1) (by omega) (by decide) dX3_drop_76 ?_
        refine tg_iast hx hb hK hP hD hS 6 rfl (k := 100 * si + i) (by omega) (by decide) dX3_drop_77 (ws' := [(m0, .inr (3, [.int (cd), .ref m1, .ref m2, .ref m3, .ref m4, .ref m5, .long (hh), .ref m7, .ref m8, .ref m9, .ref m10, .ref m11, .ref m12, .ref m13, .ref m14, .ref m15, .ref m16, .ref m17, .int (mn), .ref m19, .ref m20, .ref m21, .ref m22, .int (c0), .int (c1), .int (c2), .ref m26, .int (gm), .ref m28, .ref m29, .ref m30, .ref m31])), (m7, .inl (ty 0, 2, .inl cn)), (m8, .inl (ty 0, 200, .inl (upd (tg_shI ki (100 * si) i) (100 * si + i) ((tg_shI ki (100 * si) i) ((100 * si + i) + 1))))), (m9, .inl (ty 0, 200, .inl (upd (tg_shI lv (100 * si) i) (100 * si + i) ((tg_shI lv (100 * si) i) ((100 * si + i) + 1))))), (m10, .inl (ty 0, 200, .inl (upd (tg_shI no (100 * si) i) (100 * si + i) ((tg_shI no (100 * si) i) ((100 * si + i) + 1))))), (m11, .inl (ty 1, 800, .inr (.inl (tg_sh4L ls1 (100 * si) i)))), (m12, .inl (ty 0, 200, .inl (upd (tg_shI my (100 * si) i) (100 * si + i) ((tg_shI my (100 * si) i) ((100 * si + i) + 1))))), (m13, .inl (ty 0, 800, .inl (tg_sh4I ks (100 * si) i))), (m14, .inl (ty 1, 800, .inr (.inl (tg_sh4L kt (100 * si) i)))), (m15, .inl (ty 0, 800, .inl (tg_sh4I kl (100 * si) i))), (m16, .inl (ty 1, 800, .inr (.inl (tg_sh4L kv (100 * si) i))))]) rfl (fun H locs hP hD hS => ?_)
        refine lv_iconst (v := nI (4)) hx hb dX3_drop_78 (by decide) ?_
        refine lv_iload_n hx hb dX3_drop_79 rfl (lv_at hl 2 rfl) ?_
        refine lv_imul hx hb dX3_drop_80 ?_
        refine tg_vi (pk_mul _ _) ?_
        refine lv_istore_n (lv' := [(3, .int (nI (4 * (100 * si + i)))), (0, .ref m0), (1, .int (nI (si))), (2, .int (nI (100 * si + i)))]) hx hb dX3_drop_81 rfl hl (by decide) rfl (fun ls hl => ?_)
        have hL82 : ∀ (n82 j : Nat) , j ≤ 4 → 4 + 1 ≤ j + n82 → ∀ (H : Heap) (locs : List Loc) (ls : Array Slot), va_P D vwCl [(m0, .inr (3, [.int (cd), .ref m1, .ref m2, .ref m3, .ref m4, .ref m5, .long (hh), .ref m7, .ref m8, .ref m9, .ref m10, .ref m11, .ref m12, .ref m13, .ref m14, .ref m15, .ref m16, .ref m17, .int (mn), .ref m19, .ref m20, .ref m21, .ref m22, .int (c0), .int (c1), .int (c2), .ref m26, .int (gm), .ref m28, .ref m29, .ref m30, .ref m31])), (m7, .inl (ty 0, 2, .inl cn)), (m8, .inl (ty 0, 200, .inl (upd (tg_shI ki (100 * si) i) (100 * si + i) ((tg_shI ki (100 * si) i) ((100 * si + i) + 1))))), (m9, .inl (ty 0, 200, .inl (upd (tg_shI lv (100 * si) i) (100 * si + i) ((tg_shI lv (100 * si) i) ((100 * si + i) + 1))))), (m10, .inl (ty 0, 200, .inl (upd (tg_shI no (100 * si) i) (100 * si + i) ((tg_shI no (100 * si) i) ((100 * si + i) + 1))))), (m11, .inl (ty 1, 800, .inr (.inl (tg_s4L (tg_sh4L ls1 (100 * si) i) (4 * (100 * si + i)) j)))), (m12, .inl (ty 0, 200, .inl (upd (tg_shI my (100 * si) i) (100 * si + i) ((tg_shI my (100 * si) i) ((100 * si + i) + 1))))), (m13, .inl (ty 0, 800, .inl (tg_s4I (tg_sh4I ks (100 * si) i) (4 * (100 * si + i)) j))), (m14, .inl (ty 1, 800, .inr (.inl (tg_s4L (tg_sh4L kt (100 * si) i) (4 * (100 * si + i)) j)))), (m15, .inl (ty 0, 800, .inl (tg_s4I (tg_sh4I kl (100 * si) i) (4 * (100 * si + i)) j))), (m16, .inl (ty 1, 800, .inr (.inl (tg_s4L (tg_sh4L kv (100 * si) i) (4 * (100 * si + i)) j))))] H → va_D AA [(m0, .inr (3, [.int (cd), .ref m1, .ref m2, .ref m3, .ref m4, .ref m5, .long (hh), .ref m7, .ref m8, .ref m9, .ref m10, .ref m11, .ref m12, .ref m13, .ref m14, .ref m15, .ref m16, .ref m17, .int (mn), .ref m19, .ref m20, .ref m21, .ref m22, .int (c0), .int (c1), .int (c2), .ref m26, .int (gm), .ref m28, .ref m29, .ref m30, .ref m31])), (m7, .inl (ty 0, 2, .inl cn)), (m8, .inl (ty 0, 200, .inl (upd (tg_shI ki (100 * si) i) (100 * si + i) ((tg_shI ki (100 * si) i) ((100 * si + i) + 1))))), (m9, .inl (ty 0, 200, .inl (upd (tg_shI lv (100 * si) i) (100 * si + i) ((tg_shI lv (100 * si) i) ((100 * si + i) + 1))))), (m10, .inl (ty 0, 200, .inl (upd (tg_shI no (100 * si) i) (100 * si + i) ((tg_shI no (100 * si) i) ((100 * si + i) + 1))))), (m11, .inl (ty 1, 800, .inr (.inl (tg_s4L (tg_sh4L ls1 (100 * si) i) (4 * (100 * si + i)) j)))), (m12, .inl (ty 0, 200, .inl (upd (tg_shI my (100 * si) i) (100 * si + i) ((tg_shI my (100 * si) i) ((100 * si + i) + 1))))), (m13, .inl (ty 0, 800, .inl (tg_s4I (tg_sh4I ks (100 * si) i) (4 * (100 * si + i)) j))), (m14, .inl (ty 1, 800, .inr (.inl (tg_s4L (tg_sh4L kt (100 * si) i) (4 * (100 * si + i)) j)))), (m15, .inl (ty 0, 800, .inl (tg_s4I (tg_sh4I kl (100 * si) i) (4 * (100 * si + i)) j))), (m16, .inl (ty 1, 800, .inr (.inl (tg_s4L (tg_sh4L kv (100 * si) i) (4 * (100 * si + i)) j))))] → va_S AA ss.heap H locs → lv_has ls 4 [(0, .ref m0), (1, .int (nI (si))), (2, .int (nI (100 * si + i))), (3, .int (nI (4 * (100 * si + i) + j)))] → W pp l ee rmk_X3_drop ss mm args below meth cc H locs 0 0 QQ (F0 mm 82 ls []) := by
          intro n82
          induction n82 with
          | zero => intro j  h1 h2; omega
          | succ n82 ih82 =>
            intro j  hi82 hn82  H locs ls hP hD hS hl
            refine lv_iload_n hx hb dX3_drop_82 rfl (lv_at hl 3 rfl) ?_
            refine lv_iconst (v := nI (4)) hx hb dX3_drop_83 (by decide) ?_
            refine lv_iload_n hx hb dX3_drop_84 rfl (lv_at hl 2 rfl) ?_
            refine lv_imul hx hb dX3_drop_85 ?_
            refine tg_vi (pk_mul _ _) ?_
            refine lv_iconst (v := nI (4)) hx hb dX3_drop_86 (by decide) ?_
            refine lv_iadd hx hb dX3_drop_87 ?_
            refine tg_vi (nI_add _ _) ?_
            refine tg_ge (tgt := 167) hx hb dX3_drop_88 (by decide) (by omega) (by omega) (fun c88_2 => ?_) (fun c88_2 => ?_)
            · skip
              obtain rfl : 4 = j := by omega
              refine lv_iinc (v := nI ((100 * si + i) + 1)) (lv' := [(2, .int (nI ((100 * si + i) + 1))), (0, .ref m0), (1, .int (nI (si))), (3, .int (nI (4 * (100 * si + i) + 4)))]) hx hb dX3_drop_167 hl (k := 2) rfl (tg_inc1 _) (by decide) rfl (fun ls hl => ?_)
              refine lv_goto (tgt := 5) hx hb dX3_drop_170 (by decide) ?_
              exact ih5 (i + 1) (by omega) (by omega)  _ _ _ hP hD hS (lv_sub hl [1, 2, 0] rfl)
            · skip
              refine lv_aload_n hx hb dX3_drop_91 rfl (lv_at hl 0 rfl) ?_
              refine va_get (D := D) (ci := 3) (v := .ref m11) (C := RX3) (T := TX3) (N := 32) hx hb hts hinX3 hown hK hP 0 rfl rfl 11 (by decide) (hts (.fieldLink RX3 39 "TreeGossipModel" "lists" "[J") (by decide +kernel)) (fun _ h9 => h9) rfl dX3_drop_92 ?_
              refine lv_iload_n hx hb dX3_drop_95 rfl (lv_at hl 3 rfl) ?_
              refine lv_aload_n hx hb dX3_drop_96 rfl (lv_at hl 0 rfl) ?_
              refine va_get (D := D) (ci := 3) (v := .ref m11) (C := RX3) (T := TX3) (N := 32) hx hb hts hinX3 hown hK hP 0 rfl rfl 11 (by decide) (hts (.fieldLink RX3 39 "TreeGossipModel" "lists" "[J") (by decide +kernel)) (fun _ h9 => h9) rfl dX3_drop_97 ?_
              refine lv_iload_n hx hb dX3_drop_100 rfl (lv_at hl 3 rfl) ?_
              refine lv_iconst (v := nI (4)) hx hb dX3_drop_101 (by decide) ?_
              refine lv_iadd hx hb dX3_drop_102 ?_
              refine tg_vi (nI_add _ _) ?_
              refine tg_lald hx hb hK hP 5 rfl (f := tg_s4L (tg_sh4L ls1 (100 * si) i) (4 * (100 * si + i)) j) (k := (4 * (100 * si + i) + j) + 4) (by omega) (by decide) dX3_drop_103 ?_
              refine tg_last hx hb hK hP hD hS 5 rfl (k := 4 * (100 * si + i) + j) (by omega) (by decide) dX3_drop_104 (ws' := [(m0, .inr (3, [.int (cd), .ref m1, .ref m2, .ref m3, .ref m4, .ref m5, .long (hh), .ref m7, .ref m8, .ref m9, .ref m10, .ref m11, .ref m12, .ref m13, .ref m14, .ref m15, .ref m16, .ref m17, .int (mn), .ref m19, .ref m20, .ref m21, .ref m22, .int (c0), .int (c1), .int (c2), .ref m26, .int (gm), .ref m28, .ref m29, .ref m30, .ref m31])), (m7, .inl (ty 0, 2, .inl cn)), (m8, .inl (ty 0, 200, .inl (upd (tg_shI ki (100 * si) i) (100 * si + i) ((tg_shI ki (100 * si) i) ((100 * si + i) + 1))))), (m9, .inl (ty 0, 200, .inl (upd (tg_shI lv (100 * si) i) (100 * si + i) ((tg_shI lv (100 * si) i) ((100 * si + i) + 1))))), (m10, .inl (ty 0, 200, .inl (upd (tg_shI no (100 * si) i) (100 * si + i) ((tg_shI no (100 * si) i) ((100 * si + i) + 1))))), (m11, .inl (ty 1, 800, .inr (.inl (vp_updL (tg_s4L (tg_sh4L ls1 (100 * si) i) (4 * (100 * si + i)) j) (4 * (100 * si + i) + j) ((tg_s4L (tg_sh4L ls1 (100 * si) i) (4 * (100 * si + i)) j) ((4 * (100 * si + i) + j) + 4)))))), (m12, .inl (ty 0, 200, .inl (upd (tg_shI my (100 * si) i) (100 * si + i) ((tg_shI my (100 * si) i) ((100 * si + i) + 1))))), (m13, .inl (ty 0, 800, .inl (tg_s4I (tg_sh4I ks (100 * si) i) (4 * (100 * si + i)) j))), (m14, .inl (ty 1, 800, .inr (.inl (tg_s4L (tg_sh4L kt (100 * si) i) (4 * (100 * si + i)) j)))), (m15, .inl (ty 0, 800, .inl (tg_s4I (tg_sh4I kl (100 * si) i) (4 * (100 * si + i)) j))), (m16, .inl (ty 1, 800, .inr (.inl (tg_s4L (tg_sh4L kv (100 * si) i) (4 * (100 * si + i)) j))))]) rfl (fun H locs hP hD hS => ?_)
              refine lv_aload_n hx hb dX3_drop_105 rfl (lv_at hl 0 rfl) ?_
              refine va_get (D := D) (ci := 3) (v := .ref m13) (C := RX3) (T := TX3) (N := 32) hx hb hts hinX3 hown hK hP 0 rfl rfl 13 (by decide) (hts (.fieldLink RX3 45 "TreeGossipModel" "keys" "[I") (by decide +kernel)) (fun _ h9 => h9) rfl dX3_drop_106 ?_
              refine lv_iload_n hx hb dX3_drop_109 rfl (lv_at hl 3 rfl) ?_
              refine lv_aload_n hx hb dX3_drop_110 rfl (lv_at hl 0 rfl) ?_
              refine va_get (D := D) (ci := 3) (v := .ref m13) (C := RX3) (T := TX3) (N := 32) hx hb hts hinX3 hown hK hP 0 rfl rfl 13 (by decide) (hts (.fieldLink RX3 45 "TreeGossipModel" "keys" "[I") (by decide +kernel)) (fun _ h9 => h9) rfl dX3_drop_111 ?_
              refine lv_iload_n hx hb dX3_drop_114 rfl (lv_at hl 3 rfl) ?_
              refine lv_iconst (v := nI (4)) hx hb dX3_drop_115 (by decide) ?_
              refine lv_iadd hx hb dX3_drop_116 ?_
              refine tg_vi (nI_add _ _) ?_
              refine tg_iald hx hb hK hP 7 rfl (f := tg_s4I (tg_sh4I ks (100 * si) i) (4 * (100 * si + i)) j) (k := (4 * (100 * si + i) + j) + 4) (by omega) (by decide) dX3_drop_117 ?_
              refine tg_iast hx hb hK hP hD hS 7 rfl (k := 4 * (100 * si + i) + j) (by omega) (by decide) dX3_drop_118 (ws' := [(m0, .inr (3, [.int (cd), .ref m1, .ref m2, .ref m3, .ref m4, .ref m5, .long (hh), .ref m7, .ref m8, .ref m9, .ref m10, .ref m11, .ref m12, .ref m13, .ref m14, .ref m15, .ref m16, .ref m17, .int (mn), .ref m19, .ref m20, .ref m21, .ref m22, .int (c0), .int (c1), .int (c2), .ref m26, .int (gm), .ref m28, .ref m29, .ref m30, .ref m31])), (m7, .inl (ty 0, 2, .inl cn)), (m8, .inl (ty 0, 200, .inl (upd (tg_shI ki (100 * si) i) (100 * si + i) ((tg_shI ki (100 * si) i) ((100 * si + i) + 1))))), (m9, .inl (ty 0, 200, .inl (upd (tg_shI lv (100 * si) i) (100 * si + i) ((tg_shI lv (100 * si) i) ((100 * si + i) + 1))))), (m10, .inl (ty 0, 200, .inl (upd (tg_shI no (100 * si) i) (100 * si + i) ((tg_shI no (100 * si) i) ((100 * si + i) + 1))))), (m11, .inl (ty 1, 800, .inr (.inl (vp_updL (tg_s4L (tg_sh4L ls1 (100 * si) i) (4 * (100 * si + i)) j) (4 * (100 * si + i) + j) ((tg_s4L (tg_sh4L ls1 (100 * si) i) (4 * (100 * si + i)) j) ((4 * (100 * si + i) + j) + 4)))))), (m12, .inl (ty 0, 200, .inl (upd (tg_shI my (100 * si) i) (100 * si + i) ((tg_shI my (100 * si) i) ((100 * si + i) + 1))))), (m13, .inl (ty 0, 800, .inl (upd (tg_s4I (tg_sh4I ks (100 * si) i) (4 * (100 * si + i)) j) (4 * (100 * si + i) + j) ((tg_s4I (tg_sh4I ks (100 * si) i) (4 * (100 * si + i)) j) ((4 * (100 * si + i) + j) + 4))))), (m14, .inl (ty 1, 800, .inr (.inl (tg_s4L (tg_sh4L kt (100 * si) i) (4 * (100 * si + i)) j)))), (m15, .inl (ty 0, 800, .inl (tg_s4I (tg_sh4I kl (100 * si) i) (4 * (100 * si + i)) j))), (m16, .inl (ty 1, 800, .inr (.inl (tg_s4L (tg_sh4L kv (100 * si) i) (4 * (100 * si + i)) j))))]) rfl (fun H locs hP hD hS => ?_)
              refine lv_aload_n hx hb dX3_drop_119 rfl (lv_at hl 0 rfl) ?_
              refine va_get (D := D) (ci := 3) (v := .ref m14) (C := RX3) (T := TX3) (N := 32) hx hb hts hinX3 hown hK hP 0 rfl rfl 14 (by decide) (hts (.fieldLink RX3 48 "TreeGossipModel" "keyStamps" "[J") (by decide +kernel)) (fun _ h9 => h9) rfl dX3_drop_120 ?_
              refine lv_iload_n hx hb dX3_drop_123 rfl (lv_at hl 3 rfl) ?_
              refine lv_aload_n hx hb dX3_drop_124 rfl (lv_at hl 0 rfl) ?_
              refine va_get (D := D) (ci := 3) (v := .ref m14) (C := RX3) (T := TX3) (N := 32) hx hb hts hinX3 hown hK hP 0 rfl rfl 14 (by decide) (hts (.fieldLink RX3 48 "TreeGossipModel" "keyStamps" "[J") (by decide +kernel)) (fun _ h9 => h9) rfl dX3_drop_125 ?_
              refine lv_iload_n hx hb dX3_drop_128 rfl (lv_at hl 3 rfl) ?_
              refine lv_iconst (v := nI (4)) hx hb dX3_drop_129 (by decide) ?_
              refine lv_iadd hx hb dX3_drop_130 ?_
              refine tg_vi (nI_add _ _) ?_
              refine tg_lald hx hb hK hP 8 rfl (f := tg_s4L (tg_sh4L kt (100 * si) i) (4 * (100 * si + i)) j) (k := (4 * (100 * si + i) + j) + 4) (by omega) (by decide) dX3_drop_131 ?_
              refine tg_last hx hb hK hP hD hS 8 rfl (k := 4 * (100 * si + i) + j) (by omega) (by decide) dX3_drop_132 (ws' := [(m0, .inr (3, [.int (cd), .ref m1, .ref m2, .ref m3, .ref m4, .ref m5, .long (hh), .ref m7, .ref m8, .ref m9, .ref m10, .ref m11, .ref m12, .ref m13, .ref m14, .ref m15, .ref m16, .ref m17, .int (mn), .ref m19, .ref m20, .ref m21, .ref m22, .int (c0), .int (c1), .int (c2), .ref m26, .int (gm), .ref m28, .ref m29, .ref m30, .ref m31])), (m7, .inl (ty 0, 2, .inl cn)), (m8, .inl (ty 0, 200, .inl (upd (tg_shI ki (100 * si) i) (100 * si + i) ((tg_shI ki (100 * si) i) ((100 * si + i) + 1))))), (m9, .inl (ty 0, 200, .inl (upd (tg_shI lv (100 * si) i) (100 * si + i) ((tg_shI lv (100 * si) i) ((100 * si + i) + 1))))), (m10, .inl (ty 0, 200, .inl (upd (tg_shI no (100 * si) i) (100 * si + i) ((tg_shI no (100 * si) i) ((100 * si + i) + 1))))), (m11, .inl (ty 1, 800, .inr (.inl (vp_updL (tg_s4L (tg_sh4L ls1 (100 * si) i) (4 * (100 * si + i)) j) (4 * (100 * si + i) + j) ((tg_s4L (tg_sh4L ls1 (100 * si) i) (4 * (100 * si + i)) j) ((4 * (100 * si + i) + j) + 4)))))), (m12, .inl (ty 0, 200, .inl (upd (tg_shI my (100 * si) i) (100 * si + i) ((tg_shI my (100 * si) i) ((100 * si + i) + 1))))), (m13, .inl (ty 0, 800, .inl (upd (tg_s4I (tg_sh4I ks (100 * si) i) (4 * (100 * si + i)) j) (4 * (100 * si + i) + j) ((tg_s4I (tg_sh4I ks (100 * si) i) (4 * (100 * si + i)) j) ((4 * (100 * si + i) + j) + 4))))), (m14, .inl (ty 1, 800, .inr (.inl (vp_updL (tg_s4L (tg_sh4L kt (100 * si) i) (4 * (100 * si + i)) j) (4 * (100 * si + i) + j) ((tg_s4L (tg_sh4L kt (100 * si) i) (4 * (100 * si + i)) j) ((4 * (100 * si + i) + j) + 4)))))), (m15, .inl (ty 0, 800, .inl (tg_s4I (tg_sh4I kl (100 * si) i) (4 * (100 * si + i)) j))), (m16, .inl (ty 1, 800, .inr (.inl (tg_s4L (tg_sh4L kv (100 * si) i) (4 * (100 * si + i)) j))))]) rfl (fun H locs hP hD hS => ?_)
              refine lv_aload_n hx hb dX3_drop_133 rfl (lv_at hl 0 rfl) ?_
              refine va_get (D := D) (ci := 3) (v := .ref m15) (C := RX3) (T := TX3) (N := 32) hx hb hts hinX3 hown hK hP 0 rfl rfl 15 (by decide) (hts (.fieldLink RX3 51 "TreeGossipModel" "keyLengths" "[I") (by decide +kernel)) (fun _ h9 => h9) rfl dX3_drop_134 ?_
              refine lv_iload_n hx hb dX3_drop_137 rfl (lv_at hl 3 rfl) ?_
              refine lv_aload_n hx hb dX3_drop_138 rfl (lv_at hl 0 rfl) ?_
              refine va_get (D := D) (ci := 3) (v := .ref m15) (C := RX3) (T := TX3) (N := 32) hx hb hts hinX3 hown hK hP 0 rfl rfl 15 (by decide) (hts (.fieldLink RX3 51 "TreeGossipModel" "keyLengths" "[I") (by decide +kernel)) (fun _ h9 => h9) rfl dX3_drop_139 ?_
              refine lv_iload_n hx hb dX3_drop_142 rfl (lv_at hl 3 rfl) ?_
              refine lv_iconst (v := nI (4)) hx hb dX3_drop_143 (by decide) ?_
              refine lv_iadd hx hb dX3_drop_144 ?_
              refine tg_vi (nI_add _ _) ?_
              refine tg_iald hx hb hK hP 9 rfl (f := tg_s4I (tg_sh4I kl (100 * si) i) (4 * (100 * si + i)) j) (k := (4 * (100 * si + i) + j) + 4) (by omega) (by decide) dX3_drop_145 ?_
              refine tg_iast hx hb hK hP hD hS 9 rfl (k := 4 * (100 * si + i) + j) (by omega) (by decide) dX3_drop_146 (ws' := [(m0, .inr (3, [.int (cd), .ref m1, .ref m2, .ref m3, .ref m4, .ref m5, .long (hh), .ref m7, .ref m8, .ref m9, .ref m10, .ref m11, .ref m12, .ref m13, .ref m14, .ref m15, .ref m16, .ref m17, .int (mn), .ref m19, .ref m20, .ref m21, .ref m22, .int (c0), .int (c1), .int (c2), .ref m26, .int (gm), .ref m28, .ref m29, .ref m30, .ref m31])), (m7, .inl (ty 0, 2, .inl cn)), (m8, .inl (ty 0, 200, .inl (upd (tg_shI ki (100 * si) i) (100 * si + i) ((tg_shI ki (100 * si) i) ((100 * si + i) + 1))))), (m9, .inl (ty 0, 200, .inl (upd (tg_shI lv (100 * si) i) (100 * si + i) ((tg_shI lv (100 * si) i) ((100 * si + i) + 1))))), (m10, .inl (ty 0, 200, .inl (upd (tg_shI no (100 * si) i) (100 * si + i) ((tg_shI no (100 * si) i) ((100 * si + i) + 1))))), (m11, .inl (ty 1, 800, .inr (.inl (vp_updL (tg_s4L (tg_sh4L ls1 (100 * si) i) (4 * (100 * si + i)) j) (4 * (100 * si + i) + j) ((tg_s4L (tg_sh4L ls1 (100 * si) i) (4 * (100 * si + i)) j) ((4 * (100 * si + i) + j) + 4)))))), (m12, .inl (ty 0, 200, .inl (upd (tg_shI my (100 * si) i) (100 * si + i) ((tg_shI my (100 * si) i) ((100 * si + i) + 1))))), (m13, .inl (ty 0, 800, .inl (upd (tg_s4I (tg_sh4I ks (100 * si) i) (4 * (100 * si + i)) j) (4 * (100 * si + i) + j) ((tg_s4I (tg_sh4I ks (100 * si) i) (4 * (100 * si + i)) j) ((4 * (100 * si + i) + j) + 4))))), (m14, .inl (ty 1, 800, .inr (.inl (vp_updL (tg_s4L (tg_sh4L kt (100 * si) i) (4 * (100 * si + i)) j) (4 * (100 * si + i) + j) ((tg_s4L (tg_sh4L kt (100 * si) i) (4 * (100 * si + i)) j) ((4 * (100 * si + i) + j) + 4)))))), (m15, .inl (ty 0, 800, .inl (upd (tg_s4I (tg_sh4I kl (100 * si) i) (4 * (100 * si + i)) j) (4 * (100 * si + i) + j) ((tg_s4I (tg_sh4I kl (100 * si) i) (4 * (100 * si + i)) j) ((4 * (100 * si + i) + j) + 4))))), (m16, .inl (ty 1, 800, .inr (.inl (tg_s4L (tg_sh4L kv (100 * si) i) (4 * (100 * si + i)) j))))]) rfl (fun H locs hP hD hS => ?_)
              refine lv_aload_n hx hb dX3_drop_147 rfl (lv_at hl 0 rfl) ?_
              refine va_get (D := D) (ci := 3) (v := .ref m16) (C := RX3) (T := TX3) (N := 32) hx hb hts hinX3 hown hK hP 0 rfl rfl 16 (by decide) (hts (.fieldLink RX3 54 "TreeGossipModel" "keyValues" "[J") (by decide +kernel)) (fun _ h9 => h9) rfl dX3_drop_148 ?_
              refine lv_iload_n hx hb dX3_drop_151 rfl (lv_at hl 3 rfl) ?_
              refine lv_aload_n hx hb dX3_drop_152 rfl (lv_at hl 0 rfl) ?_
              refine va_get (D := D) (ci := 3) (v := .ref m16) (C := RX3) (T := TX3) (N := 32) hx hb hts hinX3 hown hK hP 0 rfl rfl 16 (by decide) (hts (.fieldLink RX3 54 "TreeGossipModel" "keyValues" "[J") (by decide +kernel)) (fun _ h9 => h9) rfl dX3_drop_153 ?_
              refine lv_iload_n hx hb dX3_drop_156 rfl (lv_at hl 3 rfl) ?_
              refine lv_iconst (v := nI (4)) hx hb dX3_drop_157 (by decide) ?_
              refine lv_iadd hx hb dX3_drop_158 ?_
              refine tg_vi (nI_add _ _) ?_
              refine tg_lald hx hb hK hP 10 rfl (f := tg_s4L (tg_sh4L kv (100 * si) i) (4 * (100 * si + i)) j) (k := (4 * (100 * si + i) + j) + 4) (by omega) (by decide) dX3_drop_159 ?_
              refine tg_last hx hb hK hP hD hS 10 rfl (k := 4 * (100 * si + i) + j) (by omega) (by decide) dX3_drop_160 (ws' := [(m0, .inr (3, [.int (cd), .ref m1, .ref m2, .ref m3, .ref m4, .ref m5, .long (hh), .ref m7, .ref m8, .ref m9, .ref m10, .ref m11, .ref m12, .ref m13, .ref m14, .ref m15, .ref m16, .ref m17, .int (mn), .ref m19, .ref m20, .ref m21, .ref m22, .int (c0), .int (c1), .int (c2), .ref m26, .int (gm), .ref m28, .ref m29, .ref m30, .ref m31])), (m7, .inl (ty 0, 2, .inl cn)), (m8, .inl (ty 0, 200, .inl (upd (tg_shI ki (100 * si) i) (100 * si + i) ((tg_shI ki (100 * si) i) ((100 * si + i) + 1))))), (m9, .inl (ty 0, 200, .inl (upd (tg_shI lv (100 * si) i) (100 * si + i) ((tg_shI lv (100 * si) i) ((100 * si + i) + 1))))), (m10, .inl (ty 0, 200, .inl (upd (tg_shI no (100 * si) i) (100 * si + i) ((tg_shI no (100 * si) i) ((100 * si + i) + 1))))), (m11, .inl (ty 1, 800, .inr (.inl (vp_updL (tg_s4L (tg_sh4L ls1 (100 * si) i) (4 * (100 * si + i)) j) (4 * (100 * si + i) + j) ((tg_s4L (tg_sh4L ls1 (100 * si) i) (4 * (100 * si + i)) j) ((4 * (100 * si + i) + j) + 4)))))), (m12, .inl (ty 0, 200, .inl (upd (tg_shI my (100 * si) i) (100 * si + i) ((tg_shI my (100 * si) i) ((100 * si + i) + 1))))), (m13, .inl (ty 0, 800, .inl (upd (tg_s4I (tg_sh4I ks (100 * si) i) (4 * (100 * si + i)) j) (4 * (100 * si + i) + j) ((tg_s4I (tg_sh4I ks (100 * si) i) (4 * (100 * si + i)) j) ((4 * (100 * si + i) + j) + 4))))), (m14, .inl (ty 1, 800, .inr (.inl (vp_updL (tg_s4L (tg_sh4L kt (100 * si) i) (4 * (100 * si + i)) j) (4 * (100 * si + i) + j) ((tg_s4L (tg_sh4L kt (100 * si) i) (4 * (100 * si + i)) j) ((4 * (100 * si + i) + j) + 4)))))), (m15, .inl (ty 0, 800, .inl (upd (tg_s4I (tg_sh4I kl (100 * si) i) (4 * (100 * si + i)) j) (4 * (100 * si + i) + j) ((tg_s4I (tg_sh4I kl (100 * si) i) (4 * (100 * si + i)) j) ((4 * (100 * si + i) + j) + 4))))), (m16, .inl (ty 1, 800, .inr (.inl (vp_updL (tg_s4L (tg_sh4L kv (100 * si) i) (4 * (100 * si + i)) j) (4 * (100 * si + i) + j) ((tg_s4L (tg_sh4L kv (100 * si) i) (4 * (100 * si + i)) j) ((4 * (100 * si + i) + j) + 4))))))]) rfl (fun H locs hP hD hS => ?_)
              refine lv_iinc (v := nI ((4 * (100 * si + i) + j) + 1)) (lv' := [(3, .int (nI ((4 * (100 * si + i) + j) + 1))), (0, .ref m0), (1, .int (nI (si))), (2, .int (nI (100 * si + i)))]) hx hb dX3_drop_161 hl (k := 3) rfl (tg_inc1 _) (by decide) rfl (fun ls hl => ?_)
              refine lv_goto (tgt := 82) hx hb dX3_drop_164 (by decide) ?_
              exact ih82 (j + 1) (by omega) (by omega)  _ _ _ hP hD hS (lv_sub hl [1, 2, 3, 0] rfl)
        exact hL82 (4 + 1) 0 (by omega) (by omega)  _ _ _ hP hD hS (lv_sub hl [1, 2, 3, 0] rfl)
  exact hL5 (z - 1 + 1) 0 (by omega) (by omega)  _ _ _ hP hD hS (lv_sub hl [1, 2, 0] rfl)
def rmk_X3_hand : Room := { frames := 0, cells := 0, slots := 0, locals := 0 }
theorem ink_X3_hand_X3 : ∀ w ∈ wsX30, w ∈ wsX3_hand := by decide +kernel
set_option maxHeartbeats 4000000 in
set_option maxRecDepth 100000 in
theorem k_X3_hand (l : Launch) (D : va_G) (ty : Nat → ClassId) (m0 : Nat) (m1 : Nat) (m2 : Nat) (m3 : Nat) (m4 : Nat) (m5 : Nat) (m7 : Nat) (m8 : Nat) (m9 : Nat) (m10 : Nat) (m11 : Nat) (m12 : Nat) (m13 : Nat) (m14 : Nat) (m15 : Nat) (m16 : Nat) (m17 : Nat) (m19 : Nat) (m20 : Nat) (m21 : Nat) (m22 : Nat) (m26 : Nat) (m28 : Nat) (m29 : Nat) (m30 : Nat) (m31 : Nat) (cd : Int32) (hh : Int64) (mn : Nat) (c0 : Int32) (c1 : Int32) (c2 : Int32) (gm : Int32) (ms : Nat → Int64) (ml : Nat → Int32) (mv : Nat → Int64) (hk : Nat → Int32) (hs : Nat → Int64) (hl1 : Nat → Int32) (hv1 : Nat → Int64) (ix : Nat) (hix : ix < 512) (hmn : mn < 4) : tg_Mv l yX3_hand wsX3_hand rmk_X3_hand D ty [.ref m0, .int (nI (ix))] [(m0, .inr (3, [.int (cd), .ref m1, .ref m2, .ref m3, .ref m4, .ref m5, .long (hh), .ref m7, .ref m8, .ref m9, .ref m10, .ref m11, .ref m12, .ref m13, .ref m14, .ref m15, .ref m16, .ref m17, .int (nI (mn)), .ref m19, .ref m20, .ref m21, .ref m22, .int (c0), .int (c1), .int (c2), .ref m26, .int (gm), .ref m28, .ref m29, .ref m30, .ref m31])), (m2, .inl (ty 1, 512, .inr (.inl ms))), (m3, .inl (ty 0, 512, .inl ml)), (m4, .inl (ty 1, 512, .inr (.inl mv))), (m19, .inl (ty 0, 4, .inl hk)), (m20, .inl (ty 1, 4, .inr (.inl hs))), (m21, .inl (ty 0, 4, .inl hl1)), (m22, .inl (ty 1, 4, .inr (.inl hv1)))] (fun _ : Unit => [(m0, .inr (3, [.int (cd), .ref m1, .ref m2, .ref m3, .ref m4, .ref m5, .long (hh), .ref m7, .ref m8, .ref m9, .ref m10, .ref m11, .ref m12, .ref m13, .ref m14, .ref m15, .ref m16, .ref m17, .int (nI (mn + 1)), .ref m19, .ref m20, .ref m21, .ref m22, .int (c0), .int (c1), .int (c2), .ref m26, .int (gm), .ref m28, .ref m29, .ref m30, .ref m31])), (m2, .inl (ty 1, 512, .inr (.inl ms))), (m3, .inl (ty 0, 512, .inl ml)), (m4, .inl (ty 1, 512, .inr (.inl mv))), (m19, .inl (ty 0, 4, .inl (upd hk mn (nI (ix % 256))))), (m20, .inl (ty 1, 4, .inr (.inl (vp_updL hs mn (ms ix))))), (m21, .inl (ty 0, 4, .inl (upd hl1 mn (ml ix)))), (m22, .inl (ty 1, 4, .inr (.inl (vp_updL hv1 mn (mv ix)))))]) 0 0 := by
  refine tg_start_v (cc := cX3_hand) (maxL := 2) (lvs := [(0, .ref m0), (1, .int (nI (ix)))]) (by decide) rfl (Nat.le_of_ble_eq_true rfl) rfl ?_
  intro pp ee ss mm args below meth cc AA ls QQ hx hb hr hts hown hlocks hml hnm hA hP hD hS hK hN hl hret
  have hinX3 := ink_X3_hand_X3
  refine lv_aload_n hx hb dX3_hand_0 rfl (lv_at hl 0 rfl) ?_
  refine va_get (D := D) (ci := 3) (v := .ref m19) (C := RX3) (T := TX3) (N := 32) hx hb hts hinX3 hown hK hP 0 rfl rfl 19 (by decide) (hts (.fieldLink RX3 60 "TreeGossipModel" "handKeys" "[I") (by decide +kernel)) (fun _ h9 => h9) rfl dX3_hand_1 ?_
  refine lv_aload_n hx hb dX3_hand_4 rfl (lv_at hl 0 rfl) ?_
  refine va_get (D := D) (ci := 3) (v := .int (nI (mn))) (C := RX3) (T := TX3) (N := 32) hx hb hts hinX3 hown hK hP 0 rfl rfl 18 (by decide) (hts (.fieldLink RX3 150 "TreeGossipModel" "many" "I") (by decide +kernel)) (fun _ h9 => h9) rfl dX3_hand_5 ?_
  refine lv_iload_n hx hb dX3_hand_8 rfl (lv_at hl 1 rfl) ?_
  refine lv_sipush (v := nI (256)) hx hb dX3_hand_9 (by decide) ?_
  refine lv_irem hx hb dX3_hand_12 (by decide) ?_
  refine tg_vi (pk_rem (by omega) (by omega) (by omega)) ?_
  refine tg_iast hx hb hK hP hD hS 4 rfl (k := mn) (by omega) (by decide) dX3_hand_13 (ws' := [(m0, .inr (3, [.int (cd), .ref m1, .ref m2, .ref m3, .ref m4, .ref m5, .long (hh), .ref m7, .ref m8, .ref m9, .ref m10, .ref m11, .ref m12, .ref m13, .ref m14, .ref m15, .ref m16, .ref m17, .int (nI (mn)), .ref m19, .ref m20, .ref m21, .ref m22, .int (c0), .int (c1), .int (c2), .ref m26, .int (gm), .ref m28, .ref m29, .ref m30, .ref m31])), (m2, .inl (ty 1, 512, .inr (.inl ms))), (m3, .inl (ty 0, 512, .inl ml)), (m4, .inl (ty 1, 512, .inr (.inl mv))), (m19, .inl (ty 0, 4, .inl (upd hk mn (nI (ix % 256))))), (m20, .inl (ty 1, 4, .inr (.inl hs))), (m21, .inl (ty 0, 4, .inl hl1)), (m22, .inl (ty 1, 4, .inr (.inl hv1)))]) rfl (fun H locs hP hD hS => ?_)
  refine lv_aload_n hx hb dX3_hand_14 rfl (lv_at hl 0 rfl) ?_
  refine va_get (D := D) (ci := 3) (v := .ref m20) (C := RX3) (T := TX3) (N := 32) hx hb hts hinX3 hown hK hP 0 rfl rfl 20 (by decide) (hts (.fieldLink RX3 63 "TreeGossipModel" "handStamps" "[J") (by decide +kernel)) (fun _ h9 => h9) rfl dX3_hand_15 ?_
  refine lv_aload_n hx hb dX3_hand_18 rfl (lv_at hl 0 rfl) ?_
  refine va_get (D := D) (ci := 3) (v := .int (nI (mn))) (C := RX3) (T := TX3) (N := 32) hx hb hts hinX3 hown hK hP 0 rfl rfl 18 (by decide) (hts (.fieldLink RX3 150 "TreeGossipModel" "many" "I") (by decide +kernel)) (fun _ h9 => h9) rfl dX3_hand_19 ?_
  refine lv_aload_n hx hb dX3_hand_22 rfl (lv_at hl 0 rfl) ?_
  refine va_get (D := D) (ci := 3) (v := .ref m2) (C := RX3) (T := TX3) (N := 32) hx hb hts hinX3 hown hK hP 0 rfl rfl 2 (by decide) (hts (.fieldLink RX3 13 "TreeGossipModel" "stamps" "[J") (by decide +kernel)) (fun _ h9 => h9) rfl dX3_hand_23 ?_
  refine lv_iload_n hx hb dX3_hand_26 rfl (lv_at hl 1 rfl) ?_
  refine tg_lald hx hb hK hP 1 rfl (f := ms) (k := ix) (by omega) (by decide) dX3_hand_27 ?_
  refine tg_last hx hb hK hP hD hS 5 rfl (k := mn) (by omega) (by decide) dX3_hand_28 (ws' := [(m0, .inr (3, [.int (cd), .ref m1, .ref m2, .ref m3, .ref m4, .ref m5, .long (hh), .ref m7, .ref m8, .ref m9, .ref m10, .ref m11, .ref m12, .ref m13, .ref m14, .ref m15, .ref m16, .ref m17, .int (nI (mn)), .ref m19, .ref m20, .ref m21, .ref m22, .int (c0), .int (c1), .int (c2), .ref m26, .int (gm), .ref m28, .ref m29, .ref m30, .ref m31])), (m2, .inl (ty 1, 512, .inr (.inl ms))), (m3, .inl (ty 0, 512, .inl ml)), (m4, .inl (ty 1, 512, .inr (.inl mv))), (m19, .inl (ty 0, 4, .inl (upd hk mn (nI (ix % 256))))), (m20, .inl (ty 1, 4, .inr (.inl (vp_updL hs mn (ms ix))))), (m21, .inl (ty 0, 4, .inl hl1)), (m22, .inl (ty 1, 4, .inr (.inl hv1)))]) rfl (fun H locs hP hD hS => ?_)
  refine lv_aload_n hx hb dX3_hand_29 rfl (lv_at hl 0 rfl) ?_
  refine va_get (D := D) (ci := 3) (v := .ref m21) (C := RX3) (T := TX3) (N := 32) hx hb hts hinX3 hown hK hP 0 rfl rfl 21 (by decide) (hts (.fieldLink RX3 66 "TreeGossipModel" "handLengths" "[I") (by decide +kernel)) (fun _ h9 => h9) rfl dX3_hand_30 ?_
  refine lv_aload_n hx hb dX3_hand_33 rfl (lv_at hl 0 rfl) ?_
  refine va_get (D := D) (ci := 3) (v := .int (nI (mn))) (C := RX3) (T := TX3) (N := 32) hx hb hts hinX3 hown hK hP 0 rfl rfl 18 (by decide) (hts (.fieldLink RX3 150 "TreeGossipModel" "many" "I") (by decide +kernel)) (fun _ h9 => h9) rfl dX3_hand_34 ?_
  refine lv_aload_n hx hb dX3_hand_37 rfl (lv_at hl 0 rfl) ?_
  refine va_get (D := D) (ci := 3) (v := .ref m3) (C := RX3) (T := TX3) (N := 32) hx hb hts hinX3 hown hK hP 0 rfl rfl 3 (by decide) (hts (.fieldLink RX3 17 "TreeGossipModel" "lengths" "[I") (by decide +kernel)) (fun _ h9 => h9) rfl dX3_hand_38 ?_
  refine lv_iload_n hx hb dX3_hand_41 rfl (lv_at hl 1 rfl) ?_
  refine tg_iald hx hb hK hP 2 rfl (f := ml) (k := ix) (by omega) (by decide) dX3_hand_42 ?_
  refine tg_iast hx hb hK hP hD hS 6 rfl (k := mn) (by omega) (by decide) dX3_hand_43 (ws' := [(m0, .inr (3, [.int (cd), .ref m1, .ref m2, .ref m3, .ref m4, .ref m5, .long (hh), .ref m7, .ref m8, .ref m9, .ref m10, .ref m11, .ref m12, .ref m13, .ref m14, .ref m15, .ref m16, .ref m17, .int (nI (mn)), .ref m19, .ref m20, .ref m21, .ref m22, .int (c0), .int (c1), .int (c2), .ref m26, .int (gm), .ref m28, .ref m29, .ref m30, .ref m31])), (m2, .inl (ty 1, 512, .inr (.inl ms))), (m3, .inl (ty 0, 512, .inl ml)), (m4, .inl (ty 1, 512, .inr (.inl mv))), (m19, .inl (ty 0, 4, .inl (upd hk mn (nI (ix % 256))))), (m20, .inl (ty 1, 4, .inr (.inl (vp_updL hs mn (ms ix))))), (m21, .inl (ty 0, 4, .inl (upd hl1 mn (ml ix)))), (m22, .inl (ty 1, 4, .inr (.inl hv1)))]) rfl (fun H locs hP hD hS => ?_)
  refine lv_aload_n hx hb dX3_hand_44 rfl (lv_at hl 0 rfl) ?_
  refine va_get (D := D) (ci := 3) (v := .ref m22) (C := RX3) (T := TX3) (N := 32) hx hb hts hinX3 hown hK hP 0 rfl rfl 22 (by decide) (hts (.fieldLink RX3 69 "TreeGossipModel" "handValues" "[J") (by decide +kernel)) (fun _ h9 => h9) rfl dX3_hand_45 ?_
  refine lv_aload_n hx hb dX3_hand_48 rfl (lv_at hl 0 rfl) ?_
  refine va_get (D := D) (ci := 3) (v := .int (nI (mn))) (C := RX3) (T := TX3) (N := 32) hx hb hts hinX3 hown hK hP 0 rfl rfl 18 (by decide) (hts (.fieldLink RX3 150 "TreeGossipModel" "many" "I") (by decide +kernel)) (fun _ h9 => h9) rfl dX3_hand_49 ?_
  refine lv_aload_n hx hb dX3_hand_52 rfl (lv_at hl 0 rfl) ?_
  refine va_get (D := D) (ci := 3) (v := .ref m4) (C := RX3) (T := TX3) (N := 32) hx hb hts hinX3 hown hK hP 0 rfl rfl 4 (by decide) (hts (.fieldLink RX3 21 "TreeGossipModel" "values" "[J") (by decide +kernel)) (fun _ h9 => h9) rfl dX3_hand_53 ?_
  refine lv_iload_n hx hb dX3_hand_56 rfl (lv_at hl 1 rfl) ?_
  refine tg_lald hx hb hK hP 3 rfl (f := mv) (k := ix) (by omega) (by decide) dX3_hand_57 ?_
  refine tg_last hx hb hK hP hD hS 7 rfl (k := mn) (by omega) (by decide) dX3_hand_58 (ws' := [(m0, .inr (3, [.int (cd), .ref m1, .ref m2, .ref m3, .ref m4, .ref m5, .long (hh), .ref m7, .ref m8, .ref m9, .ref m10, .ref m11, .ref m12, .ref m13, .ref m14, .ref m15, .ref m16, .ref m17, .int (nI (mn)), .ref m19, .ref m20, .ref m21, .ref m22, .int (c0), .int (c1), .int (c2), .ref m26, .int (gm), .ref m28, .ref m29, .ref m30, .ref m31])), (m2, .inl (ty 1, 512, .inr (.inl ms))), (m3, .inl (ty 0, 512, .inl ml)), (m4, .inl (ty 1, 512, .inr (.inl mv))), (m19, .inl (ty 0, 4, .inl (upd hk mn (nI (ix % 256))))), (m20, .inl (ty 1, 4, .inr (.inl (vp_updL hs mn (ms ix))))), (m21, .inl (ty 0, 4, .inl (upd hl1 mn (ml ix)))), (m22, .inl (ty 1, 4, .inr (.inl (vp_updL hv1 mn (mv ix)))))]) rfl (fun H locs hP hD hS => ?_)
  refine lv_aload_n hx hb dX3_hand_59 rfl (lv_at hl 0 rfl) ?_
  refine lv_dup hx hb dX3_hand_60 rfl ?_
  refine va_get (D := D) (ci := 3) (v := .int (nI (mn))) (C := RX3) (T := TX3) (N := 32) hx hb hts hinX3 hown hK hP 0 rfl rfl 18 (by decide) (hts (.fieldLink RX3 150 "TreeGossipModel" "many" "I") (by decide +kernel)) (fun _ h9 => h9) rfl dX3_hand_61 ?_
  refine lv_iconst (v := nI (1)) hx hb dX3_hand_64 (by decide) ?_
  refine lv_iadd hx hb dX3_hand_65 ?_
  refine tg_vi (nI_add _ _) ?_
  refine tg_put (ci := 3) (v := .int (nI (mn + 1))) (ft := .int) (C := RX3) (T := TX3) (N := 32) hx hb hts hinX3 tyX3 tyX3_ok nmX3 hown hK hP hD hS 0 rfl rfl 18 (by decide) (hts (.fieldLink RX3 150 "TreeGossipModel" "many" "I") (by decide +kernel)) (fun _ h9 => h9) rfl (by decide +kernel) rfl rfl (Nat.le_of_ble_eq_true rfl) dX3_hand_66 (ws' := [(m0, .inr (3, [.int (cd), .ref m1, .ref m2, .ref m3, .ref m4, .ref m5, .long (hh), .ref m7, .ref m8, .ref m9, .ref m10, .ref m11, .ref m12, .ref m13, .ref m14, .ref m15, .ref m16, .ref m17, .int (nI (mn + 1)), .ref m19, .ref m20, .ref m21, .ref m22, .int (c0), .int (c1), .int (c2), .ref m26, .int (gm), .ref m28, .ref m29, .ref m30, .ref m31])), (m2, .inl (ty 1, 512, .inr (.inl ms))), (m3, .inl (ty 0, 512, .inl ml)), (m4, .inl (ty 1, 512, .inr (.inl mv))), (m19, .inl (ty 0, 4, .inl (upd hk mn (nI (ix % 256))))), (m20, .inl (ty 1, 4, .inr (.inl (vp_updL hs mn (ms ix))))), (m21, .inl (ty 0, 4, .inl (upd hl1 mn (ml ix)))), (m22, .inl (ty 1, 4, .inr (.inl (vp_updL hv1 mn (mv ix)))))]) rfl (fun H locs hP hD hS => ?_)
  exact hret _ _ 69 _ () hP hD hS dX3_hand_69
set_option maxHeartbeats 1000000 in
set_option maxRecDepth 100000 in
theorem k_X3_mergeS (l : Launch) (D : va_G) (ty : Nat → ClassId) (m0 : Nat) (m1 : Nat) (m2 : Nat) (m3 : Nat) (m4 : Nat) (m5 : Nat) (m7 : Nat) (m8 : Nat) (m9 : Nat) (m10 : Nat) (m11 : Nat) (m12 : Nat) (m13 : Nat) (m14 : Nat) (m15 : Nat) (m16 : Nat) (m17 : Nat) (m19 : Nat) (m20 : Nat) (m21 : Nat) (m22 : Nat) (m26 : Nat) (m28 : Nat) (m29 : Nat) (m30 : Nat) (m31 : Nat) (cd : Int32) (hh : Int64) (mn : Int32) (c0 : Int32) (c1 : Int32) (c2 : Int32) (gm : Int32) (E : tg_ES) (si : Nat) (k : Nat) (s1 : Int64) (n : Nat) (v1 : Int64) (hsi : si ≤ 1) (hk : k < 256) (hn : n ≤ 8) : tg_Mi l yX3_merge wsX3_merge rmk_X3_merge D ty [.ref m0, .int (nI (si)), .int (nI (k)), .long (s1), .int (nI (n)), .long (v1)] [(m0, .inr (3, [.int (cd), .ref m1, .ref m2, .ref m3, .ref m4, .ref m5, .long (hh), .ref m7, .ref m8, .ref m9, .ref m10, .ref m11, .ref m12, .ref m13, .ref m14, .ref m15, .ref m16, .ref m17, .int (mn), .ref m19, .ref m20, .ref m21, .ref m22, .int (c0), .int (c1), .int (c2), .ref m26, .int (gm), .ref m28, .ref m29, .ref m30, .ref m31])), (m1, .inl (ty 2, 512, .inl E.1)), (m2, .inl (ty 1, 512, .inr (.inl E.2.1))), (m3, .inl (ty 0, 512, .inl E.2.2.1)), (m4, .inl (ty 1, 512, .inr (.inl E.2.2.2)))] [(m0, .inr (3, [.int (cd), .ref m1, .ref m2, .ref m3, .ref m4, .ref m5, .long (hh), .ref m7, .ref m8, .ref m9, .ref m10, .ref m11, .ref m12, .ref m13, .ref m14, .ref m15, .ref m16, .ref m17, .int (mn), .ref m19, .ref m20, .ref m21, .ref m22, .int (c0), .int (c1), .int (c2), .ref m26, .int (gm), .ref m28, .ref m29, .ref m30, .ref m31])), (m1, .inl (ty 2, 512, .inl (tg_rmS E (256 * si + k) s1 n v1).1)), (m2, .inl (ty 1, 512, .inr (.inl (tg_rmS E (256 * si + k) s1 n v1).2.1))), (m3, .inl (ty 0, 512, .inl (tg_rmS E (256 * si + k) s1 n v1).2.2.1)), (m4, .inl (ty 1, 512, .inr (.inl (tg_rmS E (256 * si + k) s1 n v1).2.2.2)))] (tg_b (tg_rin E.1 E.2.1 E.2.2.1 E.2.2.2 (256 * si + k) s1 n v1)) 0 0 := by
  have h := k_X3_merge l D ty m0 m1 m2 m3 m4 m5 m7 m8 m9 m10 m11 m12 m13 m14 m15 m16 m17 m19 m20 m21 m22 m26 m28 m29 m30 m31 cd hh mn c0 c1 c2 gm E.1 E.2.1 E.2.2.1 E.2.2.2 si k s1 n v1 hsi hk hn
  unfold tg_rmS
  cases hb : tg_rin E.1 E.2.1 E.2.2.1 E.2.2.2 (256 * si + k) s1 n v1 with
  | true => rw [hb] at h; exact h
  | false => rw [hb] at h; exact h
def rmk_X3_mergeAll : Room := { frames := 3, cells := 0, slots := 0, locals := 77 }
theorem ink_X3_mergeAll_X3 : ∀ w ∈ wsX30, w ∈ wsX3_mergeAll := by decide +kernel
set_option maxHeartbeats 4000000 in
set_option maxRecDepth 100000 in
theorem k_X3_mergeAll (l : Launch) (D : va_G) (ty : Nat → ClassId) (m0 : Nat) (m1 : Nat) (m2 : Nat) (m3 : Nat) (m4 : Nat) (m5 : Nat) (m7 : Nat) (m8 : Nat) (m9 : Nat) (m10 : Nat) (m11 : Nat) (m12 : Nat) (m13 : Nat) (m14 : Nat) (m15 : Nat) (m16 : Nat) (m17 : Nat) (m19 : Nat) (m20 : Nat) (m21 : Nat) (m22 : Nat) (m26 : Nat) (m28 : Nat) (m29 : Nat) (m30 : Nat) (m31 : Nat) (cd : Int32) (hh : Int64) (mn : Int32) (c0 : Int32) (c1 : Int32) (c2 : Int32) (gm : Nat) (E : tg_ES) (gk : Nat → Int32) (gs : Nat → Int64) (gl : Nat → Int32) (gv : Nat → Int64) (si : Nat) (hsi : si ≤ 1) (hgt : tg_okGt gk gl gm) : tg_Mv l yX3_mergeAll wsX3_mergeAll rmk_X3_mergeAll D ty [.ref m0, .int (nI (si))] [(m0, .inr (3, [.int (cd), .ref m1, .ref m2, .ref m3, .ref m4, .ref m5, .long (hh), .ref m7, .ref m8, .ref m9, .ref m10, .ref m11, .ref m12, .ref m13, .ref m14, .ref m15, .ref m16, .ref m17, .int (mn), .ref m19, .ref m20, .ref m21, .ref m22, .int (c0), .int (c1), .int (c2), .ref m26, .int (nI (gm)), .ref m28, .ref m29, .ref m30, .ref m31])), (m1, .inl (ty 2, 512, .inl E.1)), (m2, .inl (ty 1, 512, .inr (.inl E.2.1))), (m3, .inl (ty 0, 512, .inl E.2.2.1)), (m4, .inl (ty 1, 512, .inr (.inl E.2.2.2))), (m28, .inl (ty 0, 4, .inl gk)), (m29, .inl (ty 1, 4, .inr (.inl gs))), (m30, .inl (ty 0, 4, .inl gl)), (m31, .inl (ty 1, 4, .inr (.inl gv)))] (fun _ : Unit => [(m0, .inr (3, [.int (cd), .ref m1, .ref m2, .ref m3, .ref m4, .ref m5, .long (hh), .ref m7, .ref m8, .ref m9, .ref m10, .ref m11, .ref m12, .ref m13, .ref m14, .ref m15, .ref m16, .ref m17, .int (mn), .ref m19, .ref m20, .ref m21, .ref m22, .int (c0), .int (c1), .int (c2), .ref m26, .int (nI (gm)), .ref m28, .ref m29, .ref m30, .ref m31])), (m1, .inl (ty 2, 512, .inl (tg_rmA E si gk gs gl gv gm).1)), (m2, .inl (ty 1, 512, .inr (.inl (tg_rmA E si gk gs gl gv gm).2.1))), (m3, .inl (ty 0, 512, .inl (tg_rmA E si gk gs gl gv gm).2.2.1)), (m4, .inl (ty 1, 512, .inr (.inl (tg_rmA E si gk gs gl gv gm).2.2.2))), (m28, .inl (ty 0, 4, .inl gk)), (m29, .inl (ty 1, 4, .inr (.inl gs))), (m30, .inl (ty 0, 4, .inl gl)), (m31, .inl (ty 1, 4, .inr (.inl gv)))]) 0 0 := by
  refine tg_start_v (cc := cX3_mergeAll) (maxL := 3) (lvs := [(0, .ref m0), (1, .int (nI (si)))]) (by decide) rfl (Nat.le_of_ble_eq_true rfl) rfl ?_
  intro pp ee ss mm args below meth cc AA ls QQ hx hb hr hts hown hlocks hml hnm hA hP hD hS hK hN hl hret
  have hinX3 := ink_X3_mergeAll_X3
  have hg4 := hgt.1
  refine lv_iconst (v := nI (0)) hx hb dX3_mergeAll_0 (by decide) ?_
  refine lv_istore_n (lv' := [(2, .int (nI (0))), (0, .ref m0), (1, .int (nI (si)))]) hx hb dX3_mergeAll_1 rfl hl (by decide) rfl (fun ls hl => ?_)
  have hL2 : ∀ (n2 i : Nat) , i ≤ gm → gm + 1 ≤ i + n2 → ∀ (H : Heap) (locs : List Loc) (ls : Array Slot), va_P D vwCl [(m0, .inr (3, [.int (cd), .ref m1, .ref m2, .ref m3, .ref m4, .ref m5, .long (hh), .ref m7, .ref m8, .ref m9, .ref m10, .ref m11, .ref m12, .ref m13, .ref m14, .ref m15, .ref m16, .ref m17, .int (mn), .ref m19, .ref m20, .ref m21, .ref m22, .int (c0), .int (c1), .int (c2), .ref m26, .int (nI (gm)), .ref m28, .ref m29, .ref m30, .ref m31])), (m1, .inl (ty 2, 512, .inl (tg_rmA E si gk gs gl gv i).1)), (m2, .inl (ty 1, 512, .inr (.inl (tg_rmA E si gk gs gl gv i).2.1))), (m3, .inl (ty 0, 512, .inl (tg_rmA E si gk gs gl gv i).2.2.1)), (m4, .inl (ty 1, 512, .inr (.inl (tg_rmA E si gk gs gl gv i).2.2.2))), (m28, .inl (ty 0, 4, .inl gk)), (m29, .inl (ty 1, 4, .inr (.inl gs))), (m30, .inl (ty 0, 4, .inl gl)), (m31, .inl (ty 1, 4, .inr (.inl gv)))] H → va_D AA [(m0, .inr (3, [.int (cd), .ref m1, .ref m2, .ref m3, .ref m4, .ref m5, .long (hh), .ref m7, .ref m8, .ref m9, .ref m10, .ref m11, .ref m12, .ref m13, .ref m14, .ref m15, .ref m16, .ref m17, .int (mn), .ref m19, .ref m20, .ref m21, .ref m22, .int (c0), .int (c1), .int (c2), .ref m26, .int (nI (gm)), .ref m28, .ref m29, .ref m30, .ref m31])), (m1, .inl (ty 2, 512, .inl (tg_rmA E si gk gs gl gv i).1)), (m2, .inl (ty 1, 512, .inr (.inl (tg_rmA E si gk gs gl gv i).2.1))), (m3, .inl (ty 0, 512, .inl (tg_rmA E si gk gs gl gv i).2.2.1)), (m4, .inl (ty 1, 512, .inr (.inl (tg_rmA E si gk gs gl gv i).2.2.2))), (m28, .inl (ty 0, 4, .inl gk)), (m29, .inl (ty 1, 4, .inr (.inl gs))), (m30, .inl (ty 0, 4, .inl gl)), (m31, .inl (ty 1, 4, .inr (.inl gv)))] → va_S AA ss.heap H locs → lv_has ls 3 [(0, .ref m0), (1, .int (nI (si))), (2, .int (nI (i)))] → W pp l ee rmk_X3_mergeAll ss mm args below meth cc H locs 0 0 QQ (F0 mm 2 ls []) := by
    intro n2
    induction n2 with
    | zero => intro i  h1 h2; omega
    | succ n2 ih2 =>
      intro i  hi2 hn2  H locs ls hP hD hS hl
      have hg4 := hgt.1
      refine lv_iload_n hx hb dX3_mergeAll_2 rfl (lv_at hl 2 rfl) ?_
      refine lv_aload_n hx hb dX3_mergeAll_3 rfl (lv_at hl 0 rfl) ?_
      refine va_get (D := D) (ci := 3) (v := .int (nI (gm))) (C := RX3) (T := TX3) (N := 32) hx hb hts hinX3 hown hK hP 0 rfl rfl 27 (by decide) (hts (.fieldLink RX3 171 "TreeGossipModel" "gotMany" "I") (by decide +kernel)) (fun _ h9 => h9) rfl dX3_mergeAll_4 ?_
      refine tg_ge (tgt := 46) hx hb dX3_mergeAll_7 (by decide) (by omega) (by omega) (fun c7_1 => ?_) (fun c7_1 => ?_)
      · skip
        obtain rfl : gm = i := by omega
        exact hret _ _ 46 _ () hP hD hS dX3_mergeAll_46
      · skip
        have eg := hgt.2 i c7_1
        refine lv_aload_n hx hb dX3_mergeAll_10 rfl (lv_at hl 0 rfl) ?_
        refine lv_iload_n hx hb dX3_mergeAll_11 rfl (lv_at hl 1 rfl) ?_
        refine lv_aload_n hx hb dX3_mergeAll_12 rfl (lv_at hl 0 rfl) ?_
        refine va_get (D := D) (ci := 3) (v := .ref m28) (C := RX3) (T := TX3) (N := 32) hx hb hts hinX3 hown hK hP 0 rfl rfl 28 (by decide) (hts (.fieldLink RX3 75 "TreeGossipModel" "gotKeys" "[I") (by decide +kernel)) (fun _ h9 => h9) rfl dX3_mergeAll_13 ?_
        refine lv_iload_n hx hb dX3_mergeAll_16 rfl (lv_at hl 2 rfl) ?_
        refine tg_iald hx hb hK hP 5 rfl (f := gk) (k := i) (by omega) (by decide) dX3_mergeAll_17 ?_
        refine tg_vi (eg.1) ?_
        refine lv_aload_n hx hb dX3_mergeAll_18 rfl (lv_at hl 0 rfl) ?_
        refine va_get (D := D) (ci := 3) (v := .ref m29) (C := RX3) (T := TX3) (N := 32) hx hb hts hinX3 hown hK hP 0 rfl rfl 29 (by decide) (hts (.fieldLink RX3 78 "TreeGossipModel" "gotStamps" "[J") (by decide +kernel)) (fun _ h9 => h9) rfl dX3_mergeAll_19 ?_
        refine lv_iload_n hx hb dX3_mergeAll_22 rfl (lv_at hl 2 rfl) ?_
        refine tg_lald hx hb hK hP 6 rfl (f := gs) (k := i) (by omega) (by decide) dX3_mergeAll_23 ?_
        refine lv_aload_n hx hb dX3_mergeAll_24 rfl (lv_at hl 0 rfl) ?_
        refine va_get (D := D) (ci := 3) (v := .ref m30) (C := RX3) (T := TX3) (N := 32) hx hb hts hinX3 hown hK hP 0 rfl rfl 30 (by decide) (hts (.fieldLink RX3 81 "TreeGossipModel" "gotLengths" "[I") (by decide +kernel)) (fun _ h9 => h9) rfl dX3_mergeAll_25 ?_
        refine lv_iload_n hx hb dX3_mergeAll_28 rfl (lv_at hl 2 rfl) ?_
        refine tg_iald hx hb hK hP 7 rfl (f := gl) (k := i) (by omega) (by decide) dX3_mergeAll_29 ?_
        refine tg_vi (eg.2.2.1) ?_
        refine lv_aload_n hx hb dX3_mergeAll_30 rfl (lv_at hl 0 rfl) ?_
        refine va_get (D := D) (ci := 3) (v := .ref m31) (C := RX3) (T := TX3) (N := 32) hx hb hts hinX3 hown hK hP 0 rfl rfl 31 (by decide) (hts (.fieldLink RX3 84 "TreeGossipModel" "gotValues" "[J") (by decide +kernel)) (fun _ h9 => h9) rfl dX3_mergeAll_31 ?_
        refine lv_iload_n hx hb dX3_mergeAll_34 rfl (lv_at hl 2 rfl) ?_
        refine tg_lald hx hb hK hP 8 rfl (f := gv) (k := i) (by omega) (by decide) dX3_mergeAll_35 ?_
        refine tg_Vi (As := [.int (nI (si)), .int (nI (tg_cn (gk i))), .long (gs i), .int (nI (tg_cn (gl i))), .long (gv i)]) (rest := []) (wr := [(m28, .inl (ty 0, 4, .inl gk)), (m29, .inl (ty 1, 4, .inr (.inl gs))), (m30, .inl (ty 0, 4, .inl gl)), (m31, .inl (ty 1, 4, .inr (.inl gv)))]) (w2 := [(m0, .inr (3, [.int (cd), .ref m1, .ref m2, .ref m3, .ref m4, .ref m5, .long (hh), .ref m7, .ref m8, .ref m9, .ref m10, .ref m11, .ref m12, .ref m13, .ref m14, .ref m15, .ref m16, .ref m17, .int (mn), .ref m19, .ref m20, .ref m21, .ref m22, .int (c0), .int (c1), .int (c2), .ref m26, .int ((nI gm)), .ref m28, .ref m29, .ref m30, .ref m31])), (m1, .inl (ty 2, 512, .inl (tg_rmS (tg_rmA E si gk gs gl gv i) (256 * si + (tg_cn (gk i))) (gs i) (tg_cn (gl i)) (gv i)).1)), (m2, .inl (ty 1, 512, .inr (.inl (tg_rmS (tg_rmA E si gk gs gl gv i) (256 * si + (tg_cn (gk i))) (gs i) (tg_cn (gl i)) (gv i)).2.1))), (m3, .inl (ty 0, 512, .inl (tg_rmS (tg_rmA E si gk gs gl gv i) (256 * si + (tg_cn (gk i))) (gs i) (tg_cn (gl i)) (gv i)).2.2.1)), (m4, .inl (ty 1, 512, .inr (.inl (tg_rmS (tg_rmA E si gk gs gl gv i) (256 * si + (tg_cn (gk i))) (gs i) (tg_cn (gl i)) (gv i)).2.2.2))), (m28, .inl (ty 0, 4, .inl gk)), (m29, .inl (ty 1, 4, .inr (.inl gs))), (m30, .inl (ty 0, 4, .inl gl)), (m31, .inl (ty 1, 4, .inr (.inl gv)))]) ⟨hx, hb, hml, hown, hts⟩ (k_X3_mergeS l D ty m0 m1 m2 m3 m4 m5 m7 m8 m9 m10 m11 m12 m13 m14 m15 m16 m17 m19 m20 m21 m22 m26 m28 m29 m30 m31 cd hh mn c0 c1 c2 (nI gm) (tg_rmA E si gk gs gl gv i) si (tg_cn (gk i)) (gs i) (tg_cn (gl i)) (gv i) hsi eg.2.1 eg.2.2.2) (cwV 5 hts gX3_mergeAll_X3_merge rfl rfl rfl (by decide +kernel) ⟨Nat.le_of_ble_eq_true rfl, Nat.le_of_ble_eq_true rfl⟩) hK hN hP hD hS hA [0, 1, 2, 3, 4] [5, 6, 7, 8] [4, 5, 6, 7, 8, 0, 1, 2, 3] 0 3 rfl rfl rfl rfl rfl rfl rfl (by decide) rfl hl.1 rfl (Nat.le_of_ble_eq_true rfl) dX3_mergeAll_36 rfl rfl ⟨Nat.le_of_ble_eq_true rfl, Nat.le_of_ble_eq_true rfl⟩ (fun H locs hP hD hS => ?_)
        refine lv_pop hx hb dX3_mergeAll_39 rfl ?_
        refine lv_iinc (v := nI (i + 1)) (lv' := [(2, .int (nI (i + 1))), (0, .ref m0), (1, .int (nI (si)))]) hx hb dX3_mergeAll_40 hl (k := 2) rfl (tg_inc1 _) (by decide) rfl (fun ls hl => ?_)
        refine lv_goto (tgt := 2) hx hb dX3_mergeAll_43 (by decide) ?_
        exact ih2 (i + 1) (by omega) (by omega)  _ _ _ hP hD hS (lv_sub hl [1, 2, 0] rfl)
  exact hL2 (gm + 1) 0 (by omega) (by omega)  _ _ _ hP hD hS (lv_sub hl [1, 2, 0] rfl)
def rmk_X3_isGot : Room := { frames := 0, cells := 0, slots := 0, locals := 0 }
theorem ink_X3_isGot_X3 : ∀ w ∈ wsX30, w ∈ wsX3_isGot := by decide +kernel
set_option maxHeartbeats 4000000 in
set_option maxRecDepth 100000 in
theorem k_X3_isGot (l : Launch) (D : va_G) (ty : Nat → ClassId) (m0 : Nat) (m1 : Nat) (m2 : Nat) (m3 : Nat) (m4 : Nat) (m5 : Nat) (m7 : Nat) (m8 : Nat) (m9 : Nat) (m10 : Nat) (m11 : Nat) (m12 : Nat) (m13 : Nat) (m14 : Nat) (m15 : Nat) (m16 : Nat) (m17 : Nat) (m19 : Nat) (m20 : Nat) (m21 : Nat) (m22 : Nat) (m26 : Nat) (m28 : Nat) (m29 : Nat) (m30 : Nat) (m31 : Nat) (cd : Int32) (hh : Int64) (mn : Int32) (c0 : Int32) (c1 : Int32) (c2 : Int32) (gm : Nat) (E : tg_ES) (gk : Nat → Int32) (gs : Nat → Int64) (gl : Nat → Int32) (gv : Nat → Int64) (ix : Nat) (hix : ix < 512) (hg4 : gm ≤ 4) : tg_Mi l yX3_isGot wsX3_isGot rmk_X3_isGot D ty [.ref m0, .int (nI (ix))] [(m0, .inr (3, [.int (cd), .ref m1, .ref m2, .ref m3, .ref m4, .ref m5, .long (hh), .ref m7, .ref m8, .ref m9, .ref m10, .ref m11, .ref m12, .ref m13, .ref m14, .ref m15, .ref m16, .ref m17, .int (mn), .ref m19, .ref m20, .ref m21, .ref m22, .int (c0), .int (c1), .int (c2), .ref m26, .int (nI (gm)), .ref m28, .ref m29, .ref m30, .ref m31])), (m2, .inl (ty 1, 512, .inr (.inl E.2.1))), (m3, .inl (ty 0, 512, .inl E.2.2.1)), (m4, .inl (ty 1, 512, .inr (.inl E.2.2.2))), (m28, .inl (ty 0, 4, .inl gk)), (m29, .inl (ty 1, 4, .inr (.inl gs))), (m30, .inl (ty 0, 4, .inl gl)), (m31, .inl (ty 1, 4, .inr (.inl gv)))] [(m0, .inr (3, [.int (cd), .ref m1, .ref m2, .ref m3, .ref m4, .ref m5, .long (hh), .ref m7, .ref m8, .ref m9, .ref m10, .ref m11, .ref m12, .ref m13, .ref m14, .ref m15, .ref m16, .ref m17, .int (mn), .ref m19, .ref m20, .ref m21, .ref m22, .int (c0), .int (c1), .int (c2), .ref m26, .int (nI (gm)), .ref m28, .ref m29, .ref m30, .ref m31])), (m2, .inl (ty 1, 512, .inr (.inl E.2.1))), (m3, .inl (ty 0, 512, .inl E.2.2.1)), (m4, .inl (ty 1, 512, .inr (.inl E.2.2.2))), (m28, .inl (ty 0, 4, .inl gk)), (m29, .inl (ty 1, 4, .inr (.inl gs))), (m30, .inl (ty 0, 4, .inl gl)), (m31, .inl (ty 1, 4, .inr (.inl gv)))] (tg_b (tg_ig E ix gk gs gl gv (gm))) 0 0 := by
  refine tg_start_z (cc := cX3_isGot) (maxL := 4) (lvs := [(0, .ref m0), (1, .int (nI (ix)))]) (by decide) rfl (Nat.le_of_ble_eq_true rfl) rfl ?_
  intro pp ee ss mm args below meth cc AA ls QQ hx hb hr hts hown hlocks hml hnm hA hP hD hS hK hN hl hret
  have hinX3 := ink_X3_isGot_X3
  refine lv_iconst (v := nI (0)) hx hb dX3_isGot_0 (by decide) ?_
  refine lv_istore_n (lv' := [(2, .int (nI (0))), (0, .ref m0), (1, .int (nI (ix)))]) hx hb dX3_isGot_1 rfl hl (by decide) rfl (fun ls hl => ?_)
  refine lv_iconst (v := nI (0)) hx hb dX3_isGot_2 (by decide) ?_
  refine lv_istore_n (lv' := [(3, .int (nI (0))), (2, .int (nI (0))), (0, .ref m0), (1, .int (nI (ix)))]) hx hb dX3_isGot_3 rfl hl (by decide) rfl (fun ls hl => ?_)
  have hL4 : ∀ (n4 i : Nat) , i ≤ gm → gm + 1 ≤ i + n4 → ∀ (H : Heap) (locs : List Loc) (ls : Array Slot), va_P D vwCl [(m0, .inr (3, [.int (cd), .ref m1, .ref m2, .ref m3, .ref m4, .ref m5, .long (hh), .ref m7, .ref m8, .ref m9, .ref m10, .ref m11, .ref m12, .ref m13, .ref m14, .ref m15, .ref m16, .ref m17, .int (mn), .ref m19, .ref m20, .ref m21, .ref m22, .int (c0), .int (c1), .int (c2), .ref m26, .int (nI (gm)), .ref m28, .ref m29, .ref m30, .ref m31])), (m2, .inl (ty 1, 512, .inr (.inl E.2.1))), (m3, .inl (ty 0, 512, .inl E.2.2.1)), (m4, .inl (ty 1, 512, .inr (.inl E.2.2.2))), (m28, .inl (ty 0, 4, .inl gk)), (m29, .inl (ty 1, 4, .inr (.inl gs))), (m30, .inl (ty 0, 4, .inl gl)), (m31, .inl (ty 1, 4, .inr (.inl gv)))] H → va_D AA [(m0, .inr (3, [.int (cd), .ref m1, .ref m2, .ref m3, .ref m4, .ref m5, .long (hh), .ref m7, .ref m8, .ref m9, .ref m10, .ref m11, .ref m12, .ref m13, .ref m14, .ref m15, .ref m16, .ref m17, .int (mn), .ref m19, .ref m20, .ref m21, .ref m22, .int (c0), .int (c1), .int (c2), .ref m26, .int (nI (gm)), .ref m28, .ref m29, .ref m30, .ref m31])), (m2, .inl (ty 1, 512, .inr (.inl E.2.1))), (m3, .inl (ty 0, 512, .inl E.2.2.1)), (m4, .inl (ty 1, 512, .inr (.inl E.2.2.2))), (m28, .inl (ty 0, 4, .inl gk)), (m29, .inl (ty 1, 4, .inr (.inl gs))), (m30, .inl (ty 0, 4, .inl gl)), (m31, .inl (ty 1, 4, .inr (.inl gv)))] → va_S AA ss.heap H locs → lv_has ls 4 [(0, .ref m0), (1, .int (nI (ix))), (2, .int (tg_b (tg_ig E ix gk gs gl gv (i)))), (3, .int (nI (i)))] → W pp l ee rmk_X3_isGot ss mm args below meth cc H locs 0 0 QQ (F0 mm 4 ls []) := by
    intro n4
    induction n4 with
    | zero => intro i  h1 h2; omega
    | succ n4 ih4 =>
      intro i  hi4 hn4  H locs ls hP hD hS hl
      refine lv_iload_n hx hb dX3_isGot_4 rfl (lv_at hl 3 rfl) ?_
      refine lv_aload_n hx hb dX3_isGot_5 rfl (lv_at hl 0 rfl) ?_
      refine va_get (D := D) (ci := 3) (v := .int (nI (gm))) (C := RX3) (T := TX3) (N := 32) hx hb hts hinX3 hown hK hP 0 rfl rfl 27 (by decide) (hts (.fieldLink RX3 171 "TreeGossipModel" "gotMany" "I") (by decide +kernel)) (fun _ h9 => h9) rfl dX3_isGot_6 ?_
      refine tg_ge (tgt := 89) hx hb dX3_isGot_9 (by decide) (by omega) (by omega) (fun c9_1 => ?_) (fun c9_1 => ?_)
      · skip
        obtain rfl : gm = i := by omega
        refine lv_iload_n hx hb dX3_isGot_89 rfl (lv_at hl 2 rfl) ?_
        exact hret _ _ 90 _ _ hP hD hS (rfl) (tg_bn _) dX3_isGot_90
      · skip
        refine lv_iload_n hx hb dX3_isGot_12 rfl (lv_at hl 2 rfl) ?_
        refine tg_if_neb (tgt := 77) hx hb dX3_isGot_13 (by decide) (fun c13_2 => ?_) (fun c13_2 => ?_)
        · skip
          have e8 := tg_ig_t c13_2
          refine lv_iconst (v := nI (1)) hx hb dX3_isGot_77 (by decide) ?_
          refine tg_vi ((tg_b_t (tg_ig_t c13_2)).symm) ?_
          refine lv_goto (tgt := 82) hx hb dX3_isGot_78 (by decide) ?_
          refine lv_istore_n (lv' := [(2, .int (tg_b (tg_ig E ix gk gs gl gv (i + 1)))), (0, .ref m0), (1, .int (nI (ix))), (3, .int (nI (i)))]) hx hb dX3_isGot_82 rfl hl (by decide) rfl (fun ls hl => ?_)
          refine lv_iinc (v := nI (i + 1)) (lv' := [(3, .int (nI (i + 1))), (2, .int (tg_b (tg_ig E ix gk gs gl gv (i + 1)))), (0, .ref m0), (1, .int (nI (ix)))]) hx hb dX3_isGot_83 hl (k := 3) rfl (tg_inc1 _) (by decide) rfl (fun ls hl => ?_)
          refine lv_goto (tgt := 4) hx hb dX3_isGot_86 (by decide) ?_
          exact ih4 (i + 1) (by omega) (by omega)  _ _ _ hP hD hS (lv_sub hl [2, 3, 1, 0] rfl)
        · skip
          refine lv_aload_n hx hb dX3_isGot_16 rfl (lv_at hl 0 rfl) ?_
          refine va_get (D := D) (ci := 3) (v := .ref m28) (C := RX3) (T := TX3) (N := 32) hx hb hts hinX3 hown hK hP 0 rfl rfl 28 (by decide) (hts (.fieldLink RX3 75 "TreeGossipModel" "gotKeys" "[I") (by decide +kernel)) (fun _ h9 => h9) rfl dX3_isGot_17 ?_
          refine lv_iload_n hx hb dX3_isGot_20 rfl (lv_at hl 3 rfl) ?_
          refine tg_iald hx hb hK hP 4 rfl (f := gk) (k := i) (by omega) (by decide) dX3_isGot_21 ?_
          refine lv_iload_n hx hb dX3_isGot_22 rfl (lv_at hl 1 rfl) ?_
          refine lv_sipush (v := nI (256)) hx hb dX3_isGot_23 (by decide) ?_
          refine lv_irem hx hb dX3_isGot_26 (by decide) ?_
          refine tg_vi (pk_rem (by omega) (by omega) (by omega)) ?_
          refine lv_icmp_ne (tgt := 81) hx hb dX3_isGot_27 (by decide) (fun c27_3 => ?_) (fun c27_3 => ?_)
          · skip
            have e9 : tg_ig1 E ix gk gs gl gv i = false := by unfold tg_ig1; simp only [Bool.and_eq_false_iff, decide_eq_false_iff_not]; exact Or.inl c27_3
            refine lv_iconst (v := nI (0)) hx hb dX3_isGot_81 (by decide) ?_
            refine tg_vi ((tg_b_f (tg_ig_1 c13_2 e9)).symm) ?_
            refine lv_istore_n (lv' := [(2, .int (tg_b (tg_ig E ix gk gs gl gv (i + 1)))), (0, .ref m0), (1, .int (nI (ix))), (3, .int (nI (i)))]) hx hb dX3_isGot_82 rfl hl (by decide) rfl (fun ls hl => ?_)
            refine lv_iinc (v := nI (i + 1)) (lv' := [(3, .int (nI (i + 1))), (2, .int (tg_b (tg_ig E ix gk gs gl gv (i + 1)))), (0, .ref m0), (1, .int (nI (ix)))]) hx hb dX3_isGot_83 hl (k := 3) rfl (tg_inc1 _) (by decide) rfl (fun ls hl => ?_)
            refine lv_goto (tgt := 4) hx hb dX3_isGot_86 (by decide) ?_
            exact ih4 (i + 1) (by omega) (by omega)  _ _ _ hP hD hS (lv_sub hl [2, 3, 1, 0] rfl)
          · skip
            refine lv_aload_n hx hb dX3_isGot_30 rfl (lv_at hl 0 rfl) ?_
            refine va_get (D := D) (ci := 3) (v := .ref m29) (C := RX3) (T := TX3) (N := 32) hx hb hts hinX3 hown hK hP 0 rfl rfl 29 (by decide) (hts (.fieldLink RX3 78 "TreeGossipModel" "gotStamps" "[J") (by decide +kernel)) (fun _ h9 => h9) rfl dX3_isGot_31 ?_
            refine lv_iload_n hx hb dX3_isGot_34 rfl (lv_at hl 3 rfl) ?_
            refine tg_lald hx hb hK hP 5 rfl (f := gs) (k := i) (by omega) (by decide) dX3_isGot_35 ?_
            refine lv_aload_n hx hb dX3_isGot_36 rfl (lv_at hl 0 rfl) ?_
            refine va_get (D := D) (ci := 3) (v := .ref m2) (C := RX3) (T := TX3) (N := 32) hx hb hts hinX3 hown hK hP 0 rfl rfl 2 (by decide) (hts (.fieldLink RX3 13 "TreeGossipModel" "stamps" "[J") (by decide +kernel)) (fun _ h9 => h9) rfl dX3_isGot_37 ?_
            refine lv_iload_n hx hb dX3_isGot_40 rfl (lv_at hl 1 rfl) ?_
            refine tg_lald hx hb hK hP 1 rfl (f := E.2.1) (k := ix) (by omega) (by decide) dX3_isGot_41 ?_
            refine W.lcmp hx hb dX3_isGot_42 ?_
            refine tg_lne (tgt := 81) hx hb dX3_isGot_43 (by decide) (fun c43_4 => ?_) (fun c43_4 => ?_)
            · skip
              have e9 : tg_ig1 E ix gk gs gl gv i = false := by unfold tg_ig1; simp only [Bool.and_eq_false_iff, decide_eq_false_iff_not]; exact Or.inr (Or.inl c43_4)
              refine lv_iconst (v := nI (0)) hx hb dX3_isGot_81 (by decide) ?_
              refine tg_vi ((tg_b_f (tg_ig_1 c13_2 e9)).symm) ?_
              refine lv_istore_n (lv' := [(2, .int (tg_b (tg_ig E ix gk gs gl gv (i + 1)))), (0, .ref m0), (1, .int (nI (ix))), (3, .int (nI (i)))]) hx hb dX3_isGot_82 rfl hl (by decide) rfl (fun ls hl => ?_)
              refine lv_iinc (v := nI (i + 1)) (lv' := [(3, .int (nI (i + 1))), (2, .int (tg_b (tg_ig E ix gk gs gl gv (i + 1)))), (0, .ref m0), (1, .int (nI (ix)))]) hx hb dX3_isGot_83 hl (k := 3) rfl (tg_inc1 _) (by decide) rfl (fun ls hl => ?_)
              refine lv_goto (tgt := 4) hx hb dX3_isGot_86 (by decide) ?_
              exact ih4 (i + 1) (by omega) (by omega)  _ _ _ hP hD hS (lv_sub hl [2, 3, 1, 0] rfl)
            · skip
              refine lv_aload_n hx hb dX3_isGot_46 rfl (lv_at hl 0 rfl) ?_
              refine va_get (D := D) (ci := 3) (v := .ref m30) (C := RX3) (T := TX3) (N := 32) hx hb hts hinX3 hown hK hP 0 rfl rfl 30 (by decide) (hts (.fieldLink RX3 81 "TreeGossipModel" "gotLengths" "[I") (by decide +kernel)) (fun _ h9 => h9) rfl dX3_isGot_47 ?_
              refine lv_iload_n hx hb dX3_isGot_50 rfl (lv_at hl 3 rfl) ?_
              refine tg_iald hx hb hK hP 6 rfl (f := gl) (k := i) (by omega) (by decide) dX3_isGot_51 ?_
              refine lv_aload_n hx hb dX3_isGot_52 rfl (lv_at hl 0 rfl) ?_
              refine va_get (D := D) (ci := 3) (v := .ref m3) (C := RX3) (T := TX3) (N := 32) hx hb hts hinX3 hown hK hP 0 rfl rfl 3 (by decide) (hts (.fieldLink RX3 17 "TreeGossipModel" "lengths" "[I") (by decide +kernel)) (fun _ h9 => h9) rfl dX3_isGot_53 ?_
              refine lv_iload_n hx hb dX3_isGot_56 rfl (lv_at hl 1 rfl) ?_
              refine tg_iald hx hb hK hP 2 rfl (f := E.2.2.1) (k := ix) (by omega) (by decide) dX3_isGot_57 ?_
              refine lv_icmp_ne (tgt := 81) hx hb dX3_isGot_58 (by decide) (fun c58_5 => ?_) (fun c58_5 => ?_)
              · skip
                have e9 : tg_ig1 E ix gk gs gl gv i = false := by unfold tg_ig1; simp only [Bool.and_eq_false_iff, decide_eq_false_iff_not]; exact Or.inr (Or.inr (Or.inl c58_5))
                refine lv_iconst (v := nI (0)) hx hb dX3_isGot_81 (by decide) ?_
                refine tg_vi ((tg_b_f (tg_ig_1 c13_2 e9)).symm) ?_
                refine lv_istore_n (lv' := [(2, .int (tg_b (tg_ig E ix gk gs gl gv (i + 1)))), (0, .ref m0), (1, .int (nI (ix))), (3, .int (nI (i)))]) hx hb dX3_isGot_82 rfl hl (by decide) rfl (fun ls hl => ?_)
                refine lv_iinc (v := nI (i + 1)) (lv' := [(3, .int (nI (i + 1))), (2, .int (tg_b (tg_ig E ix gk gs gl gv (i + 1)))), (0, .ref m0), (1, .int (nI (ix)))]) hx hb dX3_isGot_83 hl (k := 3) rfl (tg_inc1 _) (by decide) rfl (fun ls hl => ?_)
                refine lv_goto (tgt := 4) hx hb dX3_isGot_86 (by decide) ?_
                exact ih4 (i + 1) (by omega) (by omega)  _ _ _ hP hD hS (lv_sub hl [2, 3, 1, 0] rfl)
              · skip
                refine lv_aload_n hx hb dX3_isGot_61 rfl (lv_at hl 0 rfl) ?_
                refine va_get (D := D) (ci := 3) (v := .ref m31) (C := RX3) (T := TX3) (N := 32) hx hb hts hinX3 hown hK hP 0 rfl rfl 31 (by decide) (hts (.fieldLink RX3 84 "TreeGossipModel" "gotValues" "[J") (by decide +kernel)) (fun _ h9 => h9) rfl dX3_isGot_62 ?_
                refine lv_iload_n hx hb dX3_isGot_65 rfl (lv_at hl 3 rfl) ?_
                refine tg_lald hx hb hK hP 7 rfl (f := gv) (k := i) (by omega) (by decide) dX3_isGot_66 ?_
                refine lv_aload_n hx hb dX3_isGot_67 rfl (lv_at hl 0 rfl) ?_
                refine va_get (D := D) (ci := 3) (v := .ref m4) (C := RX3) (T := TX3) (N := 32) hx hb hts hinX3 hown hK hP 0 rfl rfl 4 (by decide) (hts (.fieldLink RX3 21 "TreeGossipModel" "values" "[J") (by decide +kernel)) (fun _ h9 => h9) rfl dX3_isGot_68 ?_
                refine lv_iload_n hx hb dX3_isGot_71 rfl (lv_at hl 1 rfl) ?_
                refine tg_lald hx hb hK hP 3 rfl (f := E.2.2.2) (k := ix) (by omega) (by decide) dX3_isGot_72 ?_
                refine W.lcmp hx hb dX3_isGot_73 ?_
                refine tg_lne (tgt := 81) hx hb dX3_isGot_74 (by decide) (fun c74_6 => ?_) (fun c74_6 => ?_)
                · skip
                  have e9 : tg_ig1 E ix gk gs gl gv i = false := by unfold tg_ig1; simp only [Bool.and_eq_false_iff, decide_eq_false_iff_not]; exact Or.inr (Or.inr (Or.inr c74_6))
                  refine lv_iconst (v := nI (0)) hx hb dX3_isGot_81 (by decide) ?_
                  refine tg_vi ((tg_b_f (tg_ig_1 c13_2 e9)).symm) ?_
                  refine lv_istore_n (lv' := [(2, .int (tg_b (tg_ig E ix gk gs gl gv (i + 1)))), (0, .ref m0), (1, .int (nI (ix))), (3, .int (nI (i)))]) hx hb dX3_isGot_82 rfl hl (by decide) rfl (fun ls hl => ?_)
                  refine lv_iinc (v := nI (i + 1)) (lv' := [(3, .int (nI (i + 1))), (2, .int (tg_b (tg_ig E ix gk gs gl gv (i + 1)))), (0, .ref m0), (1, .int (nI (ix)))]) hx hb dX3_isGot_83 hl (k := 3) rfl (tg_inc1 _) (by decide) rfl (fun ls hl => ?_)
                  refine lv_goto (tgt := 4) hx hb dX3_isGot_86 (by decide) ?_
                  exact ih4 (i + 1) (by omega) (by omega)  _ _ _ hP hD hS (lv_sub hl [2, 3, 1, 0] rfl)
                · skip
                  have e9 : tg_ig1 E ix gk gs gl gv i = true := by unfold tg_ig1; simp only [Bool.and_eq_true, decide_eq_true_eq]; exact ⟨c27_3, c43_4, c58_5, c74_6⟩
                  refine lv_iconst (v := nI (1)) hx hb dX3_isGot_77 (by decide) ?_
                  refine tg_vi ((tg_b_t (tg_ig_1 c13_2 e9)).symm) ?_
                  refine lv_goto (tgt := 82) hx hb dX3_isGot_78 (by decide) ?_
                  refine lv_istore_n (lv' := [(2, .int (tg_b (tg_ig E ix gk gs gl gv (i + 1)))), (0, .ref m0), (1, .int (nI (ix))), (3, .int (nI (i)))]) hx hb dX3_isGot_82 rfl hl (by decide) rfl (fun ls hl => ?_)
                  refine lv_iinc (v := nI (i + 1)) (lv' := [(3, .int (nI (i + 1))), (2, .int (tg_b (tg_ig E ix gk gs gl gv (i + 1)))), (0, .ref m0), (1, .int (nI (ix)))]) hx hb dX3_isGot_83 hl (k := 3) rfl (tg_inc1 _) (by decide) rfl (fun ls hl => ?_)
                  refine lv_goto (tgt := 4) hx hb dX3_isGot_86 (by decide) ?_
                  exact ih4 (i + 1) (by omega) (by omega)  _ _ _ hP hD hS (lv_sub hl [2, 3, 1, 0] rfl)
  exact hL4 (gm + 1) 0 (by omega) (by omega)  _ _ _ hP hD hS (lv_sub hl [2, 3, 1, 0] rfl)
