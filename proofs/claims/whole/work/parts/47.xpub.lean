/-! ===== contracts: the class throws ===== -/
def rmx_X2_put_1 : Room := { frames := 7, cells := 1, slots := 6, locals := 111 }
set_option maxHeartbeats 4000000 in
set_option maxRecDepth 100000 in
theorem x_X2_put_1 (l : Launch) (hl0 : l.stackTraces = false) (D : va_G) (ty : Nat → ClassId) (t0 : Nat) (t1 : Nat) (t2 : Nat) (c : tg_CT) (z1 : Int32) (k1 : Int32) (s1 : Int64) (v : Int64) (n1 : Int32) (hv : ¬ z1 < 0 → z1 < nI 2 → False) : tx_M l yX2_put wsX2_put rmx_X2_put_1 D ty [.ref t0, .int (z1), .int (k1), .long (s1), .long (v), .int (n1)] [(t0, .inr (2, [.ref t1, .ref t2, .int (c.1), .int (c.2.1), .int (c.2.2)]))] tx_IO := by
  refine tx_start (cc := cX2_put) (maxL := 8) (lvs := [(0, .ref t0), (1, .int (z1)), (2, .int (k1)), (3, .long (s1)), (5, .long (v)), (7, .int (n1))]) (by decide) rfl (Nat.le_of_ble_eq_true rfl) rfl ?_
  intro pp ee ss mm args below meth cc AA ls Qc XC free hx hb hts hown hlocks hml hA hP hD hS hK hN hl hZ hex hxc hfr
  refine lv_iload_n hx hb dX2_put_0 rfl (lv_at hl 1 rfl) ?_
  refine lv_iconst (v := nI (2)) hx hb dX2_put_1 (by decide) ?_
  exact tx_S (As := [.int (z1), .int (nI (2))]) (rest := []) ⟨hx, hb, hml, hown, hts⟩ (x_X2_checkIndex l hl0 D ty (z1) (nI (2)) (hv)) (va_cwS 2 hts gX2_put_X2_checkIndex rfl rfl rfl (by decide +kernel) ⟨Nat.le_of_ble_eq_true rfl, Nat.le_of_ble_eq_true rfl⟩) hK hN hP hD hS hA hZ hex hlocks hxc hfr rfl hl.1 rfl (Nat.le_of_ble_eq_true rfl) dX2_put_2 ⟨Nat.le_of_ble_eq_true rfl, Nat.le_of_ble_eq_true rfl⟩ ⟨rfl, rfl⟩
def rmx_X2_put_2 : Room := { frames := 7, cells := 1, slots := 6, locals := 111 }
set_option maxHeartbeats 4000000 in
set_option maxRecDepth 100000 in
theorem x_X2_put_2 (l : Launch) (hl0 : l.stackTraces = false) (D : va_G) (ty : Nat → ClassId) (t0 : Nat) (t1 : Nat) (t2 : Nat) (c : tg_CT) (si : Nat) (k1 : Int32) (s1 : Int64) (v : Int64) (n1 : Int32) (hsi : si ≤ 1) (hv : ¬ k1 < 0 → k1 < nI 256 → False) : tx_M l yX2_put wsX2_put rmx_X2_put_2 D ty [.ref t0, .int (nI (si)), .int (k1), .long (s1), .long (v), .int (n1)] [(t0, .inr (2, [.ref t1, .ref t2, .int (c.1), .int (c.2.1), .int (c.2.2)]))] tx_IO := by
  refine tx_start (cc := cX2_put) (maxL := 8) (lvs := [(0, .ref t0), (1, .int (nI (si))), (2, .int (k1)), (3, .long (s1)), (5, .long (v)), (7, .int (n1))]) (by decide) rfl (Nat.le_of_ble_eq_true rfl) rfl ?_
  intro pp ee ss mm args below meth cc AA ls Qc XC free hx hb hts hown hlocks hml hA hP hD hS hK hN hl hZ hex hxc hfr
  refine lv_iload_n hx hb dX2_put_0 rfl (lv_at hl 1 rfl) ?_
  refine lv_iconst (v := nI (2)) hx hb dX2_put_1 (by decide) ?_
  refine tg_Sv (As := [.int (nI (si)), .int (nI (2))]) (rest := []) ⟨hx, hb, hml, hown, hts⟩ (k_X2_checkIndex l D ty si 2 (by omega) (by decide)) (va_cwS 2 hts gX2_put_X2_checkIndex rfl rfl rfl (by decide +kernel) ⟨Nat.le_of_ble_eq_true rfl, Nat.le_of_ble_eq_true rfl⟩) hK hN hP hD hS hA rfl hl.1 rfl (Nat.le_of_ble_eq_true rfl) dX2_put_2 ⟨Nat.le_of_ble_eq_true rfl, Nat.le_of_ble_eq_true rfl⟩ (fun H locs hP hD hS => ?_)
  refine lv_iload_n hx hb dX2_put_5 rfl (lv_at hl 2 rfl) ?_
  refine lv_sipush (v := nI (256)) hx hb dX2_put_6 (by decide) ?_
  exact tx_S (As := [.int (k1), .int (nI (256))]) (rest := []) ⟨hx, hb, hml, hown, hts⟩ (x_X2_checkIndex l hl0 D ty (k1) (nI (256)) (hv)) (va_cwS 2 hts gX2_put_X2_checkIndex rfl rfl rfl (by decide +kernel) ⟨Nat.le_of_ble_eq_true rfl, Nat.le_of_ble_eq_true rfl⟩) hK hN hP hD hS hA hZ hex hlocks hxc hfr rfl hl.1 rfl (Nat.le_of_ble_eq_true rfl) dX2_put_9 ⟨Nat.le_of_ble_eq_true rfl, Nat.le_of_ble_eq_true rfl⟩ ⟨rfl, rfl⟩
def rmx_X2_put_3 : Room := { frames := 6, cells := 1, slots := 6, locals := 90 }
set_option maxHeartbeats 4000000 in
set_option maxRecDepth 100000 in
theorem x_X2_put_3 (l : Launch) (hl0 : l.stackTraces = false) (D : va_G) (ty : Nat → ClassId) (t0 : Nat) (t1 : Nat) (t2 : Nat) (c : tg_CT) (si : Nat) (k : Nat) (s1 : Int64) (v : Int64) (n1 : Int32) (hsi : si ≤ 1) (hk : k < 256) (hv : ¬ n1 < 0 → n1 ≤ nI 8 → False) : tx_M l yX2_put wsX2_put rmx_X2_put_3 D ty [.ref t0, .int (nI (si)), .int (nI (k)), .long (s1), .long (v), .int (n1)] [(t0, .inr (2, [.ref t1, .ref t2, .int (c.1), .int (c.2.1), .int (c.2.2)]))] tx_IA := by
  refine tx_start (cc := cX2_put) (maxL := 8) (lvs := [(0, .ref t0), (1, .int (nI (si))), (2, .int (nI (k))), (3, .long (s1)), (5, .long (v)), (7, .int (n1))]) (by decide) rfl (Nat.le_of_ble_eq_true rfl) rfl ?_
  intro pp ee ss mm args below meth cc AA ls Qc XC free hx hb hts hown hlocks hml hA hP hD hS hK hN hl hZ hex hxc hfr
  refine lv_iload_n hx hb dX2_put_0 rfl (lv_at hl 1 rfl) ?_
  refine lv_iconst (v := nI (2)) hx hb dX2_put_1 (by decide) ?_
  refine tg_Sv (As := [.int (nI (si)), .int (nI (2))]) (rest := []) ⟨hx, hb, hml, hown, hts⟩ (k_X2_checkIndex l D ty si 2 (by omega) (by decide)) (va_cwS 2 hts gX2_put_X2_checkIndex rfl rfl rfl (by decide +kernel) ⟨Nat.le_of_ble_eq_true rfl, Nat.le_of_ble_eq_true rfl⟩) hK hN hP hD hS hA rfl hl.1 rfl (Nat.le_of_ble_eq_true rfl) dX2_put_2 ⟨Nat.le_of_ble_eq_true rfl, Nat.le_of_ble_eq_true rfl⟩ (fun H locs hP hD hS => ?_)
  refine lv_iload_n hx hb dX2_put_5 rfl (lv_at hl 2 rfl) ?_
  refine lv_sipush (v := nI (256)) hx hb dX2_put_6 (by decide) ?_
  refine tg_Sv (As := [.int (nI (k)), .int (nI (256))]) (rest := []) ⟨hx, hb, hml, hown, hts⟩ (k_X2_checkIndex l D ty k 256 (by omega) (by decide)) (va_cwS 2 hts gX2_put_X2_checkIndex rfl rfl rfl (by decide +kernel) ⟨Nat.le_of_ble_eq_true rfl, Nat.le_of_ble_eq_true rfl⟩) hK hN hP hD hS hA rfl hl.1 rfl (Nat.le_of_ble_eq_true rfl) dX2_put_9 ⟨Nat.le_of_ble_eq_true rfl, Nat.le_of_ble_eq_true rfl⟩ (fun H locs hP hD hS => ?_)
  refine lv_iload hx hb dX2_put_12 (lv_at hl 5 rfl) ?_
  refine lv_if_lt (tgt := 24) hx hb dX2_put_14 (by decide) (fun c14_1 => ?_) (fun c14_1 => ?_)
  · skip
    obtain ⟨-, ⟨a1, h1⟩, -, -, -, h5, hd, h7, h8⟩ := hZ
    exact vx_throwS (own := RX2) (cls := tx_IA) (names := tx_ns) (ik := 37) (is := 39) (ic := 41) hx hb hl0 hown (by decide) (by decide) (hts _ (by decide +kernel)) (hts _ (by decide +kernel)) h1 (vx_hat (fun w hw => hts w (List.mem_cons_of_mem _ (List.mem_append_left _ (List.mem_append_right _ hw)))) tx_nIA (tx_cast h5 hd)) tx_gIA h7 h8 hS (hl.1.trans hml.symm) dX2_put_24 dX2_put_27 dX2_put_28 dX2_put_30 dX2_put_33 (fun x hx => (hex x hx).elim) (by decide) (Nat.le_of_ble_eq_true rfl) (Nat.le_of_ble_eq_true rfl) (Nat.le_of_ble_eq_true rfl) hlocks (fun t ha hz hq => hxc _ _ t hP hD hS ha hz hq) (hfr _ _ hS) (Nat.le_of_ble_eq_true rfl) (Nat.le_of_ble_eq_true rfl)
  · skip
    refine lv_iload hx hb dX2_put_17 (lv_at hl 5 rfl) ?_
    refine lv_bipush (v := nI (8)) hx hb dX2_put_19 (by decide) ?_
    refine lv_icmp_le (tgt := 34) hx hb dX2_put_21 (by decide) (fun c21_2 => ?_) (fun c21_2 => ?_)
    · exact (hv c14_1 c21_2).elim
    · skip
      obtain ⟨-, ⟨a1, h1⟩, -, -, -, h5, hd, h7, h8⟩ := hZ
      exact vx_throwS (own := RX2) (cls := tx_IA) (names := tx_ns) (ik := 37) (is := 39) (ic := 41) hx hb hl0 hown (by decide) (by decide) (hts _ (by decide +kernel)) (hts _ (by decide +kernel)) h1 (vx_hat (fun w hw => hts w (List.mem_cons_of_mem _ (List.mem_append_left _ (List.mem_append_right _ hw)))) tx_nIA (tx_cast h5 hd)) tx_gIA h7 h8 hS (hl.1.trans hml.symm) dX2_put_24 dX2_put_27 dX2_put_28 dX2_put_30 dX2_put_33 (fun x hx => (hex x hx).elim) (by decide) (Nat.le_of_ble_eq_true rfl) (Nat.le_of_ble_eq_true rfl) (Nat.le_of_ble_eq_true rfl) hlocks (fun t ha hz hq => hxc _ _ t hP hD hS ha hz hq) (hfr _ _ hS) (Nat.le_of_ble_eq_true rfl) (Nat.le_of_ble_eq_true rfl)
def rmx_X2_get_1 : Room := { frames := 7, cells := 1, slots := 6, locals := 111 }
set_option maxHeartbeats 4000000 in
set_option maxRecDepth 100000 in
theorem x_X2_get_1 (l : Launch) (hl0 : l.stackTraces = false) (D : va_G) (ty : Nat → ClassId) (t0 : Nat) (t1 : Nat) (t2 : Nat) (c : tg_CT) (z1 : Int32) (k1 : Int32) (w1 : Int32) (hv : ¬ z1 < 0 → z1 < nI 2 → False) : tx_M l yX2_get wsX2_get rmx_X2_get_1 D ty [.ref t0, .int (z1), .int (k1), .int (w1)] [(t0, .inr (2, [.ref t1, .ref t2, .int (c.1), .int (c.2.1), .int (c.2.2)]))] tx_IO := by
  refine tx_start (cc := cX2_get) (maxL := 5) (lvs := [(0, .ref t0), (1, .int (z1)), (2, .int (k1)), (3, .int (w1))]) (by decide) rfl (Nat.le_of_ble_eq_true rfl) rfl ?_
  intro pp ee ss mm args below meth cc AA ls Qc XC free hx hb hts hown hlocks hml hA hP hD hS hK hN hl hZ hex hxc hfr
  refine lv_iload_n hx hb dX2_get_0 rfl (lv_at hl 1 rfl) ?_
  refine lv_iconst (v := nI (2)) hx hb dX2_get_1 (by decide) ?_
  exact tx_S (As := [.int (z1), .int (nI (2))]) (rest := []) ⟨hx, hb, hml, hown, hts⟩ (x_X2_checkIndex l hl0 D ty (z1) (nI (2)) (hv)) (va_cwS 2 hts gX2_get_X2_checkIndex rfl rfl rfl (by decide +kernel) ⟨Nat.le_of_ble_eq_true rfl, Nat.le_of_ble_eq_true rfl⟩) hK hN hP hD hS hA hZ hex hlocks hxc hfr rfl hl.1 rfl (Nat.le_of_ble_eq_true rfl) dX2_get_2 ⟨Nat.le_of_ble_eq_true rfl, Nat.le_of_ble_eq_true rfl⟩ ⟨rfl, rfl⟩
def rmx_X2_get_2 : Room := { frames := 7, cells := 1, slots := 6, locals := 111 }
set_option maxHeartbeats 4000000 in
set_option maxRecDepth 100000 in
theorem x_X2_get_2 (l : Launch) (hl0 : l.stackTraces = false) (D : va_G) (ty : Nat → ClassId) (t0 : Nat) (t1 : Nat) (t2 : Nat) (c : tg_CT) (si : Nat) (k1 : Int32) (w1 : Int32) (hsi : si ≤ 1) (hv : ¬ k1 < 0 → k1 < nI 256 → False) : tx_M l yX2_get wsX2_get rmx_X2_get_2 D ty [.ref t0, .int (nI (si)), .int (k1), .int (w1)] [(t0, .inr (2, [.ref t1, .ref t2, .int (c.1), .int (c.2.1), .int (c.2.2)]))] tx_IO := by
  refine tx_start (cc := cX2_get) (maxL := 5) (lvs := [(0, .ref t0), (1, .int (nI (si))), (2, .int (k1)), (3, .int (w1))]) (by decide) rfl (Nat.le_of_ble_eq_true rfl) rfl ?_
  intro pp ee ss mm args below meth cc AA ls Qc XC free hx hb hts hown hlocks hml hA hP hD hS hK hN hl hZ hex hxc hfr
  refine lv_iload_n hx hb dX2_get_0 rfl (lv_at hl 1 rfl) ?_
  refine lv_iconst (v := nI (2)) hx hb dX2_get_1 (by decide) ?_
  refine tg_Sv (As := [.int (nI (si)), .int (nI (2))]) (rest := []) ⟨hx, hb, hml, hown, hts⟩ (k_X2_checkIndex l D ty si 2 (by omega) (by decide)) (va_cwS 2 hts gX2_get_X2_checkIndex rfl rfl rfl (by decide +kernel) ⟨Nat.le_of_ble_eq_true rfl, Nat.le_of_ble_eq_true rfl⟩) hK hN hP hD hS hA rfl hl.1 rfl (Nat.le_of_ble_eq_true rfl) dX2_get_2 ⟨Nat.le_of_ble_eq_true rfl, Nat.le_of_ble_eq_true rfl⟩ (fun H locs hP hD hS => ?_)
  refine lv_iload_n hx hb dX2_get_5 rfl (lv_at hl 2 rfl) ?_
  refine lv_sipush (v := nI (256)) hx hb dX2_get_6 (by decide) ?_
  exact tx_S (As := [.int (k1), .int (nI (256))]) (rest := []) ⟨hx, hb, hml, hown, hts⟩ (x_X2_checkIndex l hl0 D ty (k1) (nI (256)) (hv)) (va_cwS 2 hts gX2_get_X2_checkIndex rfl rfl rfl (by decide +kernel) ⟨Nat.le_of_ble_eq_true rfl, Nat.le_of_ble_eq_true rfl⟩) hK hN hP hD hS hA hZ hex hlocks hxc hfr rfl hl.1 rfl (Nat.le_of_ble_eq_true rfl) dX2_get_9 ⟨Nat.le_of_ble_eq_true rfl, Nat.le_of_ble_eq_true rfl⟩ ⟨rfl, rfl⟩
def rmx_X2_get_3 : Room := { frames := 7, cells := 1, slots := 6, locals := 111 }
set_option maxHeartbeats 4000000 in
set_option maxRecDepth 100000 in
theorem x_X2_get_3 (l : Launch) (hl0 : l.stackTraces = false) (D : va_G) (ty : Nat → ClassId) (t0 : Nat) (t1 : Nat) (t2 : Nat) (c : tg_CT) (si : Nat) (k : Nat) (w1 : Int32) (hsi : si ≤ 1) (hk : k < 256) (hv : ¬ w1 < 0 → w1 < nI 9 → False) : tx_M l yX2_get wsX2_get rmx_X2_get_3 D ty [.ref t0, .int (nI (si)), .int (nI (k)), .int (w1)] [(t0, .inr (2, [.ref t1, .ref t2, .int (c.1), .int (c.2.1), .int (c.2.2)]))] tx_IO := by
  refine tx_start (cc := cX2_get) (maxL := 5) (lvs := [(0, .ref t0), (1, .int (nI (si))), (2, .int (nI (k))), (3, .int (w1))]) (by decide) rfl (Nat.le_of_ble_eq_true rfl) rfl ?_
  intro pp ee ss mm args below meth cc AA ls Qc XC free hx hb hts hown hlocks hml hA hP hD hS hK hN hl hZ hex hxc hfr
  refine lv_iload_n hx hb dX2_get_0 rfl (lv_at hl 1 rfl) ?_
  refine lv_iconst (v := nI (2)) hx hb dX2_get_1 (by decide) ?_
  refine tg_Sv (As := [.int (nI (si)), .int (nI (2))]) (rest := []) ⟨hx, hb, hml, hown, hts⟩ (k_X2_checkIndex l D ty si 2 (by omega) (by decide)) (va_cwS 2 hts gX2_get_X2_checkIndex rfl rfl rfl (by decide +kernel) ⟨Nat.le_of_ble_eq_true rfl, Nat.le_of_ble_eq_true rfl⟩) hK hN hP hD hS hA rfl hl.1 rfl (Nat.le_of_ble_eq_true rfl) dX2_get_2 ⟨Nat.le_of_ble_eq_true rfl, Nat.le_of_ble_eq_true rfl⟩ (fun H locs hP hD hS => ?_)
  refine lv_iload_n hx hb dX2_get_5 rfl (lv_at hl 2 rfl) ?_
  refine lv_sipush (v := nI (256)) hx hb dX2_get_6 (by decide) ?_
  refine tg_Sv (As := [.int (nI (k)), .int (nI (256))]) (rest := []) ⟨hx, hb, hml, hown, hts⟩ (k_X2_checkIndex l D ty k 256 (by omega) (by decide)) (va_cwS 2 hts gX2_get_X2_checkIndex rfl rfl rfl (by decide +kernel) ⟨Nat.le_of_ble_eq_true rfl, Nat.le_of_ble_eq_true rfl⟩) hK hN hP hD hS hA rfl hl.1 rfl (Nat.le_of_ble_eq_true rfl) dX2_get_9 ⟨Nat.le_of_ble_eq_true rfl, Nat.le_of_ble_eq_true rfl⟩ (fun H locs hP hD hS => ?_)
  refine lv_iload_n hx hb dX2_get_12 rfl (lv_at hl 3 rfl) ?_
  refine lv_bipush (v := nI (9)) hx hb dX2_get_13 (by decide) ?_
  exact tx_S (As := [.int (w1), .int (nI (9))]) (rest := []) ⟨hx, hb, hml, hown, hts⟩ (x_X2_checkIndex l hl0 D ty (w1) (nI (9)) (hv)) (va_cwS 2 hts gX2_get_X2_checkIndex rfl rfl rfl (by decide +kernel) ⟨Nat.le_of_ble_eq_true rfl, Nat.le_of_ble_eq_true rfl⟩) hK hN hP hD hS hA hZ hex hlocks hxc hfr rfl hl.1 rfl (Nat.le_of_ble_eq_true rfl) dX2_get_15 ⟨Nat.le_of_ble_eq_true rfl, Nat.le_of_ble_eq_true rfl⟩ ⟨rfl, rfl⟩
def rmx_X2_stamp_1 : Room := { frames := 7, cells := 1, slots := 6, locals := 111 }
set_option maxHeartbeats 4000000 in
set_option maxRecDepth 100000 in
theorem x_X2_stamp_1 (l : Launch) (hl0 : l.stackTraces = false) (D : va_G) (ty : Nat → ClassId) (t0 : Nat) (t1 : Nat) (t2 : Nat) (c : tg_CT) (z1 : Int32) (k1 : Int32) (hv : ¬ z1 < 0 → z1 < nI 2 → False) : tx_M l yX2_stamp wsX2_stamp rmx_X2_stamp_1 D ty [.ref t0, .int (z1), .int (k1)] [(t0, .inr (2, [.ref t1, .ref t2, .int (c.1), .int (c.2.1), .int (c.2.2)]))] tx_IO := by
  refine tx_start (cc := cX2_stamp) (maxL := 4) (lvs := [(0, .ref t0), (1, .int (z1)), (2, .int (k1))]) (by decide) rfl (Nat.le_of_ble_eq_true rfl) rfl ?_
  intro pp ee ss mm args below meth cc AA ls Qc XC free hx hb hts hown hlocks hml hA hP hD hS hK hN hl hZ hex hxc hfr
  refine lv_iload_n hx hb dX2_stamp_0 rfl (lv_at hl 1 rfl) ?_
  refine lv_iconst (v := nI (2)) hx hb dX2_stamp_1 (by decide) ?_
  exact tx_S (As := [.int (z1), .int (nI (2))]) (rest := []) ⟨hx, hb, hml, hown, hts⟩ (x_X2_checkIndex l hl0 D ty (z1) (nI (2)) (hv)) (va_cwS 2 hts gX2_stamp_X2_checkIndex rfl rfl rfl (by decide +kernel) ⟨Nat.le_of_ble_eq_true rfl, Nat.le_of_ble_eq_true rfl⟩) hK hN hP hD hS hA hZ hex hlocks hxc hfr rfl hl.1 rfl (Nat.le_of_ble_eq_true rfl) dX2_stamp_2 ⟨Nat.le_of_ble_eq_true rfl, Nat.le_of_ble_eq_true rfl⟩ ⟨rfl, rfl⟩
def rmx_X2_stamp_2 : Room := { frames := 7, cells := 1, slots := 6, locals := 111 }
set_option maxHeartbeats 4000000 in
set_option maxRecDepth 100000 in
theorem x_X2_stamp_2 (l : Launch) (hl0 : l.stackTraces = false) (D : va_G) (ty : Nat → ClassId) (t0 : Nat) (t1 : Nat) (t2 : Nat) (c : tg_CT) (si : Nat) (k1 : Int32) (hsi : si ≤ 1) (hv : ¬ k1 < 0 → k1 < nI 256 → False) : tx_M l yX2_stamp wsX2_stamp rmx_X2_stamp_2 D ty [.ref t0, .int (nI (si)), .int (k1)] [(t0, .inr (2, [.ref t1, .ref t2, .int (c.1), .int (c.2.1), .int (c.2.2)]))] tx_IO := by
  refine tx_start (cc := cX2_stamp) (maxL := 4) (lvs := [(0, .ref t0), (1, .int (nI (si))), (2, .int (k1))]) (by decide) rfl (Nat.le_of_ble_eq_true rfl) rfl ?_
  intro pp ee ss mm args below meth cc AA ls Qc XC free hx hb hts hown hlocks hml hA hP hD hS hK hN hl hZ hex hxc hfr
  refine lv_iload_n hx hb dX2_stamp_0 rfl (lv_at hl 1 rfl) ?_
  refine lv_iconst (v := nI (2)) hx hb dX2_stamp_1 (by decide) ?_
  refine tg_Sv (As := [.int (nI (si)), .int (nI (2))]) (rest := []) ⟨hx, hb, hml, hown, hts⟩ (k_X2_checkIndex l D ty si 2 (by omega) (by decide)) (va_cwS 2 hts gX2_stamp_X2_checkIndex rfl rfl rfl (by decide +kernel) ⟨Nat.le_of_ble_eq_true rfl, Nat.le_of_ble_eq_true rfl⟩) hK hN hP hD hS hA rfl hl.1 rfl (Nat.le_of_ble_eq_true rfl) dX2_stamp_2 ⟨Nat.le_of_ble_eq_true rfl, Nat.le_of_ble_eq_true rfl⟩ (fun H locs hP hD hS => ?_)
  refine lv_iload_n hx hb dX2_stamp_5 rfl (lv_at hl 2 rfl) ?_
  refine lv_sipush (v := nI (256)) hx hb dX2_stamp_6 (by decide) ?_
  exact tx_S (As := [.int (k1), .int (nI (256))]) (rest := []) ⟨hx, hb, hml, hown, hts⟩ (x_X2_checkIndex l hl0 D ty (k1) (nI (256)) (hv)) (va_cwS 2 hts gX2_stamp_X2_checkIndex rfl rfl rfl (by decide +kernel) ⟨Nat.le_of_ble_eq_true rfl, Nat.le_of_ble_eq_true rfl⟩) hK hN hP hD hS hA hZ hex hlocks hxc hfr rfl hl.1 rfl (Nat.le_of_ble_eq_true rfl) dX2_stamp_9 ⟨Nat.le_of_ble_eq_true rfl, Nat.le_of_ble_eq_true rfl⟩ ⟨rfl, rfl⟩
def rmx_X2_hash_1 : Room := { frames := 7, cells := 1, slots := 6, locals := 111 }
set_option maxHeartbeats 4000000 in
set_option maxRecDepth 100000 in
theorem x_X2_hash_1 (l : Launch) (hl0 : l.stackTraces = false) (D : va_G) (ty : Nat → ClassId) (t0 : Nat) (t1 : Nat) (t2 : Nat) (c : tg_CT) (z1 : Int32) (k1 : Int32) (n1 : Int32) (hv : ¬ z1 < 0 → z1 < nI 2 → False) : tx_M l yX2_hash wsX2_hash rmx_X2_hash_1 D ty [.ref t0, .int (z1), .int (k1), .int (n1)] [(t0, .inr (2, [.ref t1, .ref t2, .int (c.1), .int (c.2.1), .int (c.2.2)]))] tx_IO := by
  refine tx_start (cc := cX2_hash) (maxL := 4) (lvs := [(0, .ref t0), (1, .int (z1)), (2, .int (k1)), (3, .int (n1))]) (by decide) rfl (Nat.le_of_ble_eq_true rfl) rfl ?_
  intro pp ee ss mm args below meth cc AA ls Qc XC free hx hb hts hown hlocks hml hA hP hD hS hK hN hl hZ hex hxc hfr
  refine lv_iload_n hx hb dX2_hash_0 rfl (lv_at hl 1 rfl) ?_
  refine lv_iconst (v := nI (2)) hx hb dX2_hash_1 (by decide) ?_
  exact tx_S (As := [.int (z1), .int (nI (2))]) (rest := []) ⟨hx, hb, hml, hown, hts⟩ (x_X2_checkIndex l hl0 D ty (z1) (nI (2)) (hv)) (va_cwS 2 hts gX2_hash_X2_checkIndex rfl rfl rfl (by decide +kernel) ⟨Nat.le_of_ble_eq_true rfl, Nat.le_of_ble_eq_true rfl⟩) hK hN hP hD hS hA hZ hex hlocks hxc hfr rfl hl.1 rfl (Nat.le_of_ble_eq_true rfl) dX2_hash_2 ⟨Nat.le_of_ble_eq_true rfl, Nat.le_of_ble_eq_true rfl⟩ ⟨rfl, rfl⟩
def rmx_X2_hash_2 : Room := { frames := 7, cells := 1, slots := 6, locals := 111 }
set_option maxHeartbeats 4000000 in
set_option maxRecDepth 100000 in
theorem x_X2_hash_2 (l : Launch) (hl0 : l.stackTraces = false) (D : va_G) (ty : Nat → ClassId) (t0 : Nat) (t1 : Nat) (t2 : Nat) (c : tg_CT) (si : Nat) (k1 : Int32) (n1 : Int32) (hsi : si ≤ 1) (hv : ¬ k1 < 0 → k1 < nI 4 → False) : tx_M l yX2_hash wsX2_hash rmx_X2_hash_2 D ty [.ref t0, .int (nI (si)), .int (k1), .int (n1)] [(t0, .inr (2, [.ref t1, .ref t2, .int (c.1), .int (c.2.1), .int (c.2.2)]))] tx_IO := by
  refine tx_start (cc := cX2_hash) (maxL := 4) (lvs := [(0, .ref t0), (1, .int (nI (si))), (2, .int (k1)), (3, .int (n1))]) (by decide) rfl (Nat.le_of_ble_eq_true rfl) rfl ?_
  intro pp ee ss mm args below meth cc AA ls Qc XC free hx hb hts hown hlocks hml hA hP hD hS hK hN hl hZ hex hxc hfr
  refine lv_iload_n hx hb dX2_hash_0 rfl (lv_at hl 1 rfl) ?_
  refine lv_iconst (v := nI (2)) hx hb dX2_hash_1 (by decide) ?_
  refine tg_Sv (As := [.int (nI (si)), .int (nI (2))]) (rest := []) ⟨hx, hb, hml, hown, hts⟩ (k_X2_checkIndex l D ty si 2 (by omega) (by decide)) (va_cwS 2 hts gX2_hash_X2_checkIndex rfl rfl rfl (by decide +kernel) ⟨Nat.le_of_ble_eq_true rfl, Nat.le_of_ble_eq_true rfl⟩) hK hN hP hD hS hA rfl hl.1 rfl (Nat.le_of_ble_eq_true rfl) dX2_hash_2 ⟨Nat.le_of_ble_eq_true rfl, Nat.le_of_ble_eq_true rfl⟩ (fun H locs hP hD hS => ?_)
  refine lv_iload_n hx hb dX2_hash_5 rfl (lv_at hl 2 rfl) ?_
  refine lv_iconst (v := nI (4)) hx hb dX2_hash_6 (by decide) ?_
  exact tx_S (As := [.int (k1), .int (nI (4))]) (rest := []) ⟨hx, hb, hml, hown, hts⟩ (x_X2_checkIndex l hl0 D ty (k1) (nI (4)) (hv)) (va_cwS 2 hts gX2_hash_X2_checkIndex rfl rfl rfl (by decide +kernel) ⟨Nat.le_of_ble_eq_true rfl, Nat.le_of_ble_eq_true rfl⟩) hK hN hP hD hS hA hZ hex hlocks hxc hfr rfl hl.1 rfl (Nat.le_of_ble_eq_true rfl) dX2_hash_7 ⟨Nat.le_of_ble_eq_true rfl, Nat.le_of_ble_eq_true rfl⟩ ⟨rfl, rfl⟩
def rmx_X2_hash_3 : Room := { frames := 7, cells := 1, slots := 6, locals := 111 }
set_option maxHeartbeats 4000000 in
set_option maxRecDepth 100000 in
theorem x_X2_hash_3 (l : Launch) (hl0 : l.stackTraces = false) (D : va_G) (ty : Nat → ClassId) (t0 : Nat) (t1 : Nat) (t2 : Nat) (c : tg_CT) (si : Nat) (k : Nat) (n1 : Int32) (hsi : si ≤ 1) (hk : k < 4) (hv : ¬ n1 < 0 → n1 < nI (4 ^ k) → False) : tx_M l yX2_hash wsX2_hash rmx_X2_hash_3 D ty [.ref t0, .int (nI (si)), .int (nI (k)), .int (n1)] [(t0, .inr (2, [.ref t1, .ref t2, .int (c.1), .int (c.2.1), .int (c.2.2)]))] tx_IO := by
  refine tx_start (cc := cX2_hash) (maxL := 4) (lvs := [(0, .ref t0), (1, .int (nI (si))), (2, .int (nI (k))), (3, .int (n1))]) (by decide) rfl (Nat.le_of_ble_eq_true rfl) rfl ?_
  intro pp ee ss mm args below meth cc AA ls Qc XC free hx hb hts hown hlocks hml hA hP hD hS hK hN hl hZ hex hxc hfr
  refine lv_iload_n hx hb dX2_hash_0 rfl (lv_at hl 1 rfl) ?_
  refine lv_iconst (v := nI (2)) hx hb dX2_hash_1 (by decide) ?_
  refine tg_Sv (As := [.int (nI (si)), .int (nI (2))]) (rest := []) ⟨hx, hb, hml, hown, hts⟩ (k_X2_checkIndex l D ty si 2 (by omega) (by decide)) (va_cwS 2 hts gX2_hash_X2_checkIndex rfl rfl rfl (by decide +kernel) ⟨Nat.le_of_ble_eq_true rfl, Nat.le_of_ble_eq_true rfl⟩) hK hN hP hD hS hA rfl hl.1 rfl (Nat.le_of_ble_eq_true rfl) dX2_hash_2 ⟨Nat.le_of_ble_eq_true rfl, Nat.le_of_ble_eq_true rfl⟩ (fun H locs hP hD hS => ?_)
  refine lv_iload_n hx hb dX2_hash_5 rfl (lv_at hl 2 rfl) ?_
  refine lv_iconst (v := nI (4)) hx hb dX2_hash_6 (by decide) ?_
  refine tg_Sv (As := [.int (nI (k)), .int (nI (4))]) (rest := []) ⟨hx, hb, hml, hown, hts⟩ (k_X2_checkIndex l D ty k 4 (by omega) (by decide)) (va_cwS 2 hts gX2_hash_X2_checkIndex rfl rfl rfl (by decide +kernel) ⟨Nat.le_of_ble_eq_true rfl, Nat.le_of_ble_eq_true rfl⟩) hK hN hP hD hS hA rfl hl.1 rfl (Nat.le_of_ble_eq_true rfl) dX2_hash_7 ⟨Nat.le_of_ble_eq_true rfl, Nat.le_of_ble_eq_true rfl⟩ (fun H locs hP hD hS => ?_)
  refine lv_iload_n hx hb dX2_hash_10 rfl (lv_at hl 3 rfl) ?_
  refine lv_iload_n hx hb dX2_hash_11 rfl (lv_at hl 2 rfl) ?_
  refine tg_Si (As := [.int (nI (k))]) (rest := [.int (n1)]) ⟨hx, hb, hml, hown, hts⟩ (k_X2_nodesOf l D ty k hk) (va_cwS 1 hts gX2_hash_X2_nodesOf rfl rfl rfl (by decide +kernel) ⟨Nat.le_of_ble_eq_true rfl, Nat.le_of_ble_eq_true rfl⟩) hK hN hP hD hS hA rfl hl.1 rfl (Nat.le_of_ble_eq_true rfl) dX2_hash_12 ⟨Nat.le_of_ble_eq_true rfl, Nat.le_of_ble_eq_true rfl⟩ (fun H locs hP hD hS => ?_)
  exact tx_S (As := [.int (n1), .int (nI (4 ^ k))]) (rest := []) ⟨hx, hb, hml, hown, hts⟩ (x_X2_checkIndex l hl0 D ty (n1) (nI (4 ^ k)) (hv)) (va_cwS 2 hts gX2_hash_X2_checkIndex rfl rfl rfl (by decide +kernel) ⟨Nat.le_of_ble_eq_true rfl, Nat.le_of_ble_eq_true rfl⟩) hK hN hP hD hS hA hZ hex hlocks hxc hfr rfl hl.1 rfl (Nat.le_of_ble_eq_true rfl) dX2_hash_15 ⟨Nat.le_of_ble_eq_true rfl, Nat.le_of_ble_eq_true rfl⟩ ⟨rfl, rfl⟩
def rmx_X2_start_1 : Room := { frames := 7, cells := 1, slots := 6, locals := 111 }
set_option maxHeartbeats 4000000 in
set_option maxRecDepth 100000 in
theorem x_X2_start_1 (l : Launch) (hl0 : l.stackTraces = false) (D : va_G) (ty : Nat → ClassId) (t0 : Nat) (t1 : Nat) (t2 : Nat) (c : tg_CT) (z1 : Int32) (hv : ¬ z1 < 0 → z1 < nI 2 → False) : tx_M l yX2_start wsX2_start rmx_X2_start_1 D ty [.ref t0, .int (z1)] [(t0, .inr (2, [.ref t1, .ref t2, .int (c.1), .int (c.2.1), .int (c.2.2)]))] tx_IO := by
  refine tx_start (cc := cX2_start) (maxL := 3) (lvs := [(0, .ref t0), (1, .int (z1))]) (by decide) rfl (Nat.le_of_ble_eq_true rfl) rfl ?_
  intro pp ee ss mm args below meth cc AA ls Qc XC free hx hb hts hown hlocks hml hA hP hD hS hK hN hl hZ hex hxc hfr
  refine lv_iload_n hx hb dX2_start_0 rfl (lv_at hl 1 rfl) ?_
  refine lv_iconst (v := nI (2)) hx hb dX2_start_1 (by decide) ?_
  exact tx_S (As := [.int (z1), .int (nI (2))]) (rest := []) ⟨hx, hb, hml, hown, hts⟩ (x_X2_checkIndex l hl0 D ty (z1) (nI (2)) (hv)) (va_cwS 2 hts gX2_start_X2_checkIndex rfl rfl rfl (by decide +kernel) ⟨Nat.le_of_ble_eq_true rfl, Nat.le_of_ble_eq_true rfl⟩) hK hN hP hD hS hA hZ hex hlocks hxc hfr rfl hl.1 rfl (Nat.le_of_ble_eq_true rfl) dX2_start_2 ⟨Nat.le_of_ble_eq_true rfl, Nat.le_of_ble_eq_true rfl⟩ ⟨rfl, rfl⟩
def rmx_X2_step_1 : Room := { frames := 7, cells := 1, slots := 6, locals := 111 }
set_option maxHeartbeats 4000000 in
set_option maxRecDepth 100000 in
theorem x_X2_step_1 (l : Launch) (hl0 : l.stackTraces = false) (D : va_G) (ty : Nat → ClassId) (t0 : Nat) (t1 : Nat) (t2 : Nat) (c : tg_CT) (z1 : Int32) (hv : ¬ z1 < 0 → z1 < nI 2 → False) : tx_M l yX2_step wsX2_step rmx_X2_step_1 D ty [.ref t0, .int (z1)] [(t0, .inr (2, [.ref t1, .ref t2, .int (c.1), .int (c.2.1), .int (c.2.2)]))] tx_IO := by
  refine tx_start (cc := cX2_step) (maxL := 2) (lvs := [(0, .ref t0), (1, .int (z1))]) (by decide) rfl (Nat.le_of_ble_eq_true rfl) rfl ?_
  intro pp ee ss mm args below meth cc AA ls Qc XC free hx hb hts hown hlocks hml hA hP hD hS hK hN hl hZ hex hxc hfr
  refine lv_iload_n hx hb dX2_step_0 rfl (lv_at hl 1 rfl) ?_
  refine lv_iconst (v := nI (2)) hx hb dX2_step_1 (by decide) ?_
  exact tx_S (As := [.int (z1), .int (nI (2))]) (rest := []) ⟨hx, hb, hml, hown, hts⟩ (x_X2_checkIndex l hl0 D ty (z1) (nI (2)) (hv)) (va_cwS 2 hts gX2_step_X2_checkIndex rfl rfl rfl (by decide +kernel) ⟨Nat.le_of_ble_eq_true rfl, Nat.le_of_ble_eq_true rfl⟩) hK hN hP hD hS hA hZ hex hlocks hxc hfr rfl hl.1 rfl (Nat.le_of_ble_eq_true rfl) dX2_step_2 ⟨Nat.le_of_ble_eq_true rfl, Nat.le_of_ble_eq_true rfl⟩ ⟨rfl, rfl⟩
def rmx_X2_lose_1 : Room := { frames := 7, cells := 1, slots := 6, locals := 111 }
set_option maxHeartbeats 4000000 in
set_option maxRecDepth 100000 in
theorem x_X2_lose_1 (l : Launch) (hl0 : l.stackTraces = false) (D : va_G) (ty : Nat → ClassId) (t0 : Nat) (t1 : Nat) (t2 : Nat) (c : tg_CT) (z1 : Int32) (hv : ¬ z1 < 0 → z1 < nI 2 → False) : tx_M l yX2_lose wsX2_lose rmx_X2_lose_1 D ty [.ref t0, .int (z1)] [(t0, .inr (2, [.ref t1, .ref t2, .int (c.1), .int (c.2.1), .int (c.2.2)]))] tx_IO := by
  refine tx_start (cc := cX2_lose) (maxL := 3) (lvs := [(0, .ref t0), (1, .int (z1))]) (by decide) rfl (Nat.le_of_ble_eq_true rfl) rfl ?_
  intro pp ee ss mm args below meth cc AA ls Qc XC free hx hb hts hown hlocks hml hA hP hD hS hK hN hl hZ hex hxc hfr
  refine lv_iload_n hx hb dX2_lose_0 rfl (lv_at hl 1 rfl) ?_
  refine lv_iconst (v := nI (2)) hx hb dX2_lose_1 (by decide) ?_
  exact tx_S (As := [.int (z1), .int (nI (2))]) (rest := []) ⟨hx, hb, hml, hown, hts⟩ (x_X2_checkIndex l hl0 D ty (z1) (nI (2)) (hv)) (va_cwS 2 hts gX2_lose_X2_checkIndex rfl rfl rfl (by decide +kernel) ⟨Nat.le_of_ble_eq_true rfl, Nat.le_of_ble_eq_true rfl⟩) hK hN hP hD hS hA hZ hex hlocks hxc hfr rfl hl.1 rfl (Nat.le_of_ble_eq_true rfl) dX2_lose_2 ⟨Nat.le_of_ble_eq_true rfl, Nat.le_of_ble_eq_true rfl⟩ ⟨rfl, rfl⟩
def rmx_X2_message_1 : Room := { frames := 7, cells := 1, slots := 6, locals := 111 }
set_option maxHeartbeats 4000000 in
set_option maxRecDepth 100000 in
theorem x_X2_message_1 (l : Launch) (hl0 : l.stackTraces = false) (D : va_G) (ty : Nat → ClassId) (t0 : Nat) (t1 : Nat) (t2 : Nat) (c : tg_CT) (z1 : Int32) (k1 : Int32) (w1 : Int32) (hv : ¬ z1 < 0 → z1 < nI 2 → False) : tx_M l yX2_message wsX2_message rmx_X2_message_1 D ty [.ref t0, .int (z1), .int (k1), .int (w1)] [(t0, .inr (2, [.ref t1, .ref t2, .int (c.1), .int (c.2.1), .int (c.2.2)]))] tx_IO := by
  refine tx_start (cc := cX2_message) (maxL := 6) (lvs := [(0, .ref t0), (1, .int (z1)), (2, .int (k1)), (3, .int (w1))]) (by decide) rfl (Nat.le_of_ble_eq_true rfl) rfl ?_
  intro pp ee ss mm args below meth cc AA ls Qc XC free hx hb hts hown hlocks hml hA hP hD hS hK hN hl hZ hex hxc hfr
  refine lv_iload_n hx hb dX2_message_0 rfl (lv_at hl 1 rfl) ?_
  refine lv_iconst (v := nI (2)) hx hb dX2_message_1 (by decide) ?_
  exact tx_S (As := [.int (z1), .int (nI (2))]) (rest := []) ⟨hx, hb, hml, hown, hts⟩ (x_X2_checkIndex l hl0 D ty (z1) (nI (2)) (hv)) (va_cwS 2 hts gX2_message_X2_checkIndex rfl rfl rfl (by decide +kernel) ⟨Nat.le_of_ble_eq_true rfl, Nat.le_of_ble_eq_true rfl⟩) hK hN hP hD hS hA hZ hex hlocks hxc hfr rfl hl.1 rfl (Nat.le_of_ble_eq_true rfl) dX2_message_2 ⟨Nat.le_of_ble_eq_true rfl, Nat.le_of_ble_eq_true rfl⟩ ⟨rfl, rfl⟩
def rmx_X2_message_2 : Room := { frames := 7, cells := 1, slots := 6, locals := 111 }
theorem inx_X2_message_2_X0 : ∀ w ∈ wsX00, w ∈ wsX2_message := by decide +kernel
theorem inx_X2_message_2_X2 : ∀ w ∈ wsX20, w ∈ wsX2_message := by decide +kernel
set_option maxHeartbeats 4000000 in
set_option maxRecDepth 100000 in
theorem x_X2_message_2 (l : Launch) (hl0 : l.stackTraces = false) (D : va_G) (ty : Nat → ClassId) (t0 : Nat) (t1 : Nat) (t2 : Nat) (c : tg_CT) (sw : Nat → Option Nat) (rw : Nat → Option Nat) (si : Nat) (f0 : Nat) (d1 : Nat) (d2 : Nat) (d3 : Nat) (d4 : Nat) (d5 : Nat) (d6 : Nat) (d7 : Nat) (d8 : Nat) (q : tg_RS) (w : Nat) (k1 : Int32) (w1 : Int32) (hsi : si ≤ 1) (hri : rw si = some f0) (hv : ¬ k1 < 0 → k1 < nI (tg_rz q) → False) : tx_M l yX2_message wsX2_message rmx_X2_message_2 D ty [.ref t0, .int (nI (si)), .int (k1), .int (w1)] [(t0, .inr (2, [.ref t1, .ref t2, .int (c.1), .int (c.2.1), .int (c.2.2)])), (t2, .inl (ty 4, 2, .inr (.inr (.inr (.inr rw))))), (f0, .inr (0, [.ref d1, .ref d2, .ref d3, .ref d4, .ref d5, .ref d6, .ref d7, .ref d8, .int (nI (q.2.2.2.2.2.2.2.2)), .int (nI (w))]))] tx_IO := by
  refine tx_start (cc := cX2_message) (maxL := 6) (lvs := [(0, .ref t0), (1, .int (nI (si))), (2, .int (k1)), (3, .int (w1))]) (by decide) rfl (Nat.le_of_ble_eq_true rfl) rfl ?_
  intro pp ee ss mm args below meth cc AA ls Qc XC free hx hb hts hown hlocks hml hA hP hD hS hK hN hl hZ hex hxc hfr
  have hinX0 := inx_X2_message_2_X0
  have hinX2 := inx_X2_message_2_X2
  refine lv_iload_n hx hb dX2_message_0 rfl (lv_at hl 1 rfl) ?_
  refine lv_iconst (v := nI (2)) hx hb dX2_message_1 (by decide) ?_
  refine tg_Sv (As := [.int (nI (si)), .int (nI (2))]) (rest := []) ⟨hx, hb, hml, hown, hts⟩ (k_X2_checkIndex l D ty si 2 (by omega) (by decide)) (va_cwS 2 hts gX2_message_X2_checkIndex rfl rfl rfl (by decide +kernel) ⟨Nat.le_of_ble_eq_true rfl, Nat.le_of_ble_eq_true rfl⟩) hK hN hP hD hS hA rfl hl.1 rfl (Nat.le_of_ble_eq_true rfl) dX2_message_2 ⟨Nat.le_of_ble_eq_true rfl, Nat.le_of_ble_eq_true rfl⟩ (fun H locs hP hD hS => ?_)
  refine lv_aload_n hx hb dX2_message_5 rfl (lv_at hl 0 rfl) ?_
  refine va_get (D := D) (ci := 2) (v := .ref t2) (C := RX2) (T := TX2) (N := 5) hx hb hts hinX2 hown hK hP 0 rfl rfl 1 (by decide) (hts (.fieldLink RX2 17 "TreeGossip" "rows" "[LTreeGossip$Row;") (by decide +kernel)) (fun _ h9 => h9) rfl dX2_message_6 ?_
  refine lv_iload_n hx hb dX2_message_9 rfl (lv_at hl 1 rfl) ?_
  refine tg_aald hx hb hK hP 1 4 (C := RX0) rfl rfl (k := si) (z := f0) (by omega) (by decide) hri dX2_message_10 ?_
  refine lv_astore (lv' := [(4, .ref f0), (0, .ref t0), (1, .int (nI (si))), (2, .int (k1)), (3, .int (w1))]) hx hb dX2_message_11 hl (by decide) rfl (fun ls hl => ?_)
  refine lv_iload_n hx hb dX2_message_13 rfl (lv_at hl 3 rfl) ?_
  refine lv_aload hx hb dX2_message_14 (lv_at hl 0 rfl) ?_
  refine va_get (D := D) (ci := 0) (v := .int (nI (q.2.2.2.2.2.2.2.2))) (C := RX0) (T := TX0) (N := 10) hx hb hts hinX0 hown hK hP 2 rfl rfl 8 (by decide) (hts (.fieldLink RX2 93 "TreeGossip$Row" "size" "I") (by decide +kernel)) (fun _ h9 => h9) rfl dX2_message_16 ?_
  exact tx_S (As := [.int (k1), .int (nI (q.2.2.2.2.2.2.2.2))]) (rest := []) ⟨hx, hb, hml, hown, hts⟩ (x_X2_checkIndex l hl0 D ty (k1) (nI (q.2.2.2.2.2.2.2.2)) (hv)) (va_cwS 2 hts gX2_message_X2_checkIndex rfl rfl rfl (by decide +kernel) ⟨Nat.le_of_ble_eq_true rfl, Nat.le_of_ble_eq_true rfl⟩) hK hN hP hD hS hA hZ hex hlocks hxc hfr rfl hl.1 rfl (Nat.le_of_ble_eq_true rfl) dX2_message_19 ⟨Nat.le_of_ble_eq_true rfl, Nat.le_of_ble_eq_true rfl⟩ ⟨rfl, rfl⟩
def rmx_X2_message_3 : Room := { frames := 7, cells := 1, slots := 6, locals := 111 }
theorem inx_X2_message_3_X0 : ∀ w ∈ wsX00, w ∈ wsX2_message := by decide +kernel
theorem inx_X2_message_3_X2 : ∀ w ∈ wsX20, w ∈ wsX2_message := by decide +kernel
set_option maxHeartbeats 4000000 in
set_option maxRecDepth 100000 in
theorem x_X2_message_3 (l : Launch) (hl0 : l.stackTraces = false) (D : va_G) (ty : Nat → ClassId) (t0 : Nat) (t1 : Nat) (t2 : Nat) (c : tg_CT) (sw : Nat → Option Nat) (rw : Nat → Option Nat) (si : Nat) (f0 : Nat) (d1 : Nat) (d2 : Nat) (d3 : Nat) (d4 : Nat) (d5 : Nat) (d6 : Nat) (d7 : Nat) (d8 : Nat) (q : tg_RS) (w : Nat) (k : Nat) (w1 : Int32) (hsi : si ≤ 1) (hri : rw si = some f0) (hk : k < tg_rz q) (hyu : tg_rz q ≤ 100) (hv : ¬ w1 < 0 → w1 < nI 8 → False) : tx_M l yX2_message wsX2_message rmx_X2_message_3 D ty [.ref t0, .int (nI (si)), .int (nI (k)), .int (w1)] [(t0, .inr (2, [.ref t1, .ref t2, .int (c.1), .int (c.2.1), .int (c.2.2)])), (t2, .inl (ty 4, 2, .inr (.inr (.inr (.inr rw))))), (f0, .inr (0, [.ref d1, .ref d2, .ref d3, .ref d4, .ref d5, .ref d6, .ref d7, .ref d8, .int (nI (q.2.2.2.2.2.2.2.2)), .int (nI (w))]))] tx_IO := by
  refine tx_start (cc := cX2_message) (maxL := 6) (lvs := [(0, .ref t0), (1, .int (nI (si))), (2, .int (nI (k))), (3, .int (w1))]) (by decide) rfl (Nat.le_of_ble_eq_true rfl) rfl ?_
  intro pp ee ss mm args below meth cc AA ls Qc XC free hx hb hts hown hlocks hml hA hP hD hS hK hN hl hZ hex hxc hfr
  have hinX0 := inx_X2_message_3_X0
  have hinX2 := inx_X2_message_3_X2
  refine lv_iload_n hx hb dX2_message_0 rfl (lv_at hl 1 rfl) ?_
  refine lv_iconst (v := nI (2)) hx hb dX2_message_1 (by decide) ?_
  refine tg_Sv (As := [.int (nI (si)), .int (nI (2))]) (rest := []) ⟨hx, hb, hml, hown, hts⟩ (k_X2_checkIndex l D ty si 2 (by omega) (by decide)) (va_cwS 2 hts gX2_message_X2_checkIndex rfl rfl rfl (by decide +kernel) ⟨Nat.le_of_ble_eq_true rfl, Nat.le_of_ble_eq_true rfl⟩) hK hN hP hD hS hA rfl hl.1 rfl (Nat.le_of_ble_eq_true rfl) dX2_message_2 ⟨Nat.le_of_ble_eq_true rfl, Nat.le_of_ble_eq_true rfl⟩ (fun H locs hP hD hS => ?_)
  refine lv_aload_n hx hb dX2_message_5 rfl (lv_at hl 0 rfl) ?_
  refine va_get (D := D) (ci := 2) (v := .ref t2) (C := RX2) (T := TX2) (N := 5) hx hb hts hinX2 hown hK hP 0 rfl rfl 1 (by decide) (hts (.fieldLink RX2 17 "TreeGossip" "rows" "[LTreeGossip$Row;") (by decide +kernel)) (fun _ h9 => h9) rfl dX2_message_6 ?_
  refine lv_iload_n hx hb dX2_message_9 rfl (lv_at hl 1 rfl) ?_
  refine tg_aald hx hb hK hP 1 4 (C := RX0) rfl rfl (k := si) (z := f0) (by omega) (by decide) hri dX2_message_10 ?_
  refine lv_astore (lv' := [(4, .ref f0), (0, .ref t0), (1, .int (nI (si))), (2, .int (nI (k))), (3, .int (w1))]) hx hb dX2_message_11 hl (by decide) rfl (fun ls hl => ?_)
  refine lv_iload_n hx hb dX2_message_13 rfl (lv_at hl 3 rfl) ?_
  refine lv_aload hx hb dX2_message_14 (lv_at hl 0 rfl) ?_
  refine va_get (D := D) (ci := 0) (v := .int (nI (q.2.2.2.2.2.2.2.2))) (C := RX0) (T := TX0) (N := 10) hx hb hts hinX0 hown hK hP 2 rfl rfl 8 (by decide) (hts (.fieldLink RX2 93 "TreeGossip$Row" "size" "I") (by decide +kernel)) (fun _ h9 => h9) rfl dX2_message_16 ?_
  refine tg_Sv (As := [.int (nI (k)), .int (nI (q.2.2.2.2.2.2.2.2))]) (rest := []) ⟨hx, hb, hml, hown, hts⟩ (k_X2_checkIndex l D ty k (q.2.2.2.2.2.2.2.2) hk (by show tg_rz q < 2 ^ 31; omega)) (va_cwS 2 hts gX2_message_X2_checkIndex rfl rfl rfl (by decide +kernel) ⟨Nat.le_of_ble_eq_true rfl, Nat.le_of_ble_eq_true rfl⟩) hK hN hP hD hS hA rfl hl.1 rfl (Nat.le_of_ble_eq_true rfl) dX2_message_19 ⟨Nat.le_of_ble_eq_true rfl, Nat.le_of_ble_eq_true rfl⟩ (fun H locs hP hD hS => ?_)
  refine lv_iload_n hx hb dX2_message_22 rfl (lv_at hl 4 rfl) ?_
  refine lv_bipush (v := nI (8)) hx hb dX2_message_23 (by decide) ?_
  exact tx_S (As := [.int (w1), .int (nI (8))]) (rest := []) ⟨hx, hb, hml, hown, hts⟩ (x_X2_checkIndex l hl0 D ty (w1) (nI (8)) (hv)) (va_cwS 2 hts gX2_message_X2_checkIndex rfl rfl rfl (by decide +kernel) ⟨Nat.le_of_ble_eq_true rfl, Nat.le_of_ble_eq_true rfl⟩) hK hN hP hD hS hA hZ hex hlocks hxc hfr rfl hl.1 rfl (Nat.le_of_ble_eq_true rfl) dX2_message_25 ⟨Nat.le_of_ble_eq_true rfl, Nat.le_of_ble_eq_true rfl⟩ ⟨rfl, rfl⟩
def rmx_X2_count_1 : Room := { frames := 6, cells := 1, slots := 6, locals := 90 }
set_option maxHeartbeats 4000000 in
set_option maxRecDepth 100000 in
theorem x_X2_count_1 (l : Launch) (hl0 : l.stackTraces = false) (D : va_G) (ty : Nat → ClassId) (t0 : Nat) (t1 : Nat) (t2 : Nat) (c : tg_CT) (w1 : Int32) (hv : w1.toInt < 0 ∨ 6 < w1.toInt) : tx_M l yX2_count wsX2_count rmx_X2_count_1 D ty [.ref t0, .int (w1)] [(t0, .inr (2, [.ref t1, .ref t2, .int (c.1), .int (c.2.1), .int (c.2.2)]))] tx_IO := by
  refine tx_start (cc := cX2_count) (maxL := 2) (lvs := [(0, .ref t0), (1, .int (w1))]) (by decide) rfl (Nat.le_of_ble_eq_true rfl) rfl ?_
  intro pp ee ss mm args below meth cc AA ls Qc XC free hx hb hts hown hlocks hml hA hP hD hS hK hN hl hZ hex hxc hfr
  refine lv_iload_n hx hb dX2_count_0 rfl (lv_at hl 1 rfl) ?_
  refine lv_tableOut (tgt := 99) hx hb dX2_count_1 hv (by decide) ?_
  obtain ⟨-, -, -, ⟨a1, h1⟩, h5, -, hd, h7, h8⟩ := hZ
  exact vx_throwS (own := RX2) (cls := tx_IO) (names := tx_ns) (ik := 132) (is := 134) (ic := 136) hx hb hl0 hown (by decide) (by decide) (hts _ (by decide +kernel)) (hts _ (by decide +kernel)) h1 (vx_hat (fun w hw => hts w (List.mem_cons_of_mem _ (List.mem_append_right _ hw))) tx_nIO (tx_cast h5 hd)) tx_gIO h7 h8 hS (hl.1.trans hml.symm) dX2_count_99 dX2_count_102 dX2_count_103 dX2_count_105 dX2_count_108 (fun x hx => (hex x hx).elim) (by decide) (Nat.le_of_ble_eq_true rfl) (Nat.le_of_ble_eq_true rfl) (Nat.le_of_ble_eq_true rfl) hlocks (fun t ha hz hq => hxc _ _ t hP hD hS ha hz hq) (hfr _ _ hS) (Nat.le_of_ble_eq_true rfl) (Nat.le_of_ble_eq_true rfl)
def rmx_X2_run_1 : Room := { frames := 6, cells := 1, slots := 6, locals := 90 }
set_option maxHeartbeats 4000000 in
set_option maxRecDepth 100000 in
theorem x_X2_run_1 (l : Launch) (hl0 : l.stackTraces = false) (D : va_G) (ty : Nat → ClassId) (t0 : Nat) (t1 : Nat) (t2 : Nat) (c : tg_CT) (n1 : Int32) (hv : ¬ n1 < 0 → n1 ≤ nI 1000 → False) : tx_M l yX2_run wsX2_run rmx_X2_run_1 D ty [.ref t0, .int (n1)] [(t0, .inr (2, [.ref t1, .ref t2, .int (c.1), .int (c.2.1), .int (c.2.2)]))] tx_IA := by
  refine tx_start (cc := cX2_run) (maxL := 4) (lvs := [(0, .ref t0), (1, .int (n1))]) (by decide) rfl (Nat.le_of_ble_eq_true rfl) rfl ?_
  intro pp ee ss mm args below meth cc AA ls Qc XC free hx hb hts hown hlocks hml hA hP hD hS hK hN hl hZ hex hxc hfr
  refine lv_iload_n hx hb dX2_run_0 rfl (lv_at hl 1 rfl) ?_
  refine lv_if_lt (tgt := 11) hx hb dX2_run_1 (by decide) (fun c1_1 => ?_) (fun c1_1 => ?_)
  · skip
    obtain ⟨-, -, ⟨a1, h1⟩, -, -, h5, hd, h7, h8⟩ := hZ
    exact vx_throwS (own := RX2) (cls := tx_IA) (names := tx_ns) (ik := 37) (is := 103) (ic := 41) hx hb hl0 hown (by decide) (by decide) (hts _ (by decide +kernel)) (hts _ (by decide +kernel)) h1 (vx_hat (fun w hw => hts w (List.mem_cons_of_mem _ (List.mem_append_right _ hw))) tx_nIA (tx_cast h5 hd)) tx_gIA h7 h8 hS (hl.1.trans hml.symm) dX2_run_11 dX2_run_14 dX2_run_15 dX2_run_17 dX2_run_20 (fun x hx => (hex x hx).elim) (by decide) (Nat.le_of_ble_eq_true rfl) (Nat.le_of_ble_eq_true rfl) (Nat.le_of_ble_eq_true rfl) hlocks (fun t ha hz hq => hxc _ _ t hP hD hS ha hz hq) (hfr _ _ hS) (Nat.le_of_ble_eq_true rfl) (Nat.le_of_ble_eq_true rfl)
  · skip
    refine lv_iload_n hx hb dX2_run_4 rfl (lv_at hl 1 rfl) ?_
    refine lv_sipush (v := nI (1000)) hx hb dX2_run_5 (by decide) ?_
    refine lv_icmp_le (tgt := 21) hx hb dX2_run_8 (by decide) (fun c8_2 => ?_) (fun c8_2 => ?_)
    · exact (hv c1_1 c8_2).elim
    · skip
      obtain ⟨-, -, ⟨a1, h1⟩, -, -, h5, hd, h7, h8⟩ := hZ
      exact vx_throwS (own := RX2) (cls := tx_IA) (names := tx_ns) (ik := 37) (is := 103) (ic := 41) hx hb hl0 hown (by decide) (by decide) (hts _ (by decide +kernel)) (hts _ (by decide +kernel)) h1 (vx_hat (fun w hw => hts w (List.mem_cons_of_mem _ (List.mem_append_right _ hw))) tx_nIA (tx_cast h5 hd)) tx_gIA h7 h8 hS (hl.1.trans hml.symm) dX2_run_11 dX2_run_14 dX2_run_15 dX2_run_17 dX2_run_20 (fun x hx => (hex x hx).elim) (by decide) (Nat.le_of_ble_eq_true rfl) (Nat.le_of_ble_eq_true rfl) (Nat.le_of_ble_eq_true rfl) hlocks (fun t ha hz hq => hxc _ _ t hP hD hS ha hz hq) (hfr _ _ hS) (Nat.le_of_ble_eq_true rfl) (Nat.le_of_ble_eq_true rfl)
