/-! ===== contracts: the public methods, where they return ===== -/
set_option maxHeartbeats 4000000 in
set_option maxRecDepth 100000 in
theorem k_X2_receiveC (l : Launch) (D : va_G) (ty : Nat → ClassId) (t0 : Nat) (t1 : Nat) (t2 : Nat) (c : tg_CT) (sw : Nat → Option Nat) (rw : Nat → Option Nat) (si : Nat) (f0 : Nat) (d1 : Nat) (d2 : Nat) (d3 : Nat) (d4 : Nat) (d5 : Nat) (d6 : Nat) (d7 : Nat) (d8 : Nat) (q : tg_RS) (w : Nat) (g0 : Nat) (b1 : Nat) (b2 : Nat) (b3 : Nat) (b4 : Nat) (b5 : Nat) (b6 : Nat) (b7 : Nat) (b8 : Nat) (r : tg_RS) (o : Nat) (h0 : Nat) (a1 : Nat) (a2 : Nat) (a3 : Nat) (a4 : Nat) (x : tg_SS) (hsi : si ≤ 1) (hri : rw si = some f0) (hro : rw (1 - si) = some g0) (hso : sw si = some h0) (ho : o < 100) (hz : tg_rz r ≤ 100) (hw : w < 100) (hyu : tg_rz q ≤ 100) (hg : 0 < tg_rz q → tg_okG q w) (hok : tg_okL x.2.2.1) : tg_Mi l yX2_receive wsX2_receive rmk_X2_receive_none D ty [.ref t0, .int (nI (si))] [(t0, .inr (2, [.ref t1, .ref t2, .int (c.1), .int (c.2.1), .int (c.2.2)])), (t1, .inl (ty 3, 2, .inr (.inr (.inr (.inr sw))))), (t2, .inl (ty 4, 2, .inr (.inr (.inr (.inr rw))))), (f0, .inr (0, [.ref d1, .ref d2, .ref d3, .ref d4, .ref d5, .ref d6, .ref d7, .ref d8, .int (nI (q.2.2.2.2.2.2.2.2)), .int (nI (w))])), (d1, .inl (ty 0, 100, .inl q.1)), (d2, .inl (ty 0, 100, .inl q.2.1)), (d3, .inl (ty 0, 100, .inl q.2.2.1)), (d4, .inl (ty 0, 100, .inl q.2.2.2.1)), (d5, .inl (ty 1, 400, .inr (.inl q.2.2.2.2.1))), (d6, .inl (ty 1, 400, .inr (.inl q.2.2.2.2.2.1))), (d7, .inl (ty 1, 400, .inr (.inl q.2.2.2.2.2.2.1))), (d8, .inl (ty 0, 400, .inl q.2.2.2.2.2.2.2.1)), (g0, .inr (0, [.ref b1, .ref b2, .ref b3, .ref b4, .ref b5, .ref b6, .ref b7, .ref b8, .int (nI (r.2.2.2.2.2.2.2.2)), .int (nI (o))])), (b1, .inl (ty 0, 100, .inl r.1)), (b2, .inl (ty 0, 100, .inl r.2.1)), (b3, .inl (ty 0, 100, .inl r.2.2.1)), (b4, .inl (ty 0, 100, .inl r.2.2.2.1)), (b5, .inl (ty 1, 400, .inr (.inl r.2.2.2.2.1))), (b6, .inl (ty 1, 400, .inr (.inl r.2.2.2.2.2.1))), (b7, .inl (ty 1, 400, .inr (.inl r.2.2.2.2.2.2.1))), (b8, .inl (ty 0, 400, .inl r.2.2.2.2.2.2.2.1)), (h0, .inr (1, [.ref a1, .ref a2, .ref a3, .ref a4, .int (x.2.2.2.2)])), (a1, .inl (ty 1, 256, .inr (.inl x.1))), (a2, .inl (ty 1, 256, .inr (.inl x.2.1))), (a3, .inl (ty 0, 256, .inl x.2.2.1)), (a4, .inl (ty 1, 85, .inr (.inl x.2.2.2.1)))] [(t0, .inr (2, [.ref t1, .ref t2, .int (((tg_rcv x q w r o c).2.2.2.2.2).1), .int (((tg_rcv x q w r o c).2.2.2.2.2).2.1), .int (((tg_rcv x q w r o c).2.2.2.2.2).2.2)])), (t1, .inl (ty 3, 2, .inr (.inr (.inr (.inr sw))))), (t2, .inl (ty 4, 2, .inr (.inr (.inr (.inr rw))))), (f0, .inr (0, [.ref d1, .ref d2, .ref d3, .ref d4, .ref d5, .ref d6, .ref d7, .ref d8, .int (nI (((tg_rcv x q w r o c).2.2.1).2.2.2.2.2.2.2.2)), .int (nI ((tg_rcv x q w r o c).2.2.2.1))])), (d1, .inl (ty 0, 100, .inl ((tg_rcv x q w r o c).2.2.1).1)), (d2, .inl (ty 0, 100, .inl ((tg_rcv x q w r o c).2.2.1).2.1)), (d3, .inl (ty 0, 100, .inl ((tg_rcv x q w r o c).2.2.1).2.2.1)), (d4, .inl (ty 0, 100, .inl ((tg_rcv x q w r o c).2.2.1).2.2.2.1)), (d5, .inl (ty 1, 400, .inr (.inl ((tg_rcv x q w r o c).2.2.1).2.2.2.2.1))), (d6, .inl (ty 1, 400, .inr (.inl ((tg_rcv x q w r o c).2.2.1).2.2.2.2.2.1))), (d7, .inl (ty 1, 400, .inr (.inl ((tg_rcv x q w r o c).2.2.1).2.2.2.2.2.2.1))), (d8, .inl (ty 0, 400, .inl ((tg_rcv x q w r o c).2.2.1).2.2.2.2.2.2.2.1)), (g0, .inr (0, [.ref b1, .ref b2, .ref b3, .ref b4, .ref b5, .ref b6, .ref b7, .ref b8, .int (nI (((tg_rcv x q w r o c).2.2.2.2.1).2.2.2.2.2.2.2.2)), .int (nI (o))])), (b1, .inl (ty 0, 100, .inl ((tg_rcv x q w r o c).2.2.2.2.1).1)), (b2, .inl (ty 0, 100, .inl ((tg_rcv x q w r o c).2.2.2.2.1).2.1)), (b3, .inl (ty 0, 100, .inl ((tg_rcv x q w r o c).2.2.2.2.1).2.2.1)), (b4, .inl (ty 0, 100, .inl ((tg_rcv x q w r o c).2.2.2.2.1).2.2.2.1)), (b5, .inl (ty 1, 400, .inr (.inl ((tg_rcv x q w r o c).2.2.2.2.1).2.2.2.2.1))), (b6, .inl (ty 1, 400, .inr (.inl ((tg_rcv x q w r o c).2.2.2.2.1).2.2.2.2.2.1))), (b7, .inl (ty 1, 400, .inr (.inl ((tg_rcv x q w r o c).2.2.2.2.1).2.2.2.2.2.2.1))), (b8, .inl (ty 0, 400, .inl ((tg_rcv x q w r o c).2.2.2.2.1).2.2.2.2.2.2.2.1)), (h0, .inr (1, [.ref a1, .ref a2, .ref a3, .ref a4, .int (((tg_rcv x q w r o c).2.1).2.2.2.2)])), (a1, .inl (ty 1, 256, .inr (.inl ((tg_rcv x q w r o c).2.1).1))), (a2, .inl (ty 1, 256, .inr (.inl ((tg_rcv x q w r o c).2.1).2.1))), (a3, .inl (ty 0, 256, .inl ((tg_rcv x q w r o c).2.1).2.2.1)), (a4, .inl (ty 1, 85, .inr (.inl ((tg_rcv x q w r o c).2.1).2.2.2.1)))] ((tg_rcv x q w r o c).1) 0 0 := by
  rcases Nat.eq_zero_or_pos (tg_rz q) with h | h
  · rw [tg_rcv_e h]
    exact k_X2_receive_none l D ty t0 t1 t2 c sw rw si f0 d1 d2 d3 d4 d5 d6 d7 d8 (tg_rz q) w q.1 q.2.1 q.2.2.1 q.2.2.2.1 q.2.2.2.2.1 q.2.2.2.2.2.1 q.2.2.2.2.2.2.1 q.2.2.2.2.2.2.2.1 g0 b1 b2 b3 b4 b5 b6 b7 b8 r o h0 a1 a2 a3 a4 x hsi hri hro hso ho hz h
  · obtain ⟨e1, e2, e3, e4, e5, hk⟩ := hg h
    rcases hk with hk | ⟨hk, k1, k2, k3⟩ | hk | hk
    · rw [tg_rcv_0 h hk]
      exact k_X2_receive_ask l D ty t0 t1 t2 c sw rw si f0 d1 d2 d3 d4 d5 d6 d7 d8 (tg_rz q) w q.1 q.2.1 q.2.2.1 q.2.2.2.1 q.2.2.2.2.1 q.2.2.2.2.2.1 q.2.2.2.2.2.2.1 q.2.2.2.2.2.2.2.1 g0 b1 b2 b3 b4 b5 b6 b7 b8 r o h0 a1 a2 a3 a4 x hsi hri hro hso ho hz h hw hk hyu
    · rw [tg_rcv_1 h hk]
      exact k_X2_receive_list l D ty t0 t1 t2 c sw rw si f0 d1 d2 d3 d4 d5 d6 d7 d8 (tg_rz q) w q.1 q.2.1 q.2.2.1 q.2.2.2.1 q.2.2.2.2.1 q.2.2.2.2.2.1 q.2.2.2.2.2.2.1 q.2.2.2.2.2.2.2.1 g0 b1 b2 b3 b4 b5 b6 b7 b8 r o h0 a1 a2 a3 a4 x (tg_ql q w) (tg_qn q w) hsi hri hro hso ho hz h hw hk hyu k2 k3 k1 e3
    · rw [tg_rcv_2 h hk]
      exact k_X2_receive_give l D ty t0 t1 t2 c sw rw si f0 d1 d2 d3 d4 d5 d6 d7 d8 (tg_rz q) w q.1 q.2.1 q.2.2.1 q.2.2.2.1 q.2.2.2.2.1 q.2.2.2.2.2.1 q.2.2.2.2.2.2.1 q.2.2.2.2.2.2.2.1 g0 b1 b2 b3 b4 b5 b6 b7 b8 r o h0 a1 a2 a3 a4 x (tg_qm q w) (tg_qn q w) hsi hri hro hso ho hz h hw hk hyu e2 e4 e1 e3 e5 hok
    · rw [tg_rcv_3 h hk]
      exact k_X2_receive_back l D ty t0 t1 t2 c sw rw si f0 d1 d2 d3 d4 d5 d6 d7 d8 (tg_rz q) w q.1 q.2.1 q.2.2.1 q.2.2.2.1 q.2.2.2.2.1 q.2.2.2.2.2.1 q.2.2.2.2.2.2.1 q.2.2.2.2.2.2.2.1 g0 b1 b2 b3 b4 b5 b6 b7 b8 r o h0 a1 a2 a3 a4 x (tg_qm q w) (tg_qn q w) hsi hri hro hso ho hz h hw hk hyu e2 e4 e1 e3 e5 hok
def rmk_X2_checkIndex : Room := { frames := 0, cells := 0, slots := 0, locals := 0 }
set_option maxHeartbeats 4000000 in
set_option maxRecDepth 100000 in
theorem k_X2_checkIndex (l : Launch) (D : va_G) (ty : Nat → ClassId) (k : Nat) (n : Nat) (hk : k < n) (hn : n < 2 ^ 31) : tg_Mv l yX2_checkIndex wsX2_checkIndex rmk_X2_checkIndex D ty [.int (nI (k)), .int (nI (n))] [] (fun _ : Unit => []) 0 0 := by
  refine tg_start_v (cc := cX2_checkIndex) (maxL := 2) (lvs := [(0, .int (nI (k))), (1, .int (nI (n)))]) (by decide) rfl (Nat.le_of_ble_eq_true rfl) rfl ?_
  intro pp ee ss mm args below meth cc AA ls QQ hx hb hr hts hown hlocks hml hnm hA hP hD hS hK hN hl hret
  refine lv_iload_n hx hb dX2_checkIndex_0 rfl (lv_at hl 0 rfl) ?_
  refine lv_if_lt (tgt := 9) hx hb dX2_checkIndex_1 (by decide) (fun c1_1 => ?_) (fun c1_1 => ?_)
  · exact absurd c1_1 (nI_pos (by omega))
  · skip
    refine lv_iload_n hx hb dX2_checkIndex_4 rfl (lv_at hl 0 rfl) ?_
    refine lv_iload_n hx hb dX2_checkIndex_5 rfl (lv_at hl 1 rfl) ?_
    refine tg_lt (tgt := 19) hx hb dX2_checkIndex_6 (by decide) (by omega) (by omega) (fun c6_2 => ?_) (fun c6_2 => ?_)
    · skip
      exact hret _ _ 19 _ () hP hD hS dX2_checkIndex_19
    · omega
def rmk_X2_put : Room := { frames := 4, cells := 0, slots := 0, locals := 104 }
theorem ink_X2_put_X2 : ∀ w ∈ wsX20, w ∈ wsX2_put := by decide +kernel
set_option maxHeartbeats 4000000 in
set_option maxRecDepth 100000 in
theorem k_X2_put (l : Launch) (D : va_G) (ty : Nat → ClassId) (t0 : Nat) (t1 : Nat) (t2 : Nat) (c : tg_CT) (sw : Nat → Option Nat) (rw : Nat → Option Nat) (si : Nat) (h0 : Nat) (a1 : Nat) (a2 : Nat) (a3 : Nat) (a4 : Nat) (x : tg_SS) (k : Nat) (s1 : Int64) (v : Int64) (n : Nat) (hsi : si ≤ 1) (hso : sw si = some h0) (hk : k < 256) (hn : n ≤ 8) (hok : tg_okL x.2.2.1) : tg_Mi l yX2_put wsX2_put rmk_X2_put D ty [.ref t0, .int (nI (si)), .int (nI (k)), .long (s1), .long (v), .int (nI (n))] [(t0, .inr (2, [.ref t1, .ref t2, .int (c.1), .int (c.2.1), .int (c.2.2)])), (t1, .inl (ty 3, 2, .inr (.inr (.inr (.inr sw))))), (h0, .inr (1, [.ref a1, .ref a2, .ref a3, .ref a4, .int (x.2.2.2.2)])), (a1, .inl (ty 1, 256, .inr (.inl x.1))), (a2, .inl (ty 1, 256, .inr (.inl x.2.1))), (a3, .inl (ty 0, 256, .inl x.2.2.1)), (a4, .inl (ty 1, 85, .inr (.inl x.2.2.2.1)))] [(t0, .inr (2, [.ref t1, .ref t2, .int (c.1), .int (c.2.1), .int (c.2.2)])), (t1, .inl (ty 3, 2, .inr (.inr (.inr (.inr sw))))), (h0, .inr (1, [.ref a1, .ref a2, .ref a3, .ref a4, .int ((tg_mS x k s1 (tg_hb v n) n).2.2.2.2)])), (a1, .inl (ty 1, 256, .inr (.inl (tg_mS x k s1 (tg_hb v n) n).1))), (a2, .inl (ty 1, 256, .inr (.inl (tg_mS x k s1 (tg_hb v n) n).2.1))), (a3, .inl (ty 0, 256, .inl (tg_mS x k s1 (tg_hb v n) n).2.2.1)), (a4, .inl (ty 1, 85, .inr (.inl (tg_mS x k s1 (tg_hb v n) n).2.2.2.1)))] (tg_b (tg_in x.1 x.2.1 x.2.2.1 k s1 (tg_hb v n) (nI n))) 0 0 := by
  refine tg_start_z (cc := cX2_put) (maxL := 8) (lvs := [(0, .ref t0), (1, .int (nI (si))), (2, .int (nI (k))), (3, .long (s1)), (5, .long (v)), (7, .int (nI (n)))]) (by decide) rfl (Nat.le_of_ble_eq_true rfl) rfl ?_
  intro pp ee ss mm args below meth cc AA ls QQ hx hb hr hts hown hlocks hml hnm hA hP hD hS hK hN hl hret
  have hinX2 := ink_X2_put_X2
  refine lv_iload_n hx hb dX2_put_0 rfl (lv_at hl 1 rfl) ?_
  refine lv_iconst (v := nI (2)) hx hb dX2_put_1 (by decide) ?_
  refine tg_Sv (As := [.int (nI (si)), .int (nI (2))]) (rest := []) ⟨hx, hb, hml, hown, hts⟩ (k_X2_checkIndex l D ty si 2 (by omega) (by omega)) (va_cwS 2 hts gX2_put_X2_checkIndex rfl rfl rfl (by decide +kernel) ⟨Nat.le_of_ble_eq_true rfl, Nat.le_of_ble_eq_true rfl⟩) hK hN hP hD hS hA rfl hl.1 rfl (Nat.le_of_ble_eq_true rfl) dX2_put_2 ⟨Nat.le_of_ble_eq_true rfl, Nat.le_of_ble_eq_true rfl⟩ (fun H locs hP hD hS => ?_)
  refine lv_iload_n hx hb dX2_put_5 rfl (lv_at hl 2 rfl) ?_
  refine lv_sipush (v := nI (256)) hx hb dX2_put_6 (by decide) ?_
  refine tg_Sv (As := [.int (nI (k)), .int (nI (256))]) (rest := []) ⟨hx, hb, hml, hown, hts⟩ (k_X2_checkIndex l D ty k 256 (by omega) (by omega)) (va_cwS 2 hts gX2_put_X2_checkIndex rfl rfl rfl (by decide +kernel) ⟨Nat.le_of_ble_eq_true rfl, Nat.le_of_ble_eq_true rfl⟩) hK hN hP hD hS hA rfl hl.1 rfl (Nat.le_of_ble_eq_true rfl) dX2_put_9 ⟨Nat.le_of_ble_eq_true rfl, Nat.le_of_ble_eq_true rfl⟩ (fun H locs hP hD hS => ?_)
  refine lv_iload hx hb dX2_put_12 (lv_at hl 5 rfl) ?_
  refine lv_if_lt (tgt := 24) hx hb dX2_put_14 (by decide) (fun c14_1 => ?_) (fun c14_1 => ?_)
  · exact absurd c14_1 (nI_pos (by omega))
  · skip
    refine lv_iload hx hb dX2_put_17 (lv_at hl 5 rfl) ?_
    refine lv_bipush (v := nI (8)) hx hb dX2_put_19 (by decide) ?_
    refine tg_le (tgt := 34) hx hb dX2_put_21 (by decide) (by omega) (by omega) (fun c21_2 => ?_) (fun c21_2 => ?_)
    · skip
      refine lv_aload_n hx hb dX2_put_34 rfl (lv_at hl 0 rfl) ?_
      refine va_get (D := D) (ci := 2) (v := .ref t1) (C := RX2) (T := TX2) (N := 5) hx hb hts hinX2 hown hK hP 0 rfl rfl 0 (by decide) (hts (.fieldLink RX2 11 "TreeGossip" "stores" "[LTreeGossip$Store;") (by decide +kernel)) (fun _ h9 => h9) rfl dX2_put_35 ?_
      refine lv_iload_n hx hb dX2_put_38 rfl (lv_at hl 1 rfl) ?_
      refine tg_aald hx hb hK hP 1 3 (C := RX1) rfl rfl (k := si) (z := h0) (by omega) (by decide) hso dX2_put_39 ?_
      refine lv_iload_n hx hb dX2_put_40 rfl (lv_at hl 2 rfl) ?_
      refine lv_lload_n hx hb dX2_put_41 rfl (lv_at hl 3 rfl) ?_
      refine lv_lload hx hb dX2_put_42 (lv_at hl 4 rfl) ?_
      refine lv_iload hx hb dX2_put_44 (lv_at hl 5 rfl) ?_
      refine tg_Sl (As := [.long (v), .int (nI (n))]) (rest := [.long (s1), .int (nI (k)), .ref h0]) ⟨hx, hb, hml, hown, hts⟩ (k_X2_highestBytes l D ty v n hn) (va_cwS 2 hts gX2_put_X2_highestBytes rfl rfl rfl (by decide +kernel) ⟨Nat.le_of_ble_eq_true rfl, Nat.le_of_ble_eq_true rfl⟩) hK hN hP hD hS hA rfl hl.1 rfl (Nat.le_of_ble_eq_true rfl) dX2_put_46 ⟨Nat.le_of_ble_eq_true rfl, Nat.le_of_ble_eq_true rfl⟩ (fun H locs hP hD hS => ?_)
      refine lv_iload hx hb dX2_put_49 (lv_at hl 5 rfl) ?_
      refine tg_Vi (As := [.int (nI (k)), .long (s1), .long (tg_hb v n), .int (nI (n))]) (rest := []) (wr := [(t0, .inr (2, [.ref t1, .ref t2, .int (c.1), .int (c.2.1), .int (c.2.2)])), (t1, .inl (ty 3, 2, .inr (.inr (.inr (.inr sw)))))]) (w2 := [(t0, .inr (2, [.ref t1, .ref t2, .int (c.1), .int (c.2.1), .int (c.2.2)])), (t1, .inl (ty 3, 2, .inr (.inr (.inr (.inr sw))))), (h0, .inr (1, [.ref a1, .ref a2, .ref a3, .ref a4, .int ((tg_mS x k s1 (tg_hb v n) n).2.2.2.2)])), (a1, .inl (ty 1, 256, .inr (.inl (tg_mS x k s1 (tg_hb v n) n).1))), (a2, .inl (ty 1, 256, .inr (.inl (tg_mS x k s1 (tg_hb v n) n).2.1))), (a3, .inl (ty 0, 256, .inl (tg_mS x k s1 (tg_hb v n) n).2.2.1)), (a4, .inl (ty 1, 85, .inr (.inl (tg_mS x k s1 (tg_hb v n) n).2.2.2.1)))]) ⟨hx, hb, hml, hown, hts⟩ (k_X1_mergeS l D ty h0 a1 a2 a3 a4 x k s1 (tg_hb v n) n (by omega) (by omega) hok) (cwV 4 hts gX2_put_X1_merge rfl rfl rfl (by decide +kernel) ⟨Nat.le_of_ble_eq_true rfl, Nat.le_of_ble_eq_true rfl⟩) hK hN hP hD hS hA [2, 3, 4, 5, 6] [0, 1] [0, 1, 2, 3, 4, 5, 6] 2 1 rfl rfl rfl rfl rfl rfl rfl (by decide) rfl hl.1 rfl (Nat.le_of_ble_eq_true rfl) dX2_put_51 rfl rfl ⟨Nat.le_of_ble_eq_true rfl, Nat.le_of_ble_eq_true rfl⟩ (fun H locs hP hD hS => ?_)
      exact hret _ _ 54 _ _ hP hD hS (rfl) (tg_bn _) dX2_put_54
    · omega
def rmk_X2_get : Room := { frames := 1, cells := 0, slots := 0, locals := 22 }
theorem ink_X2_get_X1 : ∀ w ∈ wsX10, w ∈ wsX2_get := by decide +kernel
theorem ink_X2_get_X2 : ∀ w ∈ wsX20, w ∈ wsX2_get := by decide +kernel
set_option maxHeartbeats 4000000 in
set_option maxRecDepth 100000 in
theorem k_X2_get (l : Launch) (D : va_G) (ty : Nat → ClassId) (t0 : Nat) (t1 : Nat) (t2 : Nat) (c : tg_CT) (sw : Nat → Option Nat) (rw : Nat → Option Nat) (si : Nat) (h0 : Nat) (a1 : Nat) (a2 : Nat) (a3 : Nat) (a4 : Nat) (x : tg_SS) (k : Nat) (wh : Nat) (hsi : si ≤ 1) (hso : sw si = some h0) (hk : k < 256) (hwh : wh < 9) : tg_Mi l yX2_get wsX2_get rmk_X2_get D ty [.ref t0, .int (nI (si)), .int (nI (k)), .int (nI (wh))] [(t0, .inr (2, [.ref t1, .ref t2, .int (c.1), .int (c.2.1), .int (c.2.2)])), (t1, .inl (ty 3, 2, .inr (.inr (.inr (.inr sw))))), (h0, .inr (1, [.ref a1, .ref a2, .ref a3, .ref a4, .int (x.2.2.2.2)])), (a1, .inl (ty 1, 256, .inr (.inl x.1))), (a2, .inl (ty 1, 256, .inr (.inl x.2.1))), (a3, .inl (ty 0, 256, .inl x.2.2.1))] [(t0, .inr (2, [.ref t1, .ref t2, .int (c.1), .int (c.2.1), .int (c.2.2)])), (t1, .inl (ty 3, 2, .inr (.inr (.inr (.inr sw))))), (h0, .inr (1, [.ref a1, .ref a2, .ref a3, .ref a4, .int (x.2.2.2.2)])), (a1, .inl (ty 1, 256, .inr (.inl x.1))), (a2, .inl (ty 1, 256, .inr (.inl x.2.1))), (a3, .inl (ty 0, 256, .inl x.2.2.1))] (tg_gtv x k wh) 0 0 := by
  refine tg_start_i (cc := cX2_get) (maxL := 5) (lvs := [(0, .ref t0), (1, .int (nI (si))), (2, .int (nI (k))), (3, .int (nI (wh)))]) (by decide) rfl (Nat.le_of_ble_eq_true rfl) rfl ?_
  intro pp ee ss mm args below meth cc AA ls QQ hx hb hr hts hown hlocks hml hnm hA hP hD hS hK hN hl hret
  have hinX1 := ink_X2_get_X1
  have hinX2 := ink_X2_get_X2
  refine lv_iload_n hx hb dX2_get_0 rfl (lv_at hl 1 rfl) ?_
  refine lv_iconst (v := nI (2)) hx hb dX2_get_1 (by decide) ?_
  refine tg_Sv (As := [.int (nI (si)), .int (nI (2))]) (rest := []) ⟨hx, hb, hml, hown, hts⟩ (k_X2_checkIndex l D ty si 2 (by omega) (by omega)) (va_cwS 2 hts gX2_get_X2_checkIndex rfl rfl rfl (by decide +kernel) ⟨Nat.le_of_ble_eq_true rfl, Nat.le_of_ble_eq_true rfl⟩) hK hN hP hD hS hA rfl hl.1 rfl (Nat.le_of_ble_eq_true rfl) dX2_get_2 ⟨Nat.le_of_ble_eq_true rfl, Nat.le_of_ble_eq_true rfl⟩ (fun H locs hP hD hS => ?_)
  refine lv_iload_n hx hb dX2_get_5 rfl (lv_at hl 2 rfl) ?_
  refine lv_sipush (v := nI (256)) hx hb dX2_get_6 (by decide) ?_
  refine tg_Sv (As := [.int (nI (k)), .int (nI (256))]) (rest := []) ⟨hx, hb, hml, hown, hts⟩ (k_X2_checkIndex l D ty k 256 (by omega) (by omega)) (va_cwS 2 hts gX2_get_X2_checkIndex rfl rfl rfl (by decide +kernel) ⟨Nat.le_of_ble_eq_true rfl, Nat.le_of_ble_eq_true rfl⟩) hK hN hP hD hS hA rfl hl.1 rfl (Nat.le_of_ble_eq_true rfl) dX2_get_9 ⟨Nat.le_of_ble_eq_true rfl, Nat.le_of_ble_eq_true rfl⟩ (fun H locs hP hD hS => ?_)
  refine lv_iload_n hx hb dX2_get_12 rfl (lv_at hl 3 rfl) ?_
  refine lv_bipush (v := nI (9)) hx hb dX2_get_13 (by decide) ?_
  refine tg_Sv (As := [.int (nI (wh)), .int (nI (9))]) (rest := []) ⟨hx, hb, hml, hown, hts⟩ (k_X2_checkIndex l D ty wh 9 (by omega) (by omega)) (va_cwS 2 hts gX2_get_X2_checkIndex rfl rfl rfl (by decide +kernel) ⟨Nat.le_of_ble_eq_true rfl, Nat.le_of_ble_eq_true rfl⟩) hK hN hP hD hS hA rfl hl.1 rfl (Nat.le_of_ble_eq_true rfl) dX2_get_15 ⟨Nat.le_of_ble_eq_true rfl, Nat.le_of_ble_eq_true rfl⟩ (fun H locs hP hD hS => ?_)
  refine lv_aload_n hx hb dX2_get_18 rfl (lv_at hl 0 rfl) ?_
  refine va_get (D := D) (ci := 2) (v := .ref t1) (C := RX2) (T := TX2) (N := 5) hx hb hts hinX2 hown hK hP 0 rfl rfl 0 (by decide) (hts (.fieldLink RX2 11 "TreeGossip" "stores" "[LTreeGossip$Store;") (by decide +kernel)) (fun _ h9 => h9) rfl dX2_get_19 ?_
  refine lv_iload_n hx hb dX2_get_22 rfl (lv_at hl 1 rfl) ?_
  refine tg_aald hx hb hK hP 1 3 (C := RX1) rfl rfl (k := si) (z := h0) (by omega) (by decide) hso dX2_get_23 ?_
  refine lv_astore (lv' := [(4, .ref h0), (0, .ref t0), (1, .int (nI (si))), (2, .int (nI (k))), (3, .int (nI (wh)))]) hx hb dX2_get_24 hl (by decide) rfl (fun ls hl => ?_)
  refine lv_iload_n hx hb dX2_get_26 rfl (lv_at hl 4 rfl) ?_
  refine tg_if_ne (tgt := 38) hx hb dX2_get_27 (by decide) (by omega) (fun c27_1 => ?_) (fun c27_1 => ?_)
  · skip
    refine lv_iload_n hx hb dX2_get_38 rfl (lv_at hl 4 rfl) ?_
    refine lv_aload hx hb dX2_get_39 (lv_at hl 0 rfl) ?_
    refine va_get (D := D) (ci := 1) (v := .ref a3) (C := RX1) (T := TX1) (N := 5) hx hb hts hinX1 hown hK hP 2 rfl rfl 2 (by decide) (hts (.fieldLink RX2 52 "TreeGossip$Store" "lengths" "[I") (by decide +kernel)) (fun _ h9 => h9) rfl dX2_get_41 ?_
    refine lv_iload_n hx hb dX2_get_44 rfl (lv_at hl 3 rfl) ?_
    refine tg_iald hx hb hK hP 5 rfl (f := x.2.2.1) (k := k) (by omega) (by decide) dX2_get_45 ?_
    refine lv_icmp_le (tgt := 53) hx hb dX2_get_46 (by decide) (fun c46_2 => ?_) (fun c46_2 => ?_)
    · skip
      refine lv_aload hx hb dX2_get_53 (lv_at hl 0 rfl) ?_
      refine va_get (D := D) (ci := 1) (v := .ref a2) (C := RX1) (T := TX1) (N := 5) hx hb hts hinX1 hown hK hP 2 rfl rfl 1 (by decide) (hts (.fieldLink RX2 56 "TreeGossip$Store" "values" "[J") (by decide +kernel)) (fun _ h9 => h9) rfl dX2_get_55 ?_
      refine lv_iload_n hx hb dX2_get_58 rfl (lv_at hl 3 rfl) ?_
      refine tg_lald hx hb hK hP 4 rfl (f := x.2.1) (k := k) (by omega) (by decide) dX2_get_59 ?_
      refine lv_iload_n hx hb dX2_get_60 rfl (lv_at hl 4 rfl) ?_
      refine lv_iconst (v := nI (1)) hx hb dX2_get_61 (by decide) ?_
      refine lv_isub hx hb dX2_get_62 ?_
      refine tg_vi (pk_sub (by omega)) ?_
      refine tg_Si (As := [.long (x.2.1 k), .int (nI (wh - 1))]) (rest := []) ⟨hx, hb, hml, hown, hts⟩ (k_X2_byteAt l D ty (x.2.1 k) (wh - 1) (by omega)) (va_cwS 2 hts gX2_get_X2_byteAt rfl rfl rfl (by decide +kernel) ⟨Nat.le_of_ble_eq_true rfl, Nat.le_of_ble_eq_true rfl⟩) hK hN hP hD hS hA rfl hl.1 rfl (Nat.le_of_ble_eq_true rfl) dX2_get_63 ⟨Nat.le_of_ble_eq_true rfl, Nat.le_of_ble_eq_true rfl⟩ (fun H locs hP hD hS => ?_)
      exact hret _ _ 66 _ _ hP hD hS (by unfold tg_gtv; rw [if_neg c27_1, if_neg (fun q => q c46_2)]) dX2_get_66
    · skip
      refine lv_iconst (v := -1) hx hb dX2_get_49 (by decide) ?_
      refine lv_goto (tgt := 66) hx hb dX2_get_50 (by decide) ?_
      exact hret _ _ 66 _ _ hP hD hS (by unfold tg_gtv; rw [if_neg c27_1, if_pos c46_2]) dX2_get_66
  · skip
    refine lv_aload hx hb dX2_get_30 (lv_at hl 0 rfl) ?_
    refine va_get (D := D) (ci := 1) (v := .ref a3) (C := RX1) (T := TX1) (N := 5) hx hb hts hinX1 hown hK hP 2 rfl rfl 2 (by decide) (hts (.fieldLink RX2 52 "TreeGossip$Store" "lengths" "[I") (by decide +kernel)) (fun _ h9 => h9) rfl dX2_get_32 ?_
    refine lv_iload_n hx hb dX2_get_35 rfl (lv_at hl 3 rfl) ?_
    refine tg_iald hx hb hK hP 5 rfl (f := x.2.2.1) (k := k) (by omega) (by decide) dX2_get_36 ?_
    exact hret _ _ 37 _ _ hP hD hS (by unfold tg_gtv; rw [if_pos c27_1]) dX2_get_37
def rmk_X2_stamp : Room := { frames := 1, cells := 0, slots := 0, locals := 21 }
theorem ink_X2_stamp_X1 : ∀ w ∈ wsX10, w ∈ wsX2_stamp := by decide +kernel
theorem ink_X2_stamp_X2 : ∀ w ∈ wsX20, w ∈ wsX2_stamp := by decide +kernel
set_option maxHeartbeats 4000000 in
set_option maxRecDepth 100000 in
theorem k_X2_stamp (l : Launch) (D : va_G) (ty : Nat → ClassId) (t0 : Nat) (t1 : Nat) (t2 : Nat) (c : tg_CT) (sw : Nat → Option Nat) (rw : Nat → Option Nat) (si : Nat) (h0 : Nat) (a1 : Nat) (a2 : Nat) (a3 : Nat) (a4 : Nat) (x : tg_SS) (k : Nat) (hsi : si ≤ 1) (hso : sw si = some h0) (hk : k < 256) : tg_Ml l yX2_stamp wsX2_stamp rmk_X2_stamp D ty [.ref t0, .int (nI (si)), .int (nI (k))] [(t0, .inr (2, [.ref t1, .ref t2, .int (c.1), .int (c.2.1), .int (c.2.2)])), (t1, .inl (ty 3, 2, .inr (.inr (.inr (.inr sw))))), (h0, .inr (1, [.ref a1, .ref a2, .ref a3, .ref a4, .int (x.2.2.2.2)])), (a1, .inl (ty 1, 256, .inr (.inl x.1))), (a2, .inl (ty 1, 256, .inr (.inl x.2.1))), (a3, .inl (ty 0, 256, .inl x.2.2.1))] [(t0, .inr (2, [.ref t1, .ref t2, .int (c.1), .int (c.2.1), .int (c.2.2)])), (t1, .inl (ty 3, 2, .inr (.inr (.inr (.inr sw))))), (h0, .inr (1, [.ref a1, .ref a2, .ref a3, .ref a4, .int (x.2.2.2.2)])), (a1, .inl (ty 1, 256, .inr (.inl x.1))), (a2, .inl (ty 1, 256, .inr (.inl x.2.1))), (a3, .inl (ty 0, 256, .inl x.2.2.1))] (cond (tg_has x.2.2.1 k) (x.1 k) 0) 0 0 := by
  refine tg_start_l (cc := cX2_stamp) (maxL := 4) (lvs := [(0, .ref t0), (1, .int (nI (si))), (2, .int (nI (k)))]) (by decide) rfl (Nat.le_of_ble_eq_true rfl) rfl ?_
  intro pp ee ss mm args below meth cc AA ls QQ hx hb hr hts hown hlocks hml hnm hA hP hD hS hK hN hl hret
  have hinX1 := ink_X2_stamp_X1
  have hinX2 := ink_X2_stamp_X2
  refine lv_iload_n hx hb dX2_stamp_0 rfl (lv_at hl 1 rfl) ?_
  refine lv_iconst (v := nI (2)) hx hb dX2_stamp_1 (by decide) ?_
  refine tg_Sv (As := [.int (nI (si)), .int (nI (2))]) (rest := []) ⟨hx, hb, hml, hown, hts⟩ (k_X2_checkIndex l D ty si 2 (by omega) (by omega)) (va_cwS 2 hts gX2_stamp_X2_checkIndex rfl rfl rfl (by decide +kernel) ⟨Nat.le_of_ble_eq_true rfl, Nat.le_of_ble_eq_true rfl⟩) hK hN hP hD hS hA rfl hl.1 rfl (Nat.le_of_ble_eq_true rfl) dX2_stamp_2 ⟨Nat.le_of_ble_eq_true rfl, Nat.le_of_ble_eq_true rfl⟩ (fun H locs hP hD hS => ?_)
  refine lv_iload_n hx hb dX2_stamp_5 rfl (lv_at hl 2 rfl) ?_
  refine lv_sipush (v := nI (256)) hx hb dX2_stamp_6 (by decide) ?_
  refine tg_Sv (As := [.int (nI (k)), .int (nI (256))]) (rest := []) ⟨hx, hb, hml, hown, hts⟩ (k_X2_checkIndex l D ty k 256 (by omega) (by omega)) (va_cwS 2 hts gX2_stamp_X2_checkIndex rfl rfl rfl (by decide +kernel) ⟨Nat.le_of_ble_eq_true rfl, Nat.le_of_ble_eq_true rfl⟩) hK hN hP hD hS hA rfl hl.1 rfl (Nat.le_of_ble_eq_true rfl) dX2_stamp_9 ⟨Nat.le_of_ble_eq_true rfl, Nat.le_of_ble_eq_true rfl⟩ (fun H locs hP hD hS => ?_)
  refine lv_aload_n hx hb dX2_stamp_12 rfl (lv_at hl 0 rfl) ?_
  refine va_get (D := D) (ci := 2) (v := .ref t1) (C := RX2) (T := TX2) (N := 5) hx hb hts hinX2 hown hK hP 0 rfl rfl 0 (by decide) (hts (.fieldLink RX2 11 "TreeGossip" "stores" "[LTreeGossip$Store;") (by decide +kernel)) (fun _ h9 => h9) rfl dX2_stamp_13 ?_
  refine lv_iload_n hx hb dX2_stamp_16 rfl (lv_at hl 1 rfl) ?_
  refine tg_aald hx hb hK hP 1 3 (C := RX1) rfl rfl (k := si) (z := h0) (by omega) (by decide) hso dX2_stamp_17 ?_
  refine lv_astore_n (lv' := [(3, .ref h0), (0, .ref t0), (1, .int (nI (si))), (2, .int (nI (k)))]) hx hb dX2_stamp_18 rfl hl (by decide) rfl (fun ls hl => ?_)
  refine lv_aload_n hx hb dX2_stamp_19 rfl (lv_at hl 0 rfl) ?_
  refine lv_iload_n hx hb dX2_stamp_20 rfl (lv_at hl 3 rfl) ?_
  refine tg_Vi (As := [.int (nI (k))]) (rest := []) (wr := [(t0, .inr (2, [.ref t1, .ref t2, .int (c.1), .int (c.2.1), .int (c.2.2)])), (t1, .inl (ty 3, 2, .inr (.inr (.inr (.inr sw))))), (a1, .inl (ty 1, 256, .inr (.inl x.1))), (a2, .inl (ty 1, 256, .inr (.inl x.2.1)))]) (w2 := [(t0, .inr (2, [.ref t1, .ref t2, .int (c.1), .int (c.2.1), .int (c.2.2)])), (t1, .inl (ty 3, 2, .inr (.inr (.inr (.inr sw))))), (h0, .inr (1, [.ref a1, .ref a2, .ref a3, .ref a4, .int ((x.2.2.2.2))])), (a1, .inl (ty 1, 256, .inr (.inl x.1))), (a2, .inl (ty 1, 256, .inr (.inl x.2.1))), (a3, .inl (ty 0, 256, .inl (x.2.2.1)))]) ⟨hx, hb, hml, hown, hts⟩ (k_X1_has l D ty h0 a1 a2 a3 a4 (x.2.2.2.2) (x.2.2.1) k (by omega)) (cwV 1 hts gX2_stamp_X1_has rfl rfl rfl (by decide +kernel) ⟨Nat.le_of_ble_eq_true rfl, Nat.le_of_ble_eq_true rfl⟩) hK hN hP hD hS hA [2, 5] [0, 1, 3, 4] [0, 1, 4, 2, 3, 5] 2 1 rfl rfl rfl rfl rfl rfl rfl (by decide) rfl hl.1 rfl (Nat.le_of_ble_eq_true rfl) dX2_stamp_21 rfl rfl ⟨Nat.le_of_ble_eq_true rfl, Nat.le_of_ble_eq_true rfl⟩ (fun H locs hP hD hS => ?_)
  refine tg_if_eqb (tgt := 36) hx hb dX2_stamp_24 (by decide) (fun c24_1 => ?_) (fun c24_1 => ?_)
  · skip
    refine lv_lconst (v := 0) hx hb dX2_stamp_36 (by decide) ?_
    exact hret _ _ 37 _ _ hP hD hS (by rw [c24_1]; rfl) dX2_stamp_37
  · skip
    refine lv_aload_n hx hb dX2_stamp_27 rfl (lv_at hl 0 rfl) ?_
    refine va_get (D := D) (ci := 1) (v := .ref a1) (C := RX1) (T := TX1) (N := 5) hx hb hts hinX1 hown hK hP 2 rfl rfl 0 (by decide) (hts (.fieldLink RX2 68 "TreeGossip$Store" "stamps" "[J") (by decide +kernel)) (fun _ h9 => h9) rfl dX2_stamp_28 ?_
    refine lv_iload_n hx hb dX2_stamp_31 rfl (lv_at hl 3 rfl) ?_
    refine tg_lald hx hb hK hP 3 rfl (f := x.1) (k := k) (by omega) (by decide) dX2_stamp_32 ?_
    refine lv_goto (tgt := 37) hx hb dX2_stamp_33 (by decide) ?_
    exact hret _ _ 37 _ _ hP hD hS (by rw [c24_1]; rfl) dX2_stamp_37
def rmk_X2_hash : Room := { frames := 2, cells := 0, slots := 0, locals := 41 }
theorem ink_X2_hash_X1 : ∀ w ∈ wsX10, w ∈ wsX2_hash := by decide +kernel
theorem ink_X2_hash_X2 : ∀ w ∈ wsX20, w ∈ wsX2_hash := by decide +kernel
set_option maxHeartbeats 4000000 in
set_option maxRecDepth 100000 in
theorem k_X2_hash (l : Launch) (D : va_G) (ty : Nat → ClassId) (t0 : Nat) (t1 : Nat) (t2 : Nat) (c : tg_CT) (sw : Nat → Option Nat) (rw : Nat → Option Nat) (si : Nat) (h0 : Nat) (a1 : Nat) (a2 : Nat) (a3 : Nat) (a4 : Nat) (x : tg_SS) (k : Nat) (nd : Nat) (hsi : si ≤ 1) (hso : sw si = some h0) (hk : k < 4) (hnd : nd < 4 ^ k) : tg_Ml l yX2_hash wsX2_hash rmk_X2_hash D ty [.ref t0, .int (nI (si)), .int (nI (k)), .int (nI (nd))] [(t0, .inr (2, [.ref t1, .ref t2, .int (c.1), .int (c.2.1), .int (c.2.2)])), (t1, .inl (ty 3, 2, .inr (.inr (.inr (.inr sw))))), (h0, .inr (1, [.ref a1, .ref a2, .ref a3, .ref a4, .int (x.2.2.2.2)])), (a4, .inl (ty 1, 85, .inr (.inl x.2.2.2.1)))] [(t0, .inr (2, [.ref t1, .ref t2, .int (c.1), .int (c.2.1), .int (c.2.2)])), (t1, .inl (ty 3, 2, .inr (.inr (.inr (.inr sw))))), (h0, .inr (1, [.ref a1, .ref a2, .ref a3, .ref a4, .int (x.2.2.2.2)])), (a4, .inl (ty 1, 85, .inr (.inl x.2.2.2.1)))] (x.2.2.2.1 ((4 ^ k - 1) / 3 + nd)) 0 0 := by
  refine tg_start_l (cc := cX2_hash) (maxL := 4) (lvs := [(0, .ref t0), (1, .int (nI (si))), (2, .int (nI (k))), (3, .int (nI (nd)))]) (by decide) rfl (Nat.le_of_ble_eq_true rfl) rfl ?_
  intro pp ee ss mm args below meth cc AA ls QQ hx hb hr hts hown hlocks hml hnm hA hP hD hS hK hN hl hret
  have hinX1 := ink_X2_hash_X1
  have hinX2 := ink_X2_hash_X2
  have h4 : 4 ^ k ≤ 4 ^ 3 := Nat.pow_le_pow_right (by decide) (by omega)
  refine lv_iload_n hx hb dX2_hash_0 rfl (lv_at hl 1 rfl) ?_
  refine lv_iconst (v := nI (2)) hx hb dX2_hash_1 (by decide) ?_
  refine tg_Sv (As := [.int (nI (si)), .int (nI (2))]) (rest := []) ⟨hx, hb, hml, hown, hts⟩ (k_X2_checkIndex l D ty si 2 (by omega) (by omega)) (va_cwS 2 hts gX2_hash_X2_checkIndex rfl rfl rfl (by decide +kernel) ⟨Nat.le_of_ble_eq_true rfl, Nat.le_of_ble_eq_true rfl⟩) hK hN hP hD hS hA rfl hl.1 rfl (Nat.le_of_ble_eq_true rfl) dX2_hash_2 ⟨Nat.le_of_ble_eq_true rfl, Nat.le_of_ble_eq_true rfl⟩ (fun H locs hP hD hS => ?_)
  refine lv_iload_n hx hb dX2_hash_5 rfl (lv_at hl 2 rfl) ?_
  refine lv_iconst (v := nI (4)) hx hb dX2_hash_6 (by decide) ?_
  refine tg_Sv (As := [.int (nI (k)), .int (nI (4))]) (rest := []) ⟨hx, hb, hml, hown, hts⟩ (k_X2_checkIndex l D ty k 4 (by omega) (by omega)) (va_cwS 2 hts gX2_hash_X2_checkIndex rfl rfl rfl (by decide +kernel) ⟨Nat.le_of_ble_eq_true rfl, Nat.le_of_ble_eq_true rfl⟩) hK hN hP hD hS hA rfl hl.1 rfl (Nat.le_of_ble_eq_true rfl) dX2_hash_7 ⟨Nat.le_of_ble_eq_true rfl, Nat.le_of_ble_eq_true rfl⟩ (fun H locs hP hD hS => ?_)
  refine lv_iload_n hx hb dX2_hash_10 rfl (lv_at hl 3 rfl) ?_
  refine lv_iload_n hx hb dX2_hash_11 rfl (lv_at hl 2 rfl) ?_
  refine tg_Si (As := [.int (nI (k))]) (rest := [.int (nI (nd))]) ⟨hx, hb, hml, hown, hts⟩ (k_X2_nodesOf l D ty k hk) (va_cwS 1 hts gX2_hash_X2_nodesOf rfl rfl rfl (by decide +kernel) ⟨Nat.le_of_ble_eq_true rfl, Nat.le_of_ble_eq_true rfl⟩) hK hN hP hD hS hA rfl hl.1 rfl (Nat.le_of_ble_eq_true rfl) dX2_hash_12 ⟨Nat.le_of_ble_eq_true rfl, Nat.le_of_ble_eq_true rfl⟩ (fun H locs hP hD hS => ?_)
  refine tg_Sv (As := [.int (nI (nd)), .int (nI (4 ^ k))]) (rest := []) ⟨hx, hb, hml, hown, hts⟩ (k_X2_checkIndex l D ty nd (4 ^ k) hnd (by omega)) (va_cwS 2 hts gX2_hash_X2_checkIndex rfl rfl rfl (by decide +kernel) ⟨Nat.le_of_ble_eq_true rfl, Nat.le_of_ble_eq_true rfl⟩) hK hN hP hD hS hA rfl hl.1 rfl (Nat.le_of_ble_eq_true rfl) dX2_hash_15 ⟨Nat.le_of_ble_eq_true rfl, Nat.le_of_ble_eq_true rfl⟩ (fun H locs hP hD hS => ?_)
  refine lv_aload_n hx hb dX2_hash_18 rfl (lv_at hl 0 rfl) ?_
  refine va_get (D := D) (ci := 2) (v := .ref t1) (C := RX2) (T := TX2) (N := 5) hx hb hts hinX2 hown hK hP 0 rfl rfl 0 (by decide) (hts (.fieldLink RX2 11 "TreeGossip" "stores" "[LTreeGossip$Store;") (by decide +kernel)) (fun _ h9 => h9) rfl dX2_hash_19 ?_
  refine lv_iload_n hx hb dX2_hash_22 rfl (lv_at hl 1 rfl) ?_
  refine tg_aald hx hb hK hP 1 3 (C := RX1) rfl rfl (k := si) (z := h0) (by omega) (by decide) hso dX2_hash_23 ?_
  refine va_get (D := D) (ci := 1) (v := .ref a4) (C := RX1) (T := TX1) (N := 5) hx hb hts hinX1 hown hK hP 2 rfl rfl 3 (by decide) (hts (.fieldLink RX2 75 "TreeGossip$Store" "hashes" "[J") (by decide +kernel)) (fun _ h9 => h9) rfl dX2_hash_24 ?_
  refine lv_iload_n hx hb dX2_hash_27 rfl (lv_at hl 2 rfl) ?_
  refine lv_iload_n hx hb dX2_hash_28 rfl (lv_at hl 3 rfl) ?_
  refine tg_Si (As := [.int (nI (k)), .int (nI (nd))]) (rest := [.ref a4]) ⟨hx, hb, hml, hown, hts⟩ (k_X2_treePlace l D ty k nd hk (by omega)) (va_cwS 2 hts gX2_hash_X2_treePlace rfl rfl rfl (by decide +kernel) ⟨Nat.le_of_ble_eq_true rfl, Nat.le_of_ble_eq_true rfl⟩) hK hN hP hD hS hA rfl hl.1 rfl (Nat.le_of_ble_eq_true rfl) dX2_hash_29 ⟨Nat.le_of_ble_eq_true rfl, Nat.le_of_ble_eq_true rfl⟩ (fun H locs hP hD hS => ?_)
  have h85 : (4 ^ k - 1) / 3 + nd < 85 := by omega
  refine tg_lald hx hb hK hP 3 rfl (f := x.2.2.2.1) (k := (4 ^ k - 1) / 3 + nd) (by omega) (by decide) dX2_hash_32 ?_
  exact hret _ _ 33 _ _ hP hD hS (rfl) dX2_hash_33
def rmk_X2_start : Room := { frames := 3, cells := 0, slots := 0, locals := 72 }
theorem ink_X2_start_X0 : ∀ w ∈ wsX00, w ∈ wsX2_start := by decide +kernel
theorem ink_X2_start_X1 : ∀ w ∈ wsX10, w ∈ wsX2_start := by decide +kernel
theorem ink_X2_start_X2 : ∀ w ∈ wsX20, w ∈ wsX2_start := by decide +kernel
set_option maxHeartbeats 4000000 in
set_option maxRecDepth 100000 in
theorem k_X2_start (l : Launch) (D : va_G) (ty : Nat → ClassId) (t0 : Nat) (t1 : Nat) (t2 : Nat) (c : tg_CT) (sw : Nat → Option Nat) (rw : Nat → Option Nat) (si : Nat) (g0 : Nat) (b1 : Nat) (b2 : Nat) (b3 : Nat) (b4 : Nat) (b5 : Nat) (b6 : Nat) (b7 : Nat) (b8 : Nat) (r : tg_RS) (o : Nat) (h0 : Nat) (a1 : Nat) (a2 : Nat) (a3 : Nat) (a4 : Nat) (x : tg_SS) (hsi : si ≤ 1) (hro : rw (1 - si) = some g0) (hso : sw si = some h0) (ho : o < 100) (hz : tg_rz r < 100) : tg_Mi l yX2_start wsX2_start rmk_X2_start D ty [.ref t0, .int (nI (si))] [(t0, .inr (2, [.ref t1, .ref t2, .int (c.1), .int (c.2.1), .int (c.2.2)])), (t1, .inl (ty 3, 2, .inr (.inr (.inr (.inr sw))))), (t2, .inl (ty 4, 2, .inr (.inr (.inr (.inr rw))))), (g0, .inr (0, [.ref b1, .ref b2, .ref b3, .ref b4, .ref b5, .ref b6, .ref b7, .ref b8, .int (nI (r.2.2.2.2.2.2.2.2)), .int (nI (o))])), (b1, .inl (ty 0, 100, .inl r.1)), (b2, .inl (ty 0, 100, .inl r.2.1)), (b3, .inl (ty 0, 100, .inl r.2.2.1)), (b4, .inl (ty 0, 100, .inl r.2.2.2.1)), (b5, .inl (ty 1, 400, .inr (.inl r.2.2.2.2.1))), (b6, .inl (ty 1, 400, .inr (.inl r.2.2.2.2.2.1))), (b7, .inl (ty 1, 400, .inr (.inl r.2.2.2.2.2.2.1))), (b8, .inl (ty 0, 400, .inl r.2.2.2.2.2.2.2.1)), (h0, .inr (1, [.ref a1, .ref a2, .ref a3, .ref a4, .int (x.2.2.2.2)])), (a4, .inl (ty 1, 85, .inr (.inl x.2.2.2.1)))] [(t0, .inr (2, [.ref t1, .ref t2, .int (c.1 + nI 1), .int (c.2.1), .int (c.2.2 + nI (tg_pc 0))])), (t1, .inl (ty 3, 2, .inr (.inr (.inr (.inr sw))))), (t2, .inl (ty 4, 2, .inr (.inr (.inr (.inr rw))))), (g0, .inr (0, [.ref b1, .ref b2, .ref b3, .ref b4, .ref b5, .ref b6, .ref b7, .ref b8, .int (nI (tg_rz r + 1)), .int (nI (o))])), (b1, .inl (ty 0, 100, .inl (upd r.1 ((o + tg_rz r) % 100) (nI 0)))), (b2, .inl (ty 0, 100, .inl (upd r.2.1 ((o + tg_rz r) % 100) (nI 0)))), (b3, .inl (ty 0, 100, .inl (upd r.2.2.1 ((o + tg_rz r) % 100) (nI 0)))), (b4, .inl (ty 0, 100, .inl (upd r.2.2.2.1 ((o + tg_rz r) % 100) (nI 0)))), (b5, .inl (ty 1, 400, .inr (.inl (vp_updL r.2.2.2.2.1 ((o + tg_rz r) % 100 * 4) (x.2.2.2.1 0))))), (b6, .inl (ty 1, 400, .inr (.inl r.2.2.2.2.2.1))), (b7, .inl (ty 1, 400, .inr (.inl r.2.2.2.2.2.2.1))), (b8, .inl (ty 0, 400, .inl r.2.2.2.2.2.2.2.1)), (h0, .inr (1, [.ref a1, .ref a2, .ref a3, .ref a4, .int (x.2.2.2.2)])), (a4, .inl (ty 1, 85, .inr (.inl x.2.2.2.1)))] (nI (1)) 0 0 := by
  refine tg_start_z (cc := cX2_start) (maxL := 3) (lvs := [(0, .ref t0), (1, .int (nI (si)))]) (by decide) rfl (Nat.le_of_ble_eq_true rfl) rfl ?_
  intro pp ee ss mm args below meth cc AA ls QQ hx hb hr hts hown hlocks hml hnm hA hP hD hS hK hN hl hret
  have hinX0 := ink_X2_start_X0
  have hinX1 := ink_X2_start_X1
  have hinX2 := ink_X2_start_X2
  refine lv_iload_n hx hb dX2_start_0 rfl (lv_at hl 1 rfl) ?_
  refine lv_iconst (v := nI (2)) hx hb dX2_start_1 (by decide) ?_
  refine tg_Sv (As := [.int (nI (si)), .int (nI (2))]) (rest := []) ⟨hx, hb, hml, hown, hts⟩ (k_X2_checkIndex l D ty si 2 (by omega) (by omega)) (va_cwS 2 hts gX2_start_X2_checkIndex rfl rfl rfl (by decide +kernel) ⟨Nat.le_of_ble_eq_true rfl, Nat.le_of_ble_eq_true rfl⟩) hK hN hP hD hS hA rfl hl.1 rfl (Nat.le_of_ble_eq_true rfl) dX2_start_2 ⟨Nat.le_of_ble_eq_true rfl, Nat.le_of_ble_eq_true rfl⟩ (fun H locs hP hD hS => ?_)
  refine lv_aload_n hx hb dX2_start_5 rfl (lv_at hl 0 rfl) ?_
  refine lv_iload_n hx hb dX2_start_6 rfl (lv_at hl 1 rfl) ?_
  refine lv_iconst (v := nI (0)) hx hb dX2_start_7 (by decide) ?_
  refine lv_iconst (v := nI (0)) hx hb dX2_start_8 (by decide) ?_
  refine lv_iconst (v := nI (0)) hx hb dX2_start_9 (by decide) ?_
  refine lv_iconst (v := nI (0)) hx hb dX2_start_10 (by decide) ?_
  refine tg_Vi (As := [.int (nI (si)), .int (nI (0)), .int (nI (0)), .int (nI (0)), .int (nI (0))]) (rest := []) (wr := [(t1, .inl (ty 3, 2, .inr (.inr (.inr (.inr sw))))), (b5, .inl (ty 1, 400, .inr (.inl r.2.2.2.2.1))), (b6, .inl (ty 1, 400, .inr (.inl r.2.2.2.2.2.1))), (b7, .inl (ty 1, 400, .inr (.inl r.2.2.2.2.2.2.1))), (b8, .inl (ty 0, 400, .inl r.2.2.2.2.2.2.2.1)), (h0, .inr (1, [.ref a1, .ref a2, .ref a3, .ref a4, .int (x.2.2.2.2)])), (a4, .inl (ty 1, 85, .inr (.inl x.2.2.2.1)))]) (w2 := [(t0, .inr (2, [.ref t1, .ref t2, .int ((c.1) + nI 1), .int ((c.2.1)), .int ((c.2.2) + nI (tg_pc 0))])), (t1, .inl (ty 3, 2, .inr (.inr (.inr (.inr sw))))), (t2, .inl (ty 4, 2, .inr (.inr (.inr (.inr rw))))), (g0, .inr (0, [.ref b1, .ref b2, .ref b3, .ref b4, .ref b5, .ref b6, .ref b7, .ref b8, .int (nI ((r.2.2.2.2.2.2.2.2) + 1)), .int (nI (o))])), (b1, .inl (ty 0, 100, .inl (upd (r.1) ((o + (r.2.2.2.2.2.2.2.2)) % 100) (nI (0))))), (b2, .inl (ty 0, 100, .inl (upd (r.2.1) ((o + (r.2.2.2.2.2.2.2.2)) % 100) (nI (0))))), (b3, .inl (ty 0, 100, .inl (upd (r.2.2.1) ((o + (r.2.2.2.2.2.2.2.2)) % 100) (nI (0))))), (b4, .inl (ty 0, 100, .inl (upd (r.2.2.2.1) ((o + (r.2.2.2.2.2.2.2.2)) % 100) (nI 0)))), (b5, .inl (ty 1, 400, .inr (.inl r.2.2.2.2.1))), (b6, .inl (ty 1, 400, .inr (.inl r.2.2.2.2.2.1))), (b7, .inl (ty 1, 400, .inr (.inl r.2.2.2.2.2.2.1))), (b8, .inl (ty 0, 400, .inl r.2.2.2.2.2.2.2.1)), (h0, .inr (1, [.ref a1, .ref a2, .ref a3, .ref a4, .int (x.2.2.2.2)])), (a4, .inl (ty 1, 85, .inr (.inl x.2.2.2.1)))]) ⟨hx, hb, hml, hown, hts⟩ (k_X2_send l D ty t0 t1 t2 (c.1) (c.2.1) (c.2.2) sw rw si g0 b1 b2 b3 b4 b5 b6 b7 b8 (r.2.2.2.2.2.2.2.2) o (r.1) (r.2.1) (r.2.2.1) (r.2.2.2.1) (nI (0)) (nI (0)) (nI (0)) 0 hsi hro (by decide) ho hz) (cwV 5 hts gX2_start_X2_send rfl rfl rfl (by decide +kernel) ⟨Nat.le_of_ble_eq_true rfl, Nat.le_of_ble_eq_true rfl⟩) hK hN hP hD hS hA [0, 2, 3, 4, 5, 6, 7] [1, 8, 9, 10, 11, 12, 13] [7, 0, 8, 9, 10, 11, 12, 13, 1, 2, 3, 4, 5, 6] 0 2 rfl rfl rfl rfl rfl rfl rfl (by decide) rfl hl.1 rfl (Nat.le_of_ble_eq_true rfl) dX2_start_11 rfl rfl ⟨Nat.le_of_ble_eq_true rfl, Nat.le_of_ble_eq_true rfl⟩ (fun H locs hP hD hS => ?_)
  refine lv_istore_n (lv' := [(2, .int (nI ((o + (r.2.2.2.2.2.2.2.2)) % 100))), (0, .ref t0), (1, .int (nI (si)))]) hx hb dX2_start_14 rfl hl (by decide) rfl (fun ls hl => ?_)
  refine lv_iload_n hx hb dX2_start_15 rfl (lv_at hl 0 rfl) ?_
  refine lv_iconst (v := -1) hx hb dX2_start_16 (by decide) ?_
  refine lv_icmp_ne (tgt := 22) hx hb dX2_start_17 (by decide) (fun c17_1 => ?_) (fun c17_1 => ?_)
  · skip
    refine lv_aload_n hx hb dX2_start_22 rfl (lv_at hl 1 rfl) ?_
    refine va_get (D := D) (ci := 2) (v := .ref t2) (C := RX2) (T := TX2) (N := 5) hx hb hts hinX2 hown hK hP 0 rfl rfl 1 (by decide) (hts (.fieldLink RX2 17 "TreeGossip" "rows" "[LTreeGossip$Row;") (by decide +kernel)) (fun _ h9 => h9) rfl dX2_start_23 ?_
    refine lv_iload_n hx hb dX2_start_26 rfl (lv_at hl 2 rfl) ?_
    refine tg_Si (As := [.int (nI (si))]) (rest := [.ref t2]) ⟨hx, hb, hml, hown, hts⟩ (k_X2_other l D ty si (by omega)) (va_cwS 1 hts gX2_start_X2_other rfl rfl rfl (by decide +kernel) ⟨Nat.le_of_ble_eq_true rfl, Nat.le_of_ble_eq_true rfl⟩) hK hN hP hD hS hA rfl hl.1 rfl (Nat.le_of_ble_eq_true rfl) dX2_start_27 ⟨Nat.le_of_ble_eq_true rfl, Nat.le_of_ble_eq_true rfl⟩ (fun H locs hP hD hS => ?_)
    refine tg_aald hx hb hK hP 2 4 (C := RX0) rfl rfl (k := 1 - si) (z := g0) (by omega) (by decide) hro dX2_start_30 ?_
    refine va_get (D := D) (ci := 0) (v := .ref b5) (C := RX0) (T := TX0) (N := 10) hx hb hts hinX0 hown hK hP 3 rfl rfl 4 (by decide) (hts (.fieldLink RX2 89 "TreeGossip$Row" "hashes" "[J") (by decide +kernel)) (fun _ h9 => h9) rfl dX2_start_31 ?_
    refine lv_iload_n hx hb dX2_start_34 rfl (lv_at hl 0 rfl) ?_
    refine lv_iconst (v := nI (4)) hx hb dX2_start_35 (by decide) ?_
    refine lv_imul hx hb dX2_start_36 ?_
    refine tg_vi (pk_mul _ _) ?_
    refine lv_aload_n hx hb dX2_start_37 rfl (lv_at hl 1 rfl) ?_
    refine va_get (D := D) (ci := 2) (v := .ref t1) (C := RX2) (T := TX2) (N := 5) hx hb hts hinX2 hown hK hP 0 rfl rfl 0 (by decide) (hts (.fieldLink RX2 11 "TreeGossip" "stores" "[LTreeGossip$Store;") (by decide +kernel)) (fun _ h9 => h9) rfl dX2_start_38 ?_
    refine lv_iload_n hx hb dX2_start_41 rfl (lv_at hl 2 rfl) ?_
    refine tg_aald hx hb hK hP 1 3 (C := RX1) rfl rfl (k := si) (z := h0) (by omega) (by decide) hso dX2_start_42 ?_
    refine va_get (D := D) (ci := 1) (v := .ref a4) (C := RX1) (T := TX1) (N := 5) hx hb hts hinX1 hown hK hP 12 rfl rfl 3 (by decide) (hts (.fieldLink RX2 75 "TreeGossip$Store" "hashes" "[J") (by decide +kernel)) (fun _ h9 => h9) rfl dX2_start_43 ?_
    refine lv_iconst (v := nI (0)) hx hb dX2_start_46 (by decide) ?_
    refine tg_lald hx hb hK hP 13 rfl (f := x.2.2.2.1) (k := 0) (by omega) (by decide) dX2_start_47 ?_
    refine tg_last hx hb hK hP hD hS 8 rfl (k := ((o + (r.2.2.2.2.2.2.2.2)) % 100) * 4) (by omega) (by decide) dX2_start_48 (ws' := [(t0, .inr (2, [.ref t1, .ref t2, .int ((c.1) + nI 1), .int ((c.2.1)), .int ((c.2.2) + nI (tg_pc 0))])), (t1, .inl (ty 3, 2, .inr (.inr (.inr (.inr sw))))), (t2, .inl (ty 4, 2, .inr (.inr (.inr (.inr rw))))), (g0, .inr (0, [.ref b1, .ref b2, .ref b3, .ref b4, .ref b5, .ref b6, .ref b7, .ref b8, .int (nI ((r.2.2.2.2.2.2.2.2) + 1)), .int (nI (o))])), (b1, .inl (ty 0, 100, .inl (upd (r.1) ((o + (r.2.2.2.2.2.2.2.2)) % 100) (nI (0))))), (b2, .inl (ty 0, 100, .inl (upd (r.2.1) ((o + (r.2.2.2.2.2.2.2.2)) % 100) (nI (0))))), (b3, .inl (ty 0, 100, .inl (upd (r.2.2.1) ((o + (r.2.2.2.2.2.2.2.2)) % 100) (nI (0))))), (b4, .inl (ty 0, 100, .inl (upd (r.2.2.2.1) ((o + (r.2.2.2.2.2.2.2.2)) % 100) (nI 0)))), (b5, .inl (ty 1, 400, .inr (.inl (vp_updL r.2.2.2.2.1 (((o + (r.2.2.2.2.2.2.2.2)) % 100) * 4) (x.2.2.2.1 0))))), (b6, .inl (ty 1, 400, .inr (.inl r.2.2.2.2.2.1))), (b7, .inl (ty 1, 400, .inr (.inl r.2.2.2.2.2.2.1))), (b8, .inl (ty 0, 400, .inl r.2.2.2.2.2.2.2.1)), (h0, .inr (1, [.ref a1, .ref a2, .ref a3, .ref a4, .int (x.2.2.2.2)])), (a4, .inl (ty 1, 85, .inr (.inl x.2.2.2.1)))]) rfl (fun H locs hP hD hS => ?_)
    refine lv_iconst (v := nI (1)) hx hb dX2_start_49 (by decide) ?_
    exact hret _ _ 50 _ _ hP hD hS (rfl) rfl dX2_start_50
  · exact absurd c17_1 (tg_neg1 _ (by omega))
def rmk_X2_start_full : Room := { frames := 2, cells := 0, slots := 0, locals := 51 }
set_option maxHeartbeats 4000000 in
set_option maxRecDepth 100000 in
theorem k_X2_start_full (l : Launch) (D : va_G) (ty : Nat → ClassId) (t0 : Nat) (t1 : Nat) (t2 : Nat) (c : tg_CT) (sw : Nat → Option Nat) (rw : Nat → Option Nat) (si : Nat) (g0 : Nat) (b1 : Nat) (b2 : Nat) (b3 : Nat) (b4 : Nat) (b5 : Nat) (b6 : Nat) (b7 : Nat) (b8 : Nat) (r : tg_RS) (o : Nat) (h0 : Nat) (a1 : Nat) (a2 : Nat) (a3 : Nat) (a4 : Nat) (x : tg_SS) (hsi : si ≤ 1) (hro : rw (1 - si) = some g0) (hso : sw si = some h0) (hz : tg_rz r = 100) : tg_Mi l yX2_start wsX2_start rmk_X2_start_full D ty [.ref t0, .int (nI (si))] [(t0, .inr (2, [.ref t1, .ref t2, .int (c.1), .int (c.2.1), .int (c.2.2)])), (t1, .inl (ty 3, 2, .inr (.inr (.inr (.inr sw))))), (t2, .inl (ty 4, 2, .inr (.inr (.inr (.inr rw))))), (g0, .inr (0, [.ref b1, .ref b2, .ref b3, .ref b4, .ref b5, .ref b6, .ref b7, .ref b8, .int (nI (r.2.2.2.2.2.2.2.2)), .int (nI (o))])), (b1, .inl (ty 0, 100, .inl r.1)), (b2, .inl (ty 0, 100, .inl r.2.1)), (b3, .inl (ty 0, 100, .inl r.2.2.1)), (b4, .inl (ty 0, 100, .inl r.2.2.2.1)), (b5, .inl (ty 1, 400, .inr (.inl r.2.2.2.2.1))), (b6, .inl (ty 1, 400, .inr (.inl r.2.2.2.2.2.1))), (b7, .inl (ty 1, 400, .inr (.inl r.2.2.2.2.2.2.1))), (b8, .inl (ty 0, 400, .inl r.2.2.2.2.2.2.2.1)), (h0, .inr (1, [.ref a1, .ref a2, .ref a3, .ref a4, .int (x.2.2.2.2)])), (a4, .inl (ty 1, 85, .inr (.inl x.2.2.2.1)))] [(t0, .inr (2, [.ref t1, .ref t2, .int (c.1 + nI 1), .int (c.2.1 + nI 1), .int (c.2.2 + nI (tg_pc 0))])), (t1, .inl (ty 3, 2, .inr (.inr (.inr (.inr sw))))), (t2, .inl (ty 4, 2, .inr (.inr (.inr (.inr rw))))), (g0, .inr (0, [.ref b1, .ref b2, .ref b3, .ref b4, .ref b5, .ref b6, .ref b7, .ref b8, .int (nI (r.2.2.2.2.2.2.2.2)), .int (nI (o))])), (b1, .inl (ty 0, 100, .inl r.1)), (b2, .inl (ty 0, 100, .inl r.2.1)), (b3, .inl (ty 0, 100, .inl r.2.2.1)), (b4, .inl (ty 0, 100, .inl r.2.2.2.1)), (b5, .inl (ty 1, 400, .inr (.inl r.2.2.2.2.1))), (b6, .inl (ty 1, 400, .inr (.inl r.2.2.2.2.2.1))), (b7, .inl (ty 1, 400, .inr (.inl r.2.2.2.2.2.2.1))), (b8, .inl (ty 0, 400, .inl r.2.2.2.2.2.2.2.1)), (h0, .inr (1, [.ref a1, .ref a2, .ref a3, .ref a4, .int (x.2.2.2.2)])), (a4, .inl (ty 1, 85, .inr (.inl x.2.2.2.1)))] (nI (0)) 0 0 := by
  refine tg_start_z (cc := cX2_start) (maxL := 3) (lvs := [(0, .ref t0), (1, .int (nI (si)))]) (by decide) rfl (Nat.le_of_ble_eq_true rfl) rfl ?_
  intro pp ee ss mm args below meth cc AA ls QQ hx hb hr hts hown hlocks hml hnm hA hP hD hS hK hN hl hret
  refine lv_iload_n hx hb dX2_start_0 rfl (lv_at hl 1 rfl) ?_
  refine lv_iconst (v := nI (2)) hx hb dX2_start_1 (by decide) ?_
  refine tg_Sv (As := [.int (nI (si)), .int (nI (2))]) (rest := []) ⟨hx, hb, hml, hown, hts⟩ (k_X2_checkIndex l D ty si 2 (by omega) (by omega)) (va_cwS 2 hts gX2_start_X2_checkIndex rfl rfl rfl (by decide +kernel) ⟨Nat.le_of_ble_eq_true rfl, Nat.le_of_ble_eq_true rfl⟩) hK hN hP hD hS hA rfl hl.1 rfl (Nat.le_of_ble_eq_true rfl) dX2_start_2 ⟨Nat.le_of_ble_eq_true rfl, Nat.le_of_ble_eq_true rfl⟩ (fun H locs hP hD hS => ?_)
  refine lv_aload_n hx hb dX2_start_5 rfl (lv_at hl 0 rfl) ?_
  refine lv_iload_n hx hb dX2_start_6 rfl (lv_at hl 1 rfl) ?_
  refine lv_iconst (v := nI (0)) hx hb dX2_start_7 (by decide) ?_
  refine lv_iconst (v := nI (0)) hx hb dX2_start_8 (by decide) ?_
  refine lv_iconst (v := nI (0)) hx hb dX2_start_9 (by decide) ?_
  refine lv_iconst (v := nI (0)) hx hb dX2_start_10 (by decide) ?_
  refine tg_Vi (As := [.int (nI (si)), .int (nI (0)), .int (nI (0)), .int (nI (0)), .int (nI (0))]) (rest := []) (wr := [(t1, .inl (ty 3, 2, .inr (.inr (.inr (.inr sw))))), (b5, .inl (ty 1, 400, .inr (.inl r.2.2.2.2.1))), (b6, .inl (ty 1, 400, .inr (.inl r.2.2.2.2.2.1))), (b7, .inl (ty 1, 400, .inr (.inl r.2.2.2.2.2.2.1))), (b8, .inl (ty 0, 400, .inl r.2.2.2.2.2.2.2.1)), (h0, .inr (1, [.ref a1, .ref a2, .ref a3, .ref a4, .int (x.2.2.2.2)])), (a4, .inl (ty 1, 85, .inr (.inl x.2.2.2.1)))]) (w2 := [(t0, .inr (2, [.ref t1, .ref t2, .int ((c.1) + nI 1), .int ((c.2.1) + nI 1), .int ((c.2.2) + nI (tg_pc 0))])), (t1, .inl (ty 3, 2, .inr (.inr (.inr (.inr sw))))), (t2, .inl (ty 4, 2, .inr (.inr (.inr (.inr rw))))), (g0, .inr (0, [.ref b1, .ref b2, .ref b3, .ref b4, .ref b5, .ref b6, .ref b7, .ref b8, .int (nI ((r.2.2.2.2.2.2.2.2))), .int (nI (o))])), (b1, .inl (ty 0, 100, .inl (r.1))), (b2, .inl (ty 0, 100, .inl (r.2.1))), (b3, .inl (ty 0, 100, .inl (r.2.2.1))), (b4, .inl (ty 0, 100, .inl (r.2.2.2.1))), (b5, .inl (ty 1, 400, .inr (.inl r.2.2.2.2.1))), (b6, .inl (ty 1, 400, .inr (.inl r.2.2.2.2.2.1))), (b7, .inl (ty 1, 400, .inr (.inl r.2.2.2.2.2.2.1))), (b8, .inl (ty 0, 400, .inl r.2.2.2.2.2.2.2.1)), (h0, .inr (1, [.ref a1, .ref a2, .ref a3, .ref a4, .int (x.2.2.2.2)])), (a4, .inl (ty 1, 85, .inr (.inl x.2.2.2.1)))]) ⟨hx, hb, hml, hown, hts⟩ (k_X2_send_full l D ty t0 t1 t2 (c.1) (c.2.1) (c.2.2) sw rw si g0 b1 b2 b3 b4 b5 b6 b7 b8 (r.2.2.2.2.2.2.2.2) o (r.1) (r.2.1) (r.2.2.1) (r.2.2.2.1) (nI (0)) (nI (0)) (nI (0)) 0 hsi hro (by decide) hz) (cwV 5 hts gX2_start_X2_send rfl rfl rfl (by decide +kernel) ⟨Nat.le_of_ble_eq_true rfl, Nat.le_of_ble_eq_true rfl⟩) hK hN hP hD hS hA [0, 2, 3, 4, 5, 6, 7] [1, 8, 9, 10, 11, 12, 13] [7, 0, 8, 9, 10, 11, 12, 13, 1, 2, 3, 4, 5, 6] 0 2 rfl rfl rfl rfl rfl rfl rfl (by decide) rfl hl.1 rfl (Nat.le_of_ble_eq_true rfl) dX2_start_11 rfl rfl ⟨Nat.le_of_ble_eq_true rfl, Nat.le_of_ble_eq_true rfl⟩ (fun H locs hP hD hS => ?_)
  refine lv_istore_n (lv' := [(2, .int (-1)), (0, .ref t0), (1, .int (nI (si)))]) hx hb dX2_start_14 rfl hl (by decide) rfl (fun ls hl => ?_)
  refine lv_iload_n hx hb dX2_start_15 rfl (lv_at hl 0 rfl) ?_
  refine lv_iconst (v := -1) hx hb dX2_start_16 (by decide) ?_
  refine lv_icmp_ne (tgt := 22) hx hb dX2_start_17 (by decide) (fun c17_1 => ?_) (fun c17_1 => ?_)
  · exact absurd rfl c17_1
  · skip
    refine lv_iconst (v := nI (0)) hx hb dX2_start_20 (by decide) ?_
    exact hret _ _ 21 _ _ hP hD hS (rfl) rfl dX2_start_21
def rmk_X2_step : Room := { frames := 6, cells := 0, slots := 0, locals := 154 }
set_option maxHeartbeats 4000000 in
set_option maxRecDepth 100000 in
theorem k_X2_step (l : Launch) (D : va_G) (ty : Nat → ClassId) (t0 : Nat) (t1 : Nat) (t2 : Nat) (c : tg_CT) (sw : Nat → Option Nat) (rw : Nat → Option Nat) (si : Nat) (f0 : Nat) (d1 : Nat) (d2 : Nat) (d3 : Nat) (d4 : Nat) (d5 : Nat) (d6 : Nat) (d7 : Nat) (d8 : Nat) (q : tg_RS) (w : Nat) (g0 : Nat) (b1 : Nat) (b2 : Nat) (b3 : Nat) (b4 : Nat) (b5 : Nat) (b6 : Nat) (b7 : Nat) (b8 : Nat) (r : tg_RS) (o : Nat) (h0 : Nat) (a1 : Nat) (a2 : Nat) (a3 : Nat) (a4 : Nat) (x : tg_SS) (hsi : si ≤ 1) (hri : rw si = some f0) (hro : rw (1 - si) = some g0) (hso : sw si = some h0) (ho : o < 100) (hz : tg_rz r ≤ 100) (hw : w < 100) (hyu : tg_rz q ≤ 100) (hg : 0 < tg_rz q → tg_okG q w) (hok : tg_okL x.2.2.1) : tg_Mi l yX2_step wsX2_step rmk_X2_step D ty [.ref t0, .int (nI (si))] [(t0, .inr (2, [.ref t1, .ref t2, .int (c.1), .int (c.2.1), .int (c.2.2)])), (t1, .inl (ty 3, 2, .inr (.inr (.inr (.inr sw))))), (t2, .inl (ty 4, 2, .inr (.inr (.inr (.inr rw))))), (f0, .inr (0, [.ref d1, .ref d2, .ref d3, .ref d4, .ref d5, .ref d6, .ref d7, .ref d8, .int (nI (q.2.2.2.2.2.2.2.2)), .int (nI (w))])), (d1, .inl (ty 0, 100, .inl q.1)), (d2, .inl (ty 0, 100, .inl q.2.1)), (d3, .inl (ty 0, 100, .inl q.2.2.1)), (d4, .inl (ty 0, 100, .inl q.2.2.2.1)), (d5, .inl (ty 1, 400, .inr (.inl q.2.2.2.2.1))), (d6, .inl (ty 1, 400, .inr (.inl q.2.2.2.2.2.1))), (d7, .inl (ty 1, 400, .inr (.inl q.2.2.2.2.2.2.1))), (d8, .inl (ty 0, 400, .inl q.2.2.2.2.2.2.2.1)), (g0, .inr (0, [.ref b1, .ref b2, .ref b3, .ref b4, .ref b5, .ref b6, .ref b7, .ref b8, .int (nI (r.2.2.2.2.2.2.2.2)), .int (nI (o))])), (b1, .inl (ty 0, 100, .inl r.1)), (b2, .inl (ty 0, 100, .inl r.2.1)), (b3, .inl (ty 0, 100, .inl r.2.2.1)), (b4, .inl (ty 0, 100, .inl r.2.2.2.1)), (b5, .inl (ty 1, 400, .inr (.inl r.2.2.2.2.1))), (b6, .inl (ty 1, 400, .inr (.inl r.2.2.2.2.2.1))), (b7, .inl (ty 1, 400, .inr (.inl r.2.2.2.2.2.2.1))), (b8, .inl (ty 0, 400, .inl r.2.2.2.2.2.2.2.1)), (h0, .inr (1, [.ref a1, .ref a2, .ref a3, .ref a4, .int (x.2.2.2.2)])), (a1, .inl (ty 1, 256, .inr (.inl x.1))), (a2, .inl (ty 1, 256, .inr (.inl x.2.1))), (a3, .inl (ty 0, 256, .inl x.2.2.1)), (a4, .inl (ty 1, 85, .inr (.inl x.2.2.2.1)))] [(t0, .inr (2, [.ref t1, .ref t2, .int (((tg_rcv x q w r o c).2.2.2.2.2).1), .int (((tg_rcv x q w r o c).2.2.2.2.2).2.1), .int (((tg_rcv x q w r o c).2.2.2.2.2).2.2)])), (t1, .inl (ty 3, 2, .inr (.inr (.inr (.inr sw))))), (t2, .inl (ty 4, 2, .inr (.inr (.inr (.inr rw))))), (f0, .inr (0, [.ref d1, .ref d2, .ref d3, .ref d4, .ref d5, .ref d6, .ref d7, .ref d8, .int (nI (((tg_rcv x q w r o c).2.2.1).2.2.2.2.2.2.2.2)), .int (nI ((tg_rcv x q w r o c).2.2.2.1))])), (d1, .inl (ty 0, 100, .inl ((tg_rcv x q w r o c).2.2.1).1)), (d2, .inl (ty 0, 100, .inl ((tg_rcv x q w r o c).2.2.1).2.1)), (d3, .inl (ty 0, 100, .inl ((tg_rcv x q w r o c).2.2.1).2.2.1)), (d4, .inl (ty 0, 100, .inl ((tg_rcv x q w r o c).2.2.1).2.2.2.1)), (d5, .inl (ty 1, 400, .inr (.inl ((tg_rcv x q w r o c).2.2.1).2.2.2.2.1))), (d6, .inl (ty 1, 400, .inr (.inl ((tg_rcv x q w r o c).2.2.1).2.2.2.2.2.1))), (d7, .inl (ty 1, 400, .inr (.inl ((tg_rcv x q w r o c).2.2.1).2.2.2.2.2.2.1))), (d8, .inl (ty 0, 400, .inl ((tg_rcv x q w r o c).2.2.1).2.2.2.2.2.2.2.1)), (g0, .inr (0, [.ref b1, .ref b2, .ref b3, .ref b4, .ref b5, .ref b6, .ref b7, .ref b8, .int (nI (((tg_rcv x q w r o c).2.2.2.2.1).2.2.2.2.2.2.2.2)), .int (nI (o))])), (b1, .inl (ty 0, 100, .inl ((tg_rcv x q w r o c).2.2.2.2.1).1)), (b2, .inl (ty 0, 100, .inl ((tg_rcv x q w r o c).2.2.2.2.1).2.1)), (b3, .inl (ty 0, 100, .inl ((tg_rcv x q w r o c).2.2.2.2.1).2.2.1)), (b4, .inl (ty 0, 100, .inl ((tg_rcv x q w r o c).2.2.2.2.1).2.2.2.1)), (b5, .inl (ty 1, 400, .inr (.inl ((tg_rcv x q w r o c).2.2.2.2.1).2.2.2.2.1))), (b6, .inl (ty 1, 400, .inr (.inl ((tg_rcv x q w r o c).2.2.2.2.1).2.2.2.2.2.1))), (b7, .inl (ty 1, 400, .inr (.inl ((tg_rcv x q w r o c).2.2.2.2.1).2.2.2.2.2.2.1))), (b8, .inl (ty 0, 400, .inl ((tg_rcv x q w r o c).2.2.2.2.1).2.2.2.2.2.2.2.1)), (h0, .inr (1, [.ref a1, .ref a2, .ref a3, .ref a4, .int (((tg_rcv x q w r o c).2.1).2.2.2.2)])), (a1, .inl (ty 1, 256, .inr (.inl ((tg_rcv x q w r o c).2.1).1))), (a2, .inl (ty 1, 256, .inr (.inl ((tg_rcv x q w r o c).2.1).2.1))), (a3, .inl (ty 0, 256, .inl ((tg_rcv x q w r o c).2.1).2.2.1)), (a4, .inl (ty 1, 85, .inr (.inl ((tg_rcv x q w r o c).2.1).2.2.2.1)))] ((tg_rcv x q w r o c).1) 0 0 := by
  refine tg_start_i (cc := cX2_step) (maxL := 2) (lvs := [(0, .ref t0), (1, .int (nI (si)))]) (by decide) rfl (Nat.le_of_ble_eq_true rfl) rfl ?_
  intro pp ee ss mm args below meth cc AA ls QQ hx hb hr hts hown hlocks hml hnm hA hP hD hS hK hN hl hret
  refine lv_iload_n hx hb dX2_step_0 rfl (lv_at hl 1 rfl) ?_
  refine lv_iconst (v := nI (2)) hx hb dX2_step_1 (by decide) ?_
  refine tg_Sv (As := [.int (nI (si)), .int (nI (2))]) (rest := []) ⟨hx, hb, hml, hown, hts⟩ (k_X2_checkIndex l D ty si 2 (by omega) (by omega)) (va_cwS 2 hts gX2_step_X2_checkIndex rfl rfl rfl (by decide +kernel) ⟨Nat.le_of_ble_eq_true rfl, Nat.le_of_ble_eq_true rfl⟩) hK hN hP hD hS hA rfl hl.1 rfl (Nat.le_of_ble_eq_true rfl) dX2_step_2 ⟨Nat.le_of_ble_eq_true rfl, Nat.le_of_ble_eq_true rfl⟩ (fun H locs hP hD hS => ?_)
  refine lv_aload_n hx hb dX2_step_5 rfl (lv_at hl 0 rfl) ?_
  refine lv_iload_n hx hb dX2_step_6 rfl (lv_at hl 1 rfl) ?_
  refine tg_Vi (As := [.int (nI (si))]) (rest := []) (wr := []) (w2 := [(t0, .inr (2, [.ref t1, .ref t2, .int (((tg_rcv x q w r o c).2.2.2.2.2).1), .int (((tg_rcv x q w r o c).2.2.2.2.2).2.1), .int (((tg_rcv x q w r o c).2.2.2.2.2).2.2)])), (t1, .inl (ty 3, 2, .inr (.inr (.inr (.inr sw))))), (t2, .inl (ty 4, 2, .inr (.inr (.inr (.inr rw))))), (f0, .inr (0, [.ref d1, .ref d2, .ref d3, .ref d4, .ref d5, .ref d6, .ref d7, .ref d8, .int (nI (((tg_rcv x q w r o c).2.2.1).2.2.2.2.2.2.2.2)), .int (nI ((tg_rcv x q w r o c).2.2.2.1))])), (d1, .inl (ty 0, 100, .inl ((tg_rcv x q w r o c).2.2.1).1)), (d2, .inl (ty 0, 100, .inl ((tg_rcv x q w r o c).2.2.1).2.1)), (d3, .inl (ty 0, 100, .inl ((tg_rcv x q w r o c).2.2.1).2.2.1)), (d4, .inl (ty 0, 100, .inl ((tg_rcv x q w r o c).2.2.1).2.2.2.1)), (d5, .inl (ty 1, 400, .inr (.inl ((tg_rcv x q w r o c).2.2.1).2.2.2.2.1))), (d6, .inl (ty 1, 400, .inr (.inl ((tg_rcv x q w r o c).2.2.1).2.2.2.2.2.1))), (d7, .inl (ty 1, 400, .inr (.inl ((tg_rcv x q w r o c).2.2.1).2.2.2.2.2.2.1))), (d8, .inl (ty 0, 400, .inl ((tg_rcv x q w r o c).2.2.1).2.2.2.2.2.2.2.1)), (g0, .inr (0, [.ref b1, .ref b2, .ref b3, .ref b4, .ref b5, .ref b6, .ref b7, .ref b8, .int (nI (((tg_rcv x q w r o c).2.2.2.2.1).2.2.2.2.2.2.2.2)), .int (nI (o))])), (b1, .inl (ty 0, 100, .inl ((tg_rcv x q w r o c).2.2.2.2.1).1)), (b2, .inl (ty 0, 100, .inl ((tg_rcv x q w r o c).2.2.2.2.1).2.1)), (b3, .inl (ty 0, 100, .inl ((tg_rcv x q w r o c).2.2.2.2.1).2.2.1)), (b4, .inl (ty 0, 100, .inl ((tg_rcv x q w r o c).2.2.2.2.1).2.2.2.1)), (b5, .inl (ty 1, 400, .inr (.inl ((tg_rcv x q w r o c).2.2.2.2.1).2.2.2.2.1))), (b6, .inl (ty 1, 400, .inr (.inl ((tg_rcv x q w r o c).2.2.2.2.1).2.2.2.2.2.1))), (b7, .inl (ty 1, 400, .inr (.inl ((tg_rcv x q w r o c).2.2.2.2.1).2.2.2.2.2.2.1))), (b8, .inl (ty 0, 400, .inl ((tg_rcv x q w r o c).2.2.2.2.1).2.2.2.2.2.2.2.1)), (h0, .inr (1, [.ref a1, .ref a2, .ref a3, .ref a4, .int (((tg_rcv x q w r o c).2.1).2.2.2.2)])), (a1, .inl (ty 1, 256, .inr (.inl ((tg_rcv x q w r o c).2.1).1))), (a2, .inl (ty 1, 256, .inr (.inl ((tg_rcv x q w r o c).2.1).2.1))), (a3, .inl (ty 0, 256, .inl ((tg_rcv x q w r o c).2.1).2.2.1)), (a4, .inl (ty 1, 85, .inr (.inl ((tg_rcv x q w r o c).2.1).2.2.2.1)))]) ⟨hx, hb, hml, hown, hts⟩ (k_X2_receiveC l D ty t0 t1 t2 c sw rw si f0 d1 d2 d3 d4 d5 d6 d7 d8 q w g0 b1 b2 b3 b4 b5 b6 b7 b8 r o h0 a1 a2 a3 a4 x hsi hri hro hso ho hz hw hyu hg hok) (cwV 1 hts gX2_step_X2_receive rfl rfl rfl (by decide +kernel) ⟨Nat.le_of_ble_eq_true rfl, Nat.le_of_ble_eq_true rfl⟩) hK hN hP hD hS hA [0, 1, 2, 3, 4, 5, 6, 7, 8, 9, 10, 11, 12, 13, 14, 15, 16, 17, 18, 19, 20, 21, 22, 23, 24, 25] [] [0, 1, 2, 3, 4, 5, 6, 7, 8, 9, 10, 11, 12, 13, 14, 15, 16, 17, 18, 19, 20, 21, 22, 23, 24, 25] 0 2 rfl rfl rfl rfl rfl rfl rfl (by decide) rfl hl.1 rfl (Nat.le_of_ble_eq_true rfl) dX2_step_7 rfl rfl ⟨Nat.le_of_ble_eq_true rfl, Nat.le_of_ble_eq_true rfl⟩ (fun H locs hP hD hS => ?_)
  exact hret _ _ 10 _ _ hP hD hS (rfl) dX2_step_10
def rmk_X2_lose_none : Room := { frames := 1, cells := 0, slots := 0, locals := 21 }
theorem ink_X2_lose_none_X0 : ∀ w ∈ wsX00, w ∈ wsX2_lose := by decide +kernel
theorem ink_X2_lose_none_X2 : ∀ w ∈ wsX20, w ∈ wsX2_lose := by decide +kernel
set_option maxHeartbeats 4000000 in
set_option maxRecDepth 100000 in
theorem k_X2_lose_none (l : Launch) (D : va_G) (ty : Nat → ClassId) (t0 : Nat) (t1 : Nat) (t2 : Nat) (c : tg_CT) (sw : Nat → Option Nat) (rw : Nat → Option Nat) (si : Nat) (f0 : Nat) (d1 : Nat) (d2 : Nat) (d3 : Nat) (d4 : Nat) (d5 : Nat) (d6 : Nat) (d7 : Nat) (d8 : Nat) (q : tg_RS) (w : Nat) (hsi : si ≤ 1) (hri : rw si = some f0) (hy : tg_rz q = 0) : tg_Mi l yX2_lose wsX2_lose rmk_X2_lose_none D ty [.ref t0, .int (nI (si))] [(t0, .inr (2, [.ref t1, .ref t2, .int (c.1), .int (c.2.1), .int (c.2.2)])), (t2, .inl (ty 4, 2, .inr (.inr (.inr (.inr rw))))), (f0, .inr (0, [.ref d1, .ref d2, .ref d3, .ref d4, .ref d5, .ref d6, .ref d7, .ref d8, .int (nI (q.2.2.2.2.2.2.2.2)), .int (nI (w))])), (d1, .inl (ty 0, 100, .inl q.1))] [(t0, .inr (2, [.ref t1, .ref t2, .int (c.1), .int (c.2.1), .int (c.2.2)])), (t2, .inl (ty 4, 2, .inr (.inr (.inr (.inr rw))))), (f0, .inr (0, [.ref d1, .ref d2, .ref d3, .ref d4, .ref d5, .ref d6, .ref d7, .ref d8, .int (nI (q.2.2.2.2.2.2.2.2)), .int (nI (w))])), (d1, .inl (ty 0, 100, .inl q.1))] (-1) 0 0 := by
  refine tg_start_i (cc := cX2_lose) (maxL := 3) (lvs := [(0, .ref t0), (1, .int (nI (si)))]) (by decide) rfl (Nat.le_of_ble_eq_true rfl) rfl ?_
  intro pp ee ss mm args below meth cc AA ls QQ hx hb hr hts hown hlocks hml hnm hA hP hD hS hK hN hl hret
  have hinX0 := ink_X2_lose_none_X0
  have hinX2 := ink_X2_lose_none_X2
  have ez : q.2.2.2.2.2.2.2.2 = tg_rz q := rfl
  refine lv_iload_n hx hb dX2_lose_0 rfl (lv_at hl 1 rfl) ?_
  refine lv_iconst (v := nI (2)) hx hb dX2_lose_1 (by decide) ?_
  refine tg_Sv (As := [.int (nI (si)), .int (nI (2))]) (rest := []) ⟨hx, hb, hml, hown, hts⟩ (k_X2_checkIndex l D ty si 2 (by omega) (by omega)) (va_cwS 2 hts gX2_lose_X2_checkIndex rfl rfl rfl (by decide +kernel) ⟨Nat.le_of_ble_eq_true rfl, Nat.le_of_ble_eq_true rfl⟩) hK hN hP hD hS hA rfl hl.1 rfl (Nat.le_of_ble_eq_true rfl) dX2_lose_2 ⟨Nat.le_of_ble_eq_true rfl, Nat.le_of_ble_eq_true rfl⟩ (fun H locs hP hD hS => ?_)
  refine lv_aload_n hx hb dX2_lose_5 rfl (lv_at hl 0 rfl) ?_
  refine va_get (D := D) (ci := 2) (v := .ref t2) (C := RX2) (T := TX2) (N := 5) hx hb hts hinX2 hown hK hP 0 rfl rfl 1 (by decide) (hts (.fieldLink RX2 17 "TreeGossip" "rows" "[LTreeGossip$Row;") (by decide +kernel)) (fun _ h9 => h9) rfl dX2_lose_6 ?_
  refine lv_iload_n hx hb dX2_lose_9 rfl (lv_at hl 1 rfl) ?_
  refine tg_aald hx hb hK hP 1 4 (C := RX0) rfl rfl (k := si) (z := f0) (by omega) (by decide) hri dX2_lose_10 ?_
  refine lv_astore_n (lv' := [(2, .ref f0), (0, .ref t0), (1, .int (nI (si)))]) hx hb dX2_lose_11 rfl hl (by decide) rfl (fun ls hl => ?_)
  refine lv_aload_n hx hb dX2_lose_12 rfl (lv_at hl 0 rfl) ?_
  refine va_get (D := D) (ci := 0) (v := .int (nI (q.2.2.2.2.2.2.2.2))) (C := RX0) (T := TX0) (N := 10) hx hb hts hinX0 hown hK hP 2 rfl rfl 8 (by decide) (hts (.fieldLink RX2 93 "TreeGossip$Row" "size" "I") (by decide +kernel)) (fun _ h9 => h9) rfl dX2_lose_13 ?_
  refine tg_if_ne (tgt := 21) hx hb dX2_lose_16 (by decide) (by omega) (fun c16_1 => ?_) (fun c16_1 => ?_)
  · omega
  · skip
    refine lv_iconst (v := -1) hx hb dX2_lose_19 (by decide) ?_
    exact hret _ _ 20 _ _ hP hD hS (rfl) dX2_lose_20
def rmk_X2_lose : Room := { frames := 2, cells := 0, slots := 0, locals := 42 }
theorem ink_X2_lose_X0 : ∀ w ∈ wsX00, w ∈ wsX2_lose := by decide +kernel
theorem ink_X2_lose_X2 : ∀ w ∈ wsX20, w ∈ wsX2_lose := by decide +kernel
set_option maxHeartbeats 4000000 in
set_option maxRecDepth 100000 in
theorem k_X2_lose (l : Launch) (D : va_G) (ty : Nat → ClassId) (t0 : Nat) (t1 : Nat) (t2 : Nat) (c : tg_CT) (sw : Nat → Option Nat) (rw : Nat → Option Nat) (si : Nat) (f0 : Nat) (d1 : Nat) (d2 : Nat) (d3 : Nat) (d4 : Nat) (d5 : Nat) (d6 : Nat) (d7 : Nat) (d8 : Nat) (q : tg_RS) (w : Nat) (hsi : si ≤ 1) (hri : rw si = some f0) (hy : 0 < tg_rz q) (hyu : tg_rz q ≤ 100) (hw : w < 100) : tg_Mi l yX2_lose wsX2_lose rmk_X2_lose D ty [.ref t0, .int (nI (si))] [(t0, .inr (2, [.ref t1, .ref t2, .int (c.1), .int (c.2.1), .int (c.2.2)])), (t2, .inl (ty 4, 2, .inr (.inr (.inr (.inr rw))))), (f0, .inr (0, [.ref d1, .ref d2, .ref d3, .ref d4, .ref d5, .ref d6, .ref d7, .ref d8, .int (nI (q.2.2.2.2.2.2.2.2)), .int (nI (w))])), (d1, .inl (ty 0, 100, .inl q.1))] [(t0, .inr (2, [.ref t1, .ref t2, .int (c.1), .int (c.2.1), .int (c.2.2)])), (t2, .inl (ty 4, 2, .inr (.inr (.inr (.inr rw))))), (f0, .inr (0, [.ref d1, .ref d2, .ref d3, .ref d4, .ref d5, .ref d6, .ref d7, .ref d8, .int (nI (tg_rz q - 1)), .int (nI ((w + 1) % 100))])), (d1, .inl (ty 0, 100, .inl q.1))] (q.1 w) 0 0 := by
  refine tg_start_i (cc := cX2_lose) (maxL := 3) (lvs := [(0, .ref t0), (1, .int (nI (si)))]) (by decide) rfl (Nat.le_of_ble_eq_true rfl) rfl ?_
  intro pp ee ss mm args below meth cc AA ls QQ hx hb hr hts hown hlocks hml hnm hA hP hD hS hK hN hl hret
  have hinX0 := ink_X2_lose_X0
  have hinX2 := ink_X2_lose_X2
  have ez : q.2.2.2.2.2.2.2.2 = tg_rz q := rfl
  refine lv_iload_n hx hb dX2_lose_0 rfl (lv_at hl 1 rfl) ?_
  refine lv_iconst (v := nI (2)) hx hb dX2_lose_1 (by decide) ?_
  refine tg_Sv (As := [.int (nI (si)), .int (nI (2))]) (rest := []) ⟨hx, hb, hml, hown, hts⟩ (k_X2_checkIndex l D ty si 2 (by omega) (by omega)) (va_cwS 2 hts gX2_lose_X2_checkIndex rfl rfl rfl (by decide +kernel) ⟨Nat.le_of_ble_eq_true rfl, Nat.le_of_ble_eq_true rfl⟩) hK hN hP hD hS hA rfl hl.1 rfl (Nat.le_of_ble_eq_true rfl) dX2_lose_2 ⟨Nat.le_of_ble_eq_true rfl, Nat.le_of_ble_eq_true rfl⟩ (fun H locs hP hD hS => ?_)
  refine lv_aload_n hx hb dX2_lose_5 rfl (lv_at hl 0 rfl) ?_
  refine va_get (D := D) (ci := 2) (v := .ref t2) (C := RX2) (T := TX2) (N := 5) hx hb hts hinX2 hown hK hP 0 rfl rfl 1 (by decide) (hts (.fieldLink RX2 17 "TreeGossip" "rows" "[LTreeGossip$Row;") (by decide +kernel)) (fun _ h9 => h9) rfl dX2_lose_6 ?_
  refine lv_iload_n hx hb dX2_lose_9 rfl (lv_at hl 1 rfl) ?_
  refine tg_aald hx hb hK hP 1 4 (C := RX0) rfl rfl (k := si) (z := f0) (by omega) (by decide) hri dX2_lose_10 ?_
  refine lv_astore_n (lv' := [(2, .ref f0), (0, .ref t0), (1, .int (nI (si)))]) hx hb dX2_lose_11 rfl hl (by decide) rfl (fun ls hl => ?_)
  refine lv_aload_n hx hb dX2_lose_12 rfl (lv_at hl 0 rfl) ?_
  refine va_get (D := D) (ci := 0) (v := .int (nI (q.2.2.2.2.2.2.2.2))) (C := RX0) (T := TX0) (N := 10) hx hb hts hinX0 hown hK hP 2 rfl rfl 8 (by decide) (hts (.fieldLink RX2 93 "TreeGossip$Row" "size" "I") (by decide +kernel)) (fun _ h9 => h9) rfl dX2_lose_13 ?_
  refine tg_if_ne (tgt := 21) hx hb dX2_lose_16 (by decide) (by omega) (fun c16_1 => ?_) (fun c16_1 => ?_)
  · skip
    refine lv_aload_n hx hb dX2_lose_21 rfl (lv_at hl 0 rfl) ?_
    refine va_get (D := D) (ci := 0) (v := .ref d1) (C := RX0) (T := TX0) (N := 10) hx hb hts hinX0 hown hK hP 2 rfl rfl 0 (by decide) (hts (.fieldLink RX2 96 "TreeGossip$Row" "kinds" "[I") (by decide +kernel)) (fun _ h9 => h9) rfl dX2_lose_22 ?_
    refine lv_aload_n hx hb dX2_lose_25 rfl (lv_at hl 0 rfl) ?_
    refine tg_Vi (As := []) (rest := [.ref d1]) (wr := [(t0, .inr (2, [.ref t1, .ref t2, .int (c.1), .int (c.2.1), .int (c.2.2)])), (t2, .inl (ty 4, 2, .inr (.inr (.inr (.inr rw))))), (d1, .inl (ty 0, 100, .inl q.1))]) (w2 := [(t0, .inr (2, [.ref t1, .ref t2, .int (c.1), .int (c.2.1), .int (c.2.2)])), (t2, .inl (ty 4, 2, .inr (.inr (.inr (.inr rw))))), (f0, .inr (0, [.ref d1, .ref d2, .ref d3, .ref d4, .ref d5, .ref d6, .ref d7, .ref d8, .int (nI ((q.2.2.2.2.2.2.2.2) - 1)), .int (nI ((w + 1) % 100))])), (d1, .inl (ty 0, 100, .inl q.1))]) ⟨hx, hb, hml, hown, hts⟩ (k_X0_takeOldest l D ty f0 d1 d2 d3 d4 d5 d6 d7 d8 (q.2.2.2.2.2.2.2.2) w hw hy) (cwV 0 hts gX2_lose_X0_takeOldest rfl rfl rfl (by decide +kernel) ⟨Nat.le_of_ble_eq_true rfl, Nat.le_of_ble_eq_true rfl⟩) hK hN hP hD hS hA [2] [0, 1, 3] [0, 1, 3, 2] 2 0 rfl rfl rfl rfl rfl rfl rfl (by decide) rfl hl.1 rfl (Nat.le_of_ble_eq_true rfl) dX2_lose_26 rfl rfl ⟨Nat.le_of_ble_eq_true rfl, Nat.le_of_ble_eq_true rfl⟩ (fun H locs hP hD hS => ?_)
    refine tg_iald hx hb hK hP 3 rfl (f := q.1) (k := w) (by omega) (by decide) dX2_lose_29 ?_
    exact hret _ _ 30 _ _ hP hD hS (rfl) dX2_lose_30
  · omega
def rmk_X2_message_0 : Room := { frames := 1, cells := 0, slots := 0, locals := 21 }
theorem ink_X2_message_0_X0 : ∀ w ∈ wsX00, w ∈ wsX2_message := by decide +kernel
theorem ink_X2_message_0_X2 : ∀ w ∈ wsX20, w ∈ wsX2_message := by decide +kernel
set_option maxHeartbeats 4000000 in
set_option maxRecDepth 100000 in
theorem k_X2_message_0 (l : Launch) (D : va_G) (ty : Nat → ClassId) (t0 : Nat) (t1 : Nat) (t2 : Nat) (c : tg_CT) (sw : Nat → Option Nat) (rw : Nat → Option Nat) (si : Nat) (f0 : Nat) (d1 : Nat) (d2 : Nat) (d3 : Nat) (d4 : Nat) (d5 : Nat) (d6 : Nat) (d7 : Nat) (d8 : Nat) (q : tg_RS) (w : Nat) (k : Nat) (hsi : si ≤ 1) (hri : rw si = some f0) (hk : k < tg_rz q) (hyu : tg_rz q ≤ 100) (hw : w < 100) (hg : tg_okG q ((w + k) % 100)) : tg_Mi l yX2_message wsX2_message rmk_X2_message_0 D ty [.ref t0, .int (nI (si)), .int (nI (k)), .int (nI (0))] [(t0, .inr (2, [.ref t1, .ref t2, .int (c.1), .int (c.2.1), .int (c.2.2)])), (t2, .inl (ty 4, 2, .inr (.inr (.inr (.inr rw))))), (f0, .inr (0, [.ref d1, .ref d2, .ref d3, .ref d4, .ref d5, .ref d6, .ref d7, .ref d8, .int (nI (q.2.2.2.2.2.2.2.2)), .int (nI (w))])), (d1, .inl (ty 0, 100, .inl q.1)), (d2, .inl (ty 0, 100, .inl q.2.1)), (d3, .inl (ty 0, 100, .inl q.2.2.1)), (d4, .inl (ty 0, 100, .inl q.2.2.2.1))] [(t0, .inr (2, [.ref t1, .ref t2, .int (c.1), .int (c.2.1), .int (c.2.2)])), (t2, .inl (ty 4, 2, .inr (.inr (.inr (.inr rw))))), (f0, .inr (0, [.ref d1, .ref d2, .ref d3, .ref d4, .ref d5, .ref d6, .ref d7, .ref d8, .int (nI (q.2.2.2.2.2.2.2.2)), .int (nI (w))])), (d1, .inl (ty 0, 100, .inl q.1)), (d2, .inl (ty 0, 100, .inl q.2.1)), (d3, .inl (ty 0, 100, .inl q.2.2.1)), (d4, .inl (ty 0, 100, .inl q.2.2.2.1))] (q.1 ((w + k) % 100)) 0 0 := by
  refine tg_start_i (cc := cX2_message) (maxL := 6) (lvs := [(0, .ref t0), (1, .int (nI (si))), (2, .int (nI (k))), (3, .int (nI (0)))]) (by decide) rfl (Nat.le_of_ble_eq_true rfl) rfl ?_
  intro pp ee ss mm args below meth cc AA ls QQ hx hb hr hts hown hlocks hml hnm hA hP hD hS hK hN hl hret
  have hinX0 := ink_X2_message_0_X0
  have hinX2 := ink_X2_message_0_X2
  have ez : q.2.2.2.2.2.2.2.2 = tg_rz q := rfl
  refine lv_iload_n hx hb dX2_message_0 rfl (lv_at hl 1 rfl) ?_
  refine lv_iconst (v := nI (2)) hx hb dX2_message_1 (by decide) ?_
  refine tg_Sv (As := [.int (nI (si)), .int (nI (2))]) (rest := []) ⟨hx, hb, hml, hown, hts⟩ (k_X2_checkIndex l D ty si 2 (by omega) (by omega)) (va_cwS 2 hts gX2_message_X2_checkIndex rfl rfl rfl (by decide +kernel) ⟨Nat.le_of_ble_eq_true rfl, Nat.le_of_ble_eq_true rfl⟩) hK hN hP hD hS hA rfl hl.1 rfl (Nat.le_of_ble_eq_true rfl) dX2_message_2 ⟨Nat.le_of_ble_eq_true rfl, Nat.le_of_ble_eq_true rfl⟩ (fun H locs hP hD hS => ?_)
  refine lv_aload_n hx hb dX2_message_5 rfl (lv_at hl 0 rfl) ?_
  refine va_get (D := D) (ci := 2) (v := .ref t2) (C := RX2) (T := TX2) (N := 5) hx hb hts hinX2 hown hK hP 0 rfl rfl 1 (by decide) (hts (.fieldLink RX2 17 "TreeGossip" "rows" "[LTreeGossip$Row;") (by decide +kernel)) (fun _ h9 => h9) rfl dX2_message_6 ?_
  refine lv_iload_n hx hb dX2_message_9 rfl (lv_at hl 1 rfl) ?_
  refine tg_aald hx hb hK hP 1 4 (C := RX0) rfl rfl (k := si) (z := f0) (by omega) (by decide) hri dX2_message_10 ?_
  refine lv_astore (lv' := [(4, .ref f0), (0, .ref t0), (1, .int (nI (si))), (2, .int (nI (k))), (3, .int (nI (0)))]) hx hb dX2_message_11 hl (by decide) rfl (fun ls hl => ?_)
  refine lv_iload_n hx hb dX2_message_13 rfl (lv_at hl 3 rfl) ?_
  refine lv_aload hx hb dX2_message_14 (lv_at hl 0 rfl) ?_
  refine va_get (D := D) (ci := 0) (v := .int (nI (q.2.2.2.2.2.2.2.2))) (C := RX0) (T := TX0) (N := 10) hx hb hts hinX0 hown hK hP 2 rfl rfl 8 (by decide) (hts (.fieldLink RX2 93 "TreeGossip$Row" "size" "I") (by decide +kernel)) (fun _ h9 => h9) rfl dX2_message_16 ?_
  refine tg_Sv (As := [.int (nI (k)), .int (nI (q.2.2.2.2.2.2.2.2))]) (rest := []) ⟨hx, hb, hml, hown, hts⟩ (k_X2_checkIndex l D ty k (q.2.2.2.2.2.2.2.2) hk (by omega)) (va_cwS 2 hts gX2_message_X2_checkIndex rfl rfl rfl (by decide +kernel) ⟨Nat.le_of_ble_eq_true rfl, Nat.le_of_ble_eq_true rfl⟩) hK hN hP hD hS hA rfl hl.1 rfl (Nat.le_of_ble_eq_true rfl) dX2_message_19 ⟨Nat.le_of_ble_eq_true rfl, Nat.le_of_ble_eq_true rfl⟩ (fun H locs hP hD hS => ?_)
  refine lv_iload_n hx hb dX2_message_22 rfl (lv_at hl 4 rfl) ?_
  refine lv_bipush (v := nI (8)) hx hb dX2_message_23 (by decide) ?_
  refine tg_Sv (As := [.int (nI (0)), .int (nI (8))]) (rest := []) ⟨hx, hb, hml, hown, hts⟩ (k_X2_checkIndex l D ty 0 8 (by omega) (by omega)) (va_cwS 2 hts gX2_message_X2_checkIndex rfl rfl rfl (by decide +kernel) ⟨Nat.le_of_ble_eq_true rfl, Nat.le_of_ble_eq_true rfl⟩) hK hN hP hD hS hA rfl hl.1 rfl (Nat.le_of_ble_eq_true rfl) dX2_message_25 ⟨Nat.le_of_ble_eq_true rfl, Nat.le_of_ble_eq_true rfl⟩ (fun H locs hP hD hS => ?_)
  refine lv_aload hx hb dX2_message_28 (lv_at hl 0 rfl) ?_
  refine lv_iload_n hx hb dX2_message_30 rfl (lv_at hl 3 rfl) ?_
  refine tg_Vi (As := [.int (nI (k))]) (rest := []) (wr := [(t0, .inr (2, [.ref t1, .ref t2, .int (c.1), .int (c.2.1), .int (c.2.2)])), (t2, .inl (ty 4, 2, .inr (.inr (.inr (.inr rw))))), (d1, .inl (ty 0, 100, .inl q.1)), (d2, .inl (ty 0, 100, .inl q.2.1)), (d3, .inl (ty 0, 100, .inl q.2.2.1)), (d4, .inl (ty 0, 100, .inl q.2.2.2.1))]) (w2 := [(t0, .inr (2, [.ref t1, .ref t2, .int (c.1), .int (c.2.1), .int (c.2.2)])), (t2, .inl (ty 4, 2, .inr (.inr (.inr (.inr rw))))), (f0, .inr (0, [.ref d1, .ref d2, .ref d3, .ref d4, .ref d5, .ref d6, .ref d7, .ref d8, .int (nI ((q.2.2.2.2.2.2.2.2))), .int (nI (w))])), (d1, .inl (ty 0, 100, .inl q.1)), (d2, .inl (ty 0, 100, .inl q.2.1)), (d3, .inl (ty 0, 100, .inl q.2.2.1)), (d4, .inl (ty 0, 100, .inl q.2.2.2.1))]) ⟨hx, hb, hml, hown, hts⟩ (k_X0_ringPlace l D ty f0 d1 d2 d3 d4 d5 d6 d7 d8 (q.2.2.2.2.2.2.2.2) w k hw (by omega)) (cwV 1 hts gX2_message_X0_ringPlace rfl rfl rfl (by decide +kernel) ⟨Nat.le_of_ble_eq_true rfl, Nat.le_of_ble_eq_true rfl⟩) hK hN hP hD hS hA [2] [0, 1, 3, 4, 5, 6] [0, 1, 6, 2, 3, 4, 5] 2 0 rfl rfl rfl rfl rfl rfl rfl (by decide) rfl hl.1 rfl (Nat.le_of_ble_eq_true rfl) dX2_message_31 rfl rfl ⟨Nat.le_of_ble_eq_true rfl, Nat.le_of_ble_eq_true rfl⟩ (fun H locs hP hD hS => ?_)
  refine lv_istore (lv' := [(5, .int (nI ((w + k) % 100))), (4, .ref f0), (0, .ref t0), (1, .int (nI (si))), (2, .int (nI (k))), (3, .int (nI (0)))]) hx hb dX2_message_34 hl (by decide) rfl (fun ls hl => ?_)
  refine lv_iload_n hx hb dX2_message_36 rfl (lv_at hl 5 rfl) ?_
  refine lv_tableIn (off := 31) (tgt := 68) hx hb dX2_message_37 (by decide) (by decide) (by decide) (by decide) ?_
  refine lv_aload hx hb dX2_message_68 (lv_at hl 1 rfl) ?_
  refine va_get (D := D) (ci := 0) (v := .ref d1) (C := RX0) (T := TX0) (N := 10) hx hb hts hinX0 hown hK hP 2 rfl rfl 0 (by decide) (hts (.fieldLink RX2 96 "TreeGossip$Row" "kinds" "[I") (by decide +kernel)) (fun _ h9 => h9) rfl dX2_message_70 ?_
  refine lv_iload hx hb dX2_message_73 (lv_at hl 0 rfl) ?_
  refine tg_iald hx hb hK hP 3 rfl (f := q.1) (k := (w + k) % 100) (by omega) (by decide) dX2_message_75 ?_
  exact hret _ _ 76 _ _ hP hD hS (rfl) dX2_message_76
def rmk_X2_message_1 : Room := { frames := 1, cells := 0, slots := 0, locals := 21 }
theorem ink_X2_message_1_X0 : ∀ w ∈ wsX00, w ∈ wsX2_message := by decide +kernel
theorem ink_X2_message_1_X2 : ∀ w ∈ wsX20, w ∈ wsX2_message := by decide +kernel
set_option maxHeartbeats 4000000 in
set_option maxRecDepth 100000 in
theorem k_X2_message_1 (l : Launch) (D : va_G) (ty : Nat → ClassId) (t0 : Nat) (t1 : Nat) (t2 : Nat) (c : tg_CT) (sw : Nat → Option Nat) (rw : Nat → Option Nat) (si : Nat) (f0 : Nat) (d1 : Nat) (d2 : Nat) (d3 : Nat) (d4 : Nat) (d5 : Nat) (d6 : Nat) (d7 : Nat) (d8 : Nat) (q : tg_RS) (w : Nat) (k : Nat) (hsi : si ≤ 1) (hri : rw si = some f0) (hk : k < tg_rz q) (hyu : tg_rz q ≤ 100) (hw : w < 100) (hg : tg_okG q ((w + k) % 100)) : tg_Mi l yX2_message wsX2_message rmk_X2_message_1 D ty [.ref t0, .int (nI (si)), .int (nI (k)), .int (nI (1))] [(t0, .inr (2, [.ref t1, .ref t2, .int (c.1), .int (c.2.1), .int (c.2.2)])), (t2, .inl (ty 4, 2, .inr (.inr (.inr (.inr rw))))), (f0, .inr (0, [.ref d1, .ref d2, .ref d3, .ref d4, .ref d5, .ref d6, .ref d7, .ref d8, .int (nI (q.2.2.2.2.2.2.2.2)), .int (nI (w))])), (d1, .inl (ty 0, 100, .inl q.1)), (d2, .inl (ty 0, 100, .inl q.2.1)), (d3, .inl (ty 0, 100, .inl q.2.2.1)), (d4, .inl (ty 0, 100, .inl q.2.2.2.1))] [(t0, .inr (2, [.ref t1, .ref t2, .int (c.1), .int (c.2.1), .int (c.2.2)])), (t2, .inl (ty 4, 2, .inr (.inr (.inr (.inr rw))))), (f0, .inr (0, [.ref d1, .ref d2, .ref d3, .ref d4, .ref d5, .ref d6, .ref d7, .ref d8, .int (nI (q.2.2.2.2.2.2.2.2)), .int (nI (w))])), (d1, .inl (ty 0, 100, .inl q.1)), (d2, .inl (ty 0, 100, .inl q.2.1)), (d3, .inl (ty 0, 100, .inl q.2.2.1)), (d4, .inl (ty 0, 100, .inl q.2.2.2.1))] (q.2.1 ((w + k) % 100)) 0 0 := by
  refine tg_start_i (cc := cX2_message) (maxL := 6) (lvs := [(0, .ref t0), (1, .int (nI (si))), (2, .int (nI (k))), (3, .int (nI (1)))]) (by decide) rfl (Nat.le_of_ble_eq_true rfl) rfl ?_
  intro pp ee ss mm args below meth cc AA ls QQ hx hb hr hts hown hlocks hml hnm hA hP hD hS hK hN hl hret
  have hinX0 := ink_X2_message_1_X0
  have hinX2 := ink_X2_message_1_X2
  have ez : q.2.2.2.2.2.2.2.2 = tg_rz q := rfl
  refine lv_iload_n hx hb dX2_message_0 rfl (lv_at hl 1 rfl) ?_
  refine lv_iconst (v := nI (2)) hx hb dX2_message_1 (by decide) ?_
  refine tg_Sv (As := [.int (nI (si)), .int (nI (2))]) (rest := []) ⟨hx, hb, hml, hown, hts⟩ (k_X2_checkIndex l D ty si 2 (by omega) (by omega)) (va_cwS 2 hts gX2_message_X2_checkIndex rfl rfl rfl (by decide +kernel) ⟨Nat.le_of_ble_eq_true rfl, Nat.le_of_ble_eq_true rfl⟩) hK hN hP hD hS hA rfl hl.1 rfl (Nat.le_of_ble_eq_true rfl) dX2_message_2 ⟨Nat.le_of_ble_eq_true rfl, Nat.le_of_ble_eq_true rfl⟩ (fun H locs hP hD hS => ?_)
  refine lv_aload_n hx hb dX2_message_5 rfl (lv_at hl 0 rfl) ?_
  refine va_get (D := D) (ci := 2) (v := .ref t2) (C := RX2) (T := TX2) (N := 5) hx hb hts hinX2 hown hK hP 0 rfl rfl 1 (by decide) (hts (.fieldLink RX2 17 "TreeGossip" "rows" "[LTreeGossip$Row;") (by decide +kernel)) (fun _ h9 => h9) rfl dX2_message_6 ?_
  refine lv_iload_n hx hb dX2_message_9 rfl (lv_at hl 1 rfl) ?_
  refine tg_aald hx hb hK hP 1 4 (C := RX0) rfl rfl (k := si) (z := f0) (by omega) (by decide) hri dX2_message_10 ?_
  refine lv_astore (lv' := [(4, .ref f0), (0, .ref t0), (1, .int (nI (si))), (2, .int (nI (k))), (3, .int (nI (1)))]) hx hb dX2_message_11 hl (by decide) rfl (fun ls hl => ?_)
  refine lv_iload_n hx hb dX2_message_13 rfl (lv_at hl 3 rfl) ?_
  refine lv_aload hx hb dX2_message_14 (lv_at hl 0 rfl) ?_
  refine va_get (D := D) (ci := 0) (v := .int (nI (q.2.2.2.2.2.2.2.2))) (C := RX0) (T := TX0) (N := 10) hx hb hts hinX0 hown hK hP 2 rfl rfl 8 (by decide) (hts (.fieldLink RX2 93 "TreeGossip$Row" "size" "I") (by decide +kernel)) (fun _ h9 => h9) rfl dX2_message_16 ?_
  refine tg_Sv (As := [.int (nI (k)), .int (nI (q.2.2.2.2.2.2.2.2))]) (rest := []) ⟨hx, hb, hml, hown, hts⟩ (k_X2_checkIndex l D ty k (q.2.2.2.2.2.2.2.2) hk (by omega)) (va_cwS 2 hts gX2_message_X2_checkIndex rfl rfl rfl (by decide +kernel) ⟨Nat.le_of_ble_eq_true rfl, Nat.le_of_ble_eq_true rfl⟩) hK hN hP hD hS hA rfl hl.1 rfl (Nat.le_of_ble_eq_true rfl) dX2_message_19 ⟨Nat.le_of_ble_eq_true rfl, Nat.le_of_ble_eq_true rfl⟩ (fun H locs hP hD hS => ?_)
  refine lv_iload_n hx hb dX2_message_22 rfl (lv_at hl 4 rfl) ?_
  refine lv_bipush (v := nI (8)) hx hb dX2_message_23 (by decide) ?_
  refine tg_Sv (As := [.int (nI (1)), .int (nI (8))]) (rest := []) ⟨hx, hb, hml, hown, hts⟩ (k_X2_checkIndex l D ty 1 8 (by omega) (by omega)) (va_cwS 2 hts gX2_message_X2_checkIndex rfl rfl rfl (by decide +kernel) ⟨Nat.le_of_ble_eq_true rfl, Nat.le_of_ble_eq_true rfl⟩) hK hN hP hD hS hA rfl hl.1 rfl (Nat.le_of_ble_eq_true rfl) dX2_message_25 ⟨Nat.le_of_ble_eq_true rfl, Nat.le_of_ble_eq_true rfl⟩ (fun H locs hP hD hS => ?_)
  refine lv_aload hx hb dX2_message_28 (lv_at hl 0 rfl) ?_
  refine lv_iload_n hx hb dX2_message_30 rfl (lv_at hl 3 rfl) ?_
  refine tg_Vi (As := [.int (nI (k))]) (rest := []) (wr := [(t0, .inr (2, [.ref t1, .ref t2, .int (c.1), .int (c.2.1), .int (c.2.2)])), (t2, .inl (ty 4, 2, .inr (.inr (.inr (.inr rw))))), (d1, .inl (ty 0, 100, .inl q.1)), (d2, .inl (ty 0, 100, .inl q.2.1)), (d3, .inl (ty 0, 100, .inl q.2.2.1)), (d4, .inl (ty 0, 100, .inl q.2.2.2.1))]) (w2 := [(t0, .inr (2, [.ref t1, .ref t2, .int (c.1), .int (c.2.1), .int (c.2.2)])), (t2, .inl (ty 4, 2, .inr (.inr (.inr (.inr rw))))), (f0, .inr (0, [.ref d1, .ref d2, .ref d3, .ref d4, .ref d5, .ref d6, .ref d7, .ref d8, .int (nI ((q.2.2.2.2.2.2.2.2))), .int (nI (w))])), (d1, .inl (ty 0, 100, .inl q.1)), (d2, .inl (ty 0, 100, .inl q.2.1)), (d3, .inl (ty 0, 100, .inl q.2.2.1)), (d4, .inl (ty 0, 100, .inl q.2.2.2.1))]) ⟨hx, hb, hml, hown, hts⟩ (k_X0_ringPlace l D ty f0 d1 d2 d3 d4 d5 d6 d7 d8 (q.2.2.2.2.2.2.2.2) w k hw (by omega)) (cwV 1 hts gX2_message_X0_ringPlace rfl rfl rfl (by decide +kernel) ⟨Nat.le_of_ble_eq_true rfl, Nat.le_of_ble_eq_true rfl⟩) hK hN hP hD hS hA [2] [0, 1, 3, 4, 5, 6] [0, 1, 6, 2, 3, 4, 5] 2 0 rfl rfl rfl rfl rfl rfl rfl (by decide) rfl hl.1 rfl (Nat.le_of_ble_eq_true rfl) dX2_message_31 rfl rfl ⟨Nat.le_of_ble_eq_true rfl, Nat.le_of_ble_eq_true rfl⟩ (fun H locs hP hD hS => ?_)
  refine lv_istore (lv' := [(5, .int (nI ((w + k) % 100))), (4, .ref f0), (0, .ref t0), (1, .int (nI (si))), (2, .int (nI (k))), (3, .int (nI (1)))]) hx hb dX2_message_34 hl (by decide) rfl (fun ls hl => ?_)
  refine lv_iload_n hx hb dX2_message_36 rfl (lv_at hl 5 rfl) ?_
  refine lv_tableIn (off := 40) (tgt := 77) hx hb dX2_message_37 (by decide) (by decide) (by decide) (by decide) ?_
  refine lv_aload hx hb dX2_message_77 (lv_at hl 1 rfl) ?_
  refine va_get (D := D) (ci := 0) (v := .ref d2) (C := RX0) (T := TX0) (N := 10) hx hb hts hinX0 hown hK hP 2 rfl rfl 1 (by decide) (hts (.fieldLink RX2 112 "TreeGossip$Row" "levels" "[I") (by decide +kernel)) (fun _ h9 => h9) rfl dX2_message_79 ?_
  refine lv_iload hx hb dX2_message_82 (lv_at hl 0 rfl) ?_
  refine tg_iald hx hb hK hP 4 rfl (f := q.2.1) (k := (w + k) % 100) (by omega) (by decide) dX2_message_84 ?_
  exact hret _ _ 85 _ _ hP hD hS (rfl) dX2_message_85
def rmk_X2_message_2 : Room := { frames := 1, cells := 0, slots := 0, locals := 21 }
theorem ink_X2_message_2_X0 : ∀ w ∈ wsX00, w ∈ wsX2_message := by decide +kernel
theorem ink_X2_message_2_X2 : ∀ w ∈ wsX20, w ∈ wsX2_message := by decide +kernel
set_option maxHeartbeats 4000000 in
set_option maxRecDepth 100000 in
theorem k_X2_message_2 (l : Launch) (D : va_G) (ty : Nat → ClassId) (t0 : Nat) (t1 : Nat) (t2 : Nat) (c : tg_CT) (sw : Nat → Option Nat) (rw : Nat → Option Nat) (si : Nat) (f0 : Nat) (d1 : Nat) (d2 : Nat) (d3 : Nat) (d4 : Nat) (d5 : Nat) (d6 : Nat) (d7 : Nat) (d8 : Nat) (q : tg_RS) (w : Nat) (k : Nat) (hsi : si ≤ 1) (hri : rw si = some f0) (hk : k < tg_rz q) (hyu : tg_rz q ≤ 100) (hw : w < 100) (hg : tg_okG q ((w + k) % 100)) : tg_Mi l yX2_message wsX2_message rmk_X2_message_2 D ty [.ref t0, .int (nI (si)), .int (nI (k)), .int (nI (2))] [(t0, .inr (2, [.ref t1, .ref t2, .int (c.1), .int (c.2.1), .int (c.2.2)])), (t2, .inl (ty 4, 2, .inr (.inr (.inr (.inr rw))))), (f0, .inr (0, [.ref d1, .ref d2, .ref d3, .ref d4, .ref d5, .ref d6, .ref d7, .ref d8, .int (nI (q.2.2.2.2.2.2.2.2)), .int (nI (w))])), (d1, .inl (ty 0, 100, .inl q.1)), (d2, .inl (ty 0, 100, .inl q.2.1)), (d3, .inl (ty 0, 100, .inl q.2.2.1)), (d4, .inl (ty 0, 100, .inl q.2.2.2.1))] [(t0, .inr (2, [.ref t1, .ref t2, .int (c.1), .int (c.2.1), .int (c.2.2)])), (t2, .inl (ty 4, 2, .inr (.inr (.inr (.inr rw))))), (f0, .inr (0, [.ref d1, .ref d2, .ref d3, .ref d4, .ref d5, .ref d6, .ref d7, .ref d8, .int (nI (q.2.2.2.2.2.2.2.2)), .int (nI (w))])), (d1, .inl (ty 0, 100, .inl q.1)), (d2, .inl (ty 0, 100, .inl q.2.1)), (d3, .inl (ty 0, 100, .inl q.2.2.1)), (d4, .inl (ty 0, 100, .inl q.2.2.2.1))] (q.2.2.1 ((w + k) % 100)) 0 0 := by
  refine tg_start_i (cc := cX2_message) (maxL := 6) (lvs := [(0, .ref t0), (1, .int (nI (si))), (2, .int (nI (k))), (3, .int (nI (2)))]) (by decide) rfl (Nat.le_of_ble_eq_true rfl) rfl ?_
  intro pp ee ss mm args below meth cc AA ls QQ hx hb hr hts hown hlocks hml hnm hA hP hD hS hK hN hl hret
  have hinX0 := ink_X2_message_2_X0
  have hinX2 := ink_X2_message_2_X2
  have ez : q.2.2.2.2.2.2.2.2 = tg_rz q := rfl
  refine lv_iload_n hx hb dX2_message_0 rfl (lv_at hl 1 rfl) ?_
  refine lv_iconst (v := nI (2)) hx hb dX2_message_1 (by decide) ?_
  refine tg_Sv (As := [.int (nI (si)), .int (nI (2))]) (rest := []) ⟨hx, hb, hml, hown, hts⟩ (k_X2_checkIndex l D ty si 2 (by omega) (by omega)) (va_cwS 2 hts gX2_message_X2_checkIndex rfl rfl rfl (by decide +kernel) ⟨Nat.le_of_ble_eq_true rfl, Nat.le_of_ble_eq_true rfl⟩) hK hN hP hD hS hA rfl hl.1 rfl (Nat.le_of_ble_eq_true rfl) dX2_message_2 ⟨Nat.le_of_ble_eq_true rfl, Nat.le_of_ble_eq_true rfl⟩ (fun H locs hP hD hS => ?_)
  refine lv_aload_n hx hb dX2_message_5 rfl (lv_at hl 0 rfl) ?_
  refine va_get (D := D) (ci := 2) (v := .ref t2) (C := RX2) (T := TX2) (N := 5) hx hb hts hinX2 hown hK hP 0 rfl rfl 1 (by decide) (hts (.fieldLink RX2 17 "TreeGossip" "rows" "[LTreeGossip$Row;") (by decide +kernel)) (fun _ h9 => h9) rfl dX2_message_6 ?_
  refine lv_iload_n hx hb dX2_message_9 rfl (lv_at hl 1 rfl) ?_
  refine tg_aald hx hb hK hP 1 4 (C := RX0) rfl rfl (k := si) (z := f0) (by omega) (by decide) hri dX2_message_10 ?_
  refine lv_astore (lv' := [(4, .ref f0), (0, .ref t0), (1, .int (nI (si))), (2, .int (nI (k))), (3, .int (nI (2)))]) hx hb dX2_message_11 hl (by decide) rfl (fun ls hl => ?_)
  refine lv_iload_n hx hb dX2_message_13 rfl (lv_at hl 3 rfl) ?_
  refine lv_aload hx hb dX2_message_14 (lv_at hl 0 rfl) ?_
  refine va_get (D := D) (ci := 0) (v := .int (nI (q.2.2.2.2.2.2.2.2))) (C := RX0) (T := TX0) (N := 10) hx hb hts hinX0 hown hK hP 2 rfl rfl 8 (by decide) (hts (.fieldLink RX2 93 "TreeGossip$Row" "size" "I") (by decide +kernel)) (fun _ h9 => h9) rfl dX2_message_16 ?_
  refine tg_Sv (As := [.int (nI (k)), .int (nI (q.2.2.2.2.2.2.2.2))]) (rest := []) ⟨hx, hb, hml, hown, hts⟩ (k_X2_checkIndex l D ty k (q.2.2.2.2.2.2.2.2) hk (by omega)) (va_cwS 2 hts gX2_message_X2_checkIndex rfl rfl rfl (by decide +kernel) ⟨Nat.le_of_ble_eq_true rfl, Nat.le_of_ble_eq_true rfl⟩) hK hN hP hD hS hA rfl hl.1 rfl (Nat.le_of_ble_eq_true rfl) dX2_message_19 ⟨Nat.le_of_ble_eq_true rfl, Nat.le_of_ble_eq_true rfl⟩ (fun H locs hP hD hS => ?_)
  refine lv_iload_n hx hb dX2_message_22 rfl (lv_at hl 4 rfl) ?_
  refine lv_bipush (v := nI (8)) hx hb dX2_message_23 (by decide) ?_
  refine tg_Sv (As := [.int (nI (2)), .int (nI (8))]) (rest := []) ⟨hx, hb, hml, hown, hts⟩ (k_X2_checkIndex l D ty 2 8 (by omega) (by omega)) (va_cwS 2 hts gX2_message_X2_checkIndex rfl rfl rfl (by decide +kernel) ⟨Nat.le_of_ble_eq_true rfl, Nat.le_of_ble_eq_true rfl⟩) hK hN hP hD hS hA rfl hl.1 rfl (Nat.le_of_ble_eq_true rfl) dX2_message_25 ⟨Nat.le_of_ble_eq_true rfl, Nat.le_of_ble_eq_true rfl⟩ (fun H locs hP hD hS => ?_)
  refine lv_aload hx hb dX2_message_28 (lv_at hl 0 rfl) ?_
  refine lv_iload_n hx hb dX2_message_30 rfl (lv_at hl 3 rfl) ?_
  refine tg_Vi (As := [.int (nI (k))]) (rest := []) (wr := [(t0, .inr (2, [.ref t1, .ref t2, .int (c.1), .int (c.2.1), .int (c.2.2)])), (t2, .inl (ty 4, 2, .inr (.inr (.inr (.inr rw))))), (d1, .inl (ty 0, 100, .inl q.1)), (d2, .inl (ty 0, 100, .inl q.2.1)), (d3, .inl (ty 0, 100, .inl q.2.2.1)), (d4, .inl (ty 0, 100, .inl q.2.2.2.1))]) (w2 := [(t0, .inr (2, [.ref t1, .ref t2, .int (c.1), .int (c.2.1), .int (c.2.2)])), (t2, .inl (ty 4, 2, .inr (.inr (.inr (.inr rw))))), (f0, .inr (0, [.ref d1, .ref d2, .ref d3, .ref d4, .ref d5, .ref d6, .ref d7, .ref d8, .int (nI ((q.2.2.2.2.2.2.2.2))), .int (nI (w))])), (d1, .inl (ty 0, 100, .inl q.1)), (d2, .inl (ty 0, 100, .inl q.2.1)), (d3, .inl (ty 0, 100, .inl q.2.2.1)), (d4, .inl (ty 0, 100, .inl q.2.2.2.1))]) ⟨hx, hb, hml, hown, hts⟩ (k_X0_ringPlace l D ty f0 d1 d2 d3 d4 d5 d6 d7 d8 (q.2.2.2.2.2.2.2.2) w k hw (by omega)) (cwV 1 hts gX2_message_X0_ringPlace rfl rfl rfl (by decide +kernel) ⟨Nat.le_of_ble_eq_true rfl, Nat.le_of_ble_eq_true rfl⟩) hK hN hP hD hS hA [2] [0, 1, 3, 4, 5, 6] [0, 1, 6, 2, 3, 4, 5] 2 0 rfl rfl rfl rfl rfl rfl rfl (by decide) rfl hl.1 rfl (Nat.le_of_ble_eq_true rfl) dX2_message_31 rfl rfl ⟨Nat.le_of_ble_eq_true rfl, Nat.le_of_ble_eq_true rfl⟩ (fun H locs hP hD hS => ?_)
  refine lv_istore (lv' := [(5, .int (nI ((w + k) % 100))), (4, .ref f0), (0, .ref t0), (1, .int (nI (si))), (2, .int (nI (k))), (3, .int (nI (2)))]) hx hb dX2_message_34 hl (by decide) rfl (fun ls hl => ?_)
  refine lv_iload_n hx hb dX2_message_36 rfl (lv_at hl 5 rfl) ?_
  refine lv_tableIn (off := 49) (tgt := 86) hx hb dX2_message_37 (by decide) (by decide) (by decide) (by decide) ?_
  refine lv_aload hx hb dX2_message_86 (lv_at hl 1 rfl) ?_
  refine va_get (D := D) (ci := 0) (v := .ref d3) (C := RX0) (T := TX0) (N := 10) hx hb hts hinX0 hown hK hP 2 rfl rfl 2 (by decide) (hts (.fieldLink RX2 115 "TreeGossip$Row" "nodes" "[I") (by decide +kernel)) (fun _ h9 => h9) rfl dX2_message_88 ?_
  refine lv_iload hx hb dX2_message_91 (lv_at hl 0 rfl) ?_
  refine tg_iald hx hb hK hP 5 rfl (f := q.2.2.1) (k := (w + k) % 100) (by omega) (by decide) dX2_message_93 ?_
  exact hret _ _ 94 _ _ hP hD hS (rfl) dX2_message_94
def rmk_X2_message_3 : Room := { frames := 1, cells := 0, slots := 0, locals := 21 }
theorem ink_X2_message_3_X0 : ∀ w ∈ wsX00, w ∈ wsX2_message := by decide +kernel
theorem ink_X2_message_3_X2 : ∀ w ∈ wsX20, w ∈ wsX2_message := by decide +kernel
set_option maxHeartbeats 4000000 in
set_option maxRecDepth 100000 in
theorem k_X2_message_3 (l : Launch) (D : va_G) (ty : Nat → ClassId) (t0 : Nat) (t1 : Nat) (t2 : Nat) (c : tg_CT) (sw : Nat → Option Nat) (rw : Nat → Option Nat) (si : Nat) (f0 : Nat) (d1 : Nat) (d2 : Nat) (d3 : Nat) (d4 : Nat) (d5 : Nat) (d6 : Nat) (d7 : Nat) (d8 : Nat) (q : tg_RS) (w : Nat) (k : Nat) (hsi : si ≤ 1) (hri : rw si = some f0) (hk : k < tg_rz q) (hyu : tg_rz q ≤ 100) (hw : w < 100) (hg : tg_okG q ((w + k) % 100)) : tg_Mi l yX2_message wsX2_message rmk_X2_message_3 D ty [.ref t0, .int (nI (si)), .int (nI (k)), .int (nI (3))] [(t0, .inr (2, [.ref t1, .ref t2, .int (c.1), .int (c.2.1), .int (c.2.2)])), (t2, .inl (ty 4, 2, .inr (.inr (.inr (.inr rw))))), (f0, .inr (0, [.ref d1, .ref d2, .ref d3, .ref d4, .ref d5, .ref d6, .ref d7, .ref d8, .int (nI (q.2.2.2.2.2.2.2.2)), .int (nI (w))])), (d1, .inl (ty 0, 100, .inl q.1)), (d2, .inl (ty 0, 100, .inl q.2.1)), (d3, .inl (ty 0, 100, .inl q.2.2.1)), (d4, .inl (ty 0, 100, .inl q.2.2.2.1))] [(t0, .inr (2, [.ref t1, .ref t2, .int (c.1), .int (c.2.1), .int (c.2.2)])), (t2, .inl (ty 4, 2, .inr (.inr (.inr (.inr rw))))), (f0, .inr (0, [.ref d1, .ref d2, .ref d3, .ref d4, .ref d5, .ref d6, .ref d7, .ref d8, .int (nI (q.2.2.2.2.2.2.2.2)), .int (nI (w))])), (d1, .inl (ty 0, 100, .inl q.1)), (d2, .inl (ty 0, 100, .inl q.2.1)), (d3, .inl (ty 0, 100, .inl q.2.2.1)), (d4, .inl (ty 0, 100, .inl q.2.2.2.1))] (nI (tg_pc (tg_qm q ((w + k) % 100)))) 0 0 := by
  refine tg_start_i (cc := cX2_message) (maxL := 6) (lvs := [(0, .ref t0), (1, .int (nI (si))), (2, .int (nI (k))), (3, .int (nI (3)))]) (by decide) rfl (Nat.le_of_ble_eq_true rfl) rfl ?_
  intro pp ee ss mm args below meth cc AA ls QQ hx hb hr hts hown hlocks hml hnm hA hP hD hS hK hN hl hret
  have hinX0 := ink_X2_message_3_X0
  have hinX2 := ink_X2_message_3_X2
  have ez : q.2.2.2.2.2.2.2.2 = tg_rz q := rfl
  refine lv_iload_n hx hb dX2_message_0 rfl (lv_at hl 1 rfl) ?_
  refine lv_iconst (v := nI (2)) hx hb dX2_message_1 (by decide) ?_
  refine tg_Sv (As := [.int (nI (si)), .int (nI (2))]) (rest := []) ⟨hx, hb, hml, hown, hts⟩ (k_X2_checkIndex l D ty si 2 (by omega) (by omega)) (va_cwS 2 hts gX2_message_X2_checkIndex rfl rfl rfl (by decide +kernel) ⟨Nat.le_of_ble_eq_true rfl, Nat.le_of_ble_eq_true rfl⟩) hK hN hP hD hS hA rfl hl.1 rfl (Nat.le_of_ble_eq_true rfl) dX2_message_2 ⟨Nat.le_of_ble_eq_true rfl, Nat.le_of_ble_eq_true rfl⟩ (fun H locs hP hD hS => ?_)
  refine lv_aload_n hx hb dX2_message_5 rfl (lv_at hl 0 rfl) ?_
  refine va_get (D := D) (ci := 2) (v := .ref t2) (C := RX2) (T := TX2) (N := 5) hx hb hts hinX2 hown hK hP 0 rfl rfl 1 (by decide) (hts (.fieldLink RX2 17 "TreeGossip" "rows" "[LTreeGossip$Row;") (by decide +kernel)) (fun _ h9 => h9) rfl dX2_message_6 ?_
  refine lv_iload_n hx hb dX2_message_9 rfl (lv_at hl 1 rfl) ?_
  refine tg_aald hx hb hK hP 1 4 (C := RX0) rfl rfl (k := si) (z := f0) (by omega) (by decide) hri dX2_message_10 ?_
  refine lv_astore (lv' := [(4, .ref f0), (0, .ref t0), (1, .int (nI (si))), (2, .int (nI (k))), (3, .int (nI (3)))]) hx hb dX2_message_11 hl (by decide) rfl (fun ls hl => ?_)
  refine lv_iload_n hx hb dX2_message_13 rfl (lv_at hl 3 rfl) ?_
  refine lv_aload hx hb dX2_message_14 (lv_at hl 0 rfl) ?_
  refine va_get (D := D) (ci := 0) (v := .int (nI (q.2.2.2.2.2.2.2.2))) (C := RX0) (T := TX0) (N := 10) hx hb hts hinX0 hown hK hP 2 rfl rfl 8 (by decide) (hts (.fieldLink RX2 93 "TreeGossip$Row" "size" "I") (by decide +kernel)) (fun _ h9 => h9) rfl dX2_message_16 ?_
  refine tg_Sv (As := [.int (nI (k)), .int (nI (q.2.2.2.2.2.2.2.2))]) (rest := []) ⟨hx, hb, hml, hown, hts⟩ (k_X2_checkIndex l D ty k (q.2.2.2.2.2.2.2.2) hk (by omega)) (va_cwS 2 hts gX2_message_X2_checkIndex rfl rfl rfl (by decide +kernel) ⟨Nat.le_of_ble_eq_true rfl, Nat.le_of_ble_eq_true rfl⟩) hK hN hP hD hS hA rfl hl.1 rfl (Nat.le_of_ble_eq_true rfl) dX2_message_19 ⟨Nat.le_of_ble_eq_true rfl, Nat.le_of_ble_eq_true rfl⟩ (fun H locs hP hD hS => ?_)
  refine lv_iload_n hx hb dX2_message_22 rfl (lv_at hl 4 rfl) ?_
  refine lv_bipush (v := nI (8)) hx hb dX2_message_23 (by decide) ?_
  refine tg_Sv (As := [.int (nI (3)), .int (nI (8))]) (rest := []) ⟨hx, hb, hml, hown, hts⟩ (k_X2_checkIndex l D ty 3 8 (by omega) (by omega)) (va_cwS 2 hts gX2_message_X2_checkIndex rfl rfl rfl (by decide +kernel) ⟨Nat.le_of_ble_eq_true rfl, Nat.le_of_ble_eq_true rfl⟩) hK hN hP hD hS hA rfl hl.1 rfl (Nat.le_of_ble_eq_true rfl) dX2_message_25 ⟨Nat.le_of_ble_eq_true rfl, Nat.le_of_ble_eq_true rfl⟩ (fun H locs hP hD hS => ?_)
  refine lv_aload hx hb dX2_message_28 (lv_at hl 0 rfl) ?_
  refine lv_iload_n hx hb dX2_message_30 rfl (lv_at hl 3 rfl) ?_
  refine tg_Vi (As := [.int (nI (k))]) (rest := []) (wr := [(t0, .inr (2, [.ref t1, .ref t2, .int (c.1), .int (c.2.1), .int (c.2.2)])), (t2, .inl (ty 4, 2, .inr (.inr (.inr (.inr rw))))), (d1, .inl (ty 0, 100, .inl q.1)), (d2, .inl (ty 0, 100, .inl q.2.1)), (d3, .inl (ty 0, 100, .inl q.2.2.1)), (d4, .inl (ty 0, 100, .inl q.2.2.2.1))]) (w2 := [(t0, .inr (2, [.ref t1, .ref t2, .int (c.1), .int (c.2.1), .int (c.2.2)])), (t2, .inl (ty 4, 2, .inr (.inr (.inr (.inr rw))))), (f0, .inr (0, [.ref d1, .ref d2, .ref d3, .ref d4, .ref d5, .ref d6, .ref d7, .ref d8, .int (nI ((q.2.2.2.2.2.2.2.2))), .int (nI (w))])), (d1, .inl (ty 0, 100, .inl q.1)), (d2, .inl (ty 0, 100, .inl q.2.1)), (d3, .inl (ty 0, 100, .inl q.2.2.1)), (d4, .inl (ty 0, 100, .inl q.2.2.2.1))]) ⟨hx, hb, hml, hown, hts⟩ (k_X0_ringPlace l D ty f0 d1 d2 d3 d4 d5 d6 d7 d8 (q.2.2.2.2.2.2.2.2) w k hw (by omega)) (cwV 1 hts gX2_message_X0_ringPlace rfl rfl rfl (by decide +kernel) ⟨Nat.le_of_ble_eq_true rfl, Nat.le_of_ble_eq_true rfl⟩) hK hN hP hD hS hA [2] [0, 1, 3, 4, 5, 6] [0, 1, 6, 2, 3, 4, 5] 2 0 rfl rfl rfl rfl rfl rfl rfl (by decide) rfl hl.1 rfl (Nat.le_of_ble_eq_true rfl) dX2_message_31 rfl rfl ⟨Nat.le_of_ble_eq_true rfl, Nat.le_of_ble_eq_true rfl⟩ (fun H locs hP hD hS => ?_)
  refine lv_istore (lv' := [(5, .int (nI ((w + k) % 100))), (4, .ref f0), (0, .ref t0), (1, .int (nI (si))), (2, .int (nI (k))), (3, .int (nI (3)))]) hx hb dX2_message_34 hl (by decide) rfl (fun ls hl => ?_)
  refine lv_iload_n hx hb dX2_message_36 rfl (lv_at hl 5 rfl) ?_
  refine lv_tableIn (off := 58) (tgt := 95) hx hb dX2_message_37 (by decide) (by decide) (by decide) (by decide) ?_
  refine lv_aload hx hb dX2_message_95 (lv_at hl 1 rfl) ?_
  refine va_get (D := D) (ci := 0) (v := .ref d4) (C := RX0) (T := TX0) (N := 10) hx hb hts hinX0 hown hK hP 2 rfl rfl 3 (by decide) (hts (.fieldLink RX2 118 "TreeGossip$Row" "masks" "[I") (by decide +kernel)) (fun _ h9 => h9) rfl dX2_message_97 ?_
  refine lv_iload hx hb dX2_message_100 (lv_at hl 0 rfl) ?_
  refine tg_iald hx hb hK hP 6 rfl (f := q.2.2.2.1) (k := (w + k) % 100) (by omega) (by decide) dX2_message_102 ?_
  refine tg_vi (hg.1) ?_
  refine tg_Si (As := [.int (nI (tg_qm q ((w + k) % 100)))]) (rest := []) ⟨hx, hb, hml, hown, hts⟩ (k_J6_bitCount_0f7a4 l D ty (tg_qm q ((w + k) % 100)) hg.2.1) (va_cwS 1 hts gX2_message_J6_bitCount_0f7a4 rfl rfl rfl (by decide +kernel) ⟨Nat.le_of_ble_eq_true rfl, Nat.le_of_ble_eq_true rfl⟩) hK hN hP hD hS hA rfl hl.1 rfl (Nat.le_of_ble_eq_true rfl) dX2_message_103 ⟨Nat.le_of_ble_eq_true rfl, Nat.le_of_ble_eq_true rfl⟩ (fun H locs hP hD hS => ?_)
  exact hret _ _ 106 _ _ hP hD hS (rfl) dX2_message_106
def rmk_X2_message_4 : Room := { frames := 2, cells := 0, slots := 0, locals := 46 }
theorem ink_X2_message_4_X0 : ∀ w ∈ wsX00, w ∈ wsX2_message := by decide +kernel
theorem ink_X2_message_4_X2 : ∀ w ∈ wsX20, w ∈ wsX2_message := by decide +kernel
set_option maxHeartbeats 4000000 in
set_option maxRecDepth 100000 in
theorem k_X2_message_4 (l : Launch) (D : va_G) (ty : Nat → ClassId) (t0 : Nat) (t1 : Nat) (t2 : Nat) (c : tg_CT) (sw : Nat → Option Nat) (rw : Nat → Option Nat) (si : Nat) (f0 : Nat) (d1 : Nat) (d2 : Nat) (d3 : Nat) (d4 : Nat) (d5 : Nat) (d6 : Nat) (d7 : Nat) (d8 : Nat) (q : tg_RS) (w : Nat) (k : Nat) (hsi : si ≤ 1) (hri : rw si = some f0) (hk : k < tg_rz q) (hyu : tg_rz q ≤ 100) (hw : w < 100) (hg : tg_okG q ((w + k) % 100)) : tg_Mi l yX2_message wsX2_message rmk_X2_message_4 D ty [.ref t0, .int (nI (si)), .int (nI (k)), .int (nI (4))] [(t0, .inr (2, [.ref t1, .ref t2, .int (c.1), .int (c.2.1), .int (c.2.2)])), (t2, .inl (ty 4, 2, .inr (.inr (.inr (.inr rw))))), (f0, .inr (0, [.ref d1, .ref d2, .ref d3, .ref d4, .ref d5, .ref d6, .ref d7, .ref d8, .int (nI (q.2.2.2.2.2.2.2.2)), .int (nI (w))])), (d1, .inl (ty 0, 100, .inl q.1)), (d2, .inl (ty 0, 100, .inl q.2.1)), (d3, .inl (ty 0, 100, .inl q.2.2.1)), (d4, .inl (ty 0, 100, .inl q.2.2.2.1))] [(t0, .inr (2, [.ref t1, .ref t2, .int (c.1), .int (c.2.1), .int (c.2.2)])), (t2, .inl (ty 4, 2, .inr (.inr (.inr (.inr rw))))), (f0, .inr (0, [.ref d1, .ref d2, .ref d3, .ref d4, .ref d5, .ref d6, .ref d7, .ref d8, .int (nI (q.2.2.2.2.2.2.2.2)), .int (nI (w))])), (d1, .inl (ty 0, 100, .inl q.1)), (d2, .inl (ty 0, 100, .inl q.2.1)), (d3, .inl (ty 0, 100, .inl q.2.2.1)), (d4, .inl (ty 0, 100, .inl q.2.2.2.1))] (tg_kf (tg_qm q ((w + k) % 100)) (tg_qn q ((w + k) % 100)) 0 4 0) 0 0 := by
  refine tg_start_i (cc := cX2_message) (maxL := 6) (lvs := [(0, .ref t0), (1, .int (nI (si))), (2, .int (nI (k))), (3, .int (nI (4)))]) (by decide) rfl (Nat.le_of_ble_eq_true rfl) rfl ?_
  intro pp ee ss mm args below meth cc AA ls QQ hx hb hr hts hown hlocks hml hnm hA hP hD hS hK hN hl hret
  have hinX0 := ink_X2_message_4_X0
  have hinX2 := ink_X2_message_4_X2
  have ez : q.2.2.2.2.2.2.2.2 = tg_rz q := rfl
  refine lv_iload_n hx hb dX2_message_0 rfl (lv_at hl 1 rfl) ?_
  refine lv_iconst (v := nI (2)) hx hb dX2_message_1 (by decide) ?_
  refine tg_Sv (As := [.int (nI (si)), .int (nI (2))]) (rest := []) ⟨hx, hb, hml, hown, hts⟩ (k_X2_checkIndex l D ty si 2 (by omega) (by omega)) (va_cwS 2 hts gX2_message_X2_checkIndex rfl rfl rfl (by decide +kernel) ⟨Nat.le_of_ble_eq_true rfl, Nat.le_of_ble_eq_true rfl⟩) hK hN hP hD hS hA rfl hl.1 rfl (Nat.le_of_ble_eq_true rfl) dX2_message_2 ⟨Nat.le_of_ble_eq_true rfl, Nat.le_of_ble_eq_true rfl⟩ (fun H locs hP hD hS => ?_)
  refine lv_aload_n hx hb dX2_message_5 rfl (lv_at hl 0 rfl) ?_
  refine va_get (D := D) (ci := 2) (v := .ref t2) (C := RX2) (T := TX2) (N := 5) hx hb hts hinX2 hown hK hP 0 rfl rfl 1 (by decide) (hts (.fieldLink RX2 17 "TreeGossip" "rows" "[LTreeGossip$Row;") (by decide +kernel)) (fun _ h9 => h9) rfl dX2_message_6 ?_
  refine lv_iload_n hx hb dX2_message_9 rfl (lv_at hl 1 rfl) ?_
  refine tg_aald hx hb hK hP 1 4 (C := RX0) rfl rfl (k := si) (z := f0) (by omega) (by decide) hri dX2_message_10 ?_
  refine lv_astore (lv' := [(4, .ref f0), (0, .ref t0), (1, .int (nI (si))), (2, .int (nI (k))), (3, .int (nI (4)))]) hx hb dX2_message_11 hl (by decide) rfl (fun ls hl => ?_)
  refine lv_iload_n hx hb dX2_message_13 rfl (lv_at hl 3 rfl) ?_
  refine lv_aload hx hb dX2_message_14 (lv_at hl 0 rfl) ?_
  refine va_get (D := D) (ci := 0) (v := .int (nI (q.2.2.2.2.2.2.2.2))) (C := RX0) (T := TX0) (N := 10) hx hb hts hinX0 hown hK hP 2 rfl rfl 8 (by decide) (hts (.fieldLink RX2 93 "TreeGossip$Row" "size" "I") (by decide +kernel)) (fun _ h9 => h9) rfl dX2_message_16 ?_
  refine tg_Sv (As := [.int (nI (k)), .int (nI (q.2.2.2.2.2.2.2.2))]) (rest := []) ⟨hx, hb, hml, hown, hts⟩ (k_X2_checkIndex l D ty k (q.2.2.2.2.2.2.2.2) hk (by omega)) (va_cwS 2 hts gX2_message_X2_checkIndex rfl rfl rfl (by decide +kernel) ⟨Nat.le_of_ble_eq_true rfl, Nat.le_of_ble_eq_true rfl⟩) hK hN hP hD hS hA rfl hl.1 rfl (Nat.le_of_ble_eq_true rfl) dX2_message_19 ⟨Nat.le_of_ble_eq_true rfl, Nat.le_of_ble_eq_true rfl⟩ (fun H locs hP hD hS => ?_)
  refine lv_iload_n hx hb dX2_message_22 rfl (lv_at hl 4 rfl) ?_
  refine lv_bipush (v := nI (8)) hx hb dX2_message_23 (by decide) ?_
  refine tg_Sv (As := [.int (nI (4)), .int (nI (8))]) (rest := []) ⟨hx, hb, hml, hown, hts⟩ (k_X2_checkIndex l D ty 4 8 (by omega) (by omega)) (va_cwS 2 hts gX2_message_X2_checkIndex rfl rfl rfl (by decide +kernel) ⟨Nat.le_of_ble_eq_true rfl, Nat.le_of_ble_eq_true rfl⟩) hK hN hP hD hS hA rfl hl.1 rfl (Nat.le_of_ble_eq_true rfl) dX2_message_25 ⟨Nat.le_of_ble_eq_true rfl, Nat.le_of_ble_eq_true rfl⟩ (fun H locs hP hD hS => ?_)
  refine lv_aload hx hb dX2_message_28 (lv_at hl 0 rfl) ?_
  refine lv_iload_n hx hb dX2_message_30 rfl (lv_at hl 3 rfl) ?_
  refine tg_Vi (As := [.int (nI (k))]) (rest := []) (wr := [(t0, .inr (2, [.ref t1, .ref t2, .int (c.1), .int (c.2.1), .int (c.2.2)])), (t2, .inl (ty 4, 2, .inr (.inr (.inr (.inr rw))))), (d1, .inl (ty 0, 100, .inl q.1)), (d2, .inl (ty 0, 100, .inl q.2.1)), (d3, .inl (ty 0, 100, .inl q.2.2.1)), (d4, .inl (ty 0, 100, .inl q.2.2.2.1))]) (w2 := [(t0, .inr (2, [.ref t1, .ref t2, .int (c.1), .int (c.2.1), .int (c.2.2)])), (t2, .inl (ty 4, 2, .inr (.inr (.inr (.inr rw))))), (f0, .inr (0, [.ref d1, .ref d2, .ref d3, .ref d4, .ref d5, .ref d6, .ref d7, .ref d8, .int (nI ((q.2.2.2.2.2.2.2.2))), .int (nI (w))])), (d1, .inl (ty 0, 100, .inl q.1)), (d2, .inl (ty 0, 100, .inl q.2.1)), (d3, .inl (ty 0, 100, .inl q.2.2.1)), (d4, .inl (ty 0, 100, .inl q.2.2.2.1))]) ⟨hx, hb, hml, hown, hts⟩ (k_X0_ringPlace l D ty f0 d1 d2 d3 d4 d5 d6 d7 d8 (q.2.2.2.2.2.2.2.2) w k hw (by omega)) (cwV 1 hts gX2_message_X0_ringPlace rfl rfl rfl (by decide +kernel) ⟨Nat.le_of_ble_eq_true rfl, Nat.le_of_ble_eq_true rfl⟩) hK hN hP hD hS hA [2] [0, 1, 3, 4, 5, 6] [0, 1, 6, 2, 3, 4, 5] 2 0 rfl rfl rfl rfl rfl rfl rfl (by decide) rfl hl.1 rfl (Nat.le_of_ble_eq_true rfl) dX2_message_31 rfl rfl ⟨Nat.le_of_ble_eq_true rfl, Nat.le_of_ble_eq_true rfl⟩ (fun H locs hP hD hS => ?_)
  refine lv_istore (lv' := [(5, .int (nI ((w + k) % 100))), (4, .ref f0), (0, .ref t0), (1, .int (nI (si))), (2, .int (nI (k))), (3, .int (nI (4)))]) hx hb dX2_message_34 hl (by decide) rfl (fun ls hl => ?_)
  refine lv_iload_n hx hb dX2_message_36 rfl (lv_at hl 5 rfl) ?_
  refine lv_tableOut (tgt := 107) hx hb dX2_message_37 (by decide) (by decide) ?_
  refine lv_aload hx hb dX2_message_107 (lv_at hl 1 rfl) ?_
  refine lv_iload hx hb dX2_message_109 (lv_at hl 0 rfl) ?_
  refine lv_iload_n hx hb dX2_message_111 rfl (lv_at hl 5 rfl) ?_
  refine lv_iconst (v := nI (4)) hx hb dX2_message_112 (by decide) ?_
  refine lv_isub hx hb dX2_message_113 ?_
  refine tg_vi (y := nI 0) (by decide) ?_
  refine tg_Vi (As := [.int (nI ((w + k) % 100)), .int (nI (0))]) (rest := []) (wr := [(t0, .inr (2, [.ref t1, .ref t2, .int (c.1), .int (c.2.1), .int (c.2.2)])), (t2, .inl (ty 4, 2, .inr (.inr (.inr (.inr rw))))), (d1, .inl (ty 0, 100, .inl q.1)), (d2, .inl (ty 0, 100, .inl q.2.1))]) (w2 := [(t0, .inr (2, [.ref t1, .ref t2, .int (c.1), .int (c.2.1), .int (c.2.2)])), (t2, .inl (ty 4, 2, .inr (.inr (.inr (.inr rw))))), (f0, .inr (0, [.ref d1, .ref d2, .ref d3, .ref d4, .ref d5, .ref d6, .ref d7, .ref d8, .int (nI ((q.2.2.2.2.2.2.2.2))), .int (nI (w))])), (d1, .inl (ty 0, 100, .inl q.1)), (d2, .inl (ty 0, 100, .inl q.2.1)), (d3, .inl (ty 0, 100, .inl (q.2.2.1))), (d4, .inl (ty 0, 100, .inl (q.2.2.2.1)))]) ⟨hx, hb, hml, hown, hts⟩ (k_X0_keyOfEntry l D ty f0 d1 d2 d3 d4 d5 d6 d7 d8 (q.2.2.2.2.2.2.2.2) w (q.2.2.1) (q.2.2.2.1) ((w + k) % 100) 0 (tg_qm q ((w + k) % 100)) (tg_qn q ((w + k) % 100)) (by omega) (by decide) hg.2.1 hg.2.2.2.1 hg.1 hg.2.2.1) (cwV 2 hts gX2_message_X0_keyOfEntry rfl rfl rfl (by decide +kernel) ⟨Nat.le_of_ble_eq_true rfl, Nat.le_of_ble_eq_true rfl⟩) hK hN hP hD hS hA [2, 5, 6] [0, 1, 3, 4] [0, 1, 4, 2, 3, 5, 6] 2 0 rfl rfl rfl rfl rfl rfl rfl (by decide) rfl hl.1 rfl (Nat.le_of_ble_eq_true rfl) dX2_message_114 rfl rfl ⟨Nat.le_of_ble_eq_true rfl, Nat.le_of_ble_eq_true rfl⟩ (fun H locs hP hD hS => ?_)
  exact hret _ _ 117 _ _ hP hD hS (rfl) dX2_message_117
def rmk_X2_message_5 : Room := { frames := 2, cells := 0, slots := 0, locals := 46 }
theorem ink_X2_message_5_X0 : ∀ w ∈ wsX00, w ∈ wsX2_message := by decide +kernel
theorem ink_X2_message_5_X2 : ∀ w ∈ wsX20, w ∈ wsX2_message := by decide +kernel
set_option maxHeartbeats 4000000 in
set_option maxRecDepth 100000 in
theorem k_X2_message_5 (l : Launch) (D : va_G) (ty : Nat → ClassId) (t0 : Nat) (t1 : Nat) (t2 : Nat) (c : tg_CT) (sw : Nat → Option Nat) (rw : Nat → Option Nat) (si : Nat) (f0 : Nat) (d1 : Nat) (d2 : Nat) (d3 : Nat) (d4 : Nat) (d5 : Nat) (d6 : Nat) (d7 : Nat) (d8 : Nat) (q : tg_RS) (w : Nat) (k : Nat) (hsi : si ≤ 1) (hri : rw si = some f0) (hk : k < tg_rz q) (hyu : tg_rz q ≤ 100) (hw : w < 100) (hg : tg_okG q ((w + k) % 100)) : tg_Mi l yX2_message wsX2_message rmk_X2_message_5 D ty [.ref t0, .int (nI (si)), .int (nI (k)), .int (nI (5))] [(t0, .inr (2, [.ref t1, .ref t2, .int (c.1), .int (c.2.1), .int (c.2.2)])), (t2, .inl (ty 4, 2, .inr (.inr (.inr (.inr rw))))), (f0, .inr (0, [.ref d1, .ref d2, .ref d3, .ref d4, .ref d5, .ref d6, .ref d7, .ref d8, .int (nI (q.2.2.2.2.2.2.2.2)), .int (nI (w))])), (d1, .inl (ty 0, 100, .inl q.1)), (d2, .inl (ty 0, 100, .inl q.2.1)), (d3, .inl (ty 0, 100, .inl q.2.2.1)), (d4, .inl (ty 0, 100, .inl q.2.2.2.1))] [(t0, .inr (2, [.ref t1, .ref t2, .int (c.1), .int (c.2.1), .int (c.2.2)])), (t2, .inl (ty 4, 2, .inr (.inr (.inr (.inr rw))))), (f0, .inr (0, [.ref d1, .ref d2, .ref d3, .ref d4, .ref d5, .ref d6, .ref d7, .ref d8, .int (nI (q.2.2.2.2.2.2.2.2)), .int (nI (w))])), (d1, .inl (ty 0, 100, .inl q.1)), (d2, .inl (ty 0, 100, .inl q.2.1)), (d3, .inl (ty 0, 100, .inl q.2.2.1)), (d4, .inl (ty 0, 100, .inl q.2.2.2.1))] (tg_kf (tg_qm q ((w + k) % 100)) (tg_qn q ((w + k) % 100)) 1 4 0) 0 0 := by
  refine tg_start_i (cc := cX2_message) (maxL := 6) (lvs := [(0, .ref t0), (1, .int (nI (si))), (2, .int (nI (k))), (3, .int (nI (5)))]) (by decide) rfl (Nat.le_of_ble_eq_true rfl) rfl ?_
  intro pp ee ss mm args below meth cc AA ls QQ hx hb hr hts hown hlocks hml hnm hA hP hD hS hK hN hl hret
  have hinX0 := ink_X2_message_5_X0
  have hinX2 := ink_X2_message_5_X2
  have ez : q.2.2.2.2.2.2.2.2 = tg_rz q := rfl
  refine lv_iload_n hx hb dX2_message_0 rfl (lv_at hl 1 rfl) ?_
  refine lv_iconst (v := nI (2)) hx hb dX2_message_1 (by decide) ?_
  refine tg_Sv (As := [.int (nI (si)), .int (nI (2))]) (rest := []) ⟨hx, hb, hml, hown, hts⟩ (k_X2_checkIndex l D ty si 2 (by omega) (by omega)) (va_cwS 2 hts gX2_message_X2_checkIndex rfl rfl rfl (by decide +kernel) ⟨Nat.le_of_ble_eq_true rfl, Nat.le_of_ble_eq_true rfl⟩) hK hN hP hD hS hA rfl hl.1 rfl (Nat.le_of_ble_eq_true rfl) dX2_message_2 ⟨Nat.le_of_ble_eq_true rfl, Nat.le_of_ble_eq_true rfl⟩ (fun H locs hP hD hS => ?_)
  refine lv_aload_n hx hb dX2_message_5 rfl (lv_at hl 0 rfl) ?_
  refine va_get (D := D) (ci := 2) (v := .ref t2) (C := RX2) (T := TX2) (N := 5) hx hb hts hinX2 hown hK hP 0 rfl rfl 1 (by decide) (hts (.fieldLink RX2 17 "TreeGossip" "rows" "[LTreeGossip$Row;") (by decide +kernel)) (fun _ h9 => h9) rfl dX2_message_6 ?_
  refine lv_iload_n hx hb dX2_message_9 rfl (lv_at hl 1 rfl) ?_
  refine tg_aald hx hb hK hP 1 4 (C := RX0) rfl rfl (k := si) (z := f0) (by omega) (by decide) hri dX2_message_10 ?_
  refine lv_astore (lv' := [(4, .ref f0), (0, .ref t0), (1, .int (nI (si))), (2, .int (nI (k))), (3, .int (nI (5)))]) hx hb dX2_message_11 hl (by decide) rfl (fun ls hl => ?_)
  refine lv_iload_n hx hb dX2_message_13 rfl (lv_at hl 3 rfl) ?_
  refine lv_aload hx hb dX2_message_14 (lv_at hl 0 rfl) ?_
  refine va_get (D := D) (ci := 0) (v := .int (nI (q.2.2.2.2.2.2.2.2))) (C := RX0) (T := TX0) (N := 10) hx hb hts hinX0 hown hK hP 2 rfl rfl 8 (by decide) (hts (.fieldLink RX2 93 "TreeGossip$Row" "size" "I") (by decide +kernel)) (fun _ h9 => h9) rfl dX2_message_16 ?_
  refine tg_Sv (As := [.int (nI (k)), .int (nI (q.2.2.2.2.2.2.2.2))]) (rest := []) ⟨hx, hb, hml, hown, hts⟩ (k_X2_checkIndex l D ty k (q.2.2.2.2.2.2.2.2) hk (by omega)) (va_cwS 2 hts gX2_message_X2_checkIndex rfl rfl rfl (by decide +kernel) ⟨Nat.le_of_ble_eq_true rfl, Nat.le_of_ble_eq_true rfl⟩) hK hN hP hD hS hA rfl hl.1 rfl (Nat.le_of_ble_eq_true rfl) dX2_message_19 ⟨Nat.le_of_ble_eq_true rfl, Nat.le_of_ble_eq_true rfl⟩ (fun H locs hP hD hS => ?_)
  refine lv_iload_n hx hb dX2_message_22 rfl (lv_at hl 4 rfl) ?_
  refine lv_bipush (v := nI (8)) hx hb dX2_message_23 (by decide) ?_
  refine tg_Sv (As := [.int (nI (5)), .int (nI (8))]) (rest := []) ⟨hx, hb, hml, hown, hts⟩ (k_X2_checkIndex l D ty 5 8 (by omega) (by omega)) (va_cwS 2 hts gX2_message_X2_checkIndex rfl rfl rfl (by decide +kernel) ⟨Nat.le_of_ble_eq_true rfl, Nat.le_of_ble_eq_true rfl⟩) hK hN hP hD hS hA rfl hl.1 rfl (Nat.le_of_ble_eq_true rfl) dX2_message_25 ⟨Nat.le_of_ble_eq_true rfl, Nat.le_of_ble_eq_true rfl⟩ (fun H locs hP hD hS => ?_)
  refine lv_aload hx hb dX2_message_28 (lv_at hl 0 rfl) ?_
  refine lv_iload_n hx hb dX2_message_30 rfl (lv_at hl 3 rfl) ?_
  refine tg_Vi (As := [.int (nI (k))]) (rest := []) (wr := [(t0, .inr (2, [.ref t1, .ref t2, .int (c.1), .int (c.2.1), .int (c.2.2)])), (t2, .inl (ty 4, 2, .inr (.inr (.inr (.inr rw))))), (d1, .inl (ty 0, 100, .inl q.1)), (d2, .inl (ty 0, 100, .inl q.2.1)), (d3, .inl (ty 0, 100, .inl q.2.2.1)), (d4, .inl (ty 0, 100, .inl q.2.2.2.1))]) (w2 := [(t0, .inr (2, [.ref t1, .ref t2, .int (c.1), .int (c.2.1), .int (c.2.2)])), (t2, .inl (ty 4, 2, .inr (.inr (.inr (.inr rw))))), (f0, .inr (0, [.ref d1, .ref d2, .ref d3, .ref d4, .ref d5, .ref d6, .ref d7, .ref d8, .int (nI ((q.2.2.2.2.2.2.2.2))), .int (nI (w))])), (d1, .inl (ty 0, 100, .inl q.1)), (d2, .inl (ty 0, 100, .inl q.2.1)), (d3, .inl (ty 0, 100, .inl q.2.2.1)), (d4, .inl (ty 0, 100, .inl q.2.2.2.1))]) ⟨hx, hb, hml, hown, hts⟩ (k_X0_ringPlace l D ty f0 d1 d2 d3 d4 d5 d6 d7 d8 (q.2.2.2.2.2.2.2.2) w k hw (by omega)) (cwV 1 hts gX2_message_X0_ringPlace rfl rfl rfl (by decide +kernel) ⟨Nat.le_of_ble_eq_true rfl, Nat.le_of_ble_eq_true rfl⟩) hK hN hP hD hS hA [2] [0, 1, 3, 4, 5, 6] [0, 1, 6, 2, 3, 4, 5] 2 0 rfl rfl rfl rfl rfl rfl rfl (by decide) rfl hl.1 rfl (Nat.le_of_ble_eq_true rfl) dX2_message_31 rfl rfl ⟨Nat.le_of_ble_eq_true rfl, Nat.le_of_ble_eq_true rfl⟩ (fun H locs hP hD hS => ?_)
  refine lv_istore (lv' := [(5, .int (nI ((w + k) % 100))), (4, .ref f0), (0, .ref t0), (1, .int (nI (si))), (2, .int (nI (k))), (3, .int (nI (5)))]) hx hb dX2_message_34 hl (by decide) rfl (fun ls hl => ?_)
  refine lv_iload_n hx hb dX2_message_36 rfl (lv_at hl 5 rfl) ?_
  refine lv_tableOut (tgt := 107) hx hb dX2_message_37 (by decide) (by decide) ?_
  refine lv_aload hx hb dX2_message_107 (lv_at hl 1 rfl) ?_
  refine lv_iload hx hb dX2_message_109 (lv_at hl 0 rfl) ?_
  refine lv_iload_n hx hb dX2_message_111 rfl (lv_at hl 5 rfl) ?_
  refine lv_iconst (v := nI (4)) hx hb dX2_message_112 (by decide) ?_
  refine lv_isub hx hb dX2_message_113 ?_
  refine tg_vi (y := nI 1) (by decide) ?_
  refine tg_Vi (As := [.int (nI ((w + k) % 100)), .int (nI (1))]) (rest := []) (wr := [(t0, .inr (2, [.ref t1, .ref t2, .int (c.1), .int (c.2.1), .int (c.2.2)])), (t2, .inl (ty 4, 2, .inr (.inr (.inr (.inr rw))))), (d1, .inl (ty 0, 100, .inl q.1)), (d2, .inl (ty 0, 100, .inl q.2.1))]) (w2 := [(t0, .inr (2, [.ref t1, .ref t2, .int (c.1), .int (c.2.1), .int (c.2.2)])), (t2, .inl (ty 4, 2, .inr (.inr (.inr (.inr rw))))), (f0, .inr (0, [.ref d1, .ref d2, .ref d3, .ref d4, .ref d5, .ref d6, .ref d7, .ref d8, .int (nI ((q.2.2.2.2.2.2.2.2))), .int (nI (w))])), (d1, .inl (ty 0, 100, .inl q.1)), (d2, .inl (ty 0, 100, .inl q.2.1)), (d3, .inl (ty 0, 100, .inl (q.2.2.1))), (d4, .inl (ty 0, 100, .inl (q.2.2.2.1)))]) ⟨hx, hb, hml, hown, hts⟩ (k_X0_keyOfEntry l D ty f0 d1 d2 d3 d4 d5 d6 d7 d8 (q.2.2.2.2.2.2.2.2) w (q.2.2.1) (q.2.2.2.1) ((w + k) % 100) 1 (tg_qm q ((w + k) % 100)) (tg_qn q ((w + k) % 100)) (by omega) (by decide) hg.2.1 hg.2.2.2.1 hg.1 hg.2.2.1) (cwV 2 hts gX2_message_X0_keyOfEntry rfl rfl rfl (by decide +kernel) ⟨Nat.le_of_ble_eq_true rfl, Nat.le_of_ble_eq_true rfl⟩) hK hN hP hD hS hA [2, 5, 6] [0, 1, 3, 4] [0, 1, 4, 2, 3, 5, 6] 2 0 rfl rfl rfl rfl rfl rfl rfl (by decide) rfl hl.1 rfl (Nat.le_of_ble_eq_true rfl) dX2_message_114 rfl rfl ⟨Nat.le_of_ble_eq_true rfl, Nat.le_of_ble_eq_true rfl⟩ (fun H locs hP hD hS => ?_)
  exact hret _ _ 117 _ _ hP hD hS (rfl) dX2_message_117
def rmk_X2_message_6 : Room := { frames := 2, cells := 0, slots := 0, locals := 46 }
theorem ink_X2_message_6_X0 : ∀ w ∈ wsX00, w ∈ wsX2_message := by decide +kernel
theorem ink_X2_message_6_X2 : ∀ w ∈ wsX20, w ∈ wsX2_message := by decide +kernel
set_option maxHeartbeats 4000000 in
set_option maxRecDepth 100000 in
theorem k_X2_message_6 (l : Launch) (D : va_G) (ty : Nat → ClassId) (t0 : Nat) (t1 : Nat) (t2 : Nat) (c : tg_CT) (sw : Nat → Option Nat) (rw : Nat → Option Nat) (si : Nat) (f0 : Nat) (d1 : Nat) (d2 : Nat) (d3 : Nat) (d4 : Nat) (d5 : Nat) (d6 : Nat) (d7 : Nat) (d8 : Nat) (q : tg_RS) (w : Nat) (k : Nat) (hsi : si ≤ 1) (hri : rw si = some f0) (hk : k < tg_rz q) (hyu : tg_rz q ≤ 100) (hw : w < 100) (hg : tg_okG q ((w + k) % 100)) : tg_Mi l yX2_message wsX2_message rmk_X2_message_6 D ty [.ref t0, .int (nI (si)), .int (nI (k)), .int (nI (6))] [(t0, .inr (2, [.ref t1, .ref t2, .int (c.1), .int (c.2.1), .int (c.2.2)])), (t2, .inl (ty 4, 2, .inr (.inr (.inr (.inr rw))))), (f0, .inr (0, [.ref d1, .ref d2, .ref d3, .ref d4, .ref d5, .ref d6, .ref d7, .ref d8, .int (nI (q.2.2.2.2.2.2.2.2)), .int (nI (w))])), (d1, .inl (ty 0, 100, .inl q.1)), (d2, .inl (ty 0, 100, .inl q.2.1)), (d3, .inl (ty 0, 100, .inl q.2.2.1)), (d4, .inl (ty 0, 100, .inl q.2.2.2.1))] [(t0, .inr (2, [.ref t1, .ref t2, .int (c.1), .int (c.2.1), .int (c.2.2)])), (t2, .inl (ty 4, 2, .inr (.inr (.inr (.inr rw))))), (f0, .inr (0, [.ref d1, .ref d2, .ref d3, .ref d4, .ref d5, .ref d6, .ref d7, .ref d8, .int (nI (q.2.2.2.2.2.2.2.2)), .int (nI (w))])), (d1, .inl (ty 0, 100, .inl q.1)), (d2, .inl (ty 0, 100, .inl q.2.1)), (d3, .inl (ty 0, 100, .inl q.2.2.1)), (d4, .inl (ty 0, 100, .inl q.2.2.2.1))] (tg_kf (tg_qm q ((w + k) % 100)) (tg_qn q ((w + k) % 100)) 2 4 0) 0 0 := by
  refine tg_start_i (cc := cX2_message) (maxL := 6) (lvs := [(0, .ref t0), (1, .int (nI (si))), (2, .int (nI (k))), (3, .int (nI (6)))]) (by decide) rfl (Nat.le_of_ble_eq_true rfl) rfl ?_
  intro pp ee ss mm args below meth cc AA ls QQ hx hb hr hts hown hlocks hml hnm hA hP hD hS hK hN hl hret
  have hinX0 := ink_X2_message_6_X0
  have hinX2 := ink_X2_message_6_X2
  have ez : q.2.2.2.2.2.2.2.2 = tg_rz q := rfl
  refine lv_iload_n hx hb dX2_message_0 rfl (lv_at hl 1 rfl) ?_
  refine lv_iconst (v := nI (2)) hx hb dX2_message_1 (by decide) ?_
  refine tg_Sv (As := [.int (nI (si)), .int (nI (2))]) (rest := []) ⟨hx, hb, hml, hown, hts⟩ (k_X2_checkIndex l D ty si 2 (by omega) (by omega)) (va_cwS 2 hts gX2_message_X2_checkIndex rfl rfl rfl (by decide +kernel) ⟨Nat.le_of_ble_eq_true rfl, Nat.le_of_ble_eq_true rfl⟩) hK hN hP hD hS hA rfl hl.1 rfl (Nat.le_of_ble_eq_true rfl) dX2_message_2 ⟨Nat.le_of_ble_eq_true rfl, Nat.le_of_ble_eq_true rfl⟩ (fun H locs hP hD hS => ?_)
  refine lv_aload_n hx hb dX2_message_5 rfl (lv_at hl 0 rfl) ?_
  refine va_get (D := D) (ci := 2) (v := .ref t2) (C := RX2) (T := TX2) (N := 5) hx hb hts hinX2 hown hK hP 0 rfl rfl 1 (by decide) (hts (.fieldLink RX2 17 "TreeGossip" "rows" "[LTreeGossip$Row;") (by decide +kernel)) (fun _ h9 => h9) rfl dX2_message_6 ?_
  refine lv_iload_n hx hb dX2_message_9 rfl (lv_at hl 1 rfl) ?_
  refine tg_aald hx hb hK hP 1 4 (C := RX0) rfl rfl (k := si) (z := f0) (by omega) (by decide) hri dX2_message_10 ?_
  refine lv_astore (lv' := [(4, .ref f0), (0, .ref t0), (1, .int (nI (si))), (2, .int (nI (k))), (3, .int (nI (6)))]) hx hb dX2_message_11 hl (by decide) rfl (fun ls hl => ?_)
  refine lv_iload_n hx hb dX2_message_13 rfl (lv_at hl 3 rfl) ?_
  refine lv_aload hx hb dX2_message_14 (lv_at hl 0 rfl) ?_
  refine va_get (D := D) (ci := 0) (v := .int (nI (q.2.2.2.2.2.2.2.2))) (C := RX0) (T := TX0) (N := 10) hx hb hts hinX0 hown hK hP 2 rfl rfl 8 (by decide) (hts (.fieldLink RX2 93 "TreeGossip$Row" "size" "I") (by decide +kernel)) (fun _ h9 => h9) rfl dX2_message_16 ?_
  refine tg_Sv (As := [.int (nI (k)), .int (nI (q.2.2.2.2.2.2.2.2))]) (rest := []) ⟨hx, hb, hml, hown, hts⟩ (k_X2_checkIndex l D ty k (q.2.2.2.2.2.2.2.2) hk (by omega)) (va_cwS 2 hts gX2_message_X2_checkIndex rfl rfl rfl (by decide +kernel) ⟨Nat.le_of_ble_eq_true rfl, Nat.le_of_ble_eq_true rfl⟩) hK hN hP hD hS hA rfl hl.1 rfl (Nat.le_of_ble_eq_true rfl) dX2_message_19 ⟨Nat.le_of_ble_eq_true rfl, Nat.le_of_ble_eq_true rfl⟩ (fun H locs hP hD hS => ?_)
  refine lv_iload_n hx hb dX2_message_22 rfl (lv_at hl 4 rfl) ?_
  refine lv_bipush (v := nI (8)) hx hb dX2_message_23 (by decide) ?_
  refine tg_Sv (As := [.int (nI (6)), .int (nI (8))]) (rest := []) ⟨hx, hb, hml, hown, hts⟩ (k_X2_checkIndex l D ty 6 8 (by omega) (by omega)) (va_cwS 2 hts gX2_message_X2_checkIndex rfl rfl rfl (by decide +kernel) ⟨Nat.le_of_ble_eq_true rfl, Nat.le_of_ble_eq_true rfl⟩) hK hN hP hD hS hA rfl hl.1 rfl (Nat.le_of_ble_eq_true rfl) dX2_message_25 ⟨Nat.le_of_ble_eq_true rfl, Nat.le_of_ble_eq_true rfl⟩ (fun H locs hP hD hS => ?_)
  refine lv_aload hx hb dX2_message_28 (lv_at hl 0 rfl) ?_
  refine lv_iload_n hx hb dX2_message_30 rfl (lv_at hl 3 rfl) ?_
  refine tg_Vi (As := [.int (nI (k))]) (rest := []) (wr := [(t0, .inr (2, [.ref t1, .ref t2, .int (c.1), .int (c.2.1), .int (c.2.2)])), (t2, .inl (ty 4, 2, .inr (.inr (.inr (.inr rw))))), (d1, .inl (ty 0, 100, .inl q.1)), (d2, .inl (ty 0, 100, .inl q.2.1)), (d3, .inl (ty 0, 100, .inl q.2.2.1)), (d4, .inl (ty 0, 100, .inl q.2.2.2.1))]) (w2 := [(t0, .inr (2, [.ref t1, .ref t2, .int (c.1), .int (c.2.1), .int (c.2.2)])), (t2, .inl (ty 4, 2, .inr (.inr (.inr (.inr rw))))), (f0, .inr (0, [.ref d1, .ref d2, .ref d3, .ref d4, .ref d5, .ref d6, .ref d7, .ref d8, .int (nI ((q.2.2.2.2.2.2.2.2))), .int (nI (w))])), (d1, .inl (ty 0, 100, .inl q.1)), (d2, .inl (ty 0, 100, .inl q.2.1)), (d3, .inl (ty 0, 100, .inl q.2.2.1)), (d4, .inl (ty 0, 100, .inl q.2.2.2.1))]) ⟨hx, hb, hml, hown, hts⟩ (k_X0_ringPlace l D ty f0 d1 d2 d3 d4 d5 d6 d7 d8 (q.2.2.2.2.2.2.2.2) w k hw (by omega)) (cwV 1 hts gX2_message_X0_ringPlace rfl rfl rfl (by decide +kernel) ⟨Nat.le_of_ble_eq_true rfl, Nat.le_of_ble_eq_true rfl⟩) hK hN hP hD hS hA [2] [0, 1, 3, 4, 5, 6] [0, 1, 6, 2, 3, 4, 5] 2 0 rfl rfl rfl rfl rfl rfl rfl (by decide) rfl hl.1 rfl (Nat.le_of_ble_eq_true rfl) dX2_message_31 rfl rfl ⟨Nat.le_of_ble_eq_true rfl, Nat.le_of_ble_eq_true rfl⟩ (fun H locs hP hD hS => ?_)
  refine lv_istore (lv' := [(5, .int (nI ((w + k) % 100))), (4, .ref f0), (0, .ref t0), (1, .int (nI (si))), (2, .int (nI (k))), (3, .int (nI (6)))]) hx hb dX2_message_34 hl (by decide) rfl (fun ls hl => ?_)
  refine lv_iload_n hx hb dX2_message_36 rfl (lv_at hl 5 rfl) ?_
  refine lv_tableOut (tgt := 107) hx hb dX2_message_37 (by decide) (by decide) ?_
  refine lv_aload hx hb dX2_message_107 (lv_at hl 1 rfl) ?_
  refine lv_iload hx hb dX2_message_109 (lv_at hl 0 rfl) ?_
  refine lv_iload_n hx hb dX2_message_111 rfl (lv_at hl 5 rfl) ?_
  refine lv_iconst (v := nI (4)) hx hb dX2_message_112 (by decide) ?_
  refine lv_isub hx hb dX2_message_113 ?_
  refine tg_vi (y := nI 2) (by decide) ?_
  refine tg_Vi (As := [.int (nI ((w + k) % 100)), .int (nI (2))]) (rest := []) (wr := [(t0, .inr (2, [.ref t1, .ref t2, .int (c.1), .int (c.2.1), .int (c.2.2)])), (t2, .inl (ty 4, 2, .inr (.inr (.inr (.inr rw))))), (d1, .inl (ty 0, 100, .inl q.1)), (d2, .inl (ty 0, 100, .inl q.2.1))]) (w2 := [(t0, .inr (2, [.ref t1, .ref t2, .int (c.1), .int (c.2.1), .int (c.2.2)])), (t2, .inl (ty 4, 2, .inr (.inr (.inr (.inr rw))))), (f0, .inr (0, [.ref d1, .ref d2, .ref d3, .ref d4, .ref d5, .ref d6, .ref d7, .ref d8, .int (nI ((q.2.2.2.2.2.2.2.2))), .int (nI (w))])), (d1, .inl (ty 0, 100, .inl q.1)), (d2, .inl (ty 0, 100, .inl q.2.1)), (d3, .inl (ty 0, 100, .inl (q.2.2.1))), (d4, .inl (ty 0, 100, .inl (q.2.2.2.1)))]) ⟨hx, hb, hml, hown, hts⟩ (k_X0_keyOfEntry l D ty f0 d1 d2 d3 d4 d5 d6 d7 d8 (q.2.2.2.2.2.2.2.2) w (q.2.2.1) (q.2.2.2.1) ((w + k) % 100) 2 (tg_qm q ((w + k) % 100)) (tg_qn q ((w + k) % 100)) (by omega) (by decide) hg.2.1 hg.2.2.2.1 hg.1 hg.2.2.1) (cwV 2 hts gX2_message_X0_keyOfEntry rfl rfl rfl (by decide +kernel) ⟨Nat.le_of_ble_eq_true rfl, Nat.le_of_ble_eq_true rfl⟩) hK hN hP hD hS hA [2, 5, 6] [0, 1, 3, 4] [0, 1, 4, 2, 3, 5, 6] 2 0 rfl rfl rfl rfl rfl rfl rfl (by decide) rfl hl.1 rfl (Nat.le_of_ble_eq_true rfl) dX2_message_114 rfl rfl ⟨Nat.le_of_ble_eq_true rfl, Nat.le_of_ble_eq_true rfl⟩ (fun H locs hP hD hS => ?_)
  exact hret _ _ 117 _ _ hP hD hS (rfl) dX2_message_117
def rmk_X2_message_7 : Room := { frames := 2, cells := 0, slots := 0, locals := 46 }
theorem ink_X2_message_7_X0 : ∀ w ∈ wsX00, w ∈ wsX2_message := by decide +kernel
theorem ink_X2_message_7_X2 : ∀ w ∈ wsX20, w ∈ wsX2_message := by decide +kernel
set_option maxHeartbeats 4000000 in
set_option maxRecDepth 100000 in
theorem k_X2_message_7 (l : Launch) (D : va_G) (ty : Nat → ClassId) (t0 : Nat) (t1 : Nat) (t2 : Nat) (c : tg_CT) (sw : Nat → Option Nat) (rw : Nat → Option Nat) (si : Nat) (f0 : Nat) (d1 : Nat) (d2 : Nat) (d3 : Nat) (d4 : Nat) (d5 : Nat) (d6 : Nat) (d7 : Nat) (d8 : Nat) (q : tg_RS) (w : Nat) (k : Nat) (hsi : si ≤ 1) (hri : rw si = some f0) (hk : k < tg_rz q) (hyu : tg_rz q ≤ 100) (hw : w < 100) (hg : tg_okG q ((w + k) % 100)) : tg_Mi l yX2_message wsX2_message rmk_X2_message_7 D ty [.ref t0, .int (nI (si)), .int (nI (k)), .int (nI (7))] [(t0, .inr (2, [.ref t1, .ref t2, .int (c.1), .int (c.2.1), .int (c.2.2)])), (t2, .inl (ty 4, 2, .inr (.inr (.inr (.inr rw))))), (f0, .inr (0, [.ref d1, .ref d2, .ref d3, .ref d4, .ref d5, .ref d6, .ref d7, .ref d8, .int (nI (q.2.2.2.2.2.2.2.2)), .int (nI (w))])), (d1, .inl (ty 0, 100, .inl q.1)), (d2, .inl (ty 0, 100, .inl q.2.1)), (d3, .inl (ty 0, 100, .inl q.2.2.1)), (d4, .inl (ty 0, 100, .inl q.2.2.2.1))] [(t0, .inr (2, [.ref t1, .ref t2, .int (c.1), .int (c.2.1), .int (c.2.2)])), (t2, .inl (ty 4, 2, .inr (.inr (.inr (.inr rw))))), (f0, .inr (0, [.ref d1, .ref d2, .ref d3, .ref d4, .ref d5, .ref d6, .ref d7, .ref d8, .int (nI (q.2.2.2.2.2.2.2.2)), .int (nI (w))])), (d1, .inl (ty 0, 100, .inl q.1)), (d2, .inl (ty 0, 100, .inl q.2.1)), (d3, .inl (ty 0, 100, .inl q.2.2.1)), (d4, .inl (ty 0, 100, .inl q.2.2.2.1))] (tg_kf (tg_qm q ((w + k) % 100)) (tg_qn q ((w + k) % 100)) 3 4 0) 0 0 := by
  refine tg_start_i (cc := cX2_message) (maxL := 6) (lvs := [(0, .ref t0), (1, .int (nI (si))), (2, .int (nI (k))), (3, .int (nI (7)))]) (by decide) rfl (Nat.le_of_ble_eq_true rfl) rfl ?_
  intro pp ee ss mm args below meth cc AA ls QQ hx hb hr hts hown hlocks hml hnm hA hP hD hS hK hN hl hret
  have hinX0 := ink_X2_message_7_X0
  have hinX2 := ink_X2_message_7_X2
  have ez : q.2.2.2.2.2.2.2.2 = tg_rz q := rfl
  refine lv_iload_n hx hb dX2_message_0 rfl (lv_at hl 1 rfl) ?_
  refine lv_iconst (v := nI (2)) hx hb dX2_message_1 (by decide) ?_
  refine tg_Sv (As := [.int (nI (si)), .int (nI (2))]) (rest := []) ⟨hx, hb, hml, hown, hts⟩ (k_X2_checkIndex l D ty si 2 (by omega) (by omega)) (va_cwS 2 hts gX2_message_X2_checkIndex rfl rfl rfl (by decide +kernel) ⟨Nat.le_of_ble_eq_true rfl, Nat.le_of_ble_eq_true rfl⟩) hK hN hP hD hS hA rfl hl.1 rfl (Nat.le_of_ble_eq_true rfl) dX2_message_2 ⟨Nat.le_of_ble_eq_true rfl, Nat.le_of_ble_eq_true rfl⟩ (fun H locs hP hD hS => ?_)
  refine lv_aload_n hx hb dX2_message_5 rfl (lv_at hl 0 rfl) ?_
  refine va_get (D := D) (ci := 2) (v := .ref t2) (C := RX2) (T := TX2) (N := 5) hx hb hts hinX2 hown hK hP 0 rfl rfl 1 (by decide) (hts (.fieldLink RX2 17 "TreeGossip" "rows" "[LTreeGossip$Row;") (by decide +kernel)) (fun _ h9 => h9) rfl dX2_message_6 ?_
  refine lv_iload_n hx hb dX2_message_9 rfl (lv_at hl 1 rfl) ?_
  refine tg_aald hx hb hK hP 1 4 (C := RX0) rfl rfl (k := si) (z := f0) (by omega) (by decide) hri dX2_message_10 ?_
  refine lv_astore (lv' := [(4, .ref f0), (0, .ref t0), (1, .int (nI (si))), (2, .int (nI (k))), (3, .int (nI (7)))]) hx hb dX2_message_11 hl (by decide) rfl (fun ls hl => ?_)
  refine lv_iload_n hx hb dX2_message_13 rfl (lv_at hl 3 rfl) ?_
  refine lv_aload hx hb dX2_message_14 (lv_at hl 0 rfl) ?_
  refine va_get (D := D) (ci := 0) (v := .int (nI (q.2.2.2.2.2.2.2.2))) (C := RX0) (T := TX0) (N := 10) hx hb hts hinX0 hown hK hP 2 rfl rfl 8 (by decide) (hts (.fieldLink RX2 93 "TreeGossip$Row" "size" "I") (by decide +kernel)) (fun _ h9 => h9) rfl dX2_message_16 ?_
  refine tg_Sv (As := [.int (nI (k)), .int (nI (q.2.2.2.2.2.2.2.2))]) (rest := []) ⟨hx, hb, hml, hown, hts⟩ (k_X2_checkIndex l D ty k (q.2.2.2.2.2.2.2.2) hk (by omega)) (va_cwS 2 hts gX2_message_X2_checkIndex rfl rfl rfl (by decide +kernel) ⟨Nat.le_of_ble_eq_true rfl, Nat.le_of_ble_eq_true rfl⟩) hK hN hP hD hS hA rfl hl.1 rfl (Nat.le_of_ble_eq_true rfl) dX2_message_19 ⟨Nat.le_of_ble_eq_true rfl, Nat.le_of_ble_eq_true rfl⟩ (fun H locs hP hD hS => ?_)
  refine lv_iload_n hx hb dX2_message_22 rfl (lv_at hl 4 rfl) ?_
  refine lv_bipush (v := nI (8)) hx hb dX2_message_23 (by decide) ?_
  refine tg_Sv (As := [.int (nI (7)), .int (nI (8))]) (rest := []) ⟨hx, hb, hml, hown, hts⟩ (k_X2_checkIndex l D ty 7 8 (by omega) (by omega)) (va_cwS 2 hts gX2_message_X2_checkIndex rfl rfl rfl (by decide +kernel) ⟨Nat.le_of_ble_eq_true rfl, Nat.le_of_ble_eq_true rfl⟩) hK hN hP hD hS hA rfl hl.1 rfl (Nat.le_of_ble_eq_true rfl) dX2_message_25 ⟨Nat.le_of_ble_eq_true rfl, Nat.le_of_ble_eq_true rfl⟩ (fun H locs hP hD hS => ?_)
  refine lv_aload hx hb dX2_message_28 (lv_at hl 0 rfl) ?_
  refine lv_iload_n hx hb dX2_message_30 rfl (lv_at hl 3 rfl) ?_
  refine tg_Vi (As := [.int (nI (k))]) (rest := []) (wr := [(t0, .inr (2, [.ref t1, .ref t2, .int (c.1), .int (c.2.1), .int (c.2.2)])), (t2, .inl (ty 4, 2, .inr (.inr (.inr (.inr rw))))), (d1, .inl (ty 0, 100, .inl q.1)), (d2, .inl (ty 0, 100, .inl q.2.1)), (d3, .inl (ty 0, 100, .inl q.2.2.1)), (d4, .inl (ty 0, 100, .inl q.2.2.2.1))]) (w2 := [(t0, .inr (2, [.ref t1, .ref t2, .int (c.1), .int (c.2.1), .int (c.2.2)])), (t2, .inl (ty 4, 2, .inr (.inr (.inr (.inr rw))))), (f0, .inr (0, [.ref d1, .ref d2, .ref d3, .ref d4, .ref d5, .ref d6, .ref d7, .ref d8, .int (nI ((q.2.2.2.2.2.2.2.2))), .int (nI (w))])), (d1, .inl (ty 0, 100, .inl q.1)), (d2, .inl (ty 0, 100, .inl q.2.1)), (d3, .inl (ty 0, 100, .inl q.2.2.1)), (d4, .inl (ty 0, 100, .inl q.2.2.2.1))]) ⟨hx, hb, hml, hown, hts⟩ (k_X0_ringPlace l D ty f0 d1 d2 d3 d4 d5 d6 d7 d8 (q.2.2.2.2.2.2.2.2) w k hw (by omega)) (cwV 1 hts gX2_message_X0_ringPlace rfl rfl rfl (by decide +kernel) ⟨Nat.le_of_ble_eq_true rfl, Nat.le_of_ble_eq_true rfl⟩) hK hN hP hD hS hA [2] [0, 1, 3, 4, 5, 6] [0, 1, 6, 2, 3, 4, 5] 2 0 rfl rfl rfl rfl rfl rfl rfl (by decide) rfl hl.1 rfl (Nat.le_of_ble_eq_true rfl) dX2_message_31 rfl rfl ⟨Nat.le_of_ble_eq_true rfl, Nat.le_of_ble_eq_true rfl⟩ (fun H locs hP hD hS => ?_)
  refine lv_istore (lv' := [(5, .int (nI ((w + k) % 100))), (4, .ref f0), (0, .ref t0), (1, .int (nI (si))), (2, .int (nI (k))), (3, .int (nI (7)))]) hx hb dX2_message_34 hl (by decide) rfl (fun ls hl => ?_)
  refine lv_iload_n hx hb dX2_message_36 rfl (lv_at hl 5 rfl) ?_
  refine lv_tableOut (tgt := 107) hx hb dX2_message_37 (by decide) (by decide) ?_
  refine lv_aload hx hb dX2_message_107 (lv_at hl 1 rfl) ?_
  refine lv_iload hx hb dX2_message_109 (lv_at hl 0 rfl) ?_
  refine lv_iload_n hx hb dX2_message_111 rfl (lv_at hl 5 rfl) ?_
  refine lv_iconst (v := nI (4)) hx hb dX2_message_112 (by decide) ?_
  refine lv_isub hx hb dX2_message_113 ?_
  refine tg_vi (y := nI 3) (by decide) ?_
  refine tg_Vi (As := [.int (nI ((w + k) % 100)), .int (nI (3))]) (rest := []) (wr := [(t0, .inr (2, [.ref t1, .ref t2, .int (c.1), .int (c.2.1), .int (c.2.2)])), (t2, .inl (ty 4, 2, .inr (.inr (.inr (.inr rw))))), (d1, .inl (ty 0, 100, .inl q.1)), (d2, .inl (ty 0, 100, .inl q.2.1))]) (w2 := [(t0, .inr (2, [.ref t1, .ref t2, .int (c.1), .int (c.2.1), .int (c.2.2)])), (t2, .inl (ty 4, 2, .inr (.inr (.inr (.inr rw))))), (f0, .inr (0, [.ref d1, .ref d2, .ref d3, .ref d4, .ref d5, .ref d6, .ref d7, .ref d8, .int (nI ((q.2.2.2.2.2.2.2.2))), .int (nI (w))])), (d1, .inl (ty 0, 100, .inl q.1)), (d2, .inl (ty 0, 100, .inl q.2.1)), (d3, .inl (ty 0, 100, .inl (q.2.2.1))), (d4, .inl (ty 0, 100, .inl (q.2.2.2.1)))]) ⟨hx, hb, hml, hown, hts⟩ (k_X0_keyOfEntry l D ty f0 d1 d2 d3 d4 d5 d6 d7 d8 (q.2.2.2.2.2.2.2.2) w (q.2.2.1) (q.2.2.2.1) ((w + k) % 100) 3 (tg_qm q ((w + k) % 100)) (tg_qn q ((w + k) % 100)) (by omega) (by decide) hg.2.1 hg.2.2.2.1 hg.1 hg.2.2.1) (cwV 2 hts gX2_message_X0_keyOfEntry rfl rfl rfl (by decide +kernel) ⟨Nat.le_of_ble_eq_true rfl, Nat.le_of_ble_eq_true rfl⟩) hK hN hP hD hS hA [2, 5, 6] [0, 1, 3, 4] [0, 1, 4, 2, 3, 5, 6] 2 0 rfl rfl rfl rfl rfl rfl rfl (by decide) rfl hl.1 rfl (Nat.le_of_ble_eq_true rfl) dX2_message_114 rfl rfl ⟨Nat.le_of_ble_eq_true rfl, Nat.le_of_ble_eq_true rfl⟩ (fun H locs hP hD hS => ?_)
  exact hret _ _ 117 _ _ hP hD hS (rfl) dX2_message_117
