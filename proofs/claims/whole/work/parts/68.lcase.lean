/-! ===== the law: one call ===== -/
set_option maxHeartbeats 4000000 in
set_option maxRecDepth 100000 in
theorem lc_put (l : Launch) {pp : Program} {ee : Env} {ss : State} {mm : MethodId} {below : List Frame} {meth : Method} {cc : Code} {b L : Nat} {xs : Nat → Int32} {D : va_G} {ty : Nat → ClassId} (C0 : tl_At pp ss mm cc b L xs D ty) {QQ : State → Prop} {H : Heap} {locs : List Loc} {ls : Array Slot} {cells slots : Nat} {t0 m0 o0 : Nat} {A A2 M M2 : va_W} {fsM : List Value} {fsN : List Value} {ov2 : Nat → Int64} {cd : Int32} (bb : Bool) (i : Nat) (hi : i + 8 ≤ L) (hL : L ≤ 4096) (rc rr : Room) (hrc : tl_rw rc 10) (hrr : tl_rr rr 8) (kc : Nat) (hcd : cd = nI kc) (hk2 : kc ≤ 2) (hval : kc = 0 → ov2 0 = tg_bl bb) (hC : tw_Mi l yL_put wsL_put rc D ty [.ref t0, .int (xs (i + 1)), .int (xs (i + 2)), .long (tl_L (xs (i + 3)) (xs (i + 4))), .long (tl_L (xs (i + 5)) (xs (i + 6))), .int (xs (i + 7)), .ref o0] A A2 (nI (kc))) (hM : tg_Mi l yX3_put wsX3_put rr D ty [.ref m0, .int (xs (i + 1)), .int (xs (i + 2)), .long (tl_L (xs (i + 3)) (xs (i + 4))), .long (tl_L (xs (i + 5)) (xs (i + 6))), .int (xs (i + 7))] M M2 (tg_b bb) 0 0) (hM0 : M[0]? = some (m0, .inr (3, fsM))) (hM2 : M2[0]? = some (m0, .inr (3, fsN))) (hO2 : A2[31]? = some (o0, .inl (ty 1, 1, .inr (.inl ov2)))) (hT : tg_Mi l yX3_thrown wsX3_thrown rmk_X3_thrown D ty [.ref m0] M2 M2 (cd) 0 0)
    (hP : va_P D vwCl (A ++ M) H) (hD : va_D (fun q => ss.heap.size ≤ q) (A ++ M)) (hS : va_S (fun q => ss.heap.size ≤ q) ss.heap H locs) (hl : lv_has ls 8 [(0, .ref b), (1, .ref t0), (2, .ref m0), (3, .ref o0), (4, .int (nI i))]) (hc1 : cells + 1 ≤ 601024) (hc2 : slots + 6 ≤ 7293033)
    (hnext : ∀ (H : Heap) (locs : List Loc) (ls : Array Slot), va_P D vwCl (A2 ++ M2) H → va_D (fun q => ss.heap.size ≤ q) (A2 ++ M2) → va_S (fun q => ss.heap.size ≤ q) ss.heap H locs → lv_has ls 8 [(0, .ref b), (1, .ref t0), (2, .ref m0), (3, .ref o0), (4, .int (nI (i + 8)))] → W pp l ee room_1 ss mm #[Value.ref b] below meth cc H locs (cells + 1) (slots + 6) QQ (F0 mm 23 ls [])) : W pp l ee room_1 ss mm #[Value.ref b] below meth cc H locs cells slots QQ (F0 mm 104 ls []) := by
  obtain ⟨hx, hb, hml, hown, hts, hX, hbl, hK, hN, hZ, hNc⟩ := C0
  have hA : ∀ q : Nat, ss.heap.size ≤ q → (fun q : Nat => ss.heap.size ≤ q) q := fun _ h => h
  refine lv_aload_n hx hb dL_law_104 rfl (lv_at hl 1 rfl) ?_
  refine lv_aload_n hx hb dL_law_105 rfl (lv_at hl 0 rfl) ?_
  refine lv_iload hx hb dL_law_106 (lv_at hl 4 rfl) ?_
  refine lv_iconst (v := nI (1)) hx hb dL_law_108 (by decide) ?_
  refine lv_iadd hx hb dL_law_109 ?_
  refine tg_vi (nI_add _ _) ?_
  refine tl_sld hx hb hX hbl hS (k := i + 1) (by omega) hL dL_law_110 ?_
  refine lv_aload_n hx hb dL_law_111 rfl (lv_at hl 0 rfl) ?_
  refine lv_iload hx hb dL_law_112 (lv_at hl 4 rfl) ?_
  refine lv_iconst (v := nI (2)) hx hb dL_law_114 (by decide) ?_
  refine lv_iadd hx hb dL_law_115 ?_
  refine tg_vi (nI_add _ _) ?_
  refine tl_sld hx hb hX hbl hS (k := i + 2) (by omega) hL dL_law_116 ?_
  refine lv_aload_n hx hb dL_law_117 rfl (lv_at hl 0 rfl) ?_
  refine lv_iload hx hb dL_law_118 (lv_at hl 4 rfl) ?_
  refine lv_iconst (v := nI (3)) hx hb dL_law_120 (by decide) ?_
  refine lv_iadd hx hb dL_law_121 ?_
  refine tg_vi (nI_add _ _) ?_
  refine tl_sld hx hb hX hbl hS (k := i + 3) (by omega) hL dL_law_122 ?_
  refine lv_i2l (v := Int32.toInt64 (xs (i + 3))) hx hb dL_law_123 rfl ?_
  refine lv_bipush (v := nI (32)) hx hb dL_law_124 (by decide) ?_
  refine lv_lshl (v := tg_ll (Int32.toInt64 (xs (i + 3))) (nI (32))) hx hb dL_law_126 rfl ?_
  refine lv_aload_n hx hb dL_law_127 rfl (lv_at hl 0 rfl) ?_
  refine lv_iload hx hb dL_law_128 (lv_at hl 4 rfl) ?_
  refine lv_iconst (v := nI (4)) hx hb dL_law_130 (by decide) ?_
  refine lv_iadd hx hb dL_law_131 ?_
  refine tg_vi (nI_add _ _) ?_
  refine tl_sld hx hb hX hbl hS (k := i + 4) (by omega) hL dL_law_132 ?_
  refine lv_i2l (v := Int32.toInt64 (xs (i + 4))) hx hb dL_law_133 rfl ?_
  refine lv_ldc2 (v := 4294967295) hx hb hown (hts (.constantLong RL 53 (4294967295)) (by decide +kernel)) dL_law_134 ?_
  refine lv_land hx hb dL_law_137 ?_
  refine lv_lor hx hb dL_law_138 ?_
  refine tg_vl (y := tl_L (xs (i + 3)) (xs (i + 4))) rfl ?_
  refine lv_aload_n hx hb dL_law_139 rfl (lv_at hl 0 rfl) ?_
  refine lv_iload hx hb dL_law_140 (lv_at hl 4 rfl) ?_
  refine lv_iconst (v := nI (5)) hx hb dL_law_142 (by decide) ?_
  refine lv_iadd hx hb dL_law_143 ?_
  refine tg_vi (nI_add _ _) ?_
  refine tl_sld hx hb hX hbl hS (k := i + 5) (by omega) hL dL_law_144 ?_
  refine lv_i2l (v := Int32.toInt64 (xs (i + 5))) hx hb dL_law_145 rfl ?_
  refine lv_bipush (v := nI (32)) hx hb dL_law_146 (by decide) ?_
  refine lv_lshl (v := tg_ll (Int32.toInt64 (xs (i + 5))) (nI (32))) hx hb dL_law_148 rfl ?_
  refine lv_aload_n hx hb dL_law_149 rfl (lv_at hl 0 rfl) ?_
  refine lv_iload hx hb dL_law_150 (lv_at hl 4 rfl) ?_
  refine lv_bipush (v := nI (6)) hx hb dL_law_152 (by decide) ?_
  refine lv_iadd hx hb dL_law_154 ?_
  refine tg_vi (nI_add _ _) ?_
  refine tl_sld hx hb hX hbl hS (k := i + 6) (by omega) hL dL_law_155 ?_
  refine lv_i2l (v := Int32.toInt64 (xs (i + 6))) hx hb dL_law_156 rfl ?_
  refine lv_ldc2 (v := 4294967295) hx hb hown (hts (.constantLong RL 53 (4294967295)) (by decide +kernel)) dL_law_157 ?_
  refine lv_land hx hb dL_law_160 ?_
  refine lv_lor hx hb dL_law_161 ?_
  refine tg_vl (y := tl_L (xs (i + 5)) (xs (i + 6))) rfl ?_
  refine lv_aload_n hx hb dL_law_162 rfl (lv_at hl 0 rfl) ?_
  refine lv_iload hx hb dL_law_163 (lv_at hl 4 rfl) ?_
  refine lv_bipush (v := nI (7)) hx hb dL_law_165 (by decide) ?_
  refine lv_iadd hx hb dL_law_167 ?_
  refine tg_vi (nI_add _ _) ?_
  refine tl_sld hx hb hX hbl hS (k := i + 7) (by omega) hL dL_law_168 ?_
  refine lv_aload_n hx hb dL_law_169 rfl (lv_at hl 3 rfl) ?_
  refine tl_SF (As := [.ref t0, .int (xs (i + 1)), .int (xs (i + 2)), .long (tl_L (xs (i + 3)) (xs (i + 4))), .long (tl_L (xs (i + 5)) (xs (i + 6))), .int (xs (i + 7)), .ref o0]) (rest := []) (wc := A) (wr := M) (w1 := A2) ⟨hx, hb, hml, hown, hts⟩ hC (vx_cwSW 7 hts gL_law_L_put rfl hrc.1 hrc.2.1 (by decide +kernel) ⟨hrc.2.2.1, hrc.2.2.2⟩) hK hN hP hD hS hA hZ hNc rfl hl.1 rfl (Nat.le_of_ble_eq_true rfl) dL_law_170 ⟨by show _ ≤ 601024; omega, by show _ ≤ 7293033; omega⟩ (fun H locs hP hD hS => ?_)
  refine lv_istore (lv' := [(5, .int (nI (kc))), (0, .ref b), (1, .ref t0), (2, .ref m0), (3, .ref o0), (4, .int (nI (i)))]) hx hb dL_law_173 hl (by decide) rfl (fun ls hl => ?_)
  refine lv_aload_n hx hb dL_law_175 rfl (lv_at hl 3 rfl) ?_
  refine lv_aload_n hx hb dL_law_176 rfl (lv_at hl 1 rfl) ?_
  refine lv_iload hx hb dL_law_177 (lv_at hl 5 rfl) ?_
  refine lv_iconst (v := nI (1)) hx hb dL_law_179 (by decide) ?_
  refine lv_iadd hx hb dL_law_180 ?_
  refine tg_vi (nI_add _ _) ?_
  refine tl_sld hx hb hX hbl hS (k := i + 1) (by omega) hL dL_law_181 ?_
  refine lv_aload_n hx hb dL_law_182 rfl (lv_at hl 1 rfl) ?_
  refine lv_iload hx hb dL_law_183 (lv_at hl 5 rfl) ?_
  refine lv_iconst (v := nI (2)) hx hb dL_law_185 (by decide) ?_
  refine lv_iadd hx hb dL_law_186 ?_
  refine tg_vi (nI_add _ _) ?_
  refine tl_sld hx hb hX hbl hS (k := i + 2) (by omega) hL dL_law_187 ?_
  refine lv_aload_n hx hb dL_law_188 rfl (lv_at hl 1 rfl) ?_
  refine lv_iload hx hb dL_law_189 (lv_at hl 5 rfl) ?_
  refine lv_iconst (v := nI (3)) hx hb dL_law_191 (by decide) ?_
  refine lv_iadd hx hb dL_law_192 ?_
  refine tg_vi (nI_add _ _) ?_
  refine tl_sld hx hb hX hbl hS (k := i + 3) (by omega) hL dL_law_193 ?_
  refine lv_i2l (v := Int32.toInt64 (xs (i + 3))) hx hb dL_law_194 rfl ?_
  refine lv_bipush (v := nI (32)) hx hb dL_law_195 (by decide) ?_
  refine lv_lshl (v := tg_ll (Int32.toInt64 (xs (i + 3))) (nI (32))) hx hb dL_law_197 rfl ?_
  refine lv_aload_n hx hb dL_law_198 rfl (lv_at hl 1 rfl) ?_
  refine lv_iload hx hb dL_law_199 (lv_at hl 5 rfl) ?_
  refine lv_iconst (v := nI (4)) hx hb dL_law_201 (by decide) ?_
  refine lv_iadd hx hb dL_law_202 ?_
  refine tg_vi (nI_add _ _) ?_
  refine tl_sld hx hb hX hbl hS (k := i + 4) (by omega) hL dL_law_203 ?_
  refine lv_i2l (v := Int32.toInt64 (xs (i + 4))) hx hb dL_law_204 rfl ?_
  refine lv_ldc2 (v := 4294967295) hx hb hown (hts (.constantLong RL 53 (4294967295)) (by decide +kernel)) dL_law_205 ?_
  refine lv_land hx hb dL_law_208 ?_
  refine lv_lor hx hb dL_law_209 ?_
  refine tg_vl (y := tl_L (xs (i + 3)) (xs (i + 4))) rfl ?_
  refine lv_aload_n hx hb dL_law_210 rfl (lv_at hl 1 rfl) ?_
  refine lv_iload hx hb dL_law_211 (lv_at hl 5 rfl) ?_
  refine lv_iconst (v := nI (5)) hx hb dL_law_213 (by decide) ?_
  refine lv_iadd hx hb dL_law_214 ?_
  refine tg_vi (nI_add _ _) ?_
  refine tl_sld hx hb hX hbl hS (k := i + 5) (by omega) hL dL_law_215 ?_
  refine lv_i2l (v := Int32.toInt64 (xs (i + 5))) hx hb dL_law_216 rfl ?_
  refine lv_bipush (v := nI (32)) hx hb dL_law_217 (by decide) ?_
  refine lv_lshl (v := tg_ll (Int32.toInt64 (xs (i + 5))) (nI (32))) hx hb dL_law_219 rfl ?_
  refine lv_aload_n hx hb dL_law_220 rfl (lv_at hl 1 rfl) ?_
  refine lv_iload hx hb dL_law_221 (lv_at hl 5 rfl) ?_
  refine lv_bipush (v := nI (6)) hx hb dL_law_223 (by decide) ?_
  refine lv_iadd hx hb dL_law_225 ?_
  refine tg_vi (nI_add _ _) ?_
  refine tl_sld hx hb hX hbl hS (k := i + 6) (by omega) hL dL_law_226 ?_
  refine lv_i2l (v := Int32.toInt64 (xs (i + 6))) hx hb dL_law_227 rfl ?_
  refine lv_ldc2 (v := 4294967295) hx hb hown (hts (.constantLong RL 53 (4294967295)) (by decide +kernel)) dL_law_228 ?_
  refine lv_land hx hb dL_law_231 ?_
  refine lv_lor hx hb dL_law_232 ?_
  refine tg_vl (y := tl_L (xs (i + 5)) (xs (i + 6))) rfl ?_
  refine lv_aload_n hx hb dL_law_233 rfl (lv_at hl 1 rfl) ?_
  refine lv_iload hx hb dL_law_234 (lv_at hl 5 rfl) ?_
  refine lv_bipush (v := nI (7)) hx hb dL_law_236 (by decide) ?_
  refine lv_iadd hx hb dL_law_238 ?_
  refine tg_vi (nI_add _ _) ?_
  refine tl_sld hx hb hX hbl hS (k := i + 7) (by omega) hL dL_law_239 ?_
  refine tl_ViF (As := [.int (xs (i + 1)), .int (xs (i + 2)), .long (tl_L (xs (i + 3)) (xs (i + 4))), .long (tl_L (xs (i + 5)) (xs (i + 6))), .int (xs (i + 7))]) (rest := []) (wc := M) (wr := A2) (w1 := M2) ⟨hx, hb, hml, hown, hts⟩ hM (cwV 5 hts gL_law_X3_put rfl hrr.1 hrr.2.1 (by decide +kernel) ⟨hrr.2.2.1, hrr.2.2.2⟩) hK hN hP hD hS hA 3 rfl hM0 rfl rfl hl.1 rfl (Nat.le_of_ble_eq_true rfl) dL_law_240 ⟨by show _ ≤ 601024; omega, by show _ ≤ 7293033; omega⟩ (fun H locs hP hD hS => ?_)
  refine lv_istore (lv' := [(6, .int (tg_b bb)), (5, .int (nI (kc))), (0, .ref b), (1, .ref t0), (2, .ref m0), (3, .ref o0), (4, .int (nI (i)))]) hx hb dL_law_243 hl (by decide) rfl (fun ls hl => ?_)
  refine lv_aload_n hx hb dL_law_245 rfl (lv_at hl 4 rfl) ?_
  refine tl_ViL (As := []) (rest := []) (wc := M2) (wr := A2) (w1 := M2) ⟨hx, hb, hml, hown, hts⟩ hT (cwV 0 hts gL_law_X3_thrown rfl rfl rfl (by decide +kernel) ⟨Nat.le_of_ble_eq_true rfl, Nat.le_of_ble_eq_true rfl⟩) hK hN hP hD hS hA 3 rfl hM2 rfl rfl hl.1 rfl (Nat.le_of_ble_eq_true rfl) dL_law_246 ⟨by show _ ≤ 601024; omega, by show _ ≤ 7293033; omega⟩ (fun H locs hP hD hS => ?_)
  refine lv_iload hx hb dL_law_249 (lv_at hl 1 rfl) ?_
  refine tl_eq hx hb (hcd) (tgt := 256) dL_law_251 (by decide) ?_
  refine lv_iload hx hb dL_law_256 (lv_at hl 1 rfl) ?_
  refine tg_if_ne (tgt := 280) hx hb dL_law_258 (by decide) (by omega) (fun c258 => ?_) (fun c258 => ?_)
  · skip
    refine lv_goto (tgt := 900) hx hb dL_law_280 (by decide) ?_
    refine lv_iinc (v := nI (i + 8)) (lv' := [(4, .int (nI (i + 8))), (6, .int (tg_b bb)), (5, .int (nI (kc))), (0, .ref b), (1, .ref t0), (2, .ref m0), (3, .ref o0)]) hx hb dL_law_900 hl (k := 6) rfl (tg_inc _ _) (by decide) rfl (fun ls hl => ?_)
    refine lv_goto (tgt := 23) hx hb dL_law_903 (by decide) ?_
    exact hnext _ _ _ hP hD hS (lv_sub hl [3, 4, 5, 6, 0] rfl)
  · skip
    refine lv_aload_n hx hb dL_law_261 rfl (lv_at hl 5 rfl) ?_
    refine lv_iconst (v := nI (0)) hx hb dL_law_262 (by decide) ?_
    refine tg_lald hx hb hK hP 31 (tl_apl hO2) (f := ov2) (k := 0) (by omega) (by decide) dL_law_263 ?_
    refine lv_iload hx hb dL_law_264 (lv_at hl 0 rfl) ?_
    refine tg_if_eqb (tgt := 273) hx hb dL_law_266 (by decide) (fun c266 => ?_) (fun c266 => ?_)
    · skip
      refine lv_lconst (v := 0) hx hb dL_law_273 (by decide) ?_
      refine W.lcmp hx hb dL_law_274 ?_
      refine tg_leq (tgt := 280) hx hb dL_law_275 (by decide) (fun _ => ?_) (fun c275 => absurd ((hval c258).trans (tg_bl_f c266).symm) c275)
      refine lv_goto (tgt := 900) hx hb dL_law_280 (by decide) ?_
      refine lv_iinc (v := nI (i + 8)) (lv' := [(4, .int (nI (i + 8))), (6, .int (tg_b bb)), (5, .int (nI (kc))), (0, .ref b), (1, .ref t0), (2, .ref m0), (3, .ref o0)]) hx hb dL_law_900 hl (k := 6) rfl (tg_inc _ _) (by decide) rfl (fun ls hl => ?_)
      refine lv_goto (tgt := 23) hx hb dL_law_903 (by decide) ?_
      exact hnext _ _ _ hP hD hS (lv_sub hl [3, 4, 5, 6, 0] rfl)
    · skip
      refine lv_lconst (v := 1) hx hb dL_law_269 (by decide) ?_
      refine lv_goto (tgt := 274) hx hb dL_law_270 (by decide) ?_
      refine W.lcmp hx hb dL_law_274 ?_
      refine tg_leq (tgt := 280) hx hb dL_law_275 (by decide) (fun _ => ?_) (fun c275 => absurd ((hval c258).trans (tg_bl_t c266).symm) c275)
      refine lv_goto (tgt := 900) hx hb dL_law_280 (by decide) ?_
      refine lv_iinc (v := nI (i + 8)) (lv' := [(4, .int (nI (i + 8))), (6, .int (tg_b bb)), (5, .int (nI (kc))), (0, .ref b), (1, .ref t0), (2, .ref m0), (3, .ref o0)]) hx hb dL_law_900 hl (k := 6) rfl (tg_inc _ _) (by decide) rfl (fun ls hl => ?_)
      refine lv_goto (tgt := 23) hx hb dL_law_903 (by decide) ?_
      exact hnext _ _ _ hP hD hS (lv_sub hl [3, 4, 5, 6, 0] rfl)
set_option maxHeartbeats 4000000 in
set_option maxRecDepth 100000 in
theorem lc_get (l : Launch) {pp : Program} {ee : Env} {ss : State} {mm : MethodId} {below : List Frame} {meth : Method} {cc : Code} {b L : Nat} {xs : Nat → Int32} {D : va_G} {ty : Nat → ClassId} (C0 : tl_At pp ss mm cc b L xs D ty) {QQ : State → Prop} {H : Heap} {locs : List Loc} {ls : Array Slot} {cells slots : Nat} {t0 m0 o0 : Nat} {A A2 M M2 : va_W} {fsM : List Value} {fsN : List Value} {ov2 : Nat → Int64} {cd : Int32} (br : Int32) (i : Nat) (hi : i + 8 ≤ L) (hL : L ≤ 4096) (rc rr : Room) (hrc : tl_rw rc 6) (hrr : tl_rr rr 5) (kc : Nat) (hcd : cd = nI kc) (hk2 : kc ≤ 2) (hval : kc = 0 → ov2 0 = Int32.toInt64 br) (hC : tw_Mi l yL_get wsL_get rc D ty [.ref t0, .int (xs (i + 1)), .int (xs (i + 2)), .int (xs (i + 3)), .ref o0] A A2 (nI (kc))) (hM : tg_Mi l yX3_get wsX3_get rr D ty [.ref m0, .int (xs (i + 1)), .int (xs (i + 2)), .int (xs (i + 3))] M M2 (br) 0 0) (hM0 : M[0]? = some (m0, .inr (3, fsM))) (hM2 : M2[0]? = some (m0, .inr (3, fsN))) (hO2 : A2[31]? = some (o0, .inl (ty 1, 1, .inr (.inl ov2)))) (hT : tg_Mi l yX3_thrown wsX3_thrown rmk_X3_thrown D ty [.ref m0] M2 M2 (cd) 0 0)
    (hP : va_P D vwCl (A ++ M) H) (hD : va_D (fun q => ss.heap.size ≤ q) (A ++ M)) (hS : va_S (fun q => ss.heap.size ≤ q) ss.heap H locs) (hl : lv_has ls 8 [(0, .ref b), (1, .ref t0), (2, .ref m0), (3, .ref o0), (4, .int (nI i))]) (hc1 : cells + 1 ≤ 601024) (hc2 : slots + 6 ≤ 7293033)
    (hnext : ∀ (H : Heap) (locs : List Loc) (ls : Array Slot), va_P D vwCl (A2 ++ M2) H → va_D (fun q => ss.heap.size ≤ q) (A2 ++ M2) → va_S (fun q => ss.heap.size ≤ q) ss.heap H locs → lv_has ls 8 [(0, .ref b), (1, .ref t0), (2, .ref m0), (3, .ref o0), (4, .int (nI (i + 8)))] → W pp l ee room_1 ss mm #[Value.ref b] below meth cc H locs (cells + 1) (slots + 6) QQ (F0 mm 23 ls [])) : W pp l ee room_1 ss mm #[Value.ref b] below meth cc H locs cells slots QQ (F0 mm 283 ls []) := by
  obtain ⟨hx, hb, hml, hown, hts, hX, hbl, hK, hN, hZ, hNc⟩ := C0
  have hA : ∀ q : Nat, ss.heap.size ≤ q → (fun q : Nat => ss.heap.size ≤ q) q := fun _ h => h
  refine lv_aload_n hx hb dL_law_283 rfl (lv_at hl 1 rfl) ?_
  refine lv_aload_n hx hb dL_law_284 rfl (lv_at hl 0 rfl) ?_
  refine lv_iload hx hb dL_law_285 (lv_at hl 4 rfl) ?_
  refine lv_iconst (v := nI (1)) hx hb dL_law_287 (by decide) ?_
  refine lv_iadd hx hb dL_law_288 ?_
  refine tg_vi (nI_add _ _) ?_
  refine tl_sld hx hb hX hbl hS (k := i + 1) (by omega) hL dL_law_289 ?_
  refine lv_aload_n hx hb dL_law_290 rfl (lv_at hl 0 rfl) ?_
  refine lv_iload hx hb dL_law_291 (lv_at hl 4 rfl) ?_
  refine lv_iconst (v := nI (2)) hx hb dL_law_293 (by decide) ?_
  refine lv_iadd hx hb dL_law_294 ?_
  refine tg_vi (nI_add _ _) ?_
  refine tl_sld hx hb hX hbl hS (k := i + 2) (by omega) hL dL_law_295 ?_
  refine lv_aload_n hx hb dL_law_296 rfl (lv_at hl 0 rfl) ?_
  refine lv_iload hx hb dL_law_297 (lv_at hl 4 rfl) ?_
  refine lv_iconst (v := nI (3)) hx hb dL_law_299 (by decide) ?_
  refine lv_iadd hx hb dL_law_300 ?_
  refine tg_vi (nI_add _ _) ?_
  refine tl_sld hx hb hX hbl hS (k := i + 3) (by omega) hL dL_law_301 ?_
  refine lv_aload_n hx hb dL_law_302 rfl (lv_at hl 3 rfl) ?_
  refine tl_SF (As := [.ref t0, .int (xs (i + 1)), .int (xs (i + 2)), .int (xs (i + 3)), .ref o0]) (rest := []) (wc := A) (wr := M) (w1 := A2) ⟨hx, hb, hml, hown, hts⟩ hC (vx_cwSW 5 hts gL_law_L_get rfl hrc.1 hrc.2.1 (by decide +kernel) ⟨hrc.2.2.1, hrc.2.2.2⟩) hK hN hP hD hS hA hZ hNc rfl hl.1 rfl (Nat.le_of_ble_eq_true rfl) dL_law_303 ⟨by show _ ≤ 601024; omega, by show _ ≤ 7293033; omega⟩ (fun H locs hP hD hS => ?_)
  refine lv_istore (lv' := [(5, .int (nI (kc))), (0, .ref b), (1, .ref t0), (2, .ref m0), (3, .ref o0), (4, .int (nI (i)))]) hx hb dL_law_306 hl (by decide) rfl (fun ls hl => ?_)
  refine lv_aload_n hx hb dL_law_308 rfl (lv_at hl 3 rfl) ?_
  refine lv_aload_n hx hb dL_law_309 rfl (lv_at hl 1 rfl) ?_
  refine lv_iload hx hb dL_law_310 (lv_at hl 5 rfl) ?_
  refine lv_iconst (v := nI (1)) hx hb dL_law_312 (by decide) ?_
  refine lv_iadd hx hb dL_law_313 ?_
  refine tg_vi (nI_add _ _) ?_
  refine tl_sld hx hb hX hbl hS (k := i + 1) (by omega) hL dL_law_314 ?_
  refine lv_aload_n hx hb dL_law_315 rfl (lv_at hl 1 rfl) ?_
  refine lv_iload hx hb dL_law_316 (lv_at hl 5 rfl) ?_
  refine lv_iconst (v := nI (2)) hx hb dL_law_318 (by decide) ?_
  refine lv_iadd hx hb dL_law_319 ?_
  refine tg_vi (nI_add _ _) ?_
  refine tl_sld hx hb hX hbl hS (k := i + 2) (by omega) hL dL_law_320 ?_
  refine lv_aload_n hx hb dL_law_321 rfl (lv_at hl 1 rfl) ?_
  refine lv_iload hx hb dL_law_322 (lv_at hl 5 rfl) ?_
  refine lv_iconst (v := nI (3)) hx hb dL_law_324 (by decide) ?_
  refine lv_iadd hx hb dL_law_325 ?_
  refine tg_vi (nI_add _ _) ?_
  refine tl_sld hx hb hX hbl hS (k := i + 3) (by omega) hL dL_law_326 ?_
  refine tl_ViF (As := [.int (xs (i + 1)), .int (xs (i + 2)), .int (xs (i + 3))]) (rest := []) (wc := M) (wr := A2) (w1 := M2) ⟨hx, hb, hml, hown, hts⟩ hM (cwV 3 hts gL_law_X3_get rfl hrr.1 hrr.2.1 (by decide +kernel) ⟨hrr.2.2.1, hrr.2.2.2⟩) hK hN hP hD hS hA 3 rfl hM0 rfl rfl hl.1 rfl (Nat.le_of_ble_eq_true rfl) dL_law_327 ⟨by show _ ≤ 601024; omega, by show _ ≤ 7293033; omega⟩ (fun H locs hP hD hS => ?_)
  refine lv_istore (lv' := [(6, .int (br)), (5, .int (nI (kc))), (0, .ref b), (1, .ref t0), (2, .ref m0), (3, .ref o0), (4, .int (nI (i)))]) hx hb dL_law_330 hl (by decide) rfl (fun ls hl => ?_)
  refine lv_aload_n hx hb dL_law_332 rfl (lv_at hl 4 rfl) ?_
  refine tl_ViL (As := []) (rest := []) (wc := M2) (wr := A2) (w1 := M2) ⟨hx, hb, hml, hown, hts⟩ hT (cwV 0 hts gL_law_X3_thrown rfl rfl rfl (by decide +kernel) ⟨Nat.le_of_ble_eq_true rfl, Nat.le_of_ble_eq_true rfl⟩) hK hN hP hD hS hA 3 rfl hM2 rfl rfl hl.1 rfl (Nat.le_of_ble_eq_true rfl) dL_law_333 ⟨by show _ ≤ 601024; omega, by show _ ≤ 7293033; omega⟩ (fun H locs hP hD hS => ?_)
  refine lv_iload hx hb dL_law_336 (lv_at hl 1 rfl) ?_
  refine tl_eq hx hb (hcd) (tgt := 343) dL_law_338 (by decide) ?_
  refine lv_iload hx hb dL_law_343 (lv_at hl 1 rfl) ?_
  refine tg_if_ne (tgt := 360) hx hb dL_law_345 (by decide) (by omega) (fun c345 => ?_) (fun c345 => ?_)
  · skip
    refine lv_goto (tgt := 900) hx hb dL_law_360 (by decide) ?_
    refine lv_iinc (v := nI (i + 8)) (lv' := [(4, .int (nI (i + 8))), (6, .int (br)), (5, .int (nI (kc))), (0, .ref b), (1, .ref t0), (2, .ref m0), (3, .ref o0)]) hx hb dL_law_900 hl (k := 6) rfl (tg_inc _ _) (by decide) rfl (fun ls hl => ?_)
    refine lv_goto (tgt := 23) hx hb dL_law_903 (by decide) ?_
    exact hnext _ _ _ hP hD hS (lv_sub hl [3, 4, 5, 6, 0] rfl)
  · skip
    refine lv_aload_n hx hb dL_law_348 rfl (lv_at hl 5 rfl) ?_
    refine lv_iconst (v := nI (0)) hx hb dL_law_349 (by decide) ?_
    refine tg_lald hx hb hK hP 31 (tl_apl hO2) (f := ov2) (k := 0) (by omega) (by decide) dL_law_350 ?_
    refine lv_iload hx hb dL_law_351 (lv_at hl 0 rfl) ?_
    refine lv_i2l (v := Int32.toInt64 br) hx hb dL_law_353 rfl ?_
    refine W.lcmp hx hb dL_law_354 ?_
    refine tg_leq (tgt := 360) hx hb dL_law_355 (by decide) (fun _ => ?_) (fun c355 => absurd (hval c345) c355)
    refine lv_goto (tgt := 900) hx hb dL_law_360 (by decide) ?_
    refine lv_iinc (v := nI (i + 8)) (lv' := [(4, .int (nI (i + 8))), (6, .int (br)), (5, .int (nI (kc))), (0, .ref b), (1, .ref t0), (2, .ref m0), (3, .ref o0)]) hx hb dL_law_900 hl (k := 6) rfl (tg_inc _ _) (by decide) rfl (fun ls hl => ?_)
    refine lv_goto (tgt := 23) hx hb dL_law_903 (by decide) ?_
    exact hnext _ _ _ hP hD hS (lv_sub hl [3, 4, 5, 6, 0] rfl)
set_option maxHeartbeats 4000000 in
set_option maxRecDepth 100000 in
theorem lc_stamp (l : Launch) {pp : Program} {ee : Env} {ss : State} {mm : MethodId} {below : List Frame} {meth : Method} {cc : Code} {b L : Nat} {xs : Nat → Int32} {D : va_G} {ty : Nat → ClassId} (C0 : tl_At pp ss mm cc b L xs D ty) {QQ : State → Prop} {H : Heap} {locs : List Loc} {ls : Array Slot} {cells slots : Nat} {t0 m0 o0 : Nat} {A A2 M M2 : va_W} {fsM : List Value} {fsN : List Value} {ov2 : Nat → Int64} {cd : Int32} (br : Int64) (i : Nat) (hi : i + 8 ≤ L) (hL : L ≤ 4096) (rc rr : Room) (hrc : tl_rw rc 5) (hrr : tl_rr rr 3) (kc : Nat) (hcd : cd = nI kc) (hk2 : kc ≤ 2) (hval : kc = 0 → ov2 0 = br) (hC : tw_Mi l yL_stamp wsL_stamp rc D ty [.ref t0, .int (xs (i + 1)), .int (xs (i + 2)), .ref o0] A A2 (nI (kc))) (hM : tg_Ml l yX3_stamp wsX3_stamp rr D ty [.ref m0, .int (xs (i + 1)), .int (xs (i + 2))] M M2 (br) 0 0) (hM0 : M[0]? = some (m0, .inr (3, fsM))) (hM2 : M2[0]? = some (m0, .inr (3, fsN))) (hO2 : A2[31]? = some (o0, .inl (ty 1, 1, .inr (.inl ov2)))) (hT : tg_Mi l yX3_thrown wsX3_thrown rmk_X3_thrown D ty [.ref m0] M2 M2 (cd) 0 0)
    (hP : va_P D vwCl (A ++ M) H) (hD : va_D (fun q => ss.heap.size ≤ q) (A ++ M)) (hS : va_S (fun q => ss.heap.size ≤ q) ss.heap H locs) (hl : lv_has ls 8 [(0, .ref b), (1, .ref t0), (2, .ref m0), (3, .ref o0), (4, .int (nI i))]) (hc1 : cells + 1 ≤ 601024) (hc2 : slots + 6 ≤ 7293033)
    (hnext : ∀ (H : Heap) (locs : List Loc) (ls : Array Slot), va_P D vwCl (A2 ++ M2) H → va_D (fun q => ss.heap.size ≤ q) (A2 ++ M2) → va_S (fun q => ss.heap.size ≤ q) ss.heap H locs → lv_has ls 8 [(0, .ref b), (1, .ref t0), (2, .ref m0), (3, .ref o0), (4, .int (nI (i + 8)))] → W pp l ee room_1 ss mm #[Value.ref b] below meth cc H locs (cells + 1) (slots + 6) QQ (F0 mm 23 ls [])) : W pp l ee room_1 ss mm #[Value.ref b] below meth cc H locs cells slots QQ (F0 mm 363 ls []) := by
  obtain ⟨hx, hb, hml, hown, hts, hX, hbl, hK, hN, hZ, hNc⟩ := C0
  have hA : ∀ q : Nat, ss.heap.size ≤ q → (fun q : Nat => ss.heap.size ≤ q) q := fun _ h => h
  refine lv_aload_n hx hb dL_law_363 rfl (lv_at hl 1 rfl) ?_
  refine lv_aload_n hx hb dL_law_364 rfl (lv_at hl 0 rfl) ?_
  refine lv_iload hx hb dL_law_365 (lv_at hl 4 rfl) ?_
  refine lv_iconst (v := nI (1)) hx hb dL_law_367 (by decide) ?_
  refine lv_iadd hx hb dL_law_368 ?_
  refine tg_vi (nI_add _ _) ?_
  refine tl_sld hx hb hX hbl hS (k := i + 1) (by omega) hL dL_law_369 ?_
  refine lv_aload_n hx hb dL_law_370 rfl (lv_at hl 0 rfl) ?_
  refine lv_iload hx hb dL_law_371 (lv_at hl 4 rfl) ?_
  refine lv_iconst (v := nI (2)) hx hb dL_law_373 (by decide) ?_
  refine lv_iadd hx hb dL_law_374 ?_
  refine tg_vi (nI_add _ _) ?_
  refine tl_sld hx hb hX hbl hS (k := i + 2) (by omega) hL dL_law_375 ?_
  refine lv_aload_n hx hb dL_law_376 rfl (lv_at hl 3 rfl) ?_
  refine tl_SF (As := [.ref t0, .int (xs (i + 1)), .int (xs (i + 2)), .ref o0]) (rest := []) (wc := A) (wr := M) (w1 := A2) ⟨hx, hb, hml, hown, hts⟩ hC (vx_cwSW 4 hts gL_law_L_stamp rfl hrc.1 hrc.2.1 (by decide +kernel) ⟨hrc.2.2.1, hrc.2.2.2⟩) hK hN hP hD hS hA hZ hNc rfl hl.1 rfl (Nat.le_of_ble_eq_true rfl) dL_law_377 ⟨by show _ ≤ 601024; omega, by show _ ≤ 7293033; omega⟩ (fun H locs hP hD hS => ?_)
  refine lv_istore (lv' := [(5, .int (nI (kc))), (0, .ref b), (1, .ref t0), (2, .ref m0), (3, .ref o0), (4, .int (nI (i)))]) hx hb dL_law_380 hl (by decide) rfl (fun ls hl => ?_)
  refine lv_aload_n hx hb dL_law_382 rfl (lv_at hl 3 rfl) ?_
  refine lv_aload_n hx hb dL_law_383 rfl (lv_at hl 1 rfl) ?_
  refine lv_iload hx hb dL_law_384 (lv_at hl 5 rfl) ?_
  refine lv_iconst (v := nI (1)) hx hb dL_law_386 (by decide) ?_
  refine lv_iadd hx hb dL_law_387 ?_
  refine tg_vi (nI_add _ _) ?_
  refine tl_sld hx hb hX hbl hS (k := i + 1) (by omega) hL dL_law_388 ?_
  refine lv_aload_n hx hb dL_law_389 rfl (lv_at hl 1 rfl) ?_
  refine lv_iload hx hb dL_law_390 (lv_at hl 5 rfl) ?_
  refine lv_iconst (v := nI (2)) hx hb dL_law_392 (by decide) ?_
  refine lv_iadd hx hb dL_law_393 ?_
  refine tg_vi (nI_add _ _) ?_
  refine tl_sld hx hb hX hbl hS (k := i + 2) (by omega) hL dL_law_394 ?_
  refine tl_VlF (As := [.int (xs (i + 1)), .int (xs (i + 2))]) (rest := []) (wc := M) (wr := A2) (w1 := M2) ⟨hx, hb, hml, hown, hts⟩ hM (cwV 2 hts gL_law_X3_stamp rfl hrr.1 hrr.2.1 (by decide +kernel) ⟨hrr.2.2.1, hrr.2.2.2⟩) hK hN hP hD hS hA 3 rfl hM0 rfl rfl hl.1 rfl (Nat.le_of_ble_eq_true rfl) dL_law_395 ⟨by show _ ≤ 601024; omega, by show _ ≤ 7293033; omega⟩ (fun H locs hP hD hS => ?_)
  refine lv_lstore (lv' := [(6, .long (br)), (5, .int (nI (kc))), (0, .ref b), (1, .ref t0), (2, .ref m0), (3, .ref o0), (4, .int (nI (i)))]) hx hb dL_law_398 hl (by decide) rfl (fun ls hl => ?_)
  refine lv_aload_n hx hb dL_law_400 rfl (lv_at hl 4 rfl) ?_
  refine tl_ViL (As := []) (rest := []) (wc := M2) (wr := A2) (w1 := M2) ⟨hx, hb, hml, hown, hts⟩ hT (cwV 0 hts gL_law_X3_thrown rfl rfl rfl (by decide +kernel) ⟨Nat.le_of_ble_eq_true rfl, Nat.le_of_ble_eq_true rfl⟩) hK hN hP hD hS hA 3 rfl hM2 rfl rfl hl.1 rfl (Nat.le_of_ble_eq_true rfl) dL_law_401 ⟨by show _ ≤ 601024; omega, by show _ ≤ 7293033; omega⟩ (fun H locs hP hD hS => ?_)
  refine lv_iload hx hb dL_law_404 (lv_at hl 1 rfl) ?_
  refine tl_eq hx hb (hcd) (tgt := 411) dL_law_406 (by decide) ?_
  refine lv_iload hx hb dL_law_411 (lv_at hl 1 rfl) ?_
  refine tg_if_ne (tgt := 427) hx hb dL_law_413 (by decide) (by omega) (fun c413 => ?_) (fun c413 => ?_)
  · skip
    refine lv_goto (tgt := 900) hx hb dL_law_427 (by decide) ?_
    refine lv_iinc (v := nI (i + 8)) (lv' := [(4, .int (nI (i + 8))), (6, .long (br)), (5, .int (nI (kc))), (0, .ref b), (1, .ref t0), (2, .ref m0), (3, .ref o0)]) hx hb dL_law_900 hl (k := 6) rfl (tg_inc _ _) (by decide) rfl (fun ls hl => ?_)
    refine lv_goto (tgt := 23) hx hb dL_law_903 (by decide) ?_
    exact hnext _ _ _ hP hD hS (lv_sub hl [3, 4, 5, 6, 0] rfl)
  · skip
    refine lv_aload_n hx hb dL_law_416 rfl (lv_at hl 5 rfl) ?_
    refine lv_iconst (v := nI (0)) hx hb dL_law_417 (by decide) ?_
    refine tg_lald hx hb hK hP 31 (tl_apl hO2) (f := ov2) (k := 0) (by omega) (by decide) dL_law_418 ?_
    refine lv_lload hx hb dL_law_419 (lv_at hl 0 rfl) ?_
    refine W.lcmp hx hb dL_law_421 ?_
    refine tg_leq (tgt := 427) hx hb dL_law_422 (by decide) (fun _ => ?_) (fun c422 => absurd (hval c413) c422)
    refine lv_goto (tgt := 900) hx hb dL_law_427 (by decide) ?_
    refine lv_iinc (v := nI (i + 8)) (lv' := [(4, .int (nI (i + 8))), (6, .long (br)), (5, .int (nI (kc))), (0, .ref b), (1, .ref t0), (2, .ref m0), (3, .ref o0)]) hx hb dL_law_900 hl (k := 6) rfl (tg_inc _ _) (by decide) rfl (fun ls hl => ?_)
    refine lv_goto (tgt := 23) hx hb dL_law_903 (by decide) ?_
    exact hnext _ _ _ hP hD hS (lv_sub hl [3, 4, 5, 6, 0] rfl)
set_option maxHeartbeats 4000000 in
set_option maxRecDepth 100000 in
theorem lc_hash (l : Launch) {pp : Program} {ee : Env} {ss : State} {mm : MethodId} {below : List Frame} {meth : Method} {cc : Code} {b L : Nat} {xs : Nat → Int32} {D : va_G} {ty : Nat → ClassId} (C0 : tl_At pp ss mm cc b L xs D ty) {QQ : State → Prop} {H : Heap} {locs : List Loc} {ls : Array Slot} {cells slots : Nat} {t0 m0 o0 : Nat} {A A2 M M2 : va_W} {fsM : List Value} {fsN : List Value} {ov2 : Nat → Int64} {cd : Int32} (br : Int64) (i : Nat) (hi : i + 8 ≤ L) (hL : L ≤ 4096) (rc rr : Room) (hrc : tl_rw rc 6) (hrr : tl_rr rr 4) (kc : Nat) (hcd : cd = nI kc) (hk2 : kc ≤ 2) (hval : kc = 0 → ov2 0 = br) (hC : tw_Mi l yL_hash wsL_hash rc D ty [.ref t0, .int (xs (i + 1)), .int (xs (i + 2)), .int (xs (i + 3)), .ref o0] A A2 (nI (kc))) (hM : tg_Ml l yX3_hash wsX3_hash rr D ty [.ref m0, .int (xs (i + 1)), .int (xs (i + 2)), .int (xs (i + 3))] M M2 (br) 0 0) (hM0 : M[0]? = some (m0, .inr (3, fsM))) (hM2 : M2[0]? = some (m0, .inr (3, fsN))) (hO2 : A2[31]? = some (o0, .inl (ty 1, 1, .inr (.inl ov2)))) (hT : tg_Mi l yX3_thrown wsX3_thrown rmk_X3_thrown D ty [.ref m0] M2 M2 (cd) 0 0)
    (hP : va_P D vwCl (A ++ M) H) (hD : va_D (fun q => ss.heap.size ≤ q) (A ++ M)) (hS : va_S (fun q => ss.heap.size ≤ q) ss.heap H locs) (hl : lv_has ls 8 [(0, .ref b), (1, .ref t0), (2, .ref m0), (3, .ref o0), (4, .int (nI i))]) (hc1 : cells + 1 ≤ 601024) (hc2 : slots + 6 ≤ 7293033)
    (hnext : ∀ (H : Heap) (locs : List Loc) (ls : Array Slot), va_P D vwCl (A2 ++ M2) H → va_D (fun q => ss.heap.size ≤ q) (A2 ++ M2) → va_S (fun q => ss.heap.size ≤ q) ss.heap H locs → lv_has ls 8 [(0, .ref b), (1, .ref t0), (2, .ref m0), (3, .ref o0), (4, .int (nI (i + 8)))] → W pp l ee room_1 ss mm #[Value.ref b] below meth cc H locs (cells + 1) (slots + 6) QQ (F0 mm 23 ls [])) : W pp l ee room_1 ss mm #[Value.ref b] below meth cc H locs cells slots QQ (F0 mm 430 ls []) := by
  obtain ⟨hx, hb, hml, hown, hts, hX, hbl, hK, hN, hZ, hNc⟩ := C0
  have hA : ∀ q : Nat, ss.heap.size ≤ q → (fun q : Nat => ss.heap.size ≤ q) q := fun _ h => h
  refine lv_aload_n hx hb dL_law_430 rfl (lv_at hl 1 rfl) ?_
  refine lv_aload_n hx hb dL_law_431 rfl (lv_at hl 0 rfl) ?_
  refine lv_iload hx hb dL_law_432 (lv_at hl 4 rfl) ?_
  refine lv_iconst (v := nI (1)) hx hb dL_law_434 (by decide) ?_
  refine lv_iadd hx hb dL_law_435 ?_
  refine tg_vi (nI_add _ _) ?_
  refine tl_sld hx hb hX hbl hS (k := i + 1) (by omega) hL dL_law_436 ?_
  refine lv_aload_n hx hb dL_law_437 rfl (lv_at hl 0 rfl) ?_
  refine lv_iload hx hb dL_law_438 (lv_at hl 4 rfl) ?_
  refine lv_iconst (v := nI (2)) hx hb dL_law_440 (by decide) ?_
  refine lv_iadd hx hb dL_law_441 ?_
  refine tg_vi (nI_add _ _) ?_
  refine tl_sld hx hb hX hbl hS (k := i + 2) (by omega) hL dL_law_442 ?_
  refine lv_aload_n hx hb dL_law_443 rfl (lv_at hl 0 rfl) ?_
  refine lv_iload hx hb dL_law_444 (lv_at hl 4 rfl) ?_
  refine lv_iconst (v := nI (3)) hx hb dL_law_446 (by decide) ?_
  refine lv_iadd hx hb dL_law_447 ?_
  refine tg_vi (nI_add _ _) ?_
  refine tl_sld hx hb hX hbl hS (k := i + 3) (by omega) hL dL_law_448 ?_
  refine lv_aload_n hx hb dL_law_449 rfl (lv_at hl 3 rfl) ?_
  refine tl_SF (As := [.ref t0, .int (xs (i + 1)), .int (xs (i + 2)), .int (xs (i + 3)), .ref o0]) (rest := []) (wc := A) (wr := M) (w1 := A2) ⟨hx, hb, hml, hown, hts⟩ hC (vx_cwSW 5 hts gL_law_L_hash rfl hrc.1 hrc.2.1 (by decide +kernel) ⟨hrc.2.2.1, hrc.2.2.2⟩) hK hN hP hD hS hA hZ hNc rfl hl.1 rfl (Nat.le_of_ble_eq_true rfl) dL_law_450 ⟨by show _ ≤ 601024; omega, by show _ ≤ 7293033; omega⟩ (fun H locs hP hD hS => ?_)
  refine lv_istore (lv' := [(5, .int (nI (kc))), (0, .ref b), (1, .ref t0), (2, .ref m0), (3, .ref o0), (4, .int (nI (i)))]) hx hb dL_law_453 hl (by decide) rfl (fun ls hl => ?_)
  refine lv_aload_n hx hb dL_law_455 rfl (lv_at hl 3 rfl) ?_
  refine lv_aload_n hx hb dL_law_456 rfl (lv_at hl 1 rfl) ?_
  refine lv_iload hx hb dL_law_457 (lv_at hl 5 rfl) ?_
  refine lv_iconst (v := nI (1)) hx hb dL_law_459 (by decide) ?_
  refine lv_iadd hx hb dL_law_460 ?_
  refine tg_vi (nI_add _ _) ?_
  refine tl_sld hx hb hX hbl hS (k := i + 1) (by omega) hL dL_law_461 ?_
  refine lv_aload_n hx hb dL_law_462 rfl (lv_at hl 1 rfl) ?_
  refine lv_iload hx hb dL_law_463 (lv_at hl 5 rfl) ?_
  refine lv_iconst (v := nI (2)) hx hb dL_law_465 (by decide) ?_
  refine lv_iadd hx hb dL_law_466 ?_
  refine tg_vi (nI_add _ _) ?_
  refine tl_sld hx hb hX hbl hS (k := i + 2) (by omega) hL dL_law_467 ?_
  refine lv_aload_n hx hb dL_law_468 rfl (lv_at hl 1 rfl) ?_
  refine lv_iload hx hb dL_law_469 (lv_at hl 5 rfl) ?_
  refine lv_iconst (v := nI (3)) hx hb dL_law_471 (by decide) ?_
  refine lv_iadd hx hb dL_law_472 ?_
  refine tg_vi (nI_add _ _) ?_
  refine tl_sld hx hb hX hbl hS (k := i + 3) (by omega) hL dL_law_473 ?_
  refine tl_VlF (As := [.int (xs (i + 1)), .int (xs (i + 2)), .int (xs (i + 3))]) (rest := []) (wc := M) (wr := A2) (w1 := M2) ⟨hx, hb, hml, hown, hts⟩ hM (cwV 3 hts gL_law_X3_hash rfl hrr.1 hrr.2.1 (by decide +kernel) ⟨hrr.2.2.1, hrr.2.2.2⟩) hK hN hP hD hS hA 3 rfl hM0 rfl rfl hl.1 rfl (Nat.le_of_ble_eq_true rfl) dL_law_474 ⟨by show _ ≤ 601024; omega, by show _ ≤ 7293033; omega⟩ (fun H locs hP hD hS => ?_)
  refine lv_lstore (lv' := [(6, .long (br)), (5, .int (nI (kc))), (0, .ref b), (1, .ref t0), (2, .ref m0), (3, .ref o0), (4, .int (nI (i)))]) hx hb dL_law_477 hl (by decide) rfl (fun ls hl => ?_)
  refine lv_aload_n hx hb dL_law_479 rfl (lv_at hl 4 rfl) ?_
  refine tl_ViL (As := []) (rest := []) (wc := M2) (wr := A2) (w1 := M2) ⟨hx, hb, hml, hown, hts⟩ hT (cwV 0 hts gL_law_X3_thrown rfl rfl rfl (by decide +kernel) ⟨Nat.le_of_ble_eq_true rfl, Nat.le_of_ble_eq_true rfl⟩) hK hN hP hD hS hA 3 rfl hM2 rfl rfl hl.1 rfl (Nat.le_of_ble_eq_true rfl) dL_law_480 ⟨by show _ ≤ 601024; omega, by show _ ≤ 7293033; omega⟩ (fun H locs hP hD hS => ?_)
  refine lv_iload hx hb dL_law_483 (lv_at hl 1 rfl) ?_
  refine tl_eq hx hb (hcd) (tgt := 490) dL_law_485 (by decide) ?_
  refine lv_iload hx hb dL_law_490 (lv_at hl 1 rfl) ?_
  refine tg_if_ne (tgt := 506) hx hb dL_law_492 (by decide) (by omega) (fun c492 => ?_) (fun c492 => ?_)
  · skip
    refine lv_goto (tgt := 900) hx hb dL_law_506 (by decide) ?_
    refine lv_iinc (v := nI (i + 8)) (lv' := [(4, .int (nI (i + 8))), (6, .long (br)), (5, .int (nI (kc))), (0, .ref b), (1, .ref t0), (2, .ref m0), (3, .ref o0)]) hx hb dL_law_900 hl (k := 6) rfl (tg_inc _ _) (by decide) rfl (fun ls hl => ?_)
    refine lv_goto (tgt := 23) hx hb dL_law_903 (by decide) ?_
    exact hnext _ _ _ hP hD hS (lv_sub hl [3, 4, 5, 6, 0] rfl)
  · skip
    refine lv_aload_n hx hb dL_law_495 rfl (lv_at hl 5 rfl) ?_
    refine lv_iconst (v := nI (0)) hx hb dL_law_496 (by decide) ?_
    refine tg_lald hx hb hK hP 31 (tl_apl hO2) (f := ov2) (k := 0) (by omega) (by decide) dL_law_497 ?_
    refine lv_lload hx hb dL_law_498 (lv_at hl 0 rfl) ?_
    refine W.lcmp hx hb dL_law_500 ?_
    refine tg_leq (tgt := 506) hx hb dL_law_501 (by decide) (fun _ => ?_) (fun c501 => absurd (hval c492) c501)
    refine lv_goto (tgt := 900) hx hb dL_law_506 (by decide) ?_
    refine lv_iinc (v := nI (i + 8)) (lv' := [(4, .int (nI (i + 8))), (6, .long (br)), (5, .int (nI (kc))), (0, .ref b), (1, .ref t0), (2, .ref m0), (3, .ref o0)]) hx hb dL_law_900 hl (k := 6) rfl (tg_inc _ _) (by decide) rfl (fun ls hl => ?_)
    refine lv_goto (tgt := 23) hx hb dL_law_903 (by decide) ?_
    exact hnext _ _ _ hP hD hS (lv_sub hl [3, 4, 5, 6, 0] rfl)
set_option maxHeartbeats 4000000 in
set_option maxRecDepth 100000 in
theorem lc_start (l : Launch) {pp : Program} {ee : Env} {ss : State} {mm : MethodId} {below : List Frame} {meth : Method} {cc : Code} {b L : Nat} {xs : Nat → Int32} {D : va_G} {ty : Nat → ClassId} (C0 : tl_At pp ss mm cc b L xs D ty) {QQ : State → Prop} {H : Heap} {locs : List Loc} {ls : Array Slot} {cells slots : Nat} {t0 m0 o0 : Nat} {A A2 M M2 : va_W} {fsM : List Value} {fsN : List Value} {ov2 : Nat → Int64} {cd : Int32} (bb : Bool) (i : Nat) (hi : i + 8 ≤ L) (hL : L ≤ 4096) (rc rr : Room) (hrc : tl_rw rc 4) (hrr : tl_rr rr 2) (kc : Nat) (hcd : cd = nI kc) (hk2 : kc ≤ 2) (hval : kc = 0 → ov2 0 = tg_bl bb) (hC : tw_Mi l yL_start wsL_start rc D ty [.ref t0, .int (xs (i + 1)), .ref o0] A A2 (nI (kc))) (hM : tg_Mi l yX3_start wsX3_start rr D ty [.ref m0, .int (xs (i + 1))] M M2 (tg_b bb) 0 0) (hM0 : M[0]? = some (m0, .inr (3, fsM))) (hM2 : M2[0]? = some (m0, .inr (3, fsN))) (hO2 : A2[31]? = some (o0, .inl (ty 1, 1, .inr (.inl ov2)))) (hT : tg_Mi l yX3_thrown wsX3_thrown rmk_X3_thrown D ty [.ref m0] M2 M2 (cd) 0 0)
    (hP : va_P D vwCl (A ++ M) H) (hD : va_D (fun q => ss.heap.size ≤ q) (A ++ M)) (hS : va_S (fun q => ss.heap.size ≤ q) ss.heap H locs) (hl : lv_has ls 8 [(0, .ref b), (1, .ref t0), (2, .ref m0), (3, .ref o0), (4, .int (nI i))]) (hc1 : cells + 1 ≤ 601024) (hc2 : slots + 6 ≤ 7293033)
    (hnext : ∀ (H : Heap) (locs : List Loc) (ls : Array Slot), va_P D vwCl (A2 ++ M2) H → va_D (fun q => ss.heap.size ≤ q) (A2 ++ M2) → va_S (fun q => ss.heap.size ≤ q) ss.heap H locs → lv_has ls 8 [(0, .ref b), (1, .ref t0), (2, .ref m0), (3, .ref o0), (4, .int (nI (i + 8)))] → W pp l ee room_1 ss mm #[Value.ref b] below meth cc H locs (cells + 1) (slots + 6) QQ (F0 mm 23 ls [])) : W pp l ee room_1 ss mm #[Value.ref b] below meth cc H locs cells slots QQ (F0 mm 509 ls []) := by
  obtain ⟨hx, hb, hml, hown, hts, hX, hbl, hK, hN, hZ, hNc⟩ := C0
  have hA : ∀ q : Nat, ss.heap.size ≤ q → (fun q : Nat => ss.heap.size ≤ q) q := fun _ h => h
  refine lv_aload_n hx hb dL_law_509 rfl (lv_at hl 1 rfl) ?_
  refine lv_aload_n hx hb dL_law_510 rfl (lv_at hl 0 rfl) ?_
  refine lv_iload hx hb dL_law_511 (lv_at hl 4 rfl) ?_
  refine lv_iconst (v := nI (1)) hx hb dL_law_513 (by decide) ?_
  refine lv_iadd hx hb dL_law_514 ?_
  refine tg_vi (nI_add _ _) ?_
  refine tl_sld hx hb hX hbl hS (k := i + 1) (by omega) hL dL_law_515 ?_
  refine lv_aload_n hx hb dL_law_516 rfl (lv_at hl 3 rfl) ?_
  refine tl_SF (As := [.ref t0, .int (xs (i + 1)), .ref o0]) (rest := []) (wc := A) (wr := M) (w1 := A2) ⟨hx, hb, hml, hown, hts⟩ hC (vx_cwSW 3 hts gL_law_L_start rfl hrc.1 hrc.2.1 (by decide +kernel) ⟨hrc.2.2.1, hrc.2.2.2⟩) hK hN hP hD hS hA hZ hNc rfl hl.1 rfl (Nat.le_of_ble_eq_true rfl) dL_law_517 ⟨by show _ ≤ 601024; omega, by show _ ≤ 7293033; omega⟩ (fun H locs hP hD hS => ?_)
  refine lv_istore (lv' := [(5, .int (nI (kc))), (0, .ref b), (1, .ref t0), (2, .ref m0), (3, .ref o0), (4, .int (nI (i)))]) hx hb dL_law_520 hl (by decide) rfl (fun ls hl => ?_)
  refine lv_aload_n hx hb dL_law_522 rfl (lv_at hl 3 rfl) ?_
  refine lv_aload_n hx hb dL_law_523 rfl (lv_at hl 1 rfl) ?_
  refine lv_iload hx hb dL_law_524 (lv_at hl 5 rfl) ?_
  refine lv_iconst (v := nI (1)) hx hb dL_law_526 (by decide) ?_
  refine lv_iadd hx hb dL_law_527 ?_
  refine tg_vi (nI_add _ _) ?_
  refine tl_sld hx hb hX hbl hS (k := i + 1) (by omega) hL dL_law_528 ?_
  refine tl_ViF (As := [.int (xs (i + 1))]) (rest := []) (wc := M) (wr := A2) (w1 := M2) ⟨hx, hb, hml, hown, hts⟩ hM (cwV 1 hts gL_law_X3_start rfl hrr.1 hrr.2.1 (by decide +kernel) ⟨hrr.2.2.1, hrr.2.2.2⟩) hK hN hP hD hS hA 3 rfl hM0 rfl rfl hl.1 rfl (Nat.le_of_ble_eq_true rfl) dL_law_529 ⟨by show _ ≤ 601024; omega, by show _ ≤ 7293033; omega⟩ (fun H locs hP hD hS => ?_)
  refine lv_istore (lv' := [(6, .int (tg_b bb)), (5, .int (nI (kc))), (0, .ref b), (1, .ref t0), (2, .ref m0), (3, .ref o0), (4, .int (nI (i)))]) hx hb dL_law_532 hl (by decide) rfl (fun ls hl => ?_)
  refine lv_aload_n hx hb dL_law_534 rfl (lv_at hl 4 rfl) ?_
  refine tl_ViL (As := []) (rest := []) (wc := M2) (wr := A2) (w1 := M2) ⟨hx, hb, hml, hown, hts⟩ hT (cwV 0 hts gL_law_X3_thrown rfl rfl rfl (by decide +kernel) ⟨Nat.le_of_ble_eq_true rfl, Nat.le_of_ble_eq_true rfl⟩) hK hN hP hD hS hA 3 rfl hM2 rfl rfl hl.1 rfl (Nat.le_of_ble_eq_true rfl) dL_law_535 ⟨by show _ ≤ 601024; omega, by show _ ≤ 7293033; omega⟩ (fun H locs hP hD hS => ?_)
  refine lv_iload hx hb dL_law_538 (lv_at hl 1 rfl) ?_
  refine tl_eq hx hb (hcd) (tgt := 545) dL_law_540 (by decide) ?_
  refine lv_iload hx hb dL_law_545 (lv_at hl 1 rfl) ?_
  refine tg_if_ne (tgt := 569) hx hb dL_law_547 (by decide) (by omega) (fun c547 => ?_) (fun c547 => ?_)
  · skip
    refine lv_goto (tgt := 900) hx hb dL_law_569 (by decide) ?_
    refine lv_iinc (v := nI (i + 8)) (lv' := [(4, .int (nI (i + 8))), (6, .int (tg_b bb)), (5, .int (nI (kc))), (0, .ref b), (1, .ref t0), (2, .ref m0), (3, .ref o0)]) hx hb dL_law_900 hl (k := 6) rfl (tg_inc _ _) (by decide) rfl (fun ls hl => ?_)
    refine lv_goto (tgt := 23) hx hb dL_law_903 (by decide) ?_
    exact hnext _ _ _ hP hD hS (lv_sub hl [3, 4, 5, 6, 0] rfl)
  · skip
    refine lv_aload_n hx hb dL_law_550 rfl (lv_at hl 5 rfl) ?_
    refine lv_iconst (v := nI (0)) hx hb dL_law_551 (by decide) ?_
    refine tg_lald hx hb hK hP 31 (tl_apl hO2) (f := ov2) (k := 0) (by omega) (by decide) dL_law_552 ?_
    refine lv_iload hx hb dL_law_553 (lv_at hl 0 rfl) ?_
    refine tg_if_eqb (tgt := 562) hx hb dL_law_555 (by decide) (fun c555 => ?_) (fun c555 => ?_)
    · skip
      refine lv_lconst (v := 0) hx hb dL_law_562 (by decide) ?_
      refine W.lcmp hx hb dL_law_563 ?_
      refine tg_leq (tgt := 569) hx hb dL_law_564 (by decide) (fun _ => ?_) (fun c564 => absurd ((hval c547).trans (tg_bl_f c555).symm) c564)
      refine lv_goto (tgt := 900) hx hb dL_law_569 (by decide) ?_
      refine lv_iinc (v := nI (i + 8)) (lv' := [(4, .int (nI (i + 8))), (6, .int (tg_b bb)), (5, .int (nI (kc))), (0, .ref b), (1, .ref t0), (2, .ref m0), (3, .ref o0)]) hx hb dL_law_900 hl (k := 6) rfl (tg_inc _ _) (by decide) rfl (fun ls hl => ?_)
      refine lv_goto (tgt := 23) hx hb dL_law_903 (by decide) ?_
      exact hnext _ _ _ hP hD hS (lv_sub hl [3, 4, 5, 6, 0] rfl)
    · skip
      refine lv_lconst (v := 1) hx hb dL_law_558 (by decide) ?_
      refine lv_goto (tgt := 563) hx hb dL_law_559 (by decide) ?_
      refine W.lcmp hx hb dL_law_563 ?_
      refine tg_leq (tgt := 569) hx hb dL_law_564 (by decide) (fun _ => ?_) (fun c564 => absurd ((hval c547).trans (tg_bl_t c555).symm) c564)
      refine lv_goto (tgt := 900) hx hb dL_law_569 (by decide) ?_
      refine lv_iinc (v := nI (i + 8)) (lv' := [(4, .int (nI (i + 8))), (6, .int (tg_b bb)), (5, .int (nI (kc))), (0, .ref b), (1, .ref t0), (2, .ref m0), (3, .ref o0)]) hx hb dL_law_900 hl (k := 6) rfl (tg_inc _ _) (by decide) rfl (fun ls hl => ?_)
      refine lv_goto (tgt := 23) hx hb dL_law_903 (by decide) ?_
      exact hnext _ _ _ hP hD hS (lv_sub hl [3, 4, 5, 6, 0] rfl)
set_option maxHeartbeats 4000000 in
set_option maxRecDepth 100000 in
theorem lc_step (l : Launch) {pp : Program} {ee : Env} {ss : State} {mm : MethodId} {below : List Frame} {meth : Method} {cc : Code} {b L : Nat} {xs : Nat → Int32} {D : va_G} {ty : Nat → ClassId} (C0 : tl_At pp ss mm cc b L xs D ty) {QQ : State → Prop} {H : Heap} {locs : List Loc} {ls : Array Slot} {cells slots : Nat} {t0 m0 o0 : Nat} {A A2 M M2 : va_W} {fsM : List Value} {fsN : List Value} {ov2 : Nat → Int64} {cd : Int32} (br : Int32) (i : Nat) (hi : i + 8 ≤ L) (hL : L ≤ 4096) (rc rr : Room) (hrc : tl_rw rc 4) (hrr : tl_rr rr 2) (kc : Nat) (hcd : cd = nI kc) (hk2 : kc ≤ 2) (hval : kc = 0 → ov2 0 = Int32.toInt64 br) (hC : tw_Mi l yL_step wsL_step rc D ty [.ref t0, .int (xs (i + 1)), .ref o0] A A2 (nI (kc))) (hM : tg_Mi l yX3_step wsX3_step rr D ty [.ref m0, .int (xs (i + 1))] M M2 (br) 0 0) (hM0 : M[0]? = some (m0, .inr (3, fsM))) (hM2 : M2[0]? = some (m0, .inr (3, fsN))) (hO2 : A2[31]? = some (o0, .inl (ty 1, 1, .inr (.inl ov2)))) (hT : tg_Mi l yX3_thrown wsX3_thrown rmk_X3_thrown D ty [.ref m0] M2 M2 (cd) 0 0)
    (hP : va_P D vwCl (A ++ M) H) (hD : va_D (fun q => ss.heap.size ≤ q) (A ++ M)) (hS : va_S (fun q => ss.heap.size ≤ q) ss.heap H locs) (hl : lv_has ls 8 [(0, .ref b), (1, .ref t0), (2, .ref m0), (3, .ref o0), (4, .int (nI i))]) (hc1 : cells + 1 ≤ 601024) (hc2 : slots + 6 ≤ 7293033)
    (hnext : ∀ (H : Heap) (locs : List Loc) (ls : Array Slot), va_P D vwCl (A2 ++ M2) H → va_D (fun q => ss.heap.size ≤ q) (A2 ++ M2) → va_S (fun q => ss.heap.size ≤ q) ss.heap H locs → lv_has ls 8 [(0, .ref b), (1, .ref t0), (2, .ref m0), (3, .ref o0), (4, .int (nI (i + 8)))] → W pp l ee room_1 ss mm #[Value.ref b] below meth cc H locs (cells + 1) (slots + 6) QQ (F0 mm 23 ls [])) : W pp l ee room_1 ss mm #[Value.ref b] below meth cc H locs cells slots QQ (F0 mm 572 ls []) := by
  obtain ⟨hx, hb, hml, hown, hts, hX, hbl, hK, hN, hZ, hNc⟩ := C0
  have hA : ∀ q : Nat, ss.heap.size ≤ q → (fun q : Nat => ss.heap.size ≤ q) q := fun _ h => h
  refine lv_aload_n hx hb dL_law_572 rfl (lv_at hl 1 rfl) ?_
  refine lv_aload_n hx hb dL_law_573 rfl (lv_at hl 0 rfl) ?_
  refine lv_iload hx hb dL_law_574 (lv_at hl 4 rfl) ?_
  refine lv_iconst (v := nI (1)) hx hb dL_law_576 (by decide) ?_
  refine lv_iadd hx hb dL_law_577 ?_
  refine tg_vi (nI_add _ _) ?_
  refine tl_sld hx hb hX hbl hS (k := i + 1) (by omega) hL dL_law_578 ?_
  refine lv_aload_n hx hb dL_law_579 rfl (lv_at hl 3 rfl) ?_
  refine tl_SF (As := [.ref t0, .int (xs (i + 1)), .ref o0]) (rest := []) (wc := A) (wr := M) (w1 := A2) ⟨hx, hb, hml, hown, hts⟩ hC (vx_cwSW 3 hts gL_law_L_step rfl hrc.1 hrc.2.1 (by decide +kernel) ⟨hrc.2.2.1, hrc.2.2.2⟩) hK hN hP hD hS hA hZ hNc rfl hl.1 rfl (Nat.le_of_ble_eq_true rfl) dL_law_580 ⟨by show _ ≤ 601024; omega, by show _ ≤ 7293033; omega⟩ (fun H locs hP hD hS => ?_)
  refine lv_istore (lv' := [(5, .int (nI (kc))), (0, .ref b), (1, .ref t0), (2, .ref m0), (3, .ref o0), (4, .int (nI (i)))]) hx hb dL_law_583 hl (by decide) rfl (fun ls hl => ?_)
  refine lv_aload_n hx hb dL_law_585 rfl (lv_at hl 3 rfl) ?_
  refine lv_aload_n hx hb dL_law_586 rfl (lv_at hl 1 rfl) ?_
  refine lv_iload hx hb dL_law_587 (lv_at hl 5 rfl) ?_
  refine lv_iconst (v := nI (1)) hx hb dL_law_589 (by decide) ?_
  refine lv_iadd hx hb dL_law_590 ?_
  refine tg_vi (nI_add _ _) ?_
  refine tl_sld hx hb hX hbl hS (k := i + 1) (by omega) hL dL_law_591 ?_
  refine tl_ViF (As := [.int (xs (i + 1))]) (rest := []) (wc := M) (wr := A2) (w1 := M2) ⟨hx, hb, hml, hown, hts⟩ hM (cwV 1 hts gL_law_X3_step rfl hrr.1 hrr.2.1 (by decide +kernel) ⟨hrr.2.2.1, hrr.2.2.2⟩) hK hN hP hD hS hA 3 rfl hM0 rfl rfl hl.1 rfl (Nat.le_of_ble_eq_true rfl) dL_law_592 ⟨by show _ ≤ 601024; omega, by show _ ≤ 7293033; omega⟩ (fun H locs hP hD hS => ?_)
  refine lv_istore (lv' := [(6, .int (br)), (5, .int (nI (kc))), (0, .ref b), (1, .ref t0), (2, .ref m0), (3, .ref o0), (4, .int (nI (i)))]) hx hb dL_law_595 hl (by decide) rfl (fun ls hl => ?_)
  refine lv_aload_n hx hb dL_law_597 rfl (lv_at hl 4 rfl) ?_
  refine tl_ViL (As := []) (rest := []) (wc := M2) (wr := A2) (w1 := M2) ⟨hx, hb, hml, hown, hts⟩ hT (cwV 0 hts gL_law_X3_thrown rfl rfl rfl (by decide +kernel) ⟨Nat.le_of_ble_eq_true rfl, Nat.le_of_ble_eq_true rfl⟩) hK hN hP hD hS hA 3 rfl hM2 rfl rfl hl.1 rfl (Nat.le_of_ble_eq_true rfl) dL_law_598 ⟨by show _ ≤ 601024; omega, by show _ ≤ 7293033; omega⟩ (fun H locs hP hD hS => ?_)
  refine lv_iload hx hb dL_law_601 (lv_at hl 1 rfl) ?_
  refine tl_eq hx hb (hcd) (tgt := 608) dL_law_603 (by decide) ?_
  refine lv_iload hx hb dL_law_608 (lv_at hl 1 rfl) ?_
  refine tg_if_ne (tgt := 625) hx hb dL_law_610 (by decide) (by omega) (fun c610 => ?_) (fun c610 => ?_)
  · skip
    refine lv_goto (tgt := 900) hx hb dL_law_625 (by decide) ?_
    refine lv_iinc (v := nI (i + 8)) (lv' := [(4, .int (nI (i + 8))), (6, .int (br)), (5, .int (nI (kc))), (0, .ref b), (1, .ref t0), (2, .ref m0), (3, .ref o0)]) hx hb dL_law_900 hl (k := 6) rfl (tg_inc _ _) (by decide) rfl (fun ls hl => ?_)
    refine lv_goto (tgt := 23) hx hb dL_law_903 (by decide) ?_
    exact hnext _ _ _ hP hD hS (lv_sub hl [3, 4, 5, 6, 0] rfl)
  · skip
    refine lv_aload_n hx hb dL_law_613 rfl (lv_at hl 5 rfl) ?_
    refine lv_iconst (v := nI (0)) hx hb dL_law_614 (by decide) ?_
    refine tg_lald hx hb hK hP 31 (tl_apl hO2) (f := ov2) (k := 0) (by omega) (by decide) dL_law_615 ?_
    refine lv_iload hx hb dL_law_616 (lv_at hl 0 rfl) ?_
    refine lv_i2l (v := Int32.toInt64 br) hx hb dL_law_618 rfl ?_
    refine W.lcmp hx hb dL_law_619 ?_
    refine tg_leq (tgt := 625) hx hb dL_law_620 (by decide) (fun _ => ?_) (fun c620 => absurd (hval c610) c620)
    refine lv_goto (tgt := 900) hx hb dL_law_625 (by decide) ?_
    refine lv_iinc (v := nI (i + 8)) (lv' := [(4, .int (nI (i + 8))), (6, .int (br)), (5, .int (nI (kc))), (0, .ref b), (1, .ref t0), (2, .ref m0), (3, .ref o0)]) hx hb dL_law_900 hl (k := 6) rfl (tg_inc _ _) (by decide) rfl (fun ls hl => ?_)
    refine lv_goto (tgt := 23) hx hb dL_law_903 (by decide) ?_
    exact hnext _ _ _ hP hD hS (lv_sub hl [3, 4, 5, 6, 0] rfl)
