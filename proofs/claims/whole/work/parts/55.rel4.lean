/-! ===== getting a message on both sides ===== -/
theorem tr_mz_dr {r : tg_MR} {si : Nat} (hsi : si ≤ 1) : tg_mz (tg_drR r si) (1 - si) = tg_mz r (1 - si) := by
  unfold tg_mz
  show tg_cn (upd r.1 si _ (1 - si)) = _
  rw [pk_un (by omega)]
theorem tr_pc0 : ∀ g, g < 16 → (tg_pc g = 0 ↔ g = 0) := by decide
theorem tr_leaf {x : tg_SS} {e : tg_ES} {si nd : Nat} (hx : tr_RS x e si) (hnd : nd < 64) : ∀ i, i < 4 → Nat.testBit (tg_mk (fun j => tg_has x.2.2.1 (nd * 4 + j)) 4) i = !decide (e.1 (256 * si + (4 * nd + i)) = 0) := fun i hi => by
  rw [tg_mk_bit _ hi, (hx (4 * nd + i) (by omega)).1, tr_b0, Bool.not_not, show nd * 4 + i = 4 * nd + i by omega]
/-- the answers to a list -/
theorem tr_list {x : tg_SS} {e : tg_ES} {si kk nd w : Nat} {q' : tg_RS} {w' : Nat} {r : tg_RS} {o : Nat} {X : tg_MX} {c : tg_CT} {HA : Nat → Int64} {g : tg_MG} {qh : Nat → Int64} (hsi : si ≤ 1) (hS : tr_RS x e si) (hI : tr_SI x) (hH : ∀ j, j < 85 → HA j = x.2.2.2.1 j) (hq : tr_RR q' w' X.1 si) (hqz : tg_rz q' ≤ 100) (hr : tr_RR r o X.1 (1 - si)) (ho : o < 100) (hrz : tg_rz r ≤ 100) (hc : X.2.2 = c) (hkk : kk < 3) (hnd : nd < 4 ^ kk) (hg : ∀ j, j < 4 → g.1 j = qh (w * 4 + j)) :
    ∀ i, i ≤ 4 → tr_RR (tg_aL r c o x w kk nd qh i).1 o (tg_glX X e HA g si kk nd i).1 (1 - si) ∧ tr_RR q' w' (tg_glX X e HA g si kk nd i).1 si ∧ (tg_glX X e HA g si kk nd i).2.2 = (tg_aL r c o x w kk nd qh i).2
  | 0, _ => ⟨hr, hq, hc⟩
  | i + 1, hi => by
    obtain ⟨h1, h2, h3⟩ := tr_list hsi hS hI hH hq hqz hr ho hrz hc hkk hnd hg i (by omega)
    have hz := tg_aL_z (c := c) (o := o) (x := x) (pl := w) (kk := kk) (nd := nd) (qh := qh) hrz i
    obtain ⟨n16, n85, hnx⟩ := tg_bgl hkk hnd
    have eH : HA (tg_bg (kk + 1) + (4 * nd + i)) = x.2.2.2.1 ((4 ^ (kk + 1) - 1) / 3 + (nd * 4 + i)) := by
      rw [tr_bg (by omega), show nd * 4 + i = 4 * nd + i by omega]
      exact hH _ (by omega)
    have em1 := tr_mz h1 hz
    have em2 := tr_mz h2 hqz
    generalize hY : tg_glX X e HA g si kk nd i = Y at h1 h2 h3 em1 em2
    generalize hB : tg_aL r c o x w kk nd qh i = B at h1 h3 hz em1
    by_cases z : qh (w * 4 + i) = x.2.2.2.1 ((4 ^ (kk + 1) - 1) / 3 + (nd * 4 + i))
    · rw [tg_aL_s z, tg_glX_s (by rw [eH, hg i (by omega)]; exact z.symm), hY, hB]
      exact ⟨h1, h2, h3⟩
    · have z' : ¬ HA (tg_bg (kk + 1) + (4 * nd + i)) = g.1 i := by rw [eH, hg i (by omega)]; exact fun u => z u.symm
      by_cases k2 : kk = 2
      · rw [tg_aL_e z (by omega), tg_glX_e z' k2, hY, hB]
        have hl : 4 * nd + i < 64 := by omega
        have e4 : nd * 4 + i = 4 * nd + i := by omega
        rw [e4]
        unfold tg_seX tg_sdX
        rw [tr_lfH_g (m := tg_mk (fun j => tg_has x.2.2.1 ((4 * nd + i) * 4 + j)) 4) (tr_leaf hS hl) 4 (Nat.le_refl 4)]
        refine ⟨tr_sendE hS hI h1 ho hz (Or.inl rfl) hl (tg_mk16 _) (fun j hj hb => by rw [tg_mk_bit _ hj] at hb; exact hb), tr_sdo h2 (by omega) (by omega) hqz (by show tg_mz Y.1 (1 - si) ≤ 100; omega), ?_⟩
        show tg_sdC Y.2.2 (tg_mz Y.1 (1 - si)) (tr_gH e Y.2.1 si (4 * nd + i) (tg_mk (fun j => tg_has x.2.2.1 ((4 * nd + i) * 4 + j)) 4) 4).2.2.2.2.2 = tg_cS B.2 (tg_rz B.1) (tg_mk (fun j => tg_has x.2.2.1 ((4 * nd + i) * 4 + j)) 4)
        rw [tr_gH_mn, tr_pc, h3, em1]
        rfl
      · rw [tg_aL_l z (by omega), tg_glX_l z' k2, hY, hB]
        have e4 : nd * 4 + i = 4 * nd + i := by omega
        rw [e4]
        have hp : 4 * nd + i < 4 ^ (kk + 1) := by rw [Nat.pow_succ]; omega
        refine ⟨tr_sendL hH h1 ho hz (by omega) hp, tr_sdo h2 (by omega) (by omega) hqz (by show tg_mz Y.1 (1 - si) ≤ 100; omega), ?_⟩
        show tg_sdC Y.2.2 (tg_mz Y.1 (1 - si)) 0 = tg_cS B.2 (tg_rz B.1) 0
        rw [h3, em1]
        rfl
/-- what was got -/
theorem tr_tkG {q : tg_RS} {w : Nat} {r : tg_MR} {P : Nat} (g : tg_MG) (h : tr_RM q w r P) (hm : tg_qm q w < 16) : tr_Gt (tg_tkG g r P) (tg_qm q w) (tg_qn q w) w q.2.2.2.2.2.1 q.2.2.2.2.2.2.1 q.2.2.2.2.2.2.2.1 := by
  obtain ⟨-, -, -, h4, -, -, h7⟩ := h
  have h5 : tg_pc (tg_qm q w) ≤ 4 := by rw [← tr_pc]; exact tg_ct_le _ _
  refine ⟨?_, fun j hj hb => ?_⟩
  · show tg_cn (r.2.2.2.2.2.1 P) = _
    rw [h4, tg_cn_nI (by omega)]
  · obtain ⟨g1, g2, g3, g4, g5⟩ := h7 j hj hb
    have hc : tg_ct (tg_qm q w) j < 4 := Nat.lt_of_le_of_lt (tg_ct_le _ _) hj
    show tg_lcI _ _ 4 _ = _ ∧ tg_lc _ _ 4 _ = _ ∧ tg_lcI _ _ 4 _ = _ ∧ tg_lc _ _ 4 _ = _ ∧ _
    rw [tg_lcI_at _ _ 4 _ hc, tg_lc_at _ _ 4 _ hc, tg_lcI_at _ _ 4 _ hc, tg_lc_at _ _ 4 _ hc]
    exact ⟨g1, g2, g3, g4, g5⟩
/-- half of the relation, seen from the store that gets -/
def tr_Hf (x y : tg_SS) (q : tg_RS) (w : Nat) (r : tg_RS) (o : Nat) (c : tg_CT) (m : tg_MM) (si : Nat) : Prop :=
  tr_RS x m.1 si ∧ tr_RS y m.1 (1 - si) ∧ tr_SI x ∧ tr_RR q w m.2.2.2.1.1 si ∧ tr_RR r o m.2.2.2.1.1 (1 - si) ∧ m.2.2.2.1.2.2 = c
theorem tr_take {x y : tg_SS} {q : tg_RS} {w : Nat} {r : tg_RS} {o : Nat} {c : tg_CT} {m : tg_MM} {si : Nat} (hsi : si ≤ 1) (h : tr_Hf x y q w r o c m si) (hq : tg_okR q w) (hr : tg_okR r o) (hz : 0 < tg_rz q) :
    (tg_rcv x q w r o c).1 = m.2.2.2.1.1.2.1 (100 * si) ∧ tr_Hf (tg_rcv x q w r o c).2.1 y (tg_rcv x q w r o c).2.2.1 (tg_rcv x q w r o c).2.2.2.1 (tg_rcv x q w r o c).2.2.2.2.1 o (tg_rcv x q w r o c).2.2.2.2.2 (tg_tkM m si) si := by
  obtain ⟨hS, hY, hI, hQ, hR, hC⟩ := h
  have hg0 : tg_okG q w := tg_okR_g hq hz
  obtain ⟨hw, hqz, -⟩ := hq
  obtain ⟨ho, hrz, -⟩ := hr
  have hM0 : tr_RM q w m.2.2.2.1.1 (100 * si) := by
    have h1 := hQ.2 0 hz
    rw [Nat.add_zero, Nat.mod_eq_of_lt hw, Nat.add_zero] at h1
    exact h1
  obtain ⟨ki, kl, kn, -, hk0, hk1, -⟩ := id hM0
  obtain ⟨e1, e2, e3, e4, e5, hk⟩ := hg0
  have hGt := tr_tkG m.2.2.2.2.1 hM0 e2
  have hQ' := tr_drop hQ hz hqz
  have hmu : tg_mz m.2.2.2.1.1 si ≤ 100 := by rw [tr_mz hQ hqz]; exact hqz
  have hR' := tr_dropo hR hsi rfl hrz hmu
  have hpz : tg_rz (tg_pop q) ≤ 100 := Nat.le_trans (Nat.sub_le _ _) hqz
  have hmr : tg_mz (tg_drR m.2.2.2.1.1 si) (1 - si) = tg_rz r := tr_mz hR' hrz
  have hH : ∀ j, j < 85 → tg_haA m.1 si m.2.1 j = x.2.2.2.1 j := fun j hj => tr_hash hS hI m.2.1 hj
  have eN : tg_cn (m.2.2.2.1.1.2.2.2.1 (100 * si)) = tg_qn q w := by rw [kn]
  have eL : tg_cn (m.2.2.2.1.1.2.2.1 (100 * si)) = tg_ql q w := by rw [kl]
  have eG : ∀ j, j < 4 → (tg_tkG m.2.2.2.2.1 m.2.2.2.1.1 (100 * si)).1 j = m.2.2.2.1.1.2.2.2.2.1 (4 * (100 * si) + j) := fun j hj => tg_lc_at _ _ 4 j hj
  rcases hk with hk | ⟨hk, l1, l2, l3⟩ | hk | hk
  · -- ask
    have hk' : m.2.2.2.1.1.2.1 (100 * si) = nI 0 := ki.trans hk
    rw [tg_rcv_0 hz hk, tg_tkM_0 hk']
    refine ⟨hk'.symm, hS, hY, hI, ?_⟩
    have eq0 : (tg_tkG m.2.2.2.2.1 m.2.2.2.1.1 (100 * si)).1 0 = q.2.2.2.2.1 (w * 4) := (eG 0 (by omega)).trans (hk0 hk)
    show tr_RR (tg_pop q) ((w + 1) % 100) (cond (decide (tg_haA m.1 si m.2.1 0 = (tg_tkG m.2.2.2.2.1 m.2.2.2.1.1 (100 * si)).1 0)) (tg_drR m.2.2.2.1.1 si, m.2.2.2.1.2.1, m.2.2.2.1.2.2) (tg_slX (tg_drR m.2.2.2.1.1 si, m.2.2.2.1.2.1, m.2.2.2.1.2.2) (tg_haA m.1 si m.2.1) si 0 0)).1 si ∧
      tr_RR (tg_aA r o x (q.2.2.2.2.1 (w * 4))) o (cond (decide (tg_haA m.1 si m.2.1 0 = (tg_tkG m.2.2.2.2.1 m.2.2.2.1.1 (100 * si)).1 0)) (tg_drR m.2.2.2.1.1 si, m.2.2.2.1.2.1, m.2.2.2.1.2.2) (tg_slX (tg_drR m.2.2.2.1.1 si, m.2.2.2.1.2.1, m.2.2.2.1.2.2) (tg_haA m.1 si m.2.1) si 0 0)).1 (1 - si) ∧
      (cond (decide (tg_haA m.1 si m.2.1 0 = (tg_tkG m.2.2.2.2.1 m.2.2.2.1.1 (100 * si)).1 0)) (tg_drR m.2.2.2.1.1 si, m.2.2.2.1.2.1, m.2.2.2.1.2.2) (tg_slX (tg_drR m.2.2.2.1.1 si, m.2.2.2.1.2.1, m.2.2.2.1.2.2) (tg_haA m.1 si m.2.1) si 0 0)).2.2 = tg_aAc c (tg_rz r) x (q.2.2.2.2.1 (w * 4))
    rw [eq0]
    generalize tg_haA m.1 si m.2.1 = HA at hH
    unfold tg_aA tg_aAc
    rw [hH 0 (by decide)]
    by_cases z : q.2.2.2.2.1 (w * 4) = x.2.2.2.1 0
    · rw [decide_eq_true z, decide_eq_true z.symm]
      exact ⟨hQ', hR', hC⟩
    · rw [decide_eq_false z, decide_eq_false (fun u => z u.symm)]
      refine ⟨tr_sdo hQ' (by omega) (by omega) hpz (by show tg_mz (tg_drR m.2.2.2.1.1 si) (1 - si) ≤ 100; omega), tr_sendL hH hR' ho hrz (by decide) (by decide), ?_⟩
      show tg_sdC m.2.2.2.1.2.2 (tg_mz (tg_drR m.2.2.2.1.1 si) (1 - si)) 0 = tg_cS c (tg_rz r) 0
      rw [hC, hmr]
      rfl
  · -- list
    have hk' : m.2.2.2.1.1.2.1 (100 * si) = nI 1 := ki.trans hk
    rw [tg_rcv_1 hz hk, tg_tkM_1 hk', eN, eL]
    refine ⟨hk'.symm, hS, hY, hI, ?_⟩
    obtain ⟨a1, a2, a3⟩ := tr_list (X := (tg_drR m.2.2.2.1.1 si, m.2.2.2.1.2.1, m.2.2.2.1.2.2)) hsi hS hI hH hQ' hpz hR' ho hrz hC l2 l3 (g := tg_tkG m.2.2.2.2.1 m.2.2.2.1.1 (100 * si)) (qh := q.2.2.2.2.1) (w := w) (fun j hj => (eG j hj).trans (hk1 hk j hj)) 4 (Nat.le_refl 4)
    exact ⟨a2, a1, a3⟩
  · -- entries, with an answer
    have hk' : m.2.2.2.1.1.2.1 (100 * si) = nI 2 := ki.trans hk
    obtain ⟨a1, a2, a3⟩ := tr_merge hsi hS hI hY hGt e5 e4 4 (Nat.le_refl 4)
    rw [tr_pc, ← hGt.1] at a1 a3
    rw [tg_rcv_2 hz hk, tg_tkM_2 hk', eN]
    refine ⟨hk'.symm, a1, a3, a2, ?_⟩
    generalize hE : tg_rmA m.1 si (tg_tkG m.2.2.2.2.1 m.2.2.2.1.1 (100 * si)).2.1 (tg_tkG m.2.2.2.2.1 m.2.2.2.1.1 (100 * si)).2.2.1 (tg_tkG m.2.2.2.2.1 m.2.2.2.1.1 (100 * si)).2.2.2.1 (tg_tkG m.2.2.2.2.1 m.2.2.2.1.1 (100 * si)).2.2.2.2.1 (tg_tkG m.2.2.2.2.1 m.2.2.2.1.1 (100 * si)).2.2.2.2.2 = E at a1 a3
    generalize hG : tg_tkG m.2.2.2.2.1 m.2.2.2.1.1 (100 * si) = G at hGt
    have hx4 : tg_mA x w (tg_qm q w) (tg_qn q w) q.2.2.2.2.2.1 q.2.2.2.2.2.2.1 q.2.2.2.2.2.2.2.1 4 = tg_mx4 x q w := rfl
    rw [hx4] at a1 a2
    have hgm : tg_gm4 x q w < 16 := tg_gm16 _ _ _ _ _ _ _
    have hbit : ∀ i, i < 4 → Nat.testBit (tg_gm4 x q w) i = (tg_has (tg_mx4 x q w).2.2.1 (tg_qn q w * 4 + i) && !tg_kn (tg_mx4 x q w) w (tg_qm q w) (tg_qn q w) q.2.2.2.2.2.1 q.2.2.2.2.2.2.1 q.2.2.2.2.2.2.2.1 i) := fun i hi => by
      unfold tg_gm4 tg_gm
      rw [tg_andn_bit (tg_mk16 _) (tg_mk16 _) hi, tg_mk_bit _ hi, tg_mk_bit _ hi]
    have hbk : ∀ i, i < 4 → Nat.testBit (tg_gm4 x q w) i = (!decide (E.1 (256 * si + (4 * tg_qn q w + i)) = 0) && !tg_bkb E G (256 * si + (4 * tg_qn q w + i))) := fun i hi => by
      have e4' : tg_qn q w * 4 + i = 4 * tg_qn q w + i := by omega
      rw [hbit i hi, (a1 (4 * tg_qn q w + i) (by omega)).1, tr_b0, Bool.not_not, e4']
      cases hh : tg_has (tg_mx4 x q w).2.2.1 (4 * tg_qn q w + i) with
      | false => rfl
      | true =>
        have hgot := tr_got a1 hGt e4 hsi hi (by rw [e4']; exact hh) 4 (Nat.le_refl 4)
        rw [tr_pc, ← hGt.1, decide_eq_true hi, Bool.true_and] at hgot
        unfold tg_bkb
        rw [hgot]
    have hmn : (tr_gH E m.2.2.2.1.2.1 si (tg_qn q w) (tg_gm4 x q w) 4).2.2.2.2.2 = tg_pc (tg_gm4 x q w) := by rw [tr_gH_mn, tr_pc]
    show tr_RR (tg_pop q) ((w + 1) % 100) (tg_bkX (tg_drR m.2.2.2.1.1 si, m.2.2.2.1.2.1, m.2.2.2.1.2.2) E G si (tg_qn q w)).1 si ∧ tr_RR (tg_aG r o (tg_mx4 x q w) (tg_gm4 x q w) (tg_qn q w)) o (tg_bkX (tg_drR m.2.2.2.1.1 si, m.2.2.2.1.2.1, m.2.2.2.1.2.2) E G si (tg_qn q w)).1 (1 - si) ∧ (tg_bkX (tg_drR m.2.2.2.1.1 si, m.2.2.2.1.2.1, m.2.2.2.1.2.2) E G si (tg_qn q w)).2.2 = tg_aGc c (tg_rz r) (tg_gm4 x q w)
    unfold tg_bkX
    rw [tr_bkH_g (m := tg_gm4 x q w) hbk 4 (Nat.le_refl 4), hmn]
    unfold tg_aG tg_aGc
    by_cases z : tg_gm4 x q w = 0
    · rw [decide_eq_true ((tr_pc0 _ hgm).mpr z), decide_eq_true z]
      exact ⟨hQ', hR', hC⟩
    · rw [decide_eq_false (fun u => z ((tr_pc0 _ hgm).mp u)), decide_eq_false z]
      refine ⟨tr_sdo hQ' (by omega) (by omega) hpz (by show tg_mz (tg_drR m.2.2.2.1.1 si) (1 - si) ≤ 100; omega), tr_sendE a1 a2 hR' ho hrz (Or.inr rfl) e4 hgm (fun j hj hb => ?_), ?_⟩
      · rw [hbit j hj, Bool.and_eq_true] at hb
        exact hb.1
      · show tg_sdC m.2.2.2.1.2.2 (tg_mz (tg_drR m.2.2.2.1.1 si) (1 - si)) (tr_gH E m.2.2.2.1.2.1 si (tg_qn q w) (tg_gm4 x q w) 4).2.2.2.2.2 = tg_cS c (tg_rz r) (tg_gm4 x q w)
        rw [hmn, hC, hmr]
        rfl
  · -- entries
    have hk' : m.2.2.2.1.1.2.1 (100 * si) = nI 3 := ki.trans hk
    obtain ⟨a1, a2, a3⟩ := tr_merge hsi hS hI hY hGt e5 e4 4 (Nat.le_refl 4)
    rw [tr_pc, ← hGt.1] at a1 a3
    rw [tg_rcv_3 hz hk, tg_tkM_3 hk']
    exact ⟨hk'.symm, a1, a3, a2, hQ', hR', hC⟩
/-- what getting needs, out of the relation -/
theorem tr_okTk {q : tg_RS} {w : Nat} {r : tg_MR} {P : Nat} (h : tr_RM q w r P) (hg : tg_okG q w) : tg_okTk r P := by
  obtain ⟨h1, h2, h3, h4, -, -, h7⟩ := h
  obtain ⟨e1, e2, e3, e4, e5, hk⟩ := hg
  have h5 : tg_pc (tg_qm q w) ≤ 4 := by rw [← tr_pc]; exact tg_ct_le _ _
  have em : tg_cn (r.2.2.2.2.2.1 P) = tg_pc (tg_qm q w) := by rw [h4, tg_cn_nI (by omega)]
  unfold tg_okTk
  rw [em, h3, h1, h2]
  refine ⟨h4, ⟨h5, fun i hi => ?_⟩, e3, e4, hk⟩
  -- the i-th entry is some part's
  have key : ∀ n, n ≤ 4 → i < tg_ct (tg_qm q w) n → ∃ j, j < n ∧ Nat.testBit (tg_qm q w) j = true ∧ tg_ct (tg_qm q w) j = i := by
    intro n
    induction n with
    | zero => intro _ hi; exact absurd hi (Nat.not_lt_zero i)
    | succ n ih =>
      intro hn hi
      cases hb : Nat.testBit (tg_qm q w) n with
      | false =>
        rw [tg_ct_f hb] at hi
        obtain ⟨j, j1, j2, j3⟩ := ih (by omega) hi
        exact ⟨j, by omega, j2, j3⟩
      | true =>
        rw [tg_ct_t hb] at hi
        by_cases q1 : i = tg_ct (tg_qm q w) n
        · exact ⟨n, by omega, hb, q1.symm⟩
        · obtain ⟨j, j1, j2, j3⟩ := ih (by omega) (by omega)
          exact ⟨j, by omega, j2, j3⟩
  obtain ⟨j, j1, j2, j3⟩ := key 4 (Nat.le_refl 4) (by rw [tr_pc]; exact hi)
  obtain ⟨g1, g2, g3, g4, g5⟩ := h7 j j1 j2
  obtain ⟨k1, k2⟩ := e5 j j1 j2
  rw [j3] at g1 g3
  have hk1 : tg_qn q w * 4 + j < 256 := by omega
  show r.2.2.2.2.2.2.1 (4 * P + i) = nI (tg_cn (r.2.2.2.2.2.2.1 (4 * P + i))) ∧ tg_cn (r.2.2.2.2.2.2.1 (4 * P + i)) < 256 ∧ r.2.2.2.2.2.2.2.2.1 (4 * P + i) = nI (tg_cn (r.2.2.2.2.2.2.2.2.1 (4 * P + i))) ∧ tg_cn (r.2.2.2.2.2.2.2.2.1 (4 * P + i)) ≤ 8
  rw [g1, g3, tg_cn_nI (by omega)]
  exact ⟨rfl, hk1, k1, k2⟩
