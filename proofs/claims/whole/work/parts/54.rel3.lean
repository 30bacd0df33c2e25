/-! ===== sends and merges on both sides ===== -/
def tr_gH (e : tg_ES) (h : tg_MH) (si nd m : Nat) : Nat → tg_MH
  | 0 => tg_h00 h
  | i + 1 => cond (Nat.testBit m i) (tg_hdH e (tr_gH e h si nd m i) (256 * si + (4 * nd + i))) (tr_gH e h si nd m i)
theorem tr_gH_t {e : tg_ES} {h : tg_MH} {si nd m i : Nat} (hb : Nat.testBit m i = true) : tr_gH e h si nd m (i + 1) = tg_hdH e (tr_gH e h si nd m i) (256 * si + (4 * nd + i)) := by rw [tr_gH, hb]; rfl
theorem tr_gH_f {e : tg_ES} {h : tg_MH} {si nd m i : Nat} (hb : Nat.testBit m i = false) : tr_gH e h si nd m (i + 1) = tr_gH e h si nd m i := by rw [tr_gH, hb]; rfl
theorem tr_lfH_g {e : tg_ES} {h : tg_MH} {si nd m : Nat} (hm : ∀ i, i < 4 → Nat.testBit m i = !decide (e.1 (256 * si + (4 * nd + i)) = 0)) : ∀ i, i ≤ 4 → tg_lfH e h si nd i = tr_gH e h si nd m i
  | 0, _ => rfl
  | i + 1, hi => by
    have ih := tr_lfH_g (h := h) hm i (by omega)
    have hb := hm i (by omega)
    by_cases q : e.1 (256 * si + (4 * nd + i)) = 0
    · rw [tg_lfH_n q, tr_gH_f (by rw [hb, decide_eq_true q]; rfl), ih]
    · rw [tg_lfH_y q, tr_gH_t (by rw [hb, decide_eq_false q]; rfl), ih]
theorem tr_bkH_g {e : tg_ES} {g : tg_MG} {h : tg_MH} {si nd m : Nat} (hm : ∀ i, i < 4 → Nat.testBit m i = (!decide (e.1 (256 * si + (4 * nd + i)) = 0) && !tg_bkb e g (256 * si + (4 * nd + i)))) : ∀ i, i ≤ 4 → tg_bkH e g h si nd i = tr_gH e h si nd m i
  | 0, _ => rfl
  | i + 1, hi => by
    have ih := tr_bkH_g (h := h) hm i (by omega)
    have hb := hm i (by omega)
    by_cases q : e.1 (256 * si + (4 * nd + i)) = 0
    · rw [tg_bkH_n q, tr_gH_f (by rw [hb, decide_eq_true q]; rfl), ih]
    · cases w : tg_bkb e g (256 * si + (4 * nd + i)) with
      | true => rw [tg_bkH_g w, tr_gH_f (by rw [hb, w]; exact Bool.and_false _), ih]
      | false => rw [tg_bkH_y q w, tr_gH_t (by rw [hb, decide_eq_false q, w]; rfl), ih]
theorem tr_gH_mn {e : tg_ES} {h : tg_MH} {si nd m : Nat} : ∀ i, (tr_gH e h si nd m i).2.2.2.2.2 = tg_ct m i
  | 0 => rfl
  | i + 1 => by
    have ih := tr_gH_mn (e := e) (h := h) (si := si) (nd := nd) (m := m) i
    cases hb : Nat.testBit m i with
    | true => rw [tr_gH_t hb, tg_ct_t hb]; show (tr_gH e h si nd m i).2.2.2.2.2 + 1 = _; rw [ih]
    | false => rw [tr_gH_f hb, tg_ct_f hb]; exact ih
theorem tr_ct_mono (m : Nat) : ∀ d i, tg_ct m i ≤ tg_ct m (i + d)
  | 0, i => Nat.le_refl _
  | d + 1, i => by
    have ih := tr_ct_mono m d i
    show _ ≤ tg_ct m ((i + d) + 1)
    cases hb : Nat.testBit m (i + d) with
    | true => rw [tg_ct_t hb]; omega
    | false => rw [tg_ct_f hb]; exact ih
theorem tr_ct_lt {m i j : Nat} (h : j < i) (hb : Nat.testBit m j = true) : tg_ct m j < tg_ct m i := by
  have h1 := tr_ct_mono m (i - (j + 1)) (j + 1)
  rw [show j + 1 + (i - (j + 1)) = i by omega, tg_ct_t hb] at h1
  omega
theorem tr_gH_at {e : tg_ES} {h : tg_MH} {si nd m : Nat} : ∀ i j, j < i → Nat.testBit m j = true →
    (tr_gH e h si nd m i).2.1 (tg_ct m j) = nI ((256 * si + (4 * nd + j)) % 256) ∧ (tr_gH e h si nd m i).2.2.1 (tg_ct m j) = e.2.1 (256 * si + (4 * nd + j)) ∧ (tr_gH e h si nd m i).2.2.2.1 (tg_ct m j) = e.2.2.1 (256 * si + (4 * nd + j)) ∧ (tr_gH e h si nd m i).2.2.2.2.1 (tg_ct m j) = e.2.2.2 (256 * si + (4 * nd + j))
  | 0, j, hj, _ => absurd hj (Nat.not_lt_zero j)
  | i + 1, j, hj, hb => by
    cases hbi : Nat.testBit m i with
    | false =>
      rw [tr_gH_f hbi]
      have hne : j ≠ i := fun q => by rw [q, hbi] at hb; cases hb
      exact tr_gH_at i j (by omega) hb
    | true =>
      rw [tr_gH_t hbi]
      have hmn := tr_gH_mn (e := e) (h := h) (si := si) (nd := nd) (m := m) i
      show upd _ (tr_gH e h si nd m i).2.2.2.2.2 _ _ = _ ∧ vp_updL _ (tr_gH e h si nd m i).2.2.2.2.2 _ _ = _ ∧ upd _ (tr_gH e h si nd m i).2.2.2.2.2 _ _ = _ ∧ vp_updL _ (tr_gH e h si nd m i).2.2.2.2.2 _ _ = _
      rw [hmn]
      by_cases q : j = i
      · subst q
        rw [pk_us, pk_uLs, pk_us, pk_uLs]
        exact ⟨rfl, rfl, rfl, rfl⟩
      · have hlt : tg_ct m j ≠ tg_ct m i := Nat.ne_of_lt (tr_ct_lt (by omega) hb)
        rw [pk_un hlt, pk_uLn hlt, pk_un hlt, pk_uLn hlt]
        exact tr_gH_at i j (by omega) hb
theorem tr_pc (m : Nat) : tg_ct m 4 = tg_pc m := by
  unfold tg_pc
  rw [tg_ct, tg_ct, tg_ct, tg_ct, tg_ct]
  cases Nat.testBit m 0 <;> cases Nat.testBit m 1 <;> cases Nat.testBit m 2 <;> cases Nat.testBit m 3 <;> rfl
theorem tr_ne2 {x1 : Int32} (h : x1 = nI 2 ∨ x1 = nI 3) : ¬ x1 = nI 0 ∧ ¬ x1 = nI 1 := by
  rcases h with rfl | rfl <;> exact ⟨by decide, by decide⟩
/-- entries are sent -/
theorem tr_sendE {x : tg_SS} {e : tg_ES} {si nd m : Nat} {q : tg_RS} {o : Nat} {r : tg_MR} {s : Nat} {h : tg_MH} {x1 : Int32} (hS : tr_RS x e si) (hI : tr_SI x) (hr : tr_RR q o r s) (ho : o < 100) (hzu : tg_rz q ≤ 100) (hx1 : x1 = nI 2 ∨ x1 = nI 3) (hnd : nd < 64) (hm : m < 16) (hb : ∀ j, j < 4 → Nat.testBit m j = true → tg_has x.2.2.1 (nd * 4 + j) = true) :
    tr_RR (tg_sEr q o x x1 nd m) o (tg_sdR r (tr_gH e h si nd m 4) s x1 (nI 3) (nI nd)) s := by
  have em := tr_mz hr hzu
  by_cases z : tg_rz q < 100
  · have ew : tg_sEr q o x x1 nd m = (upd q.1 ((o + tg_rz q) % 100) x1, upd q.2.1 ((o + tg_rz q) % 100) (nI 3), upd q.2.2.1 ((o + tg_rz q) % 100) (nI nd), upd q.2.2.2.1 ((o + tg_rz q) % 100) (nI m), q.2.2.2.2.1, tg_cpL q.2.2.2.2.2.1 ((o + tg_rz q) % 100) m nd x.1 4, tg_cpL q.2.2.2.2.2.2.1 ((o + tg_rz q) % 100) m nd x.2.1 4, tg_cpI q.2.2.2.2.2.2.2.1 ((o + tg_rz q) % 100) m nd x.2.2.1 4, tg_rz q + 1) := by
      unfold tg_sEr; rw [decide_eq_true z]; rfl
    rw [ew]
    refine tr_add hr ho z rfl (fun p hp => ⟨pk_un hp, pk_un hp, pk_un hp, pk_un hp, fun j hj => ⟨rfl, ?_, ?_, ?_⟩⟩) ?_
    · show tg_cpL _ _ _ _ _ 4 _ = _
      rw [tg_cpL_at, if_neg (by omega)]
    · show tg_cpL _ _ _ _ _ 4 _ = _
      rw [tg_cpL_at, if_neg (by omega)]
    · show tg_cpI _ _ _ _ _ 4 _ = _
      rw [tg_cpI_at, if_neg (by omega)]
    · generalize hp : (o + tg_rz q) % 100 = p
      obtain ⟨s1, s2, s3, s4, s5⟩ := tr_sd_s (r := r) (h := tr_gH e h si nd m 4) (tto := s) (x1 := x1) (x2 := nI 3) (x3 := nI nd) (by omega)
      have eqm : tg_cn (upd q.2.2.2.1 p (nI m) p) = m := by rw [pk_us]; exact tg_cn_nI (by omega)
      have eqn : tg_cn (upd q.2.2.1 p (nI nd) p) = nd := by rw [pk_us]; exact tg_cn_nI (by omega)
      refine ⟨by rw [s1]; exact pk_us.symm, by rw [s2]; exact pk_us.symm, by rw [s3]; exact pk_us.symm, ?_, fun hk => ?_, fun hk => ?_, fun j hj hbj => ?_⟩
      · rw [s4, tr_gH_mn, tr_pc]
        show nI (tg_pc m) = nI (tg_pc (tg_cn (upd q.2.2.2.1 p (nI m) p)))
        rw [eqm]
      · exact absurd ((pk_us (f := q.1) (k := p)).symm.trans hk) (tr_ne2 hx1).1
      · exact absurd ((pk_us (f := q.1) (k := p)).symm.trans hk) (tr_ne2 hx1).2
      · have hbj' : Nat.testBit m j = true := by
          have : Nat.testBit (tg_cn (upd q.2.2.2.1 p (nI m) p)) j = true := hbj
          rw [eqm] at this; exact this
        obtain ⟨g1, g2, g3, g4⟩ := tr_gH_at (e := e) (h := h) (si := si) (nd := nd) (m := m) 4 j hj hbj'
        have hct : tg_ct m j < 4 := Nat.lt_of_le_of_lt (tg_ct_le _ _) hj
        obtain ⟨-, c2, c3, c4, c5⟩ := s5 _ hct
        have hh := hb j hj hbj'
        have e4 : nd * 4 + j = 4 * nd + j := by omega
        rw [e4] at hh
        obtain ⟨-, f2⟩ := hS (4 * nd + j) (by omega)
        obtain ⟨f3, f4, f5⟩ := f2 hh
        have hcut := hI.2.2.1 (4 * nd + j) (by omega) hh
        show (tg_sdR r (tr_gH e h si nd m 4) s x1 (nI 3) (nI nd)).2.2.2.2.2.2.1 (4 * (100 * s + tg_mz r s) + tg_ct (tg_cn (upd q.2.2.2.1 p (nI m) p)) j) = nI (tg_cn (upd q.2.2.1 p (nI nd) p) * 4 + j) ∧
          (tg_sdR r (tr_gH e h si nd m 4) s x1 (nI 3) (nI nd)).2.2.2.2.2.2.2.1 (4 * (100 * s + tg_mz r s) + tg_ct (tg_cn (upd q.2.2.2.1 p (nI m) p)) j) = tg_cpL q.2.2.2.2.2.1 p m nd x.1 4 (p * 4 + j) ∧
          (tg_sdR r (tr_gH e h si nd m 4) s x1 (nI 3) (nI nd)).2.2.2.2.2.2.2.2.1 (4 * (100 * s + tg_mz r s) + tg_ct (tg_cn (upd q.2.2.2.1 p (nI m) p)) j) = tg_cpI q.2.2.2.2.2.2.2.1 p m nd x.2.2.1 4 (p * 4 + j) ∧
          (tg_sdR r (tr_gH e h si nd m 4) s x1 (nI 3) (nI nd)).2.2.2.2.2.2.2.2.2 (4 * (100 * s + tg_mz r s) + tg_ct (tg_cn (upd q.2.2.2.1 p (nI m) p)) j) = tg_cpL q.2.2.2.2.2.2.1 p m nd x.2.1 4 (p * 4 + j) ∧
          tg_hb (tg_cpL q.2.2.2.2.2.2.1 p m nd x.2.1 4 (p * 4 + j)) (tg_cn (tg_cpI q.2.2.2.2.2.2.2.1 p m nd x.2.2.1 4 (p * 4 + j))) = tg_cpL q.2.2.2.2.2.2.1 p m nd x.2.1 4 (p * 4 + j)
        have hin : p * 4 ≤ p * 4 + j ∧ p * 4 + j < p * 4 + 4 ∧ Nat.testBit m (p * 4 + j - p * 4) = true := ⟨by omega, by omega, by rw [Nat.add_sub_cancel_left]; exact hbj'⟩
        rw [eqm, eqn, c2, c3, c4, c5, g1, g2, g3, g4, tg_cpL_at, tg_cpL_at, tg_cpI_at, if_pos hin, if_pos hin, if_pos hin, Nat.add_sub_cancel_left, e4, f3, f4, f5]
        refine ⟨?_, rfl, rfl, rfl, hcut⟩
        congr 1
        omega
  · have ew : tg_sEr q o x x1 nd m = q := by unfold tg_sEr; rw [decide_eq_false z]; rfl
    have er : tg_sdR r (tr_gH e h si nd m 4) s x1 (nI 3) (nI nd) = r := by unfold tg_sdR; rw [decide_eq_false (by omega)]; rfl
    rw [ew, er]
    exact hr
theorem tr_bg {k : Nat} (hk : k < 4) : (4 ^ k - 1) / 3 = tg_bg k := by
  rcases (show k = 0 ∨ k = 1 ∨ k = 2 ∨ k = 3 by omega) with rfl | rfl | rfl | rfl <;> rfl
/-- a list is sent -/
theorem tr_sendL {x : tg_SS} {k nd : Nat} {q : tg_RS} {o : Nat} {r : tg_MR} {s : Nat} {h : tg_MH} {HA : Nat → Int64} (hH : ∀ j, j < 85 → HA j = x.2.2.2.1 j) (hr : tr_RR q o r s) (ho : o < 100) (hzu : tg_rz q ≤ 100) (hk : k < 3) (hnd : nd < 4 ^ k) :
    tr_RR (tg_sLr q o x.2.2.2.1 k nd) o (tg_sdR r (tg_slH h HA (tg_bg (k + 1) + 4 * nd)) s (nI 1) (nI k) (nI nd)) s := by
  have em := tr_mz hr hzu
  obtain ⟨n16, n85, -⟩ := tg_bgl hk hnd
  by_cases z : tg_rz q < 100
  · have ew : tg_sLr q o x.2.2.2.1 k nd = (upd q.1 ((o + tg_rz q) % 100) (nI 1), upd q.2.1 ((o + tg_rz q) % 100) (nI k), upd q.2.2.1 ((o + tg_rz q) % 100) (nI nd), upd q.2.2.2.1 ((o + tg_rz q) % 100) (nI 0), tg_lsH q.2.2.2.2.1 ((o + tg_rz q) % 100) x.2.2.2.1 ((4 ^ (k + 1) - 1) / 3 + nd * 4) 4, q.2.2.2.2.2.1, q.2.2.2.2.2.2.1, q.2.2.2.2.2.2.2.1, tg_rz q + 1) := by
      unfold tg_sLr; rw [decide_eq_true z]; rfl
    rw [ew]
    refine tr_add hr ho z rfl (fun p hp => ⟨pk_un hp, pk_un hp, pk_un hp, pk_un hp, fun j hj => ⟨?_, rfl, rfl, rfl⟩⟩) ?_
    · show tg_lsH _ _ _ _ 4 _ = _
      rw [tg_lsH_at, if_neg (by omega)]
    · generalize hp : (o + tg_rz q) % 100 = p
      obtain ⟨s1, s2, s3, s4, s5⟩ := tr_sd_s (r := r) (h := tg_slH h HA (tg_bg (k + 1) + 4 * nd)) (tto := s) (x1 := nI 1) (x2 := nI k) (x3 := nI nd) (by omega)
      have eqm : tg_cn (upd q.2.2.2.1 p (nI 0) p) = 0 := by rw [pk_us]; exact tg_cn_nI (by omega)
      refine ⟨by rw [s1]; exact pk_us.symm, by rw [s2]; exact pk_us.symm, by rw [s3]; exact pk_us.symm, ?_, fun hk => ?_, fun hk j hj => ?_, fun j hj hbj => ?_⟩
      · rw [s4]
        show nI 0 = nI (tg_pc (tg_cn (upd q.2.2.2.1 p (nI 0) p)))
        rw [eqm]; rfl
      · exact absurd ((pk_us (f := q.1) (k := p)).symm.trans hk) (by decide)
      · rw [(s5 j hj).1]
        show tg_lc h.1 _ 4 j = tg_lsH q.2.2.2.2.1 p x.2.2.2.1 ((4 ^ (k + 1) - 1) / 3 + nd * 4) 4 (p * 4 + j)
        rw [tg_lc_at _ _ 4 j hj, tg_lsH_at, if_pos (by omega), Nat.add_sub_cancel_left, tr_bg (by omega), show tg_bg (k + 1) + nd * 4 + j = tg_bg (k + 1) + 4 * nd + j by omega]
        exact hH _ (by omega)
      · have : Nat.testBit (tg_cn (upd q.2.2.2.1 p (nI 0) p)) j = true := hbj
        rw [eqm, Nat.zero_testBit] at this
        cases this
  · have ew : tg_sLr q o x.2.2.2.1 k nd = q := by unfold tg_sLr; rw [decide_eq_false z]; rfl
    have er : tg_sdR r (tg_slH h HA (tg_bg (k + 1) + 4 * nd)) s (nI 1) (nI k) (nI nd) = r := by unfold tg_sdR; rw [decide_eq_false (by omega)]; rfl
    rw [ew, er]
    exact hr
/-- the entries got, merged on both sides -/
def tr_Gt (g : tg_MG) (m nd pl : Nat) (qs qw : Nat → Int64) (ql : Nat → Int32) : Prop := g.2.2.2.2.2 = tg_pc m ∧ ∀ j, j < 4 → Nat.testBit m j = true →
  g.2.1 (tg_ct m j) = nI (nd * 4 + j) ∧ g.2.2.1 (tg_ct m j) = qs (pl * 4 + j) ∧ g.2.2.2.1 (tg_ct m j) = ql (pl * 4 + j) ∧ g.2.2.2.2.1 (tg_ct m j) = qw (pl * 4 + j) ∧ tg_hb (qw (pl * 4 + j)) (tg_cn (ql (pl * 4 + j))) = qw (pl * 4 + j)
theorem tr_merge {x y : tg_SS} {e : tg_ES} {si m nd pl : Nat} {qs qw : Nat → Int64} {ql : Nat → Int32} {g : tg_MG} (hsi : si ≤ 1) (hx : tr_RS x e si) (hI : tr_SI x) (hy : tr_RS y e (1 - si)) (hg : tr_Gt g m nd pl qs qw ql) (hok : tg_okM pl m ql) (hnd : nd < 64) : ∀ i, i ≤ 4 →
    tr_RS (tg_mA x pl m nd qs qw ql i) (tg_rmA e si g.2.1 g.2.2.1 g.2.2.2.1 g.2.2.2.2.1 (tg_ct m i)) si ∧ tr_SI (tg_mA x pl m nd qs qw ql i) ∧ tr_RS y (tg_rmA e si g.2.1 g.2.2.1 g.2.2.2.1 g.2.2.2.2.1 (tg_ct m i)) (1 - si)
  | 0, _ => ⟨hx, hI, hy⟩
  | i + 1, hi => by
    obtain ⟨h1, h2, h3⟩ := tr_merge hsi hx hI hy hg hok hnd i (by omega)
    cases hb : Nat.testBit m i with
    | false => rw [tg_mA_f hb, tg_ct_f hb]; exact ⟨h1, h2, h3⟩
    | true =>
      obtain ⟨g1, g2, g3, g4, g5⟩ := hg.2 i (by omega) hb
      obtain ⟨k1, k2⟩ := hok i (by omega) hb
      rw [tg_mA_t hb, tg_ct_t hb]
      show tr_RS _ (tg_rmS (tg_rmA e si g.2.1 g.2.2.1 g.2.2.2.1 g.2.2.2.2.1 (tg_ct m i)) (256 * si + tg_cn (g.2.1 (tg_ct m i))) (g.2.2.1 (tg_ct m i)) (tg_cn (g.2.2.2.1 (tg_ct m i))) (g.2.2.2.2.1 (tg_ct m i))) si ∧ _ ∧ tr_RS y (tg_rmS (tg_rmA e si g.2.1 g.2.2.1 g.2.2.2.1 g.2.2.2.2.1 (tg_ct m i)) (256 * si + tg_cn (g.2.1 (tg_ct m i))) (g.2.2.1 (tg_ct m i)) (tg_cn (g.2.2.2.1 (tg_ct m i))) (g.2.2.2.2.1 (tg_ct m i))) (1 - si)
      rw [g1, g2, g3, g4, tg_cn_nI (show nd * 4 + i < 2 ^ 31 by omega)]
      have a1 := tr_RSm h1 h2 (show nd * 4 + i < 256 by omega) k2 (qs (pl * 4 + i)) (qw (pl * 4 + i))
      rw [g5] at a1
      exact ⟨a1, tr_SIm h2 (show nd * 4 + i < 256 by omega) k2 (qs (pl * 4 + i)) (qw (pl * 4 + i)) g5, tr_RSo h3 (by omega) (show nd * 4 + i < 256 by omega) _ _⟩
/-- is an entry among those got -/
theorem tr_got {x : tg_SS} {e : tg_ES} {si m nd pl : Nat} {qs qw : Nat → Int64} {ql : Nat → Int32} {g : tg_MG} (hx : tr_RS x e si) (hg : tr_Gt g m nd pl qs qw ql) (hnd : nd < 64) (hsi : si ≤ 1) {j : Nat} (hj : j < 4) (hh : tg_has x.2.2.1 (nd * 4 + j) = true) : ∀ i, i ≤ 4 →
    tg_ig e (256 * si + (4 * nd + j)) g.2.1 g.2.2.1 g.2.2.2.1 g.2.2.2.2.1 (tg_ct m i) = (decide (j < i) && tg_kn x pl m nd qs qw ql j)
  | 0, _ => by rw [decide_eq_false (Nat.not_lt_zero j)]; rfl
  | i + 1, hi => by
    have ih := tr_got hx hg hnd hsi hj hh i (by omega)
    cases hb : Nat.testBit m i with
    | false =>
      rw [tg_ct_f hb, ih]
      by_cases q : j = i
      · subst q
        rw [tg_kn_f1 hb, Bool.and_false, Bool.and_false]
      · rw [show decide (j < i) = decide (j < i + 1) from decide_eq_decide.mpr (by omega)]
    | true =>
      obtain ⟨g1, g2, g3, g4, -⟩ := hg.2 i (by omega) hb
      rw [tg_ct_t hb, tg_ig, ih]
      unfold tg_ig1
      rw [g1, g2, g3, g4, show (256 * si + (4 * nd + j)) % 256 = nd * 4 + j by omega]
      have e4 : nd * 4 + j = 4 * nd + j := by omega
      rw [e4] at hh
      obtain ⟨-, f2⟩ := hx (4 * nd + j) (by omega)
      obtain ⟨f3, f4, f5⟩ := f2 hh
      rw [f3, f4, f5]
      by_cases q : j = i
      · subst q
        rw [decide_eq_false (Nat.lt_irrefl j), decide_eq_true (Nat.lt_succ_self j), Bool.false_and, Bool.false_or, Bool.true_and, decide_eq_true (show nI (nd * 4 + j) = nI (nd * 4 + j) from rfl), Bool.true_and]
        unfold tg_kn tg_js
        rw [hb, Bool.true_and, e4]
        have c1 : decide (qs (pl * 4 + j) = x.1 (4 * nd + j)) = decide (x.1 (4 * nd + j) = qs (pl * 4 + j)) := decide_eq_decide.mpr eq_comm
        have c2 : decide (ql (pl * 4 + j) = x.2.2.1 (4 * nd + j)) = decide (x.2.2.1 (4 * nd + j) = ql (pl * 4 + j)) := decide_eq_decide.mpr eq_comm
        have c3 : decide (qw (pl * 4 + j) = x.2.1 (4 * nd + j)) = decide (x.2.1 (4 * nd + j) = qw (pl * 4 + j)) := decide_eq_decide.mpr eq_comm
        rw [c1, c2, c3]
        cases decide (x.1 (4 * nd + j) = qs (pl * 4 + j)) <;> cases decide (x.2.2.1 (4 * nd + j) = ql (pl * 4 + j)) <;> cases decide (x.2.1 (4 * nd + j) = qw (pl * 4 + j)) <;> rfl
      · rw [decide_eq_false (show ¬ nI (nd * 4 + i) = nI (nd * 4 + j) from fun w => q (by have := (nI_eq (by omega) (by omega)).mp w; omega)), Bool.false_and, Bool.or_false, show decide (j < i) = decide (j < i + 1) from decide_eq_decide.mpr (by omega)]
