/-! ===== the whole relation; every call keeps it ===== -/
def tg_ow (t : tg_TT) (si : Nat) : tg_SS := cond (decide (si = 0)) t.1 t.2.1
def tg_setS (t : tg_TT) (si : Nat) (x : tg_SS) : tg_TT := cond (decide (si = 0)) (x, t.2) (t.1, x, t.2.2)
def tg_rw0 (t : tg_TT) (si : Nat) : tg_RS := cond (decide (si = 0)) t.2.2.1 t.2.2.2.2.1
def tg_ro (t : tg_TT) (si : Nat) : Nat := cond (decide (si = 0)) t.2.2.2.1 t.2.2.2.2.2.1
def tg_setQ (t : tg_TT) (si : Nat) (q : tg_RS) (w : Nat) : tg_TT := cond (decide (si = 0)) (t.1, t.2.1, q, w, t.2.2.2.2) (t.1, t.2.1, t.2.2.1, t.2.2.2.1, q, w, t.2.2.2.2.2.2)
def tg_sk (r : tg_RS) (o : Nat) (v : Int64) : tg_RS := cond (decide (tg_rz r < 100)) (upd r.1 ((o + tg_rz r) % 100) (nI 0), upd r.2.1 ((o + tg_rz r) % 100) (nI 0), upd r.2.2.1 ((o + tg_rz r) % 100) (nI 0), upd r.2.2.2.1 ((o + tg_rz r) % 100) (nI 0), vp_updL r.2.2.2.2.1 ((o + tg_rz r) % 100 * 4) v, r.2.2.2.2.2.1, r.2.2.2.2.2.2.1, r.2.2.2.2.2.2.2.1, tg_rz r + 1) r
def tg_stT (t : tg_TT) (si : Nat) : tg_TT := cond (decide (si = 0)) (t.1, t.2.1, t.2.2.1, t.2.2.2.1, tg_sk t.2.2.2.2.1 t.2.2.2.2.2.1 (t.1.2.2.2.1 0), t.2.2.2.2.2.1, tg_cS t.2.2.2.2.2.2 (tg_rz t.2.2.2.2.1) 0) (t.1, t.2.1, tg_sk t.2.2.1 t.2.2.2.1 (t.2.1.2.2.2.1 0), t.2.2.2.1, t.2.2.2.2.1, t.2.2.2.2.2.1, tg_cS t.2.2.2.2.2.2 (tg_rz t.2.2.1) 0)
def tr_Rel (t : tg_TT) (e : tg_ES) (R : tg_MR) (C : tg_CT) : Prop := tr_RS t.1 e 0 ∧ tr_RS t.2.1 e 1 ∧ tr_SI t.1 ∧ tr_SI t.2.1 ∧ tr_RR t.2.2.1 t.2.2.2.1 R 0 ∧ tr_RR t.2.2.2.2.1 t.2.2.2.2.2.1 R 1 ∧ C = t.2.2.2.2.2.2 ∧ tg_Inv t
def tr_M (t : tg_TT) (m : tg_MM) : Prop := tr_Rel t m.1 m.2.2.2.1.1 m.2.2.2.1.2.2
theorem tr_c01 {P : Nat → Prop} (h0 : P 0) (h1 : P 1) {si : Nat} (h : si ≤ 1) : P si := by
  rcases (show si = 0 ∨ si = 1 by omega) with rfl | rfl
  · exact h0
  · exact h1
theorem tr_ow {t : tg_TT} {e : tg_ES} {R : tg_MR} {C : tg_CT} (h : tr_Rel t e R C) {si : Nat} (hsi : si ≤ 1) : tr_RS (tg_ow t si) e si ∧ tr_SI (tg_ow t si) ∧ tg_okL (tg_ow t si).2.2.1 := by
  obtain ⟨h1, h2, h3, h4, -, -, -, i1, i2, -⟩ := h
  exact tr_c01 (P := fun si => tr_RS (tg_ow t si) e si ∧ tr_SI (tg_ow t si) ∧ tg_okL (tg_ow t si).2.2.1) ⟨h1, h3, i1⟩ ⟨h2, h4, i2⟩ hsi
theorem tr_rw {t : tg_TT} {e : tg_ES} {R : tg_MR} {C : tg_CT} (h : tr_Rel t e R C) {si : Nat} (hsi : si ≤ 1) : tr_RR (tg_rw0 t si) (tg_ro t si) R si ∧ tg_okR (tg_rw0 t si) (tg_ro t si) ∧ tg_mz R si = tg_rz (tg_rw0 t si) := by
  obtain ⟨-, -, -, -, h5, h6, -, -, -, i3, i4⟩ := h
  exact tr_c01 (P := fun si => tr_RR (tg_rw0 t si) (tg_ro t si) R si ∧ tg_okR (tg_rw0 t si) (tg_ro t si) ∧ tg_mz R si = tg_rz (tg_rw0 t si)) ⟨h5, i3, tr_mz h5 i3.2.1⟩ ⟨h6, i4, tr_mz h6 i4.2.1⟩ hsi
theorem tr_okz {t : tg_TT} {e : tg_ES} {R : tg_MR} {C : tg_CT} (h : tr_Rel t e R C) : tg_okMz R ∧ tg_okE e.1 e.2.2.1 := by
  obtain ⟨h1, h2, -, -, h5, h6, -, i1, i2, i3, i4⟩ := h
  exact ⟨tr_okMz h5 h6 i3.2.1 i4.2.1, tr_okE h1 h2 i1 i2⟩
theorem tr_put {t : tg_TT} {e : tg_ES} {R : tg_MR} {C : tg_CT} (h : tr_Rel t e R C) {si k n : Nat} (hsi : si ≤ 1) (hk : k < 256) (hn : n ≤ 8) (s1 v : Int64) : tg_rin e.1 e.2.1 e.2.2.1 e.2.2.2 (256 * si + k) s1 n v = tg_in (tg_ow t si).1 (tg_ow t si).2.1 (tg_ow t si).2.2.1 k s1 (tg_hb v n) (nI n) ∧ tr_Rel (tg_setS t si (tg_mS (tg_ow t si) k s1 (tg_hb v n) n)) (tg_rmS e (256 * si + k) s1 n v) R C := by
  obtain ⟨o1, o2, o3⟩ := tr_ow h hsi
  refine ⟨tr_in o1 o2 hk hn s1 v, ?_⟩
  have g1 := tr_RSm o1 o2 hk hn s1 v
  have g2 := tr_SIm o2 hk hn s1 (tg_hb v n) (tb_hbi v hn)
  have g3 := tg_mS_ok o3 k s1 (tg_hb v n) hn
  obtain ⟨h1, h2, h3, h4, h5, h6, h7, i1, i2, i3, i4⟩ := h
  rcases (show si = 0 ∨ si = 1 by omega) with rfl | rfl
  · exact ⟨g1, tr_RSo h2 (by decide) hk s1 v, g2, h4, h5, h6, h7, g3, i2, i3, i4⟩
  · exact ⟨tr_RSo h1 (by decide) hk s1 v, g1, h3, g2, h5, h6, h7, i1, g3, i3, i4⟩
theorem tr_get {x : tg_SS} {e : tg_ES} {si k wh : Nat} (h : tr_RS x e si) (hok : tg_okL x.2.2.1) (hk : k < 256) (hwh : wh < 9) : tg_mgt e (256 * si + k) wh = tg_gtv x k wh := by
  obtain ⟨h1, h2⟩ := h k hk
  unfold tg_mgt tg_gtv
  rw [h1]
  cases q : tg_has x.2.2.1 k with
  | false =>
    have e1 : x.2.2.1 k = -1 := by
      have := of_decide_eq_false q
      exact Decidable.byContradiction this
    rw [if_pos (Or.inl (show tg_b false = 0 from rfl)), e1]
    by_cases w : wh = 0
    · rw [if_pos w]
    · rw [if_neg w, if_pos]
      intro z
      have h9 := Int32.le_iff_toInt_le.mp z
      rw [nI_toInt (by omega)] at h9
      have : (-1 : Int32).toInt = -1 := by decide
      omega
  | true =>
    obtain ⟨g1, g2, g3⟩ := h2 q
    obtain ⟨k1, k2⟩ := hok k hk (of_decide_eq_true q)
    rw [g2, g3]
    have ht : ¬ tg_b true = 0 := by decide
    by_cases w : wh = 0
    · rw [if_neg (fun z => z.elim ht (fun u => u (by rw [w, k1]; exact nI_le (Nat.zero_le _) (by omega)))), if_pos w, if_pos w]
    · rw [if_neg w, if_neg w]
      by_cases u : nI wh ≤ x.2.2.1 k
      · rw [if_neg (fun z => z.elim ht (fun y => y u)), if_neg (fun y => y u)]
      · rw [if_pos (Or.inr u), if_pos u]
theorem tr_stamp {x : tg_SS} {e : tg_ES} {si k : Nat} (h : tr_RS x e si) (hk : k < 256) : cond (decide (e.1 (256 * si + k) = 0)) 0 (e.2.1 (256 * si + k)) = cond (tg_has x.2.2.1 k) (x.1 k) 0 := by
  obtain ⟨h1, h2⟩ := h k hk
  rw [h1, tr_b0]
  cases q : tg_has x.2.2.1 k with
  | false => rfl
  | true => exact (h2 q).1
theorem tr_hashp {x : tg_SS} {e : tg_ES} {si k nd : Nat} (h : tr_RS x e si) (hI : tr_SI x) (ha : Nat → Int64) (hk : k < 4) (hnd : nd < 4 ^ k) : tg_haA e si ha (tg_bg k + nd) = x.2.2.2.1 ((4 ^ k - 1) / 3 + nd) := by
  rw [tr_bg hk]
  exact tr_hash h hI ha (tg_bgn hk hnd)
/-- an ask is sent -/
theorem tr_sendA {q : tg_RS} {o : Nat} {r : tg_MR} {s : Nat} {h : tg_MH} {v : Int64} (hr : tr_RR q o r s) (ho : o < 100) (hzu : tg_rz q ≤ 100) : tr_RR (tg_sk q o v) o (tg_sdR r (tg_stH h v) s (nI 0) (nI 0) (nI 0)) s := by
  have em := tr_mz hr hzu
  by_cases z : tg_rz q < 100
  · have ew : tg_sk q o v = (upd q.1 ((o + tg_rz q) % 100) (nI 0), upd q.2.1 ((o + tg_rz q) % 100) (nI 0), upd q.2.2.1 ((o + tg_rz q) % 100) (nI 0), upd q.2.2.2.1 ((o + tg_rz q) % 100) (nI 0), vp_updL q.2.2.2.2.1 ((o + tg_rz q) % 100 * 4) v, q.2.2.2.2.2.1, q.2.2.2.2.2.2.1, q.2.2.2.2.2.2.2.1, tg_rz q + 1) := by
      unfold tg_sk; rw [decide_eq_true z]; rfl
    rw [ew]
    refine tr_add hr ho z rfl (fun p hp => ⟨pk_un hp, pk_un hp, pk_un hp, pk_un hp, fun j hj => ⟨pk_uLn (by omega), rfl, rfl, rfl⟩⟩) ?_
    generalize hp : (o + tg_rz q) % 100 = p
    obtain ⟨s1, s2, s3, s4, s5⟩ := tr_sd_s (r := r) (h := tg_stH h v) (tto := s) (x1 := nI 0) (x2 := nI 0) (x3 := nI 0) (by omega)
    have eqm : tg_cn (upd q.2.2.2.1 p (nI 0) p) = 0 := by rw [pk_us]; exact tg_cn_nI (by omega)
    refine ⟨by rw [s1]; exact pk_us.symm, by rw [s2]; exact pk_us.symm, by rw [s3]; exact pk_us.symm, ?_, fun hk => ?_, fun hk => ?_, fun j hj hbj => ?_⟩
    · rw [s4]
      show nI 0 = nI (tg_pc (tg_cn (upd q.2.2.2.1 p (nI 0) p)))
      rw [eqm]; rfl
    · rw [(s5 0 (by omega)).1]
      show vp_updL h.1 0 v 0 = vp_updL q.2.2.2.2.1 (p * 4) v (p * 4)
      rw [pk_uLs, pk_uLs]
    · exact absurd ((pk_us (f := q.1) (k := p)).symm.trans hk) (by decide)
    · have : Nat.testBit (tg_cn (upd q.2.2.2.1 p (nI 0) p)) j = true := hbj
      rw [eqm, Nat.zero_testBit] at this
      cases this
  · have ew : tg_sk q o v = q := by unfold tg_sk; rw [decide_eq_false z]; rfl
    have er : tg_sdR r (tg_stH h v) s (nI 0) (nI 0) (nI 0) = r := by unfold tg_sdR; rw [decide_eq_false (by omega)]; rfl
    rw [ew, er]
    exact hr
theorem tr_sk_ok {q : tg_RS} {o : Nat} {v : Int64} (h : tg_okR q o) : tg_okR (tg_sk q o v) o := by
  unfold tg_sk
  by_cases z : tg_rz q < 100
  · rw [decide_eq_true z]
    refine ⟨h.1, by show tg_rz q + 1 ≤ 100; omega, fun i hi => ?_⟩
    have hi' : i < tg_rz q + 1 := hi
    by_cases e : i = tg_rz q
    · subst e
      unfold tg_okG tg_qm tg_qn tg_ql
      show upd q.2.2.2.1 _ _ _ = nI (tg_cn (upd q.2.2.2.1 _ _ _)) ∧ tg_cn (upd q.2.2.2.1 _ _ _) < 16 ∧ upd q.2.2.1 _ _ _ = nI (tg_cn (upd q.2.2.1 _ _ _)) ∧ tg_cn (upd q.2.2.1 _ _ _) < 64 ∧ tg_okM _ (tg_cn (upd q.2.2.2.1 _ _ _)) q.2.2.2.2.2.2.2.1 ∧ (upd q.1 _ _ _ = nI 0 ∨ _)
      rw [pk_us, pk_us, pk_us, tg_cn_nI (n := 0) (by decide)]
      exact ⟨rfl, by decide, rfl, by decide, fun i hi hb => (by rw [Nat.zero_testBit] at hb; cases hb), Or.inl rfl⟩
    · have hne := tg_place_ne h.1 z (show i < tg_rz q by omega)
      exact tg_okG_keep (h.2.2 i (by omega)) (pk_un hne) (pk_un hne) (pk_un hne) (pk_un hne) (fun _ _ => rfl)
  · rw [decide_eq_false z]; exact h
theorem tr_start {t : tg_TT} {e : tg_ES} {R : tg_MR} {C : tg_CT} (h : tr_Rel t e R C) {si : Nat} (hsi : si ≤ 1) (H : tg_MH) {v : Int64} (hv : v = (tg_ow t si).2.2.2.1 0) : tg_mz R (1 - si) = tg_rz (tg_rw0 t (1 - si)) ∧ tr_Rel (tg_stT t si) e (tg_sdX (R, tg_stH H v, C) (1 - si) (nI 0) (nI 0) (nI 0)).1 (tg_sdX (R, tg_stH H v, C) (1 - si) (nI 0) (nI 0) (nI 0)).2.2 := by
  have em := (tr_rw h (si := 1 - si) (by omega)).2.2
  refine ⟨em, ?_⟩
  obtain ⟨h1, h2, h3, h4, h5, h6, h7, i1, i2, i3, i4⟩ := h
  have z0 := tr_mz h5 i3.2.1
  have z1 := tr_mz h6 i4.2.1
  subst hv
  subst h7
  rcases (show si = 0 ∨ si = 1 by omega) with rfl | rfl
  · refine ⟨h1, h2, h3, h4, tr_sdo h5 (by decide) (by decide) i3.2.1 (by show tg_mz R 1 ≤ 100; rw [z1]; exact i4.2.1), tr_sendA h6 i4.1 i4.2.1, ?_, i1, i2, i3, tr_sk_ok i4⟩
    show tg_sdC t.2.2.2.2.2.2 (tg_mz R 1) 0 = tg_cS t.2.2.2.2.2.2 (tg_rz t.2.2.2.2.1) 0
    rw [z1]; rfl
  · refine ⟨h1, h2, h3, h4, tr_sendA h5 i3.1 i3.2.1, tr_sdo h6 (by decide) (by decide) i4.2.1 (by show tg_mz R 0 ≤ 100; rw [z0]; exact i3.2.1), ?_, i1, i2, tr_sk_ok i3, i4⟩
    show tg_sdC t.2.2.2.2.2.2 (tg_mz R 0) 0 = tg_cS t.2.2.2.2.2.2 (tg_rz t.2.2.1) 0
    rw [z0]; rfl
/-- a message is got -/
theorem tr_step {t : tg_TT} {m : tg_MM} (h : tr_M t m) {si : Nat} (hsi : si ≤ 1) (hz : 0 < tg_rz (tg_rw0 t si)) : (tg_gw t si).1 = m.2.2.2.1.1.2.1 (100 * si) ∧ tr_M (tg_gw t si).2 (tg_tkM m si) := by
  have hInv := tg_Inv_go h.2.2.2.2.2.2.2 si
  obtain ⟨h1, h2, h3, h4, h5, h6, h7, i1, i2, i3, i4⟩ := h
  rcases (show si = 0 ∨ si = 1 by omega) with rfl | rfl
  · have k := tr_take (x := t.1) (y := t.2.1) (c := t.2.2.2.2.2.2) (m := m) hsi ⟨h1, h2, h3, h5, h6, h7⟩ i3 i4 hz
    obtain ⟨k0, k1, k2, k3, k4, k5, k6⟩ := k
    exact ⟨k0, k1, k2, k3, h4, k4, k5, k6, hInv⟩
  · have k := tr_take (x := t.2.1) (y := t.1) (c := t.2.2.2.2.2.2) (m := m) hsi ⟨h2, h1, h4, h6, h5, h7⟩ i4 i3 hz
    obtain ⟨k0, k1, k2, k3, k4, k5, k6⟩ := k
    exact ⟨k0, k2, k1, h3, k3, k5, k4, k6, hInv⟩
theorem tr_step0 {t : tg_TT} {si : Nat} (hsi : si ≤ 1) (hz : tg_rz (tg_rw0 t si) = 0) : tg_gw t si = (-1, t) := by
  rcases (show si = 0 ∨ si = 1 by omega) with rfl | rfl
  · have hz' : tg_rz t.2.2.1 = 0 := hz
    rw [tg_gw_0, tg_rcv_e hz']; rfl
  · have hz' : tg_rz t.2.2.2.2.1 = 0 := hz
    rw [tg_gw_1, tg_rcv_e hz']; rfl
theorem tr_kind {t : tg_TT} {e : tg_ES} {R : tg_MR} {C : tg_CT} (h : tr_Rel t e R C) {si : Nat} (hsi : si ≤ 1) (hz : 0 < tg_rz (tg_rw0 t si)) : tg_okTk R (100 * si) ∧ ¬ R.2.1 (100 * si) = -1 := by
  obtain ⟨h1, h2, -⟩ := tr_rw h hsi
  have hg := tg_okR_g h2 hz
  have hM := h1.2 0 hz
  rw [Nat.add_zero, Nat.mod_eq_of_lt h2.1, Nat.add_zero] at hM
  have hk := tr_okTk hM hg
  refine ⟨hk, ?_⟩
  rcases hk.2.2.2.2 with q | ⟨q, -⟩ | q | q <;> (rw [q]; decide)
theorem tr_run (n : Nat) : ∀ (f u got : Nat) (t : tg_TT) (m : tg_MM), tr_M t m → (tg_rl n f u got t).1 = (tg_mr n f u got m).1 ∧ tr_M (tg_rl n f u got t).2 (tg_mr n f u got m).2
  | 0, u, got, t, m, h => ⟨rfl, h⟩
  | f + 1, u, got, t, m, h => by
    have hz0 := (tr_rw h (si := 0) (by decide)).2.2
    have hz1 := (tr_rw h (si := 1) (by decide)).2.2
    have e0 : tg_rz (tg_rw0 t 0) = tg_rz t.2.2.1 := rfl
    have e1 : tg_rz (tg_rw0 t 1) = tg_rz t.2.2.2.2.1 := rfl
    by_cases hg : got < n
    · by_cases hs : 0 < tg_rz t.2.2.1 ∨ 0 < tg_rz t.2.2.2.2.1
      · have hs' : 0 < tg_mz m.2.2.2.1.1 0 + tg_mz m.2.2.2.1.1 1 := by omega
        have hu : u % 2 ≤ 1 := by omega
        have hzu := (tr_rw h hu).2.2
        rw [tg_rl_go hg hs]
        by_cases z : 0 < tg_rz (tg_rw0 t (u % 2))
        · obtain ⟨k1, k2⟩ := tr_step h hu z
          rw [tg_mr_y hg hs' (by omega), decide_eq_false (by rw [k1]; exact (tr_kind h hu z).2)]
          exact tr_run n f (u + 1) (got + 1) _ _ k2
        · rw [tg_mr_n hg hs' (by omega), tr_step0 hu (by omega)]
          exact tr_run n f (u + 1) got t m h
      · rw [tg_rl_stop (Or.inr (Or.inr (by omega))), tg_mr_stop (Or.inr (by omega))]
        exact ⟨rfl, h⟩
    · rw [tg_rl_stop (Or.inr (Or.inl (by omega))), tg_mr_stop (Or.inl (by omega))]
      exact ⟨rfl, h⟩
theorem tr_lose {t : tg_TT} {e : tg_ES} {R : tg_MR} {C : tg_CT} (h : tr_Rel t e R C) {si : Nat} (hsi : si ≤ 1) (hz : 0 < tg_rz (tg_rw0 t si)) : (tg_rw0 t si).1 (tg_ro t si) = R.2.1 (100 * si) ∧ tr_Rel (tg_setQ t si (tg_pop (tg_rw0 t si)) ((tg_ro t si + 1) % 100)) e (tg_drR R si) C := by
  obtain ⟨a1, a2, a3⟩ := tr_rw h hsi
  have hM := a1.2 0 hz
  rw [Nat.add_zero, Nat.mod_eq_of_lt a2.1, Nat.add_zero] at hM
  refine ⟨hM.1.symm, ?_⟩
  have b1 := tr_drop a1 hz a2.2.1
  have b2 := tg_okR_pop a2
  obtain ⟨h1, h2, h3, h4, h5, h6, h7, i1, i2, i3, i4⟩ := h
  rcases (show si = 0 ∨ si = 1 by omega) with rfl | rfl
  · exact ⟨h1, h2, h3, h4, b1, tr_dropo h6 (by decide) rfl i4.2.1 (by rw [a3]; exact a2.2.1), h7, i1, i2, b2, i4⟩
  · exact ⟨h1, h2, h3, h4, tr_dropo h5 (by decide) rfl i3.2.1 (by rw [a3]; exact a2.2.1), b1, h7, i1, i2, i3, b2⟩
/-- the key of the ix-th entry -/
theorem tr_kf {m nd ix : Nat} {g : Nat → Int32} (hg : ∀ j, j < 4 → Nat.testBit m j = true → g (tg_ct m j) = nI (nd * 4 + j)) : ∀ f i, i + f = 4 → tg_ct m i ≤ ix → tg_kf m nd ix f i = cond (decide (ix < tg_pc m)) (g ix) (-1)
  | 0, i, hi, hc => by
    have : i = 4 := by omega
    subst this
    rw [tr_pc] at hc
    rw [decide_eq_false (by omega)]
    rfl
  | f + 1, i, hi, hc => by
    cases hb : Nat.testBit m i with
    | false =>
      rw [tg_kf_f hb]
      exact tr_kf hg f (i + 1) (by omega) (by rw [tg_ct_f hb]; exact hc)
    | true =>
      by_cases q : tg_ct m i = ix
      · have hlt : tg_ct m i < tg_pc m := by rw [← tr_pc]; exact tr_ct_lt (by omega) hb
        rw [tg_kf_y hb q, decide_eq_true (by omega), ← q]
        exact (hg i (by omega) hb).symm
      · rw [tg_kf_n hb q]
        exact tr_kf hg f (i + 1) (by omega) (by rw [tg_ct_t hb]; omega)
theorem tr_msg {t : tg_TT} {e : tg_ES} {R : tg_MR} {C : tg_CT} (h : tr_Rel t e R C) {si k : Nat} (hsi : si ≤ 1) (hk : k < tg_rz (tg_rw0 t si)) : tr_RM (tg_rw0 t si) ((tg_ro t si + k) % 100) R (100 * si + k) ∧ tg_okG (tg_rw0 t si) ((tg_ro t si + k) % 100) ∧ tg_pc (tg_qm (tg_rw0 t si) ((tg_ro t si + k) % 100)) ≤ 4 := by
  obtain ⟨a1, a2, a3⟩ := tr_rw h hsi
  exact ⟨a1.2 k hk, a2.2.2 k hk, by rw [← tr_pc]; exact tg_ct_le _ _⟩
theorem tr_msg4 {q : tg_RS} {p : Nat} {R : tg_MR} {P ix : Nat} (h : tr_RM q p R P) : tg_kf (tg_qm q p) (tg_qn q p) ix 4 0 = cond (decide (ix < tg_pc (tg_qm q p))) (R.2.2.2.2.2.2.1 (4 * P + ix)) (-1) :=
  tr_kf (g := fun i => R.2.2.2.2.2.2.1 (4 * P + i)) (fun j hj hb => (h.2.2.2.2.2.2 j hj hb).1) 4 0 rfl (Nat.zero_le _)
theorem tr_same {x y : tg_SS} {e : tg_ES} (h0 : tr_RS x e 0) (h1 : tr_RS y e 1) (hx : tr_SI x) (hy : tr_SI y) : ∀ n, n ≤ 256 → tg_sa e n = tg_sm x y n
  | 0, _ => rfl
  | n + 1, hn => by
    have ih := tr_same h0 h1 hx hy n (by omega)
    rw [tg_sa, tg_sm, ih]
    have key : tg_sa1 e n = tg_js y.1 y.2.1 y.2.2.1 n (x.1 n) (x.2.1 n) (x.2.2.1 n) := by
      obtain ⟨a1, a2⟩ := h0 n (by omega)
      obtain ⟨b1, b2⟩ := h1 n (by omega)
      rw [show 256 * 0 + n = n by omega] at a1 a2
      rw [show 256 * 1 + n = 256 + n by omega] at b1 b2
      unfold tg_sa1 tg_js
      rw [a1, b1, tr_b0]
      cases p : tg_has x.2.2.1 n with
      | false =>
        have ex : x.2.2.1 n = -1 := Decidable.byContradiction (of_decide_eq_false p)
        cases q : tg_has y.2.2.1 n with
        | false =>
          have ey : y.2.2.1 n = -1 := Decidable.byContradiction (of_decide_eq_false q)
          obtain ⟨z1, z2⟩ := hx.2.1 n (by omega) p
          obtain ⟨z3, z4⟩ := hy.2.1 n (by omega) q
          rw [ex, ey, z1, z2, z3, z4, decide_eq_true (show tg_b false = tg_b false from rfl), decide_eq_true (show (-1 : Int32) = -1 from rfl), decide_eq_true (show (0 : Int64) = 0 from rfl)]
          rfl
        | true =>
          have ey := of_decide_eq_true q
          rw [ex, decide_eq_false ey, decide_eq_false (show ¬ tg_b false = tg_b true by decide), Bool.false_and, Bool.false_and]
      | true =>
        have ex := of_decide_eq_true p
        cases q : tg_has y.2.2.1 n with
        | false =>
          have ey : y.2.2.1 n = -1 := Decidable.byContradiction (of_decide_eq_false q)
          rw [ey, decide_eq_false (show ¬ (-1 : Int32) = x.2.2.1 n from fun z => ex z.symm), decide_eq_false (show ¬ tg_b true = tg_b false by decide), Bool.false_and, Bool.false_and]
        | true =>
          obtain ⟨c1, c2, c3⟩ := a2 p
          obtain ⟨d1, d2, d3⟩ := b2 q
          rw [c1, c2, c3, d1, d2, d3, decide_eq_true (show tg_b true = tg_b true from rfl), Bool.true_and, Bool.not_true, Bool.false_or]
          have k1 : decide (x.1 n = y.1 n) = decide (y.1 n = x.1 n) := decide_eq_decide.mpr eq_comm
          have k2 : decide (x.2.2.1 n = y.2.2.1 n) = decide (y.2.2.1 n = x.2.2.1 n) := decide_eq_decide.mpr eq_comm
          have k3 : decide (x.2.1 n = y.2.1 n) = decide (y.2.1 n = x.2.1 n) := decide_eq_decide.mpr eq_comm
          rw [k1, k2, k3]
          cases decide (y.1 n = x.1 n) <;> cases decide (y.2.2.1 n = x.2.2.1 n) <;> cases decide (y.2.1 n = x.2.1 n) <;> rfl
    rw [key]
/-- a new store is a tree of no entries -/
theorem tr_has0 (k : Nat) : tg_has (fun _ => -1) k = false := rfl
theorem tr_lfh0 (lf : Nat) : ∀ i, tg_lfh (fun _ => 0) (fun _ => 0) (fun _ => -1) lf i = 5903417617427348583
  | 0 => rfl
  | i + 1 => by rw [tg_lfh_f (tr_has0 _)]; exact tr_lfh0 lf i
theorem tr_cnt0 : ∀ n, tr_cnt (fun _ => -1) n = 0
  | 0 => rfl
  | n + 1 => by rw [tr_cnt, tr_has0]; exact tr_cnt0 n
theorem tr_SI0 : tr_SI tg_s0 := by
  refine ⟨tg_okL_e, fun k _ _ => ⟨rfl, rfl⟩, fun k _ hh => absurd (hh.symm.trans (tr_has0 k)) (by decide), ⟨fun lf hlf => ?_, fun pl hpl => ?_⟩, ?_⟩
  · show tg_E (21 + lf) = tg_LH (fun _ => 0) (fun _ => 0) (fun _ => -1) lf
    unfold tg_E
    rw [if_neg (by omega), if_neg (by omega), if_neg (by omega)]
    show tg_LH (fun _ => 0) (fun _ => 0) (fun _ => -1) 0 = _
    unfold tg_LH
    rw [tr_lfh0, tr_lfh0]
  · show tg_E pl = tg_CH tg_E pl
    unfold tg_E
    by_cases q0 : pl = 0
    · subst q0
      rw [if_pos rfl]
      show tg_CH (fun _ => tg_eH 2 0) 0 = _
      exact tg_CH_eq (by rw [if_neg (by omega), if_pos (by omega)]) (by rw [if_neg (by omega), if_pos (by omega)]) (by rw [if_neg (by omega), if_pos (by omega)]) (by rw [if_neg (by omega), if_pos (by omega)])
    · rw [if_neg q0]
      by_cases q1 : pl < 5
      · rw [if_pos q1]
        show tg_CH (fun _ => tg_eH 1 0) 0 = _
        exact tg_CH_eq (by rw [if_neg (by omega), if_neg (by omega), if_pos (by omega)]) (by rw [if_neg (by omega), if_neg (by omega), if_pos (by omega)]) (by rw [if_neg (by omega), if_neg (by omega), if_pos (by omega)]) (by rw [if_neg (by omega), if_neg (by omega), if_pos (by omega)])
      · rw [if_neg q1, if_pos (by omega)]
        show tg_CH (fun _ => tg_eH 0 0) 0 = _
        exact tg_CH_eq (by rw [if_neg (by omega), if_neg (by omega), if_neg (by omega)]) (by rw [if_neg (by omega), if_neg (by omega), if_neg (by omega)]) (by rw [if_neg (by omega), if_neg (by omega), if_neg (by omega)]) (by rw [if_neg (by omega), if_neg (by omega), if_neg (by omega)])
  · show nI 0 = nI (tr_cnt (fun _ => -1) 256)
    rw [tr_cnt0]
theorem tr_RS0 {e : tg_ES} (h : ∀ j, j < 512 → e.1 j = nI 0) {si : Nat} (hsi : si ≤ 1) : tr_RS tg_s0 e si := by
  intro k hk
  refine ⟨?_, fun hh => absurd (hh.symm.trans (tr_has0 k)) (by decide)⟩
  rw [h _ (by omega)]
  rfl
theorem tr_RR0 {q : tg_RS} (hq : tg_rz q = 0) {o s : Nat} {R : tg_MR} (hR : R.1 s = nI 0) : tr_RR q o R s := ⟨by rw [hR, hq], fun i hi => absurd hi (by rw [hq]; exact Nat.not_lt_zero i)⟩
theorem tr_okR0 {q : tg_RS} (hq : tg_rz q = 0) : tg_okR q 0 := ⟨by decide, by rw [hq]; decide, fun i hi => absurd hi (by rw [hq]; exact Nat.not_lt_zero i)⟩
theorem tr_new {q0 q1 : tg_RS} (h0 : tg_rz q0 = 0) (h1 : tg_rz q1 = 0) {e : tg_ES} {R : tg_MR} (he : ∀ j, j < 512 → e.1 j = nI 0) (r0 : R.1 0 = nI 0) (r1 : R.1 1 = nI 0) : tr_Rel (tg_s0, tg_s0, q0, 0, q1, 0, (nI 0, nI 0, nI 0)) e R (nI 0, nI 0, nI 0) :=
  ⟨tr_RS0 he (by decide), tr_RS0 he (by decide), tr_SI0, tr_SI0, tr_RR0 h0 r0, tr_RR0 h1 r1, rfl, tg_okL_e, tg_okL_e, tr_okR0 h0, tr_okR0 h1⟩
