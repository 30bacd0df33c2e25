/-! ===== the relation of the stores: entries, hashes, sizes ===== -/
def tr_RS (x : tg_SS) (e : tg_ES) (si : Nat) : Prop := ∀ k, k < 256 → e.1 (256 * si + k) = tg_b (tg_has x.2.2.1 k) ∧ (tg_has x.2.2.1 k = true → e.2.1 (256 * si + k) = x.1 k ∧ e.2.2.1 (256 * si + k) = x.2.2.1 k ∧ e.2.2.2 (256 * si + k) = x.2.1 k)
def tr_cnt (le : Nat → Int32) : Nat → Nat
  | 0 => 0
  | i + 1 => cond (tg_has le i) (tr_cnt le i + 1) (tr_cnt le i)
def tr_T (st va : Nat → Int64) (le : Nat → Int32) (ha : Nat → Int64) : Prop := (∀ lf, lf < 64 → ha (21 + lf) = tg_LH st va le lf) ∧ ∀ pl, pl ≤ 20 → ha pl = tg_CH ha pl
def tr_SI (x : tg_SS) : Prop := tg_okL x.2.2.1 ∧ (∀ k, k < 256 → tg_has x.2.2.1 k = false → x.1 k = 0 ∧ x.2.1 k = 0) ∧ (∀ k, k < 256 → tg_has x.2.2.1 k = true → tg_hb (x.2.1 k) (tg_cn (x.2.2.1 k)) = x.2.1 k) ∧ tr_T x.1 x.2.1 x.2.2.1 x.2.2.2.1 ∧ x.2.2.2.2 = nI (tr_cnt x.2.2.1 256)
theorem tr_b0 (b : Bool) : decide (tg_b b = 0) = !b := by cases b <;> decide
theorem tr_hasn {le : Nat → Int32} {k n : Nat} (hn : n ≤ 8) : tg_has (upd le k (nI n)) k = true := by
  unfold tg_has
  rw [pk_us]
  exact decide_eq_true (tg_neg1 n (by omega))
theorem tr_haso {le : Nat → Int32} {k j : Nat} {z : Int32} (h : j ≠ k) : tg_has (upd le k z) j = tg_has le j := by
  unfold tg_has
  rw [pk_un h]
/-- does the entry come in: both say the same -/
theorem tr_in {x : tg_SS} {e : tg_ES} {si k n : Nat} (h : tr_RS x e si) (hI : tr_SI x) (hk : k < 256) (hn : n ≤ 8) (s1 v : Int64) : tg_rin e.1 e.2.1 e.2.2.1 e.2.2.2 (256 * si + k) s1 n v = tg_in x.1 x.2.1 x.2.2.1 k s1 (tg_hb v n) (nI n) := by
  obtain ⟨h1, h2⟩ := h k hk
  unfold tg_rin tg_in
  rw [h1, tr_b0]
  cases q : tg_has x.2.2.1 k with
  | false => rw [Bool.not_false, Bool.true_or, Bool.true_or]
  | true =>
    obtain ⟨g1, g2, g3⟩ := h2 q
    rw [g1, g2, g3]
    have key : tg_rnw (x.1 k) (x.2.2.1 k) (x.2.1 k) s1 n v = tg_new (x.1 k) (x.2.2.1 k) (x.2.1 k) s1 (nI n) (tg_hb v n) := by
      unfold tg_rnw tg_new
      by_cases z : s1 = x.1 k
      · rw [if_pos z, if_pos z]
        by_cases w : nI n = x.2.2.1 k
        · rw [if_pos w, if_pos w]
          have hc := hI.2.2.1 k hk q
          rw [← w, tg_cn_nI (by omega)] at hc
          exact tb_new v (x.2.1 k) hn hc
        · rw [if_neg w, if_neg w]
      · rw [if_neg z, if_neg z]
    rw [key]
theorem tr_RSo {y : tg_SS} {e : tg_ES} {si sj k n : Nat} (h : tr_RS y e sj) (hne : sj ≠ si) (hk : k < 256) (s1 v : Int64) : tr_RS y (tg_rmS e (256 * si + k) s1 n v) sj := by
  unfold tg_rmS
  cases tg_rin e.1 e.2.1 e.2.2.1 e.2.2.2 (256 * si + k) s1 n v with
  | false => exact h
  | true =>
    intro j hj
    have hq : 256 * sj + j ≠ 256 * si + k := by omega
    show upd e.1 _ _ _ = _ ∧ (_ → vp_updL e.2.1 _ _ _ = _ ∧ upd e.2.2.1 _ _ _ = _ ∧ vp_updL e.2.2.2 _ _ _ = _)
    rw [pk_un hq, pk_uLn hq, pk_un hq, pk_uLn hq]
    exact h j hj
theorem tr_RSm {x : tg_SS} {e : tg_ES} {si k n : Nat} (h : tr_RS x e si) (hI : tr_SI x) (hk : k < 256) (hn : n ≤ 8) (s1 v : Int64) : tr_RS (tg_mS x k s1 (tg_hb v n) n) (tg_rmS e (256 * si + k) s1 n v) si := by
  unfold tg_mS tg_rmS
  rw [tr_in h hI hk hn]
  cases tg_in x.1 x.2.1 x.2.2.1 k s1 (tg_hb v n) (nI n) with
  | false => exact h
  | true =>
    intro j hj
    by_cases q : j = k
    · subst q
      show upd e.1 _ _ _ = tg_b (tg_has (upd x.2.2.1 j (nI n)) j) ∧ (tg_has (upd x.2.2.1 j (nI n)) j = true → vp_updL e.2.1 _ _ _ = vp_updL x.1 j s1 j ∧ upd e.2.2.1 _ _ _ = upd x.2.2.1 j (nI n) j ∧ vp_updL e.2.2.2 _ _ _ = vp_updL x.2.1 j (tg_hb v n) j)
      rw [tr_hasn hn, pk_us, pk_uLs, pk_us, pk_uLs, pk_us, pk_uLs, pk_uLs, tb_cut v hn]
      exact ⟨rfl, fun _ => ⟨rfl, rfl, rfl⟩⟩
    · have hq : 256 * si + j ≠ 256 * si + k := by omega
      show upd e.1 _ _ _ = tg_b (tg_has (upd x.2.2.1 k (nI n)) j) ∧ (tg_has (upd x.2.2.1 k (nI n)) j = true → vp_updL e.2.1 _ _ _ = vp_updL x.1 k s1 j ∧ upd e.2.2.1 _ _ _ = upd x.2.2.1 k (nI n) j ∧ vp_updL e.2.2.2 _ _ _ = vp_updL x.2.1 k (tg_hb v n) j)
      rw [tr_haso q, pk_un hq, pk_uLn hq, pk_un hq, pk_uLn hq, pk_un q, pk_uLn q, pk_uLn q]
      exact h j hj
theorem tr_cnt_o {le le' : Nat → Int32} : ∀ n, (∀ j, j < n → tg_has le' j = tg_has le j) → tr_cnt le' n = tr_cnt le n
  | 0, _ => rfl
  | n + 1, h => by
    rw [tr_cnt, tr_cnt, h n (by omega), tr_cnt_o n (fun j hj => h j (by omega))]
theorem tr_cnt_u {le : Nat → Int32} {k m : Nat} (hm : m ≤ 8) : ∀ n, tr_cnt (upd le k (nI m)) n = tr_cnt le n + (if k < n then (cond (tg_has le k) 0 1) else 0)
  | 0 => by rw [if_neg (by omega)]; rfl
  | n + 1 => by
    rw [tr_cnt, tr_cnt, tr_cnt_u hm n]
    by_cases q : n = k
    · subst q
      rw [tr_hasn hm, if_neg (Nat.lt_irrefl n), if_pos (Nat.lt_succ_self n)]
      cases tg_has le n <;> rfl
    · rw [tr_haso q]
      by_cases w : k < n
      · rw [if_pos w, if_pos (by omega)]
        cases tg_has le n with
        | true => show _ + _ + 1 = _ + 1 + _; omega
        | false => rfl
      · rw [if_neg w, if_neg (by omega)]
        cases tg_has le n <;> rfl
theorem tr_lfh_eq {st va st' va' : Nat → Int64} {le le' : Nat → Int32} {lf : Nat} : ∀ n, (∀ j, j < n → st' (lf * 4 + j) = st (lf * 4 + j) ∧ va' (lf * 4 + j) = va (lf * 4 + j) ∧ le' (lf * 4 + j) = le (lf * 4 + j)) → tg_lfh st' va' le' lf n = tg_lfh st va le lf n
  | 0, _ => rfl
  | n + 1, h => by
    obtain ⟨h1, h2, h3⟩ := h n (by omega)
    have ih := tr_lfh_eq (st := st) (va := va) (le := le) n (fun j hj => h j (by omega))
    have e1 : tg_has le' (lf * 4 + n) = tg_has le (lf * 4 + n) := by unfold tg_has; rw [h3]
    cases q : tg_has le (lf * 4 + n) with
    | true => rw [tg_lfh_t (e1.trans q), tg_lfh_t q, ih]; unfold tg_ent; rw [h1, h2, h3]
    | false => rw [tg_lfh_f (e1.trans q), tg_lfh_f q, ih]
theorem tr_T_rh {st va : Nat → Int64} {le : Nat → Int32} {ha : Nat → Int64} (h : tr_T st va le ha) {st' va' : Nat → Int64} {le' : Nat → Int32} {k : Nat} (hk : k < 256) (ho : ∀ j, j ≠ k → st' j = st j ∧ va' j = va j ∧ le' j = le j) : tr_T st' va' le' (tg_rh st' va' le' ha k) := by
  obtain ⟨h1, h2⟩ := h
  unfold tg_rh tg_rc
  generalize e3 : tg_r3 st' va' le' ha k = r3
  have r3s : r3 (21 + k / 4) = tg_LH st' va' le' (k / 4) := by rw [← e3]; exact pk_uLs
  have r3o : ∀ j, j ≠ 21 + k / 4 → r3 j = ha j := fun j hj => by rw [← e3]; exact pk_uLn hj
  obtain ⟨p2, hp2⟩ : ∃ p2, p2 = (21 + k / 4 - 1) / 4 := ⟨_, rfl⟩
  obtain ⟨p1, hp1⟩ : ∃ p1, p1 = ((21 + k / 4 - 1) / 4 - 1) / 4 := ⟨_, rfl⟩
  have hp0 : (((21 + k / 4 - 1) / 4 - 1) / 4 - 1) / 4 = 0 := by omega
  rw [hp0, ← hp1, ← hp2]
  generalize e2 : vp_updL r3 p2 (tg_CH r3 p2) = r2
  generalize e1 : vp_updL r2 p1 (tg_CH r2 p1) = r1
  generalize e0 : vp_updL r1 0 (tg_CH r1 0) = r0
  have r2s : r2 p2 = tg_CH r3 p2 := by rw [← e2]; exact pk_uLs
  have r2o : ∀ j, j ≠ p2 → r2 j = r3 j := fun j hj => by rw [← e2]; exact pk_uLn hj
  have r1s : r1 p1 = tg_CH r2 p1 := by rw [← e1]; exact pk_uLs
  have r1o : ∀ j, j ≠ p1 → r1 j = r2 j := fun j hj => by rw [← e1]; exact pk_uLn hj
  have r0s : r0 0 = tg_CH r1 0 := by rw [← e0]; exact pk_uLs
  have r0o : ∀ j, j ≠ 0 → r0 j = r1 j := fun j hj => by rw [← e0]; exact pk_uLn hj
  have b2 : 5 ≤ p2 ∧ p2 ≤ 20 := by omega
  have b1 : 1 ≤ p1 ∧ p1 ≤ 4 := by omega
  have rel1 : p2 * 4 + 1 ≤ 21 + k / 4 ∧ 21 + k / 4 ≤ p2 * 4 + 4 := by omega
  have rel2 : p1 * 4 + 1 ≤ p2 ∧ p2 ≤ p1 * 4 + 4 := by omega
  have low : ∀ j, 5 ≤ j → r0 j = r2 j := fun j hj => by rw [r0o j (by omega), r1o j (by omega)]
  have low3 : ∀ j, 21 ≤ j → r0 j = r3 j := fun j hj => by rw [low j (by omega), r2o j (by omega)]
  constructor
  · intro lf hlf
    rw [low3 _ (by omega)]
    by_cases q : lf = k / 4
    · subst q; exact r3s
    · rw [r3o _ (by omega), h1 lf hlf]
      unfold tg_LH
      congr 1
      exact (tr_lfh_eq 4 (fun j hj => ho _ (by omega))).symm
  · intro pl hpl
    by_cases q0 : pl = 0
    · subst q0
      rw [r0s]
      exact (tg_CH_eq (r0o _ (by omega)) (r0o _ (by omega)) (r0o _ (by omega)) (r0o _ (by omega))).symm
    · rw [r0o pl q0]
      by_cases q1 : pl = p1
      · rw [q1, r1s]
        exact (tg_CH_eq (low _ (by omega)) (low _ (by omega)) (low _ (by omega)) (low _ (by omega))).symm
      · rw [r1o pl q1]
        by_cases q2 : pl = p2
        · rw [q2, r2s]
          exact (tg_CH_eq (low3 _ (by omega)) (low3 _ (by omega)) (low3 _ (by omega)) (low3 _ (by omega))).symm
        · rw [r2o pl q2, r3o pl (by omega), h2 pl hpl]
          have key : ∀ i, i < 4 → r0 (pl * 4 + 1 + i) = ha (pl * 4 + 1 + i) := fun i hi => by
            rw [r0o _ (by omega), r1o _ (by omega), r2o _ (by omega), r3o _ (by omega)]
          exact (tg_CH_eq (key 0 (by omega)) (key 1 (by omega)) (key 2 (by omega)) (key 3 (by omega))).symm
theorem tr_SIm {x : tg_SS} {k n : Nat} (hI : tr_SI x) (hk : k < 256) (hn : n ≤ 8) (s1 v : Int64) (hv : tg_hb v n = v) : tr_SI (tg_mS x k s1 v n) := by
  unfold tg_mS
  cases tg_in x.1 x.2.1 x.2.2.1 k s1 v (nI n) with
  | false => exact hI
  | true =>
    obtain ⟨i1, i2, i3, i4, i5⟩ := hI
    refine ⟨tg_okL_u i1 k hn, fun j hj hh => ?_, fun j hj hh => ?_, ?_, ?_⟩
    · by_cases q : j = k
      · subst q
        exact absurd hh (by show ¬ tg_has (upd x.2.2.1 j (nI n)) j = false; rw [tr_hasn hn]; decide)
      · show vp_updL x.1 k s1 j = 0 ∧ vp_updL x.2.1 k v j = 0
        rw [pk_uLn q, pk_uLn q]
        exact i2 j hj ((tr_haso q).symm.trans hh)
    · by_cases q : j = k
      · subst q
        show tg_hb (vp_updL x.2.1 j v j) (tg_cn (upd x.2.2.1 j (nI n) j)) = vp_updL x.2.1 j v j
        rw [pk_uLs, pk_us, tg_cn_nI (by omega)]
        exact hv
      · show tg_hb (vp_updL x.2.1 k v j) (tg_cn (upd x.2.2.1 k (nI n) j)) = vp_updL x.2.1 k v j
        rw [pk_uLn q, pk_un q]
        exact i3 j hj ((tr_haso q).symm.trans hh)
    · exact tr_T_rh i4 hk (fun j hj => ⟨pk_uLn hj, pk_uLn hj, pk_un hj⟩)
    · show tg_me x.2.2.1 x.2.2.2.2 k = nI (tr_cnt (upd x.2.2.1 k (nI n)) 256)
      rw [tr_cnt_u hn, if_pos hk, i5]
      unfold tg_me
      cases tg_has x.2.2.1 k with
      | true => rfl
      | false => exact nI_add _ _
/-- all hashes of the reference are those of the class -/
theorem tr_rlf {x : tg_SS} {e : tg_ES} {si nd : Nat} (h : tr_RS x e si) (hI : tr_SI x) (hnd : nd < 64) : ∀ i, i ≤ 4 → tg_rlf e.1 e.2.1 e.2.2.1 e.2.2.2 si nd i = tg_lfh x.1 x.2.1 x.2.2.1 nd i
  | 0, _ => rfl
  | i + 1, hi => by
    have hk : 4 * nd + i < 256 := by omega
    obtain ⟨h1, h2⟩ := h (4 * nd + i) hk
    have ih := tr_rlf h hI hnd i (by omega)
    have e4 : nd * 4 + i = 4 * nd + i := by omega
    cases q : tg_has x.2.2.1 (4 * nd + i) with
    | false =>
      rw [tg_rlf_n (by rw [h1, q]; rfl), tg_lfh_f (by rw [e4]; exact q), ih]
    | true =>
      obtain ⟨g1, g2, g3⟩ := h2 q
      have hc := (hI.1 (4 * nd + i) hk (of_decide_eq_true q)).2
      rw [tg_rlf_y (by rw [h1, q]; decide), tg_lfh_t (by rw [e4]; exact q), ih, e4]
      unfold tg_rent tg_ent
      rw [g1, g2, g3, tb_mxi _ hk, tb_ml8 _ _ 8 (by omega), tb_mxi _ (by omega), tb_ml8 _ _ _ hc]
theorem tr_ri (ha : Nat → Int64) {b b1 : Nat} : ∀ n, b + n ≤ b1 → ∀ j, tg_ri ha b b1 n j = if b ≤ j ∧ j < b + n then tg_fin (tg_ic ha (b1 + 4 * (j - b)) 4) else ha j
  | 0, _, j => by rw [if_neg (by omega)]; rfl
  | n + 1, hn, j => by
    have ih := tr_ri ha (b := b) (b1 := b1) n (by omega)
    show vp_updL (tg_ri ha b b1 n) (b + n) (tg_fin (tg_ic (tg_ri ha b b1 n) (b1 + 4 * n) 4)) j = _
    by_cases q : j = b + n
    · subst q
      rw [pk_uLs, if_pos (by omega), Nat.add_sub_cancel_left]
      have key : ∀ i, i < 4 → tg_ri ha b b1 n (b1 + 4 * n + i) = ha (b1 + 4 * n + i) := fun i hi => by rw [ih, if_neg (by omega)]
      simp only [tg_ic, key 0 (by omega), key 1 (by omega), key 2 (by omega), key 3 (by omega)]
    · rw [pk_uLn q, ih]
      by_cases w : b ≤ j ∧ j < b + n
      · rw [if_pos w, if_pos (by omega)]
      · rw [if_neg w, if_neg (by omega)]
theorem tr_ic {f g : Nat → Int64} {p pl : Nat} (h : ∀ i, i < 4 → f (p + i) = g (pl * 4 + 1 + i)) : tg_fin (tg_ic f p 4) = tg_CH g pl := by
  have key : tg_ic f p 4 = tg_chh g pl 4 := by
    simp only [tg_ic, tg_chh, h 0 (by omega), h 1 (by omega), h 2 (by omega), h 3 (by omega), tb_ml8 _ _ 8 (Nat.le_refl 8)]
  unfold tg_CH
  rw [key]
theorem tr_rl1 {th : Nat → Int32} {ms : Nat → Int64} {ml : Nat → Int32} {mv : Nat → Int64} {si : Nat} {ha : Nat → Int64} : ∀ n j, j < n → tg_rl1 th ms ml mv si ha n (21 + j) = tg_fin (tg_rlf th ms ml mv si j 4)
  | 0, j, h => absurd h (Nat.not_lt_zero j)
  | n + 1, j, h => by
    show vp_updL (tg_rl1 th ms ml mv si ha n) (21 + n) _ (21 + j) = _
    by_cases q : j = n
    · subst q; exact pk_uLs
    · rw [pk_uLn (by omega)]; exact tr_rl1 n j (by omega)
theorem tr_hash {x : tg_SS} {e : tg_ES} {si : Nat} (h : tr_RS x e si) (hI : tr_SI x) (ha : Nat → Int64) {j : Nat} (hj : j < 85) : tg_haA e si ha j = x.2.2.2.1 j := by
  obtain ⟨t1, t2⟩ := hI.2.2.2.1
  unfold tg_haA tg_H0 tg_H1 tg_H2
  generalize e3 : tg_H3 e.1 e.2.1 e.2.2.1 e.2.2.2 si ha = h3
  have l3 : ∀ j, 21 ≤ j → j < 85 → h3 j = x.2.2.2.1 j := fun j q1 q2 => by
    obtain ⟨i, rfl⟩ : ∃ i, j = 21 + i := ⟨j - 21, by omega⟩
    rw [← e3, t1 i (by omega)]
    unfold tg_H3
    rw [tr_rl1 64 i (by omega), tr_rlf h hI (by omega) 4 (Nat.le_refl 4)]
    rfl
  generalize e2 : tg_ri h3 5 21 16 = h2
  have l2 : ∀ j, 5 ≤ j → j < 85 → h2 j = x.2.2.2.1 j := fun j q1 q2 => by
    rw [← e2, tr_ri h3 16 (by omega)]
    by_cases w : 5 ≤ j ∧ j < 5 + 16
    · rw [if_pos w, t2 j (by omega)]
      exact tr_ic (fun i hi => by rw [show 21 + 4 * (j - 5) + i = j * 4 + 1 + i by omega]; exact l3 _ (by omega) (by omega))
    · rw [if_neg w]; exact l3 j (by omega) q2
  generalize e1 : tg_ri h2 1 5 4 = h1
  have l1 : ∀ j, 1 ≤ j → j < 85 → h1 j = x.2.2.2.1 j := fun j q1 q2 => by
    rw [← e1, tr_ri h2 4 (by omega)]
    by_cases w : 1 ≤ j ∧ j < 1 + 4
    · rw [if_pos w, t2 j (by omega)]
      exact tr_ic (fun i hi => by rw [show 5 + 4 * (j - 1) + i = j * 4 + 1 + i by omega]; exact l2 _ (by omega) (by omega))
    · rw [if_neg w]; exact l2 j (by omega) q2
  rw [tr_ri h1 1 (by omega)]
  by_cases w : 0 ≤ j ∧ j < 0 + 1
  · rw [if_pos w, t2 j (by omega)]
    exact tr_ic (fun i hi => by rw [show 1 + 4 * (j - 0) + i = j * 4 + 1 + i by omega]; exact l1 _ (by omega) (by omega))
  · rw [if_neg w]; exact l1 j (by omega) hj
theorem tr_okE {x y : tg_SS} {e : tg_ES} (h0 : tr_RS x e 0) (h1 : tr_RS y e 1) (hx : tg_okL x.2.2.1) (hy : tg_okL y.2.2.1) : tg_okE e.1 e.2.2.1 := by
  intro j hj hne
  by_cases q : j < 256
  · obtain ⟨g1, g2⟩ := h0 j q
    rw [show 256 * 0 + j = j by omega] at g1 g2
    cases w : tg_has x.2.2.1 j with
    | false => exact absurd (by rw [g1, w]; rfl) hne
    | true => rw [(g2 w).2.1]; exact hx j q (of_decide_eq_true w)
  · obtain ⟨g1, g2⟩ := h1 (j - 256) (by omega)
    rw [show 256 * 1 + (j - 256) = j by omega] at g1 g2
    cases w : tg_has y.2.2.1 (j - 256) with
    | false => exact absurd (by rw [g1, w]; rfl) hne
    | true => rw [(g2 w).2.1]; exact hy (j - 256) (by omega) (of_decide_eq_true w)
theorem tr_sz {x : tg_SS} {e : tg_ES} {si : Nat} (h : tr_RS x e si) : ∀ n, n ≤ 256 → tg_sz e.1 si n = tr_cnt x.2.2.1 n
  | 0, _ => rfl
  | n + 1, hn => by
    obtain ⟨g1, -⟩ := h n (by omega)
    have ih := tr_sz h n (by omega)
    cases w : tg_has x.2.2.1 n with
    | false => rw [tg_sz_n (by rw [g1, w]; rfl), tr_cnt, w, ih]; rfl
    | true => rw [tg_sz_y (by rw [g1, w]; decide), tr_cnt, w, ih]; rfl
