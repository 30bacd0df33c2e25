/-! ===== the pure words: the whole class's state; what stays true of it ===== -/
theorem tg_cpI_at (f : Nat → Int32) (pl m nd : Nat) (st : Nat → Int32) : ∀ n j, tg_cpI f pl m nd st n j = if pl * 4 ≤ j ∧ j < pl * 4 + n ∧ Nat.testBit m (j - pl * 4) = true then st (nd * 4 + (j - pl * 4)) else f j
  | 0, j => by rw [if_neg (by omega)]; rfl
  | n + 1, j => by
    cases hb : Nat.testBit m n with
    | true =>
      rw [tg_cpI_t hb]
      by_cases e : j = pl * 4 + n
      · subst e
        rw [pk_us, if_pos ⟨by omega, by omega, by rw [Nat.add_sub_cancel_left]; exact hb⟩, Nat.add_sub_cancel_left]
      · rw [pk_un e, tg_cpI_at f pl m nd st n j]
        by_cases q : pl * 4 ≤ j ∧ j < pl * 4 + n ∧ Nat.testBit m (j - pl * 4) = true
        · rw [if_pos q, if_pos ⟨q.1, by omega, q.2.2⟩]
        · rw [if_neg q, if_neg (fun z => q ⟨z.1, by omega, z.2.2⟩)]
    | false =>
      rw [tg_cpI_f hb, tg_cpI_at f pl m nd st n j]
      by_cases q : pl * 4 ≤ j ∧ j < pl * 4 + n ∧ Nat.testBit m (j - pl * 4) = true
      · rw [if_pos q, if_pos ⟨q.1, by omega, q.2.2⟩]
      · rw [if_neg q, if_neg (fun z => q ⟨z.1, (by
          rcases Nat.lt_or_ge j (pl * 4 + n) with h | h
          · exact h
          · have e : j = pl * 4 + n := by omega
            subst e
            rw [Nat.add_sub_cancel_left, hb] at z
            exact absurd z.2.2 (by decide)), z.2.2⟩)]
theorem tg_cpL_at (f : Nat → Int64) (pl m nd : Nat) (st : Nat → Int64) : ∀ n j, tg_cpL f pl m nd st n j = if pl * 4 ≤ j ∧ j < pl * 4 + n ∧ Nat.testBit m (j - pl * 4) = true then st (nd * 4 + (j - pl * 4)) else f j
  | 0, j => by rw [if_neg (by omega)]; rfl
  | n + 1, j => by
    cases hb : Nat.testBit m n with
    | true =>
      rw [tg_cpL_t hb]
      by_cases e : j = pl * 4 + n
      · subst e
        rw [pk_uLs, if_pos ⟨by omega, by omega, by rw [Nat.add_sub_cancel_left]; exact hb⟩, Nat.add_sub_cancel_left]
      · rw [pk_uLn e, tg_cpL_at f pl m nd st n j]
        by_cases q : pl * 4 ≤ j ∧ j < pl * 4 + n ∧ Nat.testBit m (j - pl * 4) = true
        · rw [if_pos q, if_pos ⟨q.1, by omega, q.2.2⟩]
        · rw [if_neg q, if_neg (fun z => q ⟨z.1, by omega, z.2.2⟩)]
    | false =>
      rw [tg_cpL_f hb, tg_cpL_at f pl m nd st n j]
      by_cases q : pl * 4 ≤ j ∧ j < pl * 4 + n ∧ Nat.testBit m (j - pl * 4) = true
      · rw [if_pos q, if_pos ⟨q.1, by omega, q.2.2⟩]
      · rw [if_neg q, if_neg (fun z => q ⟨z.1, (by
          rcases Nat.lt_or_ge j (pl * 4 + n) with h | h
          · exact h
          · have e : j = pl * 4 + n := by omega
            subst e
            rw [Nat.add_sub_cancel_left, hb] at z
            exact absurd z.2.2 (by decide)), z.2.2⟩)]
theorem tg_lsH_at (hs : Nat → Int64) (pl : Nat) (ha : Nat → Int64) (fc : Nat) : ∀ n j, tg_lsH hs pl ha fc n j = if pl * 4 ≤ j ∧ j < pl * 4 + n then ha (fc + (j - pl * 4)) else hs j
  | 0, j => by rw [if_neg (by omega)]; rfl
  | n + 1, j => by
    unfold tg_lsH
    by_cases e : j = pl * 4 + n
    · subst e
      rw [pk_uLs, if_pos (by omega), Nat.add_sub_cancel_left]
    · rw [pk_uLn e, tg_lsH_at hs pl ha fc n j]
      by_cases q : pl * 4 ≤ j ∧ j < pl * 4 + n
      · rw [if_pos q, if_pos (by omega)]
      · rw [if_neg q, if_neg (by omega)]
theorem tg_mkb0 : ∀ b0 b1 b2 b3 : Bool, ∀ m, m = (if b3 then (if b2 then (if b1 then (if b0 then 0 + 2 ^ 0 else 0) + 2 ^ 1 else (if b0 then 0 + 2 ^ 0 else 0)) + 2 ^ 2 else (if b1 then (if b0 then 0 + 2 ^ 0 else 0) + 2 ^ 1 else (if b0 then 0 + 2 ^ 0 else 0))) + 2 ^ 3 else (if b2 then (if b1 then (if b0 then 0 + 2 ^ 0 else 0) + 2 ^ 1 else (if b0 then 0 + 2 ^ 0 else 0)) + 2 ^ 2 else (if b1 then (if b0 then 0 + 2 ^ 0 else 0) + 2 ^ 1 else (if b0 then 0 + 2 ^ 0 else 0)))) → Nat.testBit m 0 = b0 ∧ Nat.testBit m 1 = b1 ∧ Nat.testBit m 2 = b2 ∧ Nat.testBit m 3 = b3 := by
  intro b0 b1 b2 b3 m h
  subst h
  cases b0 <;> cases b1 <;> cases b2 <;> cases b3 <;> decide
theorem tg_mk_bit (b : Nat → Bool) {i : Nat} (h : i < 4) : Nat.testBit (tg_mk b 4) i = b i := by
  obtain ⟨h0, h1, h2, h3⟩ := tg_mkb0 (b 0) (b 1) (b 2) (b 3) (tg_mk b 4) rfl
  rcases (show i = 0 ∨ i = 1 ∨ i = 2 ∨ i = 3 by omega) with rfl | rfl | rfl | rfl
  · exact h0
  · exact h1
  · exact h2
  · exact h3
theorem tg_andn_bit0 : ∀ a, a < 16 → ∀ b, b < 16 → ∀ i, i < 4 → Nat.testBit (tg_andn a b) i = (Nat.testBit a i && !Nat.testBit b i) := by decide +kernel
theorem tg_andn_bit {a b i : Nat} (ha : a < 16) (hb : b < 16) (hi : i < 4) : Nat.testBit (tg_andn a b) i = (Nat.testBit a i && !Nat.testBit b i) := tg_andn_bit0 a ha b hb i hi
theorem tg_cn_nI {n : Nat} (h : n < 2 ^ 31) : tg_cn (nI n) = n := nI_clamp h
/-- a row: places, sizes, each message in its bounds -/
def tg_okR (q : tg_RS) (w : Nat) : Prop := w < 100 ∧ tg_rz q ≤ 100 ∧ ∀ i, i < tg_rz q → tg_okG q ((w + i) % 100)
theorem tg_okR_pop {q : tg_RS} {w : Nat} (h : tg_okR q w) : tg_okR (tg_pop q) ((w + 1) % 100) := by
  refine ⟨Nat.mod_lt _ (by decide), Nat.le_trans (Nat.sub_le _ _) h.2.1, fun i hi => ?_⟩
  have hi' : i < tg_rz q - 1 := hi
  have e : ((w + 1) % 100 + i) % 100 = (w + (i + 1)) % 100 := by omega
  rw [e]
  exact h.2.2 (i + 1) (by omega)
/-- a message of another place stays -/
theorem tg_okG_keep {q q' : tg_RS} {p : Nat} (h : tg_okG q p) (h1 : q'.1 p = q.1 p) (h2 : q'.2.1 p = q.2.1 p) (h3 : q'.2.2.1 p = q.2.2.1 p) (h4 : q'.2.2.2.1 p = q.2.2.2.1 p) (h8 : ∀ i, i < 4 → q'.2.2.2.2.2.2.2.1 (p * 4 + i) = q.2.2.2.2.2.2.2.1 (p * 4 + i)) : tg_okG q' p := by
  unfold tg_okG tg_qm tg_qn tg_ql at *
  rw [h1, h2, h3, h4]
  obtain ⟨g1, g2, g3, g4, g5, g6⟩ := h
  exact ⟨g1, g2, g3, g4, fun i hi hb => by rw [h8 i hi]; exact g5 i hi hb, g6⟩
theorem tg_place_ne {o z i : Nat} (ho : o < 100) (hz : z < 100) (hi : i < z) : (o + i) % 100 ≠ (o + z) % 100 := by omega
theorem tg_okR_sL {r : tg_RS} {o : Nat} {ha : Nat → Int64} {k nd : Nat} (h : tg_okR r o) (hk : k < 3) (hnd : nd < 4 ^ k) : tg_okR (tg_sLr r o ha k nd) o := by
  have hn16 := (tg_lvl hk hnd).1
  refine ⟨h.1, tg_sLr_z h.2.1, ?_⟩
  unfold tg_sLr
  by_cases q : tg_rz r < 100
  · rw [decide_eq_true q]
    intro i hi
    have hi' : i < tg_rz r + 1 := hi
    by_cases e : i = tg_rz r
    · subst e
      unfold tg_okG tg_qm tg_qn tg_ql
      show upd r.2.2.2.1 _ _ _ = nI (tg_cn (upd r.2.2.2.1 _ _ _)) ∧ tg_cn (upd r.2.2.2.1 _ _ _) < 16 ∧ upd r.2.2.1 _ _ _ = nI (tg_cn (upd r.2.2.1 _ _ _)) ∧ tg_cn (upd r.2.2.1 _ _ _) < 64 ∧ tg_okM _ (tg_cn (upd r.2.2.2.1 _ _ _)) r.2.2.2.2.2.2.2.1 ∧ (upd r.1 _ _ _ = nI 0 ∨ (upd r.1 _ _ _ = nI 1 ∧ upd r.2.1 _ _ _ = nI (tg_cn (upd r.2.1 _ _ _)) ∧ tg_cn (upd r.2.1 _ _ _) < 3 ∧ tg_cn (upd r.2.2.1 _ _ _) < 4 ^ tg_cn (upd r.2.1 _ _ _)) ∨ upd r.1 _ _ _ = nI 2 ∨ upd r.1 _ _ _ = nI 3)
      rw [pk_us, pk_us, pk_us, pk_us, tg_cn_nI (n := 0) (by decide), tg_cn_nI (n := nd) (by omega), tg_cn_nI (n := k) (by omega)]
      exact ⟨rfl, by decide, rfl, by omega, fun i hi hb => (by rw [Nat.zero_testBit] at hb; cases hb), Or.inr (Or.inl ⟨rfl, rfl, hk, hnd⟩)⟩
    · have hne := tg_place_ne h.1 q (show i < tg_rz r by omega)
      exact tg_okG_keep (h.2.2 i (by omega)) (pk_un hne) (pk_un hne) (pk_un hne) (pk_un hne) (fun _ _ => rfl)
  · rw [decide_eq_false q]
    exact h.2.2
theorem tg_okR_sE {r : tg_RS} {o : Nat} {x : tg_SS} {x1 : Int32} {nd m : Nat} (h : tg_okR r o) (hx1 : x1 = nI 2 ∨ x1 = nI 3) (hnd : nd < 64) (hm : m < 16) (hok : tg_okL x.2.2.1) (hb : ∀ i, i < 4 → Nat.testBit m i = true → tg_has x.2.2.1 (nd * 4 + i) = true) : tg_okR (tg_sEr r o x x1 nd m) o := by
  refine ⟨h.1, tg_sEr_z h.2.1, ?_⟩
  unfold tg_sEr
  by_cases q : tg_rz r < 100
  · rw [decide_eq_true q]
    intro i hi
    have hi' : i < tg_rz r + 1 := hi
    by_cases e : i = tg_rz r
    · subst e
      unfold tg_okG tg_qm tg_qn tg_ql
      show upd r.2.2.2.1 _ _ _ = nI (tg_cn (upd r.2.2.2.1 _ _ _)) ∧ tg_cn (upd r.2.2.2.1 _ _ _) < 16 ∧ upd r.2.2.1 _ _ _ = nI (tg_cn (upd r.2.2.1 _ _ _)) ∧ tg_cn (upd r.2.2.1 _ _ _) < 64 ∧ tg_okM _ (tg_cn (upd r.2.2.2.1 _ _ _)) (tg_cpI r.2.2.2.2.2.2.2.1 _ m nd x.2.2.1 4) ∧ (upd r.1 _ _ _ = nI 0 ∨ (upd r.1 _ _ _ = nI 1 ∧ upd r.2.1 _ _ _ = nI (tg_cn (upd r.2.1 _ _ _)) ∧ tg_cn (upd r.2.1 _ _ _) < 3 ∧ tg_cn (upd r.2.2.1 _ _ _) < 4 ^ tg_cn (upd r.2.1 _ _ _)) ∨ upd r.1 _ _ _ = nI 2 ∨ upd r.1 _ _ _ = nI 3)
      rw [pk_us, pk_us, pk_us, tg_cn_nI (n := m) (by omega), tg_cn_nI (n := nd) (by omega)]
      refine ⟨rfl, hm, rfl, hnd, fun i hi hb1 => ?_, Or.inr (Or.inr hx1)⟩
      rw [tg_cpI_at, if_pos ⟨by omega, by omega, by rw [Nat.add_sub_cancel_left]; exact hb1⟩, Nat.add_sub_cancel_left]
      exact hok (nd * 4 + i) (by omega) (of_decide_eq_true (hb i hi hb1))
    · have hne := tg_place_ne h.1 q (show i < tg_rz r by omega)
      refine tg_okG_keep (h.2.2 i (by omega)) (pk_un hne) (pk_un hne) (pk_un hne) (pk_un hne) (fun j hj => ?_)
      show tg_cpI r.2.2.2.2.2.2.2.1 _ m nd x.2.2.1 4 _ = _
      rw [tg_cpI_at, if_neg (by omega)]
  · rw [decide_eq_false q]
    exact h.2.2
theorem tg_okR_aA {r : tg_RS} {o : Nat} {x : tg_SS} {h0 : Int64} (h : tg_okR r o) : tg_okR (tg_aA r o x h0) o := by
  unfold tg_aA
  cases decide (h0 = x.2.2.2.1 0) with
  | true => exact h
  | false => exact tg_okR_sL h (by decide) (by decide)
theorem tg_okR_aG {r : tg_RS} {o : Nat} {x : tg_SS} {pl m nd : Nat} {qs qw : Nat → Int64} {ql : Nat → Int32} (h : tg_okR r o) (hnd : nd < 64) (hok : tg_okL x.2.2.1) : tg_okR (tg_aG r o x (tg_gm x pl m nd qs qw ql) nd) o := by
  unfold tg_aG
  cases decide (tg_gm x pl m nd qs qw ql = 0) with
  | true => exact h
  | false =>
    refine tg_okR_sE h (Or.inr rfl) hnd (tg_gm16 _ _ _ _ _ _ _) hok (fun i hi hb => ?_)
    unfold tg_gm at hb
    rw [tg_andn_bit (tg_mk16 _) (tg_mk16 _) hi, tg_mk_bit _ hi] at hb
    simp only [Bool.and_eq_true] at hb
    exact hb.1
theorem tg_okR_aL {r : tg_RS} {c : tg_CT} {o : Nat} {x : tg_SS} {pl kk nd : Nat} {qh : Nat → Int64} (h : tg_okR r o) (hk : kk < 3) (hnd : nd < 4 ^ kk) (hok : tg_okL x.2.2.1) : ∀ i, i ≤ 4 → tg_okR (tg_aL r c o x pl kk nd qh i).1 o
  | 0, _ => h
  | i + 1, hi => by
    have h1 := tg_okR_aL (c := c) (x := x) (pl := pl) (qh := qh) h hk hnd hok i (by omega)
    obtain ⟨n16, -, -⟩ := tg_lvl hk hnd
    by_cases q : qh (pl * 4 + i) = x.2.2.2.1 ((4 ^ (kk + 1) - 1) / 3 + (nd * 4 + i))
    · rw [tg_aL_s q]; exact h1
    · by_cases q3 : kk + 1 = 3
      · rw [tg_aL_e q q3]
        refine tg_okR_sE h1 (Or.inl rfl) (by omega) (tg_mk16 _) hok (fun j hj hb => ?_)
        rw [tg_mk_bit _ hj] at hb
        exact hb
      · rw [tg_aL_l q q3]
        refine tg_okR_sL h1 (by omega) ?_
        have e : 4 ^ (kk + 1) = 4 ^ kk * 4 := Nat.pow_succ ..
        rw [e]
        omega
theorem tg_mA_ok {x : tg_SS} {pl m nd : Nat} {qs qw : Nat → Int64} {ql : Nat → Int32} (h : tg_okL x.2.2.1) (hm : tg_okM pl m ql) : ∀ i, i ≤ 4 → tg_okL (tg_mA x pl m nd qs qw ql i).2.2.1
  | 0, _ => h
  | i + 1, hi => by
    have h1 := tg_mA_ok (qs := qs) (qw := qw) (nd := nd) h hm i (by omega)
    cases e : Nat.testBit m i with
    | true => rw [tg_mA_t e]; exact tg_mS_ok h1 _ _ _ (hm i (by omega) e).2
    | false => rw [tg_mA_f e]; exact h1
/-- getting a message keeps all that -/
theorem tg_rcv_inv {x : tg_SS} {q : tg_RS} {w : Nat} {r : tg_RS} {o : Nat} {c : tg_CT} (hq : tg_okR q w) (hr : tg_okR r o) (hx : tg_okL x.2.2.1) :
    tg_okL (tg_rcv x q w r o c).2.1.2.2.1 ∧ tg_okR (tg_rcv x q w r o c).2.2.1 (tg_rcv x q w r o c).2.2.2.1 ∧ tg_okR (tg_rcv x q w r o c).2.2.2.2.1 o := by
  rcases Nat.eq_zero_or_pos (tg_rz q) with h | h
  · rw [tg_rcv_e h]; exact ⟨hx, hq, hr⟩
  · have hg := hq.2.2 0 h
    rw [Nat.add_zero, Nat.mod_eq_of_lt hq.1] at hg
    obtain ⟨e1, e2, e3, e4, e5, hk⟩ := hg
    rcases hk with hk | ⟨hk, k1, k2, k3⟩ | hk | hk
    · rw [tg_rcv_0 h hk]; exact ⟨hx, tg_okR_pop hq, tg_okR_aA hr⟩
    · rw [tg_rcv_1 h hk]; exact ⟨hx, tg_okR_pop hq, tg_okR_aL hr k2 k3 hx 4 (Nat.le_refl 4)⟩
    · rw [tg_rcv_2 h hk]; exact ⟨tg_mA_ok hx e5 4 (Nat.le_refl 4), tg_okR_pop hq, tg_okR_aG hr e4 (tg_mA_ok hx e5 4 (Nat.le_refl 4))⟩
    · rw [tg_rcv_3 h hk]; exact ⟨tg_mA_ok hx e5 4 (Nat.le_refl 4), tg_okR_pop hq, hr⟩
/-- store 0, store 1, row 0 and its oldest, row 1 and its oldest, counters -/
abbrev tg_TT : Type := tg_SS × tg_SS × tg_RS × Nat × tg_RS × Nat × tg_CT
def tg_gw0 (t : tg_TT) : Int32 × tg_TT := ((tg_rcv t.1 t.2.2.1 t.2.2.2.1 t.2.2.2.2.1 t.2.2.2.2.2.1 t.2.2.2.2.2.2).1, (tg_rcv t.1 t.2.2.1 t.2.2.2.1 t.2.2.2.2.1 t.2.2.2.2.2.1 t.2.2.2.2.2.2).2.1, t.2.1, (tg_rcv t.1 t.2.2.1 t.2.2.2.1 t.2.2.2.2.1 t.2.2.2.2.2.1 t.2.2.2.2.2.2).2.2.1, (tg_rcv t.1 t.2.2.1 t.2.2.2.1 t.2.2.2.2.1 t.2.2.2.2.2.1 t.2.2.2.2.2.2).2.2.2.1, (tg_rcv t.1 t.2.2.1 t.2.2.2.1 t.2.2.2.2.1 t.2.2.2.2.2.1 t.2.2.2.2.2.2).2.2.2.2.1, t.2.2.2.2.2.1, (tg_rcv t.1 t.2.2.1 t.2.2.2.1 t.2.2.2.2.1 t.2.2.2.2.2.1 t.2.2.2.2.2.2).2.2.2.2.2)
def tg_gw1 (t : tg_TT) : Int32 × tg_TT := ((tg_rcv t.2.1 t.2.2.2.2.1 t.2.2.2.2.2.1 t.2.2.1 t.2.2.2.1 t.2.2.2.2.2.2).1, t.1, (tg_rcv t.2.1 t.2.2.2.2.1 t.2.2.2.2.2.1 t.2.2.1 t.2.2.2.1 t.2.2.2.2.2.2).2.1, (tg_rcv t.2.1 t.2.2.2.2.1 t.2.2.2.2.2.1 t.2.2.1 t.2.2.2.1 t.2.2.2.2.2.2).2.2.2.2.1, t.2.2.2.1, (tg_rcv t.2.1 t.2.2.2.2.1 t.2.2.2.2.2.1 t.2.2.1 t.2.2.2.1 t.2.2.2.2.2.2).2.2.1, (tg_rcv t.2.1 t.2.2.2.2.1 t.2.2.2.2.2.1 t.2.2.1 t.2.2.2.1 t.2.2.2.2.2.2).2.2.2.1, (tg_rcv t.2.1 t.2.2.2.2.1 t.2.2.2.2.2.1 t.2.2.1 t.2.2.2.1 t.2.2.2.2.2.2).2.2.2.2.2)
def tg_gw (t : tg_TT) (si : Nat) : Int32 × tg_TT := cond (decide (si = 0)) (tg_gw0 t) (tg_gw1 t)
def tg_Inv (t : tg_TT) : Prop := tg_okL t.1.2.2.1 ∧ tg_okL t.2.1.2.2.1 ∧ tg_okR t.2.2.1 t.2.2.2.1 ∧ tg_okR t.2.2.2.2.1 t.2.2.2.2.2.1
theorem tg_Inv_go {t : tg_TT} (h : tg_Inv t) (si : Nat) : tg_Inv (tg_gw t si).2 := by
  obtain ⟨h1, h2, h3, h4⟩ := h
  unfold tg_gw
  cases decide (si = 0) with
  | true => obtain ⟨g1, g2, g3⟩ := tg_rcv_inv (c := t.2.2.2.2.2.2) h3 h4 h1; exact ⟨g1, h2, g2, g3⟩
  | false => obtain ⟨g1, g2, g3⟩ := tg_rcv_inv (c := t.2.2.2.2.2.2) h4 h3 h2; exact ⟨h1, g1, g3, g2⟩
/-- run: turns from u on, so many got already -/
def tg_rl (n : Nat) : Nat → Nat → Nat → tg_TT → Nat × tg_TT
  | 0, _, got, t => (got, t)
  | f + 1, u, got, t => cond (decide (got < n) && (decide (0 < tg_rz t.2.2.1) || decide (0 < tg_rz t.2.2.2.2.1))) (tg_rl n f (u + 1) (cond (decide ((tg_gw t (u % 2)).1 = -1)) got (got + 1)) (tg_gw t (u % 2)).2) (got, t)
theorem tg_rl_stop {n f u got : Nat} {t : tg_TT} (h : f = 0 ∨ n ≤ got ∨ (tg_rz t.2.2.1 = 0 ∧ tg_rz t.2.2.2.2.1 = 0)) : tg_rl n f u got t = (got, t) := by
  cases f with
  | zero => rfl
  | succ f =>
    rw [tg_rl]
    rcases h with h | h | ⟨h1, h2⟩
    · cases h
    · rw [decide_eq_false (Nat.not_lt.mpr h)]; rfl
    · rw [h1, h2]; simp
theorem tg_rl_go {n f u got : Nat} {t : tg_TT} (h1 : got < n) (h2 : 0 < tg_rz t.2.2.1 ∨ 0 < tg_rz t.2.2.2.2.1) : tg_rl n (f + 1) u got t = tg_rl n f (u + 1) (cond (decide ((tg_gw t (u % 2)).1 = -1)) got (got + 1)) (tg_gw t (u % 2)).2 := by
  rw [tg_rl, decide_eq_true h1]
  have e : (decide (0 < tg_rz t.2.2.1) || decide (0 < tg_rz t.2.2.2.2.1)) = true := by
    rcases h2 with h | h
    · rw [decide_eq_true h]; rfl
    · rw [decide_eq_true h, Bool.or_true]
  rw [e]; rfl
/-- are both stores alike, the first i keys -/
def tg_sm (x y : tg_SS) : Nat → Bool
  | 0 => true
  | i + 1 => tg_sm x y i && tg_js y.1 y.2.1 y.2.2.1 i (x.1 i) (x.2.1 i) (x.2.2.1 i)
theorem tg_sm_f {x y : tg_SS} {i : Nat} (h : tg_js y.1 y.2.1 y.2.2.1 i (x.1 i) (x.2.1 i) (x.2.2.1 i) = false) : ∀ n, i < n → tg_sm x y n = false
  | 0, hn => absurd hn (Nat.not_lt_zero _)
  | n + 1, hn => by
    rw [tg_sm]
    by_cases e : i = n
    · subst e; rw [h, Bool.and_false]
    · rw [tg_sm_f h n (by omega)]; rfl
theorem tg_sm_t {x y : tg_SS} {i : Nat} (h0 : tg_sm x y i = true) (h : tg_js y.1 y.2.1 y.2.2.1 i (x.1 i) (x.2.1 i) (x.2.2.1 i) = true) : tg_sm x y (i + 1) = true := by
  rw [tg_sm, h0, h]; rfl
/-- a new store -/
def tg_s0 : tg_SS := ((fun _ => 0), (fun _ => 0), (fun _ => -1), tg_E, nI 0)
def tg_clr (q : tg_RS) : tg_RS := (q.1, q.2.1, q.2.2.1, q.2.2.2.1, q.2.2.2.2.1, q.2.2.2.2.2.1, q.2.2.2.2.2.2.1, q.2.2.2.2.2.2.2.1, 0)
