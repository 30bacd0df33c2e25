/-! ===== the relation of the rows of messages ===== -/
theorem tr_c4L (f : Nat → Int64) (p : Nat) (g : Nat → Int64) : ∀ n j, tg_c4L f p g n j = if p ≤ j ∧ j < p + n then g (j - p) else f j
  | 0, j => by rw [if_neg (by omega)]; rfl
  | n + 1, j => by
    show vp_updL (tg_c4L f p g n) (p + n) (g n) j = _
    by_cases q : j = p + n
    · subst q; rw [pk_uLs, if_pos (by omega), Nat.add_sub_cancel_left]
    · rw [pk_uLn q, tr_c4L f p g n j]
      by_cases w : p ≤ j ∧ j < p + n
      · rw [if_pos w, if_pos (by omega)]
      · rw [if_neg w, if_neg (by omega)]
theorem tr_c4I (f : Nat → Int32) (p : Nat) (g : Nat → Int32) : ∀ n j, tg_c4I f p g n j = if p ≤ j ∧ j < p + n then g (j - p) else f j
  | 0, j => by rw [if_neg (by omega)]; rfl
  | n + 1, j => by
    show upd (tg_c4I f p g n) (p + n) (g n) j = _
    by_cases q : j = p + n
    · subst q; rw [pk_us, if_pos (by omega), Nat.add_sub_cancel_left]
    · rw [pk_un q, tr_c4I f p g n j]
      by_cases w : p ≤ j ∧ j < p + n
      · rw [if_pos w, if_pos (by omega)]
      · rw [if_neg w, if_neg (by omega)]
theorem tr_shI (f : Nat → Int32) (b : Nat) : ∀ n j, tg_shI f b n j = if b ≤ j ∧ j < b + n then f (j + 1) else f j
  | 0, j => by rw [if_neg (by omega)]; rfl
  | n + 1, j => by
    show upd (tg_shI f b n) (b + n) (tg_shI f b n (b + n + 1)) j = _
    by_cases q : j = b + n
    · subst q; rw [pk_us, if_pos (by omega), tr_shI f b n, if_neg (by omega)]
    · rw [pk_un q, tr_shI f b n j]
      by_cases w : b ≤ j ∧ j < b + n
      · rw [if_pos w, if_pos (by omega)]
      · rw [if_neg w, if_neg (by omega)]
theorem tr_s4L (f : Nat → Int64) (p : Nat) : ∀ n j, n ≤ 4 → tg_s4L f p n j = if p ≤ j ∧ j < p + n then f (j + 4) else f j
  | 0, j, _ => by rw [if_neg (by omega)]; rfl
  | n + 1, j, hn => by
    show vp_updL (tg_s4L f p n) (p + n) (tg_s4L f p n (p + n + 4)) j = _
    by_cases q : j = p + n
    · subst q; rw [pk_uLs, if_pos (by omega), tr_s4L f p n _ (by omega), if_neg (by omega)]
    · rw [pk_uLn q, tr_s4L f p n j (by omega)]
      by_cases w : p ≤ j ∧ j < p + n
      · rw [if_pos w, if_pos (by omega)]
      · rw [if_neg w, if_neg (by omega)]
theorem tr_s4I (f : Nat → Int32) (p : Nat) : ∀ n j, n ≤ 4 → tg_s4I f p n j = if p ≤ j ∧ j < p + n then f (j + 4) else f j
  | 0, j, _ => by rw [if_neg (by omega)]; rfl
  | n + 1, j, hn => by
    show upd (tg_s4I f p n) (p + n) (tg_s4I f p n (p + n + 4)) j = _
    by_cases q : j = p + n
    · subst q; rw [pk_us, if_pos (by omega), tr_s4I f p n _ (by omega), if_neg (by omega)]
    · rw [pk_un q, tr_s4I f p n j (by omega)]
      by_cases w : p ≤ j ∧ j < p + n
      · rw [if_pos w, if_pos (by omega)]
      · rw [if_neg w, if_neg (by omega)]
theorem tr_sh4L (f : Nat → Int64) (b : Nat) : ∀ n j, tg_sh4L f b n j = if 4 * b ≤ j ∧ j < 4 * (b + n) then f (j + 4) else f j
  | 0, j => by rw [if_neg (by omega)]; rfl
  | n + 1, j => by
    show tg_s4L (tg_sh4L f b n) (4 * (b + n)) 4 j = _
    rw [tr_s4L _ _ 4 j (Nat.le_refl 4)]
    by_cases q : 4 * (b + n) ≤ j ∧ j < 4 * (b + n) + 4
    · rw [if_pos q, if_pos (by omega), tr_sh4L f b n, if_neg (by omega)]
    · rw [if_neg q, tr_sh4L f b n j]
      by_cases w : 4 * b ≤ j ∧ j < 4 * (b + n)
      · rw [if_pos w, if_pos (by omega)]
      · rw [if_neg w, if_neg (by omega)]
theorem tr_sh4I (f : Nat → Int32) (b : Nat) : ∀ n j, tg_sh4I f b n j = if 4 * b ≤ j ∧ j < 4 * (b + n) then f (j + 4) else f j
  | 0, j => by rw [if_neg (by omega)]; rfl
  | n + 1, j => by
    show tg_s4I (tg_sh4I f b n) (4 * (b + n)) 4 j = _
    rw [tr_s4I _ _ 4 j (Nat.le_refl 4)]
    by_cases q : 4 * (b + n) ≤ j ∧ j < 4 * (b + n) + 4
    · rw [if_pos q, if_pos (by omega), tr_sh4I f b n, if_neg (by omega)]
    · rw [if_neg q, tr_sh4I f b n j]
      by_cases w : 4 * b ≤ j ∧ j < 4 * (b + n)
      · rw [if_pos w, if_pos (by omega)]
      · rw [if_neg w, if_neg (by omega)]
/-- the entries of a message: part j of the class's is the one at the number of bits ahead -/
def tr_RE (q : tg_RS) (p : Nat) (r : tg_MR) (P : Nat) : Prop := ∀ j, j < 4 → Nat.testBit (tg_qm q p) j = true →
  r.2.2.2.2.2.2.1 (4 * P + tg_ct (tg_qm q p) j) = nI (tg_qn q p * 4 + j) ∧ r.2.2.2.2.2.2.2.1 (4 * P + tg_ct (tg_qm q p) j) = q.2.2.2.2.2.1 (p * 4 + j) ∧ r.2.2.2.2.2.2.2.2.1 (4 * P + tg_ct (tg_qm q p) j) = q.2.2.2.2.2.2.2.1 (p * 4 + j) ∧ r.2.2.2.2.2.2.2.2.2 (4 * P + tg_ct (tg_qm q p) j) = q.2.2.2.2.2.2.1 (p * 4 + j) ∧
  tg_hb (q.2.2.2.2.2.2.1 (p * 4 + j)) (tg_cn (q.2.2.2.2.2.2.2.1 (p * 4 + j))) = q.2.2.2.2.2.2.1 (p * 4 + j)
def tr_RM (q : tg_RS) (p : Nat) (r : tg_MR) (P : Nat) : Prop := r.2.1 P = q.1 p ∧ r.2.2.1 P = q.2.1 p ∧ r.2.2.2.1 P = q.2.2.1 p ∧ r.2.2.2.2.2.1 P = nI (tg_pc (tg_qm q p)) ∧
  (q.1 p = nI 0 → r.2.2.2.2.1 (4 * P + 0) = q.2.2.2.2.1 (p * 4)) ∧ (q.1 p = nI 1 → ∀ j, j < 4 → r.2.2.2.2.1 (4 * P + j) = q.2.2.2.2.1 (p * 4 + j)) ∧ tr_RE q p r P
def tr_RR (q : tg_RS) (o : Nat) (r : tg_MR) (s : Nat) : Prop := r.1 s = nI (tg_rz q) ∧ ∀ i, i < tg_rz q → tr_RM q ((o + i) % 100) r (100 * s + i)
/-- two rows that read alike at a place -/
def tr_Aq (q q' : tg_RS) (p : Nat) : Prop := q'.1 p = q.1 p ∧ q'.2.1 p = q.2.1 p ∧ q'.2.2.1 p = q.2.2.1 p ∧ q'.2.2.2.1 p = q.2.2.2.1 p ∧ ∀ j, j < 4 → q'.2.2.2.2.1 (p * 4 + j) = q.2.2.2.2.1 (p * 4 + j) ∧ q'.2.2.2.2.2.1 (p * 4 + j) = q.2.2.2.2.2.1 (p * 4 + j) ∧ q'.2.2.2.2.2.2.1 (p * 4 + j) = q.2.2.2.2.2.2.1 (p * 4 + j) ∧ q'.2.2.2.2.2.2.2.1 (p * 4 + j) = q.2.2.2.2.2.2.2.1 (p * 4 + j)
def tr_Ar (r r' : tg_MR) (P P' : Nat) : Prop := r'.2.1 P' = r.2.1 P ∧ r'.2.2.1 P' = r.2.2.1 P ∧ r'.2.2.2.1 P' = r.2.2.2.1 P ∧ r'.2.2.2.2.2.1 P' = r.2.2.2.2.2.1 P ∧ ∀ j, j < 4 → r'.2.2.2.2.1 (4 * P' + j) = r.2.2.2.2.1 (4 * P + j) ∧ r'.2.2.2.2.2.2.1 (4 * P' + j) = r.2.2.2.2.2.2.1 (4 * P + j) ∧ r'.2.2.2.2.2.2.2.1 (4 * P' + j) = r.2.2.2.2.2.2.2.1 (4 * P + j) ∧ r'.2.2.2.2.2.2.2.2.1 (4 * P' + j) = r.2.2.2.2.2.2.2.2.1 (4 * P + j) ∧ r'.2.2.2.2.2.2.2.2.2 (4 * P' + j) = r.2.2.2.2.2.2.2.2.2 (4 * P + j)
theorem tr_RM_mv {q q' : tg_RS} {p : Nat} {r r' : tg_MR} {P P' : Nat} (h : tr_RM q p r P) (hq : tr_Aq q q' p) (hr : tr_Ar r r' P P') : tr_RM q' p r' P' := by
  obtain ⟨h1, h2, h3, h4, h5, h6, h7⟩ := h
  obtain ⟨a1, a2, a3, a4, a5⟩ := hq
  obtain ⟨b1, b2, b3, b4, b5⟩ := hr
  have em : tg_qm q' p = tg_qm q p := by unfold tg_qm; rw [a4]
  have en : tg_qn q' p = tg_qn q p := by unfold tg_qn; rw [a3]
  refine ⟨by rw [b1, a1]; exact h1, by rw [b2, a2]; exact h2, by rw [b3, a3]; exact h3, by rw [b4, em]; exact h4, fun hk => ?_, fun hk j hj => ?_, fun j hj hb => ?_⟩
  · rw [(b5 0 (by omega)).1, h5 (by rw [← a1]; exact hk)]
    have := (a5 0 (by omega)).1
    exact this.symm
  · rw [(b5 j hj).1, (a5 j hj).1]
    exact h6 (by rw [← a1]; exact hk) j hj
  · rw [em] at hb ⊢
    have hc : tg_ct (tg_qm q p) j < 4 := Nat.lt_of_le_of_lt (tg_ct_le _ _) hj
    obtain ⟨c1, c2, c3, c4, c5⟩ := b5 _ hc
    obtain ⟨d1, d2, d3, d4⟩ := a5 j hj
    obtain ⟨g1, g2, g3, g4, g5⟩ := h7 j hj hb
    rw [c2, c3, c4, c5, en, d2, d3, d4]
    exact ⟨g1, g2, g3, g4, g5⟩
theorem tr_Aq_rfl (q : tg_RS) (p : Nat) : tr_Aq q q p := ⟨rfl, rfl, rfl, rfl, fun _ _ => ⟨rfl, rfl, rfl, rfl⟩⟩
theorem tr_Ar_rfl (r : tg_MR) (P : Nat) : tr_Ar r r P P := ⟨rfl, rfl, rfl, rfl, fun _ _ => ⟨rfl, rfl, rfl, rfl, rfl⟩⟩
theorem tr_mz {q : tg_RS} {o : Nat} {r : tg_MR} {s : Nat} (h : tr_RR q o r s) (hz : tg_rz q ≤ 100) : tg_mz r s = tg_rz q := by
  unfold tg_mz
  rw [h.1, tg_cn_nI (by omega)]
theorem tr_okMz {q q' : tg_RS} {o o' : Nat} {r : tg_MR} (h0 : tr_RR q o r 0) (h1 : tr_RR q' o' r 1) (hz : tg_rz q ≤ 100) (hz' : tg_rz q' ≤ 100) : tg_okMz r := by
  intro s hs
  rcases (show s = 0 ∨ s = 1 by omega) with rfl | rfl
  · rw [tr_mz h0 hz]; exact ⟨h0.1, hz⟩
  · rw [tr_mz h1 hz']; exact ⟨h1.1, hz'⟩
/-- the oldest message leaves -/
theorem tr_drop {q : tg_RS} {w : Nat} {r : tg_MR} {s : Nat} (h : tr_RR q w r s) (hz : 0 < tg_rz q) (hzu : tg_rz q ≤ 100) : tr_RR (tg_pop q) ((w + 1) % 100) (tg_drR r s) s := by
  have em := tr_mz h hzu
  constructor
  · show upd r.1 s (nI (tg_mz r s - 1)) s = nI (tg_rz q - 1)
    rw [pk_us, em]
  · intro i hi
    have hi' : i < tg_rz q - 1 := hi
    have h1 := h.2 (i + 1) (by omega)
    rw [show (w + (i + 1)) % 100 = ((w + 1) % 100 + i) % 100 by omega] at h1
    refine tr_RM_mv h1 ⟨rfl, rfl, rfl, rfl, fun _ _ => ⟨rfl, rfl, rfl, rfl⟩⟩ ⟨?_, ?_, ?_, ?_, fun j hj => ⟨?_, ?_, ?_, ?_, ?_⟩⟩
    · show tg_shI r.2.1 (100 * s) (tg_mz r s - 1) _ = _
      rw [tr_shI, if_pos (by omega)]; rfl
    · show tg_shI r.2.2.1 (100 * s) (tg_mz r s - 1) _ = _
      rw [tr_shI, if_pos (by omega)]; rfl
    · show tg_shI r.2.2.2.1 (100 * s) (tg_mz r s - 1) _ = _
      rw [tr_shI, if_pos (by omega)]; rfl
    · show tg_shI r.2.2.2.2.2.1 (100 * s) (tg_mz r s - 1) _ = _
      rw [tr_shI, if_pos (by omega)]; rfl
    · show tg_sh4L r.2.2.2.2.1 (100 * s) (tg_mz r s - 1) _ = _
      rw [tr_sh4L, if_pos (by omega)]; exact congrArg _ (by omega)
    · show tg_sh4I r.2.2.2.2.2.2.1 (100 * s) (tg_mz r s - 1) _ = _
      rw [tr_sh4I, if_pos (by omega)]; exact congrArg _ (by omega)
    · show tg_sh4L r.2.2.2.2.2.2.2.1 (100 * s) (tg_mz r s - 1) _ = _
      rw [tr_sh4L, if_pos (by omega)]; exact congrArg _ (by omega)
    · show tg_sh4I r.2.2.2.2.2.2.2.2.1 (100 * s) (tg_mz r s - 1) _ = _
      rw [tr_sh4I, if_pos (by omega)]; exact congrArg _ (by omega)
    · show tg_sh4L r.2.2.2.2.2.2.2.2.2 (100 * s) (tg_mz r s - 1) _ = _
      rw [tr_sh4L, if_pos (by omega)]; exact congrArg _ (by omega)
theorem tr_dropo {q : tg_RS} {o : Nat} {r : tg_MR} {s s' : Nat} (h : tr_RR q o r s') (hs : s ≤ 1) (hs' : s' = 1 - s) (hzu : tg_rz q ≤ 100) (hmu : tg_mz r s ≤ 100) : tr_RR q o (tg_drR r s) s' := by
  constructor
  · show upd r.1 s (nI (tg_mz r s - 1)) s' = nI (tg_rz q)
    rw [pk_un (by omega)]; exact h.1
  · intro i hi
    refine tr_RM_mv (h.2 i hi) (tr_Aq_rfl _ _) ⟨?_, ?_, ?_, ?_, fun j hj => ⟨?_, ?_, ?_, ?_, ?_⟩⟩
    · show tg_shI r.2.1 (100 * s) (tg_mz r s - 1) _ = _
      rw [tr_shI, if_neg (by omega)]
    · show tg_shI r.2.2.1 (100 * s) (tg_mz r s - 1) _ = _
      rw [tr_shI, if_neg (by omega)]
    · show tg_shI r.2.2.2.1 (100 * s) (tg_mz r s - 1) _ = _
      rw [tr_shI, if_neg (by omega)]
    · show tg_shI r.2.2.2.2.2.1 (100 * s) (tg_mz r s - 1) _ = _
      rw [tr_shI, if_neg (by omega)]
    · show tg_sh4L r.2.2.2.2.1 (100 * s) (tg_mz r s - 1) _ = _
      rw [tr_sh4L, if_neg (by omega)]
    · show tg_sh4I r.2.2.2.2.2.2.1 (100 * s) (tg_mz r s - 1) _ = _
      rw [tr_sh4I, if_neg (by omega)]
    · show tg_sh4L r.2.2.2.2.2.2.2.1 (100 * s) (tg_mz r s - 1) _ = _
      rw [tr_sh4L, if_neg (by omega)]
    · show tg_sh4I r.2.2.2.2.2.2.2.2.1 (100 * s) (tg_mz r s - 1) _ = _
      rw [tr_sh4I, if_neg (by omega)]
    · show tg_sh4L r.2.2.2.2.2.2.2.2.2 (100 * s) (tg_mz r s - 1) _ = _
      rw [tr_sh4L, if_neg (by omega)]
/-- where a send writes, and where it doesn't -/
theorem tr_sd_o {r : tg_MR} {h : tg_MH} {tto : Nat} {x1 x2 x3 : Int32} {P : Nat} (hne : P ≠ 100 * tto + tg_mz r tto) : tr_Ar r (tg_sdR r h tto x1 x2 x3) P P := by
  unfold tg_sdR
  by_cases q : tg_mz r tto < 100
  · rw [decide_eq_true q]
    refine ⟨pk_un hne, pk_un hne, pk_un hne, pk_un hne, fun j hj => ⟨?_, ?_, ?_, ?_, ?_⟩⟩
    · show tg_c4L _ _ _ 4 _ = _
      rw [tr_c4L, if_neg (by omega)]
    · show tg_c4I _ _ _ 4 _ = _
      rw [tr_c4I, if_neg (by omega)]
    · show tg_c4L _ _ _ 4 _ = _
      rw [tr_c4L, if_neg (by omega)]
    · show tg_c4I _ _ _ 4 _ = _
      rw [tr_c4I, if_neg (by omega)]
    · show tg_c4L _ _ _ 4 _ = _
      rw [tr_c4L, if_neg (by omega)]
  · rw [decide_eq_false q]; exact tr_Ar_rfl r P
theorem tr_sdo {q : tg_RS} {o : Nat} {r : tg_MR} {s s' : Nat} {h : tg_MH} {x1 x2 x3 : Int32} (hr : tr_RR q o r s') (hs : s ≤ 1) (hs' : s' = 1 - s) (hzu : tg_rz q ≤ 100) (hmu : tg_mz r s ≤ 100) : tr_RR q o (tg_sdR r h s x1 x2 x3) s' := by
  constructor
  · unfold tg_sdR
    by_cases z : tg_mz r s < 100
    · rw [decide_eq_true z]
      show upd r.1 s _ s' = _
      rw [pk_un (by omega)]; exact hr.1
    · rw [decide_eq_false z]; exact hr.1
  · intro i hi
    by_cases z : tg_mz r s < 100
    · exact tr_RM_mv (hr.2 i hi) (tr_Aq_rfl _ _) (tr_sd_o (by omega))
    · have e : tg_sdR r h s x1 x2 x3 = r := by unfold tg_sdR; rw [decide_eq_false z]; rfl
      rw [e]; exact hr.2 i hi
/-- what stands at the place written -/
theorem tr_sd_s {r : tg_MR} {h : tg_MH} {tto : Nat} {x1 x2 x3 : Int32} (z : tg_mz r tto < 100) : (tg_sdR r h tto x1 x2 x3).2.1 (100 * tto + tg_mz r tto) = x1 ∧ (tg_sdR r h tto x1 x2 x3).2.2.1 (100 * tto + tg_mz r tto) = x2 ∧ (tg_sdR r h tto x1 x2 x3).2.2.2.1 (100 * tto + tg_mz r tto) = x3 ∧ (tg_sdR r h tto x1 x2 x3).2.2.2.2.2.1 (100 * tto + tg_mz r tto) = nI h.2.2.2.2.2 ∧
    ∀ j, j < 4 → (tg_sdR r h tto x1 x2 x3).2.2.2.2.1 (4 * (100 * tto + tg_mz r tto) + j) = h.1 j ∧ (tg_sdR r h tto x1 x2 x3).2.2.2.2.2.2.1 (4 * (100 * tto + tg_mz r tto) + j) = h.2.1 j ∧ (tg_sdR r h tto x1 x2 x3).2.2.2.2.2.2.2.1 (4 * (100 * tto + tg_mz r tto) + j) = h.2.2.1 j ∧ (tg_sdR r h tto x1 x2 x3).2.2.2.2.2.2.2.2.1 (4 * (100 * tto + tg_mz r tto) + j) = h.2.2.2.1 j ∧ (tg_sdR r h tto x1 x2 x3).2.2.2.2.2.2.2.2.2 (4 * (100 * tto + tg_mz r tto) + j) = h.2.2.2.2.1 j := by
  unfold tg_sdR
  rw [decide_eq_true z]
  refine ⟨pk_us, pk_us, pk_us, pk_us, fun j hj => ⟨?_, ?_, ?_, ?_, ?_⟩⟩
  · show tg_c4L _ _ _ 4 _ = _
    rw [tr_c4L, if_pos (by omega), Nat.add_sub_cancel_left]
  · show tg_c4I _ _ _ 4 _ = _
    rw [tr_c4I, if_pos (by omega), Nat.add_sub_cancel_left]
  · show tg_c4L _ _ _ 4 _ = _
    rw [tr_c4L, if_pos (by omega), Nat.add_sub_cancel_left]
  · show tg_c4I _ _ _ 4 _ = _
    rw [tr_c4I, if_pos (by omega), Nat.add_sub_cancel_left]
  · show tg_c4L _ _ _ 4 _ = _
    rw [tr_c4L, if_pos (by omega), Nat.add_sub_cancel_left]
/-- a message more on both sides -/
theorem tr_add {q q' : tg_RS} {o : Nat} {r : tg_MR} {s : Nat} {h : tg_MH} {x1 x2 x3 : Int32} (hr : tr_RR q o r s) (ho : o < 100) (hz : tg_rz q < 100) (e : tg_rz q' = tg_rz q + 1) (hA : ∀ p, p ≠ (o + tg_rz q) % 100 → tr_Aq q q' p) (hM : tr_RM q' ((o + tg_rz q) % 100) (tg_sdR r h s x1 x2 x3) (100 * s + tg_mz r s)) : tr_RR q' o (tg_sdR r h s x1 x2 x3) s := by
  have em := tr_mz hr (by omega)
  constructor
  · unfold tg_sdR
    rw [decide_eq_true (show tg_mz r s < 100 by omega)]
    show upd r.1 s (nI (tg_mz r s + 1)) s = nI (tg_rz q')
    rw [pk_us, em, e]
  · intro i hi
    by_cases z : i = tg_rz q
    · subst z
      rw [em] at hM
      exact hM
    · exact tr_RM_mv (hr.2 i (by omega)) (hA _ (tg_place_ne ho hz (by omega))) (tr_sd_o (by omega))
