/-! ===== the reference's state as one value ===== -/
/-- counts, kinds, levels, nodes, lists, manys, keys, keyStamps, keyLengths, keyValues -/
abbrev tg_MR : Type := (Nat → Int32) × (Nat → Int32) × (Nat → Int32) × (Nat → Int32) × (Nat → Int64) × (Nat → Int32) × (Nat → Int32) × (Nat → Int64) × (Nat → Int32) × (Nat → Int64)
/-- list, handKeys, handStamps, handLengths, handValues, many -/
abbrev tg_MH : Type := (Nat → Int64) × (Nat → Int32) × (Nat → Int64) × (Nat → Int32) × (Nat → Int64) × Nat
/-- rows, hand, counters -/
abbrev tg_MX : Type := tg_MR × tg_MH × tg_CT
/-- gotList, gotKeys, gotStamps, gotLengths, gotValues, gotMany -/
abbrev tg_MG : Type := (Nat → Int64) × (Nat → Int32) × (Nat → Int64) × (Nat → Int32) × (Nat → Int64) × Nat
/-- entries, hashes, h, rows and hand and counters, got, code -/
abbrev tg_MM : Type := tg_ES × (Nat → Int64) × Int64 × tg_MX × tg_MG × Int32
def tg_mz (r : tg_MR) (s : Nat) : Nat := tg_cn (r.1 s)
def tg_okMz (r : tg_MR) : Prop := ∀ s, s ≤ 1 → r.1 s = nI (tg_mz r s) ∧ tg_mz r s ≤ 100
def tg_lc (f g : Nat → Int64) : Nat → Nat → Int64
  | 0 => f
  | i + 1 => vp_updL (tg_lc f g i) i (g i)
def tg_lcI (f g : Nat → Int32) : Nat → Nat → Int32
  | 0 => f
  | i + 1 => upd (tg_lcI f g i) i (g i)
def tg_sdR (r : tg_MR) (h : tg_MH) (tto : Nat) (x1 x2 x3 : Int32) : tg_MR :=
  cond (decide (tg_mz r tto < 100)) (upd r.1 tto (nI (tg_mz r tto + 1)), upd r.2.1 (100 * tto + tg_mz r tto) x1, upd r.2.2.1 (100 * tto + tg_mz r tto) x2, upd r.2.2.2.1 (100 * tto + tg_mz r tto) x3,
    tg_c4L r.2.2.2.2.1 (4 * (100 * tto + tg_mz r tto)) h.1 4, upd r.2.2.2.2.2.1 (100 * tto + tg_mz r tto) (nI h.2.2.2.2.2), tg_c4I r.2.2.2.2.2.2.1 (4 * (100 * tto + tg_mz r tto)) h.2.1 4,
    tg_c4L r.2.2.2.2.2.2.2.1 (4 * (100 * tto + tg_mz r tto)) h.2.2.1 4, tg_c4I r.2.2.2.2.2.2.2.2.1 (4 * (100 * tto + tg_mz r tto)) h.2.2.2.1 4, tg_c4L r.2.2.2.2.2.2.2.2.2 (4 * (100 * tto + tg_mz r tto)) h.2.2.2.2.1 4) r
def tg_sdC (c : tg_CT) (z mn : Nat) : tg_CT := (c.1 + nI 1, cond (decide (z < 100)) c.2.1 (c.2.1 + nI 1), c.2.2 + nI mn)
def tg_sdX (x : tg_MX) (tto : Nat) (x1 x2 x3 : Int32) : tg_MX := (tg_sdR x.1 x.2.1 tto x1 x2 x3, x.2.1, tg_sdC x.2.2 (tg_mz x.1 tto) x.2.1.2.2.2.2.2)
def tg_drR (r : tg_MR) (si : Nat) : tg_MR :=
  (upd r.1 si (nI (tg_mz r si - 1)), tg_shI r.2.1 (100 * si) (tg_mz r si - 1), tg_shI r.2.2.1 (100 * si) (tg_mz r si - 1), tg_shI r.2.2.2.1 (100 * si) (tg_mz r si - 1), tg_sh4L r.2.2.2.2.1 (100 * si) (tg_mz r si - 1), tg_shI r.2.2.2.2.2.1 (100 * si) (tg_mz r si - 1),
    tg_sh4I r.2.2.2.2.2.2.1 (100 * si) (tg_mz r si - 1), tg_sh4L r.2.2.2.2.2.2.2.1 (100 * si) (tg_mz r si - 1), tg_sh4I r.2.2.2.2.2.2.2.2.1 (100 * si) (tg_mz r si - 1), tg_sh4L r.2.2.2.2.2.2.2.2.2 (100 * si) (tg_mz r si - 1))
def tg_hdH (e : tg_ES) (h : tg_MH) (ix : Nat) : tg_MH := (h.1, upd h.2.1 h.2.2.2.2.2 (nI (ix % 256)), vp_updL h.2.2.1 h.2.2.2.2.2 (e.2.1 ix), upd h.2.2.2.1 h.2.2.2.2.2 (e.2.2.1 ix), vp_updL h.2.2.2.2.1 h.2.2.2.2.2 (e.2.2.2 ix), h.2.2.2.2.2 + 1)
def tg_h00 (h : tg_MH) : tg_MH := (h.1, h.2.1, h.2.2.1, h.2.2.2.1, h.2.2.2.2.1, 0)
def tg_haA (e : tg_ES) (si : Nat) (ha : Nat → Int64) : Nat → Int64 := tg_H0 e.1 e.2.1 e.2.2.1 e.2.2.2 si ha
def tg_haH (e : tg_ES) (si : Nat) (ha : Nat → Int64) : Int64 := tg_Hh e.1 e.2.1 e.2.2.1 e.2.2.2 si ha
def tg_slH (h : tg_MH) (ha : Nat → Int64) (p : Nat) : tg_MH := (tg_lc h.1 (fun j => ha (p + j)) 4, h.2.1, h.2.2.1, h.2.2.2.1, h.2.2.2.2.1, 0)
def tg_slX (x : tg_MX) (ha : Nat → Int64) (si k nd : Nat) : tg_MX := tg_sdX (x.1, tg_slH x.2.1 ha (tg_bg (k + 1) + 4 * nd), x.2.2) (1 - si) (nI 1) (nI k) (nI nd)
def tg_lfH (e : tg_ES) (h : tg_MH) (si nd : Nat) : Nat → tg_MH
  | 0 => tg_h00 h
  | i + 1 => cond (decide (e.1 (256 * si + (4 * nd + i)) = 0)) (tg_lfH e h si nd i) (tg_hdH e (tg_lfH e h si nd i) (256 * si + (4 * nd + i)))
theorem tg_lfH_n {e : tg_ES} {h : tg_MH} {si nd i : Nat} (q : e.1 (256 * si + (4 * nd + i)) = 0) : tg_lfH e h si nd (i + 1) = tg_lfH e h si nd i := by rw [tg_lfH, decide_eq_true q]; rfl
theorem tg_lfH_y {e : tg_ES} {h : tg_MH} {si nd i : Nat} (q : ¬ e.1 (256 * si + (4 * nd + i)) = 0) : tg_lfH e h si nd (i + 1) = tg_hdH e (tg_lfH e h si nd i) (256 * si + (4 * nd + i)) := by rw [tg_lfH, decide_eq_false q]; rfl
theorem tg_lfH_le (e : tg_ES) (h : tg_MH) (si nd : Nat) : ∀ i, (tg_lfH e h si nd i).2.2.2.2.2 ≤ i
  | 0 => Nat.le_refl 0
  | i + 1 => by
    have h1 := tg_lfH_le e h si nd i
    by_cases q : e.1 (256 * si + (4 * nd + i)) = 0
    · rw [tg_lfH_n q]; omega
    · rw [tg_lfH_y q]; exact Nat.succ_le_succ h1
def tg_seX (x : tg_MX) (e : tg_ES) (si nd : Nat) : tg_MX := tg_sdX (x.1, tg_lfH e x.2.1 si nd 4, x.2.2) (1 - si) (nI 2) (nI 3) (nI nd)
def tg_glX (x : tg_MX) (e : tg_ES) (ha : Nat → Int64) (g : tg_MG) (si kk nd : Nat) : Nat → tg_MX
  | 0 => x
  | i + 1 => cond (decide (ha (tg_bg (kk + 1) + (4 * nd + i)) = g.1 i)) (tg_glX x e ha g si kk nd i) (cond (decide (kk = 2)) (tg_seX (tg_glX x e ha g si kk nd i) e si (4 * nd + i)) (tg_slX (tg_glX x e ha g si kk nd i) ha si (kk + 1) (4 * nd + i)))
theorem tg_glX_s {x : tg_MX} {e : tg_ES} {ha : Nat → Int64} {g : tg_MG} {si kk nd i : Nat} (h : ha (tg_bg (kk + 1) + (4 * nd + i)) = g.1 i) : tg_glX x e ha g si kk nd (i + 1) = tg_glX x e ha g si kk nd i := by rw [tg_glX, decide_eq_true h]; rfl
theorem tg_glX_e {x : tg_MX} {e : tg_ES} {ha : Nat → Int64} {g : tg_MG} {si kk nd i : Nat} (h : ¬ ha (tg_bg (kk + 1) + (4 * nd + i)) = g.1 i) (h2 : kk = 2) : tg_glX x e ha g si kk nd (i + 1) = tg_seX (tg_glX x e ha g si kk nd i) e si (4 * nd + i) := by rw [tg_glX, decide_eq_false h, decide_eq_true h2]; rfl
theorem tg_glX_l {x : tg_MX} {e : tg_ES} {ha : Nat → Int64} {g : tg_MG} {si kk nd i : Nat} (h : ¬ ha (tg_bg (kk + 1) + (4 * nd + i)) = g.1 i) (h2 : ¬ kk = 2) : tg_glX x e ha g si kk nd (i + 1) = tg_slX (tg_glX x e ha g si kk nd i) ha si (kk + 1) (4 * nd + i) := by rw [tg_glX, decide_eq_false h, decide_eq_false h2]; rfl
def tg_bkb (e : tg_ES) (g : tg_MG) (ix : Nat) : Bool := tg_ig e ix g.2.1 g.2.2.1 g.2.2.2.1 g.2.2.2.2.1 g.2.2.2.2.2
def tg_bkH (e : tg_ES) (g : tg_MG) (h : tg_MH) (si nd : Nat) : Nat → tg_MH
  | 0 => tg_h00 h
  | i + 1 => cond (decide (e.1 (256 * si + (4 * nd + i)) = 0) || tg_bkb e g (256 * si + (4 * nd + i))) (tg_bkH e g h si nd i) (tg_hdH e (tg_bkH e g h si nd i) (256 * si + (4 * nd + i)))
theorem tg_bkH_n {e : tg_ES} {g : tg_MG} {h : tg_MH} {si nd i : Nat} (q : e.1 (256 * si + (4 * nd + i)) = 0) : tg_bkH e g h si nd (i + 1) = tg_bkH e g h si nd i := by rw [tg_bkH, decide_eq_true q]; rfl
theorem tg_bkH_g {e : tg_ES} {g : tg_MG} {h : tg_MH} {si nd i : Nat} (q : tg_bkb e g (256 * si + (4 * nd + i)) = true) : tg_bkH e g h si nd (i + 1) = tg_bkH e g h si nd i := by rw [tg_bkH, q, Bool.or_true]; rfl
theorem tg_bkH_y {e : tg_ES} {g : tg_MG} {h : tg_MH} {si nd i : Nat} (q : ¬ e.1 (256 * si + (4 * nd + i)) = 0) (q2 : tg_bkb e g (256 * si + (4 * nd + i)) = false) : tg_bkH e g h si nd (i + 1) = tg_hdH e (tg_bkH e g h si nd i) (256 * si + (4 * nd + i)) := by rw [tg_bkH, decide_eq_false q, q2]; rfl
theorem tg_bkH_le (e : tg_ES) (g : tg_MG) (h : tg_MH) (si nd : Nat) : ∀ i, (tg_bkH e g h si nd i).2.2.2.2.2 ≤ i
  | 0 => Nat.le_refl 0
  | i + 1 => by
    have h1 := tg_bkH_le e g h si nd i
    by_cases q : e.1 (256 * si + (4 * nd + i)) = 0
    · rw [tg_bkH_n q]; omega
    · cases q2 : tg_bkb e g (256 * si + (4 * nd + i)) with
      | true => rw [tg_bkH_g q2]; omega
      | false => rw [tg_bkH_y q q2]; exact Nat.succ_le_succ h1
def tg_bkX (x : tg_MX) (e : tg_ES) (g : tg_MG) (si nd : Nat) : tg_MX :=
  cond (decide ((tg_bkH e g x.2.1 si nd 4).2.2.2.2.2 = 0)) (x.1, tg_bkH e g x.2.1 si nd 4, x.2.2) (tg_sdX (x.1, tg_bkH e g x.2.1 si nd 4, x.2.2) (1 - si) (nI 3) (nI 3) (nI nd))
def tg_tkG (g : tg_MG) (r : tg_MR) (p : Nat) : tg_MG :=
  (tg_lc g.1 (fun j => r.2.2.2.2.1 (4 * p + j)) 4, tg_lcI g.2.1 (fun j => r.2.2.2.2.2.2.1 (4 * p + j)) 4, tg_lc g.2.2.1 (fun j => r.2.2.2.2.2.2.2.1 (4 * p + j)) 4, tg_lcI g.2.2.2.1 (fun j => r.2.2.2.2.2.2.2.2.1 (4 * p + j)) 4, tg_lc g.2.2.2.2.1 (fun j => r.2.2.2.2.2.2.2.2.2 (4 * p + j)) 4, tg_cn (r.2.2.2.2.2.1 p))
/-- getting the oldest message -/
def tg_tkM (m : tg_MM) (si : Nat) : tg_MM :=
  cond (decide (m.2.2.2.1.1.2.1 (100 * si) = nI 0))
    (m.1, tg_haA m.1 si m.2.1, tg_haH m.1 si m.2.1, cond (decide (tg_haA m.1 si m.2.1 0 = (tg_tkG m.2.2.2.2.1 m.2.2.2.1.1 (100 * si)).1 0)) (tg_drR m.2.2.2.1.1 si, m.2.2.2.1.2.1, m.2.2.2.1.2.2) (tg_slX (tg_drR m.2.2.2.1.1 si, m.2.2.2.1.2.1, m.2.2.2.1.2.2) (tg_haA m.1 si m.2.1) si 0 0), tg_tkG m.2.2.2.2.1 m.2.2.2.1.1 (100 * si), m.2.2.2.2.2)
  (cond (decide (m.2.2.2.1.1.2.1 (100 * si) = nI 1))
    (m.1, tg_haA m.1 si m.2.1, tg_haH m.1 si m.2.1, tg_glX (tg_drR m.2.2.2.1.1 si, m.2.2.2.1.2.1, m.2.2.2.1.2.2) m.1 (tg_haA m.1 si m.2.1) (tg_tkG m.2.2.2.2.1 m.2.2.2.1.1 (100 * si)) si (tg_cn (m.2.2.2.1.1.2.2.1 (100 * si))) (tg_cn (m.2.2.2.1.1.2.2.2.1 (100 * si))) 4, tg_tkG m.2.2.2.2.1 m.2.2.2.1.1 (100 * si), m.2.2.2.2.2)
  (cond (decide (m.2.2.2.1.1.2.1 (100 * si) = nI 2))
    (tg_rmA m.1 si (tg_tkG m.2.2.2.2.1 m.2.2.2.1.1 (100 * si)).2.1 (tg_tkG m.2.2.2.2.1 m.2.2.2.1.1 (100 * si)).2.2.1 (tg_tkG m.2.2.2.2.1 m.2.2.2.1.1 (100 * si)).2.2.2.1 (tg_tkG m.2.2.2.2.1 m.2.2.2.1.1 (100 * si)).2.2.2.2.1 (tg_tkG m.2.2.2.2.1 m.2.2.2.1.1 (100 * si)).2.2.2.2.2, m.2.1, m.2.2.1,
      tg_bkX (tg_drR m.2.2.2.1.1 si, m.2.2.2.1.2.1, m.2.2.2.1.2.2) (tg_rmA m.1 si (tg_tkG m.2.2.2.2.1 m.2.2.2.1.1 (100 * si)).2.1 (tg_tkG m.2.2.2.2.1 m.2.2.2.1.1 (100 * si)).2.2.1 (tg_tkG m.2.2.2.2.1 m.2.2.2.1.1 (100 * si)).2.2.2.1 (tg_tkG m.2.2.2.2.1 m.2.2.2.1.1 (100 * si)).2.2.2.2.1 (tg_tkG m.2.2.2.2.1 m.2.2.2.1.1 (100 * si)).2.2.2.2.2) (tg_tkG m.2.2.2.2.1 m.2.2.2.1.1 (100 * si)) si (tg_cn (m.2.2.2.1.1.2.2.2.1 (100 * si))), tg_tkG m.2.2.2.2.1 m.2.2.2.1.1 (100 * si), m.2.2.2.2.2)
    (tg_rmA m.1 si (tg_tkG m.2.2.2.2.1 m.2.2.2.1.1 (100 * si)).2.1 (tg_tkG m.2.2.2.2.1 m.2.2.2.1.1 (100 * si)).2.2.1 (tg_tkG m.2.2.2.2.1 m.2.2.2.1.1 (100 * si)).2.2.2.1 (tg_tkG m.2.2.2.2.1 m.2.2.2.1.1 (100 * si)).2.2.2.2.1 (tg_tkG m.2.2.2.2.1 m.2.2.2.1.1 (100 * si)).2.2.2.2.2, m.2.1, m.2.2.1, (tg_drR m.2.2.2.1.1 si, m.2.2.2.1.2.1, m.2.2.2.1.2.2), tg_tkG m.2.2.2.2.1 m.2.2.2.1.1 (100 * si), m.2.2.2.2.2)))
/-- what getting needs of the oldest message -/
def tg_okTk (r : tg_MR) (p : Nat) : Prop :=
  r.2.2.2.2.2.1 p = nI (tg_cn (r.2.2.2.2.2.1 p)) ∧ tg_okGt (fun j => r.2.2.2.2.2.2.1 (4 * p + j)) (fun j => r.2.2.2.2.2.2.2.2.1 (4 * p + j)) (tg_cn (r.2.2.2.2.2.1 p)) ∧ r.2.2.2.1 p = nI (tg_cn (r.2.2.2.1 p)) ∧ tg_cn (r.2.2.2.1 p) < 64 ∧
  (r.2.1 p = nI 0 ∨ (r.2.1 p = nI 1 ∧ r.2.2.1 p = nI (tg_cn (r.2.2.1 p)) ∧ tg_cn (r.2.2.1 p) < 3 ∧ tg_cn (r.2.2.2.1 p) < 4 ^ tg_cn (r.2.2.1 p)) ∨ r.2.1 p = nI 2 ∨ r.2.1 p = nI 3)
theorem tg_okMz_sd {r : tg_MR} (h : tg_okMz r) (hh : tg_MH) (tto : Nat) (x1 x2 x3 : Int32) : tg_okMz (tg_sdR r hh tto x1 x2 x3) := by
  unfold tg_sdR
  by_cases q : tg_mz r tto < 100
  · rw [decide_eq_true q]
    intro s hs
    by_cases e : s = tto
    · subst e
      show upd r.1 s (nI (tg_mz r s + 1)) s = nI (tg_cn (upd r.1 s (nI (tg_mz r s + 1)) s)) ∧ tg_cn (upd r.1 s (nI (tg_mz r s + 1)) s) ≤ 100
      rw [pk_us, tg_cn_nI (by omega)]
      exact ⟨rfl, by omega⟩
    · show upd r.1 tto _ s = nI (tg_cn (upd r.1 tto _ s)) ∧ tg_cn (upd r.1 tto _ s) ≤ 100
      rw [pk_un e]
      exact h s hs
  · rw [decide_eq_false q]; exact h
theorem tg_okMz_dr {r : tg_MR} (h : tg_okMz r) {si : Nat} (hsi : si ≤ 1) : tg_okMz (tg_drR r si) := by
  intro s hs
  by_cases e : s = si
  · subst e
    show upd r.1 s (nI (tg_mz r s - 1)) s = nI (tg_cn (upd r.1 s (nI (tg_mz r s - 1)) s)) ∧ tg_cn (upd r.1 s (nI (tg_mz r s - 1)) s) ≤ 100
    have h1 := (h s hs).2
    rw [pk_us, tg_cn_nI (by omega)]
    exact ⟨rfl, by omega⟩
  · show upd r.1 si _ s = nI (tg_cn (upd r.1 si _ s)) ∧ tg_cn (upd r.1 si _ s) ≤ 100
    rw [pk_un e]
    exact h s hs
theorem tg_okMz_gl {x : tg_MX} (h : tg_okMz x.1) (e : tg_ES) (ha : Nat → Int64) (g : tg_MG) (si kk nd : Nat) : ∀ i, tg_okMz (tg_glX x e ha g si kk nd i).1
  | 0 => h
  | i + 1 => by
    have h1 := tg_okMz_gl h e ha g si kk nd i
    by_cases q : ha (tg_bg (kk + 1) + (4 * nd + i)) = g.1 i
    · rw [tg_glX_s q]; exact h1
    · by_cases q2 : kk = 2
      · rw [tg_glX_e q q2]; exact tg_okMz_sd h1 _ _ _ _ _
      · rw [tg_glX_l q q2]; exact tg_okMz_sd h1 _ _ _ _ _
theorem tg_bgl {kk nd : Nat} (hk : kk < 3) (hnd : nd < 4 ^ kk) : nd < 16 ∧ tg_bg (kk + 1) + 4 * nd + 4 ≤ 85 ∧ (¬ kk = 2 → ∀ i, i < 4 → kk + 1 < 3 ∧ 4 * nd + i < 16 ∧ tg_bg (kk + 1 + 1) + 4 * (4 * nd + i) + 4 ≤ 85) := by
  rcases (show kk = 0 ∨ kk = 1 ∨ kk = 2 by omega) with rfl | rfl | rfl
  · simp only [Nat.pow_zero] at hnd
    refine ⟨by omega, by show 1 + 4 * nd + 4 ≤ 85; omega, fun _ i hi => ⟨by omega, by omega, by show 5 + 4 * (4 * nd + i) + 4 ≤ 85; omega⟩⟩
  · simp only [Nat.pow_one] at hnd
    refine ⟨by omega, by show 5 + 4 * nd + 4 ≤ 85; omega, fun _ i hi => ⟨by omega, by omega, by show 21 + 4 * (4 * nd + i) + 4 ≤ 85; omega⟩⟩
  · have h2 : nd < 16 := hnd
    exact ⟨h2, by show 21 + 4 * nd + 4 ≤ 85; omega, fun h => absurd rfl h⟩
theorem tg_lc_at (f g : Nat → Int64) : ∀ n j, j < n → tg_lc f g n j = g j
  | 0, j, h => absurd h (Nat.not_lt_zero j)
  | n + 1, j, h => by
    unfold tg_lc
    by_cases e : j = n
    · subst e; exact pk_uLs
    · rw [pk_uLn e]; exact tg_lc_at f g n j (by omega)
theorem tg_lcI_at (f g : Nat → Int32) : ∀ n j, j < n → tg_lcI f g n j = g j
  | 0, j, h => absurd h (Nat.not_lt_zero j)
  | n + 1, j, h => by
    unfold tg_lcI
    by_cases e : j = n
    · subst e; exact pk_us
    · rw [pk_un e]; exact tg_lcI_at f g n j (by omega)
theorem tg_okGt_tk {g : tg_MG} {r : tg_MR} {p : Nat} (h : tg_okTk r p) : tg_okGt (tg_tkG g r p).2.1 (tg_tkG g r p).2.2.2.1 (tg_tkG g r p).2.2.2.2.2 := by
  have h1 := h.2.1
  refine ⟨h1.1, fun i hi => ?_⟩
  have h2 := h1.2 i hi
  have h4 : i < 4 := Nat.lt_of_lt_of_le hi h1.1
  show tg_lcI _ _ 4 i = nI (tg_cn (tg_lcI _ _ 4 i)) ∧ tg_cn (tg_lcI _ _ 4 i) < 256 ∧ tg_lcI _ _ 4 i = nI (tg_cn (tg_lcI _ _ 4 i)) ∧ tg_cn (tg_lcI _ _ 4 i) ≤ 8
  rw [tg_lcI_at _ _ 4 i h4, tg_lcI_at _ _ 4 i h4]
  exact h2
/-- run, turns from u on -/
def tg_mr (n : Nat) : Nat → Nat → Nat → tg_MM → Nat × tg_MM
  | 0, _, got, m => (got, m)
  | f + 1, u, got, m => cond (decide (got < n) && decide (0 < tg_mz m.2.2.2.1.1 0 + tg_mz m.2.2.2.1.1 1)) (cond (decide (0 < tg_mz m.2.2.2.1.1 (u % 2))) (tg_mr n f (u + 1) (got + 1) (tg_tkM m (u % 2))) (tg_mr n f (u + 1) got m)) (got, m)
theorem tg_mr_stop {n f u got : Nat} {m : tg_MM} (h : n ≤ got ∨ tg_mz m.2.2.2.1.1 0 + tg_mz m.2.2.2.1.1 1 = 0) : tg_mr n f u got m = (got, m) := by
  cases f with
  | zero => rfl
  | succ f =>
    rw [tg_mr]
    rcases h with h | h
    · rw [decide_eq_false (Nat.not_lt.mpr h)]; rfl
    · rw [decide_eq_false (p := 0 < tg_mz m.2.2.2.1.1 0 + tg_mz m.2.2.2.1.1 1) (by omega), Bool.and_false]; rfl
theorem tg_mr_y {n f u got : Nat} {m : tg_MM} (h : got < n) (h0 : 0 < tg_mz m.2.2.2.1.1 0 + tg_mz m.2.2.2.1.1 1) (h1 : 0 < tg_mz m.2.2.2.1.1 (u % 2)) : tg_mr n (f + 1) u got m = tg_mr n f (u + 1) (got + 1) (tg_tkM m (u % 2)) := by
  rw [tg_mr, decide_eq_true h, decide_eq_true h0, decide_eq_true h1]; rfl
theorem tg_mr_n {n f u got : Nat} {m : tg_MM} (h : got < n) (h0 : 0 < tg_mz m.2.2.2.1.1 0 + tg_mz m.2.2.2.1.1 1) (h1 : ¬ 0 < tg_mz m.2.2.2.1.1 (u % 2)) : tg_mr n (f + 1) u got m = tg_mr n f (u + 1) got m := by
  rw [tg_mr, decide_eq_true h, decide_eq_true h0, decide_eq_false h1]; rfl
