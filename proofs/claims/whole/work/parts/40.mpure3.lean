/-! ===== the reference: getting by kind; checks of arguments; sums ===== -/
theorem tg_tkM_0 {m : tg_MM} {si : Nat} (hk : m.2.2.2.1.1.2.1 (100 * si) = nI 0) : tg_tkM m si = (m.1, tg_haA m.1 si m.2.1, tg_haH m.1 si m.2.1, cond (decide (tg_haA m.1 si m.2.1 0 = (tg_tkG m.2.2.2.2.1 m.2.2.2.1.1 (100 * si)).1 0)) (tg_drR m.2.2.2.1.1 si, m.2.2.2.1.2.1, m.2.2.2.1.2.2) (tg_slX (tg_drR m.2.2.2.1.1 si, m.2.2.2.1.2.1, m.2.2.2.1.2.2) (tg_haA m.1 si m.2.1) si 0 0), tg_tkG m.2.2.2.2.1 m.2.2.2.1.1 (100 * si), m.2.2.2.2.2) := by
  unfold tg_tkM; rw [decide_eq_true hk]; rfl
theorem tg_tkM_1 {m : tg_MM} {si : Nat} (hk : m.2.2.2.1.1.2.1 (100 * si) = nI 1) : tg_tkM m si = (m.1, tg_haA m.1 si m.2.1, tg_haH m.1 si m.2.1, tg_glX (tg_drR m.2.2.2.1.1 si, m.2.2.2.1.2.1, m.2.2.2.1.2.2) m.1 (tg_haA m.1 si m.2.1) (tg_tkG m.2.2.2.2.1 m.2.2.2.1.1 (100 * si)) si (tg_cn (m.2.2.2.1.1.2.2.1 (100 * si))) (tg_cn (m.2.2.2.1.1.2.2.2.1 (100 * si))) 4, tg_tkG m.2.2.2.2.1 m.2.2.2.1.1 (100 * si), m.2.2.2.2.2) := by
  unfold tg_tkM; rw [decide_eq_false (p := m.2.2.2.1.1.2.1 (100 * si) = nI 0) (by rw [hk]; exact tg_ne01), decide_eq_true hk]; rfl
theorem tg_tkM_2 {m : tg_MM} {si : Nat} (hk : m.2.2.2.1.1.2.1 (100 * si) = nI 2) : tg_tkM m si = (tg_rmA m.1 si (tg_tkG m.2.2.2.2.1 m.2.2.2.1.1 (100 * si)).2.1 (tg_tkG m.2.2.2.2.1 m.2.2.2.1.1 (100 * si)).2.2.1 (tg_tkG m.2.2.2.2.1 m.2.2.2.1.1 (100 * si)).2.2.2.1 (tg_tkG m.2.2.2.2.1 m.2.2.2.1.1 (100 * si)).2.2.2.2.1 (tg_tkG m.2.2.2.2.1 m.2.2.2.1.1 (100 * si)).2.2.2.2.2, m.2.1, m.2.2.1, tg_bkX (tg_drR m.2.2.2.1.1 si, m.2.2.2.1.2.1, m.2.2.2.1.2.2) (tg_rmA m.1 si (tg_tkG m.2.2.2.2.1 m.2.2.2.1.1 (100 * si)).2.1 (tg_tkG m.2.2.2.2.1 m.2.2.2.1.1 (100 * si)).2.2.1 (tg_tkG m.2.2.2.2.1 m.2.2.2.1.1 (100 * si)).2.2.2.1 (tg_tkG m.2.2.2.2.1 m.2.2.2.1.1 (100 * si)).2.2.2.2.1 (tg_tkG m.2.2.2.2.1 m.2.2.2.1.1 (100 * si)).2.2.2.2.2) (tg_tkG m.2.2.2.2.1 m.2.2.2.1.1 (100 * si)) si (tg_cn (m.2.2.2.1.1.2.2.2.1 (100 * si))), tg_tkG m.2.2.2.2.1 m.2.2.2.1.1 (100 * si), m.2.2.2.2.2) := by
  unfold tg_tkM; rw [decide_eq_false (p := m.2.2.2.1.1.2.1 (100 * si) = nI 0) (by rw [hk]; exact tg_ne02), decide_eq_false (p := m.2.2.2.1.1.2.1 (100 * si) = nI 1) (by rw [hk]; exact tg_ne12), decide_eq_true hk]; rfl
theorem tg_tkM_3 {m : tg_MM} {si : Nat} (hk : m.2.2.2.1.1.2.1 (100 * si) = nI 3) : tg_tkM m si = (tg_rmA m.1 si (tg_tkG m.2.2.2.2.1 m.2.2.2.1.1 (100 * si)).2.1 (tg_tkG m.2.2.2.2.1 m.2.2.2.1.1 (100 * si)).2.2.1 (tg_tkG m.2.2.2.2.1 m.2.2.2.1.1 (100 * si)).2.2.2.1 (tg_tkG m.2.2.2.2.1 m.2.2.2.1.1 (100 * si)).2.2.2.2.1 (tg_tkG m.2.2.2.2.1 m.2.2.2.1.1 (100 * si)).2.2.2.2.2, m.2.1, m.2.2.1, (tg_drR m.2.2.2.1.1 si, m.2.2.2.1.2.1, m.2.2.2.1.2.2), tg_tkG m.2.2.2.2.1 m.2.2.2.1.1 (100 * si), m.2.2.2.2.2) := by
  unfold tg_tkM; rw [decide_eq_false (p := m.2.2.2.1.1.2.1 (100 * si) = nI 0) (by rw [hk]; exact tg_ne03), decide_eq_false (p := m.2.2.2.1.1.2.1 (100 * si) = nI 1) (by rw [hk]; exact tg_ne13), decide_eq_false (p := m.2.2.2.1.1.2.1 (100 * si) = nI 2) (by rw [hk]; exact tg_ne23)]; rfl
def tg_stH (h : tg_MH) (v : Int64) : tg_MH := (vp_updL h.1 0 v, h.2.1, h.2.2.1, h.2.2.2.1, h.2.2.2.2.1, 0)
def tg_sz (th : Nat → Int32) (si : Nat) : Nat → Nat
  | 0 => 0
  | i + 1 => cond (decide (th (256 * si + i) = 0)) (tg_sz th si i) (tg_sz th si i + 1)
theorem tg_sz_n {th : Nat → Int32} {si i : Nat} (h : th (256 * si + i) = 0) : tg_sz th si (i + 1) = tg_sz th si i := by rw [tg_sz, decide_eq_true h]; rfl
theorem tg_sz_y {th : Nat → Int32} {si i : Nat} (h : ¬ th (256 * si + i) = 0) : tg_sz th si (i + 1) = tg_sz th si i + 1 := by rw [tg_sz, decide_eq_false h]; rfl
def tg_sa1 (e : tg_ES) (i : Nat) : Bool := decide (e.1 i = e.1 (256 + i)) && (decide (e.1 i = 0) || (decide (e.2.1 i = e.2.1 (256 + i)) && (decide (e.2.2.1 i = e.2.2.1 (256 + i)) && decide (e.2.2.2 i = e.2.2.2 (256 + i)))))
def tg_sa (e : tg_ES) : Nat → Bool
  | 0 => true
  | i + 1 => tg_sa e i && tg_sa1 e i
theorem tg_sa_f {e : tg_ES} {i : Nat} (h : tg_sa e i = false) : tg_sa e (i + 1) = false := by rw [tg_sa, h]; rfl
theorem tg_sa_1 {e : tg_ES} {i : Nat} {b : Bool} (h : tg_sa e i = true) (h1 : tg_sa1 e i = b) : tg_sa e (i + 1) = b := by rw [tg_sa, h, h1]; rfl
def tg_cz (f : Nat → Int32) : Nat → Nat → Int32
  | 0 => f
  | i + 1 => upd (tg_cz f i) i (nI 0)
theorem tg_cz_at (f : Nat → Int32) : ∀ n j, j < n → tg_cz f n j = nI 0
  | 0, j, h => absurd h (Nat.not_lt_zero j)
  | n + 1, j, h => by
    unfold tg_cz
    by_cases e : j = n
    · subst e; exact pk_us
    · rw [pk_un e]; exact tg_cz_at f n j (by omega)
theorem tg_isS_y {si : Nat} (h : si ≤ 1) : tg_isS (nI si) = true := by
  rcases (show si = 0 ∨ si = 1 by omega) with rfl | rfl <;> decide
theorem tg_isK_y0 : ∀ k, k < 256 → tg_isK (nI k) = true := by decide +kernel
theorem tg_isK_y {k : Nat} (h : k < 256) : tg_isK (nI k) = true := tg_isK_y0 k h
theorem tg_ft {b : Bool} (h : b = false) (h2 : b = true) : False := by rw [h] at h2; cases h2
/-- an int that isn't negative -/
theorem tg_nat {x : Int32} (h : ¬ x < 0) : x = nI (tg_cn x) ∧ tg_cn x < 2 ^ 31 := by
  have h0 : 0 ≤ x.toInt := by
    by_cases q : x.toInt < 0
    · exact absurd (Int32.lt_iff_toInt_lt.mpr (by simpa using q)) h
    · omega
  have h1 : x.toInt < 2 ^ 31 := Int32.toInt_lt x
  have e : tg_cn x = x.toInt.toNat := rfl
  have h2 : tg_cn x < 2 ^ 31 := by rw [e]; omega
  refine ⟨?_, h2⟩
  apply Int32.toInt.inj
  rw [nI_toInt h2, e]
  omega
theorem tg_isS_e {x : Int32} (h : tg_isS x = true) : ∃ si, si ≤ 1 ∧ x = nI si := by
  unfold tg_isS at h
  rw [Bool.or_eq_true, decide_eq_true_eq, decide_eq_true_eq] at h
  rcases h with h | h
  · exact ⟨0, by decide, h⟩
  · exact ⟨1, by decide, h⟩
theorem tg_isK_e {x : Int32} (h : tg_isK x = true) : ∃ k, k < 256 ∧ x = nI k := by
  unfold tg_isK at h
  rw [Bool.and_eq_true, decide_eq_true_eq, decide_eq_true_eq] at h
  obtain ⟨e, h2⟩ := tg_nat h.1
  refine ⟨tg_cn x, ?_, e⟩
  rcases Nat.lt_or_ge (tg_cn x) 256 with q | q
  · exact q
  · exact absurd (by rw [e]; exact (nI_leI (by decide) h2).mpr q) h.2
