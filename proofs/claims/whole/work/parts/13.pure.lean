/-! ===== the pure words: bytes, hashes, masks ===== -/
def tg_hb (v : Int64) (k : Nat) : Int64 := if k = 0 then 0 else v &&& tg_ll (-1) (nI (64 - 8 * k))
def tg_by (v : Int64) (i : Nat) : Int64 := tg_lu v (nI (56 - 8 * i)) &&& 255
def tg_bi (v : Int64) (i : Nat) : Int32 := Int64.toInt32 (tg_lu v (nI (56 - 8 * i))) &&& nI 255
def tg_mx (h b : Int64) : Int64 := tg_ll ((h ^^^ b) * (-7046029254386353131)) (nI 23) ||| tg_lu ((h ^^^ b) * (-7046029254386353131)) (nI 41)
def tg_wb (h v : Int64) : Nat → Int64
  | 0 => h
  | i + 1 => tg_mx (tg_wb h v i) (tg_by v i)
def tg_fin (h : Int64) : Int64 := h ^^^ tg_lu h (nI 31)
def tg_hi (x : Int32) : Int64 := tg_ll (Int32.toInt64 x) (nI 56)
def tg_cn (x : Int32) : Nat := x.toNatClampNeg
def tg_has (le : Nat → Int32) (k : Nat) : Bool := decide (le k ≠ -1)
/-- lengths: none, or 0 to 8 -/
def tg_okL (le : Nat → Int32) : Prop := ∀ k, k < 256 → le k ≠ -1 → le k = nI (tg_cn (le k)) ∧ tg_cn (le k) ≤ 8
def tg_ent (st va : Nat → Int64) (le : Nat → Int32) (h : Int64) (k : Nat) : Int64 := tg_wb (tg_wb (tg_wb (tg_wb h (tg_hi (nI k)) 1) (st k) 8) (tg_hi (nI (tg_cn (le k)))) 1) (va k) (tg_cn (le k))
def tg_lfh (st va : Nat → Int64) (le : Nat → Int32) (lf : Nat) : Nat → Int64
  | 0 => 5903417617427348583
  | i + 1 => if tg_has le (lf * 4 + i) then tg_ent st va le (tg_lfh st va le lf i) (lf * 4 + i) else tg_lfh st va le lf i
def tg_LH (st va : Nat → Int64) (le : Nat → Int32) (lf : Nat) : Int64 := tg_fin (tg_lfh st va le lf 4)
def tg_chh (ha : Nat → Int64) (pl : Nat) : Nat → Int64
  | 0 => 5903417617427348583
  | i + 1 => tg_wb (tg_chh ha pl i) (ha (pl * 4 + 1 + i)) 8
def tg_CH (ha : Nat → Int64) (pl : Nat) : Int64 := tg_fin (tg_chh ha pl 4)
def tg_mk (b : Nat → Bool) : Nat → Nat
  | 0 => 0
  | i + 1 => if b i then tg_mk b i + 2 ^ i else tg_mk b i
theorem tg_mk_lt (b : Nat → Bool) : ∀ i, tg_mk b i < 2 ^ i
  | 0 => Nat.le_refl 1
  | i + 1 => by
    have h := tg_mk_lt b i
    have e : 2 ^ (i + 1) = 2 ^ i + 2 ^ i := by rw [Nat.pow_succ]; omega
    unfold tg_mk
    split <;> omega
theorem tg_orb0 : ∀ i, i < 4 → ∀ m, m < 2 ^ i → nI m ||| (nI 1 <<< (nI i &&& 31)) = nI (m + 2 ^ i) := by decide +kernel
theorem tg_orb (b : Nat → Bool) {i : Nat} (h : i < 4) : nI (tg_mk b i) ||| (nI 1 <<< (nI i &&& 31)) = nI (tg_mk b i + 2 ^ i) := tg_orb0 i h _ (tg_mk_lt b i)
theorem tg_n4 : ∀ k, k < 4 → nI 1 <<< (nI (2 * k) &&& 31) = nI (4 ^ k) := by decide +kernel
theorem tg_neg1 (k : Nat) (h : k < 2 ^ 31) : nI k ≠ -1 := fun e => by
  have h1 := nI_toInt h
  rw [e] at h1
  have h2 : (-1 : Int32).toInt = -1 := by decide
  omega
def tg_cp (x y : Int64) : Int32 := if x < y then -1 else if x = y then nI 0 else nI 1
def tg_cu (x y : Int64) : Int32 := tg_cp (x + (-9223372036854775808)) (y + (-9223372036854775808))
def tg_new (s0 : Int64) (n0 : Int32) (v0 s1 : Int64) (n1 : Int32) (v1 : Int64) : Bool :=
  if s1 = s0 then (if n1 = n0 then decide (¬ tg_cu v1 v0 ≤ 0) else decide (¬ n1 ≤ n0)) else decide (s0 < s1)
/-- does an entry come in -/
def tg_in (st va : Nat → Int64) (le : Nat → Int32) (k : Nat) (s1 v1 : Int64) (n1 : Int32) : Bool := !(tg_has le k) || tg_new (st k) (le k) (va k) s1 n1 v1
def tg_js (st va : Nat → Int64) (le : Nat → Int32) (k : Nat) (s1 v1 : Int64) (n1 : Int32) : Bool := decide (le k = n1) && (decide (st k = s1) && decide (va k = v1))
/-- the hashes above a key, made anew -/
def tg_r3 (st va : Nat → Int64) (le : Nat → Int32) (ha : Nat → Int64) (k : Nat) : Nat → Int64 := vp_updL ha (21 + k / 4) (tg_LH st va le (k / 4))
def tg_rc (ha : Nat → Int64) (pl : Nat) : Nat → Int64 := vp_updL ha pl (tg_CH ha pl)
def tg_rh (st va : Nat → Int64) (le : Nat → Int32) (ha : Nat → Int64) (k : Nat) : Nat → Int64 :=
  tg_rc (tg_rc (tg_rc (tg_r3 st va le ha k) ((21 + k / 4 - 1) / 4)) (((21 + k / 4 - 1) / 4 - 1) / 4)) ((((21 + k / 4 - 1) / 4 - 1) / 4 - 1) / 4)
def tg_fill (ha : Nat → Int64) (fs : Nat) (h : Int64) : Nat → Nat → Int64
  | 0 => ha
  | i + 1 => vp_updL (tg_fill ha fs h i) (fs + i) h
def tg_clL (f : Nat → Int64) : Nat → Nat → Int64
  | 0 => f
  | i + 1 => vp_updL (tg_clL f i) i 0
def tg_clI (f : Nat → Int32) : Nat → Nat → Int32
  | 0 => f
  | i + 1 => upd (tg_clI f i) i (-1)
theorem tg_clL_at (f : Nat → Int64) : ∀ n j, j < n → tg_clL f n j = 0
  | 0, j, h => absurd h (Nat.not_lt_zero j)
  | n + 1, j, h => by
    unfold tg_clL
    by_cases e : j = n
    · subst e; exact pk_uLs
    · rw [pk_uLn e]; exact tg_clL_at f n j (by omega)
theorem tg_clI_at (f : Nat → Int32) : ∀ n j, j < n → tg_clI f n j = -1
  | 0, j, h => absurd h (Nat.not_lt_zero j)
  | n + 1, j, h => by
    unfold tg_clI
    by_cases e : j = n
    · subst e; exact pk_us
    · rw [pk_un e]; exact tg_clI_at f n j (by omega)
theorem tg_fill_at (ha : Nat → Int64) (fs : Nat) (h : Int64) : ∀ n j, tg_fill ha fs h n j = if fs ≤ j ∧ j < fs + n then h else ha j
  | 0, j => by unfold tg_fill; rw [if_neg (by omega)]
  | n + 1, j => by
    unfold tg_fill
    by_cases e : j = fs + n
    · subst e; rw [pk_uLs, if_pos (by omega)]
    · rw [pk_uLn e, tg_fill_at ha fs h n j]
      by_cases q : fs ≤ j ∧ j < fs + n
      · rw [if_pos q, if_pos (by omega)]
      · rw [if_neg q, if_neg (by omega)]
/-- the hashes of an empty store: one a level -/
def tg_e3 : Int64 := tg_LH (fun _ => 0) (fun _ => 0) (fun _ => -1) 0
def tg_eH : Nat → Nat → Int64
  | 0, _ => tg_e3
  | n + 1, _ => tg_CH (fun _ => tg_eH n 0) 0
def tg_E (j : Nat) : Int64 := if j = 0 then tg_eH 3 0 else if j < 5 then tg_eH 2 0 else if j < 21 then tg_eH 1 0 else tg_eH 0 0
/-- one array of a world by another that reads alike -/
theorem tg_xL {D : va_G} {ws : va_W} {H : Heap} {a n : Nat} {cA : ClassId} {f g : Nat → Int64} (hP : va_P D vwCl ws H) (q0 : Nat) (h : ws[q0]? = some (a, .inl (cA, n, .inr (.inl f)))) (hfg : ∀ j, j < n → f j = g j) {ws' : va_W} (hw : ws.set q0 (a, .inl (cA, n, .inr (.inl g))) = ws') : va_P D vwCl ws' H := by
  subst hw
  intro k q hk
  have hl := (List.getElem?_eq_some_iff.mp h).1
  by_cases e : k = q0
  · subst e
    rw [List.getElem?_set_self hl] at hk
    cases hk
    have h1 := hP k _ h
    show H[a]? = some (vp_cell cA (n, .inr (.inl g)))
    have h2 : H[a]? = some (vp_cell cA (n, .inr (.inl f))) := h1
    rw [h2, vp_cell_l, vp_cell_l]
    unfold arrV
    congr 2
    congr 1
    funext j
    exact congrArg Value.long (hfg j.val j.isLt)
  · rw [List.getElem?_set_ne (Ne.symm e)] at hk
    exact hP k q hk
theorem tg_xI {D : va_G} {ws : va_W} {H : Heap} {a n : Nat} {cA : ClassId} {f g : Nat → Int32} (hP : va_P D vwCl ws H) (q0 : Nat) (h : ws[q0]? = some (a, .inl (cA, n, .inl f))) (hfg : ∀ j, j < n → f j = g j) {ws' : va_W} (hw : ws.set q0 (a, .inl (cA, n, .inl g)) = ws') : va_P D vwCl ws' H := by
  subst hw
  intro k q hk
  have hl := (List.getElem?_eq_some_iff.mp h).1
  by_cases e : k = q0
  · subst e
    rw [List.getElem?_set_self hl] at hk
    cases hk
    have h1 := hP k _ h
    show H[a]? = some (vp_cell cA (n, .inl g))
    have h2 : H[a]? = some (vp_cell cA (n, .inl f)) := h1
    rw [h2, vp_cell_i, vp_cell_i]
    unfold arrV
    congr 2
    congr 1
    funext j
    exact congrArg Value.int (hfg j.val j.isLt)
  · rw [List.getElem?_set_ne (Ne.symm e)] at hk
    exact hP k q hk
theorem tg_xD {A : Nat → Prop} {ws ws' : va_W} (hD : va_D A ws) (h : ws'.map (fun q => q.1) = ws.map (fun q => q.1)) : va_D A ws' := by
  have key : ∀ (k : Nat) (q : Nat × va_E), ws'[k]? = some q → ∃ q0, ws[k]? = some q0 ∧ q0.1 = q.1 := by
    intro k q hk
    have h1 : (ws.map (fun q => q.1))[k]? = some q.1 := by rw [← h, List.getElem?_map, hk]; rfl
    rw [List.getElem?_map] at h1
    cases hc : ws[k]? with
    | none => rw [hc] at h1; cases h1
    | some q0 => rw [hc] at h1; exact ⟨q0, rfl, Option.some.inj h1⟩
  refine ⟨fun i j x y hi hj hxy => ?_, fun k q hk => ?_⟩
  · obtain ⟨x0, h1, h2⟩ := key i x hi
    obtain ⟨y0, h3, h4⟩ := key j y hj
    exact hD.1 i j x0 y0 h1 h3 (h2.trans (hxy.trans h4.symm))
  · obtain ⟨q0, h1, h2⟩ := key k q hk
    rw [← h2]
    exact hD.2 k q0 h1
theorem tg_mk_t {b : Nat → Bool} {i : Nat} (h : b i = true) : tg_mk b (i + 1) = tg_mk b i + 2 ^ i := by
  rw [tg_mk, if_pos h]
theorem tg_mk_f {b : Nat → Bool} {i : Nat} (h : b i = false) : tg_mk b (i + 1) = tg_mk b i := by
  rw [tg_mk, if_neg (by rw [h]; decide)]
theorem tg_mk_or {b : Nat → Bool} {i : Nat} (hi : i < 4) (h : b i = true) : nI (tg_mk b i) ||| (nI 1 <<< (nI i &&& 31)) = nI (tg_mk b (i + 1)) := by
  rw [tg_orb b hi, tg_mk_t h]
theorem tg_lfh_t {st va : Nat → Int64} {le : Nat → Int32} {lf i : Nat} (h : tg_has le (lf * 4 + i) = true) : tg_lfh st va le lf (i + 1) = tg_ent st va le (tg_lfh st va le lf i) (lf * 4 + i) := by
  rw [tg_lfh, if_pos h]
theorem tg_lfh_f {st va : Nat → Int64} {le : Nat → Int32} {lf i : Nat} (h : tg_has le (lf * 4 + i) = false) : tg_lfh st va le lf (i + 1) = tg_lfh st va le lf i := by
  rw [tg_lfh, if_neg (by rw [h]; decide)]
theorem tg_CH_eq {f g : Nat → Int64} {a b : Nat} (h0 : f (a * 4 + 1 + 0) = g (b * 4 + 1 + 0)) (h1 : f (a * 4 + 1 + 1) = g (b * 4 + 1 + 1)) (h2 : f (a * 4 + 1 + 2) = g (b * 4 + 1 + 2)) (h3 : f (a * 4 + 1 + 3) = g (b * 4 + 1 + 3)) : tg_CH f a = tg_CH g b := by
  simp only [tg_CH, tg_chh, h0, h1, h2, h3]
def tg_t3 (ha : Nat → Int64) : Nat → Int64 := tg_fill ha 21 tg_e3 64
def tg_t2 (ha : Nat → Int64) : Nat → Int64 := tg_fill (tg_t3 ha) 5 (tg_CH (tg_t3 ha) 5) 16
def tg_t1 (ha : Nat → Int64) : Nat → Int64 := tg_fill (tg_t2 ha) 1 (tg_CH (tg_t2 ha) 1) 4
def tg_t0 (ha : Nat → Int64) : Nat → Int64 := tg_fill (tg_t1 ha) 0 (tg_CH (tg_t1 ha) 0) 1
theorem tg_t3_at (ha : Nat → Int64) {j : Nat} (h : 21 ≤ j) (h2 : j < 85) : tg_t3 ha j = tg_eH 0 0 := by
  unfold tg_t3; rw [tg_fill_at, if_pos (by omega)]; rfl
theorem tg_c2 (ha : Nat → Int64) : tg_CH (tg_t3 ha) 5 = tg_eH 1 0 := by
  show _ = tg_CH (fun _ => tg_eH 0 0) 0
  exact tg_CH_eq (tg_t3_at ha (by omega) (by omega)) (tg_t3_at ha (by omega) (by omega)) (tg_t3_at ha (by omega) (by omega)) (tg_t3_at ha (by omega) (by omega))
theorem tg_t2_at (ha : Nat → Int64) {j : Nat} (h : 5 ≤ j) (h2 : j < 21) : tg_t2 ha j = tg_eH 1 0 := by
  unfold tg_t2; rw [tg_fill_at, if_pos (by omega), tg_c2]
theorem tg_c1 (ha : Nat → Int64) : tg_CH (tg_t2 ha) 1 = tg_eH 2 0 := by
  show _ = tg_CH (fun _ => tg_eH 1 0) 0
  exact tg_CH_eq (tg_t2_at ha (by omega) (by omega)) (tg_t2_at ha (by omega) (by omega)) (tg_t2_at ha (by omega) (by omega)) (tg_t2_at ha (by omega) (by omega))
theorem tg_t1_at (ha : Nat → Int64) {j : Nat} (h : 1 ≤ j) (h2 : j < 5) : tg_t1 ha j = tg_eH 2 0 := by
  unfold tg_t1; rw [tg_fill_at, if_pos (by omega), tg_c1]
theorem tg_c0 (ha : Nat → Int64) : tg_CH (tg_t1 ha) 0 = tg_eH 3 0 := by
  show _ = tg_CH (fun _ => tg_eH 2 0) 0
  exact tg_CH_eq (tg_t1_at ha (by omega) (by omega)) (tg_t1_at ha (by omega) (by omega)) (tg_t1_at ha (by omega) (by omega)) (tg_t1_at ha (by omega) (by omega))
theorem tg_t0_at (ha : Nat → Int64) (j : Nat) (h : j < 85) : tg_t0 ha j = tg_E j := by
  unfold tg_t0 tg_E
  rw [tg_fill_at, tg_c0]
  by_cases e : j = 0
  · rw [if_pos (by omega), if_pos e]
  · rw [if_neg (by omega), if_neg e]
    by_cases e1 : j < 5
    · rw [if_pos e1, tg_t1_at ha (by omega) e1]
    · rw [if_neg e1]
      have a1 : tg_t1 ha j = tg_t2 ha j := by unfold tg_t1; rw [tg_fill_at, if_neg (by omega)]
      rw [a1]
      by_cases e2 : j < 21
      · rw [if_pos e2, tg_t2_at ha (by omega) e2]
      · rw [if_neg e2]
        have a2 : tg_t2 ha j = tg_t3 ha j := by unfold tg_t2; rw [tg_fill_at, if_neg (by omega)]
        rw [a2, tg_t3_at ha (by omega) h]
theorem tg_okL_e : tg_okL (fun _ => -1) := fun k _ h => absurd rfl h
theorem tg_okL_u {le : Nat → Int32} (h : tg_okL le) (k : Nat) {n : Nat} (hn : n ≤ 8) : tg_okL (upd le k (nI n)) := by
  intro j hj hne
  by_cases e : j = k
  · subst e
    rw [pk_us]
    have e2 : tg_cn (nI n) = n := nI_clamp (by omega)
    rw [e2]
    exact ⟨rfl, hn⟩
  · rw [pk_un e] at hne ⊢
    exact h j hj hne
def tg_me (le : Nat → Int32) (en : Int32) (k : Nat) : Int32 := cond (tg_has le k) en (en + nI 1)
