/-! ===== the pure words: rows of messages ===== -/
theorem tg_tb0 : ∀ m, m < 16 → ∀ pa, pa < 4 → (nI m >>> (nI pa &&& 31)) &&& nI 1 = nI (Nat.testBit m pa).toNat := by decide +kernel
def tg_pc (m : Nat) : Nat := (Nat.testBit m 0).toNat + (Nat.testBit m 1).toNat + (Nat.testBit m 2).toNat + (Nat.testBit m 3).toNat
def tg_cpL (f : Nat → Int64) (pl m nd : Nat) (st : Nat → Int64) : Nat → Nat → Int64
  | 0 => f
  | i + 1 => cond (Nat.testBit m i) (vp_updL (tg_cpL f pl m nd st i) (pl * 4 + i) (st (nd * 4 + i))) (tg_cpL f pl m nd st i)
def tg_cpI (f : Nat → Int32) (pl m nd : Nat) (st : Nat → Int32) : Nat → Nat → Int32
  | 0 => f
  | i + 1 => cond (Nat.testBit m i) (upd (tg_cpI f pl m nd st i) (pl * 4 + i) (st (nd * 4 + i))) (tg_cpI f pl m nd st i)
theorem tg_cpL_t {f : Nat → Int64} {pl m nd : Nat} {st : Nat → Int64} {i : Nat} (h : Nat.testBit m i = true) : tg_cpL f pl m nd st (i + 1) = vp_updL (tg_cpL f pl m nd st i) (pl * 4 + i) (st (nd * 4 + i)) := by
  rw [tg_cpL, h]; rfl
theorem tg_cpL_f {f : Nat → Int64} {pl m nd : Nat} {st : Nat → Int64} {i : Nat} (h : Nat.testBit m i = false) : tg_cpL f pl m nd st (i + 1) = tg_cpL f pl m nd st i := by
  rw [tg_cpL, h]; rfl
theorem tg_cpI_t {f : Nat → Int32} {pl m nd : Nat} {st : Nat → Int32} {i : Nat} (h : Nat.testBit m i = true) : tg_cpI f pl m nd st (i + 1) = upd (tg_cpI f pl m nd st i) (pl * 4 + i) (st (nd * 4 + i)) := by
  rw [tg_cpI, h]; rfl
theorem tg_cpI_f {f : Nat → Int32} {pl m nd : Nat} {st : Nat → Int32} {i : Nat} (h : Nat.testBit m i = false) : tg_cpI f pl m nd st (i + 1) = tg_cpI f pl m nd st i := by
  rw [tg_cpI, h]; rfl
/-- how many of the first i bits -/
def tg_ct (m : Nat) : Nat → Nat
  | 0 => 0
  | i + 1 => cond (Nat.testBit m i) (tg_ct m i + 1) (tg_ct m i)
theorem tg_ct_t {m i : Nat} (h : Nat.testBit m i = true) : tg_ct m (i + 1) = tg_ct m i + 1 := by rw [tg_ct, h]; rfl
theorem tg_ct_f {m i : Nat} (h : Nat.testBit m i = false) : tg_ct m (i + 1) = tg_ct m i := by rw [tg_ct, h]; rfl
theorem tg_ct_le (m : Nat) : ∀ i, tg_ct m i ≤ i
  | 0 => Nat.le_refl 0
  | i + 1 => by
    have h := tg_ct_le m i
    cases e : Nat.testBit m i with
    | true => rw [tg_ct_t e]; omega
    | false => rw [tg_ct_f e]; omega
/-- the key of the ix-th entry, looked for from i on -/
def tg_kf (m nd ix : Nat) : Nat → Nat → Int32
  | 0, _ => -1
  | f + 1, i => cond (Nat.testBit m i && decide (tg_ct m i = ix)) (nI (nd * 4 + i)) (tg_kf m nd ix f (i + 1))
theorem tg_kf_y {m nd ix f i : Nat} (h : Nat.testBit m i = true) (h2 : tg_ct m i = ix) : tg_kf m nd ix (f + 1) i = nI (nd * 4 + i) := by
  rw [tg_kf, h, decide_eq_true h2]; rfl
theorem tg_kf_n {m nd ix f i : Nat} (h : Nat.testBit m i = true) (h2 : ¬ tg_ct m i = ix) : tg_kf m nd ix (f + 1) i = tg_kf m nd ix f (i + 1) := by
  rw [tg_kf, h, decide_eq_false h2]; rfl
theorem tg_kf_f {m nd ix f i : Nat} (h : Nat.testBit m i = false) : tg_kf m nd ix (f + 1) i = tg_kf m nd ix f (i + 1) := by
  rw [tg_kf, h]; rfl
theorem tg_bc0 : ∀ m, m < 16 → ∀ x, x = tg_iu (nI m) (nI 1) &&& 1431655765 → ∀ y, y = nI m - x → ∀ z, z = (y &&& 858993459) + (tg_iu y (nI 2) &&& 858993459) → ∀ u, u = (z + tg_iu z (nI 4)) &&& 252645135 → ∀ v, v = u + tg_iu u (nI 8) → (v + tg_iu v (nI 16)) &&& nI 63 = nI (tg_pc m) := by
  intro m hm x hx y hy z hz u hu v hv
  subst hv; subst hu; subst hz; subst hy; subst hx
  revert m
  decide +kernel
def tg_lsH (hs : Nat → Int64) (pl : Nat) (ha : Nat → Int64) (fc : Nat) : Nat → Nat → Int64
  | 0 => hs
  | i + 1 => vp_updL (tg_lsH hs pl ha fc i) (pl * 4 + i) (ha (fc + i))
