/-! ===== bytes of a long; cutting; the first unlike byte and the unsigned comparison ===== -/
theorem tb_lu {a k : Nat} (ha : a < 2 ^ 64) (hk : k < 64) : tg_lu (lN a) (nI k) = lN (a / 2 ^ k) := wb_shr ha hk
theorem tb_ll (a : Nat) {k : Nat} (hk : k < 64) : tg_ll (lN a) (nI k) = lN (a * 2 ^ k) := wb_shl a hk
theorem tb_dv {a : Nat} (ha : a < 2 ^ 64) (k : Nat) : a / 2 ^ k < 2 ^ 64 := Nat.lt_of_le_of_lt (Nat.div_le_self _ _) ha
theorem tb_by {a j : Nat} (ha : a < 2 ^ 64) (hj : j < 8) : tg_by (lN a) j = lN (a / 2 ^ (56 - 8 * j) % 256) := by
  unfold tg_by
  rw [tb_lu ha (by omega)]
  exact wb_mask (k := 8) (tb_dv ha _) (by decide)
theorem tb_bi {a j : Nat} (ha : a < 2 ^ 64) (hj : j < 8) : tg_bi (lN a) j = nI (a / 2 ^ (56 - 8 * j) % 256) := by
  unfold tg_bi
  rw [tb_lu ha (by omega), lN_i, pk_and (nI (a / 2 ^ (56 - 8 * j))) (m := nI 255) 8 (by decide)]
  congr 1
  have h : (nI (a / 2 ^ (56 - 8 * j))).toBitVec.toNat = a / 2 ^ (56 - 8 * j) % 2 ^ 32 := BitVec.toNat_ofNat _ _
  rw [h]
  exact Nat.mod_mod_of_dvd _ (by decide)
theorem tb_bb (v : Int64) {j : Nat} (hj : j < 8) : Int32.toInt64 (tg_bi v j) = tg_by v j := by
  obtain ⟨a, ha, rfl⟩ := wb_of v
  rw [tb_bi ha hj, tb_by ha hj]
  exact nI_l (by have := Nat.mod_lt (a / 2 ^ (56 - 8 * j)) (show 256 > 0 by decide); omega)
theorem tb_ml8 (h v : Int64) : ∀ n, n ≤ 8 → tg_ml8 h v n = tg_wb h v n
  | 0, _ => rfl
  | n + 1, hn => by
    show tg_mx (tg_ml8 h v n) (Int32.toInt64 (tg_bi v n)) = tg_mx (tg_wb h v n) (tg_by v n)
    rw [tb_ml8 h v n (by omega), tb_bb v (by omega)]
theorem tb_hi0 : ∀ k, k < 256 → tg_by (tg_hi (nI k)) 0 = Int32.toInt64 (nI k) := by decide +kernel
theorem tb_mxi (h : Int64) {k : Nat} (hk : k < 256) : tg_mxi h (nI k) = tg_wb h (tg_hi (nI k)) 1 := by
  show tg_mx h (Int32.toInt64 (nI k)) = tg_mx h (tg_by (tg_hi (nI k)) 0)
  rw [tb_hi0 k hk]
theorem tb_and {a s : Nat} (ha : a < 2 ^ 64) (hs : s < 64) : a &&& (2 ^ 64 - 2 ^ s) = a / 2 ^ s * 2 ^ s := by
  have e1 : 2 ^ 64 - 2 ^ s = (2 ^ (64 - s) - 1) <<< s := by
    rw [Nat.shiftLeft_eq, Nat.sub_mul, ← Nat.pow_add, show 64 - s + s = 64 by omega, Nat.one_mul]
  have e2 : a / 2 ^ s * 2 ^ s = (a >>> s) <<< s := by
    rw [Nat.shiftLeft_eq, Nat.shiftRight_eq_div_pow]
  rw [e1, e2]
  apply Nat.eq_of_testBit_eq
  intro i
  rw [Nat.testBit_and, Nat.testBit_shiftLeft, Nat.testBit_shiftLeft, Nat.testBit_two_pow_sub_one, Nat.testBit_shiftRight]
  by_cases h : s ≤ i
  · rw [show s + (i - s) = i by omega, decide_eq_true (show i ≥ s from h), Bool.true_and, Bool.true_and]
    by_cases h2 : i < 64
    · rw [decide_eq_true (show i - s < 64 - s by omega), Bool.and_true]
    · rw [Nat.testBit_lt_two_pow (Nat.lt_of_lt_of_le ha (Nat.pow_le_pow_right (by decide) (by omega)))]; rfl
  · rw [decide_eq_false (show ¬ i ≥ s from h), Bool.false_and, Bool.false_and, Bool.and_false]
theorem tb_ut {a n : Nat} (ha : a < 2 ^ 64) (hn : n ≤ 8) (h0 : n ≠ 0) : tg_ut (lN a) n = lN (a / 2 ^ (64 - 8 * n) * 2 ^ (64 - 8 * n)) := by
  unfold tg_ut
  rw [if_neg h0, tb_lu ha (by omega), tb_ll _ (by omega)]
theorem tb_hb {a n : Nat} (ha : a < 2 ^ 64) (hn : n ≤ 8) (h0 : n ≠ 0) : tg_hb (lN a) n = lN (a / 2 ^ (64 - 8 * n) * 2 ^ (64 - 8 * n)) := by
  unfold tg_hb
  have e1 : (-1 : Int64) = lN (2 ^ 64 - 1) := by decide
  have hs : 64 - 8 * n < 64 := by omega
  rw [if_neg h0, e1, tb_ll _ hs, wb_mod ((2 ^ 64 - 1) * 2 ^ (64 - 8 * n))]
  have hp : 0 < 2 ^ (64 - 8 * n) := Nat.pow_pos (by decide)
  have hl : 2 ^ (64 - 8 * n) < 2 ^ 64 := wb_lt2 hs
  have e2 : (2 ^ 64 - 1) * 2 ^ (64 - 8 * n) % 2 ^ 64 = 2 ^ 64 - 2 ^ (64 - 8 * n) := by
    have e3 : (2 ^ 64 - 1) * 2 ^ (64 - 8 * n) = (2 ^ 64 - 2 ^ (64 - 8 * n)) + 2 ^ 64 * (2 ^ (64 - 8 * n) - 1) := by
      rw [Nat.sub_mul, Nat.mul_sub]; omega
    rw [e3, Nat.add_mul_mod_self_left, Nat.mod_eq_of_lt (by omega)]
  rw [e2, wb_and ha (by omega), tb_and ha hs]
theorem tb_cut (v : Int64) {n : Nat} (hn : n ≤ 8) : tg_ut v n = tg_hb v n := by
  by_cases h0 : n = 0
  · subst h0; rfl
  · obtain ⟨a, ha, rfl⟩ := wb_of v
    rw [tb_ut ha hn h0, tb_hb ha hn h0]
/-- the number of the first i bytes -/
def tb_N (a i : Nat) : Nat := a / 2 ^ (64 - 8 * i)
theorem tb_Ns (a : Nat) {i : Nat} (hi : i < 8) : tb_N a (i + 1) = tb_N a i * 256 + a / 2 ^ (56 - 8 * i) % 256 := by
  unfold tb_N
  rw [show 64 - 8 * (i + 1) = 56 - 8 * i by omega, show 64 - 8 * i = 56 - 8 * i + 8 by omega, Nat.pow_add, ← Nat.div_div_eq_div_mul]
  have := Nat.div_add_mod (a / 2 ^ (56 - 8 * i)) 256
  show _ = a / 2 ^ (56 - 8 * i) / 256 * 256 + _
  omega
theorem tb_Nd (a : Nat) {i f : Nat} (h : i + f ≤ 8) : tb_N a (i + f) / 2 ^ (8 * f) = tb_N a i := by
  unfold tb_N
  rw [Nat.div_div_eq_div_mul, ← Nat.pow_add]
  congr 2
  omega
theorem tb_dlt {x y d : Nat} (h : x / d < y / d) : x < y := by
  rcases Nat.lt_or_ge x y with q | q
  · exact q
  · exact absurd (Nat.div_le_div_right (c := d) q) (Nat.not_le.mpr h)
theorem tb_bn {a b : Nat} (ha : a < 2 ^ 64) (hb : b < 2 ^ 64) : ∀ f i, i + f ≤ 8 → tb_N a i = tb_N b i → tg_bn2 (lN a) (lN b) f i = decide (tb_N b (i + f) < tb_N a (i + f))
  | 0, i, _, he => by
    show false = _
    rw [Nat.add_zero, he, decide_eq_false (Nat.lt_irrefl _)]
  | f + 1, i, hi, he => by
    have hA := Nat.mod_lt (a / 2 ^ (56 - 8 * i)) (show 256 > 0 by decide)
    have hB := Nat.mod_lt (b / 2 ^ (56 - 8 * i)) (show 256 > 0 by decide)
    have sA := tb_Ns a (i := i) (by omega)
    have sB := tb_Ns b (i := i) (by omega)
    by_cases q : a / 2 ^ (56 - 8 * i) % 256 = b / 2 ^ (56 - 8 * i) % 256
    · rw [tg_bn2_s (by rw [tb_bi ha (by omega), tb_bi hb (by omega), q]), tb_bn ha hb f (i + 1) (by omega) (by omega)]
      rw [show i + 1 + f = i + (f + 1) by omega]
    · rw [tg_bn2_n (by rw [tb_bi ha (by omega), tb_bi hb (by omega)]; intro h; exact q ((nI_eq (by omega) (by omega)).mp h)), tb_bi ha (by omega), tb_bi hb (by omega)]
      have dA := tb_Nd a (i := i + 1) (f := f) (by omega)
      have dB := tb_Nd b (i := i + 1) (f := f) (by omega)
      rw [show i + 1 + f = i + (f + 1) by omega] at dA dB
      apply decide_eq_decide.mpr
      rw [nI_leI (by omega) (by omega), Nat.not_le]
      constructor
      · intro h
        apply tb_dlt (d := 2 ^ (8 * f))
        rw [dA, dB]
        omega
      · intro h
        rcases Nat.lt_trichotomy (a / 2 ^ (56 - 8 * i) % 256) (b / 2 ^ (56 - 8 * i) % 256) with z | z | z
        · exfalso
          have h2 : tb_N a (i + (f + 1)) < tb_N b (i + (f + 1)) := by
            apply tb_dlt (d := 2 ^ (8 * f))
            rw [dA, dB]
            omega
          omega
        · exact absurd z q
        · exact z
theorem tb_mi {a : Nat} (ha : a < 2 ^ 64) : (lN a + (-9223372036854775808)).toInt = (a : Int) - 2 ^ 63 := by
  have e1 : (-9223372036854775808 : Int64) = lN (2 ^ 63) := by decide
  rw [e1, lN_add, wb_mod]
  by_cases h : a < 2 ^ 63
  · rw [Nat.mod_eq_of_lt (by omega), lN_ti (by omega), if_neg (by omega)]; omega
  · have e2 : (a + 2 ^ 63) % 2 ^ 64 = a - 2 ^ 63 := by omega
    rw [e2, lN_ti (by omega), if_pos (by omega)]; omega
theorem tb_cu {a b : Nat} (ha : a < 2 ^ 64) (hb : b < 2 ^ 64) : (¬ tg_cu (lN a) (lN b) ≤ 0) ↔ b < a := by
  unfold tg_cu tg_cp
  have h1 := tb_mi ha
  have h2 := tb_mi hb
  by_cases q : lN a + (-9223372036854775808) < lN b + (-9223372036854775808)
  · rw [if_pos q]
    have q2 := Int64.lt_iff_toInt_lt.mp q
    constructor
    · intro h; exact absurd (by decide) h
    · intro h; omega
  · rw [if_neg q]
    have q2 : ¬ (lN a + (-9223372036854775808)).toInt < (lN b + (-9223372036854775808)).toInt := fun z => q (Int64.lt_iff_toInt_lt.mpr z)
    by_cases r : lN a + (-9223372036854775808) = lN b + (-9223372036854775808)
    · rw [if_pos r]
      have r2 := congrArg Int64.toInt r
      constructor
      · intro h; exact absurd (by decide) h
      · intro h; omega
    · rw [if_neg r]
      have r2 : (lN a + (-9223372036854775808)).toInt ≠ (lN b + (-9223372036854775808)).toInt := fun z => r (Int64.toInt.inj z)
      constructor
      · intro _; omega
      · intro _; decide
/-- the class's comparison of values, both cut, is the reference's of bytes -/
theorem tb_new (v u : Int64) {n : Nat} (hn : n ≤ 8) (hu : tg_hb u n = u) : tg_bn2 v u n 0 = decide (¬ tg_cu (tg_hb v n) u ≤ 0) := by
  obtain ⟨a, ha, rfl⟩ := wb_of v
  obtain ⟨b, hb, rfl⟩ := wb_of u
  by_cases h0 : n = 0
  · subst h0
    have e : lN b = 0 := hu.symm
    rw [e]
    show false = decide (¬ tg_cu 0 0 ≤ 0)
    decide
  · have hp : 0 < 2 ^ (64 - 8 * n) := Nat.pow_pos (by decide)
    have hA : a / 2 ^ (64 - 8 * n) * 2 ^ (64 - 8 * n) < 2 ^ 64 := Nat.lt_of_le_of_lt (Nat.div_mul_le_self _ _) ha
    have hB : b / 2 ^ (64 - 8 * n) * 2 ^ (64 - 8 * n) < 2 ^ 64 := Nat.lt_of_le_of_lt (Nat.div_mul_le_self _ _) hb
    have e0 : ∀ c, c < 2 ^ 64 → tb_N c 0 = 0 := fun c hc => Nat.div_eq_of_lt hc
    rw [tb_bn ha hb n 0 (by omega) (by rw [e0 a ha, e0 b hb]), Nat.zero_add, ← hu, tb_hb ha hn h0, tb_hb hb hn h0]
    apply decide_eq_decide.mpr
    rw [tb_cu hA hB]
    exact (Nat.mul_lt_mul_right hp).symm
theorem tb_hbi (v : Int64) {n : Nat} (hn : n ≤ 8) : tg_hb (tg_hb v n) n = tg_hb v n := by
  by_cases h0 : n = 0
  · subst h0; rfl
  · obtain ⟨a, ha, rfl⟩ := wb_of v
    have hp : 0 < 2 ^ (64 - 8 * n) := Nat.pow_pos (by decide)
    rw [tb_hb ha hn h0, tb_hb (Nat.lt_of_le_of_lt (Nat.div_mul_le_self _ _) ha) hn h0, Nat.mul_div_cancel _ hp]
