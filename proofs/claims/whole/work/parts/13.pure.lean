/-! ===== the pure words: bytes, hashes, masks ===== -/
def tg_hb (v : Int64) (k : Nat) : Int64 := if k = 0 then 0 else v &&& tg_ll (-1) (nI (64 - 8 * k))
def tg_by (v : Int64) (i : Nat) : Int64 := tg_lu v (nI (56 - 8 * i)) &&& 255
def tg_bi (v : Int64) (i : Nat) : Int32 := Int64.toInt32 (tg_lu v (nI (56 - 8 * i))) &&& nI 255
def tg_mx (h b : Int64) : Int64 := tg_ll ((h ^^^ b) * (-7046029254386353131)) (nI 23) ||| tg_lu ((h ^^^ b) * (-7046029254386353131)) (nI 41)
def tg_wb (h v : Int64) : Nat → Int64
  | 0 => h
  | i + 1 => tg_mx (tg_wb h v i) (tg_by v i)
def tg_fin (h : Int64) : Int64 := h ^^^ tg_lu h (nI 31)
def tg_hi (x : Int32) : Int64 := tg_ll (Int32.toInt64 x) (nI 56)
def tg_cn (x : Int32) : Nat := x.toNatClampNeg
def tg_has (le : Nat → Int32) (k : Nat) : Bool := decide (le k ≠ -1)
/-- lengths: none, or 0 to 8 -/
def tg_okL (le : Nat → Int32) : Prop := ∀ k, k < 256 → le k ≠ -1 → le k = nI (tg_cn (le k)) ∧ tg_cn (le k) ≤ 8
def tg_ent (st va : Nat → Int64) (le : Nat → Int32) (h : Int64) (k : Nat) : Int64 := tg_wb (tg_wb (tg_wb (tg_wb h (tg_hi (nI k)) 1) (st k) 8) (tg_hi (nI (tg_cn (le k)))) 1) (va k) (tg_cn (le k))
def tg_lfh (st va : Nat → Int64) (le : Nat → Int32) (lf : Nat) : Nat → Int64
  | 0 => 5903417617427348583
  | i + 1 => if tg_has le (lf * 4 + i) then tg_ent st va le (tg_lfh st va le lf i) (lf * 4 + i) else tg_lfh st va le lf i
def tg_LH (st va : Nat → Int64) (le : Nat → Int32) (lf : Nat) : Int64 := tg_fin (tg_lfh st va le lf 4)
def tg_chh (ha : Nat → Int64) (pl : Nat) : Nat → Int64
  | 0 => 5903417617427348583
  | i + 1 => tg_wb (tg_chh ha pl i) (ha (pl * 4 + 1 + i)) 8
def tg_CH (ha : Nat → Int64) (pl : Nat) : Int64 := tg_fin (tg_chh ha pl 4)
def tg_mk (b : Nat → Bool) : Nat → Nat
  | 0 => 0
  | i + 1 => if b i then tg_mk b i + 2 ^ i else tg_mk b i
theorem tg_mk_lt (b : Nat → Bool) : ∀ i, tg_mk b i < 2 ^ i
  | 0 => Nat.le_refl 1
  | i + 1 => by
    have h := tg_mk_lt b i
    have e : 2 ^ (i + 1) = 2 ^ i + 2 ^ i := by rw [Nat.pow_succ]; omega
    unfold tg_mk
    split <;> omega
theorem tg_orb0 : ∀ i, i < 4 → ∀ m, m < 2 ^ i → nI m ||| (nI 1 <<< (nI i &&& 31)) = nI (m + 2 ^ i) := by decide +kernel
theorem tg_orb (b : Nat → Bool) {i : Nat} (h : i < 4) : nI (tg_mk b i) ||| (nI 1 <<< (nI i &&& 31)) = nI (tg_mk b i + 2 ^ i) := tg_orb0 i h _ (tg_mk_lt b i)
theorem tg_n4 : ∀ k, k < 4 → nI 1 <<< (nI (2 * k) &&& 31) = nI (4 ^ k) := by decide +kernel
theorem tg_neg1 (k : Nat) (h : k < 2 ^ 31) : nI k ≠ -1 := fun e => by
  have h1 := nI_toInt h
  rw [e] at h1
  have h2 : (-1 : Int32).toInt = -1 := by decide
  omega
