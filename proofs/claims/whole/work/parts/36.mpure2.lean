/-! ===== the reference: rows of messages ===== -/
def tg_c4L (f : Nat → Int64) (p : Nat) (g : Nat → Int64) : Nat → Nat → Int64
  | 0 => f
  | i + 1 => vp_updL (tg_c4L f p g i) (p + i) (g i)
def tg_c4I (f : Nat → Int32) (p : Nat) (g : Nat → Int32) : Nat → Nat → Int32
  | 0 => f
  | i + 1 => upd (tg_c4I f p g i) (p + i) (g i)
def tg_shI (f : Nat → Int32) (b : Nat) : Nat → Nat → Int32
  | 0 => f
  | i + 1 => upd (tg_shI f b i) (b + i) (tg_shI f b i (b + i + 1))
def tg_s4L (f : Nat → Int64) (p : Nat) : Nat → Nat → Int64
  | 0 => f
  | j + 1 => vp_updL (tg_s4L f p j) (p + j) (tg_s4L f p j (p + j + 4))
def tg_s4I (f : Nat → Int32) (p : Nat) : Nat → Nat → Int32
  | 0 => f
  | j + 1 => upd (tg_s4I f p j) (p + j) (tg_s4I f p j (p + j + 4))
def tg_sh4L (f : Nat → Int64) (b : Nat) : Nat → Nat → Int64
  | 0 => f
  | i + 1 => tg_s4L (tg_sh4L f b i) (4 * (b + i)) 4
def tg_sh4I (f : Nat → Int32) (b : Nat) : Nat → Nat → Int32
  | 0 => f
  | i + 1 => tg_s4I (tg_sh4I f b i) (4 * (b + i)) 4
/-- entries of both stores: there, stamps, lengths, values -/
abbrev tg_ES : Type := (Nat → Int32) × (Nat → Int64) × (Nat → Int32) × (Nat → Int64)
def tg_rmS (E : tg_ES) (ix : Nat) (s1 : Int64) (n : Nat) (v1 : Int64) : tg_ES :=
  cond (tg_rin E.1 E.2.1 E.2.2.1 E.2.2.2 ix s1 n v1) (upd E.1 ix (nI 1), vp_updL E.2.1 ix s1, upd E.2.2.1 ix (nI n), vp_updL E.2.2.2 ix (tg_ut v1 n)) E
/-- the entries got, merged, the first i -/
def tg_rmA (E : tg_ES) (si : Nat) (gk : Nat → Int32) (gs : Nat → Int64) (gl : Nat → Int32) (gv : Nat → Int64) : Nat → tg_ES
  | 0 => E
  | i + 1 => tg_rmS (tg_rmA E si gk gs gl gv i) (256 * si + tg_cn (gk i)) (gs i) (tg_cn (gl i)) (gv i)
def tg_okGt (gk gl : Nat → Int32) (gm : Nat) : Prop := gm ≤ 4 ∧ ∀ i, i < gm → gk i = nI (tg_cn (gk i)) ∧ tg_cn (gk i) < 256 ∧ gl i = nI (tg_cn (gl i)) ∧ tg_cn (gl i) ≤ 8
/-- is an entry among those got, the first i -/
def tg_ig1 (E : tg_ES) (ix : Nat) (gk : Nat → Int32) (gs : Nat → Int64) (gl : Nat → Int32) (gv : Nat → Int64) (i : Nat) : Bool := decide (gk i = nI (ix % 256)) && (decide (gs i = E.2.1 ix) && (decide (gl i = E.2.2.1 ix) && decide (gv i = E.2.2.2 ix)))
def tg_ig (E : tg_ES) (ix : Nat) (gk : Nat → Int32) (gs : Nat → Int64) (gl : Nat → Int32) (gv : Nat → Int64) : Nat → Bool
  | 0 => false
  | i + 1 => tg_ig E ix gk gs gl gv i || tg_ig1 E ix gk gs gl gv i
theorem tg_ig_t {E : tg_ES} {ix : Nat} {gk : Nat → Int32} {gs : Nat → Int64} {gl : Nat → Int32} {gv : Nat → Int64} {i : Nat} (h : tg_ig E ix gk gs gl gv i = true) : tg_ig E ix gk gs gl gv (i + 1) = true := by rw [tg_ig, h]; rfl
theorem tg_ig_1 {E : tg_ES} {ix : Nat} {gk : Nat → Int32} {gs : Nat → Int64} {gl : Nat → Int32} {gv : Nat → Int64} {i : Nat} {b : Bool} (h : tg_ig E ix gk gs gl gv i = false) (h1 : tg_ig1 E ix gk gs gl gv i = b) : tg_ig E ix gk gs gl gv (i + 1) = b := by rw [tg_ig, h, h1]; rfl
theorem tg_b_t {b : Bool} (h : b = true) : tg_b b = nI 1 := by rw [h]; rfl
theorem tg_b_f {b : Bool} (h : b = false) : tg_b b = nI 0 := by rw [h]; rfl
