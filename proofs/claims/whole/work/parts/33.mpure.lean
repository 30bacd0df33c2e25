/-! ===== the reference: pure words ===== -/
def tg_isS (s : Int32) : Bool := decide (s = 0) || decide (s = 1)
def tg_isK (k : Int32) : Bool := decide (¬ k < 0) && decide (¬ nI 256 ≤ k)
def tg_ut (v : Int64) (k : Nat) : Int64 := if k = 0 then 0 else tg_ll (tg_lu v (nI (64 - 8 * k))) (nI (64 - 8 * k))
/-- the first unlike byte decides, from i on -/
def tg_bn2 (v u : Int64) : Nat → Nat → Bool
  | 0, _ => false
  | f + 1, i => cond (decide (tg_bi v i = tg_bi u i)) (tg_bn2 v u f (i + 1)) (decide (¬ tg_bi v i ≤ tg_bi u i))
theorem tg_bn2_s {v u : Int64} {f i : Nat} (h : tg_bi v i = tg_bi u i) : tg_bn2 v u (f + 1) i = tg_bn2 v u f (i + 1) := by rw [tg_bn2, decide_eq_true h]; rfl
theorem tg_bn2_n {v u : Int64} {f i : Nat} (h : ¬ tg_bi v i = tg_bi u i) : tg_bn2 v u (f + 1) i = decide (¬ tg_bi v i ≤ tg_bi u i) := by rw [tg_bn2, decide_eq_false h]; rfl
def tg_rnw (s0 : Int64) (n0 : Int32) (v0 s1 : Int64) (n : Nat) (v1 : Int64) : Bool :=
  if s1 = s0 then (if nI n = n0 then tg_bn2 v1 v0 n 0 else decide (¬ nI n ≤ n0)) else decide (s0 < s1)
def tg_rin (th : Nat → Int32) (ms : Nat → Int64) (ml : Nat → Int32) (mv : Nat → Int64) (at_ : Nat) (s1 : Int64) (n : Nat) (v1 : Int64) : Bool := decide (th at_ = 0) || tg_rnw (ms at_) (ml at_) (mv at_) s1 n v1
/-- a byte of an int goes into the hash -/
def tg_mxi (h : Int64) (b : Int32) : Int64 := tg_mx h (Int32.toInt64 b)
def tg_ml8 (h v : Int64) : Nat → Int64
  | 0 => h
  | i + 1 => tg_mxi (tg_ml8 h v i) (tg_bi v i)
theorem tg_n4' : ∀ k, k < 4 → nI 1 <<< (nI (2 * k) &&& 31) = nI (4 ^ k) := tg_n4
def tg_bg (k : Nat) : Nat := if k = 0 then 0 else if k = 1 then 1 else if k = 2 then 5 else 21
def tg_okE (th ml : Nat → Int32) : Prop := ∀ j, j < 512 → ¬ th j = 0 → ml j = nI (tg_cn (ml j)) ∧ tg_cn (ml j) ≤ 8
def tg_rent (ms : Nat → Int64) (ml : Nat → Int32) (mv : Nat → Int64) (h : Int64) (key ix : Nat) : Int64 := tg_ml8 (tg_mxi (tg_ml8 (tg_mxi h (nI key)) (ms ix) 8) (nI (tg_cn (ml ix)))) (mv ix) (tg_cn (ml ix))
def tg_rlf (th : Nat → Int32) (ms : Nat → Int64) (ml : Nat → Int32) (mv : Nat → Int64) (si nd : Nat) : Nat → Int64
  | 0 => 5903417617427348583
  | i + 1 => cond (decide (th (256 * si + (4 * nd + i)) = 0)) (tg_rlf th ms ml mv si nd i) (tg_rent ms ml mv (tg_rlf th ms ml mv si nd i) (4 * nd + i) (256 * si + (4 * nd + i)))
theorem tg_rlf_n {th : Nat → Int32} {ms : Nat → Int64} {ml : Nat → Int32} {mv : Nat → Int64} {si nd i : Nat} (h : th (256 * si + (4 * nd + i)) = 0) : tg_rlf th ms ml mv si nd (i + 1) = tg_rlf th ms ml mv si nd i := by
  rw [tg_rlf, decide_eq_true h]; rfl
theorem tg_rlf_y {th : Nat → Int32} {ms : Nat → Int64} {ml : Nat → Int32} {mv : Nat → Int64} {si nd i : Nat} (h : ¬ th (256 * si + (4 * nd + i)) = 0) : tg_rlf th ms ml mv si nd (i + 1) = tg_rent ms ml mv (tg_rlf th ms ml mv si nd i) (4 * nd + i) (256 * si + (4 * nd + i)) := by
  rw [tg_rlf, decide_eq_false h]; rfl
def tg_rl1 (th : Nat → Int32) (ms : Nat → Int64) (ml : Nat → Int32) (mv : Nat → Int64) (si : Nat) (ha : Nat → Int64) : Nat → Nat → Int64
  | 0 => ha
  | n + 1 => vp_updL (tg_rl1 th ms ml mv si ha n) (21 + n) (tg_fin (tg_rlf th ms ml mv si n 4))
def tg_rh1 (th : Nat → Int32) (ms : Nat → Int64) (ml : Nat → Int32) (mv : Nat → Int64) (si : Nat) (hh : Int64) : Nat → Int64
  | 0 => hh
  | n + 1 => tg_rlf th ms ml mv si n 4
def tg_ic (f : Nat → Int64) (p : Nat) : Nat → Int64
  | 0 => 5903417617427348583
  | i + 1 => tg_ml8 (tg_ic f p i) (f (p + i)) 8
def tg_ri (ha : Nat → Int64) (b b1 : Nat) : Nat → Nat → Int64
  | 0 => ha
  | n + 1 => vp_updL (tg_ri ha b b1 n) (b + n) (tg_fin (tg_ic (tg_ri ha b b1 n) (b1 + 4 * n) 4))
def tg_rih (ha : Nat → Int64) (b b1 : Nat) (hh : Int64) : Nat → Int64
  | 0 => hh
  | n + 1 => tg_ic (tg_ri ha b b1 n) (b1 + 4 * n) 4
/-- all hashes of a store, and the last h -/
def tg_H3 (th : Nat → Int32) (ms : Nat → Int64) (ml : Nat → Int32) (mv : Nat → Int64) (si : Nat) (ha : Nat → Int64) : Nat → Int64 := tg_rl1 th ms ml mv si ha 64
def tg_H2 (th : Nat → Int32) (ms : Nat → Int64) (ml : Nat → Int32) (mv : Nat → Int64) (si : Nat) (ha : Nat → Int64) : Nat → Int64 := tg_ri (tg_H3 th ms ml mv si ha) 5 21 16
def tg_H1 (th : Nat → Int32) (ms : Nat → Int64) (ml : Nat → Int32) (mv : Nat → Int64) (si : Nat) (ha : Nat → Int64) : Nat → Int64 := tg_ri (tg_H2 th ms ml mv si ha) 1 5 4
def tg_H0 (th : Nat → Int32) (ms : Nat → Int64) (ml : Nat → Int32) (mv : Nat → Int64) (si : Nat) (ha : Nat → Int64) : Nat → Int64 := tg_ri (tg_H1 th ms ml mv si ha) 0 1 1
def tg_Hh (th : Nat → Int32) (ms : Nat → Int64) (ml : Nat → Int32) (mv : Nat → Int64) (si : Nat) (ha : Nat → Int64) : Int64 := tg_ic (tg_H1 th ms ml mv si ha) (1 + 4 * 0) 4
