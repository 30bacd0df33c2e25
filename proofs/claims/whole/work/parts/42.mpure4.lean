/-! ===== the reference: small words of its public methods ===== -/
def tg_mgt (e : tg_ES) (ix wh : Nat) : Int32 := if e.1 ix = 0 ∨ ¬ nI wh ≤ e.2.2.1 ix then -1 else if wh = 0 then e.2.2.1 ix else tg_bi (e.2.2.2 ix) (wh - 1)
theorem tg_4k {k : Nat} (h : k < 4) : 4 ^ k ≤ 64 := by
  rcases (show k = 0 ∨ k = 1 ∨ k = 2 ∨ k = 3 by omega) with rfl | rfl | rfl | rfl <;> decide
theorem tg_bgn {k nd : Nat} (h : k < 4) (hn : nd < 4 ^ k) : tg_bg k + nd < 85 := by
  rcases (show k = 0 ∨ k = 1 ∨ k = 2 ∨ k = 3 by omega) with rfl | rfl | rfl | rfl
  · have h2 : nd < 1 := hn
    show 0 + nd < 85; omega
  · have h2 : nd < 4 := hn
    show 1 + nd < 85; omega
  · have h2 : nd < 16 := hn
    show 5 + nd < 85; omega
  · have h2 : nd < 64 := hn
    show 21 + nd < 85; omega
