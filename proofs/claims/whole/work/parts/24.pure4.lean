/-! ===== the pure words: getting the oldest message ===== -/
def tg_pop (q : tg_RS) : tg_RS := (q.1, q.2.1, q.2.2.1, q.2.2.2.1, q.2.2.2.2.1, q.2.2.2.2.2.1, q.2.2.2.2.2.2.1, q.2.2.2.2.2.2.2.1, tg_rz q - 1)
abbrev tg_qm (q : tg_RS) (p : Nat) : Nat := tg_cn (q.2.2.2.1 p)
abbrev tg_qn (q : tg_RS) (p : Nat) : Nat := tg_cn (q.2.2.1 p)
abbrev tg_ql (q : tg_RS) (p : Nat) : Nat := tg_cn (q.2.1 p)
/-- a message at a place is one of the four kinds, its parts in their bounds -/
def tg_okG (q : tg_RS) (p : Nat) : Prop :=
  q.2.2.2.1 p = nI (tg_qm q p) ∧ tg_qm q p < 16 ∧ q.2.2.1 p = nI (tg_qn q p) ∧ tg_qn q p < 64 ∧ tg_okM p (tg_qm q p) q.2.2.2.2.2.2.2.1 ∧
  (q.1 p = nI 0 ∨ (q.1 p = nI 1 ∧ q.2.1 p = nI (tg_ql q p) ∧ tg_ql q p < 3 ∧ tg_qn q p < 4 ^ tg_ql q p) ∨ q.1 p = nI 2 ∨ q.1 p = nI 3)
def tg_mx4 (x : tg_SS) (q : tg_RS) (w : Nat) : tg_SS := tg_mA x w (tg_qm q w) (tg_qn q w) q.2.2.2.2.2.1 q.2.2.2.2.2.2.1 q.2.2.2.2.2.2.2.1 4
def tg_gm4 (x : tg_SS) (q : tg_RS) (w : Nat) : Nat := tg_gm (tg_mx4 x q w) w (tg_qm q w) (tg_qn q w) q.2.2.2.2.2.1 q.2.2.2.2.2.2.1 q.2.2.2.2.2.2.2.1
def tg_aL4 (r : tg_RS) (c : tg_CT) (o : Nat) (x : tg_SS) (q : tg_RS) (w : Nat) : tg_RS × tg_CT := tg_aL r c o x w (tg_ql q w) (tg_qn q w) q.2.2.2.2.1 4
/-- answer, store, own row, its oldest, the other row, counters -/
def tg_rcv (x : tg_SS) (q : tg_RS) (w : Nat) (r : tg_RS) (o : Nat) (c : tg_CT) : Int32 × tg_SS × tg_RS × Nat × tg_RS × tg_CT :=
  cond (decide (tg_rz q = 0)) (-1, x, q, w, r, c)
  (cond (decide (q.1 w = nI 0)) (nI 0, x, tg_pop q, (w + 1) % 100, tg_aA r o x (q.2.2.2.2.1 (w * 4)), tg_aAc c (tg_rz r) x (q.2.2.2.2.1 (w * 4)))
  (cond (decide (q.1 w = nI 1)) (nI 1, x, tg_pop q, (w + 1) % 100, (tg_aL4 r c o x q w).1, (tg_aL4 r c o x q w).2)
  (cond (decide (q.1 w = nI 2)) (nI 2, tg_mx4 x q w, tg_pop q, (w + 1) % 100, tg_aG r o (tg_mx4 x q w) (tg_gm4 x q w) (tg_qn q w), tg_aGc c (tg_rz r) (tg_gm4 x q w))
    (nI 3, tg_mx4 x q w, tg_pop q, (w + 1) % 100, r, c))))
theorem tg_rcv_e {x : tg_SS} {q : tg_RS} {w : Nat} {r : tg_RS} {o : Nat} {c : tg_CT} (h : tg_rz q = 0) : tg_rcv x q w r o c = (-1, x, q, w, r, c) := by
  unfold tg_rcv; rw [decide_eq_true h]; rfl
theorem tg_ne01 : ¬ nI 1 = nI 0 := by decide
theorem tg_ne02 : ¬ nI 2 = nI 0 := by decide
theorem tg_ne12 : ¬ nI 2 = nI 1 := by decide
theorem tg_ne03 : ¬ nI 3 = nI 0 := by decide
theorem tg_ne13 : ¬ nI 3 = nI 1 := by decide
theorem tg_ne23 : ¬ nI 3 = nI 2 := by decide
theorem tg_rcv_0 {x : tg_SS} {q : tg_RS} {w : Nat} {r : tg_RS} {o : Nat} {c : tg_CT} (h : 0 < tg_rz q) (hk : q.1 w = nI 0) : tg_rcv x q w r o c = (nI 0, x, tg_pop q, (w + 1) % 100, tg_aA r o x (q.2.2.2.2.1 (w * 4)), tg_aAc c (tg_rz r) x (q.2.2.2.2.1 (w * 4))) := by
  unfold tg_rcv; rw [decide_eq_false (Nat.ne_of_gt h), decide_eq_true hk]; rfl
theorem tg_rcv_1 {x : tg_SS} {q : tg_RS} {w : Nat} {r : tg_RS} {o : Nat} {c : tg_CT} (h : 0 < tg_rz q) (hk : q.1 w = nI 1) : tg_rcv x q w r o c = (nI 1, x, tg_pop q, (w + 1) % 100, (tg_aL4 r c o x q w).1, (tg_aL4 r c o x q w).2) := by
  unfold tg_rcv; rw [decide_eq_false (Nat.ne_of_gt h), decide_eq_false (by rw [hk]; exact tg_ne01), decide_eq_true hk]; rfl
theorem tg_rcv_2 {x : tg_SS} {q : tg_RS} {w : Nat} {r : tg_RS} {o : Nat} {c : tg_CT} (h : 0 < tg_rz q) (hk : q.1 w = nI 2) : tg_rcv x q w r o c = (nI 2, tg_mx4 x q w, tg_pop q, (w + 1) % 100, tg_aG r o (tg_mx4 x q w) (tg_gm4 x q w) (tg_qn q w), tg_aGc c (tg_rz r) (tg_gm4 x q w)) := by
  unfold tg_rcv; rw [decide_eq_false (Nat.ne_of_gt h), decide_eq_false (by rw [hk]; exact tg_ne02), decide_eq_false (by rw [hk]; exact tg_ne12), decide_eq_true hk]; rfl
theorem tg_rcv_3 {x : tg_SS} {q : tg_RS} {w : Nat} {r : tg_RS} {o : Nat} {c : tg_CT} (h : 0 < tg_rz q) (hk : q.1 w = nI 3) : tg_rcv x q w r o c = (nI 3, tg_mx4 x q w, tg_pop q, (w + 1) % 100, r, c) := by
  unfold tg_rcv; rw [decide_eq_false (Nat.ne_of_gt h), decide_eq_false (by rw [hk]; exact tg_ne03), decide_eq_false (by rw [hk]; exact tg_ne13), decide_eq_false (by rw [hk]; exact tg_ne23)]; rfl
def tg_gtv (x : tg_SS) (k wh : Nat) : Int32 := if wh = 0 then x.2.2.1 k else if ¬ nI wh ≤ x.2.2.1 k then -1 else tg_bi (x.2.1 k) (wh - 1)
