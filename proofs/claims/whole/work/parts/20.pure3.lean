/-! ===== the pure words: a row's and a store's state as one value; what sends and merges make of it ===== -/
/-- kinds, levels, nodes, masks, hashes, stamps, values, lengths, size -/
abbrev tg_RS : Type := (Nat → Int32) × (Nat → Int32) × (Nat → Int32) × (Nat → Int32) × (Nat → Int64) × (Nat → Int64) × (Nat → Int64) × (Nat → Int32) × Nat
abbrev tg_rz (r : tg_RS) : Nat := r.2.2.2.2.2.2.2.2
/-- sent, lost, entries -/
abbrev tg_CT : Type := Int32 × Int32 × Int32
/-- stamps, values, lengths, hashes, entries -/
abbrev tg_SS : Type := (Nat → Int64) × (Nat → Int64) × (Nat → Int32) × (Nat → Int64) × Int32
def tg_cS (c : tg_CT) (z m : Nat) : tg_CT := (c.1 + nI 1, cond (decide (z < 100)) c.2.1 (c.2.1 + nI 1), c.2.2 + nI (tg_pc m))
def tg_sLr (r : tg_RS) (o : Nat) (ha : Nat → Int64) (k nd : Nat) : tg_RS :=
  cond (decide (tg_rz r < 100)) (upd r.1 ((o + tg_rz r) % 100) (nI 1), upd r.2.1 ((o + tg_rz r) % 100) (nI k), upd r.2.2.1 ((o + tg_rz r) % 100) (nI nd), upd r.2.2.2.1 ((o + tg_rz r) % 100) (nI 0),
    tg_lsH r.2.2.2.2.1 ((o + tg_rz r) % 100) ha ((4 ^ (k + 1) - 1) / 3 + nd * 4) 4, r.2.2.2.2.2.1, r.2.2.2.2.2.2.1, r.2.2.2.2.2.2.2.1, tg_rz r + 1) r
def tg_sEr (r : tg_RS) (o : Nat) (x : tg_SS) (x1 : Int32) (nd m : Nat) : tg_RS :=
  cond (decide (tg_rz r < 100)) (upd r.1 ((o + tg_rz r) % 100) x1, upd r.2.1 ((o + tg_rz r) % 100) (nI 3), upd r.2.2.1 ((o + tg_rz r) % 100) (nI nd), upd r.2.2.2.1 ((o + tg_rz r) % 100) (nI m),
    r.2.2.2.2.1, tg_cpL r.2.2.2.2.2.1 ((o + tg_rz r) % 100) m nd x.1 4, tg_cpL r.2.2.2.2.2.2.1 ((o + tg_rz r) % 100) m nd x.2.1 4, tg_cpI r.2.2.2.2.2.2.2.1 ((o + tg_rz r) % 100) m nd x.2.2.1 4, tg_rz r + 1) r
def tg_mS (x : tg_SS) (k : Nat) (s1 v1 : Int64) (n : Nat) : tg_SS :=
  cond (tg_in x.1 x.2.1 x.2.2.1 k s1 v1 (nI n)) (vp_updL x.1 k s1, vp_updL x.2.1 k v1, upd x.2.2.1 k (nI n), tg_rh (vp_updL x.1 k s1) (vp_updL x.2.1 k v1) (upd x.2.2.1 k (nI n)) x.2.2.2.1 k, tg_me x.2.2.1 x.2.2.2.2 k) x
theorem tg_mS_ok {x : tg_SS} (h : tg_okL x.2.2.1) (k : Nat) (s1 v1 : Int64) {n : Nat} (hn : n ≤ 8) : tg_okL (tg_mS x k s1 v1 n).2.2.1 := by
  unfold tg_mS
  cases tg_in x.1 x.2.1 x.2.2.1 k s1 v1 (nI n) with
  | true => exact tg_okL_u h k hn
  | false => exact h
/-- the entries of a message merged, the first i parts -/
def tg_mA (x : tg_SS) (pl m nd : Nat) (qs qw : Nat → Int64) (ql : Nat → Int32) : Nat → tg_SS
  | 0 => x
  | i + 1 => cond (Nat.testBit m i) (tg_mS (tg_mA x pl m nd qs qw ql i) (nd * 4 + i) (qs (pl * 4 + i)) (qw (pl * 4 + i)) (tg_cn (ql (pl * 4 + i)))) (tg_mA x pl m nd qs qw ql i)
theorem tg_mA_t {x : tg_SS} {pl m nd : Nat} {qs qw : Nat → Int64} {ql : Nat → Int32} {i : Nat} (h : Nat.testBit m i = true) : tg_mA x pl m nd qs qw ql (i + 1) = tg_mS (tg_mA x pl m nd qs qw ql i) (nd * 4 + i) (qs (pl * 4 + i)) (qw (pl * 4 + i)) (tg_cn (ql (pl * 4 + i))) := by
  rw [tg_mA, h]; rfl
theorem tg_mA_f {x : tg_SS} {pl m nd : Nat} {qs qw : Nat → Int64} {ql : Nat → Int32} {i : Nat} (h : Nat.testBit m i = false) : tg_mA x pl m nd qs qw ql (i + 1) = tg_mA x pl m nd qs qw ql i := by
  rw [tg_mA, h]; rfl
/-- the lengths of a message's entries -/
def tg_okM (pl m : Nat) (ql : Nat → Int32) : Prop := ∀ i, i < 4 → Nat.testBit m i = true → ql (pl * 4 + i) = nI (tg_cn (ql (pl * 4 + i))) ∧ tg_cn (ql (pl * 4 + i)) ≤ 8
def tg_kn (x : tg_SS) (pl m nd : Nat) (qs qw : Nat → Int64) (ql : Nat → Int32) (j : Nat) : Bool := Nat.testBit m j && tg_js x.1 x.2.1 x.2.2.1 (nd * 4 + j) (qs (pl * 4 + j)) (qw (pl * 4 + j)) (ql (pl * 4 + j))
theorem tg_kn_f1 {x : tg_SS} {pl m nd : Nat} {qs qw : Nat → Int64} {ql : Nat → Int32} {j : Nat} (h : Nat.testBit m j = false) : tg_kn x pl m nd qs qw ql j = false := by
  unfold tg_kn; rw [h]; rfl
theorem tg_kn_2 {x : tg_SS} {pl m nd : Nat} {qs qw : Nat → Int64} {ql : Nat → Int32} {j : Nat} {b : Bool} (h : Nat.testBit m j = true) (h2 : tg_js x.1 x.2.1 x.2.2.1 (nd * 4 + j) (qs (pl * 4 + j)) (qw (pl * 4 + j)) (ql (pl * 4 + j)) = b) : tg_kn x pl m nd qs qw ql j = b := by
  unfold tg_kn; rw [h, h2]; rfl
def tg_andn (a b : Nat) : Nat := a &&& (15 ^^^ b)
theorem tg_andn0 : ∀ a, a < 16 → ∀ b, b < 16 → nI a &&& (nI b ^^^ (-1)) = nI (tg_andn a b) ∧ tg_andn a b < 16 := by decide +kernel
theorem tg_mk16 (b : Nat → Bool) : tg_mk b 4 < 16 := tg_mk_lt b 4
/-- the mask of what goes back -/
def tg_gm (x : tg_SS) (pl m nd : Nat) (qs qw : Nat → Int64) (ql : Nat → Int32) : Nat := tg_andn (tg_mk (fun j => tg_has x.2.2.1 (nd * 4 + j)) 4) (tg_mk (tg_kn x pl m nd qs qw ql) 4)
theorem tg_gm16 (x : tg_SS) (pl m nd : Nat) (qs qw : Nat → Int64) (ql : Nat → Int32) : tg_gm x pl m nd qs qw ql < 16 := (tg_andn0 _ (tg_mk16 _) _ (tg_mk16 _)).2
def tg_aG (r : tg_RS) (o : Nat) (x : tg_SS) (g nd : Nat) : tg_RS := cond (decide (g = 0)) r (tg_sEr r o x (nI 3) nd g)
def tg_aGc (c : tg_CT) (z g : Nat) : tg_CT := cond (decide (g = 0)) c (tg_cS c z g)
/-- the answers to a LIST, the first i children -/
def tg_aL (r : tg_RS) (c : tg_CT) (o : Nat) (x : tg_SS) (pl kk nd : Nat) (qh : Nat → Int64) : Nat → tg_RS × tg_CT
  | 0 => (r, c)
  | i + 1 => cond (decide (qh (pl * 4 + i) = x.2.2.2.1 ((4 ^ (kk + 1) - 1) / 3 + (nd * 4 + i)))) (tg_aL r c o x pl kk nd qh i)
      (cond (decide (kk + 1 = 3))
        (tg_sEr (tg_aL r c o x pl kk nd qh i).1 o x (nI 2) (nd * 4 + i) (tg_mk (fun j => tg_has x.2.2.1 ((nd * 4 + i) * 4 + j)) 4), tg_cS (tg_aL r c o x pl kk nd qh i).2 (tg_rz (tg_aL r c o x pl kk nd qh i).1) (tg_mk (fun j => tg_has x.2.2.1 ((nd * 4 + i) * 4 + j)) 4))
        (tg_sLr (tg_aL r c o x pl kk nd qh i).1 o x.2.2.2.1 (kk + 1) (nd * 4 + i), tg_cS (tg_aL r c o x pl kk nd qh i).2 (tg_rz (tg_aL r c o x pl kk nd qh i).1) 0))
theorem tg_aL_s {r : tg_RS} {c : tg_CT} {o : Nat} {x : tg_SS} {pl kk nd : Nat} {qh : Nat → Int64} {i : Nat} (h : qh (pl * 4 + i) = x.2.2.2.1 ((4 ^ (kk + 1) - 1) / 3 + (nd * 4 + i))) : tg_aL r c o x pl kk nd qh (i + 1) = tg_aL r c o x pl kk nd qh i := by
  rw [tg_aL, decide_eq_true h]; rfl
theorem tg_aL_e {r : tg_RS} {c : tg_CT} {o : Nat} {x : tg_SS} {pl kk nd : Nat} {qh : Nat → Int64} {i : Nat} (h : ¬ qh (pl * 4 + i) = x.2.2.2.1 ((4 ^ (kk + 1) - 1) / 3 + (nd * 4 + i))) (h3 : kk + 1 = 3) : tg_aL r c o x pl kk nd qh (i + 1) =
    (tg_sEr (tg_aL r c o x pl kk nd qh i).1 o x (nI 2) (nd * 4 + i) (tg_mk (fun j => tg_has x.2.2.1 ((nd * 4 + i) * 4 + j)) 4), tg_cS (tg_aL r c o x pl kk nd qh i).2 (tg_rz (tg_aL r c o x pl kk nd qh i).1) (tg_mk (fun j => tg_has x.2.2.1 ((nd * 4 + i) * 4 + j)) 4)) := by
  rw [tg_aL, decide_eq_false h, decide_eq_true h3]; rfl
theorem tg_aL_l {r : tg_RS} {c : tg_CT} {o : Nat} {x : tg_SS} {pl kk nd : Nat} {qh : Nat → Int64} {i : Nat} (h : ¬ qh (pl * 4 + i) = x.2.2.2.1 ((4 ^ (kk + 1) - 1) / 3 + (nd * 4 + i))) (h3 : ¬ kk + 1 = 3) : tg_aL r c o x pl kk nd qh (i + 1) =
    (tg_sLr (tg_aL r c o x pl kk nd qh i).1 o x.2.2.2.1 (kk + 1) (nd * 4 + i), tg_cS (tg_aL r c o x pl kk nd qh i).2 (tg_rz (tg_aL r c o x pl kk nd qh i).1) 0) := by
  rw [tg_aL, decide_eq_false h, decide_eq_false h3]; rfl
theorem tg_sEr_z {r : tg_RS} {o : Nat} {x : tg_SS} {x1 : Int32} {nd m : Nat} (h : tg_rz r ≤ 100) : tg_rz (tg_sEr r o x x1 nd m) ≤ 100 := by
  unfold tg_sEr
  by_cases q : tg_rz r < 100
  · rw [decide_eq_true q]; show tg_rz r + 1 ≤ 100; omega
  · rw [decide_eq_false q]; exact h
theorem tg_sLr_z {r : tg_RS} {o : Nat} {ha : Nat → Int64} {k nd : Nat} (h : tg_rz r ≤ 100) : tg_rz (tg_sLr r o ha k nd) ≤ 100 := by
  unfold tg_sLr
  by_cases q : tg_rz r < 100
  · rw [decide_eq_true q]; show tg_rz r + 1 ≤ 100; omega
  · rw [decide_eq_false q]; exact h
theorem tg_aL_z {r : tg_RS} {c : tg_CT} {o : Nat} {x : tg_SS} {pl kk nd : Nat} {qh : Nat → Int64} (h : tg_rz r ≤ 100) : ∀ i, tg_rz (tg_aL r c o x pl kk nd qh i).1 ≤ 100
  | 0 => h
  | i + 1 => by
    have h1 := tg_aL_z (c := c) (o := o) (x := x) (pl := pl) (kk := kk) (nd := nd) (qh := qh) h i
    by_cases q : qh (pl * 4 + i) = x.2.2.2.1 ((4 ^ (kk + 1) - 1) / 3 + (nd * 4 + i))
    · rw [tg_aL_s q]; exact h1
    · by_cases q3 : kk + 1 = 3
      · rw [tg_aL_e q q3]; exact tg_sEr_z h1
      · rw [tg_aL_l q q3]; exact tg_sLr_z h1
theorem tg_lvl {kk nd : Nat} (hk : kk < 3) (hnd : nd < 4 ^ kk) : nd < 16 ∧ (4 ^ (kk + 1) - 1) / 3 + nd * 4 + 4 ≤ 85 ∧ (¬ kk + 1 = 3 → ∀ i, i < 4 → nd * 4 + i < 16 ∧ (4 ^ (kk + 1 + 1) - 1) / 3 + (nd * 4 + i) * 4 + 4 ≤ 85) := by
  rcases (show kk = 0 ∨ kk = 1 ∨ kk = 2 by omega) with rfl | rfl | rfl
  · simp only [Nat.pow_zero] at hnd
    refine ⟨by omega, by simp; omega, fun _ i hi => ⟨by omega, by simp; omega⟩⟩
  · simp only [Nat.pow_one] at hnd
    refine ⟨by omega, by simp; omega, fun _ i hi => ⟨by omega, by simp; omega⟩⟩
  · have h2 : nd < 16 := hnd
    exact ⟨h2, by simp; omega, fun h => absurd rfl h⟩
def tg_aA (r : tg_RS) (o : Nat) (x : tg_SS) (h : Int64) : tg_RS := cond (decide (h = x.2.2.2.1 0)) r (tg_sLr r o x.2.2.2.1 0 0)
def tg_aAc (c : tg_CT) (z : Nat) (x : tg_SS) (h : Int64) : tg_CT := cond (decide (h = x.2.2.2.1 0)) c (tg_cS c z 0)
