/-! the class, call by call: which throw (0: none), the answer, the state behind it -/
def sq_clr (st : SqS) (n : Nat) : SqS := sq_mk (st.1 0) (st.1 1) (st.1 2) (st.1 3) (st.1 4) (sq_G (sq_dR 11) (fun _ => -1) (st.1 5)) (sq_G (sq_dR 36) (fun _ => nI 0) (st.1 6)) (sq_G (sq_dR 36) (fun _ => nI 0) (st.1 7)) (sq_G (sq_dR 36) (fun _ => nI 0) (st.1 8)) (sq_G (sq_dR 36) (fun _ => nI 0) (st.1 9)) (sq_G (sq_dR 36) (fun _ => nI 0) (st.1 10)) (n) (0) (0) (0) (0) (0) (0) (0) (0)
def sq_p6 (f : Nat → Int32) (i : Nat) (x1 x2 x3 x4 x5 x6 : Int32) : Nat → Int32 := upd (upd (upd (upd (upd (upd f i x1) (i + 1) x2) (i + 2) x3) (i + 3) x4) (i + 4) x5) (i + 5) x6
def sq_wgt (st : SqS) (x1 x2 x3 x4 x5 x6 : Int32) : SqS := sq_mk (sq_p6 (st.1 0) (st.2 2 * 6) x1 x2 x3 x4 x5 x6) (st.1 1) (st.1 2) (st.1 3) (st.1 4) (st.1 5) (st.1 6) (st.1 7) (st.1 8) (st.1 9) (st.1 10) (st.2 0) (st.2 1) (st.2 2 + 1) (st.2 3) (st.2 4) (st.2 5) (st.2 6) (st.2 7) (st.2 8)
def sq_vct (st : SqS) (b x1 x2 x3 x4 x5 x6 : Int32) : SqS := sq_mk (st.1 0) (sq_p6 (st.1 1) (st.2 5 * 6) x1 x2 x3 x4 x5 x6) (st.1 2) (upd (st.1 3) (st.2 5) b) (st.1 4) (st.1 5) (st.1 6) (st.1 7) (st.1 8) (st.1 9) (st.1 10) (st.2 0) (st.2 1) (st.2 2) (st.2 3) (st.2 4) (st.2 5 + 1) (st.2 6) (st.2 7) (st.2 8)
def sq_t1 (st : SqS) (t : Nat) : SqS := sq_mk (st.1 0) (st.1 1) (st.1 2) (st.1 3) (st.1 4) (st.1 5) (st.1 6) (st.1 7) (st.1 8) (st.1 9) (st.1 10) (st.2 0) (t) (st.2 2) (st.2 3) (st.2 4) (st.2 5) (st.2 6) (st.2 7) (st.2 8)
def sq_cyc (st : SqS) (n : Nat) : SqS := sq_t1 (sq_loop n st) (st.2 1 + n)
abbrev sq_in (n : Nat) (x : Int32) : Prop := ¬ x < 0 ∧ ¬ nI n ≤ x
theorem sq_in_of {n : Nat} {x : Int32} (h : sq_in n x) (hn : n < 2 ^ 31) : ∃ j : Nat, j < n ∧ x = nI j := by
  rcases pk_ix x hn with h1 | h1 | h1
  · exact absurd h1 h.1
  · exact absurd h1 h.2
  · exact h1
theorem sq_in_nI {n j : Nat} (h : j < n) (hn : n < 2 ^ 31) : sq_in n (nI j) := ⟨nI_pos (by omega), nI_ge h hn⟩
def sq_kB (x : Int32) : Nat := if x < nI 1 ∨ ¬ x ≤ nI 6 then 1 else 0
def sq_kW (st : SqS) : Nat := if st.2 2 < 120 then 0 else 1
def sq_kV (st : SqS) : Nat := if st.2 5 < 200 then 0 else 1
def sq_kC (st : SqS) (x : Int32) : Nat := if x < 0 ∨ ¬ sq_vec x ≤ 100000 - st.2 1 then 1 else 0
def sq_kL (st : SqS) (x y w : Int32) : Nat := if ¬ (sq_in (st.2 0) x ∧ sq_in (st.2 0) y) then 1 else if w < 0 ∨ nI 4 < w then 2 else 0
def sq_rL (st : SqS) (x y w : Int32) : Int32 := if w = 0 then st.1 6 (sq_vec x * 6 + sq_vec y) else if w = 1 then st.1 7 (sq_vec x * 6 + sq_vec y) else if w = 2 then st.1 8 (sq_vec x * 6 + sq_vec y) else if w = 3 then st.1 9 (sq_vec x * 6 + sq_vec y) else if st.1 10 (sq_vec x * 6 + sq_vec y) = 0 then nI 0 else nI 1
def sq_kE (st : SqS) (v : Int32) : Nat := if sq_in (st.2 5) v then 0 else 1
def sq_rE (st : SqS) (v : Int32) : Int32 := if sq_vec v < st.2 6 then st.1 4 (sq_vec v) else -1
def sq_kR (st : SqS) (v c : Int32) : Nat := if ¬ (sq_in (st.2 5) v ∧ sq_in (st.2 0) c) then 1 else if sq_vec v < st.2 6 ∧ 2 * st.2 0 - 2 ≤ st.2 1 - sq_vec (st.1 4 (sq_vec v)) then 0 else 2
def sq_rR (st : SqS) (v c : Int32) : Int32 := st.1 2 (sq_vec v * 6 + sq_vec c)
def sq_kA (w : Int32) : Nat := if w < 0 ∨ nI 6 < w then 1 else 0
def sq_rA (st : SqS) (w : Int32) : Int32 := if w = 0 then nI (st.2 1) else if w = 1 then nI (st.2 5 - st.2 6) else if w = 2 then nI (st.2 2 - st.2 3) else if w = 3 then nI (st.2 7) else if w = 4 then sq_b (decide (st.2 4 = st.2 0)) else if w = 5 then nI (sq_cntR (st.1 5) (st.2 0) (st.2 0)) else nI (st.2 0)
/-- a small number, or out of the table -/
theorem sq_sw5 (w : Int32) : (w = 0 ∨ w = 1 ∨ w = 2 ∨ w = 3 ∨ w = 4) ∨ (w < 0 ∨ nI 4 < w) := by
  rcases pk_ix w (n := 5) (by decide) with h | h | ⟨j, hj, rfl⟩
  · exact Or.inr (Or.inl h)
  · refine Or.inr (Or.inr ?_)
    rw [Int32.lt_iff_toInt_lt]
    rw [Int32.le_iff_toInt_le, nI_toInt (by decide)] at h
    rw [nI_toInt (by decide)]
    omega
  · left
    rcases (show j = 0 ∨ j = 1 ∨ j = 2 ∨ j = 3 ∨ j = 4 by omega) with rfl | rfl | rfl | rfl | rfl <;> decide
theorem sq_sw7 (w : Int32) : (w = 0 ∨ w = 1 ∨ w = 2 ∨ w = 3 ∨ w = 4 ∨ w = 5 ∨ w = 6) ∨ (w < 0 ∨ nI 6 < w) := by
  rcases pk_ix w (n := 7) (by decide) with h | h | ⟨j, hj, rfl⟩
  · exact Or.inr (Or.inl h)
  · refine Or.inr (Or.inr ?_)
    rw [Int32.lt_iff_toInt_lt]
    rw [Int32.le_iff_toInt_le, nI_toInt (by decide)] at h
    rw [nI_toInt (by decide)]
    omega
  · left
    rcases (show j = 0 ∨ j = 1 ∨ j = 2 ∨ j = 3 ∨ j = 4 ∨ j = 5 ∨ j = 6 by omega) with rfl | rfl | rfl | rfl | rfl | rfl | rfl <;> decide
theorem sq_swOut {w : Int32} {k : Nat} (hk : k < 2 ^ 31) (h : w < 0 ∨ nI k < w) : w.toInt < 0 ∨ (k : Int) < w.toInt := by
  rcases h with h | h
  · left; rw [Int32.lt_iff_toInt_lt] at h; simpa using h
  · right; rw [Int32.lt_iff_toInt_lt, nI_toInt hk] at h; exact h
