abbrev SqS : Type := (Nat → Nat → Int32) × (Nat → Nat)
def sq_mk (a0 a1 a2 a3 a4 a5 a6 a7 a8 a9 a10 : Nat → Int32) (f0 f1 f2 f3 f4 f5 f6 f7 f8 : Nat) : SqS := (fun k => match k with
  | 0 => a0
  | 1 => a1
  | 2 => a2
  | 3 => a3
  | 4 => a4
  | 5 => a5
  | 6 => a6
  | 7 => a7
  | 8 => a8
  | 9 => a9
  | _ => a10, fun k => match k with
  | 0 => f0
  | 1 => f1
  | 2 => f2
  | 3 => f3
  | 4 => f4
  | 5 => f5
  | 6 => f6
  | 7 => f7
  | _ => f8)
def sq_p1 (st : SqS) : SqS := sq_mk (st.1 0) (st.1 1) (st.1 2) (st.1 3) (st.1 4) (upd (sq_G (sq_dA 0) (sq_ago (st.1 5)) (st.1 5)) 0 (-1)) (st.1 6) (st.1 7) (st.1 8) (st.1 9) (st.1 10) (st.2 0) ((st.2 1) + 1) (st.2 2) (st.2 3) (st.2 4) (st.2 5) (st.2 6) (st.2 7) (st.2 8)
def sq_en (st : SqS) : SqS := sq_mk (st.1 0) (st.1 1) (st.1 2) (st.1 3) (upd (st.1 4) (st.2 6) (nI (st.2 1))) (upd (st.1 5) 0 (nI (st.2 6))) (st.1 6) (st.1 7) (st.1 8) (st.1 9) (st.1 10) (st.2 0) (st.2 1) (st.2 2) (st.2 3) (if (st.1 3) (st.2 6) = 0 then (st.2 4) else 0) (st.2 5) ((st.2 6) + 1) (if (st.1 3) (st.2 6) = 0 then (st.2 7) else (st.2 7) + 1) (if (st.1 3) (st.2 6) = 0 then (st.2 8) else (st.2 1))
def sq_le (st : SqS) : SqS := sq_mk (st.1 0) (st.1 1) (st.1 2) (st.1 3) (st.1 4) (st.1 5) (st.1 6) (st.1 7) (st.1 8) (sq_G (sq_dR (st.2 0)) (fun j => (st.1 0) ((st.2 3) * 6 + j)) (sq_G (sq_dL (st.2 0) 0 0) (sq_dn6 (st.1 9)) (st.1 9))) (st.1 10) (st.2 0) (st.2 1) (st.2 2) ((st.2 3) + 1) ((st.2 4) + 1) (st.2 5) (st.2 6) (st.2 7) (st.2 8)
def sq_go (st : SqS) : SqS := sq_mk (st.1 0) (st.1 1) (st.1 2) (st.1 3) (st.1 4) (st.1 5) (sq_G (sq_dG (st.2 0) 0 0) (sq_gI (st.1 5) (st.1 1) (st.1 6)) (st.1 6)) (sq_G (sq_dG (st.2 0) 0 0) (sq_gS (st.1 5) (st.1 1) (st.1 3) (st.1 6) (st.1 10) (st.1 8) (st.1 9) (st.1 7)) (st.1 7)) (sq_G (sq_dG (st.2 0) 0 0) (sq_gF (st.1 5) (st.1 3) (st.1 10) (st.1 8) (st.1 9)) (st.1 8)) (st.1 9) (sq_G (sq_dG (st.2 0) 0 0) (sq_gM (st.1 5) (st.1 3) (st.1 10)) (st.1 10)) (st.2 0) (st.2 1) (st.2 2) (st.2 3) (st.2 4) (st.2 5) (st.2 6) (st.2 7) (st.2 8)
def sq_kp (st : SqS) : SqS := sq_mk (st.1 0) (st.1 1) (sq_keep (st.2 0) (st.1 5) (st.1 7) (st.1 2) (st.2 0)) (st.1 3) (st.1 4) (st.1 5) (st.1 6) (st.1 7) (st.1 8) (st.1 9) (st.1 10) (st.2 0) (st.2 1) (st.2 2) (st.2 3) (st.2 4) (st.2 5) (st.2 6) (st.2 7) (st.2 8)
def sq_cV (st : SqS) : Bool := decide ((st.2 6) < (st.2 5) ∧ ((st.1 3) (st.2 6) = 0 ∨ (st.2 4) = (st.2 0)))
def sq_cR (st : SqS) (t : Nat) : Bool := decide ((st.2 3) < (st.2 2) ∧ ¬ (st.2 4) = (st.2 0) ∧ ((st.2 7) = 0 ∨ 2 * (st.2 0) - 2 < t - (st.2 8)))
def sq_e2 (st : SqS) : SqS := if sq_cV st = true then sq_en st else st
def sq_l2 (st : SqS) : SqS := if sq_cR st (st.2 1) = true then sq_le st else st
def sq_run (st : SqS) : SqS := sq_kp (sq_go (sq_l2 (sq_e2 (sq_p1 st))))
def sq_at (st : SqS) : Bool := decide (¬ ((st.2 6) < (st.2 5) ∧ ((st.1 3) (st.2 6) = 0 ∨ (st.2 4) = (st.2 0))) ∧ ¬ ((st.2 3) < (st.2 2) ∧ ¬ (st.2 4) = (st.2 0) ∧ ((st.2 7) = 0 ∨ 2 * (st.2 0) - 2 < (st.2 1) + 1 - (st.2 8))) ∧ sq_cntR (st.1 5) (st.2 0) (st.2 0) = 0)
def sq_loop : Nat → SqS → SqS
  | 0, st => st
  | n + 1, st => if sq_at st = true then st else sq_loop n (sq_run st)
def sq_okE (en : Nat → Int32) (nIn t : Nat) : Prop := ∀ v, v < nIn → ∃ e : Nat, e ≤ t ∧ en v = nI e
/-- what the numbers keep to -/
def sq_ok (st : SqS) : Prop := (1 ≤ st.2 0 ∧ st.2 0 ≤ 6) ∧ st.2 1 ≤ 100000 ∧ (st.2 2 ≤ 120 ∧ st.2 3 ≤ st.2 2) ∧ st.2 4 ≤ st.2 0 ∧ (st.2 5 ≤ 200 ∧ st.2 6 ≤ st.2 5 ∧ st.2 7 ≤ st.2 6) ∧ st.2 8 ≤ st.2 1 ∧ sq_okA (st.1 5) (st.2 6) ∧ sq_01 (st.1 3) ∧ sq_01 (st.1 10) ∧ sq_okE (st.1 4) (st.2 6) (st.2 1)
theorem sq_ok_p1 {st : SqS} (h : sq_ok st) (ht : st.2 1 < 100000) : sq_ok (sq_p1 st) := by
  obtain ⟨h1, h2, h3, h4, h5, h6, h7, h8, h9, h11⟩ := h
  refine ⟨h1, ?_, h3, h4, h5, ?_, ?_, h8, h9, fun v hv => ?_⟩
  · show st.2 1 + 1 ≤ 100000; omega
  · show st.2 8 ≤ st.2 1 + 1; omega
  · intro k hk
    show upd (sq_G (sq_dA 0) (sq_ago (st.1 5)) (st.1 5)) 0 (-1) k = -1 ∨ ∃ v : Nat, v < st.2 6 ∧ upd (sq_G (sq_dA 0) (sq_ago (st.1 5)) (st.1 5)) 0 (-1) k = nI v
    by_cases h0 : k = 0
    · rw [h0]; exact Or.inl pk_us
    · rw [pk_un h0, sq_G_new (by simp only [sq_dA, decide_eq_true_eq]; omega)]
      exact h7 (k - 1) (by omega)
  · obtain ⟨e, he, e2⟩ := h11 v hv
    exact ⟨e, Nat.le_succ_of_le he, e2⟩
theorem sq_ok_e2 {st : SqS} (h : sq_ok st) : sq_ok (sq_e2 st) := by
  unfold sq_e2
  by_cases hc : sq_cV st = true
  · rw [if_pos hc]
    obtain ⟨h1, h2, h3, h4, h5, h6, h7, h8, h9, h11⟩ := h
    have hc2 := (of_decide_eq_true hc).1
    refine ⟨h1, h2, h3, ?_, ⟨h5.1, hc2, ?_⟩, ?_, ?_, h8, h9, ?_⟩
    · show (if st.1 3 (st.2 6) = 0 then st.2 4 else 0) ≤ st.2 0
      split <;> omega
    · show (if st.1 3 (st.2 6) = 0 then st.2 7 else st.2 7 + 1) ≤ st.2 6 + 1
      split <;> omega
    · show (if st.1 3 (st.2 6) = 0 then st.2 8 else st.2 1) ≤ st.2 1
      split <;> omega
    · intro k hk
      show upd (st.1 5) 0 (nI (st.2 6)) k = -1 ∨ ∃ v : Nat, v < st.2 6 + 1 ∧ upd (st.1 5) 0 (nI (st.2 6)) k = nI v
      by_cases h0 : k = 0
      · rw [h0, pk_us]; exact Or.inr ⟨_, Nat.lt_succ_self _, rfl⟩
      · rw [pk_un h0]
        rcases h7 k hk with e | ⟨v, hv, e⟩
        · exact Or.inl e
        · exact Or.inr ⟨v, Nat.lt_succ_of_lt hv, e⟩
    · intro v hv
      show ∃ e : Nat, e ≤ st.2 1 ∧ upd (st.1 4) (st.2 6) (nI (st.2 1)) v = nI e
      have hv : v < st.2 6 + 1 := hv
      by_cases h0 : v = st.2 6
      · rw [h0, pk_us]; exact ⟨_, Nat.le_refl _, rfl⟩
      · rw [pk_un h0]; exact h11 v (by omega)
  · rw [if_neg hc]; exact h
theorem sq_ok_l2 {st : SqS} (h : sq_ok st) : sq_ok (sq_l2 st) := by
  unfold sq_l2
  by_cases hc : sq_cR st (st.2 1) = true
  · rw [if_pos hc]
    obtain ⟨h1, h2, h3, h4, h5, h6, h7, h8, h9, h11⟩ := h
    have hc2 := of_decide_eq_true hc
    exact ⟨h1, h2, ⟨h3.1, hc2.1⟩, Nat.lt_of_le_of_ne h4 hc2.2.1, h5, h6, h7, h8, h9, h11⟩
  · rw [if_neg hc]; exact h
theorem sq_ok_go {st : SqS} (h : sq_ok st) : sq_ok (sq_go st) := by
  obtain ⟨h1, h2, h3, h4, h5, h6, h7, h8, h9, h11⟩ := h
  refine ⟨h1, h2, h3, h4, h5, h6, h7, h8, ?_, h11⟩
  intro k
  show sq_G (sq_dG (st.2 0) 0 0) (sq_gM (st.1 5) (st.1 3) (st.1 10)) (st.1 10) k = 0 ∨ sq_G (sq_dG (st.2 0) 0 0) (sq_gM (st.1 5) (st.1 3) (st.1 10)) (st.1 10) k = 1
  by_cases hd : sq_dG (st.2 0) 0 0 k = true
  · rw [sq_G_new hd]
    unfold sq_gM sq_nIn
    by_cases h0 : k % 6 = 0
    · rw [if_pos h0]
      unfold sq_fedM
      by_cases h10 : st.1 5 (k / 6) = -1
      · rw [if_pos h10]; exact Or.inl rfl
      · rw [if_neg h10]; exact h8 _
    · rw [if_neg h0]; exact h9 _
  · rw [sq_G_old hd]; exact h9 _
theorem sq_ok_kp {st : SqS} (h : sq_ok st) : sq_ok (sq_kp st) := h
theorem sq_ok_run {st : SqS} (h : sq_ok st) (ht : st.2 1 < 100000) : sq_ok (sq_run st) := sq_ok_kp (sq_ok_go (sq_ok_l2 (sq_ok_e2 (sq_ok_p1 h ht))))
theorem sq_e2_1 (st : SqS) : (sq_e2 st).2 1 = st.2 1 := by unfold sq_e2; split <;> rfl
theorem sq_l2_1 (st : SqS) : (sq_l2 st).2 1 = st.2 1 := by unfold sq_l2; split <;> rfl
theorem sq_run_1 (st : SqS) : (sq_run st).2 1 = st.2 1 + 1 := by
  show (sq_l2 (sq_e2 (sq_p1 st))).2 1 = st.2 1 + 1
  rw [sq_l2_1, sq_e2_1]; rfl
