theorem sq_l2_a0 (s : SqS) : (sq_l2 s).1 0 = s.1 0 := by unfold sq_l2; split <;> rfl
theorem sq_e2_a0 (s : SqS) : (sq_e2 s).1 0 = s.1 0 := by unfold sq_e2; split <;> rfl
theorem sq_l2_a1 (s : SqS) : (sq_l2 s).1 1 = s.1 1 := by unfold sq_l2; split <;> rfl
theorem sq_e2_a1 (s : SqS) : (sq_e2 s).1 1 = s.1 1 := by unfold sq_e2; split <;> rfl
theorem sq_l2_a2 (s : SqS) : (sq_l2 s).1 2 = s.1 2 := by unfold sq_l2; split <;> rfl
theorem sq_e2_a2 (s : SqS) : (sq_e2 s).1 2 = s.1 2 := by unfold sq_e2; split <;> rfl
theorem sq_l2_a3 (s : SqS) : (sq_l2 s).1 3 = s.1 3 := by unfold sq_l2; split <;> rfl
theorem sq_e2_a3 (s : SqS) : (sq_e2 s).1 3 = s.1 3 := by unfold sq_e2; split <;> rfl
theorem sq_l2_a4 (s : SqS) : (sq_l2 s).1 4 = s.1 4 := by unfold sq_l2; split <;> rfl
theorem sq_l2_a5 (s : SqS) : (sq_l2 s).1 5 = s.1 5 := by unfold sq_l2; split <;> rfl
theorem sq_l2_a6 (s : SqS) : (sq_l2 s).1 6 = s.1 6 := by unfold sq_l2; split <;> rfl
theorem sq_e2_a6 (s : SqS) : (sq_e2 s).1 6 = s.1 6 := by unfold sq_e2; split <;> rfl
theorem sq_l2_a7 (s : SqS) : (sq_l2 s).1 7 = s.1 7 := by unfold sq_l2; split <;> rfl
theorem sq_e2_a7 (s : SqS) : (sq_e2 s).1 7 = s.1 7 := by unfold sq_e2; split <;> rfl
theorem sq_l2_a8 (s : SqS) : (sq_l2 s).1 8 = s.1 8 := by unfold sq_l2; split <;> rfl
theorem sq_e2_a8 (s : SqS) : (sq_e2 s).1 8 = s.1 8 := by unfold sq_e2; split <;> rfl
theorem sq_e2_a9 (s : SqS) : (sq_e2 s).1 9 = s.1 9 := by unfold sq_e2; split <;> rfl
theorem sq_l2_a10 (s : SqS) : (sq_l2 s).1 10 = s.1 10 := by unfold sq_l2; split <;> rfl
theorem sq_e2_a10 (s : SqS) : (sq_e2 s).1 10 = s.1 10 := by unfold sq_e2; split <;> rfl
theorem sq_l2_f0 (s : SqS) : (sq_l2 s).2 0 = s.2 0 := by unfold sq_l2; split <;> rfl
theorem sq_e2_f0 (s : SqS) : (sq_e2 s).2 0 = s.2 0 := by unfold sq_e2; split <;> rfl
theorem sq_l2_f2 (s : SqS) : (sq_l2 s).2 2 = s.2 2 := by unfold sq_l2; split <;> rfl
theorem sq_e2_f2 (s : SqS) : (sq_e2 s).2 2 = s.2 2 := by unfold sq_e2; split <;> rfl
theorem sq_e2_f3 (s : SqS) : (sq_e2 s).2 3 = s.2 3 := by unfold sq_e2; split <;> rfl
theorem sq_l2_f5 (s : SqS) : (sq_l2 s).2 5 = s.2 5 := by unfold sq_l2; split <;> rfl
theorem sq_e2_f5 (s : SqS) : (sq_e2 s).2 5 = s.2 5 := by unfold sq_e2; split <;> rfl
theorem sq_l2_f6 (s : SqS) : (sq_l2 s).2 6 = s.2 6 := by unfold sq_l2; split <;> rfl
theorem sq_l2_f7 (s : SqS) : (sq_l2 s).2 7 = s.2 7 := by unfold sq_l2; split <;> rfl
theorem sq_l2_f8 (s : SqS) : (sq_l2 s).2 8 = s.2 8 := by unfold sq_l2; split <;> rfl
/-- the vectors by age, behind the entering of a cycle -/
def sq_ago2 (st : SqS) : Nat → Int32 := (sq_e2 (sq_p1 st)).1 5
theorem sq_ago2_s (st : SqS) {k : Nat} (h0 : 0 < k) (h1 : k ≤ 10) : sq_ago2 st k = st.1 5 (k - 1) := by
  have e : (sq_p1 st).1 5 k = st.1 5 (k - 1) := by
    show upd (sq_G (sq_dA 0) (sq_ago (st.1 5)) (st.1 5)) 0 (-1) k = st.1 5 (k - 1)
    rw [pk_un (by omega), sq_G_new (by simp only [sq_dA, decide_eq_true_eq]; omega)]
    rfl
  unfold sq_ago2 sq_e2
  split
  · show upd ((sq_p1 st).1 5) 0 (nI ((sq_p1 st).2 6)) k = st.1 5 (k - 1)
    rw [pk_un (by omega), e]
  · exact e
theorem sq_ago2_0 (st : SqS) : sq_ago2 st 0 = if sq_cV (sq_p1 st) = true then nI (st.2 6) else -1 := by
  unfold sq_ago2 sq_e2
  split
  · rfl
  · rfl
theorem sq_run_a5 (st : SqS) : (sq_run st).1 5 = sq_ago2 st := by
  show (sq_l2 (sq_e2 (sq_p1 st))).1 5 = sq_ago2 st
  rw [sq_l2_a5]; rfl
theorem sq_run_f0 (st : SqS) : (sq_run st).2 0 = st.2 0 := by
  show (sq_l2 (sq_e2 (sq_p1 st))).2 0 = st.2 0
  rw [sq_l2_f0, sq_e2_f0]; rfl
theorem sq_div {r c : Nat} (h : c < 6) : (r * 6 + c) / 6 = r := by omega
theorem sq_mod {r c : Nat} (h : c < 6) : (r * 6 + c) % 6 = c := by omega
theorem sq_dG0 {n r c : Nat} (hn : n ≤ 6) (hr : r < n) (hc : c < n) : sq_dG n 0 0 (r * 6 + c) = true := by
  simp only [sq_dG, decide_eq_true_eq]; omega
/-- a cell's registers behind a cycle -/
theorem sq_run_in (st : SqS) (hn : st.2 0 ≤ 6) {r c : Nat} (hr : r < st.2 0) (hc : c < st.2 0) : (sq_run st).1 6 (r * 6 + c) = if c = 0 then sq_fedI (sq_ago2 st) (st.1 1) r else st.1 6 (r * 6 + c - 1) := by
  show sq_G (sq_dG ((sq_l2 (sq_e2 (sq_p1 st))).2 0) 0 0) (sq_gI ((sq_l2 (sq_e2 (sq_p1 st))).1 5) ((sq_l2 (sq_e2 (sq_p1 st))).1 1) ((sq_l2 (sq_e2 (sq_p1 st))).1 6)) ((sq_l2 (sq_e2 (sq_p1 st))).1 6) (r * 6 + c) = _
  rw [sq_l2_f0, sq_e2_f0, sq_l2_a5, sq_l2_a1, sq_e2_a1, sq_l2_a6, sq_e2_a6]
  show sq_G (sq_dG (st.2 0) 0 0) (sq_gI (sq_ago2 st) (st.1 1) (st.1 6)) (st.1 6) (r * 6 + c) = _
  rw [sq_G_new (sq_dG0 hn hr hc)]
  unfold sq_gI sq_nIn
  rw [sq_mod (by omega), sq_div (by omega)]
theorem sq_run_mk (st : SqS) (hn : st.2 0 ≤ 6) {r c : Nat} (hr : r < st.2 0) (hc : c < st.2 0) : (sq_run st).1 10 (r * 6 + c) = if c = 0 then sq_fedM (sq_ago2 st) (st.1 3) r else st.1 10 (r * 6 + c - 1) := by
  show sq_G (sq_dG ((sq_l2 (sq_e2 (sq_p1 st))).2 0) 0 0) (sq_gM ((sq_l2 (sq_e2 (sq_p1 st))).1 5) ((sq_l2 (sq_e2 (sq_p1 st))).1 3) ((sq_l2 (sq_e2 (sq_p1 st))).1 10)) ((sq_l2 (sq_e2 (sq_p1 st))).1 10) (r * 6 + c) = _
  rw [sq_l2_f0, sq_e2_f0, sq_l2_a5, sq_l2_a3, sq_e2_a3, sq_l2_a10, sq_e2_a10]
  show sq_G (sq_dG (st.2 0) 0 0) (sq_gM (sq_ago2 st) (st.1 3) (st.1 10)) (st.1 10) (r * 6 + c) = _
  rw [sq_G_new (sq_dG0 hn hr hc)]
  unfold sq_gM sq_nIn
  rw [sq_mod (by omega), sq_div (by omega)]
/-- NEXT behind the letting in -/
def sq_nx2 (st : SqS) : Nat → Int32 := (sq_l2 (sq_e2 (sq_p1 st))).1 9
theorem sq_run_a9 (st : SqS) : (sq_run st).1 9 = sq_nx2 st := rfl
theorem sq_run_fa (st : SqS) (hn : st.2 0 ≤ 6) {r c : Nat} (hr : r < st.2 0) (hc : c < st.2 0) : (sq_run st).1 8 (r * 6 + c) = if (sq_run st).1 10 (r * 6 + c) = 0 then st.1 8 (r * 6 + c) else sq_nx2 st (r * 6 + c) := by
  show sq_G (sq_dG ((sq_l2 (sq_e2 (sq_p1 st))).2 0) 0 0) (sq_gF ((sq_l2 (sq_e2 (sq_p1 st))).1 5) ((sq_l2 (sq_e2 (sq_p1 st))).1 3) ((sq_l2 (sq_e2 (sq_p1 st))).1 10) ((sq_l2 (sq_e2 (sq_p1 st))).1 8) ((sq_l2 (sq_e2 (sq_p1 st))).1 9)) ((sq_l2 (sq_e2 (sq_p1 st))).1 8) (r * 6 + c) = _
  have em : (sq_run st).1 10 (r * 6 + c) = sq_gM ((sq_l2 (sq_e2 (sq_p1 st))).1 5) ((sq_l2 (sq_e2 (sq_p1 st))).1 3) ((sq_l2 (sq_e2 (sq_p1 st))).1 10) (r * 6 + c) := by
    show sq_G (sq_dG ((sq_l2 (sq_e2 (sq_p1 st))).2 0) 0 0) (sq_gM ((sq_l2 (sq_e2 (sq_p1 st))).1 5) ((sq_l2 (sq_e2 (sq_p1 st))).1 3) ((sq_l2 (sq_e2 (sq_p1 st))).1 10)) ((sq_l2 (sq_e2 (sq_p1 st))).1 10) (r * 6 + c) = _
    rw [sq_l2_f0, sq_e2_f0]
    exact sq_G_new (sq_dG0 hn hr hc)
  rw [em, sq_l2_f0, sq_e2_f0]
  show sq_G (sq_dG (st.2 0) 0 0) _ _ (r * 6 + c) = _
  rw [sq_G_new (sq_dG0 hn hr hc)]
  unfold sq_gF sq_nFa
  rw [sq_l2_a8, sq_e2_a8]
  rfl
theorem sq_run_su (st : SqS) (hn : st.2 0 ≤ 6) {r c : Nat} (hr : r < st.2 0) (hc : c < st.2 0) : (sq_run st).1 7 (r * 6 + c) = (if r = 0 then 0 else st.1 7 (r * 6 + c - 6)) + (sq_run st).1 8 (r * 6 + c) * (sq_run st).1 6 (r * 6 + c) := by
  have e8 : (sq_run st).1 8 (r * 6 + c) = sq_gF ((sq_l2 (sq_e2 (sq_p1 st))).1 5) ((sq_l2 (sq_e2 (sq_p1 st))).1 3) ((sq_l2 (sq_e2 (sq_p1 st))).1 10) ((sq_l2 (sq_e2 (sq_p1 st))).1 8) ((sq_l2 (sq_e2 (sq_p1 st))).1 9) (r * 6 + c) := by
    show sq_G (sq_dG ((sq_l2 (sq_e2 (sq_p1 st))).2 0) 0 0) _ _ (r * 6 + c) = _
    rw [sq_l2_f0, sq_e2_f0]
    exact sq_G_new (sq_dG0 hn hr hc)
  have e6 : (sq_run st).1 6 (r * 6 + c) = sq_gI ((sq_l2 (sq_e2 (sq_p1 st))).1 5) ((sq_l2 (sq_e2 (sq_p1 st))).1 1) ((sq_l2 (sq_e2 (sq_p1 st))).1 6) (r * 6 + c) := by
    show sq_G (sq_dG ((sq_l2 (sq_e2 (sq_p1 st))).2 0) 0 0) _ _ (r * 6 + c) = _
    rw [sq_l2_f0, sq_e2_f0]
    exact sq_G_new (sq_dG0 hn hr hc)
  rw [e8, e6]
  show sq_G (sq_dG ((sq_l2 (sq_e2 (sq_p1 st))).2 0) 0 0) (sq_gS ((sq_l2 (sq_e2 (sq_p1 st))).1 5) ((sq_l2 (sq_e2 (sq_p1 st))).1 1) ((sq_l2 (sq_e2 (sq_p1 st))).1 3) ((sq_l2 (sq_e2 (sq_p1 st))).1 6) ((sq_l2 (sq_e2 (sq_p1 st))).1 10) ((sq_l2 (sq_e2 (sq_p1 st))).1 8) ((sq_l2 (sq_e2 (sq_p1 st))).1 9) ((sq_l2 (sq_e2 (sq_p1 st))).1 7)) ((sq_l2 (sq_e2 (sq_p1 st))).1 7) (r * 6 + c) = _
  rw [sq_l2_f0, sq_e2_f0]
  show sq_G (sq_dG (st.2 0) 0 0) _ _ (r * 6 + c) = _
  rw [sq_G_new (sq_dG0 hn hr hc)]
  unfold sq_gS sq_nSu
  rw [sq_div (by omega), sq_l2_a7, sq_e2_a7]
  rfl
/-- where no element is, nothing is -/
def sq_J (st : SqS) : Prop := ∀ r c, r < st.2 0 → c < st.2 0 → st.1 5 (r + c) = -1 → st.1 6 (r * 6 + c) = 0 ∧ st.1 10 (r * 6 + c) = 0 ∧ st.1 7 (r * 6 + c) = 0
theorem sq_J_run {st : SqS} (hok : sq_ok st) (hJ : sq_J st) : sq_J (sq_run st) := by
  obtain ⟨⟨o1, o2⟩, -⟩ := id hok
  intro r c hr hc ha
  rw [sq_run_f0] at hr hc
  rw [sq_run_a5] at ha
  have eI : (sq_run st).1 6 (r * 6 + c) = 0 := by
    rw [sq_run_in st o2 hr hc]
    by_cases h0 : c = 0
    · rw [if_pos h0]
      rw [h0, Nat.add_zero] at ha
      unfold sq_fedI
      rw [if_pos ha]
    · rw [if_neg h0, show r * 6 + c - 1 = r * 6 + (c - 1) by omega]
      rw [sq_ago2_s st (by omega) (by omega), show r + c - 1 = r + (c - 1) by omega] at ha
      exact (hJ r (c - 1) hr (by omega) ha).1
  refine ⟨eI, ?_, ?_⟩
  · rw [sq_run_mk st o2 hr hc]
    by_cases h0 : c = 0
    · rw [if_pos h0]
      rw [h0, Nat.add_zero] at ha
      unfold sq_fedM
      rw [if_pos ha]
    · rw [if_neg h0, show r * 6 + c - 1 = r * 6 + (c - 1) by omega]
      rw [sq_ago2_s st (by omega) (by omega), show r + c - 1 = r + (c - 1) by omega] at ha
      exact (hJ r (c - 1) hr (by omega) ha).2.1
  · rw [sq_run_su st o2 hr hc, eI, Int32.mul_zero]
    by_cases h0 : r = 0
    · rw [if_pos h0]; rfl
    · rw [if_neg h0, show r * 6 + c - 6 = (r - 1) * 6 + c by omega]
      rw [sq_ago2_s st (by omega) (by omega), show r + c - 1 = r - 1 + c by omega] at ha
      rw [(hJ (r - 1) c (by omega) hc ha).2.2]; rfl
theorem sq_cntC_0 (ago : Nat → Int32) (r : Nat) : ∀ c, sq_cntC ago r c = 0 → ∀ t, t < c → ago (r + t) = -1
  | 0, _, t, ht => absurd ht (Nat.not_lt_zero t)
  | c + 1, h, t, ht => by
    simp only [sq_cntC] at h
    by_cases e : ago (r + c) = -1
    · rcases Nat.lt_or_ge t c with h1 | h1
      · exact sq_cntC_0 ago r c (by omega) t h1
      · rw [show t = c by omega]; exact e
    · rw [if_neg e] at h; omega
theorem sq_cntR_0 (ago : Nat → Int32) (n : Nat) : ∀ r, sq_cntR ago n r = 0 → ∀ t, t < r → sq_cntC ago t n = 0
  | 0, _, t, ht => absurd ht (Nat.not_lt_zero t)
  | r + 1, h, t, ht => by
    simp only [sq_cntR] at h
    rcases Nat.lt_or_ge t r with h1 | h1
    · exact sq_cntR_0 ago n r (by omega) t h1
    · rw [show t = r by omega]; omega
theorem sq_cnt_none {ago : Nat → Int32} {n : Nat} (h : sq_cntR ago n n = 0) {k : Nat} (hk : k < 2 * n - 1) : ago k = -1 := by
  have h1 := sq_cntC_0 ago (k - (n - 1)) n (sq_cntR_0 ago n n h (k - (n - 1)) (by omega)) (k - (k - (n - 1))) (by omega)
  rw [show k - (n - 1) + (k - (k - (n - 1))) = k by omega] at h1
  exact h1
/-- the latest fresh vector is still among those that go through, for so long -/
def sq_Kf (st : SqS) : Prop := 0 < st.2 7 → st.2 1 - st.2 8 ≤ 2 * st.2 0 - 2 → ¬ st.1 5 (st.2 1 - st.2 8) = -1
theorem sq_Kf_run {st : SqS} (hok : sq_ok st) (hK : sq_Kf st) : sq_Kf (sq_run st) := by
  obtain ⟨⟨o1, o2⟩, o3, ⟨o4, o5⟩, o6, ⟨o7, o8, o9⟩, o10, -⟩ := id hok
  unfold sq_Kf
  rw [sq_run_1, sq_run_f0, sq_run_a5]
  show 0 < (sq_l2 (sq_e2 (sq_p1 st))).2 7 → st.2 1 + 1 - (sq_l2 (sq_e2 (sq_p1 st))).2 8 ≤ _ → ¬ sq_ago2 st (st.2 1 + 1 - (sq_l2 (sq_e2 (sq_p1 st))).2 8) = -1
  rw [sq_l2_f7, sq_l2_f8]
  have hold : 0 < st.2 7 → st.2 1 + 1 - st.2 8 ≤ 2 * st.2 0 - 2 → ¬ sq_ago2 st (st.2 1 + 1 - st.2 8) = -1 := by
    intro h1 h2
    rw [sq_ago2_s st (by omega) (by omega), show st.2 1 + 1 - st.2 8 - 1 = st.2 1 - st.2 8 by omega]
    exact hK h1 (by omega)
  by_cases hc : sq_cV (sq_p1 st) = true
  · have e2 : sq_e2 (sq_p1 st) = sq_en (sq_p1 st) := by unfold sq_e2; rw [if_pos hc]
    rw [e2]
    show 0 < (if st.1 3 (st.2 6) = 0 then st.2 7 else st.2 7 + 1) → st.2 1 + 1 - (if st.1 3 (st.2 6) = 0 then st.2 8 else st.2 1 + 1) ≤ _ → ¬ sq_ago2 st (st.2 1 + 1 - (if st.1 3 (st.2 6) = 0 then st.2 8 else st.2 1 + 1)) = -1
    by_cases hf : st.1 3 (st.2 6) = 0
    · rw [if_pos hf, if_pos hf]; exact hold
    · rw [if_neg hf, if_neg hf]
      intro _ _
      rw [Nat.sub_self, sq_ago2_0, if_pos hc]
      exact sq_m1_ne (by omega)
  · have e2 : sq_e2 (sq_p1 st) = sq_p1 st := by unfold sq_e2; rw [if_neg hc]
    rw [e2]
    exact hold
