theorem sq_ml_a0 (s : SqS) : (sq_ml s).1 0 = s.1 0 := by unfold sq_ml; split <;> rfl
theorem sq_me_a0 (s : SqS) : (sq_me s).1 0 = s.1 0 := by unfold sq_me; split <;> rfl
theorem sq_ml_a1 (s : SqS) : (sq_ml s).1 1 = s.1 1 := by unfold sq_ml; split <;> rfl
theorem sq_me_a1 (s : SqS) : (sq_me s).1 1 = s.1 1 := by unfold sq_me; split <;> rfl
theorem sq_ml_a2 (s : SqS) : (sq_ml s).1 2 = s.1 2 := by unfold sq_ml; split <;> rfl
theorem sq_me_a2 (s : SqS) : (sq_me s).1 2 = s.1 2 := by unfold sq_me; split <;> rfl
theorem sq_ml_a3 (s : SqS) : (sq_ml s).1 3 = s.1 3 := by unfold sq_ml; split <;> rfl
theorem sq_ml_a4 (s : SqS) : (sq_ml s).1 4 = s.1 4 := by unfold sq_ml; split <;> rfl
theorem sq_me_a4 (s : SqS) : (sq_me s).1 4 = s.1 4 := by unfold sq_me; split <;> rfl
theorem sq_ml_a5 (s : SqS) : (sq_ml s).1 5 = s.1 5 := by unfold sq_ml; split <;> rfl
theorem sq_ml_a6 (s : SqS) : (sq_ml s).1 6 = s.1 6 := by unfold sq_ml; split <;> rfl
theorem sq_me_a6 (s : SqS) : (sq_me s).1 6 = s.1 6 := by unfold sq_me; split <;> rfl
theorem sq_ml_a7 (s : SqS) : (sq_ml s).1 7 = s.1 7 := by unfold sq_ml; split <;> rfl
theorem sq_me_a7 (s : SqS) : (sq_me s).1 7 = s.1 7 := by unfold sq_me; split <;> rfl
theorem sq_ml_a8 (s : SqS) : (sq_ml s).1 8 = s.1 8 := by unfold sq_ml; split <;> rfl
theorem sq_me_a8 (s : SqS) : (sq_me s).1 8 = s.1 8 := by unfold sq_me; split <;> rfl
theorem sq_me_a9 (s : SqS) : (sq_me s).1 9 = s.1 9 := by unfold sq_me; split <;> rfl
theorem sq_ml_a10 (s : SqS) : (sq_ml s).1 10 = s.1 10 := by unfold sq_ml; split <;> rfl
theorem sq_me_a10 (s : SqS) : (sq_me s).1 10 = s.1 10 := by unfold sq_me; split <;> rfl
theorem sq_ml_a11 (s : SqS) : (sq_ml s).1 11 = s.1 11 := by unfold sq_ml; split <;> rfl
theorem sq_me_a11 (s : SqS) : (sq_me s).1 11 = s.1 11 := by unfold sq_me; split <;> rfl
theorem sq_ml_f0 (s : SqS) : (sq_ml s).2 0 = s.2 0 := by unfold sq_ml; split <;> rfl
theorem sq_me_f0 (s : SqS) : (sq_me s).2 0 = s.2 0 := by unfold sq_me; split <;> rfl
theorem sq_ml_f1 (s : SqS) : (sq_ml s).2 1 = s.2 1 := by unfold sq_ml; split <;> rfl
theorem sq_me_f1 (s : SqS) : (sq_me s).2 1 = s.2 1 := by unfold sq_me; split <;> rfl
theorem sq_ml_f3 (s : SqS) : (sq_ml s).2 3 = s.2 3 := by unfold sq_ml; split <;> rfl
theorem sq_me_f3 (s : SqS) : (sq_me s).2 3 = s.2 3 := by unfold sq_me; split <;> rfl
theorem sq_me_f4 (s : SqS) : (sq_me s).2 4 = s.2 4 := by unfold sq_me; split <;> rfl
theorem sq_me_f5 (s : SqS) : (sq_me s).2 5 = s.2 5 := by unfold sq_me; split <;> rfl
theorem sq_ml_f7 (s : SqS) : (sq_ml s).2 7 = s.2 7 := by unfold sq_ml; split <;> rfl
theorem sq_me_f7 (s : SqS) : (sq_me s).2 7 = s.2 7 := by unfold sq_me; split <;> rfl
theorem sq_ml_f8 (s : SqS) : (sq_ml s).2 8 = s.2 8 := by unfold sq_ml; split <;> rfl
theorem sq_ml_f9 (s : SqS) : (sq_ml s).2 9 = s.2 9 := by unfold sq_ml; split <;> rfl
theorem sq_ml_f10 (s : SqS) : (sq_ml s).2 10 = s.2 10 := by unfold sq_ml; split <;> rfl
/-- numbers, rows, vectors: class beside reference -/
def sq_RA (st ms : SqS) : Prop :=
  (ms.2 1 = st.2 0 ∧ ms.2 2 = st.2 1 ∧ ms.2 3 = st.2 2 ∧ ms.2 4 = st.2 3 ∧ ms.2 7 = st.2 5 ∧ ms.2 8 = st.2 6 ∧ ms.2 9 = st.2 7) ∧ (0 < st.2 7 → ms.2 10 = st.2 8) ∧
  ((ms.2 6 = 1 ∧ st.2 4 = st.2 0 ∧ ms.2 5 = 0) ∨ (ms.2 6 = 0 ∧ st.2 4 < st.2 0 ∧ ms.2 5 = st.2 4)) ∧
  (∀ j, j < st.2 2 * 6 → ms.1 0 j = st.1 0 j) ∧ (∀ j, j < st.2 5 * 6 → ms.1 1 j = st.1 1 j) ∧ (∀ v, v < st.2 5 → ms.1 2 v = st.1 3 v) ∧ (∀ v, v < st.2 5 → ms.1 3 v = if v < st.2 6 then st.1 4 v else -1)
def sq_RB (n : Nat) (x y : Nat → Int32) : Prop := ∀ k, k ≤ 2 * n - 2 → x k = y k
def sq_RN (n : Nat) (x y : Nat → Int32) : Prop := ∀ r c, r < n → c < n → x (r * 6 + c) = y (r * 6 + c)
theorem sq_RA_1 {st ms : SqS} (h : sq_RA st ms) : sq_RA (sq_p1 st) (sq_m1 ms) := by
  obtain ⟨⟨h1, h2, h3, h4, h5, h6, h7⟩, h8, h9, h10, h11, h12, h13⟩ := h
  exact ⟨⟨h1, congrArg (· + 1) h2, h3, h4, h5, h6, h7⟩, h8, h9, h10, h11, h12, h13⟩
theorem sq_RA_cV {st ms : SqS} (h : sq_RA st ms) : sq_mcV ms = sq_cV st := by
  obtain ⟨⟨h1, h2, h3, h4, h5, h6, h7⟩, h8, h9, h10, h11, h12, h13⟩ := h
  unfold sq_mcV sq_cV
  rw [decide_eq_decide, h5, h6]
  refine and_congr_right (fun hlt => ?_)
  rw [h12 _ hlt]
  refine or_congr Iff.rfl ?_
  rcases h9 with ⟨e1, e2, -⟩ | ⟨e1, e2, -⟩
  · omega
  · omega
theorem sq_RA_cR {st ms : SqS} (h : sq_RA st ms) : sq_mcR ms = sq_cR st (st.2 1) := by
  obtain ⟨⟨h1, h2, h3, h4, h5, h6, h7⟩, h8, h9, h10, h11, h12, h13⟩ := h
  unfold sq_mcR sq_cR
  rw [decide_eq_decide, h3, h4, h1, h2, h7]
  refine and_congr_right (fun hlt => ?_)
  have e : ms.2 6 = 0 ↔ ¬ st.2 4 = st.2 0 := by
    rcases h9 with ⟨e1, e2, -⟩ | ⟨e1, e2, -⟩ <;> omega
  rw [e]
  refine and_congr_right (fun _ => ?_)
  by_cases h0 : st.2 7 = 0
  · simp [h0]
  · rw [h8 (by omega)]
theorem sq_RA_e {st ms : SqS} (h : sq_RA st ms) (hok : sq_ok st) : sq_RA (sq_e2 st) (sq_me ms) := by
  have hc := sq_RA_cV h
  unfold sq_e2 sq_me
  rw [hc]
  obtain ⟨⟨h1, h2, h3, h4, h5, h6, h7⟩, h8, h9, h10, h11, h12, h13⟩ := h
  by_cases c : sq_cV st = true
  · rw [if_pos c, if_pos c]
    have hlt := (of_decide_eq_true c).1
    have hf : ms.1 2 (ms.2 8) = st.1 3 (st.2 6) := by rw [h6]; exact h12 _ hlt
    refine ⟨⟨h1, h2, h3, h4, h5, ?_, ?_⟩, ?_, ?_, h10, h11, h12, ?_⟩
    · show ms.2 8 + 1 = st.2 6 + 1; rw [h6]
    · show (if ms.1 2 (ms.2 8) = 0 then ms.2 9 else ms.2 9 + 1) = (if st.1 3 (st.2 6) = 0 then st.2 7 else st.2 7 + 1)
      rw [hf, h7]
    · show 0 < (if st.1 3 (st.2 6) = 0 then st.2 7 else st.2 7 + 1) → (if ms.1 2 (ms.2 8) = 0 then ms.2 10 else ms.2 2) = (if st.1 3 (st.2 6) = 0 then st.2 8 else st.2 1)
      rw [hf, h2]
      by_cases z : st.1 3 (st.2 6) = 0
      · rw [if_pos z, if_pos z, if_pos z]; exact h8
      · rw [if_neg z, if_neg z, if_neg z]; intro _; rfl
    · show ((if ms.1 2 (ms.2 8) = 0 then ms.2 6 else 0) = 1 ∧ (if st.1 3 (st.2 6) = 0 then st.2 4 else 0) = st.2 0 ∧ ms.2 5 = 0) ∨ ((if ms.1 2 (ms.2 8) = 0 then ms.2 6 else 0) = 0 ∧ (if st.1 3 (st.2 6) = 0 then st.2 4 else 0) < st.2 0 ∧ ms.2 5 = (if st.1 3 (st.2 6) = 0 then st.2 4 else 0))
      rw [hf]
      by_cases z : st.1 3 (st.2 6) = 0
      · rw [if_pos z, if_pos z]; exact h9
      · rw [if_neg z, if_neg z]
        right
        have h0 := hok.1.1
        have hcc := (of_decide_eq_true c).2.resolve_left z
        refine ⟨rfl, h0, ?_⟩
        rcases h9 with ⟨-, -, e⟩ | ⟨-, e, -⟩
        · exact e
        · omega
    · intro v hv
      show upd (ms.1 3) (ms.2 8) (nI (ms.2 2)) v = if v < st.2 6 + 1 then upd (st.1 4) (st.2 6) (nI (st.2 1)) v else -1
      rw [h6, h2]
      by_cases z : v = st.2 6
      · rw [z, pk_us, pk_us, if_pos (Nat.lt_succ_self _)]
      · rw [pk_un z, pk_un z, h13 v hv]
        by_cases y : v < st.2 6
        · rw [if_pos y, if_pos (by omega)]
        · rw [if_neg y, if_neg (by omega)]
  · rw [if_neg c, if_neg c]
    exact ⟨⟨h1, h2, h3, h4, h5, h6, h7⟩, h8, h9, h10, h11, h12, h13⟩
theorem sq_RA_l {st ms : SqS} (h : sq_RA st ms) : sq_RA (sq_l2 st) (sq_ml ms) := by
  have hc := sq_RA_cR h
  unfold sq_l2 sq_ml
  rw [hc]
  obtain ⟨⟨h1, h2, h3, h4, h5, h6, h7⟩, h8, h9, h10, h11, h12, h13⟩ := h
  by_cases c : sq_cR st (st.2 1) = true
  · rw [if_pos c, if_pos c]
    have hcc := of_decide_eq_true c
    refine ⟨⟨h1, h2, h3, congrArg (· + 1) h4, h5, h6, h7⟩, h8, ?_, h10, h11, h12, h13⟩
    show ((if ms.2 5 + 1 = ms.2 1 then 1 else ms.2 6) = 1 ∧ st.2 4 + 1 = st.2 0 ∧ (if ms.2 5 + 1 = ms.2 1 then 0 else ms.2 5 + 1) = 0) ∨ ((if ms.2 5 + 1 = ms.2 1 then 1 else ms.2 6) = 0 ∧ st.2 4 + 1 < st.2 0 ∧ (if ms.2 5 + 1 = ms.2 1 then 0 else ms.2 5 + 1) = st.2 4 + 1)
    rcases h9 with ⟨e1, e2, -⟩ | ⟨e1, e2, e3⟩
    · exact absurd e2 hcc.2.1
    · rw [e3, h1, e1]
      by_cases z : st.2 4 + 1 = st.2 0
      · rw [if_pos z, if_pos z]; exact Or.inl ⟨rfl, z, rfl⟩
      · rw [if_neg z, if_neg z]; exact Or.inr ⟨rfl, by omega, rfl⟩
  · rw [if_neg c, if_neg c]
    exact ⟨⟨h1, h2, h3, h4, h5, h6, h7⟩, h8, h9, h10, h11, h12, h13⟩
theorem sq_RA_run {st ms : SqS} (h : sq_RA st ms) (hok : sq_ok st) (ht : st.2 1 < 100000) : sq_RA (sq_run st) (sq_mrun ms) := sq_RA_l (sq_RA_e (sq_RA_1 h) (sq_ok_p1 hok ht))
/-- the reference's vectors by age, behind the entering of a cycle -/
def sq_mag2 (ms : SqS) : Nat → Int32 := sq_mago (ms.2 2 + 1) ((sq_me (sq_m1 ms)).1 5)
theorem sq_mag2_s (ms : SqS) {k : Nat} (h0 : 0 < k) (h1 : k ≤ 10) : sq_mag2 ms k = sq_mago (ms.2 2) (ms.1 5) (k - 1) := by
  have e : ∀ i, i ≠ (ms.2 2 + 1) % 16 → (sq_me (sq_m1 ms)).1 5 i = ms.1 5 i := by
    intro i hi
    unfold sq_me
    split
    · show upd (upd (ms.1 5) ((ms.2 2 + 1) % 16) (-1)) ((ms.2 2 + 1) % 16) (nI (ms.2 8)) i = ms.1 5 i
      rw [pk_un hi, pk_un hi]
    · show upd (ms.1 5) ((ms.2 2 + 1) % 16) (-1) i = ms.1 5 i
      rw [pk_un hi]
  unfold sq_mag2 sq_mago
  by_cases z : k < ms.2 2 + 1
  · rw [if_pos z, if_pos (by omega), e _ (by omega), show ms.2 2 + 1 - k = ms.2 2 - (k - 1) by omega]
  · rw [if_neg z, if_neg (by omega)]
theorem sq_mag2_0 (ms : SqS) : sq_mag2 ms 0 = if sq_mcV (sq_m1 ms) = true then nI (ms.2 8) else -1 := by
  unfold sq_mag2 sq_mago
  rw [if_pos (Nat.succ_pos _), Nat.sub_zero]
  unfold sq_me
  split
  · show upd (upd (ms.1 5) ((ms.2 2 + 1) % 16) (-1)) ((ms.2 2 + 1) % 16) (nI (ms.2 8)) ((ms.2 2 + 1) % 16) = nI (ms.2 8)
    exact pk_us
  · show upd (ms.1 5) ((ms.2 2 + 1) % 16) (-1) ((ms.2 2 + 1) % 16) = -1
    exact pk_us
theorem sq_mrun_mago (ms : SqS) : sq_mago ((sq_mrun ms).2 2) ((sq_mrun ms).1 5) = sq_mag2 ms := by
  show sq_mago ((sq_ml (sq_me (sq_m1 ms))).2 2) ((sq_ml (sq_me (sq_m1 ms))).1 5) = sq_mag2 ms
  rw [sq_ml_2, sq_me_2, sq_ml_a5]
  rfl
theorem sq_RB_run {st ms : SqS} (h : sq_RA st ms) (hB : sq_RB (st.2 0) (sq_mago (ms.2 2) (ms.1 5)) (st.1 5)) (hn : st.2 0 ≤ 6) : sq_RB (st.2 0) (sq_mag2 ms) (sq_ago2 st) := by
  intro k hk
  rcases Nat.eq_zero_or_pos k with z | z
  · rw [z, sq_mag2_0, sq_ago2_0, sq_RA_cV (sq_RA_1 h)]
    obtain ⟨⟨-, -, -, -, -, h6, -⟩, -⟩ := h
    rw [h6]
  · rw [sq_mag2_s ms z (by omega), sq_ago2_s st z (by omega)]
    exact hB (k - 1) (by omega)
theorem sq_RN_run {st ms : SqS} (h : sq_RA st ms) (hN : sq_RN (st.2 0) (ms.1 9) (st.1 9)) (hok : sq_ok st) (ht : st.2 1 < 100000) : sq_RN (st.2 0) ((sq_mrun ms).1 9) (sq_nx2 st) := by
  have hA := sq_RA_e (sq_RA_1 h) (sq_ok_p1 hok ht)
  have hn := hok.1.2
  intro r c hr hc
  show (sq_ml (sq_me (sq_m1 ms))).1 9 (r * 6 + c) = (sq_l2 (sq_e2 (sq_p1 st))).1 9 (r * 6 + c)
  have e1 : (sq_me (sq_m1 ms)).1 9 = ms.1 9 := sq_me_a9 _
  have e2 : (sq_e2 (sq_p1 st)).1 9 = st.1 9 := sq_e2_a9 _
  have e3 : (sq_e2 (sq_p1 st)).2 0 = st.2 0 := sq_e2_f0 _
  have hc2 := sq_RA_cR hA
  obtain ⟨⟨g1, g2, g3, g4, g5, g6, g7⟩, g8, g9, g10, -⟩ := hA
  generalize sq_me (sq_m1 ms) = m2 at *
  generalize sq_e2 (sq_p1 st) = s2 at *
  unfold sq_ml sq_l2
  rw [hc2]
  by_cases z : sq_cR s2 (s2.2 1) = true
  · rw [if_pos z, if_pos z]
    have hz := (of_decide_eq_true z).1
    show sq_G (sq_dR (m2.2 1)) (fun j => m2.1 0 (m2.2 4 * 6 + j)) (sq_G (sq_dL (m2.2 1) 0 0) (sq_dn6 (m2.1 9)) (m2.1 9)) (r * 6 + c) = sq_G (sq_dR (s2.2 0)) (fun j => s2.1 0 (s2.2 3 * 6 + j)) (sq_G (sq_dL (s2.2 0) 0 0) (sq_dn6 (s2.1 9)) (s2.1 9)) (r * 6 + c)
    rw [g1, g4, e1, e2]
    by_cases y : sq_dR (s2.2 0) (r * 6 + c) = true
    · rw [sq_G_new y, sq_G_new y]
      exact g10 _ (by simp only [sq_dR, decide_eq_true_eq] at y; omega)
    · rw [sq_G_old y, sq_G_old y]
      by_cases x : sq_dL (s2.2 0) 0 0 (r * 6 + c) = true
      · rw [sq_G_new x, sq_G_new x]
        simp only [sq_dL, decide_eq_true_eq] at x
        have hr0 : 0 < r := by omega
        show ms.1 9 (r * 6 + c - 6) = st.1 9 (r * 6 + c - 6)
        rw [show r * 6 + c - 6 = (r - 1) * 6 + c by omega]
        exact hN (r - 1) c (by omega) hc
      · rw [sq_G_old x, sq_G_old x]
        exact hN r c hr hc
  · rw [if_neg z, if_neg z, e1, e2]
    exact hN r c hr hc
theorem sq_m3_ag (ms : SqS) : (sq_mago ((sq_ml (sq_me (sq_m1 ms))).2 2) ((sq_ml (sq_me (sq_m1 ms))).1 5)) = sq_mag2 ms := sq_mrun_mago ms
theorem sq_m3_n (ms : SqS) : (sq_ml (sq_me (sq_m1 ms))).2 1 = ms.2 1 := by rw [sq_ml_f1, sq_me_f1]; rfl
theorem sq_m3_in (ms : SqS) (hn : ms.2 1 ≤ 6) {r c : Nat} (hr : r < ms.2 1) (hc : c < ms.2 1) : (sq_dH ((sq_ml (sq_me (sq_m1 ms))).2 1) ((sq_ml (sq_me (sq_m1 ms))).2 1) ((sq_ml (sq_me (sq_m1 ms))).2 1)) (r * 6 + c) = true := by
  rw [sq_m3_n]; exact sq_dH_in hn hr hc
theorem sq_mrun_in (ms : SqS) (hn : ms.2 1 ≤ 6) {r c : Nat} (hr : r < ms.2 1) (hc : c < ms.2 1) : (sq_mrun ms).1 6 (r * 6 + c) = if c = 0 then sq_fedI (sq_mag2 ms) (ms.1 1) r else ms.1 6 (r * 6 + c - 1) := by
  show sq_G (sq_dH ((sq_ml (sq_me (sq_m1 ms))).2 1) ((sq_ml (sq_me (sq_m1 ms))).2 1) ((sq_ml (sq_me (sq_m1 ms))).2 1)) (sq_gI (sq_mago ((sq_ml (sq_me (sq_m1 ms))).2 2) ((sq_ml (sq_me (sq_m1 ms))).1 5)) ((sq_ml (sq_me (sq_m1 ms))).1 1) ((sq_ml (sq_me (sq_m1 ms))).1 6)) ((sq_ml (sq_me (sq_m1 ms))).1 6) (r * 6 + c) = _
  rw [sq_G_new (sq_m3_in ms hn hr hc), sq_m3_ag, sq_ml_a1, sq_me_a1, sq_ml_a6, sq_me_a6]
  unfold sq_gI sq_nIn
  rw [sq_mod (by omega), sq_div (by omega)]
  rfl
theorem sq_mrun_mk (ms : SqS) (hn : ms.2 1 ≤ 6) {r c : Nat} (hr : r < ms.2 1) (hc : c < ms.2 1) : (sq_mrun ms).1 10 (r * 6 + c) = if c = 0 then sq_fedM (sq_mag2 ms) (ms.1 2) r else ms.1 10 (r * 6 + c - 1) := by
  show sq_G (sq_dH ((sq_ml (sq_me (sq_m1 ms))).2 1) ((sq_ml (sq_me (sq_m1 ms))).2 1) ((sq_ml (sq_me (sq_m1 ms))).2 1)) (sq_gM (sq_mago ((sq_ml (sq_me (sq_m1 ms))).2 2) ((sq_ml (sq_me (sq_m1 ms))).1 5)) ((sq_ml (sq_me (sq_m1 ms))).1 2) ((sq_ml (sq_me (sq_m1 ms))).1 10)) ((sq_ml (sq_me (sq_m1 ms))).1 10) (r * 6 + c) = _
  rw [sq_G_new (sq_m3_in ms hn hr hc), sq_m3_ag, sq_ml_a2, sq_me_a2, sq_ml_a10, sq_me_a10]
  unfold sq_gM sq_nIn
  rw [sq_mod (by omega), sq_div (by omega)]
  rfl
theorem sq_mrun_re (ms : SqS) (hn : ms.2 1 ≤ 6) {r c : Nat} (hr : r < ms.2 1) (hc : c < ms.2 1) : (sq_mrun ms).1 11 (r * 6 + c) = if c = 0 then sq_mreal (sq_mag2 ms) r else ms.1 11 (r * 6 + c - 1) := by
  show sq_G (sq_dH ((sq_ml (sq_me (sq_m1 ms))).2 1) ((sq_ml (sq_me (sq_m1 ms))).2 1) ((sq_ml (sq_me (sq_m1 ms))).2 1)) (sq_nIn ((sq_ml (sq_me (sq_m1 ms))).1 11) (sq_mreal (sq_mago ((sq_ml (sq_me (sq_m1 ms))).2 2) ((sq_ml (sq_me (sq_m1 ms))).1 5)))) ((sq_ml (sq_me (sq_m1 ms))).1 11) (r * 6 + c) = _
  rw [sq_G_new (sq_m3_in ms hn hr hc), sq_m3_ag, sq_ml_a11, sq_me_a11]
  unfold sq_nIn
  rw [sq_mod (by omega), sq_div (by omega)]
  rfl
theorem sq_mrun_ro (ms : SqS) {j : Nat} (h : ¬ (j / 6 < ms.2 1 ∧ j % 6 < ms.2 1)) : (sq_mrun ms).1 11 j = ms.1 11 j := by
  show sq_G (sq_dH ((sq_ml (sq_me (sq_m1 ms))).2 1) ((sq_ml (sq_me (sq_m1 ms))).2 1) ((sq_ml (sq_me (sq_m1 ms))).2 1)) (sq_nIn ((sq_ml (sq_me (sq_m1 ms))).1 11) (sq_mreal (sq_mago ((sq_ml (sq_me (sq_m1 ms))).2 2) ((sq_ml (sq_me (sq_m1 ms))).1 5)))) ((sq_ml (sq_me (sq_m1 ms))).1 11) j = _
  rw [sq_G_old (by rw [sq_m3_n]; simp only [sq_dH, decide_eq_true_eq]; omega), sq_ml_a11, sq_me_a11]
  rfl
theorem sq_mrun_fa (ms : SqS) (hn : ms.2 1 ≤ 6) {r c : Nat} (hr : r < ms.2 1) (hc : c < ms.2 1) : (sq_mrun ms).1 8 (r * 6 + c) = if (sq_mrun ms).1 10 (r * 6 + c) = 0 then ms.1 8 (r * 6 + c) else (sq_mrun ms).1 9 (r * 6 + c) := by
  have em : (sq_mrun ms).1 10 (r * 6 + c) = (sq_gM (sq_mago ((sq_ml (sq_me (sq_m1 ms))).2 2) ((sq_ml (sq_me (sq_m1 ms))).1 5)) ((sq_ml (sq_me (sq_m1 ms))).1 2) ((sq_ml (sq_me (sq_m1 ms))).1 10)) (r * 6 + c) := by
    show sq_G (sq_dH ((sq_ml (sq_me (sq_m1 ms))).2 1) ((sq_ml (sq_me (sq_m1 ms))).2 1) ((sq_ml (sq_me (sq_m1 ms))).2 1)) (sq_gM (sq_mago ((sq_ml (sq_me (sq_m1 ms))).2 2) ((sq_ml (sq_me (sq_m1 ms))).1 5)) ((sq_ml (sq_me (sq_m1 ms))).1 2) ((sq_ml (sq_me (sq_m1 ms))).1 10)) ((sq_ml (sq_me (sq_m1 ms))).1 10) (r * 6 + c) = _
    exact sq_G_new (sq_m3_in ms hn hr hc)
  show sq_G (sq_dH ((sq_ml (sq_me (sq_m1 ms))).2 1) ((sq_ml (sq_me (sq_m1 ms))).2 1) ((sq_ml (sq_me (sq_m1 ms))).2 1)) (sq_gF (sq_mago ((sq_ml (sq_me (sq_m1 ms))).2 2) ((sq_ml (sq_me (sq_m1 ms))).1 5)) ((sq_ml (sq_me (sq_m1 ms))).1 2) ((sq_ml (sq_me (sq_m1 ms))).1 10) ((sq_ml (sq_me (sq_m1 ms))).1 8) ((sq_ml (sq_me (sq_m1 ms))).1 9)) ((sq_ml (sq_me (sq_m1 ms))).1 8) (r * 6 + c) = _
  rw [sq_G_new (sq_m3_in ms hn hr hc), em, sq_ml_a8, sq_me_a8]
  rfl
theorem sq_mrun_su (ms : SqS) (hn : ms.2 1 ≤ 6) {r c : Nat} (hr : r < ms.2 1) (hc : c < ms.2 1) : (sq_mrun ms).1 7 (r * 6 + c) = (if r = 0 then 0 else ms.1 7 (r * 6 + c - 6)) + (sq_mrun ms).1 8 (r * 6 + c) * (sq_mrun ms).1 6 (r * 6 + c) := by
  have e8 : (sq_mrun ms).1 8 (r * 6 + c) = (sq_gF (sq_mago ((sq_ml (sq_me (sq_m1 ms))).2 2) ((sq_ml (sq_me (sq_m1 ms))).1 5)) ((sq_ml (sq_me (sq_m1 ms))).1 2) ((sq_ml (sq_me (sq_m1 ms))).1 10) ((sq_ml (sq_me (sq_m1 ms))).1 8) ((sq_ml (sq_me (sq_m1 ms))).1 9)) (r * 6 + c) := by
    show sq_G (sq_dH ((sq_ml (sq_me (sq_m1 ms))).2 1) ((sq_ml (sq_me (sq_m1 ms))).2 1) ((sq_ml (sq_me (sq_m1 ms))).2 1)) (sq_gF (sq_mago ((sq_ml (sq_me (sq_m1 ms))).2 2) ((sq_ml (sq_me (sq_m1 ms))).1 5)) ((sq_ml (sq_me (sq_m1 ms))).1 2) ((sq_ml (sq_me (sq_m1 ms))).1 10) ((sq_ml (sq_me (sq_m1 ms))).1 8) ((sq_ml (sq_me (sq_m1 ms))).1 9)) ((sq_ml (sq_me (sq_m1 ms))).1 8) (r * 6 + c) = _
    exact sq_G_new (sq_m3_in ms hn hr hc)
  have e6 : (sq_mrun ms).1 6 (r * 6 + c) = (sq_gI (sq_mago ((sq_ml (sq_me (sq_m1 ms))).2 2) ((sq_ml (sq_me (sq_m1 ms))).1 5)) ((sq_ml (sq_me (sq_m1 ms))).1 1) ((sq_ml (sq_me (sq_m1 ms))).1 6)) (r * 6 + c) := by
    show sq_G (sq_dH ((sq_ml (sq_me (sq_m1 ms))).2 1) ((sq_ml (sq_me (sq_m1 ms))).2 1) ((sq_ml (sq_me (sq_m1 ms))).2 1)) (sq_gI (sq_mago ((sq_ml (sq_me (sq_m1 ms))).2 2) ((sq_ml (sq_me (sq_m1 ms))).1 5)) ((sq_ml (sq_me (sq_m1 ms))).1 1) ((sq_ml (sq_me (sq_m1 ms))).1 6)) ((sq_ml (sq_me (sq_m1 ms))).1 6) (r * 6 + c) = _
    exact sq_G_new (sq_m3_in ms hn hr hc)
  rw [e8, e6]
  show sq_G (sq_dH ((sq_ml (sq_me (sq_m1 ms))).2 1) ((sq_ml (sq_me (sq_m1 ms))).2 1) ((sq_ml (sq_me (sq_m1 ms))).2 1)) (sq_gS (sq_mago ((sq_ml (sq_me (sq_m1 ms))).2 2) ((sq_ml (sq_me (sq_m1 ms))).1 5)) ((sq_ml (sq_me (sq_m1 ms))).1 1) ((sq_ml (sq_me (sq_m1 ms))).1 2) ((sq_ml (sq_me (sq_m1 ms))).1 6) ((sq_ml (sq_me (sq_m1 ms))).1 10) ((sq_ml (sq_me (sq_m1 ms))).1 8) ((sq_ml (sq_me (sq_m1 ms))).1 9) ((sq_ml (sq_me (sq_m1 ms))).1 7)) ((sq_ml (sq_me (sq_m1 ms))).1 7) (r * 6 + c) = _
  rw [sq_G_new (sq_m3_in ms hn hr hc)]
  unfold sq_gS sq_nSu
  rw [sq_div (by omega), sq_ml_a7, sq_me_a7]
  rfl
