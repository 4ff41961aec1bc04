/-! call by call: which throw, what answer, which states behind -/
def sq_nB (st : SqS) (x : Int32) : SqS := if sq_kB x = 0 then sq_clr st (sq_vec x) else st
def sq_nW (st : SqS) (x1 x2 x3 x4 x5 x6 : Int32) : SqS := if sq_kW st = 0 then sq_wgt st x1 x2 x3 x4 x5 x6 else st
def sq_nV (st : SqS) (b x1 x2 x3 x4 x5 x6 : Int32) : SqS := if sq_kV st = 0 then sq_vct st b x1 x2 x3 x4 x5 x6 else st
def sq_nC (st : SqS) (x : Int32) : SqS := if sq_kC st x = 0 then sq_cyc st (sq_vec x) else st
theorem sq_nle {x y : Int32} : ¬ x ≤ y ↔ y < x := by
  rw [Int32.le_iff_toInt_le, Int32.lt_iff_toInt_lt]; omega
theorem sq_q_B {st ms : SqS} (h : sq_Inv st ms) (x : Int32) : sq_mkB x = sq_kB x ∧ (sq_mB ms x).2 0 = sq_kB x ∧ sq_Inv (sq_nB st x) (sq_mB ms x) := by
  have e : sq_mkB x = sq_kB x := by
    unfold sq_mkB sq_kB
    by_cases z : x < nI 1 ∨ ¬ x ≤ nI 6
    · rw [if_pos z, decide_eq_false (fun q => z.elim q.1 (fun y => q.2 (sq_nle.mp y)))]; rfl
    · rw [if_neg z, decide_eq_true ⟨fun q => z (Or.inl q), fun q => z (Or.inr (sq_nle.mpr q))⟩]; rfl
  refine ⟨e, ?_, ?_⟩
  · unfold sq_mB
    rw [e]
    by_cases z : sq_kB x = 0
    · rw [if_pos z, z]; rfl
    · rw [if_neg z]; rfl
  · unfold sq_nB sq_mB
    rw [e]
    by_cases z : sq_kB x = 0
    · rw [if_pos z, if_pos z]
      have hz : ¬ (x < nI 1 ∨ ¬ x ≤ nI 6) := fun q => by unfold sq_kB at z; rw [if_pos q] at z; exact absurd z (by decide)
      have hn : 1 ≤ sq_vec x ∧ sq_vec x ≤ 6 := by
        obtain ⟨n, hn, rfl⟩ := nI_of (x := x) (fun q => hz (Or.inl (by rw [Int32.lt_iff_toInt_lt] at q ⊢; rw [nI_toInt (by decide)]; rw [Int32.toInt_zero] at q; omega)))
        rw [sq_vec_nI hn]
        constructor
        · rcases Nat.lt_or_ge n 1 with q | q
          · exact absurd (Or.inl ((nI_ltI hn (by decide)).mpr q)) hz
          · exact q
        · rcases Nat.lt_or_ge 6 n with q | q
          · exact absurd (Or.inr (fun y => by have := (nI_leI hn (by decide)).mp y; omega)) hz
          · exact q
      obtain ⟨hok, hmok, -⟩ := h
      obtain ⟨-, -, -, -, -, -, -, h8, h9, -⟩ := hok
      obtain ⟨-, -, -, -, -, -, -, g8, g9, g10, -⟩ := hmok
      exact sq_Inv_clr hn h8 h9 g8 g9 g10
    · rw [if_neg z, if_neg z]; exact h
theorem sq_q_W {st ms : SqS} (h : sq_Inv st ms) (x1 x2 x3 x4 x5 x6 : Int32) : (sq_mW ms x1 x2 x3 x4 x5 x6).2 0 = sq_kW st ∧ (sq_kW st = 0 → sq_mrW ms = nI (st.2 2)) ∧ sq_Inv (sq_nW st x1 x2 x3 x4 x5 x6) (sq_mW ms x1 x2 x3 x4 x5 x6) := by
  have e3 : ms.2 3 = st.2 2 := h.2.2.2.2.2.1.1.2.2.1
  have e : sq_mkW ms = sq_kW st := by
    have h2 := h.1.2.2.1.1
    unfold sq_mkW sq_kW
    rw [e3]
    by_cases z : st.2 2 < 120
    · rw [if_pos z, decide_eq_false (by omega)]; rfl
    · rw [if_neg z, decide_eq_true (by omega)]; rfl
  refine ⟨?_, ?_, ?_⟩
  · unfold sq_mW
    rw [e]
    by_cases z : sq_kW st = 0
    · rw [if_pos z, z]; rfl
    · rw [if_neg z]; rfl
  · intro z
    unfold sq_mrW
    rw [e, if_pos z, e3]
  · unfold sq_nW sq_mW
    rw [e]
    by_cases z : sq_kW st = 0
    · rw [if_pos z, if_pos z]
      refine sq_Inv_wgt (sq_Inv_mt h 0) ?_ x1 x2 x3 x4 x5 x6
      rcases Nat.lt_or_ge (st.2 2) 120 with q | q
      · exact q
      · unfold sq_kW at z; rw [if_neg (by omega)] at z; exact absurd z (by decide)
    · rw [if_neg z, if_neg z]; exact h
theorem sq_q_V {st ms : SqS} (h : sq_Inv st ms) (b x1 x2 x3 x4 x5 x6 : Int32) (hb : b = 0 ∨ b = 1) : (sq_mV ms b x1 x2 x3 x4 x5 x6).2 0 = sq_kV st ∧ (sq_kV st = 0 → sq_mrV ms = nI (st.2 5)) ∧ sq_Inv (sq_nV st b x1 x2 x3 x4 x5 x6) (sq_mV ms b x1 x2 x3 x4 x5 x6) := by
  have e3 : ms.2 7 = st.2 5 := h.2.2.2.2.2.1.1.2.2.2.2.1
  have e : sq_mkV ms = sq_kV st := by
    have h2 := h.1.2.2.2.2.1.1
    unfold sq_mkV sq_kV
    rw [e3]
    by_cases z : st.2 5 < 200
    · rw [if_pos z, decide_eq_false (by omega)]; rfl
    · rw [if_neg z, decide_eq_true (by omega)]; rfl
  refine ⟨?_, ?_, ?_⟩
  · unfold sq_mV
    rw [e]
    by_cases z : sq_kV st = 0
    · rw [if_pos z, z]; rfl
    · rw [if_neg z]; rfl
  · intro z
    unfold sq_mrV
    rw [e, if_pos z, e3]
  · unfold sq_nV sq_mV
    rw [e]
    by_cases z : sq_kV st = 0
    · rw [if_pos z, if_pos z]
      refine sq_Inv_vct (sq_Inv_mt h 0) ?_ b x1 x2 x3 x4 x5 x6 hb
      rcases Nat.lt_or_ge (st.2 5) 200 with q | q
      · exact q
      · unfold sq_kV at z; rw [if_neg (by omega)] at z; exact absurd z (by decide)
    · rw [if_neg z, if_neg z]; exact h
theorem sq_mloop_0 : ∀ (n : Nat) (ms : SqS), (sq_mloop n ms).2 0 = ms.2 0
  | 0, _ => rfl
  | n + 1, ms => by
    show (sq_mloop n (sq_mrun ms)).2 0 = ms.2 0
    rw [sq_mloop_0 n]
    show (sq_ml (sq_me (sq_m1 ms))).2 0 = ms.2 0
    rw [sq_ml_f0, sq_me_f0]; rfl
theorem sq_q_C {st ms : SqS} (h : sq_Inv st ms) (x : Int32) : (sq_mC ms x).2 0 = sq_kC st x ∧ (sq_kC st x = 0 → sq_mrC ms x = nI (st.2 1 + sq_vec x)) ∧ sq_Inv (sq_nC st x) (sq_mC ms x) := by
  have e2 : ms.2 2 = st.2 1 := h.2.2.2.2.2.1.1.2.1
  have e : sq_mkC ms x = sq_kC st x := by
    unfold sq_mkC sq_kC
    rw [e2]
    by_cases z : x < 0 ∨ ¬ sq_vec x ≤ 100000 - st.2 1
    · rw [if_pos z, decide_eq_true z]; rfl
    · rw [if_neg z, decide_eq_false z]; rfl
  refine ⟨?_, ?_, ?_⟩
  · unfold sq_mC
    rw [e]
    by_cases z : sq_kC st x = 0
    · rw [if_pos z, z, sq_mloop_0]; rfl
    · rw [if_neg z]; rfl
  · intro z
    unfold sq_mrC
    rw [e, if_pos z, e2]
  · unfold sq_nC sq_mC
    rw [e]
    by_cases z : sq_kC st x = 0
    · rw [if_pos z, if_pos z]
      have hz : ¬ (x < 0 ∨ ¬ sq_vec x ≤ 100000 - st.2 1) := fun q => by unfold sq_kC at z; rw [if_pos q] at z; exact absurd z (by decide)
      have h3 := h.1.2.1
      have h4 : sq_vec x ≤ 100000 - st.2 1 := Decidable.byContradiction (fun q => hz (Or.inr q))
      exact sq_Inv_cyc (sq_vec x) (sq_Inv_mt h 0) (by omega)
    · rw [if_neg z, if_neg z]; exact h
theorem sq_w0 {w : Int32} {k : Nat} : (¬ w < nI 0 ∧ ¬ nI k < w) ↔ ¬ (w < 0 ∨ nI k < w) := by
  rw [nI_0]
  exact ⟨fun h q => q.elim h.1 h.2, fun h => ⟨fun q => h (Or.inl q), fun q => h (Or.inr q)⟩⟩
theorem sq_q_L {st ms : SqS} (h : sq_Inv st ms) (x y w : Int32) : sq_mkL ms x y w = sq_kL st x y w ∧ (sq_kL st x y w = 0 → sq_mrL ms x y w = sq_rL st x y w) := by
  have e1 : ms.2 1 = st.2 0 := h.2.2.2.2.2.1.1.1
  have hn := h.1.1
  have hin : (sq_mi (ms.2 1) x ∧ sq_mi (ms.2 1) y) ↔ (sq_in (st.2 0) x ∧ sq_in (st.2 0) y) := by
    rw [e1]; exact and_congr (sq_mi_iff (by omega)) (sq_mi_iff (by omega))
  have e : sq_mkL ms x y w = sq_kL st x y w := by
    unfold sq_mkL sq_kL
    by_cases z : sq_in (st.2 0) x ∧ sq_in (st.2 0) y
    · have z1 : ¬ ¬ (sq_mi (ms.2 1) x ∧ sq_mi (ms.2 1) y) := fun q => q (hin.mpr z)
      have z2 : ¬ ¬ (sq_in (st.2 0) x ∧ sq_in (st.2 0) y) := fun q => q z
      rw [if_neg z1, if_neg z2]
      by_cases u : w < 0 ∨ nI 4 < w
      · rw [if_pos u, if_neg (fun q => sq_w0.mp q u)]
      · rw [if_neg u, if_pos (sq_w0.mpr u)]
    · rw [if_pos (fun q => z (hin.mp q)), if_pos z]
  refine ⟨e, fun z => ?_⟩
  have hz : sq_in (st.2 0) x ∧ sq_in (st.2 0) y := Decidable.byContradiction (fun q => by unfold sq_kL at z; rw [if_pos q] at z; exact absurd z (by decide))
  obtain ⟨j, hj, rfl⟩ := sq_in_of hz.1 (by omega)
  obtain ⟨i, hi, rfl⟩ := sq_in_of hz.2 (by omega)
  unfold sq_mrL sq_rL
  rw [e, if_pos z, sq_vec_nI (by omega), sq_vec_nI (by omega)]
  obtain ⟨-, -, -, -, -, -, -, hN, ⟨hI, hS, hW, hM⟩, -⟩ := h
  rw [hI j i hj hi, hS j i hj hi, hW j i hj hi, hM j i hj hi, hN j i hj hi]
theorem sq_q_E {st ms : SqS} (h : sq_Inv st ms) (v : Int32) : sq_mkE ms v = sq_kE st v ∧ (sq_kE st v = 0 → sq_mrE ms v = sq_rE st v) := by
  have e1 : ms.2 7 = st.2 5 := h.2.2.2.2.2.1.1.2.2.2.2.1
  have hn := h.1.2.2.2.2.1
  have hin : sq_mi (ms.2 7) v ↔ sq_in (st.2 5) v := by rw [e1]; exact sq_mi_iff (by omega)
  have e : sq_mkE ms v = sq_kE st v := by
    unfold sq_mkE sq_kE
    by_cases z : sq_in (st.2 5) v
    · rw [if_pos (hin.mpr z), if_pos z]
    · rw [if_neg (fun q => z (hin.mp q)), if_neg z]
  refine ⟨e, fun z => ?_⟩
  have hz : sq_in (st.2 5) v := Decidable.byContradiction (fun q => by unfold sq_kE at z; rw [if_neg q] at z; exact absurd z (by decide))
  obtain ⟨j, hj, rfl⟩ := sq_in_of hz (by omega)
  unfold sq_mrE sq_rE
  rw [e, if_pos z, sq_vec_nI (by omega)]
  obtain ⟨-, -, -, -, -, hA, -⟩ := h
  obtain ⟨-, -, -, -, -, -, h13⟩ := hA
  exact h13 j hj
theorem sq_q_R {st ms : SqS} (h : sq_Inv st ms) (v w : Int32) : sq_mkR ms v w = sq_kR st v w ∧ (sq_kR st v w = 0 → sq_mrR ms v w = sq_rR st v w) := by
  have e1 : ms.2 7 = st.2 5 := h.2.2.2.2.2.1.1.2.2.2.2.1
  have e0 : ms.2 1 = st.2 0 := h.2.2.2.2.2.1.1.1
  have e2 : ms.2 2 = st.2 1 := h.2.2.2.2.2.1.1.2.1
  have hn := h.1.2.2.2.2.1
  have hs := h.1.1
  have ht := h.1.2.1
  have h14 := h.1.2.2.2.2.2.2.2.2.2
  obtain ⟨-, -, -, -, -, hA, -, -, -, -, -, hres⟩ := h
  obtain ⟨-, -, -, -, -, -, h13⟩ := hA
  have hin : (sq_mi (ms.2 7) v ∧ sq_mi (ms.2 1) w) ↔ (sq_in (st.2 5) v ∧ sq_in (st.2 0) w) := by rw [e1, e0]; exact and_congr (sq_mi_iff (by omega)) (sq_mi_iff (by omega))
  by_cases z : sq_in (st.2 5) v ∧ sq_in (st.2 0) w
  · obtain ⟨j, hj, rfl⟩ := sq_in_of z.1 (by omega)
    obtain ⟨i, hi, rfl⟩ := sq_in_of z.2 (by omega)
    have hjv : sq_vec (nI j) = j := sq_vec_nI (by omega)
    have hiv : sq_vec (nI i) = i := sq_vec_nI (by omega)
    have hc : (¬ ms.1 3 j = -1 ∧ sq_vec (ms.1 3 j) + 2 * ms.2 1 - 2 ≤ ms.2 2) ↔ (j < st.2 6 ∧ 2 * st.2 0 - 2 ≤ st.2 1 - sq_vec (st.1 4 j)) := by
      rw [h13 j hj, e0, e2]
      by_cases u : j < st.2 6
      · rw [if_pos u]
        obtain ⟨t, ht2, et⟩ := h14 j u
        rw [et, sq_vec_nI (by omega)]
        have := sq_m1_ne (v := t) (by omega)
        constructor
        · intro q; exact ⟨u, by omega⟩
        · intro q; exact ⟨this, by omega⟩
      · rw [if_neg u]
        exact ⟨fun q => absurd rfl q.1, fun q => absurd q.1 u⟩
    have e : sq_mkR ms (nI j) (nI i) = sq_kR st (nI j) (nI i) := by
      unfold sq_mkR sq_kR
      have z1 : ¬ ¬ (sq_mi (ms.2 7) (nI j) ∧ sq_mi (ms.2 1) (nI i)) := fun q => q (hin.mpr z)
      have z2 : ¬ ¬ (sq_in (st.2 5) (nI j) ∧ sq_in (st.2 0) (nI i)) := fun q => q z
      rw [if_neg z1, if_neg z2, hjv]
      by_cases u : j < st.2 6 ∧ 2 * st.2 0 - 2 ≤ st.2 1 - sq_vec (st.1 4 j)
      · rw [if_pos (hc.mpr u), if_pos u]
      · rw [if_neg (fun q => u (hc.mp q)), if_neg u]
    refine ⟨e, fun k => ?_⟩
    have hu : j < st.2 6 ∧ 2 * st.2 0 - 2 ≤ st.2 1 - sq_vec (st.1 4 j) := Decidable.byContradiction (fun q => by
      unfold sq_kR at k
      have z2 : ¬ ¬ (sq_in (st.2 5) (nI j) ∧ sq_in (st.2 0) (nI i)) := fun q => q z
      rw [if_neg z2, hjv, if_neg q] at k
      exact absurd k (by decide))
    unfold sq_mrR sq_rR
    rw [e, if_pos k, hjv, hiv]
    exact hres j i hu.1 hi (by omega)
  · have e : sq_mkR ms v w = sq_kR st v w := by
      unfold sq_mkR sq_kR
      rw [if_pos (fun q => z (hin.mp q)), if_pos z]
    refine ⟨e, fun k => ?_⟩
    unfold sq_kR at k
    rw [if_pos z] at k
    exact absurd k (by decide)
/-- the cells that an element has come to, counted in two ways -/
theorem sq_mcnt_row (f : Nat → Int32) (n r : Nat) (hn : n ≤ 6) (ago : Nat → Int32) (h1 : ∀ c, c < n → f (r * 6 + c) = sq_mreal ago (r + c)) (h2 : ∀ c, n ≤ c → c < 6 → f (r * 6 + c) = 0) : sq_mcnt f (r * 6 + 6) = sq_mcnt f (r * 6) + sq_cntC ago r n := by
  have gen : ∀ c, c ≤ 6 → sq_mcnt f (r * 6 + c) = sq_mcnt f (r * 6) + sq_cntC ago r (min c n) := by
    intro c
    induction c with
    | zero => intro _; rw [Nat.zero_min]; rfl
    | succ c ih =>
      intro hc
      show sq_mcnt f (r * 6 + c) + (if f (r * 6 + c) = 0 then 0 else 1) = _
      rw [ih (by omega)]
      by_cases z : c < n
      · rw [Nat.min_eq_left (by omega), Nat.min_eq_left (by omega), h1 c z]
        show _ = sq_mcnt f (r * 6) + (sq_cntC ago r c + (if ago (r + c) = -1 then 0 else 1))
        unfold sq_mreal
        by_cases u : ago (r + c) = -1
        · rw [if_pos u, if_pos u, if_pos rfl]; omega
        · rw [if_neg u, if_neg u, if_neg (by decide)]; omega
      · rw [Nat.min_eq_right (by omega), Nat.min_eq_right (by omega), h2 c (by omega) (by omega), if_pos rfl]
        omega
  have := gen 6 (Nat.le_refl 6)
  rw [Nat.min_eq_right hn] at this
  exact this
theorem sq_mcnt_all (f : Nat → Int32) (n : Nat) (hn : n ≤ 6) (ago : Nat → Int32) (h1 : ∀ r c, r < n → c < n → f (r * 6 + c) = sq_mreal ago (r + c)) (h2 : ∀ j, ¬ (j / 6 < n ∧ j % 6 < n) → j < 36 → f j = 0) : sq_mcnt f 36 = sq_cntR ago n n := by
  have gen : ∀ r, r ≤ n → sq_mcnt f (r * 6) = sq_cntR ago n r := by
    intro r
    induction r with
    | zero => intro _; rfl
    | succ r ih =>
      intro hr
      rw [Nat.succ_mul, sq_mcnt_row f n r hn ago (fun c hc => h1 r c (by omega) hc) (fun c hc hc6 => h2 _ (by omega) (by omega)), ih (by omega)]
      rfl
  have gen2 : ∀ k, n * 6 + k ≤ 36 → sq_mcnt f (n * 6 + k) = sq_mcnt f (n * 6) := by
    intro k
    induction k with
    | zero => intro _; rfl
    | succ k ih =>
      intro hk
      show sq_mcnt f (n * 6 + k) + (if f (n * 6 + k) = 0 then 0 else 1) = _
      rw [h2 _ (by omega) (by omega), if_pos rfl, Nat.add_zero]
      exact ih (by omega)
  have := gen2 (36 - n * 6) (by omega)
  rw [show n * 6 + (36 - n * 6) = 36 by omega] at this
  rw [this, gen n (Nat.le_refl n)]
theorem sq_q_A {st ms : SqS} (h : sq_Inv st ms) (w : Int32) : sq_mkA w = sq_kA w ∧ (sq_kA w = 0 → sq_mrA ms w = sq_rA st w) := by
  have e : sq_mkA w = sq_kA w := by
    unfold sq_mkA sq_kA
    by_cases u : w < 0 ∨ nI 6 < w
    · rw [if_pos u, if_neg (fun q => sq_w0.mp q u)]
    · rw [if_neg u, if_pos (sq_w0.mpr u)]
  refine ⟨e, fun z => ?_⟩
  have hn := h.1.1
  obtain ⟨-, -, -, -, -, hA, -, -, -, hr1, hr2, -⟩ := h
  obtain ⟨⟨h1, h2, h3, h4, h5, h6, h7⟩, -, h9, -⟩ := hA
  unfold sq_mrA sq_rA
  rw [e, if_pos z, h1, h2, h3, h4, h5, h6, h7, sq_mcnt_all (ms.1 11) (st.2 0) hn.2 (st.1 5) hr1 hr2]
  have e6 : nI (ms.2 6) = sq_b (decide (st.2 4 = st.2 0)) := by
    rcases h9 with ⟨q1, q2, -⟩ | ⟨q1, q2, -⟩
    · rw [q1, decide_eq_true q2]; rfl
    · rw [q1, decide_eq_false (by omega)]; rfl
  rw [e6]
