theorem sq_mok_t {ms : SqS} (h : sq_mok ms) (k : Nat) : sq_mok (sq_mt ms k) := h
theorem sq_mok_1 {ms : SqS} (h : sq_mok ms) (ht : ms.2 2 < 100000) : sq_mok (sq_m1 ms) := by
  obtain ⟨h1, h2, h3, h4, h5, h6, h7, h8, h9, h10, h11⟩ := h
  refine ⟨h1, ht, h3, h4, h5, fun h => Nat.le_succ_of_le (h6 h), h7, h8, h9, h10, fun v hv => ?_⟩
  rcases h11 v hv with e | ⟨e, he, e2⟩
  · exact Or.inl e
  · exact Or.inr ⟨e, Nat.le_succ_of_le he, e2⟩
theorem sq_mok_e {ms : SqS} (h : sq_mok ms) : sq_mok (sq_me ms) := by
  unfold sq_me
  by_cases hc : sq_mcV ms = true
  · rw [if_pos hc]
    have hc2 := (of_decide_eq_true hc).1
    obtain ⟨h1, h2, h3, h4, ⟨h5, h5b, h5c⟩, h6, h7, h8, h9, h10, h11⟩ := h
    refine ⟨h1, h2, h3, ⟨h4.1, ?_⟩, ⟨h5, hc2, ?_⟩, ?_, ?_, h8, h9, h10, ?_⟩
    · show (if ms.1 2 (ms.2 8) = 0 then ms.2 6 else 0) ≤ 1
      have := h4.2
      split <;> omega
    · show (if ms.1 2 (ms.2 8) = 0 then ms.2 9 else ms.2 9 + 1) ≤ ms.2 8 + 1
      split <;> omega
    · show ¬ (if ms.1 2 (ms.2 8) = 0 then ms.2 9 else ms.2 9 + 1) = 0 → (if ms.1 2 (ms.2 8) = 0 then ms.2 10 else ms.2 2) ≤ ms.2 2
      by_cases hf : ms.1 2 (ms.2 8) = 0
      · rw [if_pos hf, if_pos hf]; exact h6
      · rw [if_neg hf, if_neg hf]; intro _; exact Nat.le_refl _
    · intro i hi16
      show upd (upd (ms.1 5) (ms.2 2 % 16) (-1)) (ms.2 2 % 16) (nI (ms.2 8)) i = -1 ∨ ∃ v : Nat, v < ms.2 8 + 1 ∧ upd (upd (ms.1 5) (ms.2 2 % 16) (-1)) (ms.2 2 % 16) (nI (ms.2 8)) i = nI v
      by_cases hi : i = ms.2 2 % 16
      · rw [hi, pk_us]; exact Or.inr ⟨_, Nat.lt_succ_self _, rfl⟩
      · rw [pk_un hi, pk_un hi]
        rcases h7 i hi16 with e | ⟨v, hv, e⟩
        · exact Or.inl e
        · exact Or.inr ⟨v, Nat.lt_succ_of_lt hv, e⟩
    · intro v hv
      show upd (ms.1 3) (ms.2 8) (nI (ms.2 2)) v = -1 ∨ ∃ e : Nat, e ≤ ms.2 2 ∧ upd (ms.1 3) (ms.2 8) (nI (ms.2 2)) v = nI e
      by_cases hi : v = ms.2 8
      · rw [hi, pk_us]; exact Or.inr ⟨_, Nat.le_refl _, rfl⟩
      · rw [pk_un hi]; exact h11 v hv
  · rw [if_neg hc]
    obtain ⟨h1, h2, h3, h4, h5, h6, h7, h8, h9, h10, h11⟩ := h
    refine ⟨h1, h2, h3, h4, h5, h6, ?_, h8, h9, h10, h11⟩
    intro i hi16
    show upd (ms.1 5) (ms.2 2 % 16) (-1) i = -1 ∨ ∃ v : Nat, v < ms.2 8 ∧ upd (ms.1 5) (ms.2 2 % 16) (-1) i = nI v
    by_cases hi : i = ms.2 2 % 16
    · rw [hi, pk_us]; exact Or.inl rfl
    · rw [pk_un hi]; exact h7 i hi16
theorem sq_mok_l {ms : SqS} (h : sq_mok ms) : sq_mok (sq_ml ms) := by
  unfold sq_ml
  by_cases hc : sq_mcR ms = true
  · rw [if_pos hc]
    have hc2 := of_decide_eq_true hc
    obtain ⟨h1, h2, h3, h4, h5, h6, h7, h8, h9, h10, h11⟩ := h
    refine ⟨h1, h2, ⟨h3.1, hc2.1⟩, ⟨?_, ?_⟩, h5, h6, h7, h8, h9, h10, h11⟩
    · show (if ms.2 5 + 1 = ms.2 1 then 0 else ms.2 5 + 1) < ms.2 1
      have := h4.1
      have := h1.1
      split <;> omega
    · show (if ms.2 5 + 1 = ms.2 1 then 1 else ms.2 6) ≤ 1
      have := h4.2
      split <;> omega
  · rw [if_neg hc]; exact h
theorem sq_mok_g {ms : SqS} (h : sq_mok ms) : sq_mok (sq_mg ms) := by
  obtain ⟨h1, h2, h3, h4, h5, h6, h7, h8, h9, h10, h11⟩ := h
  refine ⟨h1, h2, h3, h4, h5, h6, h7, h8, ?_, ?_, h11⟩
  · intro k
    show sq_G (sq_dH (ms.2 1) (ms.2 1) (ms.2 1)) (sq_gM (sq_mago (ms.2 2) (ms.1 5)) (ms.1 2) (ms.1 10)) (ms.1 10) k = 0 ∨ sq_G (sq_dH (ms.2 1) (ms.2 1) (ms.2 1)) (sq_gM (sq_mago (ms.2 2) (ms.1 5)) (ms.1 2) (ms.1 10)) (ms.1 10) k = 1
    unfold sq_G sq_gM sq_nIn sq_fedM
    split
    · split
      · split
        · exact Or.inl rfl
        · exact h8 _
      · exact h9 _
    · exact h9 _
  · intro k
    show sq_G (sq_dH (ms.2 1) (ms.2 1) (ms.2 1)) (sq_nIn (ms.1 11) (sq_mreal (sq_mago (ms.2 2) (ms.1 5)))) (ms.1 11) k = 0 ∨ sq_G (sq_dH (ms.2 1) (ms.2 1) (ms.2 1)) (sq_nIn (ms.1 11) (sq_mreal (sq_mago (ms.2 2) (ms.1 5)))) (ms.1 11) k = 1
    unfold sq_G sq_nIn sq_mreal
    split
    · split
      · split
        · exact Or.inl rfl
        · exact Or.inr rfl
      · exact h10 _
    · exact h10 _
theorem sq_mok_run {ms : SqS} (h : sq_mok ms) (ht : ms.2 2 < 100000) : sq_mok (sq_mrun ms) := sq_mok_g (sq_mok_l (sq_mok_e (sq_mok_1 h ht)))
theorem sq_me_2 (ms : SqS) : (sq_me ms).2 2 = ms.2 2 := by unfold sq_me; split <;> rfl
theorem sq_ml_2 (ms : SqS) : (sq_ml ms).2 2 = ms.2 2 := by unfold sq_ml; split <;> rfl
theorem sq_mrun_2 (ms : SqS) : (sq_mrun ms).2 2 = ms.2 2 + 1 := by
  show (sq_ml (sq_me (sq_m1 ms))).2 2 = ms.2 2 + 1
  rw [sq_ml_2, sq_me_2]; rfl
theorem sq_mloop_2 : ∀ (n : Nat) (ms : SqS), (sq_mloop n ms).2 2 = ms.2 2 + n
  | 0, _ => rfl
  | n + 1, ms => by
    show (sq_mloop n (sq_mrun ms)).2 2 = ms.2 2 + (n + 1)
    rw [sq_mloop_2 n, sq_mrun_2]; omega
theorem sq_mloop_ok : ∀ (n : Nat) {ms : SqS}, sq_mok ms → ms.2 2 + n ≤ 100000 → sq_mok (sq_mloop n ms)
  | 0, _, h, _ => h
  | n + 1, ms, h, ht => by
    show sq_mok (sq_mloop n (sq_mrun ms))
    exact sq_mloop_ok n (sq_mok_run h (by omega)) (by rw [sq_mrun_2]; omega)
/-- the reference's answers -/
def sq_mkC (ms : SqS) (x : Int32) : Nat := sq_rf (decide (x < 0 ∨ ¬ sq_vec x ≤ 100000 - ms.2 2)) false
def sq_mC (ms : SqS) (x : Int32) : SqS := if sq_mkC ms x = 0 then sq_mloop (sq_vec x) (sq_mt ms 0) else sq_mt ms (sq_mkC ms x)
def sq_mrC (ms : SqS) (x : Int32) : Int32 := if sq_mkC ms x = 0 then nI (ms.2 2 + sq_vec x) else 0
abbrev sq_mi (n : Nat) (x : Int32) : Prop := ¬ x < nI 0 ∧ ¬ nI n - nI 1 < x
theorem sq_mi_iff {n : Nat} {x : Int32} (hn : n < 2 ^ 30) : sq_mi n x ↔ sq_in n x := by
  unfold sq_mi sq_in
  rw [nI_0]
  refine and_congr_right (fun _ => not_congr ?_)
  rw [Int32.lt_iff_toInt_lt, Int32.le_iff_toInt_le, pk_sub_toInt hn (by decide), nI_toInt (by omega)]
  omega
def sq_mkL (ms : SqS) (x y w : Int32) : Nat := if ¬ (sq_mi (ms.2 1) x ∧ sq_mi (ms.2 1) y) then 1 else if ¬ w < nI 0 ∧ ¬ nI 4 < w then 0 else 2
def sq_mrL (ms : SqS) (x y w : Int32) : Int32 := if sq_mkL ms x y w = 0 then (if w = 0 then ms.1 6 (sq_vec x * 6 + sq_vec y) else if w = 1 then ms.1 7 (sq_vec x * 6 + sq_vec y) else if w = 2 then ms.1 8 (sq_vec x * 6 + sq_vec y) else if w = 3 then ms.1 9 (sq_vec x * 6 + sq_vec y) else if ms.1 10 (sq_vec x * 6 + sq_vec y) = 0 then nI 0 else nI 1) else 0
def sq_mkE (ms : SqS) (v : Int32) : Nat := if sq_mi (ms.2 7) v then 0 else 1
def sq_mrE (ms : SqS) (v : Int32) : Int32 := if sq_mkE ms v = 0 then ms.1 3 (sq_vec v) else 0
def sq_mkR (ms : SqS) (v w : Int32) : Nat := if ¬ (sq_mi (ms.2 7) v ∧ sq_mi (ms.2 1) w) then 1 else if ¬ ms.1 3 (sq_vec v) = -1 ∧ sq_vec (ms.1 3 (sq_vec v)) + 2 * ms.2 1 - 2 ≤ ms.2 2 then 0 else 2
def sq_mrR (ms : SqS) (v w : Int32) : Int32 := if sq_mkR ms v w = 0 then ms.1 4 (sq_vec v * 6 + sq_vec w) else 0
def sq_mkA (w : Int32) : Nat := if ¬ w < nI 0 ∧ ¬ nI 6 < w then 0 else 1
def sq_mcnt (f : Nat → Int32) : Nat → Nat
  | 0 => 0
  | n + 1 => sq_mcnt f n + (if f n = 0 then 0 else 1)
theorem sq_mcnt_le (f : Nat → Int32) : ∀ n, sq_mcnt f n ≤ n
  | 0 => Nat.le_refl 0
  | n + 1 => by
    have h := sq_mcnt_le f n
    simp only [sq_mcnt]
    split <;> omega
def sq_mrA (ms : SqS) (w : Int32) : Int32 := if sq_mkA w = 0 then (if w = 0 then nI (ms.2 2) else if w = 1 then nI (ms.2 7 - ms.2 8) else if w = 2 then nI (ms.2 3 - ms.2 4) else if w = 3 then nI (ms.2 9) else if w = 4 then nI (ms.2 6) else if w = 5 then nI (sq_mcnt (ms.1 11) 36) else nI (ms.2 1)) else 0
