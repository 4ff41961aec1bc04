theorem sq_keep_none {n : Nat} {ago su res : Nat → Int32} : ∀ m, (∀ c, c < m → ago (n - 1 + c) = -1) → sq_keep n ago su res m = res
  | 0, _ => rfl
  | m + 1, h => by
    show (if ago (n - 1 + m) = -1 then sq_keep n ago su res m else _) = res
    rw [if_pos (h m (Nat.lt_succ_self m))]
    exact sq_keep_none m (fun c hc => h c (by omega))
/-- the relation reads no more than this of the class's state -/
theorem sq_R_to {s1 s2 ms : SqS} (hi : s1.2 0 = s2.2 0 ∧ s1.2 1 = s2.2 1 ∧ s1.2 2 = s2.2 2 ∧ s1.2 3 = s2.2 3 ∧ s1.2 4 = s2.2 4 ∧ s1.2 5 = s2.2 5 ∧ s1.2 6 = s2.2 6 ∧ s1.2 7 = s2.2 7 ∧ s1.2 8 = s2.2 8)
    (ha : s1.1 0 = s2.1 0 ∧ s1.1 1 = s2.1 1 ∧ s1.1 2 = s2.1 2 ∧ s1.1 3 = s2.1 3 ∧ s1.1 4 = s2.1 4) (hb : sq_RB (s2.2 0) (s1.1 5) (s2.1 5))
    (h6 : sq_RN (s2.2 0) (s1.1 6) (s2.1 6)) (h7 : sq_RN (s2.2 0) (s1.1 7) (s2.1 7)) (h8 : sq_RN (s2.2 0) (s1.1 8) (s2.1 8)) (h9 : sq_RN (s2.2 0) (s1.1 9) (s2.1 9)) (h10 : sq_RN (s2.2 0) (s1.1 10) (s2.1 10)) (h : sq_R s1 ms) : sq_R s2 ms := by
  obtain ⟨e0, e1, e2, e3, e4, e5, e6, e7, e8⟩ := hi
  obtain ⟨a0, a1, a2, a3, a4⟩ := ha
  obtain ⟨hA, hB, hN, ⟨hI, hS, hW, hM⟩, hr1, hr2, hres⟩ := h
  unfold sq_RA at hA
  rw [e0, e1, e2, e3, e4, e5, e6, e7, e8, a0, a1, a3, a4] at hA
  rw [e0] at hB hN hI hS hW hM
  refine ⟨hA, fun k hk => (hB k hk).trans (hb k hk), fun r c hr hc => (hN r c hr hc).trans (h9 r c hr hc), ⟨fun r c hr hc => (hI r c hr hc).trans (h6 r c hr hc), fun r c hr hc => (hS r c hr hc).trans (h7 r c hr hc), fun r c hr hc => (hW r c hr hc).trans (h8 r c hr hc), fun r c hr hc => (hM r c hr hc).trans (h10 r c hr hc)⟩, fun r c hr hc => ?_, fun j hj hj2 => ?_, fun v c hv hc hd => ?_⟩
  · rw [hr1 r c (by rw [e0]; exact hr) (by rw [e0]; exact hc)]
    unfold sq_mreal
    rw [hb (r + c) (by omega)]
  · exact hr2 j (by rw [e0]; exact hj) hj2
  · rw [← a2]
    exact hres v c (by rw [e6]; exact hv) (by rw [e0]; exact hc) (by rw [e0, e1, a4]; exact hd)
theorem sq_Inv_rest {st ms : SqS} (h : sq_Inv st ms) (hat : sq_at st = true) (ht : st.2 1 < 100000) : sq_Inv (sq_t1 st (st.2 1 + 1)) (sq_mrun ms) ∧ sq_at (sq_t1 st (st.2 1 + 1)) = true := by
  have hrun := sq_Inv_run h ht
  obtain ⟨hok, hmok, hJ, hK, hE, hR⟩ := h
  obtain ⟨c1, c2, c3⟩ := of_decide_eq_true hat
  obtain ⟨⟨o1, o2⟩, o3, ⟨o4, o5⟩, o6, ⟨o7, o8, o9⟩, o10, o11, o12, o13, o14⟩ := id hok
  have hnone : ∀ k, k ≤ 2 * st.2 0 - 2 → st.1 5 k = -1 := fun k hk => sq_cnt_none c3 (by omega)
  have hlate : 0 < st.2 7 → 2 * st.2 0 - 2 < st.2 1 - st.2 8 := fun h7 => by
    rcases Nat.lt_or_ge (2 * st.2 0 - 2) (st.2 1 - st.2 8) with q | q
    · exact q
    · exact absurd (hnone _ q) (hK h7 q)
  have hV : ¬ sq_cV (sq_p1 st) = true := fun hc => c1 (of_decide_eq_true hc)
  have e2 : sq_e2 (sq_p1 st) = sq_p1 st := by unfold sq_e2; rw [if_neg hV]
  have hC : ¬ sq_cR (sq_p1 st) ((sq_p1 st).2 1) = true := fun hc => c2 (of_decide_eq_true hc)
  have l2 : sq_l2 (sq_p1 st) = sq_p1 st := by unfold sq_l2; rw [if_neg hC]
  have ago2 : ∀ k, k ≤ 2 * st.2 0 - 2 → sq_ago2 st k = -1 := by
    intro k hk
    rcases Nat.eq_zero_or_pos k with z | z
    · rw [z, sq_ago2_0, if_neg hV]
    · rw [sq_ago2_s st z (by omega)]; exact hnone _ (by omega)
  have er : sq_run st = sq_kp (sq_go (sq_p1 st)) := by unfold sq_run; rw [e2, l2]
  have ei : ∀ k, (sq_l2 (sq_e2 (sq_p1 st))).2 k = (sq_p1 st).2 k := fun k => by rw [e2, l2]
  have ea : ∀ k, (sq_l2 (sq_e2 (sq_p1 st))).1 k = (sq_p1 st).1 k := fun k => by rw [e2, l2]
  have hJ' := hrun.2.2.1
  have jz : ∀ r c, r < st.2 0 → c < st.2 0 → (sq_run st).1 6 (r * 6 + c) = 0 ∧ (sq_run st).1 10 (r * 6 + c) = 0 ∧ (sq_run st).1 7 (r * 6 + c) = 0 := fun r c hr hc =>
    hJ' r c (by rw [sq_run_f0]; exact hr) (by rw [sq_run_f0]; exact hc) (by rw [sq_run_a5]; exact ago2 _ (by omega))
  have jo : ∀ r c, r < st.2 0 → c < st.2 0 → st.1 6 (r * 6 + c) = 0 ∧ st.1 10 (r * 6 + c) = 0 ∧ st.1 7 (r * 6 + c) = 0 := fun r c hr hc => hJ r c hr hc (hnone _ (by omega))
  refine ⟨⟨?_, hrun.2.1, hJ, ?_, ?_, ?_⟩, ?_⟩
  · refine ⟨⟨o1, o2⟩, ht, ⟨o4, o5⟩, o6, ⟨o7, o8, o9⟩, Nat.le_succ_of_le o10, o11, o12, o13, fun v hv => ?_⟩
    obtain ⟨e, he, ee⟩ := o14 v hv
    exact ⟨e, Nat.le_succ_of_le he, ee⟩
  · intro h7 hd
    have h7 : 0 < st.2 7 := h7
    have hd : st.2 1 + 1 - st.2 8 ≤ 2 * st.2 0 - 2 := hd
    have := hlate h7
    omega
  · intro v hv hd
    have hv : v < st.2 6 := hv
    have hd : st.2 1 + 1 - sq_vec (st.1 4 v) ≤ 2 * st.2 0 - 2 := hd
    have h1 := hE v hv (by omega)
    rw [hnone _ (by omega)] at h1
    exact absurd h1.symm (sq_m1_ne (by omega))
  · refine sq_R_to (s1 := sq_run st) ⟨ei 0, ei 1, ei 2, ei 3, ei 4, ei 5, ei 6, ei 7, ei 8⟩ ⟨ea 0, ea 1, ?_, ea 3, ea 4⟩ ?_ ?_ ?_ ?_ ?_ ?_ hrun.2.2.2.2.2
    · show sq_keep ((sq_l2 (sq_e2 (sq_p1 st))).2 0) ((sq_l2 (sq_e2 (sq_p1 st))).1 5) _ ((sq_l2 (sq_e2 (sq_p1 st))).1 2) ((sq_l2 (sq_e2 (sq_p1 st))).2 0) = st.1 2
      rw [ei 0]
      show sq_keep (st.2 0) _ _ _ (st.2 0) = st.1 2
      rw [sq_keep_none _ (fun c hc => ?_)]
      · exact ea 2
      · show (sq_run st).1 5 (st.2 0 - 1 + c) = -1
        rw [sq_run_a5]; exact ago2 _ (by omega)
    · intro k hk
      rw [sq_run_a5, ago2 k hk]
      exact (hnone k hk).symm
    · intro r c hr hc
      rw [(jz r c hr hc).1]; exact (jo r c hr hc).1.symm
    · intro r c hr hc
      rw [(jz r c hr hc).2.2]; exact (jo r c hr hc).2.2.symm
    · intro r c hr hc
      rw [sq_run_fa st o2 hr hc, if_pos (jz r c hr hc).2.1]; rfl
    · intro r c hr hc
      show (sq_l2 (sq_e2 (sq_p1 st))).1 9 (r * 6 + c) = st.1 9 (r * 6 + c)
      rw [ea 9]; rfl
    · intro r c hr hc
      rw [(jz r c hr hc).2.1]; exact (jo r c hr hc).2.1.symm
  · refine decide_eq_true ⟨c1, ?_, c3⟩
    show ¬ (st.2 3 < st.2 2 ∧ ¬ st.2 4 = st.2 0 ∧ (st.2 7 = 0 ∨ 2 * st.2 0 - 2 < st.2 1 + 1 + 1 - st.2 8))
    intro q
    refine c2 ⟨q.1, q.2.1, ?_⟩
    rcases Nat.eq_zero_or_pos (st.2 7) with z | z
    · exact Or.inl z
    · have := hlate z
      exact Or.inr (by omega)
theorem sq_Inv_restN : ∀ (n : Nat) {st ms : SqS}, sq_Inv st ms → sq_at st = true → st.2 1 + n ≤ 100000 → sq_Inv (sq_t1 st (st.2 1 + n)) (sq_mloop n ms)
  | 0, _, _, h, _, _ => h
  | n + 1, st, ms, h, hat, ht => by
    obtain ⟨h1, h2⟩ := sq_Inv_rest h hat (by omega)
    have h3 := sq_Inv_restN n h1 h2 (show st.2 1 + 1 + n ≤ 100000 by omega)
    have h4 : sq_Inv (sq_t1 st (st.2 1 + 1 + n)) (sq_mloop n (sq_mrun ms)) := h3
    rw [show st.2 1 + 1 + n = st.2 1 + (n + 1) by omega] at h4
    exact h4
theorem sq_Inv_cyc : ∀ (n : Nat) {st ms : SqS}, sq_Inv st ms → st.2 1 + n ≤ 100000 → sq_Inv (sq_cyc st n) (sq_mloop n ms)
  | 0, _, _, h, _ => h
  | n + 1, st, ms, h, ht => by
    by_cases hat : sq_at st = true
    · have e : sq_cyc st (n + 1) = sq_t1 st (st.2 1 + (n + 1)) := by
        unfold sq_cyc
        rw [show sq_loop (n + 1) st = if sq_at st = true then st else sq_loop n (sq_run st) from rfl, if_pos hat]
      rw [e]
      exact sq_Inv_restN (n + 1) h hat ht
    · have e : sq_cyc st (n + 1) = sq_cyc (sq_run st) n := by
        unfold sq_cyc
        rw [show sq_loop (n + 1) st = if sq_at st = true then st else sq_loop n (sq_run st) from rfl, if_neg hat, sq_run_1, show st.2 1 + 1 + n = st.2 1 + (n + 1) by omega]
      rw [e]
      exact sq_Inv_cyc n (sq_Inv_run h (by omega)) (by rw [sq_run_1]; omega)
theorem sq_0G {n : Nat} {f : Nat → Int32} {j : Nat} (h : j < n) : sq_G (sq_dR n) (fun _ => nI 0) f j = 0 := by
  rw [sq_G_new (by simp only [sq_dR, decide_eq_true_eq]; exact h)]; rfl
theorem sq_01G {n : Nat} {f : Nat → Int32} (h : sq_01 f) : sq_01 (sq_G (sq_dR n) (fun _ => nI 0) f) := by
  intro k
  unfold sq_G
  split
  · exact Or.inl rfl
  · exact h k
theorem sq_Inv_clr {st ms : SqS} {n : Nat} (hn : 1 ≤ n ∧ n ≤ 6) (h3 : sq_01 (st.1 3)) (h10 : sq_01 (st.1 10)) (g2 : sq_01 (ms.1 2)) (g10 : sq_01 (ms.1 10)) (g11 : sq_01 (ms.1 11)) : sq_Inv (sq_clr st n) (sq_mclr ms n) := by
  have hago : ∀ k, k < 11 → sq_G (sq_dR 11) (fun _ => -1) (st.1 5) k = -1 := fun k hk => sq_G_new (by simp only [sq_dR, decide_eq_true_eq]; exact hk)
  have hrec : ∀ k, k < 16 → sq_G (sq_dR 16) (fun _ => -1) (ms.1 5) k = -1 := fun k hk => sq_G_new (by simp only [sq_dR, decide_eq_true_eq]; exact hk)
  refine ⟨⟨hn, Nat.zero_le _, ⟨Nat.zero_le _, Nat.le_refl _⟩, Nat.zero_le _, ⟨Nat.zero_le _, Nat.le_refl _, Nat.le_refl _⟩, Nat.le_refl _, fun k hk => Or.inl (hago k hk), h3, sq_01G h10, fun v hv => absurd hv (Nat.not_lt_zero v)⟩,
    ⟨hn, Nat.zero_le _, ⟨Nat.zero_le _, Nat.le_refl _⟩, ⟨hn.1, Nat.zero_le _⟩, ⟨Nat.zero_le _, Nat.le_refl _, Nat.le_refl _⟩, fun h => absurd rfl h, fun i hi => Or.inl (hrec i hi), g2, sq_01G g10, sq_01G g11, fun v hv => absurd hv (Nat.not_lt_zero v)⟩, ?_, fun h => absurd h (Nat.lt_irrefl 0), fun v hv => absurd hv (Nat.not_lt_zero v),
    ⟨⟨rfl, rfl, rfl, rfl, rfl, rfl, rfl⟩, fun h => absurd h (Nat.lt_irrefl 0), Or.inr ⟨rfl, hn.1, rfl⟩, fun j hj => absurd hj (by show ¬ j < 0 * 6; omega), fun j hj => absurd hj (by show ¬ j < 0 * 6; omega), fun v hv => absurd hv (Nat.not_lt_zero v), fun v hv => absurd hv (Nat.not_lt_zero v)⟩, ?_, ?_, ⟨?_, ?_, ?_, ?_⟩, ?_, ?_, fun v c hv => absurd hv (Nat.not_lt_zero v)⟩
  · intro r c hr hc _
    have hr : r < n := hr
    have hc : c < n := hc
    exact ⟨sq_0G (by omega), sq_0G (by omega), sq_0G (by omega)⟩
  · intro k hk
    have hk : k ≤ 2 * n - 2 := hk
    show sq_mago 0 _ k = sq_G (sq_dR 11) (fun _ => -1) (st.1 5) k
    rw [hago k (by omega)]
    unfold sq_mago
    rw [if_neg (Nat.not_lt_zero k)]
  · intro r c hr hc
    have hr : r < n := hr
    have hc : c < n := hc
    exact (sq_0G (by omega)).trans (sq_0G (by omega)).symm
  · intro r c hr hc
    have hr : r < n := hr
    have hc : c < n := hc
    exact (sq_0G (by omega)).trans (sq_0G (by omega)).symm
  · intro r c hr hc
    have hr : r < n := hr
    have hc : c < n := hc
    exact (sq_0G (by omega)).trans (sq_0G (by omega)).symm
  · intro r c hr hc
    have hr : r < n := hr
    have hc : c < n := hc
    exact (sq_0G (by omega)).trans (sq_0G (by omega)).symm
  · intro r c hr hc
    have hr : r < n := hr
    have hc : c < n := hc
    exact (sq_0G (by omega)).trans (sq_0G (by omega)).symm
  · intro r c hr hc
    have hr : r < n := hr
    have hc : c < n := hc
    show sq_G (sq_dR 36) (fun _ => nI 0) (ms.1 11) (r * 6 + c) = sq_mreal (sq_G (sq_dR 11) (fun _ => -1) (st.1 5)) (r + c)
    rw [sq_0G (by omega)]
    unfold sq_mreal
    rw [if_pos (hago _ (by omega))]
  · intro j _ hj2
    exact sq_0G hj2
theorem sq_p6_eq {f g : Nat → Int32} {i : Nat} {x1 x2 x3 x4 x5 x6 : Int32} (h : ∀ j, j < i → f j = g j) : ∀ j, j < i + 6 → sq_p6 f i x1 x2 x3 x4 x5 x6 j = sq_p6 g i x1 x2 x3 x4 x5 x6 j := by
  intro j hj
  unfold sq_p6 upd
  by_cases z : j < i
  · rw [if_neg (by omega), if_neg (by omega), if_neg (by omega), if_neg (by omega), if_neg (by omega), if_neg (by omega), if_neg (by omega), if_neg (by omega), if_neg (by omega), if_neg (by omega), if_neg (by omega), if_neg (by omega)]
    exact h j z
  · rcases (show j = i ∨ j = i + 1 ∨ j = i + 2 ∨ j = i + 3 ∨ j = i + 4 ∨ j = i + 5 by omega) with e | e | e | e | e | e <;> subst e <;> simp
theorem sq_Inv_wgt {st ms : SqS} (h : sq_Inv st ms) (hlt : st.2 2 < 120) (x1 x2 x3 x4 x5 x6 : Int32) : sq_Inv (sq_wgt st x1 x2 x3 x4 x5 x6) (sq_mw ms x1 x2 x3 x4 x5 x6) := by
  obtain ⟨hok, hmok, hJ, hK, hE, hA, hB, hN, hC, hr1, hr2, hres⟩ := h
  obtain ⟨⟨h1, h2, h3, h4, h5, h6, h7⟩, h8, h9, h10, h11, h12, h13⟩ := hA
  obtain ⟨k1, k2, ⟨k3, k3b⟩, k4, k5, k6, k7, k8, k9, k10⟩ := hok
  obtain ⟨m1, m2, ⟨m3, m3b⟩, m4, m5, m6, m7, m8, m9, m10, m11⟩ := hmok
  refine ⟨⟨k1, k2, ⟨hlt, Nat.le_succ_of_le k3b⟩, k4, k5, k6, k7, k8, k9, k10⟩, ⟨m1, m2, ⟨by show ms.2 3 + 1 ≤ 120; omega, Nat.le_succ_of_le m3b⟩, m4, m5, m6, m7, m8, m9, m10, m11⟩, hJ, hK, hE, ⟨⟨h1, h2, congrArg (· + 1) h3, h4, h5, h6, h7⟩, h8, h9, ?_, h11, h12, h13⟩, hB, hN, hC, hr1, hr2, hres⟩
  intro j hj
  have hj : j < (st.2 2 + 1) * 6 := hj
  show sq_p6 (ms.1 0) (ms.2 3 * 6) x1 x2 x3 x4 x5 x6 j = sq_p6 (st.1 0) (st.2 2 * 6) x1 x2 x3 x4 x5 x6 j
  rw [h3]
  exact sq_p6_eq h10 j (by omega)
theorem sq_Inv_vct {st ms : SqS} (h : sq_Inv st ms) (hlt : st.2 5 < 200) (b x1 x2 x3 x4 x5 x6 : Int32) (hb : b = 0 ∨ b = 1) : sq_Inv (sq_vct st b x1 x2 x3 x4 x5 x6) (sq_mv ms b x1 x2 x3 x4 x5 x6) := by
  obtain ⟨hok, hmok, hJ, hK, hE, hA, hB, hN, hC, hr1, hr2, hres⟩ := h
  obtain ⟨⟨h1, h2, h3, h4, h5, h6, h7⟩, h8, h9, h10, h11, h12, h13⟩ := hA
  obtain ⟨k1, k2, k3, k4, ⟨k5, k5b, k5c⟩, k6, k7, k8, k9, k10⟩ := hok
  obtain ⟨m1, m2, m3, m4, ⟨m5, m5b, m5c⟩, m6, m7, m8, m9, m10, m11⟩ := hmok
  have u01 : ∀ {f : Nat → Int32} {i : Nat}, sq_01 f → sq_01 (upd f i b) := by
    intro f i hf k
    unfold upd
    split
    · exact hb
    · exact hf k
  refine ⟨⟨k1, k2, k3, k4, ⟨hlt, Nat.le_succ_of_le k5b, k5c⟩, k6, k7, u01 k8, k9, k10⟩, ⟨m1, m2, m3, m4, ⟨by show ms.2 7 + 1 ≤ 200; omega, Nat.le_succ_of_le m5b, m5c⟩, m6, m7, u01 m8, m9, m10, ?_⟩, hJ, hK, hE, ⟨⟨h1, h2, h3, h4, congrArg (· + 1) h5, h6, h7⟩, h8, h9, h10, ?_, ?_, ?_⟩, hB, hN, hC, hr1, hr2, hres⟩
  · intro v hv
    have hv : v < ms.2 7 + 1 := hv
    show upd (ms.1 3) (ms.2 7) (-1) v = -1 ∨ ∃ e : Nat, e ≤ ms.2 2 ∧ upd (ms.1 3) (ms.2 7) (-1) v = nI e
    by_cases z : v = ms.2 7
    · rw [z, pk_us]; exact Or.inl rfl
    · rw [pk_un z]; exact m11 v (by omega)
  · intro j hj
    have hj : j < (st.2 5 + 1) * 6 := hj
    show sq_p6 (ms.1 1) (ms.2 7 * 6) x1 x2 x3 x4 x5 x6 j = sq_p6 (st.1 1) (st.2 5 * 6) x1 x2 x3 x4 x5 x6 j
    rw [h5]
    exact sq_p6_eq h11 j (by omega)
  · intro v hv
    have hv : v < st.2 5 + 1 := hv
    show upd (ms.1 2) (ms.2 7) b v = upd (st.1 3) (st.2 5) b v
    rw [h5]
    by_cases z : v = st.2 5
    · rw [z, pk_us, pk_us]
    · rw [pk_un z, pk_un z]; exact h12 v (by omega)
  · intro v hv
    have hv : v < st.2 5 + 1 := hv
    show upd (ms.1 3) (ms.2 7) (-1) v = if v < st.2 6 then st.1 4 v else -1
    rw [h5]
    by_cases z : v = st.2 5
    · rw [z, pk_us, if_neg (by omega)]
    · rw [pk_un z]; exact h13 v (by omega)
theorem sq_Inv_mt {st ms : SqS} (h : sq_Inv st ms) (k : Nat) : sq_Inv st (sq_mt ms k) := h
