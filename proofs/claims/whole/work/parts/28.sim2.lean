/-- keepResults, a place at a time -/
theorem sq_keep_at {n : Nat} {ago su res : Nat → Int32} {v c : Nat} (hn : n ≤ 6) (hc : c < 6) (hv : v < 2 ^ 31) (ho : ∀ k, ago k = -1 ∨ ∃ w : Nat, w < 2 ^ 31 ∧ ago k = nI w) :
    ∀ m, m ≤ n → sq_keep n ago su res m (v * 6 + c) = if c < m ∧ ago (n - 1 + c) = nI v then su ((n - 1) * 6 + c) else res (v * 6 + c)
  | 0, _ => by rw [if_neg (fun h => absurd h.1 (Nat.not_lt_zero c))]; rfl
  | m + 1, hm => by
    have ih := sq_keep_at hn hc hv ho (su := su) (res := res) m (by omega)
    show (if ago (n - 1 + m) = -1 then sq_keep n ago su res m else upd (sq_keep n ago su res m) (sq_vec (ago (n - 1 + m)) * 6 + m) (su ((n - 1) * 6 + m))) (v * 6 + c) = _
    rcases ho (n - 1 + m) with e | ⟨w, hw, e⟩
    · rw [if_pos e, ih]
      by_cases z : c = m
      · have h1 : ¬ ago (n - 1 + c) = nI v := by rw [z, e]; exact fun h => sq_m1_ne hv h.symm
        rw [if_neg (fun h => h1 h.2), if_neg (fun h => h1 h.2)]
      · by_cases y : ago (n - 1 + c) = nI v
        · by_cases x : c < m
          · rw [if_pos ⟨x, y⟩, if_pos ⟨by omega, y⟩]
          · rw [if_neg (fun h => x h.1), if_neg (fun h => absurd h.1 (by omega))]
        · rw [if_neg (fun h => y h.2), if_neg (fun h => y h.2)]
    · rw [if_neg (by rw [e]; exact sq_m1_ne hw), e, sq_vec_nI hw]
      by_cases z : v * 6 + c = w * 6 + m
      · have z1 : c = m := by omega
        have z2 : v = w := by omega
        rw [z, pk_us, if_pos ⟨by omega, by rw [z1, z2]; exact e⟩, z1]
      · rw [pk_un z, ih]
        by_cases y : ago (n - 1 + c) = nI v
        · by_cases x : c < m
          · rw [if_pos ⟨x, y⟩, if_pos ⟨by omega, y⟩]
          · refine (if_neg (fun h => x h.1)).trans (if_neg (fun h => ?_)).symm
            have : c = m := by omega
            rw [this, e] at y
            have := (nI_eq hw hv).mp y
            omega
        · rw [if_neg (fun h => y h.2), if_neg (fun h => y h.2)]
/-- a vector that is in, and not yet through: where it stands -/
def sq_E (st : SqS) : Prop := ∀ v, v < st.2 6 → st.2 1 - sq_vec (st.1 4 v) ≤ 2 * st.2 0 - 2 → st.1 5 (st.2 1 - sq_vec (st.1 4 v)) = nI v
theorem sq_run_a4 (st : SqS) (v : Nat) : (sq_run st).1 4 v = if sq_cV (sq_p1 st) = true ∧ v = st.2 6 then nI (st.2 1 + 1) else st.1 4 v := by
  show (sq_l2 (sq_e2 (sq_p1 st))).1 4 v = _
  rw [sq_l2_a4]
  unfold sq_e2
  by_cases c : sq_cV (sq_p1 st) = true
  · rw [if_pos c]
    show upd (st.1 4) (st.2 6) (nI (st.2 1 + 1)) v = _
    by_cases z : v = st.2 6
    · rw [z, pk_us, if_pos ⟨c, rfl⟩]
    · rw [pk_un z, if_neg (fun h => z h.2)]
  · rw [if_neg c, if_neg (fun h => c h.1)]
    rfl
theorem sq_run_f6 (st : SqS) : (sq_run st).2 6 = if sq_cV (sq_p1 st) = true then st.2 6 + 1 else st.2 6 := by
  show (sq_l2 (sq_e2 (sq_p1 st))).2 6 = _
  rw [sq_l2_f6]
  unfold sq_e2
  by_cases c : sq_cV (sq_p1 st) = true
  · rw [if_pos c, if_pos c]; rfl
  · rw [if_neg c, if_neg c]; rfl
theorem sq_E_run {st : SqS} (hok : sq_ok st) (hE : sq_E st) (ht : st.2 1 < 100000) : sq_E (sq_run st) := by
  obtain ⟨⟨o1, o2⟩, o3, ⟨o4, o5⟩, o6, ⟨o7, o8, o9⟩, o10, o11, o12, o13, o14⟩ := id hok
  intro v hv hd
  rw [sq_run_1, sq_run_f0] at hd
  rw [sq_run_1, sq_run_a5]
  rw [sq_run_f6] at hv
  rw [sq_run_a4] at hd ⊢
  by_cases c : sq_cV (sq_p1 st) = true ∧ v = st.2 6
  · rw [if_pos c] at hd ⊢
    rw [sq_vec_nI (by omega), Nat.sub_self, sq_ago2_0, if_pos c.1, c.2]
  · rw [if_neg c] at hd ⊢
    have hv2 : v < st.2 6 := by
      by_cases z : sq_cV (sq_p1 st) = true
      · rw [if_pos z] at hv
        have : ¬ v = st.2 6 := fun h => c ⟨z, h⟩
        omega
      · rw [if_neg z] at hv; exact hv
    obtain ⟨e, he, ee⟩ := o14 v hv2
    rw [ee, sq_vec_nI (by omega)] at hd ⊢
    have h1 := hE v hv2
    rw [ee, sq_vec_nI (by omega)] at h1
    rw [sq_ago2_s st (by omega) (by omega), show st.2 1 + 1 - e - 1 = st.2 1 - e by omega]
    exact h1 (by omega)
/-- the class beside the reference -/
def sq_R (st ms : SqS) : Prop := sq_RA st ms ∧ sq_RB (st.2 0) (sq_mago (ms.2 2) (ms.1 5)) (st.1 5) ∧ sq_RN (st.2 0) (ms.1 9) (st.1 9) ∧
  (sq_RN (st.2 0) (ms.1 6) (st.1 6) ∧ sq_RN (st.2 0) (ms.1 7) (st.1 7) ∧ sq_RN (st.2 0) (ms.1 8) (st.1 8) ∧ sq_RN (st.2 0) (ms.1 10) (st.1 10)) ∧
  (∀ r c, r < st.2 0 → c < st.2 0 → ms.1 11 (r * 6 + c) = sq_mreal (st.1 5) (r + c)) ∧ (∀ j, ¬ (j / 6 < st.2 0 ∧ j % 6 < st.2 0) → j < 36 → ms.1 11 j = 0) ∧
  (∀ v c, v < st.2 6 → c < st.2 0 → st.2 0 - 1 + c ≤ st.2 1 - sq_vec (st.1 4 v) → ms.1 4 (v * 6 + c) = st.1 2 (v * 6 + c))
/-- all that holds of the two between calls -/
def sq_Inv (st ms : SqS) : Prop := sq_ok st ∧ sq_mok ms ∧ sq_J st ∧ sq_Kf st ∧ sq_E st ∧ sq_R st ms
theorem sq_mok_ago {ms : SqS} (h : sq_mok ms) (k : Nat) : sq_mago (ms.2 2) (ms.1 5) k = -1 ∨ ∃ w : Nat, w < 2 ^ 31 ∧ sq_mago (ms.2 2) (ms.1 5) k = nI w := by
  obtain ⟨h1, h2, h3, h4, ⟨h5, h5b, h5c⟩, h6, h7, -⟩ := h
  unfold sq_mago
  split
  · rcases h7 ((ms.2 2 - k) % 16) (Nat.mod_lt _ (by decide)) with e | ⟨v, hv, e⟩
    · exact Or.inl e
    · exact Or.inr ⟨v, by omega, e⟩
  · exact Or.inl rfl
theorem sq_R_run {st ms : SqS} (hok : sq_ok st) (hmok : sq_mok ms) (hE : sq_E st) (ht : st.2 1 < 100000) (h : sq_R st ms) : sq_R (sq_run st) (sq_mrun ms) := by
  obtain ⟨hA, hB, hN, ⟨hI, hS, hW, hM⟩, hr1, hr2, hres⟩ := h
  have hok' := sq_ok_run hok ht
  have hmt : ms.2 2 < 100000 := by rw [hA.1.2.1]; exact ht
  have hmok' := sq_mok_run hmok hmt
  obtain ⟨⟨o1, o2⟩, o3, ⟨o4, o5⟩, o6, ⟨o7, o8, o9⟩, o10, o11, o12, o13, o14⟩ := id hok
  have hA' := sq_RA_run hA hok ht
  have hB' := sq_RB_run hA hB o2
  have hN' := sq_RN_run hA hN hok ht
  have g1 : ms.2 1 = st.2 0 := hA.1.1
  have hfed : ∀ r, r < st.2 0 → sq_fedI (sq_mag2 ms) (ms.1 1) r = sq_fedI (sq_ago2 st) (st.1 1) r ∧ sq_fedM (sq_mag2 ms) (ms.1 2) r = sq_fedM (sq_ago2 st) (st.1 3) r := by
    intro r hr
    have e := hB' r (by omega)
    unfold sq_fedI sq_fedM
    rw [e]
    by_cases z : sq_ago2 st r = -1
    · rw [if_pos z, if_pos z, if_pos z, if_pos z]; exact ⟨rfl, rfl⟩
    · rw [if_neg z, if_neg z, if_neg z, if_neg z]
      have hokA := hok'.2.2.2.2.2.2.1 r (by omega)
      rw [sq_run_a5] at hokA
      obtain ⟨v, hv, ev⟩ := hokA.resolve_left z
      have hv2 : v < st.2 5 := by
        have := hok'.2.2.2.2.1.2.1
        have e5 : (sq_run st).2 5 = st.2 5 := by
          show (sq_l2 (sq_e2 (sq_p1 st))).2 5 = st.2 5
          rw [sq_l2_f5, sq_e2_f5]; rfl
        omega
      rw [ev, sq_vec_nI (by omega)]
      obtain ⟨-, -, -, -, h11, h12, -⟩ := hA
      exact ⟨h11 _ (by omega), h12 _ hv2⟩
  have hI' : sq_RN (st.2 0) ((sq_mrun ms).1 6) ((sq_run st).1 6) := by
    intro r c hr hc
    rw [sq_mrun_in ms (by omega) (by omega) (by omega), sq_run_in st o2 hr hc]
    by_cases z : c = 0
    · rw [if_pos z, if_pos z]; exact (hfed r hr).1
    · rw [if_neg z, if_neg z, show r * 6 + c - 1 = r * 6 + (c - 1) by omega]; exact hI r (c - 1) hr (by omega)
  have hM' : sq_RN (st.2 0) ((sq_mrun ms).1 10) ((sq_run st).1 10) := by
    intro r c hr hc
    rw [sq_mrun_mk ms (by omega) (by omega) (by omega), sq_run_mk st o2 hr hc]
    by_cases z : c = 0
    · rw [if_pos z, if_pos z]; exact (hfed r hr).2
    · rw [if_neg z, if_neg z, show r * 6 + c - 1 = r * 6 + (c - 1) by omega]; exact hM r (c - 1) hr (by omega)
  have hW' : sq_RN (st.2 0) ((sq_mrun ms).1 8) ((sq_run st).1 8) := by
    intro r c hr hc
    rw [sq_mrun_fa ms (by omega) (by omega) (by omega), sq_run_fa st o2 hr hc, hM' r c hr hc, hN' r c hr hc, hW r c hr hc]
  have hS' : sq_RN (st.2 0) ((sq_mrun ms).1 7) ((sq_run st).1 7) := by
    intro r c hr hc
    rw [sq_mrun_su ms (by omega) (by omega) (by omega), sq_run_su st o2 hr hc, hW' r c hr hc, hI' r c hr hc]
    by_cases z : r = 0
    · rw [if_pos z, if_pos z]
    · rw [if_neg z, if_neg z, show r * 6 + c - 6 = (r - 1) * 6 + c by omega, hS (r - 1) c (by omega) hc]
  refine ⟨hA', ?_, ?_, ⟨?_, ?_, ?_, ?_⟩, ?_, ?_, ?_⟩
  · rw [sq_run_f0, sq_mrun_mago, sq_run_a5]; exact hB'
  · rw [sq_run_f0, sq_run_a9]; exact hN'
  · rw [sq_run_f0]; exact hI'
  · rw [sq_run_f0]; exact hS'
  · rw [sq_run_f0]; exact hW'
  · rw [sq_run_f0]; exact hM'
  · intro r c hr hc
    rw [sq_run_f0] at hr hc
    rw [sq_mrun_re ms (by omega) (by omega) (by omega), sq_run_a5]
    by_cases z : c = 0
    · rw [if_pos z, z, Nat.add_zero]
      unfold sq_mreal
      rw [hB' r (by omega)]
    · rw [if_neg z, show r * 6 + c - 1 = r * 6 + (c - 1) by omega, hr1 r (c - 1) hr (by omega)]
      unfold sq_mreal
      rw [sq_ago2_s st (by omega) (by omega), show r + (c - 1) = r + c - 1 by omega]
  · intro j hj hj2
    rw [sq_run_f0] at hj
    rw [sq_mrun_ro ms (by rw [g1]; exact hj)]
    exact hr2 j hj hj2
  · intro v c hv hc hd
    have hE' := sq_E_run hok hE ht
    have hv6 := hok'.2.2.2.2.1
    have hagoC : ∀ k, k ≤ 10 → (sq_run st).1 5 k = -1 ∨ ∃ w : Nat, w < 2 ^ 31 ∧ (sq_run st).1 5 k = nI w := fun k hk => by
      rcases hok'.2.2.2.2.2.2.1 k (by omega) with e | ⟨w, hw, e⟩
      · exact Or.inl e
      · exact Or.inr ⟨w, by omega, e⟩
    rw [sq_run_f0] at hc hd
    -- the two writings
    have eC : (sq_run st).1 2 (v * 6 + c) = if (sq_run st).1 5 (st.2 0 - 1 + c) = nI v then (sq_run st).1 7 ((st.2 0 - 1) * 6 + c) else st.1 2 (v * 6 + c) := by
      have h0 : (sq_run st).1 2 = sq_keep ((sq_run st).2 0) ((sq_run st).1 5) ((sq_run st).1 7) ((sq_l2 (sq_e2 (sq_p1 st))).1 2) ((sq_run st).2 0) := rfl
      have h1 : sq_keep ((sq_run st).2 0) ((sq_run st).1 5) ((sq_run st).1 7) ((sq_l2 (sq_e2 (sq_p1 st))).1 2) ((sq_run st).2 0) = sq_keep ((sq_run st).2 0) (fun k => if k ≤ 10 then (sq_run st).1 5 k else -1) ((sq_run st).1 7) ((sq_l2 (sq_e2 (sq_p1 st))).1 2) ((sq_run st).2 0) := by
        have gen : ∀ m, m ≤ (sq_run st).2 0 → sq_keep ((sq_run st).2 0) ((sq_run st).1 5) ((sq_run st).1 7) ((sq_l2 (sq_e2 (sq_p1 st))).1 2) m = sq_keep ((sq_run st).2 0) (fun k => if k ≤ 10 then (sq_run st).1 5 k else -1) ((sq_run st).1 7) ((sq_l2 (sq_e2 (sq_p1 st))).1 2) m := by
          intro m
          induction m with
          | zero => intro _; rfl
          | succ m ih =>
            intro hm
            have hm6 := hok'.1.2
            show (if (sq_run st).1 5 ((sq_run st).2 0 - 1 + m) = -1 then _ else _) = (if (if (sq_run st).2 0 - 1 + m ≤ 10 then (sq_run st).1 5 ((sq_run st).2 0 - 1 + m) else -1) = -1 then _ else upd _ (sq_vec (if (sq_run st).2 0 - 1 + m ≤ 10 then (sq_run st).1 5 ((sq_run st).2 0 - 1 + m) else -1) * 6 + m) _)
            rw [if_pos (show (sq_run st).2 0 - 1 + m ≤ 10 by omega), ih (by omega)]
        exact gen _ (Nat.le_refl _)
      rw [h0, h1, sq_keep_at (by rw [sq_run_f0]; exact o2) (by omega) (by omega) (fun k => ?_) _ (Nat.le_refl _), sq_run_f0]
      · show (if c < st.2 0 ∧ (if st.2 0 - 1 + c ≤ 10 then (sq_run st).1 5 (st.2 0 - 1 + c) else -1) = nI v then _ else _) = _
        rw [if_pos (show st.2 0 - 1 + c ≤ 10 by omega), sq_l2_a2, sq_e2_a2]
        by_cases z : (sq_run st).1 5 (st.2 0 - 1 + c) = nI v
        · rw [if_pos ⟨hc, z⟩, if_pos z]
        · rw [if_neg (fun h => z h.2), if_neg z]; rfl
      · show (if k ≤ 10 then (sq_run st).1 5 k else -1) = -1 ∨ ∃ w : Nat, w < 2 ^ 31 ∧ (if k ≤ 10 then (sq_run st).1 5 k else -1) = nI w
        by_cases z : k ≤ 10
        · rw [if_pos z]; exact hagoC k z
        · rw [if_neg z]; exact Or.inl rfl
    have eM : (sq_mrun ms).1 4 (v * 6 + c) = if sq_mag2 ms (st.2 0 - 1 + c) = nI v then (sq_mrun ms).1 7 ((st.2 0 - 1) * 6 + c) else ms.1 4 (v * 6 + c) := by
      have h0 : (sq_mrun ms).1 4 = sq_keep ((sq_mrun ms).2 1) (sq_mago ((sq_mrun ms).2 2) ((sq_mrun ms).1 5)) ((sq_mrun ms).1 7) ((sq_ml (sq_me (sq_m1 ms))).1 4) ((sq_mrun ms).2 1) := rfl
      rw [h0, sq_keep_at (by rw [hA'.1.1, sq_run_f0]; exact o2) (by omega) (by omega) (sq_mok_ago hmok') _ (Nat.le_refl _), hA'.1.1, sq_run_f0, sq_mrun_mago, sq_ml_a4, sq_me_a4]
      by_cases z : sq_mag2 ms (st.2 0 - 1 + c) = nI v
      · rw [if_pos ⟨hc, z⟩, if_pos z]
      · rw [if_neg (fun h => z h.2), if_neg z]; rfl
    rw [eC, eM, sq_run_a5, hB' (st.2 0 - 1 + c) (by omega), hS' (st.2 0 - 1) c (by omega) hc]
    by_cases z : sq_ago2 st (st.2 0 - 1 + c) = nI v
    · rw [if_pos z, if_pos z]
    · rw [if_neg z, if_neg z]
      have h1 := hE' v hv
      rw [sq_run_f0, sq_run_a5] at h1
      -- it is no new vector
      rw [sq_run_a4] at hd h1
      by_cases y : sq_cV (sq_p1 st) = true ∧ v = st.2 6
      · rw [if_pos y] at hd h1
        rw [sq_run_1, sq_vec_nI (by omega), Nat.sub_self] at hd h1
        exact absurd (by rw [show st.2 0 - 1 + c = 0 by omega]; exact h1 (Nat.zero_le _)) z
      · rw [if_neg y] at hd h1
        have hv2 : v < st.2 6 := by
          rw [sq_run_f6] at hv
          by_cases w : sq_cV (sq_p1 st) = true
          · rw [if_pos w] at hv
            have : ¬ v = st.2 6 := fun h => y ⟨w, h⟩
            omega
          · rw [if_neg w] at hv; exact hv
        rw [sq_run_1] at hd h1
        obtain ⟨e, he, ee⟩ := o14 v hv2
        rw [ee, sq_vec_nI (by omega)] at hd h1
        refine hres v c hv2 hc ?_
        rw [ee, sq_vec_nI (by omega)]
        have : ¬ st.2 1 + 1 - e = st.2 0 - 1 + c := fun h => z (by rw [← h]; exact h1 (by omega))
        omega
theorem sq_Inv_run {st ms : SqS} (h : sq_Inv st ms) (ht : st.2 1 < 100000) : sq_Inv (sq_run st) (sq_mrun ms) := by
  obtain ⟨h1, h2, h3, h4, h5, h6⟩ := h
  have hmt : ms.2 2 < 100000 := by rw [h6.1.1.2.1]; exact ht
  exact ⟨sq_ok_run h1 ht, sq_mok_run h2 hmt, sq_J_run h1 h3, sq_Kf_run h1 h4, sq_E_run h1 h5 ht, sq_R_run h1 h2 h5 ht h6⟩
