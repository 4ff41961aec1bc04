def rmm_cycle : Room := { frames := 2, cells := 0, slots := 0, locals := 44 }
set_option maxHeartbeats 4000000 in
set_option maxRecDepth 100000 in
theorem k_cycle (l : Launch) (dC : Nat → ClassId) (dI : Nat → Nat → Nat) (h0 : Nat) (q : Nat → Nat) (cI cZ : ClassId) (ms : SqS) (x : Int32) (hok : sq_mok ms) : sq_Mi l yX1_cycle wsX1_cycle rmm_cycle [.ref h0, .int x] (dC, dI) vwCl [(cI, .int), (cZ, .boolean)] (wM h0 q cI cZ (ms.1 0) (ms.1 1) (ms.1 2) (ms.1 3) (ms.1 4) (ms.1 5) (ms.1 6) (ms.1 7) (ms.1 8) (ms.1 9) (ms.1 10) (ms.1 11) (ms.2 0) (ms.2 1) (ms.2 2) (ms.2 3) (ms.2 4) (ms.2 5) (ms.2 6) (ms.2 7) (ms.2 8) (ms.2 9) (ms.2 10)) (wM h0 q cI cZ ((sq_mC ms x).1 0) ((sq_mC ms x).1 1) ((sq_mC ms x).1 2) ((sq_mC ms x).1 3) ((sq_mC ms x).1 4) ((sq_mC ms x).1 5) ((sq_mC ms x).1 6) ((sq_mC ms x).1 7) ((sq_mC ms x).1 8) ((sq_mC ms x).1 9) ((sq_mC ms x).1 10) ((sq_mC ms x).1 11) ((sq_mC ms x).2 0) ((sq_mC ms x).2 1) ((sq_mC ms x).2 2) ((sq_mC ms x).2 3) ((sq_mC ms x).2 4) ((sq_mC ms x).2 5) ((sq_mC ms x).2 6) ((sq_mC ms x).2 7) ((sq_mC ms x).2 8) ((sq_mC ms x).2 9) ((sq_mC ms x).2 10)) (sq_mrC ms x) := by
  refine sq_ofWi (cc := cX1_cycle) (maxL := 3) (by decide) rfl (Nat.le_of_ble_eq_true rfl) (vp_nar_int _) ?_
  intro p e s m args below meth c A ls Q hx hb hts hown hml hK hP hD hS hA hl hend
  have hl : lv_has ls 3 [(0, .ref h0), (1, .int x)] := hl
  have hin : ∀ w ∈ u_ws RX1 TX1 23, w ∈ wsX1_cycle := fun w h => List.mem_cons_of_mem _ (inX1 w h)
  have k57 := hts _ (List.mem_cons_of_mem _ mfX1_57)
  obtain ⟨⟨o1, o2⟩, o3, ⟨o4, o5⟩, ⟨o6, o7⟩, ⟨o8, o9, o10⟩, o11, o12, o13, o14, o15, o16⟩ := id hok
  have T21 : ∀ (c9 : Bool) (H : Heap) (locs : List Loc) (ls : Array Slot), c9 = decide (x < 0 ∨ ¬ sq_vec x ≤ 100000 - ms.2 2) → va_P (dC, dI) vwCl (wM h0 q cI cZ (ms.1 0) (ms.1 1) (ms.1 2) (ms.1 3) (ms.1 4) (ms.1 5) (ms.1 6) (ms.1 7) (ms.1 8) (ms.1 9) (ms.1 10) (ms.1 11) (ms.2 0) (ms.2 1) (ms.2 2) (ms.2 3) (ms.2 4) (ms.2 5) (ms.2 6) (ms.2 7) (ms.2 8) (ms.2 9) (ms.2 10)) H → va_D A (wM h0 q cI cZ (ms.1 0) (ms.1 1) (ms.1 2) (ms.1 3) (ms.1 4) (ms.1 5) (ms.1 6) (ms.1 7) (ms.1 8) (ms.1 9) (ms.1 10) (ms.1 11) (ms.2 0) (ms.2 1) (ms.2 2) (ms.2 3) (ms.2 4) (ms.2 5) (ms.2 6) (ms.2 7) (ms.2 8) (ms.2 9) (ms.2 10)) → va_S A s.heap H locs → lv_has ls 3 [(0, .ref h0), (1, .int x)] → W p l e rmm_cycle s m args below meth c H locs 0 0 Q (F0 m 21 ls [.int (sq_b c9), .ref h0]) := by
    intro c9 H locs ls hpre hP hD hS hl
    subst hpre
    refine lv_iconst (v := nI 0) hx hb dX1_cycle_21 (by decide +kernel) ?_
    refine sq_calli (As := [.int (sq_b (decide (x < 0 ∨ ¬ sq_vec x ≤ 100000 - ms.2 2))), .int (sq_b false)]) (k_refuse l dC dI h0 q cI cZ (ms.1 0) (ms.1 1) (ms.1 2) (ms.1 3) (ms.1 4) (ms.1 5) (ms.1 6) (ms.1 7) (ms.1 8) (ms.1 9) (ms.1 10) (ms.1 11) (ms.2 0) (ms.2 1) (ms.2 2) (ms.2 3) (ms.2 4) (ms.2 5) (ms.2 6) (ms.2 7) (ms.2 8) (ms.2 9) (ms.2 10) (decide (x < 0 ∨ ¬ sq_vec x ≤ 100000 - ms.2 2)) false) ⟨hx, hb, hml, hown, hts⟩ (cwV 2 hts (sq_good gvX1_86) rfl rfl rfl (by decide +kernel) ⟨Nat.le_of_ble_eq_true rfl, Nat.le_of_ble_eq_true rfl⟩) hK hP hD hS hA rfl rfl rfl rfl hl.1 rfl (Nat.le_of_ble_eq_true rfl) dX1_cycle_22 ⟨Nat.zero_le _, Nat.zero_le _⟩ (fun H locs hP hD hS => ?_)
    refine lv_if_eq (tgt := 30) hx hb dX1_cycle_25 (by decide) (fun hc => ?_) (fun hc => ?_)
    · have hk : sq_mkC ms x = 0 := by have h2 : ¬ 0 < sq_mkC ms x := sq_b0d hc; omega
      have hp : ¬ (x < 0 ∨ ¬ sq_vec x ≤ 100000 - ms.2 2) := fun h => by unfold sq_mkC at hk; rw [decide_eq_true h] at hk; exact absurd hk (by decide)
      obtain ⟨n, hn, rfl⟩ := nI_of (x := x) (fun h => hp (Or.inl h))
      have e9 : sq_vec (nI n) = n := sq_vec_nI hn
      have hle : n ≤ 100000 - ms.2 2 := Decidable.byContradiction (fun h => hp (Or.inr (by rw [e9]; exact h)))
      have hP : va_P (dC, dI) vwCl (wM h0 q cI cZ (ms.1 0) (ms.1 1) (ms.1 2) (ms.1 3) (ms.1 4) (ms.1 5) (ms.1 6) (ms.1 7) (ms.1 8) (ms.1 9) (ms.1 10) (ms.1 11) (sq_mkC ms (nI n)) (ms.2 1) (ms.2 2) (ms.2 3) (ms.2 4) (ms.2 5) (ms.2 6) (ms.2 7) (ms.2 8) (ms.2 9) (ms.2 10)) H := hP
      have hD : va_D A (wM h0 q cI cZ (ms.1 0) (ms.1 1) (ms.1 2) (ms.1 3) (ms.1 4) (ms.1 5) (ms.1 6) (ms.1 7) (ms.1 8) (ms.1 9) (ms.1 10) (ms.1 11) (sq_mkC ms (nI n)) (ms.2 1) (ms.2 2) (ms.2 3) (ms.2 4) (ms.2 5) (ms.2 6) (ms.2 7) (ms.2 8) (ms.2 9) (ms.2 10)) := hD
      rw [hk] at hP hD
      have hP : va_P (dC, dI) vwCl (wM h0 q cI cZ ((sq_mt ms 0).1 0) ((sq_mt ms 0).1 1) ((sq_mt ms 0).1 2) ((sq_mt ms 0).1 3) ((sq_mt ms 0).1 4) ((sq_mt ms 0).1 5) ((sq_mt ms 0).1 6) ((sq_mt ms 0).1 7) ((sq_mt ms 0).1 8) ((sq_mt ms 0).1 9) ((sq_mt ms 0).1 10) ((sq_mt ms 0).1 11) ((sq_mt ms 0).2 0) ((sq_mt ms 0).2 1) ((sq_mt ms 0).2 2) ((sq_mt ms 0).2 3) ((sq_mt ms 0).2 4) ((sq_mt ms 0).2 5) ((sq_mt ms 0).2 6) ((sq_mt ms 0).2 7) ((sq_mt ms 0).2 8) ((sq_mt ms 0).2 9) ((sq_mt ms 0).2 10)) H := hP
      have hD : va_D A (wM h0 q cI cZ ((sq_mt ms 0).1 0) ((sq_mt ms 0).1 1) ((sq_mt ms 0).1 2) ((sq_mt ms 0).1 3) ((sq_mt ms 0).1 4) ((sq_mt ms 0).1 5) ((sq_mt ms 0).1 6) ((sq_mt ms 0).1 7) ((sq_mt ms 0).1 8) ((sq_mt ms 0).1 9) ((sq_mt ms 0).1 10) ((sq_mt ms 0).1 11) ((sq_mt ms 0).2 0) ((sq_mt ms 0).2 1) ((sq_mt ms 0).2 2) ((sq_mt ms 0).2 3) ((sq_mt ms 0).2 4) ((sq_mt ms 0).2 5) ((sq_mt ms 0).2 6) ((sq_mt ms 0).2 7) ((sq_mt ms 0).2 8) ((sq_mt ms 0).2 9) ((sq_mt ms 0).2 10)) := hD
      refine lv_iconst (v := nI 0) hx hb dX1_cycle_30 (by decide +kernel) ?_
      refine lv_istore_n (lv' := [(2, .int (nI 0)), (0, .ref h0), (1, .int (nI n))]) hx hb dX1_cycle_31 rfl hl (by decide) rfl (fun ls hl => ?_)
      have L1 : ∀ j i : Nat, i + j = n → ∀ (m1 : SqS) (H : Heap) (locs : List Loc) (ls : Array Slot), sq_mok m1 → m1.2 2 + j ≤ 100000 → sq_mloop j m1 = sq_mloop n (sq_mt ms 0) → va_P (dC, dI) vwCl (wM h0 q cI cZ (m1.1 0) (m1.1 1) (m1.1 2) (m1.1 3) (m1.1 4) (m1.1 5) (m1.1 6) (m1.1 7) (m1.1 8) (m1.1 9) (m1.1 10) (m1.1 11) (m1.2 0) (m1.2 1) (m1.2 2) (m1.2 3) (m1.2 4) (m1.2 5) (m1.2 6) (m1.2 7) (m1.2 8) (m1.2 9) (m1.2 10)) H → va_D A (wM h0 q cI cZ (m1.1 0) (m1.1 1) (m1.1 2) (m1.1 3) (m1.1 4) (m1.1 5) (m1.1 6) (m1.1 7) (m1.1 8) (m1.1 9) (m1.1 10) (m1.1 11) (m1.2 0) (m1.2 1) (m1.2 2) (m1.2 3) (m1.2 4) (m1.2 5) (m1.2 6) (m1.2 7) (m1.2 8) (m1.2 9) (m1.2 10)) → va_S A s.heap H locs → lv_has ls 3 [(2, .int (nI i)), (0, .ref h0), (1, .int (nI n))] → W p l e rmm_cycle s m args below meth c H locs 0 0 Q (F0 m 32 ls []) := by
        intro j
        induction j using Nat.strongRecOn with
        | _ j ih =>
          intro i hi m1 H locs ls hok1 ht he hP hD hS hl
          obtain ⟨⟨p1, p2⟩, p3, ⟨p4, p5⟩, ⟨p6, p7⟩, ⟨p8, p9, p10⟩, p11, p12, p13, p14, p15, p16⟩ := id hok1
          refine lv_iload_n hx hb dX1_cycle_32 rfl (lv_at hl 0 rfl) ?_
          refine lv_iload_n hx hb dX1_cycle_33 rfl (lv_at hl 2 rfl) ?_
          refine sq_icmp_ge (tgt := 65) hx hb (by omega) (by omega) dX1_cycle_34 (by decide) (fun hd => ?_) (fun hd => ?_)
          · have ej : j = 0 := by omega
            subst ej
            have he : m1 = sq_mloop n (sq_mt ms 0) := he
            refine lv_aload_n hx hb dX1_cycle_65 rfl (lv_at hl 1 rfl) ?_
            refine va_get (D := (dC, dI)) (ci := 1) (v := .int (nI (m1.2 2))) (C := RX1) (T := TX1) (N := 23) hx hb hts hin hown hK hP 0 rfl rfl 2 (by decide) k57 (fun _ h9 => h9) rfl dX1_cycle_66 ?_
            have e8 : sq_mC ms (nI n) = m1 := by unfold sq_mC; rw [if_pos hk, e9, he]
            rw [← e8] at hP hD
            have e7 : sq_mrC ms (nI n) = nI (m1.2 2) := by unfold sq_mrC; rw [if_pos hk, e9, he, sq_mloop_2]; rfl
            exact hend _ _ _ _ _ e7.symm hP hD hS dX1_cycle_69
          · obtain ⟨j1, rfl⟩ : ∃ j1, j = j1 + 1 := ⟨j - 1, by omega⟩
            have o1 := sq_mok_1 hok1 (by omega)
            have o2 := sq_mok_e o1
            have o3 := sq_mok_l o2
            refine lv_aload_n hx hb dX1_cycle_37 rfl (lv_at hl 1 rfl) ?_
            refine lv_dup hx hb dX1_cycle_38 rfl ?_
            refine va_get (D := (dC, dI)) (ci := 1) (v := .int (nI (m1.2 2))) (C := RX1) (T := TX1) (N := 23) hx hb hts hin hown hK hP 0 rfl rfl 2 (by decide) k57 (fun _ h9 => h9) rfl dX1_cycle_39 ?_
            refine lv_iconst (v := nI 1) hx hb dX1_cycle_42 (by decide +kernel) ?_
            refine sq_iadd hx hb dX1_cycle_43 ?_
            refine va_put (D := (dC, dI)) (ci := 1) (v := .int (nI ((m1.2 2) + 1))) (ty := .int) (C := RX1) (T := TX1) (N := 23) hx hb hts hin tyX1 tyX1_ok nmX1 hown hK hP hD hS 0 rfl rfl 2 (by decide) k57 (fun _ h9 => h9) rfl (by decide +kernel) rfl rfl (Nat.le_of_ble_eq_true rfl) dX1_cycle_44 (fun H locs hP hD hS => ?_)
            have hP : va_P (dC, dI) vwCl (wM h0 q cI cZ (m1.1 0) (m1.1 1) (m1.1 2) (m1.1 3) (m1.1 4) (m1.1 5) (m1.1 6) (m1.1 7) (m1.1 8) (m1.1 9) (m1.1 10) (m1.1 11) (m1.2 0) (m1.2 1) ((m1.2 2) + 1) (m1.2 3) (m1.2 4) (m1.2 5) (m1.2 6) (m1.2 7) (m1.2 8) (m1.2 9) (m1.2 10)) H := hP
            have hD : va_D A (wM h0 q cI cZ (m1.1 0) (m1.1 1) (m1.1 2) (m1.1 3) (m1.1 4) (m1.1 5) (m1.1 6) (m1.1 7) (m1.1 8) (m1.1 9) (m1.1 10) (m1.1 11) (m1.2 0) (m1.2 1) ((m1.2 2) + 1) (m1.2 3) (m1.2 4) (m1.2 5) (m1.2 6) (m1.2 7) (m1.2 8) (m1.2 9) (m1.2 10)) := hD
            have hP : va_P (dC, dI) vwCl (wM h0 q cI cZ ((sq_m1 m1).1 0) ((sq_m1 m1).1 1) ((sq_m1 m1).1 2) ((sq_m1 m1).1 3) ((sq_m1 m1).1 4) ((sq_m1 m1).1 5) ((sq_m1 m1).1 6) ((sq_m1 m1).1 7) ((sq_m1 m1).1 8) ((sq_m1 m1).1 9) ((sq_m1 m1).1 10) ((sq_m1 m1).1 11) ((sq_m1 m1).2 0) ((sq_m1 m1).2 1) ((sq_m1 m1).2 2) ((sq_m1 m1).2 3) ((sq_m1 m1).2 4) ((sq_m1 m1).2 5) ((sq_m1 m1).2 6) ((sq_m1 m1).2 7) ((sq_m1 m1).2 8) ((sq_m1 m1).2 9) ((sq_m1 m1).2 10)) H := hP
            have hD : va_D A (wM h0 q cI cZ ((sq_m1 m1).1 0) ((sq_m1 m1).1 1) ((sq_m1 m1).1 2) ((sq_m1 m1).1 3) ((sq_m1 m1).1 4) ((sq_m1 m1).1 5) ((sq_m1 m1).1 6) ((sq_m1 m1).1 7) ((sq_m1 m1).1 8) ((sq_m1 m1).1 9) ((sq_m1 m1).1 10) ((sq_m1 m1).1 11) ((sq_m1 m1).2 0) ((sq_m1 m1).2 1) ((sq_m1 m1).2 2) ((sq_m1 m1).2 3) ((sq_m1 m1).2 4) ((sq_m1 m1).2 5) ((sq_m1 m1).2 6) ((sq_m1 m1).2 7) ((sq_m1 m1).2 8) ((sq_m1 m1).2 9) ((sq_m1 m1).2 10)) := hD
            refine lv_aload_n hx hb dX1_cycle_47 rfl (lv_at hl 1 rfl) ?_
            refine sq_callv (As := []) (k_enter l dC dI h0 q cI cZ (sq_m1 m1) o1) ⟨hx, hb, hml, hown, hts⟩ (cwV 0 hts (sq_good gvX1_102) rfl rfl rfl (by decide +kernel) ⟨Nat.le_of_ble_eq_true rfl, Nat.le_of_ble_eq_true rfl⟩) hK hP hD hS hA rfl rfl rfl rfl hl.1 rfl (Nat.le_of_ble_eq_true rfl) dX1_cycle_48 ⟨Nat.zero_le _, Nat.zero_le _⟩ (fun H locs hP hD hS => ?_)
            refine lv_aload_n hx hb dX1_cycle_51 rfl (lv_at hl 1 rfl) ?_
            refine sq_callv (As := []) (k_letIn l dC dI h0 q cI cZ (sq_me (sq_m1 m1)) o2) ⟨hx, hb, hml, hown, hts⟩ (cwV 0 hts (sq_good gvX1_105) rfl rfl rfl (by decide +kernel) ⟨Nat.le_of_ble_eq_true rfl, Nat.le_of_ble_eq_true rfl⟩) hK hP hD hS hA rfl rfl rfl rfl hl.1 rfl (Nat.le_of_ble_eq_true rfl) dX1_cycle_52 ⟨Nat.zero_le _, Nat.zero_le _⟩ (fun H locs hP hD hS => ?_)
            refine lv_aload_n hx hb dX1_cycle_55 rfl (lv_at hl 1 rfl) ?_
            refine sq_callv (As := []) (k_goOn l dC dI h0 q cI cZ (sq_ml (sq_me (sq_m1 m1))) o3) ⟨hx, hb, hml, hown, hts⟩ (cwV 0 hts (sq_good gvX1_108) rfl rfl rfl (by decide +kernel) ⟨Nat.le_of_ble_eq_true rfl, Nat.le_of_ble_eq_true rfl⟩) hK hP hD hS hA rfl rfl rfl rfl hl.1 rfl (Nat.le_of_ble_eq_true rfl) dX1_cycle_56 ⟨Nat.zero_le _, Nat.zero_le _⟩ (fun H locs hP hD hS => ?_)
            have hP : va_P (dC, dI) vwCl (wM h0 q cI cZ ((sq_mrun m1).1 0) ((sq_mrun m1).1 1) ((sq_mrun m1).1 2) ((sq_mrun m1).1 3) ((sq_mrun m1).1 4) ((sq_mrun m1).1 5) ((sq_mrun m1).1 6) ((sq_mrun m1).1 7) ((sq_mrun m1).1 8) ((sq_mrun m1).1 9) ((sq_mrun m1).1 10) ((sq_mrun m1).1 11) ((sq_mrun m1).2 0) ((sq_mrun m1).2 1) ((sq_mrun m1).2 2) ((sq_mrun m1).2 3) ((sq_mrun m1).2 4) ((sq_mrun m1).2 5) ((sq_mrun m1).2 6) ((sq_mrun m1).2 7) ((sq_mrun m1).2 8) ((sq_mrun m1).2 9) ((sq_mrun m1).2 10)) H := hP
            have hD : va_D A (wM h0 q cI cZ ((sq_mrun m1).1 0) ((sq_mrun m1).1 1) ((sq_mrun m1).1 2) ((sq_mrun m1).1 3) ((sq_mrun m1).1 4) ((sq_mrun m1).1 5) ((sq_mrun m1).1 6) ((sq_mrun m1).1 7) ((sq_mrun m1).1 8) ((sq_mrun m1).1 9) ((sq_mrun m1).1 10) ((sq_mrun m1).1 11) ((sq_mrun m1).2 0) ((sq_mrun m1).2 1) ((sq_mrun m1).2 2) ((sq_mrun m1).2 3) ((sq_mrun m1).2 4) ((sq_mrun m1).2 5) ((sq_mrun m1).2 6) ((sq_mrun m1).2 7) ((sq_mrun m1).2 8) ((sq_mrun m1).2 9) ((sq_mrun m1).2 10)) := hD
            refine lv_iinc (v := nI (i + 1)) (lv' := [(2, .int (nI (i + 1))), (0, .ref h0), (1, .int (nI n))]) hx hb dX1_cycle_59 hl (k := 0) rfl (sq_inc _) (by decide) rfl (fun ls hl => ?_)
            refine lv_goto (tgt := 32) hx hb dX1_cycle_62 (by decide) ?_
            exact ih j1 (by omega) (i + 1) (by omega) (sq_mrun m1) H locs ls (sq_mok_run hok1 (by omega)) (by rw [sq_mrun_2]; omega) he hP hD hS hl
      exact L1 n 0 (by omega) (sq_mt ms 0) H locs ls (sq_mok_t hok 0) (show ms.2 2 + n ≤ 100000 by omega) rfl hP hD hS (lv_sub hl [0, 1, 2] rfl)
    · refine lv_iconst (v := nI 0) hx hb dX1_cycle_28 (by decide +kernel) ?_
      have hP : va_P (dC, dI) vwCl (wM h0 q cI cZ ((sq_mt ms (sq_mkC ms x)).1 0) ((sq_mt ms (sq_mkC ms x)).1 1) ((sq_mt ms (sq_mkC ms x)).1 2) ((sq_mt ms (sq_mkC ms x)).1 3) ((sq_mt ms (sq_mkC ms x)).1 4) ((sq_mt ms (sq_mkC ms x)).1 5) ((sq_mt ms (sq_mkC ms x)).1 6) ((sq_mt ms (sq_mkC ms x)).1 7) ((sq_mt ms (sq_mkC ms x)).1 8) ((sq_mt ms (sq_mkC ms x)).1 9) ((sq_mt ms (sq_mkC ms x)).1 10) ((sq_mt ms (sq_mkC ms x)).1 11) ((sq_mt ms (sq_mkC ms x)).2 0) ((sq_mt ms (sq_mkC ms x)).2 1) ((sq_mt ms (sq_mkC ms x)).2 2) ((sq_mt ms (sq_mkC ms x)).2 3) ((sq_mt ms (sq_mkC ms x)).2 4) ((sq_mt ms (sq_mkC ms x)).2 5) ((sq_mt ms (sq_mkC ms x)).2 6) ((sq_mt ms (sq_mkC ms x)).2 7) ((sq_mt ms (sq_mkC ms x)).2 8) ((sq_mt ms (sq_mkC ms x)).2 9) ((sq_mt ms (sq_mkC ms x)).2 10)) H := hP
      have hD : va_D A (wM h0 q cI cZ ((sq_mt ms (sq_mkC ms x)).1 0) ((sq_mt ms (sq_mkC ms x)).1 1) ((sq_mt ms (sq_mkC ms x)).1 2) ((sq_mt ms (sq_mkC ms x)).1 3) ((sq_mt ms (sq_mkC ms x)).1 4) ((sq_mt ms (sq_mkC ms x)).1 5) ((sq_mt ms (sq_mkC ms x)).1 6) ((sq_mt ms (sq_mkC ms x)).1 7) ((sq_mt ms (sq_mkC ms x)).1 8) ((sq_mt ms (sq_mkC ms x)).1 9) ((sq_mt ms (sq_mkC ms x)).1 10) ((sq_mt ms (sq_mkC ms x)).1 11) ((sq_mt ms (sq_mkC ms x)).2 0) ((sq_mt ms (sq_mkC ms x)).2 1) ((sq_mt ms (sq_mkC ms x)).2 2) ((sq_mt ms (sq_mkC ms x)).2 3) ((sq_mt ms (sq_mkC ms x)).2 4) ((sq_mt ms (sq_mkC ms x)).2 5) ((sq_mt ms (sq_mkC ms x)).2 6) ((sq_mt ms (sq_mkC ms x)).2 7) ((sq_mt ms (sq_mkC ms x)).2 8) ((sq_mt ms (sq_mkC ms x)).2 9) ((sq_mt ms (sq_mkC ms x)).2 10)) := hD
      have hk : ¬ sq_mkC ms x = 0 := by have h2 : 0 < sq_mkC ms x := sq_bnd hc; omega
      have e9 : sq_mC ms x = sq_mt ms (sq_mkC ms x) := by unfold sq_mC; rw [if_neg hk]
      rw [← e9] at hP hD
      exact hend _ _ _ _ _ (by unfold sq_mrC; rw [if_neg hk]; rfl) hP hD hS dX1_cycle_29
  refine lv_aload_n hx hb dX1_cycle_0 rfl (lv_at hl 0 rfl) ?_
  refine lv_iload_n hx hb dX1_cycle_1 rfl (lv_at hl 1 rfl) ?_
  refine lv_if_lt (tgt := 16) hx hb dX1_cycle_2 (by decide) (fun hc => ?_) (fun hc => ?_)
  · refine lv_iconst (v := nI 1) hx hb dX1_cycle_16 (by decide +kernel) ?_
    refine lv_goto (tgt := 21) hx hb dX1_cycle_17 (by decide) ?_
    exact T21 true _ _ ls (decide_eq_true (Or.inl hc)).symm hP hD hS hl
  · obtain ⟨n, hn, rfl⟩ := nI_of hc
    have e9 : sq_vec (nI n) = n := sq_vec_nI hn
    refine lv_iload_n hx hb dX1_cycle_5 rfl (lv_at hl 1 rfl) ?_
    refine lv_ldc (v := 100000) hx hb hown (hts _ (List.mem_cons_of_mem _ mnX1_101)) dX1_cycle_6 ?_
    refine sq_top (show (100000 : Int32) = nI 100000 by decide +kernel) ?_
    refine lv_aload_n hx hb dX1_cycle_8 rfl (lv_at hl 0 rfl) ?_
    refine va_get (D := (dC, dI)) (ci := 1) (v := .int (nI (ms.2 2))) (C := RX1) (T := TX1) (N := 23) hx hb hts hin hown hK hP 0 rfl rfl 2 (by decide) k57 (fun _ h9 => h9) rfl dX1_cycle_9 ?_
    refine sq_isub hx hb (by omega) dX1_cycle_12 ?_
    refine sq_icmp_le (tgt := 20) hx hb (by omega) (by omega) dX1_cycle_13 (by decide) (fun hd => ?_) (fun hd => ?_)
    · refine lv_iconst (v := nI 0) hx hb dX1_cycle_20 (by decide +kernel) ?_
      exact T21 false _ _ ls (decide_eq_false (fun h => h.elim hc (fun h => h (by rw [e9]; exact hd)))).symm hP hD hS hl
    · refine lv_iconst (v := nI 1) hx hb dX1_cycle_16 (by decide +kernel) ?_
      refine lv_goto (tgt := 21) hx hb dX1_cycle_17 (by decide) ?_
      exact T21 true _ _ ls (decide_eq_true (Or.inr (by rw [e9]; omega))).symm hP hD hS hl
def rmm_cell : Room := { frames := 1, cells := 0, slots := 0, locals := 22 }
set_option maxHeartbeats 4000000 in
set_option maxRecDepth 100000 in
theorem k_cell (l : Launch) (dC : Nat → ClassId) (dI : Nat → Nat → Nat) (h0 : Nat) (q : Nat → Nat) (cI cZ : ClassId) (ms : SqS) (x y w : Int32) (hok : sq_mok ms) : sq_Mi l yX1_cell wsX1_cell rmm_cell [.ref h0, .int x, .int y, .int w] (dC, dI) vwCl [(cI, .int), (cZ, .boolean)] (wM h0 q cI cZ (ms.1 0) (ms.1 1) (ms.1 2) (ms.1 3) (ms.1 4) (ms.1 5) (ms.1 6) (ms.1 7) (ms.1 8) (ms.1 9) (ms.1 10) (ms.1 11) (ms.2 0) (ms.2 1) (ms.2 2) (ms.2 3) (ms.2 4) (ms.2 5) (ms.2 6) (ms.2 7) (ms.2 8) (ms.2 9) (ms.2 10)) (wM h0 q cI cZ ((sq_mt ms (sq_mkL ms x y w)).1 0) ((sq_mt ms (sq_mkL ms x y w)).1 1) ((sq_mt ms (sq_mkL ms x y w)).1 2) ((sq_mt ms (sq_mkL ms x y w)).1 3) ((sq_mt ms (sq_mkL ms x y w)).1 4) ((sq_mt ms (sq_mkL ms x y w)).1 5) ((sq_mt ms (sq_mkL ms x y w)).1 6) ((sq_mt ms (sq_mkL ms x y w)).1 7) ((sq_mt ms (sq_mkL ms x y w)).1 8) ((sq_mt ms (sq_mkL ms x y w)).1 9) ((sq_mt ms (sq_mkL ms x y w)).1 10) ((sq_mt ms (sq_mkL ms x y w)).1 11) ((sq_mt ms (sq_mkL ms x y w)).2 0) ((sq_mt ms (sq_mkL ms x y w)).2 1) ((sq_mt ms (sq_mkL ms x y w)).2 2) ((sq_mt ms (sq_mkL ms x y w)).2 3) ((sq_mt ms (sq_mkL ms x y w)).2 4) ((sq_mt ms (sq_mkL ms x y w)).2 5) ((sq_mt ms (sq_mkL ms x y w)).2 6) ((sq_mt ms (sq_mkL ms x y w)).2 7) ((sq_mt ms (sq_mkL ms x y w)).2 8) ((sq_mt ms (sq_mkL ms x y w)).2 9) ((sq_mt ms (sq_mkL ms x y w)).2 10)) (sq_mrL ms x y w) := by
  refine sq_ofWi (cc := cX1_cell) (maxL := 6) (by decide) rfl (Nat.le_of_ble_eq_true rfl) (vp_nar_int _) ?_
  intro p e s m args below meth c A ls Q hx hb hts hown hml hK hP hD hS hA hl hend
  have hl : lv_has ls 6 [(0, .ref h0), (1, .int x), (2, .int y), (3, .int w)] := hl
  have hin : ∀ w ∈ u_ws RX1 TX1 23, w ∈ wsX1_cell := fun w h => List.mem_cons_of_mem _ (inX1 w h)
  have k7 := hts _ (List.mem_cons_of_mem _ mfX1_7)
  have k33 := hts _ (List.mem_cons_of_mem _ mfX1_33)
  have k36 := hts _ (List.mem_cons_of_mem _ mfX1_36)
  have k39 := hts _ (List.mem_cons_of_mem _ mfX1_39)
  have k42 := hts _ (List.mem_cons_of_mem _ mfX1_42)
  have k45 := hts _ (List.mem_cons_of_mem _ mfX1_45)
  obtain ⟨⟨o1, o2⟩, o3, ⟨o4, o5⟩, ⟨o6, o7⟩, ⟨o8, o9, o10⟩, o11, o12, o13, o14, o15, o16⟩ := id hok
  have T0 : ∀ (H : Heap) (locs : List Loc) (ls : Array Slot), ¬ (sq_mi (ms.2 1) x ∧ sq_mi (ms.2 1) y) → va_P (dC, dI) vwCl (wM h0 q cI cZ (ms.1 0) (ms.1 1) (ms.1 2) (ms.1 3) (ms.1 4) (ms.1 5) (ms.1 6) (ms.1 7) (ms.1 8) (ms.1 9) (ms.1 10) (ms.1 11) (ms.2 0) (ms.2 1) (ms.2 2) (ms.2 3) (ms.2 4) (ms.2 5) (ms.2 6) (ms.2 7) (ms.2 8) (ms.2 9) (ms.2 10)) H → va_D A (wM h0 q cI cZ (ms.1 0) (ms.1 1) (ms.1 2) (ms.1 3) (ms.1 4) (ms.1 5) (ms.1 6) (ms.1 7) (ms.1 8) (ms.1 9) (ms.1 10) (ms.1 11) (ms.2 0) (ms.2 1) (ms.2 2) (ms.2 3) (ms.2 4) (ms.2 5) (ms.2 6) (ms.2 7) (ms.2 8) (ms.2 9) (ms.2 10)) → va_S A s.heap H locs → lv_has ls 6 [(0, .ref h0), (1, .int x), (2, .int y), (3, .int w)] → W p l e rmm_cell s m args below meth c H locs 0 0 Q (F0 m 33 ls [.int (nI 0)]) := by
    intro H locs ls hpre hP hD hS hl
    refine lv_istore (lv' := [(4, .int (nI 0)), (0, .ref h0), (1, .int x), (2, .int y), (3, .int w)]) hx hb dX1_cell_33 hl (by decide) rfl (fun ls hl => ?_)
    refine lv_aload_n hx hb dX1_cell_35 rfl (lv_at hl 1 rfl) ?_
    refine lv_iload hx hb dX1_cell_36 (lv_at hl 0 rfl) ?_
    refine sq_if_ne (tgt := 45) hx hb (by omega) dX1_cell_38 (by decide) (fun hq => ?_) (fun hq => ?_)
    · exact absurd hq (by decide)
    · refine lv_iconst (v := nI 1) hx hb dX1_cell_41 (by decide +kernel) ?_
      refine lv_goto (tgt := 46) hx hb dX1_cell_42 (by decide) ?_
      refine lv_iload hx hb dX1_cell_46 (lv_at hl 0 rfl) ?_
      refine sq_if_eq (tgt := 64) hx hb (by omega) dX1_cell_48 (by decide) (fun hq => ?_) (fun hq => ?_)
      · refine lv_iconst (v := nI 0) hx hb dX1_cell_64 (by decide +kernel) ?_
        refine sq_calli (As := [.int (sq_b true), .int (sq_b false)]) (k_refuse l dC dI h0 q cI cZ (ms.1 0) (ms.1 1) (ms.1 2) (ms.1 3) (ms.1 4) (ms.1 5) (ms.1 6) (ms.1 7) (ms.1 8) (ms.1 9) (ms.1 10) (ms.1 11) (ms.2 0) (ms.2 1) (ms.2 2) (ms.2 3) (ms.2 4) (ms.2 5) (ms.2 6) (ms.2 7) (ms.2 8) (ms.2 9) (ms.2 10) true false) ⟨hx, hb, hml, hown, hts⟩ (cwV 2 hts (sq_good gvX1_86) rfl rfl rfl (by decide +kernel) ⟨Nat.le_of_ble_eq_true rfl, Nat.le_of_ble_eq_true rfl⟩) hK hP hD hS hA rfl rfl rfl rfl hl.1 rfl (Nat.le_of_ble_eq_true rfl) dX1_cell_65 ⟨Nat.zero_le _, Nat.zero_le _⟩ (fun H locs hP hD hS => ?_)
        refine lv_if_eq (tgt := 73) hx hb dX1_cell_68 (by decide) (fun hq => ?_) (fun hq => ?_)
        · exact absurd hq (by decide)
        · refine lv_iconst (v := nI 0) hx hb dX1_cell_71 (by decide +kernel) ?_
          have hk : sq_mkL ms x y w = 1 := by unfold sq_mkL; rw [if_pos hpre]
          have hP : va_P (dC, dI) vwCl (wM h0 q cI cZ (ms.1 0) (ms.1 1) (ms.1 2) (ms.1 3) (ms.1 4) (ms.1 5) (ms.1 6) (ms.1 7) (ms.1 8) (ms.1 9) (ms.1 10) (ms.1 11) 1 (ms.2 1) (ms.2 2) (ms.2 3) (ms.2 4) (ms.2 5) (ms.2 6) (ms.2 7) (ms.2 8) (ms.2 9) (ms.2 10)) H := hP
          have hD : va_D A (wM h0 q cI cZ (ms.1 0) (ms.1 1) (ms.1 2) (ms.1 3) (ms.1 4) (ms.1 5) (ms.1 6) (ms.1 7) (ms.1 8) (ms.1 9) (ms.1 10) (ms.1 11) 1 (ms.2 1) (ms.2 2) (ms.2 3) (ms.2 4) (ms.2 5) (ms.2 6) (ms.2 7) (ms.2 8) (ms.2 9) (ms.2 10)) := hD
          have e9 : (wM h0 q cI cZ ((sq_mt ms (sq_mkL ms x y w)).1 0) ((sq_mt ms (sq_mkL ms x y w)).1 1) ((sq_mt ms (sq_mkL ms x y w)).1 2) ((sq_mt ms (sq_mkL ms x y w)).1 3) ((sq_mt ms (sq_mkL ms x y w)).1 4) ((sq_mt ms (sq_mkL ms x y w)).1 5) ((sq_mt ms (sq_mkL ms x y w)).1 6) ((sq_mt ms (sq_mkL ms x y w)).1 7) ((sq_mt ms (sq_mkL ms x y w)).1 8) ((sq_mt ms (sq_mkL ms x y w)).1 9) ((sq_mt ms (sq_mkL ms x y w)).1 10) ((sq_mt ms (sq_mkL ms x y w)).1 11) ((sq_mt ms (sq_mkL ms x y w)).2 0) ((sq_mt ms (sq_mkL ms x y w)).2 1) ((sq_mt ms (sq_mkL ms x y w)).2 2) ((sq_mt ms (sq_mkL ms x y w)).2 3) ((sq_mt ms (sq_mkL ms x y w)).2 4) ((sq_mt ms (sq_mkL ms x y w)).2 5) ((sq_mt ms (sq_mkL ms x y w)).2 6) ((sq_mt ms (sq_mkL ms x y w)).2 7) ((sq_mt ms (sq_mkL ms x y w)).2 8) ((sq_mt ms (sq_mkL ms x y w)).2 9) ((sq_mt ms (sq_mkL ms x y w)).2 10)) = (wM h0 q cI cZ ((sq_mt ms 1).1 0) ((sq_mt ms 1).1 1) ((sq_mt ms 1).1 2) ((sq_mt ms 1).1 3) ((sq_mt ms 1).1 4) ((sq_mt ms 1).1 5) ((sq_mt ms 1).1 6) ((sq_mt ms 1).1 7) ((sq_mt ms 1).1 8) ((sq_mt ms 1).1 9) ((sq_mt ms 1).1 10) ((sq_mt ms 1).1 11) ((sq_mt ms 1).2 0) ((sq_mt ms 1).2 1) ((sq_mt ms 1).2 2) ((sq_mt ms 1).2 3) ((sq_mt ms 1).2 4) ((sq_mt ms 1).2 5) ((sq_mt ms 1).2 6) ((sq_mt ms 1).2 7) ((sq_mt ms 1).2 8) ((sq_mt ms 1).2 9) ((sq_mt ms 1).2 10)) := by rw [hk]
          have hP : va_P (dC, dI) vwCl (wM h0 q cI cZ ((sq_mt ms 1).1 0) ((sq_mt ms 1).1 1) ((sq_mt ms 1).1 2) ((sq_mt ms 1).1 3) ((sq_mt ms 1).1 4) ((sq_mt ms 1).1 5) ((sq_mt ms 1).1 6) ((sq_mt ms 1).1 7) ((sq_mt ms 1).1 8) ((sq_mt ms 1).1 9) ((sq_mt ms 1).1 10) ((sq_mt ms 1).1 11) ((sq_mt ms 1).2 0) ((sq_mt ms 1).2 1) ((sq_mt ms 1).2 2) ((sq_mt ms 1).2 3) ((sq_mt ms 1).2 4) ((sq_mt ms 1).2 5) ((sq_mt ms 1).2 6) ((sq_mt ms 1).2 7) ((sq_mt ms 1).2 8) ((sq_mt ms 1).2 9) ((sq_mt ms 1).2 10)) H := hP
          have hD : va_D A (wM h0 q cI cZ ((sq_mt ms 1).1 0) ((sq_mt ms 1).1 1) ((sq_mt ms 1).1 2) ((sq_mt ms 1).1 3) ((sq_mt ms 1).1 4) ((sq_mt ms 1).1 5) ((sq_mt ms 1).1 6) ((sq_mt ms 1).1 7) ((sq_mt ms 1).1 8) ((sq_mt ms 1).1 9) ((sq_mt ms 1).1 10) ((sq_mt ms 1).1 11) ((sq_mt ms 1).2 0) ((sq_mt ms 1).2 1) ((sq_mt ms 1).2 2) ((sq_mt ms 1).2 3) ((sq_mt ms 1).2 4) ((sq_mt ms 1).2 5) ((sq_mt ms 1).2 6) ((sq_mt ms 1).2 7) ((sq_mt ms 1).2 8) ((sq_mt ms 1).2 9) ((sq_mt ms 1).2 10)) := hD
          rw [← e9] at hP hD
          exact hend _ _ _ _ _ (by unfold sq_mrL; rw [hk, if_neg (by decide)]; rfl) hP hD hS dX1_cell_72
      · exact absurd hq (by decide)
  have T1 : ∀ (H : Heap) (locs : List Loc) (ls : Array Slot), (sq_mi (ms.2 1) x ∧ sq_mi (ms.2 1) y) → va_P (dC, dI) vwCl (wM h0 q cI cZ (ms.1 0) (ms.1 1) (ms.1 2) (ms.1 3) (ms.1 4) (ms.1 5) (ms.1 6) (ms.1 7) (ms.1 8) (ms.1 9) (ms.1 10) (ms.1 11) (ms.2 0) (ms.2 1) (ms.2 2) (ms.2 3) (ms.2 4) (ms.2 5) (ms.2 6) (ms.2 7) (ms.2 8) (ms.2 9) (ms.2 10)) H → va_D A (wM h0 q cI cZ (ms.1 0) (ms.1 1) (ms.1 2) (ms.1 3) (ms.1 4) (ms.1 5) (ms.1 6) (ms.1 7) (ms.1 8) (ms.1 9) (ms.1 10) (ms.1 11) (ms.2 0) (ms.2 1) (ms.2 2) (ms.2 3) (ms.2 4) (ms.2 5) (ms.2 6) (ms.2 7) (ms.2 8) (ms.2 9) (ms.2 10)) → va_S A s.heap H locs → lv_has ls 6 [(0, .ref h0), (1, .int x), (2, .int y), (3, .int w)] → W p l e rmm_cell s m args below meth c H locs 0 0 Q (F0 m 33 ls [.int (nI 1)]) := by
    intro H locs ls hpre hP hD hS hl
    refine lv_istore (lv' := [(4, .int (nI 1)), (0, .ref h0), (1, .int x), (2, .int y), (3, .int w)]) hx hb dX1_cell_33 hl (by decide) rfl (fun ls hl => ?_)
    refine lv_aload_n hx hb dX1_cell_35 rfl (lv_at hl 1 rfl) ?_
    refine lv_iload hx hb dX1_cell_36 (lv_at hl 0 rfl) ?_
    refine sq_if_ne (tgt := 45) hx hb (by omega) dX1_cell_38 (by decide) (fun hq => ?_) (fun hq => ?_)
    · refine lv_iconst (v := nI 0) hx hb dX1_cell_45 (by decide +kernel) ?_
      refine lv_iload hx hb dX1_cell_46 (lv_at hl 0 rfl) ?_
      refine sq_if_eq (tgt := 64) hx hb (by omega) dX1_cell_48 (by decide) (fun hq => ?_) (fun hq => ?_)
      · exact absurd hq (by decide)
      · refine lv_iload_n hx hb dX1_cell_51 rfl (lv_at hl 4 rfl) ?_
        refine lv_iconst (v := nI 0) hx hb dX1_cell_52 (by decide +kernel) ?_
        refine lv_iconst (v := nI 4) hx hb dX1_cell_53 (by decide +kernel) ?_
        refine sq_callsi (As := [.int w, .int (nI 0), .int (nI 4)]) (k_in l (dC, dI) vwCl [(cI, .int), (cZ, .boolean)] (wM h0 q cI cZ (ms.1 0) (ms.1 1) (ms.1 2) (ms.1 3) (ms.1 4) (ms.1 5) (ms.1 6) (ms.1 7) (ms.1 8) (ms.1 9) (ms.1 10) (ms.1 11) (ms.2 0) (ms.2 1) (ms.2 2) (ms.2 3) (ms.2 4) (ms.2 5) (ms.2 6) (ms.2 7) (ms.2 8) (ms.2 9) (ms.2 10)) w (nI 0) (nI 4)) ⟨hx, hb, hml, hown, hts⟩ (va_cwS 3 hts (sq_good gsX1_82) rfl rfl rfl (by decide +kernel) ⟨Nat.le_of_ble_eq_true rfl, Nat.le_of_ble_eq_true rfl⟩) hK hP hD hS hA rfl hl.1 rfl (Nat.le_of_ble_eq_true rfl) dX1_cell_54 ⟨Nat.zero_le _, Nat.zero_le _⟩ (fun H locs hP hD hS => ?_)
        refine lv_if_ne (tgt := 64) hx hb dX1_cell_57 (by decide) (fun hw => ?_) (fun hw => ?_)
        · have hw2 : ¬ w < nI 0 ∧ ¬ nI 4 < w := sq_bnd hw
          have hk : sq_mkL ms x y w = 0 := by unfold sq_mkL; rw [if_neg (fun h => h hpre), if_pos hw2]
          refine lv_iconst (v := nI 0) hx hb dX1_cell_64 (by decide +kernel) ?_
          refine sq_calli (As := [.int (sq_b false), .int (sq_b false)]) (k_refuse l dC dI h0 q cI cZ (ms.1 0) (ms.1 1) (ms.1 2) (ms.1 3) (ms.1 4) (ms.1 5) (ms.1 6) (ms.1 7) (ms.1 8) (ms.1 9) (ms.1 10) (ms.1 11) (ms.2 0) (ms.2 1) (ms.2 2) (ms.2 3) (ms.2 4) (ms.2 5) (ms.2 6) (ms.2 7) (ms.2 8) (ms.2 9) (ms.2 10) false false) ⟨hx, hb, hml, hown, hts⟩ (cwV 2 hts (sq_good gvX1_86) rfl rfl rfl (by decide +kernel) ⟨Nat.le_of_ble_eq_true rfl, Nat.le_of_ble_eq_true rfl⟩) hK hP hD hS hA rfl rfl rfl rfl hl.1 rfl (Nat.le_of_ble_eq_true rfl) dX1_cell_65 ⟨Nat.zero_le _, Nat.zero_le _⟩ (fun H locs hP hD hS => ?_)
          refine lv_if_eq (tgt := 73) hx hb dX1_cell_68 (by decide) (fun hq => ?_) (fun hq => ?_)
          · have hP : va_P (dC, dI) vwCl (wM h0 q cI cZ (ms.1 0) (ms.1 1) (ms.1 2) (ms.1 3) (ms.1 4) (ms.1 5) (ms.1 6) (ms.1 7) (ms.1 8) (ms.1 9) (ms.1 10) (ms.1 11) 0 (ms.2 1) (ms.2 2) (ms.2 3) (ms.2 4) (ms.2 5) (ms.2 6) (ms.2 7) (ms.2 8) (ms.2 9) (ms.2 10)) H := hP
            have hD : va_D A (wM h0 q cI cZ (ms.1 0) (ms.1 1) (ms.1 2) (ms.1 3) (ms.1 4) (ms.1 5) (ms.1 6) (ms.1 7) (ms.1 8) (ms.1 9) (ms.1 10) (ms.1 11) 0 (ms.2 1) (ms.2 2) (ms.2 3) (ms.2 4) (ms.2 5) (ms.2 6) (ms.2 7) (ms.2 8) (ms.2 9) (ms.2 10)) := hD
            have hP : va_P (dC, dI) vwCl (wM h0 q cI cZ ((sq_mt ms 0).1 0) ((sq_mt ms 0).1 1) ((sq_mt ms 0).1 2) ((sq_mt ms 0).1 3) ((sq_mt ms 0).1 4) ((sq_mt ms 0).1 5) ((sq_mt ms 0).1 6) ((sq_mt ms 0).1 7) ((sq_mt ms 0).1 8) ((sq_mt ms 0).1 9) ((sq_mt ms 0).1 10) ((sq_mt ms 0).1 11) ((sq_mt ms 0).2 0) ((sq_mt ms 0).2 1) ((sq_mt ms 0).2 2) ((sq_mt ms 0).2 3) ((sq_mt ms 0).2 4) ((sq_mt ms 0).2 5) ((sq_mt ms 0).2 6) ((sq_mt ms 0).2 7) ((sq_mt ms 0).2 8) ((sq_mt ms 0).2 9) ((sq_mt ms 0).2 10)) H := hP
            have hD : va_D A (wM h0 q cI cZ ((sq_mt ms 0).1 0) ((sq_mt ms 0).1 1) ((sq_mt ms 0).1 2) ((sq_mt ms 0).1 3) ((sq_mt ms 0).1 4) ((sq_mt ms 0).1 5) ((sq_mt ms 0).1 6) ((sq_mt ms 0).1 7) ((sq_mt ms 0).1 8) ((sq_mt ms 0).1 9) ((sq_mt ms 0).1 10) ((sq_mt ms 0).1 11) ((sq_mt ms 0).2 0) ((sq_mt ms 0).2 1) ((sq_mt ms 0).2 2) ((sq_mt ms 0).2 3) ((sq_mt ms 0).2 4) ((sq_mt ms 0).2 5) ((sq_mt ms 0).2 6) ((sq_mt ms 0).2 7) ((sq_mt ms 0).2 8) ((sq_mt ms 0).2 9) ((sq_mt ms 0).2 10)) := hD
            have e9 : (wM h0 q cI cZ ((sq_mt ms (sq_mkL ms x y w)).1 0) ((sq_mt ms (sq_mkL ms x y w)).1 1) ((sq_mt ms (sq_mkL ms x y w)).1 2) ((sq_mt ms (sq_mkL ms x y w)).1 3) ((sq_mt ms (sq_mkL ms x y w)).1 4) ((sq_mt ms (sq_mkL ms x y w)).1 5) ((sq_mt ms (sq_mkL ms x y w)).1 6) ((sq_mt ms (sq_mkL ms x y w)).1 7) ((sq_mt ms (sq_mkL ms x y w)).1 8) ((sq_mt ms (sq_mkL ms x y w)).1 9) ((sq_mt ms (sq_mkL ms x y w)).1 10) ((sq_mt ms (sq_mkL ms x y w)).1 11) ((sq_mt ms (sq_mkL ms x y w)).2 0) ((sq_mt ms (sq_mkL ms x y w)).2 1) ((sq_mt ms (sq_mkL ms x y w)).2 2) ((sq_mt ms (sq_mkL ms x y w)).2 3) ((sq_mt ms (sq_mkL ms x y w)).2 4) ((sq_mt ms (sq_mkL ms x y w)).2 5) ((sq_mt ms (sq_mkL ms x y w)).2 6) ((sq_mt ms (sq_mkL ms x y w)).2 7) ((sq_mt ms (sq_mkL ms x y w)).2 8) ((sq_mt ms (sq_mkL ms x y w)).2 9) ((sq_mt ms (sq_mkL ms x y w)).2 10)) = (wM h0 q cI cZ ((sq_mt ms 0).1 0) ((sq_mt ms 0).1 1) ((sq_mt ms 0).1 2) ((sq_mt ms 0).1 3) ((sq_mt ms 0).1 4) ((sq_mt ms 0).1 5) ((sq_mt ms 0).1 6) ((sq_mt ms 0).1 7) ((sq_mt ms 0).1 8) ((sq_mt ms 0).1 9) ((sq_mt ms 0).1 10) ((sq_mt ms 0).1 11) ((sq_mt ms 0).2 0) ((sq_mt ms 0).2 1) ((sq_mt ms 0).2 2) ((sq_mt ms 0).2 3) ((sq_mt ms 0).2 4) ((sq_mt ms 0).2 5) ((sq_mt ms 0).2 6) ((sq_mt ms 0).2 7) ((sq_mt ms 0).2 8) ((sq_mt ms 0).2 9) ((sq_mt ms 0).2 10)) := by rw [hk]
            rw [← e9] at hP hD
            have hrr : sq_mrL ms x y w = (if w = 0 then ms.1 6 (sq_vec x * 6 + sq_vec y) else if w = 1 then ms.1 7 (sq_vec x * 6 + sq_vec y) else if w = 2 then ms.1 8 (sq_vec x * 6 + sq_vec y) else if w = 3 then ms.1 9 (sq_vec x * 6 + sq_vec y) else if ms.1 10 (sq_vec x * 6 + sq_vec y) = 0 then nI 0 else nI 1) := by unfold sq_mrL; rw [if_pos hk]
            obtain ⟨j, hj, rfl⟩ := sq_in_of ((sq_mi_iff (by omega)).mp hpre.1) (by omega)
            obtain ⟨i, hi, rfl⟩ := sq_in_of ((sq_mi_iff (by omega)).mp hpre.2) (by omega)
            rw [sq_vec_nI (by omega), sq_vec_nI (by omega)] at hrr
            refine lv_bipush (v := nI 6) hx hb dX1_cell_73 (by decide +kernel) ?_
            refine lv_iload_n hx hb dX1_cell_75 rfl (lv_at hl 2 rfl) ?_
            refine sq_imulc hx hb dX1_cell_76 ?_
            refine lv_iload_n hx hb dX1_cell_77 rfl (lv_at hl 3 rfl) ?_
            refine sq_iadd hx hb dX1_cell_78 ?_
            refine lv_istore (lv' := [(5, .int (nI ((j * 6) + i))), (4, .int (nI 1)), (0, .ref h0), (1, .int (nI j)), (2, .int (nI i)), (3, .int w)]) hx hb dX1_cell_79 hl (by decide) rfl (fun ls hl => ?_)
            refine lv_iload_n hx hb dX1_cell_81 rfl (lv_at hl 5 rfl) ?_
            rcases sq_sw5 w with (rfl | rfl | rfl | rfl | rfl) | hw9
            · refine lv_tableIn (tgt := 112) hx hb dX1_cell_82 (by decide) (by decide) rfl (by decide) ?_
              refine lv_aload_n hx hb dX1_cell_112 rfl (lv_at hl 2 rfl) ?_
              refine va_get (D := (dC, dI)) (ci := 1) (v := .ref (q 6)) (C := RX1) (T := TX1) (N := 23) hx hb hts hin hown hK hP 0 rfl rfl 17 (by decide) k33 (fun _ h9 => h9) rfl dX1_cell_113 ?_
              refine lv_iload hx hb dX1_cell_116 (lv_at hl 0 rfl) ?_
              refine sq_iald hx hb hK hP 7 0 rfl rfl (i := ((j * 6) + i)) (by omega) (by decide) dX1_cell_118 ?_
              exact hend _ _ _ _ _ (by rw [hrr, if_pos rfl]; rfl) hP hD hS dX1_cell_119
            · refine lv_tableIn (tgt := 120) hx hb dX1_cell_82 (by decide) (by decide) rfl (by decide) ?_
              refine lv_aload_n hx hb dX1_cell_120 rfl (lv_at hl 2 rfl) ?_
              refine va_get (D := (dC, dI)) (ci := 1) (v := .ref (q 7)) (C := RX1) (T := TX1) (N := 23) hx hb hts hin hown hK hP 0 rfl rfl 18 (by decide) k36 (fun _ h9 => h9) rfl dX1_cell_121 ?_
              refine lv_iload hx hb dX1_cell_124 (lv_at hl 0 rfl) ?_
              refine sq_iald hx hb hK hP 8 0 rfl rfl (i := ((j * 6) + i)) (by omega) (by decide) dX1_cell_126 ?_
              exact hend _ _ _ _ _ (by rw [hrr, if_neg (by decide), if_pos rfl]; rfl) hP hD hS dX1_cell_127
            · refine lv_tableIn (tgt := 128) hx hb dX1_cell_82 (by decide) (by decide) rfl (by decide) ?_
              refine lv_aload_n hx hb dX1_cell_128 rfl (lv_at hl 2 rfl) ?_
              refine va_get (D := (dC, dI)) (ci := 1) (v := .ref (q 8)) (C := RX1) (T := TX1) (N := 23) hx hb hts hin hown hK hP 0 rfl rfl 19 (by decide) k39 (fun _ h9 => h9) rfl dX1_cell_129 ?_
              refine lv_iload hx hb dX1_cell_132 (lv_at hl 0 rfl) ?_
              refine sq_iald hx hb hK hP 9 0 rfl rfl (i := ((j * 6) + i)) (by omega) (by decide) dX1_cell_134 ?_
              exact hend _ _ _ _ _ (by rw [hrr, if_neg (by decide), if_neg (by decide), if_pos rfl]; rfl) hP hD hS dX1_cell_135
            · refine lv_tableIn (tgt := 136) hx hb dX1_cell_82 (by decide) (by decide) rfl (by decide) ?_
              refine lv_aload_n hx hb dX1_cell_136 rfl (lv_at hl 2 rfl) ?_
              refine va_get (D := (dC, dI)) (ci := 1) (v := .ref (q 9)) (C := RX1) (T := TX1) (N := 23) hx hb hts hin hown hK hP 0 rfl rfl 20 (by decide) k42 (fun _ h9 => h9) rfl dX1_cell_137 ?_
              refine lv_iload hx hb dX1_cell_140 (lv_at hl 0 rfl) ?_
              refine sq_iald hx hb hK hP 10 0 rfl rfl (i := ((j * 6) + i)) (by omega) (by decide) dX1_cell_142 ?_
              exact hend _ _ _ _ _ (by rw [hrr, if_neg (by decide), if_neg (by decide), if_neg (by decide), if_pos rfl]; rfl) hP hD hS dX1_cell_143
            · refine lv_tableOut (tgt := 144) hx hb dX1_cell_82 (by decide) (by decide) ?_
              refine lv_aload_n hx hb dX1_cell_144 rfl (lv_at hl 2 rfl) ?_
              refine va_get (D := (dC, dI)) (ci := 1) (v := .ref (q 10)) (C := RX1) (T := TX1) (N := 23) hx hb hts hin hown hK hP 0 rfl rfl 21 (by decide) k45 (fun _ h9 => h9) rfl dX1_cell_145 ?_
              refine lv_iload hx hb dX1_cell_148 (lv_at hl 0 rfl) ?_
              refine sq_zald hx hb hK hP 11 1 rfl rfl (i := ((j * 6) + i)) (by omega) (by decide) dX1_cell_150 ?_
              refine lv_if_eq (tgt := 158) hx hb dX1_cell_151 (by decide) (fun hf => ?_) (fun hf => ?_)
              · refine lv_iconst (v := nI 0) hx hb dX1_cell_158 (by decide +kernel) ?_
                have hf2 : ms.1 10 (j * 6 + i) = 0 := hf
                exact hend _ _ _ _ _ (by rw [hrr, if_neg (by decide), if_neg (by decide), if_neg (by decide), if_neg (by decide), if_pos hf2]) hP hD hS dX1_cell_159
              · refine lv_iconst (v := nI 1) hx hb dX1_cell_154 (by decide +kernel) ?_
                refine lv_goto (tgt := 159) hx hb dX1_cell_155 (by decide) ?_
                have hf2 : ¬ ms.1 10 (j * 6 + i) = 0 := hf
                exact hend _ _ _ _ _ (by rw [hrr, if_neg (by decide), if_neg (by decide), if_neg (by decide), if_neg (by decide), if_neg hf2]) hP hD hS dX1_cell_159
            · exact absurd hw9 (fun h => h.elim (by rw [nI_0] at hw2; exact hw2.1) hw2.2)
          · exact absurd hq (by decide)
        · have hw2 : ¬ (¬ w < nI 0 ∧ ¬ nI 4 < w) := sq_b0d hw
          have hk : sq_mkL ms x y w = 2 := by unfold sq_mkL; rw [if_neg (fun h => h hpre), if_neg hw2]
          refine lv_iconst (v := nI 1) hx hb dX1_cell_60 (by decide +kernel) ?_
          refine lv_goto (tgt := 65) hx hb dX1_cell_61 (by decide) ?_
          refine sq_calli (As := [.int (sq_b false), .int (sq_b true)]) (k_refuse l dC dI h0 q cI cZ (ms.1 0) (ms.1 1) (ms.1 2) (ms.1 3) (ms.1 4) (ms.1 5) (ms.1 6) (ms.1 7) (ms.1 8) (ms.1 9) (ms.1 10) (ms.1 11) (ms.2 0) (ms.2 1) (ms.2 2) (ms.2 3) (ms.2 4) (ms.2 5) (ms.2 6) (ms.2 7) (ms.2 8) (ms.2 9) (ms.2 10) false true) ⟨hx, hb, hml, hown, hts⟩ (cwV 2 hts (sq_good gvX1_86) rfl rfl rfl (by decide +kernel) ⟨Nat.le_of_ble_eq_true rfl, Nat.le_of_ble_eq_true rfl⟩) hK hP hD hS hA rfl rfl rfl rfl hl.1 rfl (Nat.le_of_ble_eq_true rfl) dX1_cell_65 ⟨Nat.zero_le _, Nat.zero_le _⟩ (fun H locs hP hD hS => ?_)
          refine lv_if_eq (tgt := 73) hx hb dX1_cell_68 (by decide) (fun hq => ?_) (fun hq => ?_)
          · exact absurd hq (by decide)
          · refine lv_iconst (v := nI 0) hx hb dX1_cell_71 (by decide +kernel) ?_
            have hP : va_P (dC, dI) vwCl (wM h0 q cI cZ (ms.1 0) (ms.1 1) (ms.1 2) (ms.1 3) (ms.1 4) (ms.1 5) (ms.1 6) (ms.1 7) (ms.1 8) (ms.1 9) (ms.1 10) (ms.1 11) 2 (ms.2 1) (ms.2 2) (ms.2 3) (ms.2 4) (ms.2 5) (ms.2 6) (ms.2 7) (ms.2 8) (ms.2 9) (ms.2 10)) H := hP
            have hD : va_D A (wM h0 q cI cZ (ms.1 0) (ms.1 1) (ms.1 2) (ms.1 3) (ms.1 4) (ms.1 5) (ms.1 6) (ms.1 7) (ms.1 8) (ms.1 9) (ms.1 10) (ms.1 11) 2 (ms.2 1) (ms.2 2) (ms.2 3) (ms.2 4) (ms.2 5) (ms.2 6) (ms.2 7) (ms.2 8) (ms.2 9) (ms.2 10)) := hD
            have hP : va_P (dC, dI) vwCl (wM h0 q cI cZ ((sq_mt ms 2).1 0) ((sq_mt ms 2).1 1) ((sq_mt ms 2).1 2) ((sq_mt ms 2).1 3) ((sq_mt ms 2).1 4) ((sq_mt ms 2).1 5) ((sq_mt ms 2).1 6) ((sq_mt ms 2).1 7) ((sq_mt ms 2).1 8) ((sq_mt ms 2).1 9) ((sq_mt ms 2).1 10) ((sq_mt ms 2).1 11) ((sq_mt ms 2).2 0) ((sq_mt ms 2).2 1) ((sq_mt ms 2).2 2) ((sq_mt ms 2).2 3) ((sq_mt ms 2).2 4) ((sq_mt ms 2).2 5) ((sq_mt ms 2).2 6) ((sq_mt ms 2).2 7) ((sq_mt ms 2).2 8) ((sq_mt ms 2).2 9) ((sq_mt ms 2).2 10)) H := hP
            have hD : va_D A (wM h0 q cI cZ ((sq_mt ms 2).1 0) ((sq_mt ms 2).1 1) ((sq_mt ms 2).1 2) ((sq_mt ms 2).1 3) ((sq_mt ms 2).1 4) ((sq_mt ms 2).1 5) ((sq_mt ms 2).1 6) ((sq_mt ms 2).1 7) ((sq_mt ms 2).1 8) ((sq_mt ms 2).1 9) ((sq_mt ms 2).1 10) ((sq_mt ms 2).1 11) ((sq_mt ms 2).2 0) ((sq_mt ms 2).2 1) ((sq_mt ms 2).2 2) ((sq_mt ms 2).2 3) ((sq_mt ms 2).2 4) ((sq_mt ms 2).2 5) ((sq_mt ms 2).2 6) ((sq_mt ms 2).2 7) ((sq_mt ms 2).2 8) ((sq_mt ms 2).2 9) ((sq_mt ms 2).2 10)) := hD
            have e9 : (wM h0 q cI cZ ((sq_mt ms (sq_mkL ms x y w)).1 0) ((sq_mt ms (sq_mkL ms x y w)).1 1) ((sq_mt ms (sq_mkL ms x y w)).1 2) ((sq_mt ms (sq_mkL ms x y w)).1 3) ((sq_mt ms (sq_mkL ms x y w)).1 4) ((sq_mt ms (sq_mkL ms x y w)).1 5) ((sq_mt ms (sq_mkL ms x y w)).1 6) ((sq_mt ms (sq_mkL ms x y w)).1 7) ((sq_mt ms (sq_mkL ms x y w)).1 8) ((sq_mt ms (sq_mkL ms x y w)).1 9) ((sq_mt ms (sq_mkL ms x y w)).1 10) ((sq_mt ms (sq_mkL ms x y w)).1 11) ((sq_mt ms (sq_mkL ms x y w)).2 0) ((sq_mt ms (sq_mkL ms x y w)).2 1) ((sq_mt ms (sq_mkL ms x y w)).2 2) ((sq_mt ms (sq_mkL ms x y w)).2 3) ((sq_mt ms (sq_mkL ms x y w)).2 4) ((sq_mt ms (sq_mkL ms x y w)).2 5) ((sq_mt ms (sq_mkL ms x y w)).2 6) ((sq_mt ms (sq_mkL ms x y w)).2 7) ((sq_mt ms (sq_mkL ms x y w)).2 8) ((sq_mt ms (sq_mkL ms x y w)).2 9) ((sq_mt ms (sq_mkL ms x y w)).2 10)) = (wM h0 q cI cZ ((sq_mt ms 2).1 0) ((sq_mt ms 2).1 1) ((sq_mt ms 2).1 2) ((sq_mt ms 2).1 3) ((sq_mt ms 2).1 4) ((sq_mt ms 2).1 5) ((sq_mt ms 2).1 6) ((sq_mt ms 2).1 7) ((sq_mt ms 2).1 8) ((sq_mt ms 2).1 9) ((sq_mt ms 2).1 10) ((sq_mt ms 2).1 11) ((sq_mt ms 2).2 0) ((sq_mt ms 2).2 1) ((sq_mt ms 2).2 2) ((sq_mt ms 2).2 3) ((sq_mt ms 2).2 4) ((sq_mt ms 2).2 5) ((sq_mt ms 2).2 6) ((sq_mt ms 2).2 7) ((sq_mt ms 2).2 8) ((sq_mt ms 2).2 9) ((sq_mt ms 2).2 10)) := by rw [hk]
            rw [← e9] at hP hD
            exact hend _ _ _ _ _ (by unfold sq_mrL; rw [hk, if_neg (by decide)]; rfl) hP hD hS dX1_cell_72
    · exact absurd hq (by decide)
  refine lv_iload_n hx hb dX1_cell_0 rfl (lv_at hl 1 rfl) ?_
  refine lv_iconst (v := nI 0) hx hb dX1_cell_1 (by decide +kernel) ?_
  refine lv_aload_n hx hb dX1_cell_2 rfl (lv_at hl 0 rfl) ?_
  refine va_get (D := (dC, dI)) (ci := 1) (v := .int (nI (ms.2 1))) (C := RX1) (T := TX1) (N := 23) hx hb hts hin hown hK hP 0 rfl rfl 1 (by decide) k7 (fun _ h9 => h9) rfl dX1_cell_3 ?_
  refine lv_iconst (v := nI 1) hx hb dX1_cell_6 (by decide +kernel) ?_
  refine lv_isub hx hb dX1_cell_7 ?_
  refine sq_callsi (As := [.int x, .int (nI 0), .int (nI (ms.2 1) - nI 1)]) (k_in l (dC, dI) vwCl [(cI, .int), (cZ, .boolean)] (wM h0 q cI cZ (ms.1 0) (ms.1 1) (ms.1 2) (ms.1 3) (ms.1 4) (ms.1 5) (ms.1 6) (ms.1 7) (ms.1 8) (ms.1 9) (ms.1 10) (ms.1 11) (ms.2 0) (ms.2 1) (ms.2 2) (ms.2 3) (ms.2 4) (ms.2 5) (ms.2 6) (ms.2 7) (ms.2 8) (ms.2 9) (ms.2 10)) x (nI 0) (nI (ms.2 1) - nI 1)) ⟨hx, hb, hml, hown, hts⟩ (va_cwS 3 hts (sq_good gsX1_82) rfl rfl rfl (by decide +kernel) ⟨Nat.le_of_ble_eq_true rfl, Nat.le_of_ble_eq_true rfl⟩) hK hP hD hS hA rfl hl.1 rfl (Nat.le_of_ble_eq_true rfl) dX1_cell_8 ⟨Nat.zero_le _, Nat.zero_le _⟩ (fun H locs hP hD hS => ?_)
  refine lv_if_eq (tgt := 32) hx hb dX1_cell_11 (by decide) (fun hc => ?_) (fun hc => ?_)
  · refine lv_iconst (v := nI 0) hx hb dX1_cell_32 (by decide +kernel) ?_
    exact T0 _ _ ls (fun h => sq_b0d hc h.1) hP hD hS hl
  · refine lv_iload_n hx hb dX1_cell_14 rfl (lv_at hl 2 rfl) ?_
    refine lv_iconst (v := nI 0) hx hb dX1_cell_15 (by decide +kernel) ?_
    refine lv_aload_n hx hb dX1_cell_16 rfl (lv_at hl 0 rfl) ?_
    refine va_get (D := (dC, dI)) (ci := 1) (v := .int (nI (ms.2 1))) (C := RX1) (T := TX1) (N := 23) hx hb hts hin hown hK hP 0 rfl rfl 1 (by decide) k7 (fun _ h9 => h9) rfl dX1_cell_17 ?_
    refine lv_iconst (v := nI 1) hx hb dX1_cell_20 (by decide +kernel) ?_
    refine lv_isub hx hb dX1_cell_21 ?_
    refine sq_callsi (As := [.int y, .int (nI 0), .int (nI (ms.2 1) - nI 1)]) (k_in l (dC, dI) vwCl [(cI, .int), (cZ, .boolean)] (wM h0 q cI cZ (ms.1 0) (ms.1 1) (ms.1 2) (ms.1 3) (ms.1 4) (ms.1 5) (ms.1 6) (ms.1 7) (ms.1 8) (ms.1 9) (ms.1 10) (ms.1 11) (ms.2 0) (ms.2 1) (ms.2 2) (ms.2 3) (ms.2 4) (ms.2 5) (ms.2 6) (ms.2 7) (ms.2 8) (ms.2 9) (ms.2 10)) y (nI 0) (nI (ms.2 1) - nI 1)) ⟨hx, hb, hml, hown, hts⟩ (va_cwS 3 hts (sq_good gsX1_82) rfl rfl rfl (by decide +kernel) ⟨Nat.le_of_ble_eq_true rfl, Nat.le_of_ble_eq_true rfl⟩) hK hP hD hS hA rfl hl.1 rfl (Nat.le_of_ble_eq_true rfl) dX1_cell_22 ⟨Nat.zero_le _, Nat.zero_le _⟩ (fun H locs hP hD hS => ?_)
    refine lv_if_eq (tgt := 32) hx hb dX1_cell_25 (by decide) (fun hd => ?_) (fun hd => ?_)
    · refine lv_iconst (v := nI 0) hx hb dX1_cell_32 (by decide +kernel) ?_
      exact T0 _ _ ls (fun h => sq_b0d hd h.2) hP hD hS hl
    · refine lv_iconst (v := nI 1) hx hb dX1_cell_28 (by decide +kernel) ?_
      refine lv_goto (tgt := 33) hx hb dX1_cell_29 (by decide) ?_
      exact T1 _ _ ls ⟨sq_bnd hc, sq_bnd hd⟩ hP hD hS hl
def rmm_entered : Room := { frames := 1, cells := 0, slots := 0, locals := 22 }
set_option maxHeartbeats 4000000 in
set_option maxRecDepth 100000 in
theorem k_entered (l : Launch) (dC : Nat → ClassId) (dI : Nat → Nat → Nat) (h0 : Nat) (q : Nat → Nat) (cI cZ : ClassId) (ms : SqS) (v : Int32) (hok : sq_mok ms) : sq_Mi l yX1_entered wsX1_entered rmm_entered [.ref h0, .int v] (dC, dI) vwCl [(cI, .int), (cZ, .boolean)] (wM h0 q cI cZ (ms.1 0) (ms.1 1) (ms.1 2) (ms.1 3) (ms.1 4) (ms.1 5) (ms.1 6) (ms.1 7) (ms.1 8) (ms.1 9) (ms.1 10) (ms.1 11) (ms.2 0) (ms.2 1) (ms.2 2) (ms.2 3) (ms.2 4) (ms.2 5) (ms.2 6) (ms.2 7) (ms.2 8) (ms.2 9) (ms.2 10)) (wM h0 q cI cZ ((sq_mt ms (sq_mkE ms v)).1 0) ((sq_mt ms (sq_mkE ms v)).1 1) ((sq_mt ms (sq_mkE ms v)).1 2) ((sq_mt ms (sq_mkE ms v)).1 3) ((sq_mt ms (sq_mkE ms v)).1 4) ((sq_mt ms (sq_mkE ms v)).1 5) ((sq_mt ms (sq_mkE ms v)).1 6) ((sq_mt ms (sq_mkE ms v)).1 7) ((sq_mt ms (sq_mkE ms v)).1 8) ((sq_mt ms (sq_mkE ms v)).1 9) ((sq_mt ms (sq_mkE ms v)).1 10) ((sq_mt ms (sq_mkE ms v)).1 11) ((sq_mt ms (sq_mkE ms v)).2 0) ((sq_mt ms (sq_mkE ms v)).2 1) ((sq_mt ms (sq_mkE ms v)).2 2) ((sq_mt ms (sq_mkE ms v)).2 3) ((sq_mt ms (sq_mkE ms v)).2 4) ((sq_mt ms (sq_mkE ms v)).2 5) ((sq_mt ms (sq_mkE ms v)).2 6) ((sq_mt ms (sq_mkE ms v)).2 7) ((sq_mt ms (sq_mkE ms v)).2 8) ((sq_mt ms (sq_mkE ms v)).2 9) ((sq_mt ms (sq_mkE ms v)).2 10)) (sq_mrE ms v) := by
  refine sq_ofWi (cc := cX1_entered) (maxL := 2) (by decide) rfl (Nat.le_of_ble_eq_true rfl) (vp_nar_int _) ?_
  intro p e s m args below meth c A ls Q hx hb hts hown hml hK hP hD hS hA hl hend
  have hl : lv_has ls 2 [(0, .ref h0), (1, .int v)] := hl
  have hin : ∀ w ∈ u_ws RX1 TX1 23, w ∈ wsX1_entered := fun w h => List.mem_cons_of_mem _ (inX1 w h)
  have k24 := hts _ (List.mem_cons_of_mem _ mfX1_24)
  have k73 := hts _ (List.mem_cons_of_mem _ mfX1_73)
  obtain ⟨⟨o1, o2⟩, o3, ⟨o4, o5⟩, ⟨o6, o7⟩, ⟨o8, o9, o10⟩, o11, o12, o13, o14, o15, o16⟩ := id hok
  refine lv_aload_n hx hb dX1_entered_0 rfl (lv_at hl 0 rfl) ?_
  refine lv_iload_n hx hb dX1_entered_1 rfl (lv_at hl 1 rfl) ?_
  refine lv_iconst (v := nI 0) hx hb dX1_entered_2 (by decide +kernel) ?_
  refine lv_aload_n hx hb dX1_entered_3 rfl (lv_at hl 0 rfl) ?_
  refine va_get (D := (dC, dI)) (ci := 1) (v := .int (nI (ms.2 7))) (C := RX1) (T := TX1) (N := 23) hx hb hts hin hown hK hP 0 rfl rfl 8 (by decide) k73 (fun _ h9 => h9) rfl dX1_entered_4 ?_
  refine lv_iconst (v := nI 1) hx hb dX1_entered_7 (by decide +kernel) ?_
  refine lv_isub hx hb dX1_entered_8 ?_
  refine sq_callsi (As := [.int v, .int (nI 0), .int (nI (ms.2 7) - nI 1)]) (k_in l (dC, dI) vwCl [(cI, .int), (cZ, .boolean)] (wM h0 q cI cZ (ms.1 0) (ms.1 1) (ms.1 2) (ms.1 3) (ms.1 4) (ms.1 5) (ms.1 6) (ms.1 7) (ms.1 8) (ms.1 9) (ms.1 10) (ms.1 11) (ms.2 0) (ms.2 1) (ms.2 2) (ms.2 3) (ms.2 4) (ms.2 5) (ms.2 6) (ms.2 7) (ms.2 8) (ms.2 9) (ms.2 10)) v (nI 0) (nI (ms.2 7) - nI 1)) ⟨hx, hb, hml, hown, hts⟩ (va_cwS 3 hts (sq_good gsX1_82) rfl rfl rfl (by decide +kernel) ⟨Nat.le_of_ble_eq_true rfl, Nat.le_of_ble_eq_true rfl⟩) hK hP hD hS hA rfl hl.1 rfl (Nat.le_of_ble_eq_true rfl) dX1_entered_9 ⟨Nat.zero_le _, Nat.zero_le _⟩ (fun H locs hP hD hS => ?_)
  refine lv_if_ne (tgt := 19) hx hb dX1_entered_12 (by decide) (fun hc => ?_) (fun hc => ?_)
  · have hv : sq_mi (ms.2 7) v := sq_bnd hc
    have hk : sq_mkE ms v = 0 := by unfold sq_mkE; rw [if_pos hv]
    refine lv_iconst (v := nI 0) hx hb dX1_entered_19 (by decide +kernel) ?_
    refine lv_iconst (v := nI 0) hx hb dX1_entered_20 (by decide +kernel) ?_
    refine sq_calli (As := [.int (sq_b false), .int (sq_b false)]) (k_refuse l dC dI h0 q cI cZ (ms.1 0) (ms.1 1) (ms.1 2) (ms.1 3) (ms.1 4) (ms.1 5) (ms.1 6) (ms.1 7) (ms.1 8) (ms.1 9) (ms.1 10) (ms.1 11) (ms.2 0) (ms.2 1) (ms.2 2) (ms.2 3) (ms.2 4) (ms.2 5) (ms.2 6) (ms.2 7) (ms.2 8) (ms.2 9) (ms.2 10) false false) ⟨hx, hb, hml, hown, hts⟩ (cwV 2 hts (sq_good gvX1_86) rfl rfl rfl (by decide +kernel) ⟨Nat.le_of_ble_eq_true rfl, Nat.le_of_ble_eq_true rfl⟩) hK hP hD hS hA rfl rfl rfl rfl hl.1 rfl (Nat.le_of_ble_eq_true rfl) dX1_entered_21 ⟨Nat.zero_le _, Nat.zero_le _⟩ (fun H locs hP hD hS => ?_)
    refine lv_if_eq (tgt := 31) hx hb dX1_entered_24 (by decide) (fun hq => ?_) (fun hq => ?_)
    · have hP : va_P (dC, dI) vwCl (wM h0 q cI cZ (ms.1 0) (ms.1 1) (ms.1 2) (ms.1 3) (ms.1 4) (ms.1 5) (ms.1 6) (ms.1 7) (ms.1 8) (ms.1 9) (ms.1 10) (ms.1 11) 0 (ms.2 1) (ms.2 2) (ms.2 3) (ms.2 4) (ms.2 5) (ms.2 6) (ms.2 7) (ms.2 8) (ms.2 9) (ms.2 10)) H := hP
      have hD : va_D A (wM h0 q cI cZ (ms.1 0) (ms.1 1) (ms.1 2) (ms.1 3) (ms.1 4) (ms.1 5) (ms.1 6) (ms.1 7) (ms.1 8) (ms.1 9) (ms.1 10) (ms.1 11) 0 (ms.2 1) (ms.2 2) (ms.2 3) (ms.2 4) (ms.2 5) (ms.2 6) (ms.2 7) (ms.2 8) (ms.2 9) (ms.2 10)) := hD
      have hP : va_P (dC, dI) vwCl (wM h0 q cI cZ ((sq_mt ms 0).1 0) ((sq_mt ms 0).1 1) ((sq_mt ms 0).1 2) ((sq_mt ms 0).1 3) ((sq_mt ms 0).1 4) ((sq_mt ms 0).1 5) ((sq_mt ms 0).1 6) ((sq_mt ms 0).1 7) ((sq_mt ms 0).1 8) ((sq_mt ms 0).1 9) ((sq_mt ms 0).1 10) ((sq_mt ms 0).1 11) ((sq_mt ms 0).2 0) ((sq_mt ms 0).2 1) ((sq_mt ms 0).2 2) ((sq_mt ms 0).2 3) ((sq_mt ms 0).2 4) ((sq_mt ms 0).2 5) ((sq_mt ms 0).2 6) ((sq_mt ms 0).2 7) ((sq_mt ms 0).2 8) ((sq_mt ms 0).2 9) ((sq_mt ms 0).2 10)) H := hP
      have hD : va_D A (wM h0 q cI cZ ((sq_mt ms 0).1 0) ((sq_mt ms 0).1 1) ((sq_mt ms 0).1 2) ((sq_mt ms 0).1 3) ((sq_mt ms 0).1 4) ((sq_mt ms 0).1 5) ((sq_mt ms 0).1 6) ((sq_mt ms 0).1 7) ((sq_mt ms 0).1 8) ((sq_mt ms 0).1 9) ((sq_mt ms 0).1 10) ((sq_mt ms 0).1 11) ((sq_mt ms 0).2 0) ((sq_mt ms 0).2 1) ((sq_mt ms 0).2 2) ((sq_mt ms 0).2 3) ((sq_mt ms 0).2 4) ((sq_mt ms 0).2 5) ((sq_mt ms 0).2 6) ((sq_mt ms 0).2 7) ((sq_mt ms 0).2 8) ((sq_mt ms 0).2 9) ((sq_mt ms 0).2 10)) := hD
      have e9 : (wM h0 q cI cZ ((sq_mt ms (sq_mkE ms v)).1 0) ((sq_mt ms (sq_mkE ms v)).1 1) ((sq_mt ms (sq_mkE ms v)).1 2) ((sq_mt ms (sq_mkE ms v)).1 3) ((sq_mt ms (sq_mkE ms v)).1 4) ((sq_mt ms (sq_mkE ms v)).1 5) ((sq_mt ms (sq_mkE ms v)).1 6) ((sq_mt ms (sq_mkE ms v)).1 7) ((sq_mt ms (sq_mkE ms v)).1 8) ((sq_mt ms (sq_mkE ms v)).1 9) ((sq_mt ms (sq_mkE ms v)).1 10) ((sq_mt ms (sq_mkE ms v)).1 11) ((sq_mt ms (sq_mkE ms v)).2 0) ((sq_mt ms (sq_mkE ms v)).2 1) ((sq_mt ms (sq_mkE ms v)).2 2) ((sq_mt ms (sq_mkE ms v)).2 3) ((sq_mt ms (sq_mkE ms v)).2 4) ((sq_mt ms (sq_mkE ms v)).2 5) ((sq_mt ms (sq_mkE ms v)).2 6) ((sq_mt ms (sq_mkE ms v)).2 7) ((sq_mt ms (sq_mkE ms v)).2 8) ((sq_mt ms (sq_mkE ms v)).2 9) ((sq_mt ms (sq_mkE ms v)).2 10)) = (wM h0 q cI cZ ((sq_mt ms 0).1 0) ((sq_mt ms 0).1 1) ((sq_mt ms 0).1 2) ((sq_mt ms 0).1 3) ((sq_mt ms 0).1 4) ((sq_mt ms 0).1 5) ((sq_mt ms 0).1 6) ((sq_mt ms 0).1 7) ((sq_mt ms 0).1 8) ((sq_mt ms 0).1 9) ((sq_mt ms 0).1 10) ((sq_mt ms 0).1 11) ((sq_mt ms 0).2 0) ((sq_mt ms 0).2 1) ((sq_mt ms 0).2 2) ((sq_mt ms 0).2 3) ((sq_mt ms 0).2 4) ((sq_mt ms 0).2 5) ((sq_mt ms 0).2 6) ((sq_mt ms 0).2 7) ((sq_mt ms 0).2 8) ((sq_mt ms 0).2 9) ((sq_mt ms 0).2 10)) := by rw [hk]
      rw [← e9] at hP hD
      have hrr : sq_mrE ms v = ms.1 3 (sq_vec v) := by unfold sq_mrE; rw [if_pos hk]
      obtain ⟨j, hj, rfl⟩ := sq_in_of ((sq_mi_iff (by omega)).mp hv) (by omega)
      rw [sq_vec_nI (by omega)] at hrr
      refine lv_aload_n hx hb dX1_entered_31 rfl (lv_at hl 0 rfl) ?_
      refine va_get (D := (dC, dI)) (ci := 1) (v := .ref (q 3)) (C := RX1) (T := TX1) (N := 23) hx hb hts hin hown hK hP 0 rfl rfl 14 (by decide) k24 (fun _ h9 => h9) rfl dX1_entered_32 ?_
      refine lv_iload_n hx hb dX1_entered_35 rfl (lv_at hl 1 rfl) ?_
      refine sq_iald hx hb hK hP 4 0 rfl rfl (i := j) (by omega) (by decide) dX1_entered_36 ?_
      exact hend _ _ _ _ _ hrr.symm hP hD hS dX1_entered_37
    · exact absurd hq (by decide)
  · have hv : ¬ sq_mi (ms.2 7) v := sq_b0d hc
    have hk : sq_mkE ms v = 1 := by unfold sq_mkE; rw [if_neg hv]
    refine lv_iconst (v := nI 1) hx hb dX1_entered_15 (by decide +kernel) ?_
    refine lv_goto (tgt := 20) hx hb dX1_entered_16 (by decide) ?_
    refine lv_iconst (v := nI 0) hx hb dX1_entered_20 (by decide +kernel) ?_
    refine sq_calli (As := [.int (sq_b true), .int (sq_b false)]) (k_refuse l dC dI h0 q cI cZ (ms.1 0) (ms.1 1) (ms.1 2) (ms.1 3) (ms.1 4) (ms.1 5) (ms.1 6) (ms.1 7) (ms.1 8) (ms.1 9) (ms.1 10) (ms.1 11) (ms.2 0) (ms.2 1) (ms.2 2) (ms.2 3) (ms.2 4) (ms.2 5) (ms.2 6) (ms.2 7) (ms.2 8) (ms.2 9) (ms.2 10) true false) ⟨hx, hb, hml, hown, hts⟩ (cwV 2 hts (sq_good gvX1_86) rfl rfl rfl (by decide +kernel) ⟨Nat.le_of_ble_eq_true rfl, Nat.le_of_ble_eq_true rfl⟩) hK hP hD hS hA rfl rfl rfl rfl hl.1 rfl (Nat.le_of_ble_eq_true rfl) dX1_entered_21 ⟨Nat.zero_le _, Nat.zero_le _⟩ (fun H locs hP hD hS => ?_)
    refine lv_if_eq (tgt := 31) hx hb dX1_entered_24 (by decide) (fun hq => ?_) (fun hq => ?_)
    · exact absurd hq (by decide)
    · refine lv_iconst (v := nI 0) hx hb dX1_entered_27 (by decide +kernel) ?_
      refine lv_goto (tgt := 37) hx hb dX1_entered_28 (by decide) ?_
      have hP : va_P (dC, dI) vwCl (wM h0 q cI cZ (ms.1 0) (ms.1 1) (ms.1 2) (ms.1 3) (ms.1 4) (ms.1 5) (ms.1 6) (ms.1 7) (ms.1 8) (ms.1 9) (ms.1 10) (ms.1 11) 1 (ms.2 1) (ms.2 2) (ms.2 3) (ms.2 4) (ms.2 5) (ms.2 6) (ms.2 7) (ms.2 8) (ms.2 9) (ms.2 10)) H := hP
      have hD : va_D A (wM h0 q cI cZ (ms.1 0) (ms.1 1) (ms.1 2) (ms.1 3) (ms.1 4) (ms.1 5) (ms.1 6) (ms.1 7) (ms.1 8) (ms.1 9) (ms.1 10) (ms.1 11) 1 (ms.2 1) (ms.2 2) (ms.2 3) (ms.2 4) (ms.2 5) (ms.2 6) (ms.2 7) (ms.2 8) (ms.2 9) (ms.2 10)) := hD
      have hP : va_P (dC, dI) vwCl (wM h0 q cI cZ ((sq_mt ms 1).1 0) ((sq_mt ms 1).1 1) ((sq_mt ms 1).1 2) ((sq_mt ms 1).1 3) ((sq_mt ms 1).1 4) ((sq_mt ms 1).1 5) ((sq_mt ms 1).1 6) ((sq_mt ms 1).1 7) ((sq_mt ms 1).1 8) ((sq_mt ms 1).1 9) ((sq_mt ms 1).1 10) ((sq_mt ms 1).1 11) ((sq_mt ms 1).2 0) ((sq_mt ms 1).2 1) ((sq_mt ms 1).2 2) ((sq_mt ms 1).2 3) ((sq_mt ms 1).2 4) ((sq_mt ms 1).2 5) ((sq_mt ms 1).2 6) ((sq_mt ms 1).2 7) ((sq_mt ms 1).2 8) ((sq_mt ms 1).2 9) ((sq_mt ms 1).2 10)) H := hP
      have hD : va_D A (wM h0 q cI cZ ((sq_mt ms 1).1 0) ((sq_mt ms 1).1 1) ((sq_mt ms 1).1 2) ((sq_mt ms 1).1 3) ((sq_mt ms 1).1 4) ((sq_mt ms 1).1 5) ((sq_mt ms 1).1 6) ((sq_mt ms 1).1 7) ((sq_mt ms 1).1 8) ((sq_mt ms 1).1 9) ((sq_mt ms 1).1 10) ((sq_mt ms 1).1 11) ((sq_mt ms 1).2 0) ((sq_mt ms 1).2 1) ((sq_mt ms 1).2 2) ((sq_mt ms 1).2 3) ((sq_mt ms 1).2 4) ((sq_mt ms 1).2 5) ((sq_mt ms 1).2 6) ((sq_mt ms 1).2 7) ((sq_mt ms 1).2 8) ((sq_mt ms 1).2 9) ((sq_mt ms 1).2 10)) := hD
      have e9 : (wM h0 q cI cZ ((sq_mt ms (sq_mkE ms v)).1 0) ((sq_mt ms (sq_mkE ms v)).1 1) ((sq_mt ms (sq_mkE ms v)).1 2) ((sq_mt ms (sq_mkE ms v)).1 3) ((sq_mt ms (sq_mkE ms v)).1 4) ((sq_mt ms (sq_mkE ms v)).1 5) ((sq_mt ms (sq_mkE ms v)).1 6) ((sq_mt ms (sq_mkE ms v)).1 7) ((sq_mt ms (sq_mkE ms v)).1 8) ((sq_mt ms (sq_mkE ms v)).1 9) ((sq_mt ms (sq_mkE ms v)).1 10) ((sq_mt ms (sq_mkE ms v)).1 11) ((sq_mt ms (sq_mkE ms v)).2 0) ((sq_mt ms (sq_mkE ms v)).2 1) ((sq_mt ms (sq_mkE ms v)).2 2) ((sq_mt ms (sq_mkE ms v)).2 3) ((sq_mt ms (sq_mkE ms v)).2 4) ((sq_mt ms (sq_mkE ms v)).2 5) ((sq_mt ms (sq_mkE ms v)).2 6) ((sq_mt ms (sq_mkE ms v)).2 7) ((sq_mt ms (sq_mkE ms v)).2 8) ((sq_mt ms (sq_mkE ms v)).2 9) ((sq_mt ms (sq_mkE ms v)).2 10)) = (wM h0 q cI cZ ((sq_mt ms 1).1 0) ((sq_mt ms 1).1 1) ((sq_mt ms 1).1 2) ((sq_mt ms 1).1 3) ((sq_mt ms 1).1 4) ((sq_mt ms 1).1 5) ((sq_mt ms 1).1 6) ((sq_mt ms 1).1 7) ((sq_mt ms 1).1 8) ((sq_mt ms 1).1 9) ((sq_mt ms 1).1 10) ((sq_mt ms 1).1 11) ((sq_mt ms 1).2 0) ((sq_mt ms 1).2 1) ((sq_mt ms 1).2 2) ((sq_mt ms 1).2 3) ((sq_mt ms 1).2 4) ((sq_mt ms 1).2 5) ((sq_mt ms 1).2 6) ((sq_mt ms 1).2 7) ((sq_mt ms 1).2 8) ((sq_mt ms 1).2 9) ((sq_mt ms 1).2 10)) := by rw [hk]
      rw [← e9] at hP hD
      exact hend _ _ _ _ _ (by unfold sq_mrE; rw [hk, if_neg (by decide)]; rfl) hP hD hS dX1_entered_37
def rmm_result : Room := { frames := 1, cells := 0, slots := 0, locals := 22 }
set_option maxHeartbeats 4000000 in
set_option maxRecDepth 100000 in
theorem k_result (l : Launch) (dC : Nat → ClassId) (dI : Nat → Nat → Nat) (h0 : Nat) (q : Nat → Nat) (cI cZ : ClassId) (ms : SqS) (v w : Int32) (hok : sq_mok ms) : sq_Mi l yX1_result wsX1_result rmm_result [.ref h0, .int v, .int w] (dC, dI) vwCl [(cI, .int), (cZ, .boolean)] (wM h0 q cI cZ (ms.1 0) (ms.1 1) (ms.1 2) (ms.1 3) (ms.1 4) (ms.1 5) (ms.1 6) (ms.1 7) (ms.1 8) (ms.1 9) (ms.1 10) (ms.1 11) (ms.2 0) (ms.2 1) (ms.2 2) (ms.2 3) (ms.2 4) (ms.2 5) (ms.2 6) (ms.2 7) (ms.2 8) (ms.2 9) (ms.2 10)) (wM h0 q cI cZ ((sq_mt ms (sq_mkR ms v w)).1 0) ((sq_mt ms (sq_mkR ms v w)).1 1) ((sq_mt ms (sq_mkR ms v w)).1 2) ((sq_mt ms (sq_mkR ms v w)).1 3) ((sq_mt ms (sq_mkR ms v w)).1 4) ((sq_mt ms (sq_mkR ms v w)).1 5) ((sq_mt ms (sq_mkR ms v w)).1 6) ((sq_mt ms (sq_mkR ms v w)).1 7) ((sq_mt ms (sq_mkR ms v w)).1 8) ((sq_mt ms (sq_mkR ms v w)).1 9) ((sq_mt ms (sq_mkR ms v w)).1 10) ((sq_mt ms (sq_mkR ms v w)).1 11) ((sq_mt ms (sq_mkR ms v w)).2 0) ((sq_mt ms (sq_mkR ms v w)).2 1) ((sq_mt ms (sq_mkR ms v w)).2 2) ((sq_mt ms (sq_mkR ms v w)).2 3) ((sq_mt ms (sq_mkR ms v w)).2 4) ((sq_mt ms (sq_mkR ms v w)).2 5) ((sq_mt ms (sq_mkR ms v w)).2 6) ((sq_mt ms (sq_mkR ms v w)).2 7) ((sq_mt ms (sq_mkR ms v w)).2 8) ((sq_mt ms (sq_mkR ms v w)).2 9) ((sq_mt ms (sq_mkR ms v w)).2 10)) (sq_mrR ms v w) := by
  refine sq_ofWi (cc := cX1_result) (maxL := 5) (by decide) rfl (Nat.le_of_ble_eq_true rfl) (vp_nar_int _) ?_
  intro p e s m args below meth c A ls Q hx hb hts hown hml hK hP hD hS hA hl hend
  have hl : lv_has ls 5 [(0, .ref h0), (1, .int v), (2, .int w)] := hl
  have hin : ∀ w ∈ u_ws RX1 TX1 23, w ∈ wsX1_result := fun w h => List.mem_cons_of_mem _ (inX1 w h)
  have k7 := hts _ (List.mem_cons_of_mem _ mfX1_7)
  have k24 := hts _ (List.mem_cons_of_mem _ mfX1_24)
  have k27 := hts _ (List.mem_cons_of_mem _ mfX1_27)
  have k57 := hts _ (List.mem_cons_of_mem _ mfX1_57)
  have k73 := hts _ (List.mem_cons_of_mem _ mfX1_73)
  obtain ⟨⟨o1, o2⟩, o3, ⟨o4, o5⟩, ⟨o6, o7⟩, ⟨o8, o9, o10⟩, o11, o12, o13, o14, o15, o16⟩ := id hok
  have T0 : ∀ (H : Heap) (locs : List Loc) (ls : Array Slot), ¬ (sq_mi (ms.2 7) v ∧ sq_mi (ms.2 1) w) → va_P (dC, dI) vwCl (wM h0 q cI cZ (ms.1 0) (ms.1 1) (ms.1 2) (ms.1 3) (ms.1 4) (ms.1 5) (ms.1 6) (ms.1 7) (ms.1 8) (ms.1 9) (ms.1 10) (ms.1 11) (ms.2 0) (ms.2 1) (ms.2 2) (ms.2 3) (ms.2 4) (ms.2 5) (ms.2 6) (ms.2 7) (ms.2 8) (ms.2 9) (ms.2 10)) H → va_D A (wM h0 q cI cZ (ms.1 0) (ms.1 1) (ms.1 2) (ms.1 3) (ms.1 4) (ms.1 5) (ms.1 6) (ms.1 7) (ms.1 8) (ms.1 9) (ms.1 10) (ms.1 11) (ms.2 0) (ms.2 1) (ms.2 2) (ms.2 3) (ms.2 4) (ms.2 5) (ms.2 6) (ms.2 7) (ms.2 8) (ms.2 9) (ms.2 10)) → va_S A s.heap H locs → lv_has ls 5 [(0, .ref h0), (1, .int v), (2, .int w)] → W p l e rmm_result s m args below meth c H locs 0 0 Q (F0 m 33 ls [.int (nI 0)]) := by
    intro H locs ls hpre hP hD hS hl
    have hk : sq_mkR ms v w = 1 := by unfold sq_mkR; rw [if_pos hpre]
    refine lv_istore_n (lv' := [(3, .int (nI 0)), (0, .ref h0), (1, .int v), (2, .int w)]) hx hb dX1_result_33 rfl hl (by decide) rfl (fun ls hl => ?_)
    refine lv_iload_n hx hb dX1_result_34 rfl (lv_at hl 0 rfl) ?_
    refine sq_if_eq (tgt := 89) hx hb (by omega) dX1_result_35 (by decide) (fun hq => ?_) (fun hq => ?_)
    · refine lv_iconst (v := nI 0) hx hb dX1_result_89 (by decide +kernel) ?_
      refine lv_istore (lv' := [(4, .int (nI 0)), (3, .int (nI 0)), (0, .ref h0), (1, .int v), (2, .int w)]) hx hb dX1_result_90 hl (by decide) rfl (fun ls hl => ?_)
      refine lv_aload_n hx hb dX1_result_92 rfl (lv_at hl 2 rfl) ?_
      refine lv_iload_n hx hb dX1_result_93 rfl (lv_at hl 1 rfl) ?_
      refine sq_if_ne (tgt := 101) hx hb (by omega) dX1_result_94 (by decide) (fun hq => ?_) (fun hq => ?_)
      · exact absurd hq (by decide)
      · refine lv_iconst (v := nI 1) hx hb dX1_result_97 (by decide +kernel) ?_
        refine lv_goto (tgt := 102) hx hb dX1_result_98 (by decide) ?_
        refine lv_iload_n hx hb dX1_result_102 rfl (lv_at hl 1 rfl) ?_
        refine sq_if_eq (tgt := 115) hx hb (by omega) dX1_result_103 (by decide) (fun hq => ?_) (fun hq => ?_)
        · refine lv_iconst (v := nI 0) hx hb dX1_result_115 (by decide +kernel) ?_
          refine sq_calli (As := [.int (sq_b true), .int (sq_b false)]) (k_refuse l dC dI h0 q cI cZ (ms.1 0) (ms.1 1) (ms.1 2) (ms.1 3) (ms.1 4) (ms.1 5) (ms.1 6) (ms.1 7) (ms.1 8) (ms.1 9) (ms.1 10) (ms.1 11) (ms.2 0) (ms.2 1) (ms.2 2) (ms.2 3) (ms.2 4) (ms.2 5) (ms.2 6) (ms.2 7) (ms.2 8) (ms.2 9) (ms.2 10) true false) ⟨hx, hb, hml, hown, hts⟩ (cwV 2 hts (sq_good gvX1_86) rfl rfl rfl (by decide +kernel) ⟨Nat.le_of_ble_eq_true rfl, Nat.le_of_ble_eq_true rfl⟩) hK hP hD hS hA rfl rfl rfl rfl hl.1 rfl (Nat.le_of_ble_eq_true rfl) dX1_result_116 ⟨Nat.zero_le _, Nat.zero_le _⟩ (fun H locs hP hD hS => ?_)
          refine lv_if_eq (tgt := 124) hx hb dX1_result_119 (by decide) (fun hq => ?_) (fun hq => ?_)
          · exact absurd hq (by decide)
          · have hP : va_P (dC, dI) vwCl (wM h0 q cI cZ (ms.1 0) (ms.1 1) (ms.1 2) (ms.1 3) (ms.1 4) (ms.1 5) (ms.1 6) (ms.1 7) (ms.1 8) (ms.1 9) (ms.1 10) (ms.1 11) 1 (ms.2 1) (ms.2 2) (ms.2 3) (ms.2 4) (ms.2 5) (ms.2 6) (ms.2 7) (ms.2 8) (ms.2 9) (ms.2 10)) H := hP
            have hD : va_D A (wM h0 q cI cZ (ms.1 0) (ms.1 1) (ms.1 2) (ms.1 3) (ms.1 4) (ms.1 5) (ms.1 6) (ms.1 7) (ms.1 8) (ms.1 9) (ms.1 10) (ms.1 11) 1 (ms.2 1) (ms.2 2) (ms.2 3) (ms.2 4) (ms.2 5) (ms.2 6) (ms.2 7) (ms.2 8) (ms.2 9) (ms.2 10)) := hD
            have hP : va_P (dC, dI) vwCl (wM h0 q cI cZ ((sq_mt ms 1).1 0) ((sq_mt ms 1).1 1) ((sq_mt ms 1).1 2) ((sq_mt ms 1).1 3) ((sq_mt ms 1).1 4) ((sq_mt ms 1).1 5) ((sq_mt ms 1).1 6) ((sq_mt ms 1).1 7) ((sq_mt ms 1).1 8) ((sq_mt ms 1).1 9) ((sq_mt ms 1).1 10) ((sq_mt ms 1).1 11) ((sq_mt ms 1).2 0) ((sq_mt ms 1).2 1) ((sq_mt ms 1).2 2) ((sq_mt ms 1).2 3) ((sq_mt ms 1).2 4) ((sq_mt ms 1).2 5) ((sq_mt ms 1).2 6) ((sq_mt ms 1).2 7) ((sq_mt ms 1).2 8) ((sq_mt ms 1).2 9) ((sq_mt ms 1).2 10)) H := hP
            have hD : va_D A (wM h0 q cI cZ ((sq_mt ms 1).1 0) ((sq_mt ms 1).1 1) ((sq_mt ms 1).1 2) ((sq_mt ms 1).1 3) ((sq_mt ms 1).1 4) ((sq_mt ms 1).1 5) ((sq_mt ms 1).1 6) ((sq_mt ms 1).1 7) ((sq_mt ms 1).1 8) ((sq_mt ms 1).1 9) ((sq_mt ms 1).1 10) ((sq_mt ms 1).1 11) ((sq_mt ms 1).2 0) ((sq_mt ms 1).2 1) ((sq_mt ms 1).2 2) ((sq_mt ms 1).2 3) ((sq_mt ms 1).2 4) ((sq_mt ms 1).2 5) ((sq_mt ms 1).2 6) ((sq_mt ms 1).2 7) ((sq_mt ms 1).2 8) ((sq_mt ms 1).2 9) ((sq_mt ms 1).2 10)) := hD
            have e9 : (wM h0 q cI cZ ((sq_mt ms (sq_mkR ms v w)).1 0) ((sq_mt ms (sq_mkR ms v w)).1 1) ((sq_mt ms (sq_mkR ms v w)).1 2) ((sq_mt ms (sq_mkR ms v w)).1 3) ((sq_mt ms (sq_mkR ms v w)).1 4) ((sq_mt ms (sq_mkR ms v w)).1 5) ((sq_mt ms (sq_mkR ms v w)).1 6) ((sq_mt ms (sq_mkR ms v w)).1 7) ((sq_mt ms (sq_mkR ms v w)).1 8) ((sq_mt ms (sq_mkR ms v w)).1 9) ((sq_mt ms (sq_mkR ms v w)).1 10) ((sq_mt ms (sq_mkR ms v w)).1 11) ((sq_mt ms (sq_mkR ms v w)).2 0) ((sq_mt ms (sq_mkR ms v w)).2 1) ((sq_mt ms (sq_mkR ms v w)).2 2) ((sq_mt ms (sq_mkR ms v w)).2 3) ((sq_mt ms (sq_mkR ms v w)).2 4) ((sq_mt ms (sq_mkR ms v w)).2 5) ((sq_mt ms (sq_mkR ms v w)).2 6) ((sq_mt ms (sq_mkR ms v w)).2 7) ((sq_mt ms (sq_mkR ms v w)).2 8) ((sq_mt ms (sq_mkR ms v w)).2 9) ((sq_mt ms (sq_mkR ms v w)).2 10)) = (wM h0 q cI cZ ((sq_mt ms 1).1 0) ((sq_mt ms 1).1 1) ((sq_mt ms 1).1 2) ((sq_mt ms 1).1 3) ((sq_mt ms 1).1 4) ((sq_mt ms 1).1 5) ((sq_mt ms 1).1 6) ((sq_mt ms 1).1 7) ((sq_mt ms 1).1 8) ((sq_mt ms 1).1 9) ((sq_mt ms 1).1 10) ((sq_mt ms 1).1 11) ((sq_mt ms 1).2 0) ((sq_mt ms 1).2 1) ((sq_mt ms 1).2 2) ((sq_mt ms 1).2 3) ((sq_mt ms 1).2 4) ((sq_mt ms 1).2 5) ((sq_mt ms 1).2 6) ((sq_mt ms 1).2 7) ((sq_mt ms 1).2 8) ((sq_mt ms 1).2 9) ((sq_mt ms 1).2 10)) := by rw [hk]
            rw [← e9] at hP hD
            refine lv_iconst (v := nI 0) hx hb dX1_result_122 (by decide +kernel) ?_
            exact hend _ _ _ _ _ (by unfold sq_mrR; rw [hk, if_neg (by decide)]; rfl) hP hD hS dX1_result_123
        · exact absurd hq (by decide)
    · exact absurd hq (by decide)
  have TH : ∀ (H : Heap) (locs : List Loc) (ls : Array Slot), sq_mkR ms v w = 0 → (sq_mi (ms.2 7) v ∧ sq_mi (ms.2 1) w) → va_P (dC, dI) vwCl (wM h0 q cI cZ (ms.1 0) (ms.1 1) (ms.1 2) (ms.1 3) (ms.1 4) (ms.1 5) (ms.1 6) (ms.1 7) (ms.1 8) (ms.1 9) (ms.1 10) (ms.1 11) (ms.2 0) (ms.2 1) (ms.2 2) (ms.2 3) (ms.2 4) (ms.2 5) (ms.2 6) (ms.2 7) (ms.2 8) (ms.2 9) (ms.2 10)) H → va_D A (wM h0 q cI cZ (ms.1 0) (ms.1 1) (ms.1 2) (ms.1 3) (ms.1 4) (ms.1 5) (ms.1 6) (ms.1 7) (ms.1 8) (ms.1 9) (ms.1 10) (ms.1 11) (ms.2 0) (ms.2 1) (ms.2 2) (ms.2 3) (ms.2 4) (ms.2 5) (ms.2 6) (ms.2 7) (ms.2 8) (ms.2 9) (ms.2 10)) → va_S A s.heap H locs → lv_has ls 5 [(3, .int (nI 1)), (0, .ref h0), (1, .int v), (2, .int w)] → W p l e rmm_result s m args below meth c H locs 0 0 Q (F0 m 90 ls [.int (nI 1)]) := by
    intro H locs ls hk hpre hP hD hS hl
    refine lv_istore (lv' := [(4, .int (nI 1)), (3, .int (nI 1)), (0, .ref h0), (1, .int v), (2, .int w)]) hx hb dX1_result_90 hl (by decide) rfl (fun ls hl => ?_)
    refine lv_aload_n hx hb dX1_result_92 rfl (lv_at hl 2 rfl) ?_
    refine lv_iload_n hx hb dX1_result_93 rfl (lv_at hl 1 rfl) ?_
    refine sq_if_ne (tgt := 101) hx hb (by omega) dX1_result_94 (by decide) (fun hq => ?_) (fun hq => ?_)
    · refine lv_iconst (v := nI 0) hx hb dX1_result_101 (by decide +kernel) ?_
      refine lv_iload_n hx hb dX1_result_102 rfl (lv_at hl 1 rfl) ?_
      refine sq_if_eq (tgt := 115) hx hb (by omega) dX1_result_103 (by decide) (fun hq => ?_) (fun hq => ?_)
      · exact absurd hq (by decide)
      · refine lv_iload hx hb dX1_result_106 (lv_at hl 0 rfl) ?_
        refine sq_if_ne (tgt := 115) hx hb (by omega) dX1_result_108 (by decide) (fun hq => ?_) (fun hq => ?_)
        · refine lv_iconst (v := nI 0) hx hb dX1_result_115 (by decide +kernel) ?_
          refine sq_calli (As := [.int (sq_b false), .int (sq_b false)]) (k_refuse l dC dI h0 q cI cZ (ms.1 0) (ms.1 1) (ms.1 2) (ms.1 3) (ms.1 4) (ms.1 5) (ms.1 6) (ms.1 7) (ms.1 8) (ms.1 9) (ms.1 10) (ms.1 11) (ms.2 0) (ms.2 1) (ms.2 2) (ms.2 3) (ms.2 4) (ms.2 5) (ms.2 6) (ms.2 7) (ms.2 8) (ms.2 9) (ms.2 10) false false) ⟨hx, hb, hml, hown, hts⟩ (cwV 2 hts (sq_good gvX1_86) rfl rfl rfl (by decide +kernel) ⟨Nat.le_of_ble_eq_true rfl, Nat.le_of_ble_eq_true rfl⟩) hK hP hD hS hA rfl rfl rfl rfl hl.1 rfl (Nat.le_of_ble_eq_true rfl) dX1_result_116 ⟨Nat.zero_le _, Nat.zero_le _⟩ (fun H locs hP hD hS => ?_)
          refine lv_if_eq (tgt := 124) hx hb dX1_result_119 (by decide) (fun hq => ?_) (fun hq => ?_)
          · have hP : va_P (dC, dI) vwCl (wM h0 q cI cZ (ms.1 0) (ms.1 1) (ms.1 2) (ms.1 3) (ms.1 4) (ms.1 5) (ms.1 6) (ms.1 7) (ms.1 8) (ms.1 9) (ms.1 10) (ms.1 11) 0 (ms.2 1) (ms.2 2) (ms.2 3) (ms.2 4) (ms.2 5) (ms.2 6) (ms.2 7) (ms.2 8) (ms.2 9) (ms.2 10)) H := hP
            have hD : va_D A (wM h0 q cI cZ (ms.1 0) (ms.1 1) (ms.1 2) (ms.1 3) (ms.1 4) (ms.1 5) (ms.1 6) (ms.1 7) (ms.1 8) (ms.1 9) (ms.1 10) (ms.1 11) 0 (ms.2 1) (ms.2 2) (ms.2 3) (ms.2 4) (ms.2 5) (ms.2 6) (ms.2 7) (ms.2 8) (ms.2 9) (ms.2 10)) := hD
            have hP : va_P (dC, dI) vwCl (wM h0 q cI cZ ((sq_mt ms 0).1 0) ((sq_mt ms 0).1 1) ((sq_mt ms 0).1 2) ((sq_mt ms 0).1 3) ((sq_mt ms 0).1 4) ((sq_mt ms 0).1 5) ((sq_mt ms 0).1 6) ((sq_mt ms 0).1 7) ((sq_mt ms 0).1 8) ((sq_mt ms 0).1 9) ((sq_mt ms 0).1 10) ((sq_mt ms 0).1 11) ((sq_mt ms 0).2 0) ((sq_mt ms 0).2 1) ((sq_mt ms 0).2 2) ((sq_mt ms 0).2 3) ((sq_mt ms 0).2 4) ((sq_mt ms 0).2 5) ((sq_mt ms 0).2 6) ((sq_mt ms 0).2 7) ((sq_mt ms 0).2 8) ((sq_mt ms 0).2 9) ((sq_mt ms 0).2 10)) H := hP
            have hD : va_D A (wM h0 q cI cZ ((sq_mt ms 0).1 0) ((sq_mt ms 0).1 1) ((sq_mt ms 0).1 2) ((sq_mt ms 0).1 3) ((sq_mt ms 0).1 4) ((sq_mt ms 0).1 5) ((sq_mt ms 0).1 6) ((sq_mt ms 0).1 7) ((sq_mt ms 0).1 8) ((sq_mt ms 0).1 9) ((sq_mt ms 0).1 10) ((sq_mt ms 0).1 11) ((sq_mt ms 0).2 0) ((sq_mt ms 0).2 1) ((sq_mt ms 0).2 2) ((sq_mt ms 0).2 3) ((sq_mt ms 0).2 4) ((sq_mt ms 0).2 5) ((sq_mt ms 0).2 6) ((sq_mt ms 0).2 7) ((sq_mt ms 0).2 8) ((sq_mt ms 0).2 9) ((sq_mt ms 0).2 10)) := hD
            have e9 : (wM h0 q cI cZ ((sq_mt ms (sq_mkR ms v w)).1 0) ((sq_mt ms (sq_mkR ms v w)).1 1) ((sq_mt ms (sq_mkR ms v w)).1 2) ((sq_mt ms (sq_mkR ms v w)).1 3) ((sq_mt ms (sq_mkR ms v w)).1 4) ((sq_mt ms (sq_mkR ms v w)).1 5) ((sq_mt ms (sq_mkR ms v w)).1 6) ((sq_mt ms (sq_mkR ms v w)).1 7) ((sq_mt ms (sq_mkR ms v w)).1 8) ((sq_mt ms (sq_mkR ms v w)).1 9) ((sq_mt ms (sq_mkR ms v w)).1 10) ((sq_mt ms (sq_mkR ms v w)).1 11) ((sq_mt ms (sq_mkR ms v w)).2 0) ((sq_mt ms (sq_mkR ms v w)).2 1) ((sq_mt ms (sq_mkR ms v w)).2 2) ((sq_mt ms (sq_mkR ms v w)).2 3) ((sq_mt ms (sq_mkR ms v w)).2 4) ((sq_mt ms (sq_mkR ms v w)).2 5) ((sq_mt ms (sq_mkR ms v w)).2 6) ((sq_mt ms (sq_mkR ms v w)).2 7) ((sq_mt ms (sq_mkR ms v w)).2 8) ((sq_mt ms (sq_mkR ms v w)).2 9) ((sq_mt ms (sq_mkR ms v w)).2 10)) = (wM h0 q cI cZ ((sq_mt ms 0).1 0) ((sq_mt ms 0).1 1) ((sq_mt ms 0).1 2) ((sq_mt ms 0).1 3) ((sq_mt ms 0).1 4) ((sq_mt ms 0).1 5) ((sq_mt ms 0).1 6) ((sq_mt ms 0).1 7) ((sq_mt ms 0).1 8) ((sq_mt ms 0).1 9) ((sq_mt ms 0).1 10) ((sq_mt ms 0).1 11) ((sq_mt ms 0).2 0) ((sq_mt ms 0).2 1) ((sq_mt ms 0).2 2) ((sq_mt ms 0).2 3) ((sq_mt ms 0).2 4) ((sq_mt ms 0).2 5) ((sq_mt ms 0).2 6) ((sq_mt ms 0).2 7) ((sq_mt ms 0).2 8) ((sq_mt ms 0).2 9) ((sq_mt ms 0).2 10)) := by rw [hk]
            rw [← e9] at hP hD
            have hrr : sq_mrR ms v w = ms.1 4 (sq_vec v * 6 + sq_vec w) := by unfold sq_mrR; rw [if_pos hk]
            obtain ⟨j, hj, rfl⟩ := sq_in_of ((sq_mi_iff (by omega)).mp hpre.1) (by omega)
            obtain ⟨i, hi, rfl⟩ := sq_in_of ((sq_mi_iff (by omega)).mp hpre.2) (by omega)
            rw [sq_vec_nI (by omega), sq_vec_nI (by omega)] at hrr
            refine lv_aload_n hx hb dX1_result_124 rfl (lv_at hl 2 rfl) ?_
            refine va_get (D := (dC, dI)) (ci := 1) (v := .ref (q 4)) (C := RX1) (T := TX1) (N := 23) hx hb hts hin hown hK hP 0 rfl rfl 15 (by decide) k27 (fun _ h9 => h9) rfl dX1_result_125 ?_
            refine lv_bipush (v := nI 6) hx hb dX1_result_128 (by decide +kernel) ?_
            refine lv_iload_n hx hb dX1_result_130 rfl (lv_at hl 3 rfl) ?_
            refine sq_imulc hx hb dX1_result_131 ?_
            refine lv_iload_n hx hb dX1_result_132 rfl (lv_at hl 4 rfl) ?_
            refine sq_iadd hx hb dX1_result_133 ?_
            refine sq_iald hx hb hK hP 5 0 rfl rfl (i := ((j * 6) + i)) (by omega) (by decide) dX1_result_134 ?_
            exact hend _ _ _ _ _ hrr.symm hP hD hS dX1_result_135
          · exact absurd hq (by decide)
        · exact absurd hq (by decide)
    · exact absurd hq (by decide)
  have TN : ∀ (H : Heap) (locs : List Loc) (ls : Array Slot), sq_mkR ms v w = 2 → (sq_mi (ms.2 7) v ∧ sq_mi (ms.2 1) w) → va_P (dC, dI) vwCl (wM h0 q cI cZ (ms.1 0) (ms.1 1) (ms.1 2) (ms.1 3) (ms.1 4) (ms.1 5) (ms.1 6) (ms.1 7) (ms.1 8) (ms.1 9) (ms.1 10) (ms.1 11) (ms.2 0) (ms.2 1) (ms.2 2) (ms.2 3) (ms.2 4) (ms.2 5) (ms.2 6) (ms.2 7) (ms.2 8) (ms.2 9) (ms.2 10)) H → va_D A (wM h0 q cI cZ (ms.1 0) (ms.1 1) (ms.1 2) (ms.1 3) (ms.1 4) (ms.1 5) (ms.1 6) (ms.1 7) (ms.1 8) (ms.1 9) (ms.1 10) (ms.1 11) (ms.2 0) (ms.2 1) (ms.2 2) (ms.2 3) (ms.2 4) (ms.2 5) (ms.2 6) (ms.2 7) (ms.2 8) (ms.2 9) (ms.2 10)) → va_S A s.heap H locs → lv_has ls 5 [(3, .int (nI 1)), (0, .ref h0), (1, .int v), (2, .int w)] → W p l e rmm_result s m args below meth c H locs 0 0 Q (F0 m 90 ls [.int (nI 0)]) := by
    intro H locs ls hk hpre hP hD hS hl
    refine lv_istore (lv' := [(4, .int (nI 0)), (3, .int (nI 1)), (0, .ref h0), (1, .int v), (2, .int w)]) hx hb dX1_result_90 hl (by decide) rfl (fun ls hl => ?_)
    refine lv_aload_n hx hb dX1_result_92 rfl (lv_at hl 2 rfl) ?_
    refine lv_iload_n hx hb dX1_result_93 rfl (lv_at hl 1 rfl) ?_
    refine sq_if_ne (tgt := 101) hx hb (by omega) dX1_result_94 (by decide) (fun hq => ?_) (fun hq => ?_)
    · refine lv_iconst (v := nI 0) hx hb dX1_result_101 (by decide +kernel) ?_
      refine lv_iload_n hx hb dX1_result_102 rfl (lv_at hl 1 rfl) ?_
      refine sq_if_eq (tgt := 115) hx hb (by omega) dX1_result_103 (by decide) (fun hq => ?_) (fun hq => ?_)
      · exact absurd hq (by decide)
      · refine lv_iload hx hb dX1_result_106 (lv_at hl 0 rfl) ?_
        refine sq_if_ne (tgt := 115) hx hb (by omega) dX1_result_108 (by decide) (fun hq => ?_) (fun hq => ?_)
        · exact absurd hq (by decide)
        · refine lv_iconst (v := nI 1) hx hb dX1_result_111 (by decide +kernel) ?_
          refine lv_goto (tgt := 116) hx hb dX1_result_112 (by decide) ?_
          refine sq_calli (As := [.int (sq_b false), .int (sq_b true)]) (k_refuse l dC dI h0 q cI cZ (ms.1 0) (ms.1 1) (ms.1 2) (ms.1 3) (ms.1 4) (ms.1 5) (ms.1 6) (ms.1 7) (ms.1 8) (ms.1 9) (ms.1 10) (ms.1 11) (ms.2 0) (ms.2 1) (ms.2 2) (ms.2 3) (ms.2 4) (ms.2 5) (ms.2 6) (ms.2 7) (ms.2 8) (ms.2 9) (ms.2 10) false true) ⟨hx, hb, hml, hown, hts⟩ (cwV 2 hts (sq_good gvX1_86) rfl rfl rfl (by decide +kernel) ⟨Nat.le_of_ble_eq_true rfl, Nat.le_of_ble_eq_true rfl⟩) hK hP hD hS hA rfl rfl rfl rfl hl.1 rfl (Nat.le_of_ble_eq_true rfl) dX1_result_116 ⟨Nat.zero_le _, Nat.zero_le _⟩ (fun H locs hP hD hS => ?_)
          refine lv_if_eq (tgt := 124) hx hb dX1_result_119 (by decide) (fun hq => ?_) (fun hq => ?_)
          · exact absurd hq (by decide)
          · have hP : va_P (dC, dI) vwCl (wM h0 q cI cZ (ms.1 0) (ms.1 1) (ms.1 2) (ms.1 3) (ms.1 4) (ms.1 5) (ms.1 6) (ms.1 7) (ms.1 8) (ms.1 9) (ms.1 10) (ms.1 11) 2 (ms.2 1) (ms.2 2) (ms.2 3) (ms.2 4) (ms.2 5) (ms.2 6) (ms.2 7) (ms.2 8) (ms.2 9) (ms.2 10)) H := hP
            have hD : va_D A (wM h0 q cI cZ (ms.1 0) (ms.1 1) (ms.1 2) (ms.1 3) (ms.1 4) (ms.1 5) (ms.1 6) (ms.1 7) (ms.1 8) (ms.1 9) (ms.1 10) (ms.1 11) 2 (ms.2 1) (ms.2 2) (ms.2 3) (ms.2 4) (ms.2 5) (ms.2 6) (ms.2 7) (ms.2 8) (ms.2 9) (ms.2 10)) := hD
            have hP : va_P (dC, dI) vwCl (wM h0 q cI cZ ((sq_mt ms 2).1 0) ((sq_mt ms 2).1 1) ((sq_mt ms 2).1 2) ((sq_mt ms 2).1 3) ((sq_mt ms 2).1 4) ((sq_mt ms 2).1 5) ((sq_mt ms 2).1 6) ((sq_mt ms 2).1 7) ((sq_mt ms 2).1 8) ((sq_mt ms 2).1 9) ((sq_mt ms 2).1 10) ((sq_mt ms 2).1 11) ((sq_mt ms 2).2 0) ((sq_mt ms 2).2 1) ((sq_mt ms 2).2 2) ((sq_mt ms 2).2 3) ((sq_mt ms 2).2 4) ((sq_mt ms 2).2 5) ((sq_mt ms 2).2 6) ((sq_mt ms 2).2 7) ((sq_mt ms 2).2 8) ((sq_mt ms 2).2 9) ((sq_mt ms 2).2 10)) H := hP
            have hD : va_D A (wM h0 q cI cZ ((sq_mt ms 2).1 0) ((sq_mt ms 2).1 1) ((sq_mt ms 2).1 2) ((sq_mt ms 2).1 3) ((sq_mt ms 2).1 4) ((sq_mt ms 2).1 5) ((sq_mt ms 2).1 6) ((sq_mt ms 2).1 7) ((sq_mt ms 2).1 8) ((sq_mt ms 2).1 9) ((sq_mt ms 2).1 10) ((sq_mt ms 2).1 11) ((sq_mt ms 2).2 0) ((sq_mt ms 2).2 1) ((sq_mt ms 2).2 2) ((sq_mt ms 2).2 3) ((sq_mt ms 2).2 4) ((sq_mt ms 2).2 5) ((sq_mt ms 2).2 6) ((sq_mt ms 2).2 7) ((sq_mt ms 2).2 8) ((sq_mt ms 2).2 9) ((sq_mt ms 2).2 10)) := hD
            have e9 : (wM h0 q cI cZ ((sq_mt ms (sq_mkR ms v w)).1 0) ((sq_mt ms (sq_mkR ms v w)).1 1) ((sq_mt ms (sq_mkR ms v w)).1 2) ((sq_mt ms (sq_mkR ms v w)).1 3) ((sq_mt ms (sq_mkR ms v w)).1 4) ((sq_mt ms (sq_mkR ms v w)).1 5) ((sq_mt ms (sq_mkR ms v w)).1 6) ((sq_mt ms (sq_mkR ms v w)).1 7) ((sq_mt ms (sq_mkR ms v w)).1 8) ((sq_mt ms (sq_mkR ms v w)).1 9) ((sq_mt ms (sq_mkR ms v w)).1 10) ((sq_mt ms (sq_mkR ms v w)).1 11) ((sq_mt ms (sq_mkR ms v w)).2 0) ((sq_mt ms (sq_mkR ms v w)).2 1) ((sq_mt ms (sq_mkR ms v w)).2 2) ((sq_mt ms (sq_mkR ms v w)).2 3) ((sq_mt ms (sq_mkR ms v w)).2 4) ((sq_mt ms (sq_mkR ms v w)).2 5) ((sq_mt ms (sq_mkR ms v w)).2 6) ((sq_mt ms (sq_mkR ms v w)).2 7) ((sq_mt ms (sq_mkR ms v w)).2 8) ((sq_mt ms (sq_mkR ms v w)).2 9) ((sq_mt ms (sq_mkR ms v w)).2 10)) = (wM h0 q cI cZ ((sq_mt ms 2).1 0) ((sq_mt ms 2).1 1) ((sq_mt ms 2).1 2) ((sq_mt ms 2).1 3) ((sq_mt ms 2).1 4) ((sq_mt ms 2).1 5) ((sq_mt ms 2).1 6) ((sq_mt ms 2).1 7) ((sq_mt ms 2).1 8) ((sq_mt ms 2).1 9) ((sq_mt ms 2).1 10) ((sq_mt ms 2).1 11) ((sq_mt ms 2).2 0) ((sq_mt ms 2).2 1) ((sq_mt ms 2).2 2) ((sq_mt ms 2).2 3) ((sq_mt ms 2).2 4) ((sq_mt ms 2).2 5) ((sq_mt ms 2).2 6) ((sq_mt ms 2).2 7) ((sq_mt ms 2).2 8) ((sq_mt ms 2).2 9) ((sq_mt ms 2).2 10)) := by rw [hk]
            rw [← e9] at hP hD
            refine lv_iconst (v := nI 0) hx hb dX1_result_122 (by decide +kernel) ?_
            exact hend _ _ _ _ _ (by unfold sq_mrR; rw [hk, if_neg (by decide)]; rfl) hP hD hS dX1_result_123
    · exact absurd hq (by decide)
  have T1 : ∀ (H : Heap) (locs : List Loc) (ls : Array Slot), (sq_mi (ms.2 7) v ∧ sq_mi (ms.2 1) w) → va_P (dC, dI) vwCl (wM h0 q cI cZ (ms.1 0) (ms.1 1) (ms.1 2) (ms.1 3) (ms.1 4) (ms.1 5) (ms.1 6) (ms.1 7) (ms.1 8) (ms.1 9) (ms.1 10) (ms.1 11) (ms.2 0) (ms.2 1) (ms.2 2) (ms.2 3) (ms.2 4) (ms.2 5) (ms.2 6) (ms.2 7) (ms.2 8) (ms.2 9) (ms.2 10)) H → va_D A (wM h0 q cI cZ (ms.1 0) (ms.1 1) (ms.1 2) (ms.1 3) (ms.1 4) (ms.1 5) (ms.1 6) (ms.1 7) (ms.1 8) (ms.1 9) (ms.1 10) (ms.1 11) (ms.2 0) (ms.2 1) (ms.2 2) (ms.2 3) (ms.2 4) (ms.2 5) (ms.2 6) (ms.2 7) (ms.2 8) (ms.2 9) (ms.2 10)) → va_S A s.heap H locs → lv_has ls 5 [(0, .ref h0), (1, .int v), (2, .int w)] → W p l e rmm_result s m args below meth c H locs 0 0 Q (F0 m 33 ls [.int (nI 1)]) := by
    intro H locs ls hpre hP hD hS hl
    have hkk : sq_mkR ms v w = if ¬ ms.1 3 (sq_vec v) = -1 ∧ sq_vec (ms.1 3 (sq_vec v)) + 2 * ms.2 1 - 2 ≤ ms.2 2 then 0 else 2 := by unfold sq_mkR; rw [if_neg (fun h => h hpre)]
    obtain ⟨j, hj, rfl⟩ := sq_in_of ((sq_mi_iff (by omega)).mp hpre.1) (by omega)
    rw [sq_vec_nI (by omega)] at hkk
    refine lv_istore_n (lv' := [(3, .int (nI 1)), (0, .ref h0), (1, .int (nI j)), (2, .int w)]) hx hb dX1_result_33 rfl hl (by decide) rfl (fun ls hl => ?_)
    refine lv_iload_n hx hb dX1_result_34 rfl (lv_at hl 0 rfl) ?_
    refine sq_if_eq (tgt := 89) hx hb (by omega) dX1_result_35 (by decide) (fun hq => ?_) (fun hq => ?_)
    · exact absurd hq (by decide)
    · refine lv_aload_n hx hb dX1_result_38 rfl (lv_at hl 1 rfl) ?_
      refine va_get (D := (dC, dI)) (ci := 1) (v := .ref (q 3)) (C := RX1) (T := TX1) (N := 23) hx hb hts hin hown hK hP 0 rfl rfl 14 (by decide) k24 (fun _ h9 => h9) rfl dX1_result_39 ?_
      refine lv_iload_n hx hb dX1_result_42 rfl (lv_at hl 0 rfl) ?_
      refine sq_if_eq (tgt := 50) hx hb (by omega) dX1_result_43 (by decide) (fun hq => ?_) (fun hq => ?_)
      · exact absurd hq (by decide)
      · refine lv_iload_n hx hb dX1_result_46 rfl (lv_at hl 2 rfl) ?_
        refine lv_goto (tgt := 51) hx hb dX1_result_47 (by decide) ?_
        refine sq_iald hx hb hK hP 4 0 rfl rfl (i := j) (by omega) (by decide) dX1_result_51 ?_
        rcases o16 j hj with ev | ⟨t, ht, ev⟩
        · refine sq_top ev ?_
          refine sq_if_m1 (tgt := 89) hx hb dX1_result_52 (by decide) ?_
          refine lv_iconst (v := nI 0) hx hb dX1_result_89 (by decide +kernel) ?_
          exact TN _ _ ls (by rw [hkk, if_neg (fun h => h.1 ev)]) hpre hP hD hS hl
        · rw [ev, sq_vec_nI (by omega)] at hkk
          refine sq_top ev ?_
          refine sq_if_lt (tgt := 89) hx hb (by omega) dX1_result_52 (by decide) ?_
          refine lv_aload_n hx hb dX1_result_55 rfl (lv_at hl 1 rfl) ?_
          refine va_get (D := (dC, dI)) (ci := 1) (v := .int (nI (ms.2 2))) (C := RX1) (T := TX1) (N := 23) hx hb hts hin hown hK hP 0 rfl rfl 2 (by decide) k57 (fun _ h9 => h9) rfl dX1_result_56 ?_
          refine lv_aload_n hx hb dX1_result_59 rfl (lv_at hl 1 rfl) ?_
          refine va_get (D := (dC, dI)) (ci := 1) (v := .ref (q 3)) (C := RX1) (T := TX1) (N := 23) hx hb hts hin hown hK hP 0 rfl rfl 14 (by decide) k24 (fun _ h9 => h9) rfl dX1_result_60 ?_
          refine lv_iload_n hx hb dX1_result_63 rfl (lv_at hl 0 rfl) ?_
          refine sq_if_eq (tgt := 71) hx hb (by omega) dX1_result_64 (by decide) (fun hq => ?_) (fun hq => ?_)
          · exact absurd hq (by decide)
          · refine lv_iload_n hx hb dX1_result_67 rfl (lv_at hl 2 rfl) ?_
            refine lv_goto (tgt := 72) hx hb dX1_result_68 (by decide) ?_
            refine sq_iald hx hb hK hP 4 0 rfl rfl (i := j) (by omega) (by decide) dX1_result_72 ?_
            refine sq_top ev ?_
            refine lv_iconst (v := nI 2) hx hb dX1_result_73 (by decide +kernel) ?_
            refine lv_aload_n hx hb dX1_result_74 rfl (lv_at hl 1 rfl) ?_
            refine va_get (D := (dC, dI)) (ci := 1) (v := .int (nI (ms.2 1))) (C := RX1) (T := TX1) (N := 23) hx hb hts hin hown hK hP 0 rfl rfl 1 (by decide) k7 (fun _ h9 => h9) rfl dX1_result_75 ?_
            refine sq_imul hx hb dX1_result_78 ?_
            refine sq_iadd hx hb dX1_result_79 ?_
            refine lv_iconst (v := nI 2) hx hb dX1_result_80 (by decide +kernel) ?_
            refine sq_isub hx hb (by omega) dX1_result_81 ?_
            refine sq_icmp_lt (tgt := 89) hx hb (by omega) (by omega) dX1_result_82 (by decide) (fun hf => ?_) (fun hf => ?_)
            · refine lv_iconst (v := nI 0) hx hb dX1_result_89 (by decide +kernel) ?_
              exact TN _ _ ls (by rw [hkk, if_neg (fun h => absurd h.2 (by omega))]) hpre hP hD hS hl
            · refine lv_iconst (v := nI 1) hx hb dX1_result_85 (by decide +kernel) ?_
              refine lv_goto (tgt := 90) hx hb dX1_result_86 (by decide) ?_
              exact TH _ _ ls (by rw [hkk, if_pos ⟨sq_m1_ne (by omega), hf⟩]) hpre hP hD hS hl
  refine lv_iload_n hx hb dX1_result_0 rfl (lv_at hl 1 rfl) ?_
  refine lv_iconst (v := nI 0) hx hb dX1_result_1 (by decide +kernel) ?_
  refine lv_aload_n hx hb dX1_result_2 rfl (lv_at hl 0 rfl) ?_
  refine va_get (D := (dC, dI)) (ci := 1) (v := .int (nI (ms.2 7))) (C := RX1) (T := TX1) (N := 23) hx hb hts hin hown hK hP 0 rfl rfl 8 (by decide) k73 (fun _ h9 => h9) rfl dX1_result_3 ?_
  refine lv_iconst (v := nI 1) hx hb dX1_result_6 (by decide +kernel) ?_
  refine lv_isub hx hb dX1_result_7 ?_
  refine sq_callsi (As := [.int v, .int (nI 0), .int (nI (ms.2 7) - nI 1)]) (k_in l (dC, dI) vwCl [(cI, .int), (cZ, .boolean)] (wM h0 q cI cZ (ms.1 0) (ms.1 1) (ms.1 2) (ms.1 3) (ms.1 4) (ms.1 5) (ms.1 6) (ms.1 7) (ms.1 8) (ms.1 9) (ms.1 10) (ms.1 11) (ms.2 0) (ms.2 1) (ms.2 2) (ms.2 3) (ms.2 4) (ms.2 5) (ms.2 6) (ms.2 7) (ms.2 8) (ms.2 9) (ms.2 10)) v (nI 0) (nI (ms.2 7) - nI 1)) ⟨hx, hb, hml, hown, hts⟩ (va_cwS 3 hts (sq_good gsX1_82) rfl rfl rfl (by decide +kernel) ⟨Nat.le_of_ble_eq_true rfl, Nat.le_of_ble_eq_true rfl⟩) hK hP hD hS hA rfl hl.1 rfl (Nat.le_of_ble_eq_true rfl) dX1_result_8 ⟨Nat.zero_le _, Nat.zero_le _⟩ (fun H locs hP hD hS => ?_)
  refine lv_if_eq (tgt := 32) hx hb dX1_result_11 (by decide) (fun hc => ?_) (fun hc => ?_)
  · refine lv_iconst (v := nI 0) hx hb dX1_result_32 (by decide +kernel) ?_
    exact T0 _ _ ls (fun h => sq_b0d hc h.1) hP hD hS hl
  · refine lv_iload_n hx hb dX1_result_14 rfl (lv_at hl 2 rfl) ?_
    refine lv_iconst (v := nI 0) hx hb dX1_result_15 (by decide +kernel) ?_
    refine lv_aload_n hx hb dX1_result_16 rfl (lv_at hl 0 rfl) ?_
    refine va_get (D := (dC, dI)) (ci := 1) (v := .int (nI (ms.2 1))) (C := RX1) (T := TX1) (N := 23) hx hb hts hin hown hK hP 0 rfl rfl 1 (by decide) k7 (fun _ h9 => h9) rfl dX1_result_17 ?_
    refine lv_iconst (v := nI 1) hx hb dX1_result_20 (by decide +kernel) ?_
    refine lv_isub hx hb dX1_result_21 ?_
    refine sq_callsi (As := [.int w, .int (nI 0), .int (nI (ms.2 1) - nI 1)]) (k_in l (dC, dI) vwCl [(cI, .int), (cZ, .boolean)] (wM h0 q cI cZ (ms.1 0) (ms.1 1) (ms.1 2) (ms.1 3) (ms.1 4) (ms.1 5) (ms.1 6) (ms.1 7) (ms.1 8) (ms.1 9) (ms.1 10) (ms.1 11) (ms.2 0) (ms.2 1) (ms.2 2) (ms.2 3) (ms.2 4) (ms.2 5) (ms.2 6) (ms.2 7) (ms.2 8) (ms.2 9) (ms.2 10)) w (nI 0) (nI (ms.2 1) - nI 1)) ⟨hx, hb, hml, hown, hts⟩ (va_cwS 3 hts (sq_good gsX1_82) rfl rfl rfl (by decide +kernel) ⟨Nat.le_of_ble_eq_true rfl, Nat.le_of_ble_eq_true rfl⟩) hK hP hD hS hA rfl hl.1 rfl (Nat.le_of_ble_eq_true rfl) dX1_result_22 ⟨Nat.zero_le _, Nat.zero_le _⟩ (fun H locs hP hD hS => ?_)
    refine lv_if_eq (tgt := 32) hx hb dX1_result_25 (by decide) (fun hd => ?_) (fun hd => ?_)
    · refine lv_iconst (v := nI 0) hx hb dX1_result_32 (by decide +kernel) ?_
      exact T0 _ _ ls (fun h => sq_b0d hd h.2) hP hD hS hl
    · refine lv_iconst (v := nI 1) hx hb dX1_result_28 (by decide +kernel) ?_
      refine lv_goto (tgt := 33) hx hb dX1_result_29 (by decide) ?_
      exact T1 _ _ ls ⟨sq_bnd hc, sq_bnd hd⟩ hP hD hS hl
def rmm_about : Room := { frames := 1, cells := 0, slots := 0, locals := 22 }
set_option maxHeartbeats 4000000 in
set_option maxRecDepth 100000 in
theorem k_about (l : Launch) (dC : Nat → ClassId) (dI : Nat → Nat → Nat) (h0 : Nat) (q : Nat → Nat) (cI cZ : ClassId) (ms : SqS) (w : Int32) (hok : sq_mok ms) : sq_Mi l yX1_about wsX1_about rmm_about [.ref h0, .int w] (dC, dI) vwCl [(cI, .int), (cZ, .boolean)] (wM h0 q cI cZ (ms.1 0) (ms.1 1) (ms.1 2) (ms.1 3) (ms.1 4) (ms.1 5) (ms.1 6) (ms.1 7) (ms.1 8) (ms.1 9) (ms.1 10) (ms.1 11) (ms.2 0) (ms.2 1) (ms.2 2) (ms.2 3) (ms.2 4) (ms.2 5) (ms.2 6) (ms.2 7) (ms.2 8) (ms.2 9) (ms.2 10)) (wM h0 q cI cZ ((sq_mt ms (sq_mkA w)).1 0) ((sq_mt ms (sq_mkA w)).1 1) ((sq_mt ms (sq_mkA w)).1 2) ((sq_mt ms (sq_mkA w)).1 3) ((sq_mt ms (sq_mkA w)).1 4) ((sq_mt ms (sq_mkA w)).1 5) ((sq_mt ms (sq_mkA w)).1 6) ((sq_mt ms (sq_mkA w)).1 7) ((sq_mt ms (sq_mkA w)).1 8) ((sq_mt ms (sq_mkA w)).1 9) ((sq_mt ms (sq_mkA w)).1 10) ((sq_mt ms (sq_mkA w)).1 11) ((sq_mt ms (sq_mkA w)).2 0) ((sq_mt ms (sq_mkA w)).2 1) ((sq_mt ms (sq_mkA w)).2 2) ((sq_mt ms (sq_mkA w)).2 3) ((sq_mt ms (sq_mkA w)).2 4) ((sq_mt ms (sq_mkA w)).2 5) ((sq_mt ms (sq_mkA w)).2 6) ((sq_mt ms (sq_mkA w)).2 7) ((sq_mt ms (sq_mkA w)).2 8) ((sq_mt ms (sq_mkA w)).2 9) ((sq_mt ms (sq_mkA w)).2 10)) (sq_mrA ms w) := by
  refine sq_ofWi (cc := cX1_about) (maxL := 4) (by decide) rfl (Nat.le_of_ble_eq_true rfl) (vp_nar_int _) ?_
  intro p e s m args below meth c A ls Q hx hb hts hown hml hK hP hD hS hA hl hend
  have hl : lv_has ls 4 [(0, .ref h0), (1, .int w)] := hl
  have hin : ∀ w ∈ u_ws RX1 TX1 23, w ∈ wsX1_about := fun w h => List.mem_cons_of_mem _ (inX1 w h)
  have k7 := hts _ (List.mem_cons_of_mem _ mfX1_7)
  have k48 := hts _ (List.mem_cons_of_mem _ mfX1_48)
  have k57 := hts _ (List.mem_cons_of_mem _ mfX1_57)
  have k60 := hts _ (List.mem_cons_of_mem _ mfX1_60)
  have k63 := hts _ (List.mem_cons_of_mem _ mfX1_63)
  have k69 := hts _ (List.mem_cons_of_mem _ mfX1_69)
  have k73 := hts _ (List.mem_cons_of_mem _ mfX1_73)
  have k76 := hts _ (List.mem_cons_of_mem _ mfX1_76)
  have k79 := hts _ (List.mem_cons_of_mem _ mfX1_79)
  obtain ⟨⟨o1, o2⟩, o3, ⟨o4, o5⟩, ⟨o6, o7⟩, ⟨o8, o9, o10⟩, o11, o12, o13, o14, o15, o16⟩ := id hok
  refine lv_aload_n hx hb dX1_about_0 rfl (lv_at hl 0 rfl) ?_
  refine lv_iload_n hx hb dX1_about_1 rfl (lv_at hl 1 rfl) ?_
  refine lv_iconst (v := nI 0) hx hb dX1_about_2 (by decide +kernel) ?_
  refine lv_bipush (v := nI 6) hx hb dX1_about_3 (by decide +kernel) ?_
  refine sq_callsi (As := [.int w, .int (nI 0), .int (nI 6)]) (k_in l (dC, dI) vwCl [(cI, .int), (cZ, .boolean)] (wM h0 q cI cZ (ms.1 0) (ms.1 1) (ms.1 2) (ms.1 3) (ms.1 4) (ms.1 5) (ms.1 6) (ms.1 7) (ms.1 8) (ms.1 9) (ms.1 10) (ms.1 11) (ms.2 0) (ms.2 1) (ms.2 2) (ms.2 3) (ms.2 4) (ms.2 5) (ms.2 6) (ms.2 7) (ms.2 8) (ms.2 9) (ms.2 10)) w (nI 0) (nI 6)) ⟨hx, hb, hml, hown, hts⟩ (va_cwS 3 hts (sq_good gsX1_82) rfl rfl rfl (by decide +kernel) ⟨Nat.le_of_ble_eq_true rfl, Nat.le_of_ble_eq_true rfl⟩) hK hP hD hS hA rfl hl.1 rfl (Nat.le_of_ble_eq_true rfl) dX1_about_5 ⟨Nat.zero_le _, Nat.zero_le _⟩ (fun H locs hP hD hS => ?_)
  refine lv_if_ne (tgt := 15) hx hb dX1_about_8 (by decide) (fun hc => ?_) (fun hc => ?_)
  · have hw : ¬ w < nI 0 ∧ ¬ nI 6 < w := sq_bnd hc
    have hk : sq_mkA w = 0 := by unfold sq_mkA; rw [if_pos hw]
    refine lv_iconst (v := nI 0) hx hb dX1_about_15 (by decide +kernel) ?_
    refine lv_iconst (v := nI 0) hx hb dX1_about_16 (by decide +kernel) ?_
    refine sq_calli (As := [.int (sq_b false), .int (sq_b false)]) (k_refuse l dC dI h0 q cI cZ (ms.1 0) (ms.1 1) (ms.1 2) (ms.1 3) (ms.1 4) (ms.1 5) (ms.1 6) (ms.1 7) (ms.1 8) (ms.1 9) (ms.1 10) (ms.1 11) (ms.2 0) (ms.2 1) (ms.2 2) (ms.2 3) (ms.2 4) (ms.2 5) (ms.2 6) (ms.2 7) (ms.2 8) (ms.2 9) (ms.2 10) false false) ⟨hx, hb, hml, hown, hts⟩ (cwV 2 hts (sq_good gvX1_86) rfl rfl rfl (by decide +kernel) ⟨Nat.le_of_ble_eq_true rfl, Nat.le_of_ble_eq_true rfl⟩) hK hP hD hS hA rfl rfl rfl rfl hl.1 rfl (Nat.le_of_ble_eq_true rfl) dX1_about_17 ⟨Nat.zero_le _, Nat.zero_le _⟩ (fun H locs hP hD hS => ?_)
    refine lv_if_eq (tgt := 25) hx hb dX1_about_20 (by decide) (fun hq => ?_) (fun hq => ?_)
    · have hP : va_P (dC, dI) vwCl (wM h0 q cI cZ (ms.1 0) (ms.1 1) (ms.1 2) (ms.1 3) (ms.1 4) (ms.1 5) (ms.1 6) (ms.1 7) (ms.1 8) (ms.1 9) (ms.1 10) (ms.1 11) 0 (ms.2 1) (ms.2 2) (ms.2 3) (ms.2 4) (ms.2 5) (ms.2 6) (ms.2 7) (ms.2 8) (ms.2 9) (ms.2 10)) H := hP
      have hD : va_D A (wM h0 q cI cZ (ms.1 0) (ms.1 1) (ms.1 2) (ms.1 3) (ms.1 4) (ms.1 5) (ms.1 6) (ms.1 7) (ms.1 8) (ms.1 9) (ms.1 10) (ms.1 11) 0 (ms.2 1) (ms.2 2) (ms.2 3) (ms.2 4) (ms.2 5) (ms.2 6) (ms.2 7) (ms.2 8) (ms.2 9) (ms.2 10)) := hD
      have hP : va_P (dC, dI) vwCl (wM h0 q cI cZ ((sq_mt ms 0).1 0) ((sq_mt ms 0).1 1) ((sq_mt ms 0).1 2) ((sq_mt ms 0).1 3) ((sq_mt ms 0).1 4) ((sq_mt ms 0).1 5) ((sq_mt ms 0).1 6) ((sq_mt ms 0).1 7) ((sq_mt ms 0).1 8) ((sq_mt ms 0).1 9) ((sq_mt ms 0).1 10) ((sq_mt ms 0).1 11) ((sq_mt ms 0).2 0) ((sq_mt ms 0).2 1) ((sq_mt ms 0).2 2) ((sq_mt ms 0).2 3) ((sq_mt ms 0).2 4) ((sq_mt ms 0).2 5) ((sq_mt ms 0).2 6) ((sq_mt ms 0).2 7) ((sq_mt ms 0).2 8) ((sq_mt ms 0).2 9) ((sq_mt ms 0).2 10)) H := hP
      have hD : va_D A (wM h0 q cI cZ ((sq_mt ms 0).1 0) ((sq_mt ms 0).1 1) ((sq_mt ms 0).1 2) ((sq_mt ms 0).1 3) ((sq_mt ms 0).1 4) ((sq_mt ms 0).1 5) ((sq_mt ms 0).1 6) ((sq_mt ms 0).1 7) ((sq_mt ms 0).1 8) ((sq_mt ms 0).1 9) ((sq_mt ms 0).1 10) ((sq_mt ms 0).1 11) ((sq_mt ms 0).2 0) ((sq_mt ms 0).2 1) ((sq_mt ms 0).2 2) ((sq_mt ms 0).2 3) ((sq_mt ms 0).2 4) ((sq_mt ms 0).2 5) ((sq_mt ms 0).2 6) ((sq_mt ms 0).2 7) ((sq_mt ms 0).2 8) ((sq_mt ms 0).2 9) ((sq_mt ms 0).2 10)) := hD
      have e9 : (wM h0 q cI cZ ((sq_mt ms (sq_mkA w)).1 0) ((sq_mt ms (sq_mkA w)).1 1) ((sq_mt ms (sq_mkA w)).1 2) ((sq_mt ms (sq_mkA w)).1 3) ((sq_mt ms (sq_mkA w)).1 4) ((sq_mt ms (sq_mkA w)).1 5) ((sq_mt ms (sq_mkA w)).1 6) ((sq_mt ms (sq_mkA w)).1 7) ((sq_mt ms (sq_mkA w)).1 8) ((sq_mt ms (sq_mkA w)).1 9) ((sq_mt ms (sq_mkA w)).1 10) ((sq_mt ms (sq_mkA w)).1 11) ((sq_mt ms (sq_mkA w)).2 0) ((sq_mt ms (sq_mkA w)).2 1) ((sq_mt ms (sq_mkA w)).2 2) ((sq_mt ms (sq_mkA w)).2 3) ((sq_mt ms (sq_mkA w)).2 4) ((sq_mt ms (sq_mkA w)).2 5) ((sq_mt ms (sq_mkA w)).2 6) ((sq_mt ms (sq_mkA w)).2 7) ((sq_mt ms (sq_mkA w)).2 8) ((sq_mt ms (sq_mkA w)).2 9) ((sq_mt ms (sq_mkA w)).2 10)) = (wM h0 q cI cZ ((sq_mt ms 0).1 0) ((sq_mt ms 0).1 1) ((sq_mt ms 0).1 2) ((sq_mt ms 0).1 3) ((sq_mt ms 0).1 4) ((sq_mt ms 0).1 5) ((sq_mt ms 0).1 6) ((sq_mt ms 0).1 7) ((sq_mt ms 0).1 8) ((sq_mt ms 0).1 9) ((sq_mt ms 0).1 10) ((sq_mt ms 0).1 11) ((sq_mt ms 0).2 0) ((sq_mt ms 0).2 1) ((sq_mt ms 0).2 2) ((sq_mt ms 0).2 3) ((sq_mt ms 0).2 4) ((sq_mt ms 0).2 5) ((sq_mt ms 0).2 6) ((sq_mt ms 0).2 7) ((sq_mt ms 0).2 8) ((sq_mt ms 0).2 9) ((sq_mt ms 0).2 10)) := by rw [hk]
      rw [← e9] at hP hD
      refine lv_iconst (v := nI 0) hx hb dX1_about_25 (by decide +kernel) ?_
      refine lv_istore_n (lv' := [(2, .int (nI 0)), (0, .ref h0), (1, .int w)]) hx hb dX1_about_26 rfl hl (by decide) rfl (fun ls hl => ?_)
      refine lv_iconst (v := nI 0) hx hb dX1_about_27 (by decide +kernel) ?_
      refine lv_istore_n (lv' := [(3, .int (nI 0)), (2, .int (nI 0)), (0, .ref h0), (1, .int w)]) hx hb dX1_about_28 rfl hl (by decide) rfl (fun ls hl => ?_)
      have T58 : ∀ (H : Heap) (locs : List Loc) (ls : Array Slot), va_P (dC, dI) vwCl (wM h0 q cI cZ ((sq_mt ms (sq_mkA w)).1 0) ((sq_mt ms (sq_mkA w)).1 1) ((sq_mt ms (sq_mkA w)).1 2) ((sq_mt ms (sq_mkA w)).1 3) ((sq_mt ms (sq_mkA w)).1 4) ((sq_mt ms (sq_mkA w)).1 5) ((sq_mt ms (sq_mkA w)).1 6) ((sq_mt ms (sq_mkA w)).1 7) ((sq_mt ms (sq_mkA w)).1 8) ((sq_mt ms (sq_mkA w)).1 9) ((sq_mt ms (sq_mkA w)).1 10) ((sq_mt ms (sq_mkA w)).1 11) ((sq_mt ms (sq_mkA w)).2 0) ((sq_mt ms (sq_mkA w)).2 1) ((sq_mt ms (sq_mkA w)).2 2) ((sq_mt ms (sq_mkA w)).2 3) ((sq_mt ms (sq_mkA w)).2 4) ((sq_mt ms (sq_mkA w)).2 5) ((sq_mt ms (sq_mkA w)).2 6) ((sq_mt ms (sq_mkA w)).2 7) ((sq_mt ms (sq_mkA w)).2 8) ((sq_mt ms (sq_mkA w)).2 9) ((sq_mt ms (sq_mkA w)).2 10)) H → va_D A (wM h0 q cI cZ ((sq_mt ms (sq_mkA w)).1 0) ((sq_mt ms (sq_mkA w)).1 1) ((sq_mt ms (sq_mkA w)).1 2) ((sq_mt ms (sq_mkA w)).1 3) ((sq_mt ms (sq_mkA w)).1 4) ((sq_mt ms (sq_mkA w)).1 5) ((sq_mt ms (sq_mkA w)).1 6) ((sq_mt ms (sq_mkA w)).1 7) ((sq_mt ms (sq_mkA w)).1 8) ((sq_mt ms (sq_mkA w)).1 9) ((sq_mt ms (sq_mkA w)).1 10) ((sq_mt ms (sq_mkA w)).1 11) ((sq_mt ms (sq_mkA w)).2 0) ((sq_mt ms (sq_mkA w)).2 1) ((sq_mt ms (sq_mkA w)).2 2) ((sq_mt ms (sq_mkA w)).2 3) ((sq_mt ms (sq_mkA w)).2 4) ((sq_mt ms (sq_mkA w)).2 5) ((sq_mt ms (sq_mkA w)).2 6) ((sq_mt ms (sq_mkA w)).2 7) ((sq_mt ms (sq_mkA w)).2 8) ((sq_mt ms (sq_mkA w)).2 9) ((sq_mt ms (sq_mkA w)).2 10)) → va_S A s.heap H locs → lv_has ls 4 [(2, .int (nI (sq_mcnt (ms.1 11) 36))), (0, .ref h0), (1, .int w)] → W p l e rmm_about s m args below meth c H locs 0 0 Q (F0 m 58 ls []) := by
        intro H locs ls hP hD hS hl
        have c36 := sq_mcnt_le (ms.1 11) 36
        have hrr : sq_mrA ms w = (if w = 0 then nI (ms.2 2) else if w = 1 then nI (ms.2 7 - ms.2 8) else if w = 2 then nI (ms.2 3 - ms.2 4) else if w = 3 then nI (ms.2 9) else if w = 4 then nI (ms.2 6) else if w = 5 then nI (sq_mcnt (ms.1 11) 36) else nI (ms.2 1)) := by unfold sq_mrA; rw [if_pos hk]
        refine lv_iload_n hx hb dX1_about_58 rfl (lv_at hl 2 rfl) ?_
        rcases sq_sw7 w with (rfl | rfl | rfl | rfl | rfl | rfl | rfl) | hw9
        · refine lv_tableIn (tgt := 96) hx hb dX1_about_59 (by decide) (by decide) rfl (by decide) ?_
          refine lv_aload_n hx hb dX1_about_96 rfl (lv_at hl 1 rfl) ?_
          refine va_get (D := (dC, dI)) (ci := 1) (v := .int (nI ((sq_mt ms (sq_mkA 0)).2 2))) (C := RX1) (T := TX1) (N := 23) hx hb hts hin hown hK hP 0 rfl rfl 2 (by decide) k57 (fun _ h9 => h9) rfl dX1_about_97 ?_
          exact hend _ _ _ _ _ (by rw [hrr, if_pos rfl]; rfl) hP hD hS dX1_about_100
        · refine lv_tableIn (tgt := 101) hx hb dX1_about_59 (by decide) (by decide) rfl (by decide) ?_
          have p9 : (sq_mt ms (sq_mkA 1)).2 8 ≤ (sq_mt ms (sq_mkA 1)).2 7 := o9
          refine lv_aload_n hx hb dX1_about_101 rfl (lv_at hl 1 rfl) ?_
          refine va_get (D := (dC, dI)) (ci := 1) (v := .int (nI ((sq_mt ms (sq_mkA 1)).2 7))) (C := RX1) (T := TX1) (N := 23) hx hb hts hin hown hK hP 0 rfl rfl 8 (by decide) k73 (fun _ h9 => h9) rfl dX1_about_102 ?_
          refine lv_aload_n hx hb dX1_about_105 rfl (lv_at hl 1 rfl) ?_
          refine va_get (D := (dC, dI)) (ci := 1) (v := .int (nI ((sq_mt ms (sq_mkA 1)).2 8))) (C := RX1) (T := TX1) (N := 23) hx hb hts hin hown hK hP 0 rfl rfl 9 (by decide) k76 (fun _ h9 => h9) rfl dX1_about_106 ?_
          refine sq_isub hx hb (by omega) dX1_about_109 ?_
          exact hend _ _ _ _ _ (by rw [hrr, if_neg (by decide), if_pos rfl]; rfl) hP hD hS dX1_about_110
        · refine lv_tableIn (tgt := 111) hx hb dX1_about_59 (by decide) (by decide) rfl (by decide) ?_
          have p5 : (sq_mt ms (sq_mkA 2)).2 4 ≤ (sq_mt ms (sq_mkA 2)).2 3 := o5
          refine lv_aload_n hx hb dX1_about_111 rfl (lv_at hl 1 rfl) ?_
          refine va_get (D := (dC, dI)) (ci := 1) (v := .int (nI ((sq_mt ms (sq_mkA 2)).2 3))) (C := RX1) (T := TX1) (N := 23) hx hb hts hin hown hK hP 0 rfl rfl 3 (by decide) k60 (fun _ h9 => h9) rfl dX1_about_112 ?_
          refine lv_aload_n hx hb dX1_about_115 rfl (lv_at hl 1 rfl) ?_
          refine va_get (D := (dC, dI)) (ci := 1) (v := .int (nI ((sq_mt ms (sq_mkA 2)).2 4))) (C := RX1) (T := TX1) (N := 23) hx hb hts hin hown hK hP 0 rfl rfl 4 (by decide) k63 (fun _ h9 => h9) rfl dX1_about_116 ?_
          refine sq_isub hx hb (by omega) dX1_about_119 ?_
          exact hend _ _ _ _ _ (by rw [hrr, if_neg (by decide), if_neg (by decide), if_pos rfl]; rfl) hP hD hS dX1_about_120
        · refine lv_tableIn (tgt := 121) hx hb dX1_about_59 (by decide) (by decide) rfl (by decide) ?_
          refine lv_aload_n hx hb dX1_about_121 rfl (lv_at hl 1 rfl) ?_
          refine va_get (D := (dC, dI)) (ci := 1) (v := .int (nI ((sq_mt ms (sq_mkA 3)).2 9))) (C := RX1) (T := TX1) (N := 23) hx hb hts hin hown hK hP 0 rfl rfl 10 (by decide) k79 (fun _ h9 => h9) rfl dX1_about_122 ?_
          exact hend _ _ _ _ _ (by rw [hrr, if_neg (by decide), if_neg (by decide), if_neg (by decide), if_pos rfl]; rfl) hP hD hS dX1_about_125
        · refine lv_tableIn (tgt := 126) hx hb dX1_about_59 (by decide) (by decide) rfl (by decide) ?_
          have p7 : (sq_mt ms (sq_mkA 4)).2 6 ≤ 1 := o7
          refine lv_aload_n hx hb dX1_about_126 rfl (lv_at hl 1 rfl) ?_
          refine va_get (D := (dC, dI)) (ci := 1) (v := .int (nI ((sq_mt ms (sq_mkA 4)).2 6))) (C := RX1) (T := TX1) (N := 23) hx hb hts hin hown hK hP 0 rfl rfl 6 (by decide) k69 (fun _ h9 => h9) rfl dX1_about_127 ?_
          refine sq_if_eq (tgt := 137) hx hb (by omega) dX1_about_130 (by decide) (fun hf => ?_) (fun hf => ?_)
          · refine lv_iconst (v := nI 0) hx hb dX1_about_137 (by decide +kernel) ?_
            have hf2 : ms.2 6 = 0 := hf
            exact hend _ _ _ _ _ (by rw [hrr, if_neg (by decide), if_neg (by decide), if_neg (by decide), if_neg (by decide), if_pos rfl, hf2]) hP hD hS dX1_about_138
          · refine lv_iconst (v := nI 1) hx hb dX1_about_133 (by decide +kernel) ?_
            refine lv_goto (tgt := 138) hx hb dX1_about_134 (by decide) ?_
            have hf2 : ¬ ms.2 6 = 0 := hf
            exact hend _ _ _ _ _ (by rw [hrr, if_neg (by decide), if_neg (by decide), if_neg (by decide), if_neg (by decide), if_pos rfl, show ms.2 6 = 1 by omega]) hP hD hS dX1_about_138
        · refine lv_tableIn (tgt := 139) hx hb dX1_about_59 (by decide) (by decide) rfl (by decide) ?_
          refine lv_iload_n hx hb dX1_about_139 rfl (lv_at hl 0 rfl) ?_
          exact hend _ _ _ _ _ (by rw [hrr, if_neg (by decide), if_neg (by decide), if_neg (by decide), if_neg (by decide), if_neg (by decide), if_pos rfl]) hP hD hS dX1_about_140
        · refine lv_tableOut (tgt := 141) hx hb dX1_about_59 (by decide) (by decide) ?_
          refine lv_aload_n hx hb dX1_about_141 rfl (lv_at hl 1 rfl) ?_
          refine va_get (D := (dC, dI)) (ci := 1) (v := .int (nI ((sq_mt ms (sq_mkA 6)).2 1))) (C := RX1) (T := TX1) (N := 23) hx hb hts hin hown hK hP 0 rfl rfl 1 (by decide) k7 (fun _ h9 => h9) rfl dX1_about_142 ?_
          exact hend _ _ _ _ _ (by rw [hrr, if_neg (by decide), if_neg (by decide), if_neg (by decide), if_neg (by decide), if_neg (by decide), if_neg (by decide)]; rfl) hP hD hS dX1_about_145
        · exact absurd hw9 (fun h => h.elim (by rw [nI_0] at hw; exact hw.1) hw.2)
      have L1 : ∀ j t : Nat, t + j = 36 → ∀ (H : Heap) (locs : List Loc) (ls : Array Slot), va_P (dC, dI) vwCl (wM h0 q cI cZ ((sq_mt ms (sq_mkA w)).1 0) ((sq_mt ms (sq_mkA w)).1 1) ((sq_mt ms (sq_mkA w)).1 2) ((sq_mt ms (sq_mkA w)).1 3) ((sq_mt ms (sq_mkA w)).1 4) ((sq_mt ms (sq_mkA w)).1 5) ((sq_mt ms (sq_mkA w)).1 6) ((sq_mt ms (sq_mkA w)).1 7) ((sq_mt ms (sq_mkA w)).1 8) ((sq_mt ms (sq_mkA w)).1 9) ((sq_mt ms (sq_mkA w)).1 10) ((sq_mt ms (sq_mkA w)).1 11) ((sq_mt ms (sq_mkA w)).2 0) ((sq_mt ms (sq_mkA w)).2 1) ((sq_mt ms (sq_mkA w)).2 2) ((sq_mt ms (sq_mkA w)).2 3) ((sq_mt ms (sq_mkA w)).2 4) ((sq_mt ms (sq_mkA w)).2 5) ((sq_mt ms (sq_mkA w)).2 6) ((sq_mt ms (sq_mkA w)).2 7) ((sq_mt ms (sq_mkA w)).2 8) ((sq_mt ms (sq_mkA w)).2 9) ((sq_mt ms (sq_mkA w)).2 10)) H → va_D A (wM h0 q cI cZ ((sq_mt ms (sq_mkA w)).1 0) ((sq_mt ms (sq_mkA w)).1 1) ((sq_mt ms (sq_mkA w)).1 2) ((sq_mt ms (sq_mkA w)).1 3) ((sq_mt ms (sq_mkA w)).1 4) ((sq_mt ms (sq_mkA w)).1 5) ((sq_mt ms (sq_mkA w)).1 6) ((sq_mt ms (sq_mkA w)).1 7) ((sq_mt ms (sq_mkA w)).1 8) ((sq_mt ms (sq_mkA w)).1 9) ((sq_mt ms (sq_mkA w)).1 10) ((sq_mt ms (sq_mkA w)).1 11) ((sq_mt ms (sq_mkA w)).2 0) ((sq_mt ms (sq_mkA w)).2 1) ((sq_mt ms (sq_mkA w)).2 2) ((sq_mt ms (sq_mkA w)).2 3) ((sq_mt ms (sq_mkA w)).2 4) ((sq_mt ms (sq_mkA w)).2 5) ((sq_mt ms (sq_mkA w)).2 6) ((sq_mt ms (sq_mkA w)).2 7) ((sq_mt ms (sq_mkA w)).2 8) ((sq_mt ms (sq_mkA w)).2 9) ((sq_mt ms (sq_mkA w)).2 10)) → va_S A s.heap H locs → lv_has ls 4 [(3, .int (nI t)), (2, .int (nI (sq_mcnt (ms.1 11) t))), (0, .ref h0), (1, .int w)] → W p l e rmm_about s m args below meth c H locs 0 0 Q (F0 m 29 ls []) := by
        intro j
        induction j using Nat.strongRecOn with
        | _ j ih =>
          intro t ht H locs ls hP hD hS hl
          have c36 := sq_mcnt_le (ms.1 11) t
          refine lv_iload_n hx hb dX1_about_29 rfl (lv_at hl 0 rfl) ?_
          refine lv_bipush (v := nI 36) hx hb dX1_about_30 (by decide +kernel) ?_
          refine sq_icmp_ge (tgt := 58) hx hb (by omega) (by omega) dX1_about_32 (by decide) (fun hd => ?_) (fun hd => ?_)
          · have et : t = 36 := by omega
            subst et
            exact T58 H locs ls hP hD hS (lv_sub hl [1, 2, 3] rfl)
          · refine lv_aload_n hx hb dX1_about_35 rfl (lv_at hl 2 rfl) ?_
            refine va_get (D := (dC, dI)) (ci := 1) (v := .ref (q 11)) (C := RX1) (T := TX1) (N := 23) hx hb hts hin hown hK hP 0 rfl rfl 22 (by decide) k48 (fun _ h9 => h9) rfl dX1_about_36 ?_
            refine lv_iload_n hx hb dX1_about_39 rfl (lv_at hl 0 rfl) ?_
            refine sq_zald hx hb hK hP 12 1 rfl rfl (i := t) (by omega) (by decide) dX1_about_40 ?_
            refine lv_if_eq (tgt := 50) hx hb dX1_about_41 (by decide) (fun hf => ?_) (fun hf => ?_)
            · refine lv_iload_n hx hb dX1_about_50 rfl (lv_at hl 1 rfl) ?_
              refine lv_istore_n (lv' := [(2, .int (nI (sq_mcnt (ms.1 11) t))), (3, .int (nI t)), (0, .ref h0), (1, .int w)]) hx hb dX1_about_51 rfl hl (by decide) rfl (fun ls hl => ?_)
              refine lv_iinc (v := nI (t + 1)) (lv' := [(3, .int (nI (t + 1))), (2, .int (nI (sq_mcnt (ms.1 11) t))), (0, .ref h0), (1, .int w)]) hx hb dX1_about_52 hl (k := 1) rfl (sq_inc _) (by decide) rfl (fun ls hl => ?_)
              refine lv_goto (tgt := 29) hx hb dX1_about_55 (by decide) ?_
              have e9 : sq_mcnt (ms.1 11) (t + 1) = sq_mcnt (ms.1 11) t := by rw [show sq_mcnt (ms.1 11) (t + 1) = sq_mcnt (ms.1 11) t + (if ms.1 11 t = 0 then 0 else 1) from rfl, if_pos (show ms.1 11 t = 0 from hf), Nat.add_zero]
              refine ih (j - 1) (by omega) (t + 1) (by omega) H locs ls hP hD hS ?_
              rw [e9]
              exact lv_sub hl [0, 1, 2, 3] rfl
            · refine lv_iload_n hx hb dX1_about_44 rfl (lv_at hl 1 rfl) ?_
              refine lv_iconst (v := nI 1) hx hb dX1_about_45 (by decide +kernel) ?_
              refine sq_iadd hx hb dX1_about_46 ?_
              refine lv_goto (tgt := 51) hx hb dX1_about_47 (by decide) ?_
              refine lv_istore_n (lv' := [(2, .int (nI ((sq_mcnt (ms.1 11) t) + 1))), (3, .int (nI t)), (0, .ref h0), (1, .int w)]) hx hb dX1_about_51 rfl hl (by decide) rfl (fun ls hl => ?_)
              refine lv_iinc (v := nI (t + 1)) (lv' := [(3, .int (nI (t + 1))), (2, .int (nI ((sq_mcnt (ms.1 11) t) + 1))), (0, .ref h0), (1, .int w)]) hx hb dX1_about_52 hl (k := 1) rfl (sq_inc _) (by decide) rfl (fun ls hl => ?_)
              refine lv_goto (tgt := 29) hx hb dX1_about_55 (by decide) ?_
              have e9 : sq_mcnt (ms.1 11) (t + 1) = sq_mcnt (ms.1 11) t + 1 := by rw [show sq_mcnt (ms.1 11) (t + 1) = sq_mcnt (ms.1 11) t + (if ms.1 11 t = 0 then 0 else 1) from rfl, if_neg (show ¬ ms.1 11 t = 0 from hf)]
              refine ih (j - 1) (by omega) (t + 1) (by omega) H locs ls hP hD hS ?_
              rw [e9]
              exact lv_sub hl [0, 1, 2, 3] rfl
      exact L1 36 0 (by omega) _ _ ls hP hD hS (lv_sub hl [0, 1, 2, 3] rfl)
    · exact absurd hq (by decide)
  · have hw : ¬ (¬ w < nI 0 ∧ ¬ nI 6 < w) := sq_b0d hc
    have hk : sq_mkA w = 1 := by unfold sq_mkA; rw [if_neg hw]
    refine lv_iconst (v := nI 1) hx hb dX1_about_11 (by decide +kernel) ?_
    refine lv_goto (tgt := 16) hx hb dX1_about_12 (by decide) ?_
    refine lv_iconst (v := nI 0) hx hb dX1_about_16 (by decide +kernel) ?_
    refine sq_calli (As := [.int (sq_b true), .int (sq_b false)]) (k_refuse l dC dI h0 q cI cZ (ms.1 0) (ms.1 1) (ms.1 2) (ms.1 3) (ms.1 4) (ms.1 5) (ms.1 6) (ms.1 7) (ms.1 8) (ms.1 9) (ms.1 10) (ms.1 11) (ms.2 0) (ms.2 1) (ms.2 2) (ms.2 3) (ms.2 4) (ms.2 5) (ms.2 6) (ms.2 7) (ms.2 8) (ms.2 9) (ms.2 10) true false) ⟨hx, hb, hml, hown, hts⟩ (cwV 2 hts (sq_good gvX1_86) rfl rfl rfl (by decide +kernel) ⟨Nat.le_of_ble_eq_true rfl, Nat.le_of_ble_eq_true rfl⟩) hK hP hD hS hA rfl rfl rfl rfl hl.1 rfl (Nat.le_of_ble_eq_true rfl) dX1_about_17 ⟨Nat.zero_le _, Nat.zero_le _⟩ (fun H locs hP hD hS => ?_)
    refine lv_if_eq (tgt := 25) hx hb dX1_about_20 (by decide) (fun hq => ?_) (fun hq => ?_)
    · exact absurd hq (by decide)
    · refine lv_iconst (v := nI 0) hx hb dX1_about_23 (by decide +kernel) ?_
      have hP : va_P (dC, dI) vwCl (wM h0 q cI cZ (ms.1 0) (ms.1 1) (ms.1 2) (ms.1 3) (ms.1 4) (ms.1 5) (ms.1 6) (ms.1 7) (ms.1 8) (ms.1 9) (ms.1 10) (ms.1 11) 1 (ms.2 1) (ms.2 2) (ms.2 3) (ms.2 4) (ms.2 5) (ms.2 6) (ms.2 7) (ms.2 8) (ms.2 9) (ms.2 10)) H := hP
      have hD : va_D A (wM h0 q cI cZ (ms.1 0) (ms.1 1) (ms.1 2) (ms.1 3) (ms.1 4) (ms.1 5) (ms.1 6) (ms.1 7) (ms.1 8) (ms.1 9) (ms.1 10) (ms.1 11) 1 (ms.2 1) (ms.2 2) (ms.2 3) (ms.2 4) (ms.2 5) (ms.2 6) (ms.2 7) (ms.2 8) (ms.2 9) (ms.2 10)) := hD
      have hP : va_P (dC, dI) vwCl (wM h0 q cI cZ ((sq_mt ms 1).1 0) ((sq_mt ms 1).1 1) ((sq_mt ms 1).1 2) ((sq_mt ms 1).1 3) ((sq_mt ms 1).1 4) ((sq_mt ms 1).1 5) ((sq_mt ms 1).1 6) ((sq_mt ms 1).1 7) ((sq_mt ms 1).1 8) ((sq_mt ms 1).1 9) ((sq_mt ms 1).1 10) ((sq_mt ms 1).1 11) ((sq_mt ms 1).2 0) ((sq_mt ms 1).2 1) ((sq_mt ms 1).2 2) ((sq_mt ms 1).2 3) ((sq_mt ms 1).2 4) ((sq_mt ms 1).2 5) ((sq_mt ms 1).2 6) ((sq_mt ms 1).2 7) ((sq_mt ms 1).2 8) ((sq_mt ms 1).2 9) ((sq_mt ms 1).2 10)) H := hP
      have hD : va_D A (wM h0 q cI cZ ((sq_mt ms 1).1 0) ((sq_mt ms 1).1 1) ((sq_mt ms 1).1 2) ((sq_mt ms 1).1 3) ((sq_mt ms 1).1 4) ((sq_mt ms 1).1 5) ((sq_mt ms 1).1 6) ((sq_mt ms 1).1 7) ((sq_mt ms 1).1 8) ((sq_mt ms 1).1 9) ((sq_mt ms 1).1 10) ((sq_mt ms 1).1 11) ((sq_mt ms 1).2 0) ((sq_mt ms 1).2 1) ((sq_mt ms 1).2 2) ((sq_mt ms 1).2 3) ((sq_mt ms 1).2 4) ((sq_mt ms 1).2 5) ((sq_mt ms 1).2 6) ((sq_mt ms 1).2 7) ((sq_mt ms 1).2 8) ((sq_mt ms 1).2 9) ((sq_mt ms 1).2 10)) := hD
      have e9 : (wM h0 q cI cZ ((sq_mt ms (sq_mkA w)).1 0) ((sq_mt ms (sq_mkA w)).1 1) ((sq_mt ms (sq_mkA w)).1 2) ((sq_mt ms (sq_mkA w)).1 3) ((sq_mt ms (sq_mkA w)).1 4) ((sq_mt ms (sq_mkA w)).1 5) ((sq_mt ms (sq_mkA w)).1 6) ((sq_mt ms (sq_mkA w)).1 7) ((sq_mt ms (sq_mkA w)).1 8) ((sq_mt ms (sq_mkA w)).1 9) ((sq_mt ms (sq_mkA w)).1 10) ((sq_mt ms (sq_mkA w)).1 11) ((sq_mt ms (sq_mkA w)).2 0) ((sq_mt ms (sq_mkA w)).2 1) ((sq_mt ms (sq_mkA w)).2 2) ((sq_mt ms (sq_mkA w)).2 3) ((sq_mt ms (sq_mkA w)).2 4) ((sq_mt ms (sq_mkA w)).2 5) ((sq_mt ms (sq_mkA w)).2 6) ((sq_mt ms (sq_mkA w)).2 7) ((sq_mt ms (sq_mkA w)).2 8) ((sq_mt ms (sq_mkA w)).2 9) ((sq_mt ms (sq_mkA w)).2 10)) = (wM h0 q cI cZ ((sq_mt ms 1).1 0) ((sq_mt ms 1).1 1) ((sq_mt ms 1).1 2) ((sq_mt ms 1).1 3) ((sq_mt ms 1).1 4) ((sq_mt ms 1).1 5) ((sq_mt ms 1).1 6) ((sq_mt ms 1).1 7) ((sq_mt ms 1).1 8) ((sq_mt ms 1).1 9) ((sq_mt ms 1).1 10) ((sq_mt ms 1).1 11) ((sq_mt ms 1).2 0) ((sq_mt ms 1).2 1) ((sq_mt ms 1).2 2) ((sq_mt ms 1).2 3) ((sq_mt ms 1).2 4) ((sq_mt ms 1).2 5) ((sq_mt ms 1).2 6) ((sq_mt ms 1).2 7) ((sq_mt ms 1).2 8) ((sq_mt ms 1).2 9) ((sq_mt ms 1).2 10)) := by rw [hk]
      rw [← e9] at hP hD
      exact hend _ _ _ _ _ (by unfold sq_mrA; rw [hk, if_neg (by decide)]; rfl) hP hD hS dX1_about_24
