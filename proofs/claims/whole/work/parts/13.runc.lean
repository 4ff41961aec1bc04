def rm_runCycle : Room := { frames := 3, cells := 0, slots := 0, locals := 70 }
set_option maxHeartbeats 4000000 in
set_option maxRecDepth 100000 in
theorem c_runCycle (l : Launch) (dC : Nat → ClassId) (dI : Nat → Nat → Nat) (h0 : Nat) (q : Nat → Nat) (cI cZ : ClassId) (st : SqS)  (hok : sq_ok st) (ht : st.2 1 < 100000) : sq_Mv l yX0_runCycle wsX0_runCycle rm_runCycle [.ref h0] (dC, dI) vwCl [(cI, .int), (cZ, .boolean)] (wX h0 q cI cZ (st.1 0) (st.1 1) (st.1 2) (st.1 3) (st.1 4) (st.1 5) (st.1 6) (st.1 7) (st.1 8) (st.1 9) (st.1 10) (st.2 0) (st.2 1) (st.2 2) (st.2 3) (st.2 4) (st.2 5) (st.2 6) (st.2 7) (st.2 8)) (wX h0 q cI cZ ((sq_run st).1 0) ((sq_run st).1 1) ((sq_run st).1 2) ((sq_run st).1 3) ((sq_run st).1 4) ((sq_run st).1 5) ((sq_run st).1 6) ((sq_run st).1 7) ((sq_run st).1 8) ((sq_run st).1 9) ((sq_run st).1 10) ((sq_run st).2 0) ((sq_run st).2 1) ((sq_run st).2 2) ((sq_run st).2 3) ((sq_run st).2 4) ((sq_run st).2 5) ((sq_run st).2 6) ((sq_run st).2 7) ((sq_run st).2 8)) := by
  refine sq_ofWv (cc := cX0_runCycle) (maxL := 1) (by decide) rfl (Nat.le_of_ble_eq_true rfl) ?_
  intro p e s m args below meth c A ls Q hx hb hts hown hml hK hP hD hS hA hl hend
  have hl : lv_has ls 1 [(0, .ref h0)] := hl
  have hin : ∀ w ∈ u_ws RX0 TX0 20, w ∈ wsX0_runCycle := fun w h => List.mem_cons_of_mem _ (inX0 w h)
  have k70 := hts _ (List.mem_cons_of_mem _ mfX0_70)
  have T40 : ∀ (s3 : SqS) (H : Heap) (locs : List Loc) (ls : Array Slot), sq_ok s3 → sq_kp (sq_go s3) = sq_run st → va_P (dC, dI) vwCl (wX h0 q cI cZ (s3.1 0) (s3.1 1) (s3.1 2) (s3.1 3) (s3.1 4) (s3.1 5) (s3.1 6) (s3.1 7) (s3.1 8) (s3.1 9) (s3.1 10) (s3.2 0) (s3.2 1) (s3.2 2) (s3.2 3) (s3.2 4) (s3.2 5) (s3.2 6) (s3.2 7) (s3.2 8)) H → va_D A (wX h0 q cI cZ (s3.1 0) (s3.1 1) (s3.1 2) (s3.1 3) (s3.1 4) (s3.1 5) (s3.1 6) (s3.1 7) (s3.1 8) (s3.1 9) (s3.1 10) (s3.2 0) (s3.2 1) (s3.2 2) (s3.2 3) (s3.2 4) (s3.2 5) (s3.2 6) (s3.2 7) (s3.2 8)) → va_S A s.heap H locs → lv_has ls 1 [(0, .ref h0)] → W p l e rm_runCycle s m args below meth c H locs 0 0 Q (F0 m 40 ls []) := by
    intro s3 H locs ls hok he hP hD hS hl
    obtain ⟨⟨o1, o2⟩, o3, ⟨o4, o5⟩, o6, ⟨o7, o8, o9⟩, o10, o11, o12, o13, o14⟩ := id hok
    refine lv_aload_n hx hb dX0_runCycle_40 rfl (lv_at hl 0 rfl) ?_
    have hok4 := sq_ok_go hok
    refine sq_callv (As := []) (c_goOn l dC dI h0 q cI cZ (s3.1 0) (s3.1 1) (s3.1 2) (s3.1 3) (s3.1 4) (s3.1 5) (s3.1 6) (s3.1 7) (s3.1 8) (s3.1 9) (s3.1 10) (s3.2 0) (s3.2 1) (s3.2 2) (s3.2 3) (s3.2 4) (s3.2 5) (s3.2 6) (s3.2 7) (s3.2 8) o1 o2 (by omega) o11 o12 o13) ⟨hx, hb, hml, hown, hts⟩ (cwV 0 hts (sq_good gvX0_156) rfl rfl rfl (by decide +kernel) ⟨Nat.le_of_ble_eq_true rfl, Nat.le_of_ble_eq_true rfl⟩) hK hP hD hS hA rfl rfl rfl rfl hl.1 rfl (Nat.le_of_ble_eq_true rfl) dX0_runCycle_41 ⟨Nat.zero_le _, Nat.zero_le _⟩ (fun H locs hP hD hS => ?_)
    have hP : va_P (dC, dI) vwCl (wX h0 q cI cZ ((sq_go s3).1 0) ((sq_go s3).1 1) ((sq_go s3).1 2) ((sq_go s3).1 3) ((sq_go s3).1 4) ((sq_go s3).1 5) ((sq_go s3).1 6) ((sq_go s3).1 7) ((sq_go s3).1 8) ((sq_go s3).1 9) ((sq_go s3).1 10) ((sq_go s3).2 0) ((sq_go s3).2 1) ((sq_go s3).2 2) ((sq_go s3).2 3) ((sq_go s3).2 4) ((sq_go s3).2 5) ((sq_go s3).2 6) ((sq_go s3).2 7) ((sq_go s3).2 8)) H := hP
    have hD : va_D A (wX h0 q cI cZ ((sq_go s3).1 0) ((sq_go s3).1 1) ((sq_go s3).1 2) ((sq_go s3).1 3) ((sq_go s3).1 4) ((sq_go s3).1 5) ((sq_go s3).1 6) ((sq_go s3).1 7) ((sq_go s3).1 8) ((sq_go s3).1 9) ((sq_go s3).1 10) ((sq_go s3).2 0) ((sq_go s3).2 1) ((sq_go s3).2 2) ((sq_go s3).2 3) ((sq_go s3).2 4) ((sq_go s3).2 5) ((sq_go s3).2 6) ((sq_go s3).2 7) ((sq_go s3).2 8)) := hD
    refine lv_aload_n hx hb dX0_runCycle_44 rfl (lv_at hl 0 rfl) ?_
    obtain ⟨⟨p1, p2⟩, p3, ⟨p4, p5⟩, p6, ⟨p7, p8, p9⟩, p10, p11, p12, p13, p14⟩ := id hok4
    refine sq_callv (As := []) (c_keepResults l dC dI h0 q cI cZ ((sq_go s3).1 0) ((sq_go s3).1 1) ((sq_go s3).1 2) ((sq_go s3).1 3) ((sq_go s3).1 4) ((sq_go s3).1 5) ((sq_go s3).1 6) ((sq_go s3).1 7) ((sq_go s3).1 8) ((sq_go s3).1 9) ((sq_go s3).1 10) ((sq_go s3).2 0) ((sq_go s3).2 1) ((sq_go s3).2 2) ((sq_go s3).2 3) ((sq_go s3).2 4) ((sq_go s3).2 5) ((sq_go s3).2 6) ((sq_go s3).2 7) ((sq_go s3).2 8) p1 p2 (by omega) p11) ⟨hx, hb, hml, hown, hts⟩ (cwV 0 hts (sq_good gvX0_159) rfl rfl rfl (by decide +kernel) ⟨Nat.le_of_ble_eq_true rfl, Nat.le_of_ble_eq_true rfl⟩) hK hP hD hS hA rfl rfl rfl rfl hl.1 rfl (Nat.le_of_ble_eq_true rfl) dX0_runCycle_45 ⟨Nat.zero_le _, Nat.zero_le _⟩ (fun H locs hP hD hS => ?_)
    have hP : va_P (dC, dI) vwCl (wX h0 q cI cZ ((sq_kp (sq_go s3)).1 0) ((sq_kp (sq_go s3)).1 1) ((sq_kp (sq_go s3)).1 2) ((sq_kp (sq_go s3)).1 3) ((sq_kp (sq_go s3)).1 4) ((sq_kp (sq_go s3)).1 5) ((sq_kp (sq_go s3)).1 6) ((sq_kp (sq_go s3)).1 7) ((sq_kp (sq_go s3)).1 8) ((sq_kp (sq_go s3)).1 9) ((sq_kp (sq_go s3)).1 10) ((sq_kp (sq_go s3)).2 0) ((sq_kp (sq_go s3)).2 1) ((sq_kp (sq_go s3)).2 2) ((sq_kp (sq_go s3)).2 3) ((sq_kp (sq_go s3)).2 4) ((sq_kp (sq_go s3)).2 5) ((sq_kp (sq_go s3)).2 6) ((sq_kp (sq_go s3)).2 7) ((sq_kp (sq_go s3)).2 8)) H := hP
    have hD : va_D A (wX h0 q cI cZ ((sq_kp (sq_go s3)).1 0) ((sq_kp (sq_go s3)).1 1) ((sq_kp (sq_go s3)).1 2) ((sq_kp (sq_go s3)).1 3) ((sq_kp (sq_go s3)).1 4) ((sq_kp (sq_go s3)).1 5) ((sq_kp (sq_go s3)).1 6) ((sq_kp (sq_go s3)).1 7) ((sq_kp (sq_go s3)).1 8) ((sq_kp (sq_go s3)).1 9) ((sq_kp (sq_go s3)).1 10) ((sq_kp (sq_go s3)).2 0) ((sq_kp (sq_go s3)).2 1) ((sq_kp (sq_go s3)).2 2) ((sq_kp (sq_go s3)).2 3) ((sq_kp (sq_go s3)).2 4) ((sq_kp (sq_go s3)).2 5) ((sq_kp (sq_go s3)).2 6) ((sq_kp (sq_go s3)).2 7) ((sq_kp (sq_go s3)).2 8)) := hD
    rw [he] at hP hD
    exact hend _ _ _ _ hP hD hS dX0_runCycle_48
  have T25 : ∀ (s2 : SqS) (H : Heap) (locs : List Loc) (ls : Array Slot), sq_ok s2 → sq_kp (sq_go (sq_l2 s2)) = sq_run st → va_P (dC, dI) vwCl (wX h0 q cI cZ (s2.1 0) (s2.1 1) (s2.1 2) (s2.1 3) (s2.1 4) (s2.1 5) (s2.1 6) (s2.1 7) (s2.1 8) (s2.1 9) (s2.1 10) (s2.2 0) (s2.2 1) (s2.2 2) (s2.2 3) (s2.2 4) (s2.2 5) (s2.2 6) (s2.2 7) (s2.2 8)) H → va_D A (wX h0 q cI cZ (s2.1 0) (s2.1 1) (s2.1 2) (s2.1 3) (s2.1 4) (s2.1 5) (s2.1 6) (s2.1 7) (s2.1 8) (s2.1 9) (s2.1 10) (s2.2 0) (s2.2 1) (s2.2 2) (s2.2 3) (s2.2 4) (s2.2 5) (s2.2 6) (s2.2 7) (s2.2 8)) → va_S A s.heap H locs → lv_has ls 1 [(0, .ref h0)] → W p l e rm_runCycle s m args below meth c H locs 0 0 Q (F0 m 25 ls []) := by
    intro s2 H locs ls hok he hP hD hS hl
    obtain ⟨⟨o1, o2⟩, o3, ⟨o4, o5⟩, o6, ⟨o7, o8, o9⟩, o10, o11, o12, o13, o14⟩ := id hok
    refine lv_aload_n hx hb dX0_runCycle_25 rfl (lv_at hl 0 rfl) ?_
    refine lv_aload_n hx hb dX0_runCycle_26 rfl (lv_at hl 0 rfl) ?_
    refine va_get (D := (dC, dI)) (ci := 0) (v := .int (nI (s2.2 1))) (C := RX0) (T := TX0) (N := 20) hx hb hts hin hown hK hP 0 rfl rfl 12 (by decide) k70 (fun _ h9 => h9) rfl dX0_runCycle_27 ?_
    refine sq_calli (As := [.int (nI (s2.2 1))]) (c_canRowComeIn l dC dI h0 q cI cZ (s2.1 0) (s2.1 1) (s2.1 2) (s2.1 3) (s2.1 4) (s2.1 5) (s2.1 6) (s2.1 7) (s2.1 8) (s2.1 9) (s2.1 10) (s2.2 0) (s2.2 1) (s2.2 2) (s2.2 3) (s2.2 4) (s2.2 5) (s2.2 6) (s2.2 7) (s2.2 8) (s2.2 1) o1 o2 (by omega) (by omega) (by omega) (by omega) o10 (by omega)) ⟨hx, hb, hml, hown, hts⟩ (cwV 1 hts (sq_good gvX0_144) rfl rfl rfl (by decide +kernel) ⟨Nat.le_of_ble_eq_true rfl, Nat.le_of_ble_eq_true rfl⟩) hK hP hD hS hA rfl rfl rfl rfl hl.1 rfl (Nat.le_of_ble_eq_true rfl) dX0_runCycle_30 ⟨Nat.zero_le _, Nat.zero_le _⟩ (fun H locs hP hD hS => ?_)
    have ho2 := sq_ok_l2 hok
    refine lv_if_eq (tgt := 40) hx hb dX0_runCycle_33 (by decide) (fun hc => ?_) (fun hc => ?_)
    · have hc2 : sq_cR s2 (s2.2 1) = false := sq_b0.mp hc
      have e2 : sq_l2 s2 = s2 := by unfold sq_l2; rw [if_neg (by rw [hc2]; decide)]
      rw [e2] at he ho2
      exact T40 s2 H locs ls hok he hP hD hS hl
    · have hc2 : sq_cR s2 (s2.2 1) = true := sq_bn0.mp hc
      have e2 : sq_l2 s2 = sq_le s2 := by unfold sq_l2; rw [if_pos hc2]
      have hc3 := of_decide_eq_true hc2
      rw [e2] at he ho2
      refine lv_aload_n hx hb dX0_runCycle_36 rfl (lv_at hl 0 rfl) ?_
      refine sq_callv (As := []) (c_letRowIn l dC dI h0 q cI cZ (s2.1 0) (s2.1 1) (s2.1 2) (s2.1 3) (s2.1 4) (s2.1 5) (s2.1 6) (s2.1 7) (s2.1 8) (s2.1 9) (s2.1 10) (s2.2 0) (s2.2 1) (s2.2 2) (s2.2 3) (s2.2 4) (s2.2 5) (s2.2 6) (s2.2 7) (s2.2 8) o1 o2 (by omega)) ⟨hx, hb, hml, hown, hts⟩ (cwV 0 hts (sq_good gvX0_153) rfl rfl rfl (by decide +kernel) ⟨Nat.le_of_ble_eq_true rfl, Nat.le_of_ble_eq_true rfl⟩) hK hP hD hS hA rfl rfl rfl rfl hl.1 rfl (Nat.le_of_ble_eq_true rfl) dX0_runCycle_37 ⟨Nat.zero_le _, Nat.zero_le _⟩ (fun H locs hP hD hS => ?_)
      have hP : va_P (dC, dI) vwCl (wX h0 q cI cZ ((sq_le s2).1 0) ((sq_le s2).1 1) ((sq_le s2).1 2) ((sq_le s2).1 3) ((sq_le s2).1 4) ((sq_le s2).1 5) ((sq_le s2).1 6) ((sq_le s2).1 7) ((sq_le s2).1 8) ((sq_le s2).1 9) ((sq_le s2).1 10) ((sq_le s2).2 0) ((sq_le s2).2 1) ((sq_le s2).2 2) ((sq_le s2).2 3) ((sq_le s2).2 4) ((sq_le s2).2 5) ((sq_le s2).2 6) ((sq_le s2).2 7) ((sq_le s2).2 8)) H := hP
      have hD : va_D A (wX h0 q cI cZ ((sq_le s2).1 0) ((sq_le s2).1 1) ((sq_le s2).1 2) ((sq_le s2).1 3) ((sq_le s2).1 4) ((sq_le s2).1 5) ((sq_le s2).1 6) ((sq_le s2).1 7) ((sq_le s2).1 8) ((sq_le s2).1 9) ((sq_le s2).1 10) ((sq_le s2).2 0) ((sq_le s2).2 1) ((sq_le s2).2 2) ((sq_le s2).2 3) ((sq_le s2).2 4) ((sq_le s2).2 5) ((sq_le s2).2 6) ((sq_le s2).2 7) ((sq_le s2).2 8)) := hD
      exact T40 (sq_le s2) H locs ls ho2 he hP hD hS hl
  obtain ⟨⟨o1, o2⟩, o3, ⟨o4, o5⟩, o6, ⟨o7, o8, o9⟩, o10, o11, o12, o13, o14⟩ := id hok
  refine lv_aload_n hx hb dX0_runCycle_0 rfl (lv_at hl 0 rfl) ?_
  refine lv_dup hx hb dX0_runCycle_1 rfl ?_
  refine va_get (D := (dC, dI)) (ci := 0) (v := .int (nI (st.2 1))) (C := RX0) (T := TX0) (N := 20) hx hb hts hin hown hK hP 0 rfl rfl 12 (by decide) k70 (fun _ h9 => h9) rfl dX0_runCycle_2 ?_
  refine lv_iconst (v := nI 1) hx hb dX0_runCycle_5 (by decide +kernel) ?_
  refine sq_iadd hx hb dX0_runCycle_6 ?_
  refine va_put (D := (dC, dI)) (ci := 0) (v := .int (nI ((st.2 1) + 1))) (ty := .int) (C := RX0) (T := TX0) (N := 20) hx hb hts hin tyX0 tyX0_ok nmX0 hown hK hP hD hS 0 rfl rfl 12 (by decide) k70 (fun _ h9 => h9) rfl (by decide +kernel) rfl rfl (Nat.le_of_ble_eq_true rfl) dX0_runCycle_7 (fun H locs hP hD hS => ?_)
  have hP : va_P (dC, dI) vwCl (wX h0 q cI cZ (st.1 0) (st.1 1) (st.1 2) (st.1 3) (st.1 4) (st.1 5) (st.1 6) (st.1 7) (st.1 8) (st.1 9) (st.1 10) (st.2 0) ((st.2 1) + 1) (st.2 2) (st.2 3) (st.2 4) (st.2 5) (st.2 6) (st.2 7) (st.2 8)) H := hP
  have hD : va_D A (wX h0 q cI cZ (st.1 0) (st.1 1) (st.1 2) (st.1 3) (st.1 4) (st.1 5) (st.1 6) (st.1 7) (st.1 8) (st.1 9) (st.1 10) (st.2 0) ((st.2 1) + 1) (st.2 2) (st.2 3) (st.2 4) (st.2 5) (st.2 6) (st.2 7) (st.2 8)) := hD
  refine lv_aload_n hx hb dX0_runCycle_10 rfl (lv_at hl 0 rfl) ?_
  refine sq_callv (As := []) (c_ageEntries l dC dI h0 q cI cZ (st.1 0) (st.1 1) (st.1 2) (st.1 3) (st.1 4) (st.1 5) (st.1 6) (st.1 7) (st.1 8) (st.1 9) (st.1 10) (st.2 0) ((st.2 1) + 1) (st.2 2) (st.2 3) (st.2 4) (st.2 5) (st.2 6) (st.2 7) (st.2 8)) ⟨hx, hb, hml, hown, hts⟩ (cwV 0 hts (sq_good gvX0_147) rfl rfl rfl (by decide +kernel) ⟨Nat.le_of_ble_eq_true rfl, Nat.le_of_ble_eq_true rfl⟩) hK hP hD hS hA rfl rfl rfl rfl hl.1 rfl (Nat.le_of_ble_eq_true rfl) dX0_runCycle_11 ⟨Nat.zero_le _, Nat.zero_le _⟩ (fun H locs hP hD hS => ?_)
  have hP : va_P (dC, dI) vwCl (wX h0 q cI cZ ((sq_p1 st).1 0) ((sq_p1 st).1 1) ((sq_p1 st).1 2) ((sq_p1 st).1 3) ((sq_p1 st).1 4) ((sq_p1 st).1 5) ((sq_p1 st).1 6) ((sq_p1 st).1 7) ((sq_p1 st).1 8) ((sq_p1 st).1 9) ((sq_p1 st).1 10) ((sq_p1 st).2 0) ((sq_p1 st).2 1) ((sq_p1 st).2 2) ((sq_p1 st).2 3) ((sq_p1 st).2 4) ((sq_p1 st).2 5) ((sq_p1 st).2 6) ((sq_p1 st).2 7) ((sq_p1 st).2 8)) H := hP
  have hD : va_D A (wX h0 q cI cZ ((sq_p1 st).1 0) ((sq_p1 st).1 1) ((sq_p1 st).1 2) ((sq_p1 st).1 3) ((sq_p1 st).1 4) ((sq_p1 st).1 5) ((sq_p1 st).1 6) ((sq_p1 st).1 7) ((sq_p1 st).1 8) ((sq_p1 st).1 9) ((sq_p1 st).1 10) ((sq_p1 st).2 0) ((sq_p1 st).2 1) ((sq_p1 st).2 2) ((sq_p1 st).2 3) ((sq_p1 st).2 4) ((sq_p1 st).2 5) ((sq_p1 st).2 6) ((sq_p1 st).2 7) ((sq_p1 st).2 8)) := hD
  have hok1 := sq_ok_p1 hok ht
  have he : sq_kp (sq_go (sq_l2 (sq_e2 (sq_p1 st)))) = sq_run st := rfl
  generalize sq_p1 st = s1 at hok1 he hP hD
  obtain ⟨⟨p1, p2⟩, p3, ⟨p4, p5⟩, p6, ⟨p7, p8, p9⟩, p10, p11, p12, p13, p14⟩ := id hok1
  refine lv_aload_n hx hb dX0_runCycle_14 rfl (lv_at hl 0 rfl) ?_
  refine sq_calli (As := []) (c_canVectorEnter l dC dI h0 q cI cZ (s1.1 0) (s1.1 1) (s1.1 2) (s1.1 3) (s1.1 4) (s1.1 5) (s1.1 6) (s1.1 7) (s1.1 8) (s1.1 9) (s1.1 10) (s1.2 0) (s1.2 1) (s1.2 2) (s1.2 3) (s1.2 4) (s1.2 5) (s1.2 6) (s1.2 7) (s1.2 8) (by omega) (by omega) p7 (by omega)) ⟨hx, hb, hml, hown, hts⟩ (cwV 0 hts (sq_good gvX0_141) rfl rfl rfl (by decide +kernel) ⟨Nat.le_of_ble_eq_true rfl, Nat.le_of_ble_eq_true rfl⟩) hK hP hD hS hA rfl rfl rfl rfl hl.1 rfl (Nat.le_of_ble_eq_true rfl) dX0_runCycle_15 ⟨Nat.zero_le _, Nat.zero_le _⟩ (fun H locs hP hD hS => ?_)
  have ho2 := sq_ok_e2 hok1
  refine lv_if_eq (tgt := 25) hx hb dX0_runCycle_18 (by decide) (fun hc => ?_) (fun hc => ?_)
  · have hc2 : sq_cV s1 = false := sq_b0.mp hc
    have e2 : sq_e2 s1 = s1 := by unfold sq_e2; rw [if_neg (by rw [hc2]; decide)]
    rw [e2] at he ho2
    exact T25 s1 H locs ls hok1 he hP hD hS hl
  · have hc2 : sq_cV s1 = true := sq_bn0.mp hc
    have e2 : sq_e2 s1 = sq_en s1 := by unfold sq_e2; rw [if_pos hc2]
    have hc3 := (of_decide_eq_true hc2).1
    rw [e2] at he ho2
    refine lv_aload_n hx hb dX0_runCycle_21 rfl (lv_at hl 0 rfl) ?_
    refine sq_callv (As := []) (c_enterVector l dC dI h0 q cI cZ (s1.1 0) (s1.1 1) (s1.1 2) (s1.1 3) (s1.1 4) (s1.1 5) (s1.1 6) (s1.1 7) (s1.1 8) (s1.1 9) (s1.1 10) (s1.2 0) (s1.2 1) (s1.2 2) (s1.2 3) (s1.2 4) (s1.2 5) (s1.2 6) (s1.2 7) (s1.2 8) (by omega)) ⟨hx, hb, hml, hown, hts⟩ (cwV 0 hts (sq_good gvX0_150) rfl rfl rfl (by decide +kernel) ⟨Nat.le_of_ble_eq_true rfl, Nat.le_of_ble_eq_true rfl⟩) hK hP hD hS hA rfl rfl rfl rfl hl.1 rfl (Nat.le_of_ble_eq_true rfl) dX0_runCycle_22 ⟨Nat.zero_le _, Nat.zero_le _⟩ (fun H locs hP hD hS => ?_)
    have hP : va_P (dC, dI) vwCl (wX h0 q cI cZ ((sq_en s1).1 0) ((sq_en s1).1 1) ((sq_en s1).1 2) ((sq_en s1).1 3) ((sq_en s1).1 4) ((sq_en s1).1 5) ((sq_en s1).1 6) ((sq_en s1).1 7) ((sq_en s1).1 8) ((sq_en s1).1 9) ((sq_en s1).1 10) ((sq_en s1).2 0) ((sq_en s1).2 1) ((sq_en s1).2 2) ((sq_en s1).2 3) ((sq_en s1).2 4) ((sq_en s1).2 5) ((sq_en s1).2 6) ((sq_en s1).2 7) ((sq_en s1).2 8)) H := hP
    have hD : va_D A (wX h0 q cI cZ ((sq_en s1).1 0) ((sq_en s1).1 1) ((sq_en s1).1 2) ((sq_en s1).1 3) ((sq_en s1).1 4) ((sq_en s1).1 5) ((sq_en s1).1 6) ((sq_en s1).1 7) ((sq_en s1).1 8) ((sq_en s1).1 9) ((sq_en s1).1 10) ((sq_en s1).2 0) ((sq_en s1).2 1) ((sq_en s1).2 2) ((sq_en s1).2 3) ((sq_en s1).2 4) ((sq_en s1).2 5) ((sq_en s1).2 6) ((sq_en s1).2 7) ((sq_en s1).2 8)) := hD
    exact T25 (sq_en s1) H locs ls ho2 he hP hD hS hl
