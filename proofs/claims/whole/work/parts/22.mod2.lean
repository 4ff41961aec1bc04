def rmm_enter : Room := { frames := 0, cells := 0, slots := 0, locals := 0 }
set_option maxHeartbeats 4000000 in
set_option maxRecDepth 100000 in
theorem k_enter (l : Launch) (dC : Nat → ClassId) (dI : Nat → Nat → Nat) (h0 : Nat) (q : Nat → Nat) (cI cZ : ClassId) (ms : SqS)  (hok : sq_mok ms) : sq_Mv l yX1_enter wsX1_enter rmm_enter [.ref h0] (dC, dI) vwCl [(cI, .int), (cZ, .boolean)] (wM h0 q cI cZ (ms.1 0) (ms.1 1) (ms.1 2) (ms.1 3) (ms.1 4) (ms.1 5) (ms.1 6) (ms.1 7) (ms.1 8) (ms.1 9) (ms.1 10) (ms.1 11) (ms.2 0) (ms.2 1) (ms.2 2) (ms.2 3) (ms.2 4) (ms.2 5) (ms.2 6) (ms.2 7) (ms.2 8) (ms.2 9) (ms.2 10)) (wM h0 q cI cZ ((sq_me ms).1 0) ((sq_me ms).1 1) ((sq_me ms).1 2) ((sq_me ms).1 3) ((sq_me ms).1 4) ((sq_me ms).1 5) ((sq_me ms).1 6) ((sq_me ms).1 7) ((sq_me ms).1 8) ((sq_me ms).1 9) ((sq_me ms).1 10) ((sq_me ms).1 11) ((sq_me ms).2 0) ((sq_me ms).2 1) ((sq_me ms).2 2) ((sq_me ms).2 3) ((sq_me ms).2 4) ((sq_me ms).2 5) ((sq_me ms).2 6) ((sq_me ms).2 7) ((sq_me ms).2 8) ((sq_me ms).2 9) ((sq_me ms).2 10)) := by
  refine sq_ofWv (cc := cX1_enter) (maxL := 2) (by decide) rfl (Nat.le_of_ble_eq_true rfl) ?_
  intro p e s m args below meth c A ls Q hx hb hts hown hml hK hP hD hS hA hl hend
  have hl : lv_has ls 2 [(0, .ref h0)] := hl
  have hin : ∀ w ∈ u_ws RX1 TX1 23, w ∈ wsX1_enter := fun w h => List.mem_cons_of_mem _ (inX1 w h)
  have k20 := hts _ (List.mem_cons_of_mem _ mfX1_20)
  have k24 := hts _ (List.mem_cons_of_mem _ mfX1_24)
  have k30 := hts _ (List.mem_cons_of_mem _ mfX1_30)
  have k57 := hts _ (List.mem_cons_of_mem _ mfX1_57)
  have k69 := hts _ (List.mem_cons_of_mem _ mfX1_69)
  have k73 := hts _ (List.mem_cons_of_mem _ mfX1_73)
  have k76 := hts _ (List.mem_cons_of_mem _ mfX1_76)
  have k79 := hts _ (List.mem_cons_of_mem _ mfX1_79)
  have k94 := hts _ (List.mem_cons_of_mem _ mfX1_94)
  obtain ⟨⟨o1, o2⟩, o3, ⟨o4, o5⟩, ⟨o6, o7⟩, ⟨o8, o9, o10⟩, o11, o12, o13, o14, o15, o16⟩ := id hok
  refine lv_aload_n hx hb dX1_enter_0 rfl (lv_at hl 0 rfl) ?_
  refine va_get (D := (dC, dI)) (ci := 1) (v := .ref (q 5)) (C := RX1) (T := TX1) (N := 23) hx hb hts hin hown hK hP 0 rfl rfl 16 (by decide) k30 (fun _ h9 => h9) rfl dX1_enter_1 ?_
  refine lv_aload_n hx hb dX1_enter_4 rfl (lv_at hl 0 rfl) ?_
  refine va_get (D := (dC, dI)) (ci := 1) (v := .int (nI (ms.2 2))) (C := RX1) (T := TX1) (N := 23) hx hb hts hin hown hK hP 0 rfl rfl 2 (by decide) k57 (fun _ h9 => h9) rfl dX1_enter_5 ?_
  refine lv_bipush (v := nI 16) hx hb dX1_enter_8 (by decide +kernel) ?_
  refine sq_irem hx hb (by omega) (by decide) (by decide) dX1_enter_10 ?_
  refine lv_iconst (v := (-1)) hx hb dX1_enter_11 (by decide +kernel) ?_
  refine sq_iast hx hb hK hP hD hS 6 0 rfl rfl (i := ((ms.2 2) % 16)) (by omega) (by decide) dX1_enter_12 (fun H locs hP hD hS => ?_)
  have hP : va_P (dC, dI) vwCl (wM h0 q cI cZ (ms.1 0) (ms.1 1) (ms.1 2) (ms.1 3) (ms.1 4) (upd (ms.1 5) ((ms.2 2) % 16) (-1)) (ms.1 6) (ms.1 7) (ms.1 8) (ms.1 9) (ms.1 10) (ms.1 11) (ms.2 0) (ms.2 1) (ms.2 2) (ms.2 3) (ms.2 4) (ms.2 5) (ms.2 6) (ms.2 7) (ms.2 8) (ms.2 9) (ms.2 10)) H := hP
  have hD : va_D A (wM h0 q cI cZ (ms.1 0) (ms.1 1) (ms.1 2) (ms.1 3) (ms.1 4) (upd (ms.1 5) ((ms.2 2) % 16) (-1)) (ms.1 6) (ms.1 7) (ms.1 8) (ms.1 9) (ms.1 10) (ms.1 11) (ms.2 0) (ms.2 1) (ms.2 2) (ms.2 3) (ms.2 4) (ms.2 5) (ms.2 6) (ms.2 7) (ms.2 8) (ms.2 9) (ms.2 10)) := hD
  have T54 : ∀ (H : Heap) (locs : List Loc) (ls : Array Slot), sq_mcV ms = true → va_P (dC, dI) vwCl (wM h0 q cI cZ (ms.1 0) (ms.1 1) (ms.1 2) (ms.1 3) (ms.1 4) (upd (ms.1 5) ((ms.2 2) % 16) (-1)) (ms.1 6) (ms.1 7) (ms.1 8) (ms.1 9) (ms.1 10) (ms.1 11) (ms.2 0) (ms.2 1) (ms.2 2) (ms.2 3) (ms.2 4) (ms.2 5) (ms.2 6) (ms.2 7) (ms.2 8) (ms.2 9) (ms.2 10)) H → va_D A (wM h0 q cI cZ (ms.1 0) (ms.1 1) (ms.1 2) (ms.1 3) (ms.1 4) (upd (ms.1 5) ((ms.2 2) % 16) (-1)) (ms.1 6) (ms.1 7) (ms.1 8) (ms.1 9) (ms.1 10) (ms.1 11) (ms.2 0) (ms.2 1) (ms.2 2) (ms.2 3) (ms.2 4) (ms.2 5) (ms.2 6) (ms.2 7) (ms.2 8) (ms.2 9) (ms.2 10)) → va_S A s.heap H locs → lv_has ls 2 [(0, .ref h0)] → W p l e rmm_enter s m args below meth c H locs 0 0 Q (F0 m 54 ls []) := by
    intro H locs ls hpre hP hD hS hl
    have hc3 := of_decide_eq_true hpre
    refine lv_aload_n hx hb dX1_enter_54 rfl (lv_at hl 0 rfl) ?_
    refine va_get (D := (dC, dI)) (ci := 1) (v := .ref (q 5)) (C := RX1) (T := TX1) (N := 23) hx hb hts hin hown hK hP 0 rfl rfl 16 (by decide) k30 (fun _ h9 => h9) rfl dX1_enter_55 ?_
    refine lv_aload_n hx hb dX1_enter_58 rfl (lv_at hl 0 rfl) ?_
    refine va_get (D := (dC, dI)) (ci := 1) (v := .int (nI (ms.2 2))) (C := RX1) (T := TX1) (N := 23) hx hb hts hin hown hK hP 0 rfl rfl 2 (by decide) k57 (fun _ h9 => h9) rfl dX1_enter_59 ?_
    refine lv_bipush (v := nI 16) hx hb dX1_enter_62 (by decide +kernel) ?_
    refine sq_irem hx hb (by omega) (by decide) (by decide) dX1_enter_64 ?_
    refine lv_aload_n hx hb dX1_enter_65 rfl (lv_at hl 0 rfl) ?_
    refine va_get (D := (dC, dI)) (ci := 1) (v := .int (nI (ms.2 8))) (C := RX1) (T := TX1) (N := 23) hx hb hts hin hown hK hP 0 rfl rfl 9 (by decide) k76 (fun _ h9 => h9) rfl dX1_enter_66 ?_
    refine sq_iast hx hb hK hP hD hS 6 0 rfl rfl (i := ((ms.2 2) % 16)) (by omega) (by decide) dX1_enter_69 (fun H locs hP hD hS => ?_)
    have hP : va_P (dC, dI) vwCl (wM h0 q cI cZ (ms.1 0) (ms.1 1) (ms.1 2) (ms.1 3) (ms.1 4) (upd (upd (ms.1 5) ((ms.2 2) % 16) (-1)) ((ms.2 2) % 16) (nI (ms.2 8))) (ms.1 6) (ms.1 7) (ms.1 8) (ms.1 9) (ms.1 10) (ms.1 11) (ms.2 0) (ms.2 1) (ms.2 2) (ms.2 3) (ms.2 4) (ms.2 5) (ms.2 6) (ms.2 7) (ms.2 8) (ms.2 9) (ms.2 10)) H := hP
    have hD : va_D A (wM h0 q cI cZ (ms.1 0) (ms.1 1) (ms.1 2) (ms.1 3) (ms.1 4) (upd (upd (ms.1 5) ((ms.2 2) % 16) (-1)) ((ms.2 2) % 16) (nI (ms.2 8))) (ms.1 6) (ms.1 7) (ms.1 8) (ms.1 9) (ms.1 10) (ms.1 11) (ms.2 0) (ms.2 1) (ms.2 2) (ms.2 3) (ms.2 4) (ms.2 5) (ms.2 6) (ms.2 7) (ms.2 8) (ms.2 9) (ms.2 10)) := hD
    refine lv_aload_n hx hb dX1_enter_70 rfl (lv_at hl 0 rfl) ?_
    refine va_get (D := (dC, dI)) (ci := 1) (v := .ref (q 3)) (C := RX1) (T := TX1) (N := 23) hx hb hts hin hown hK hP 0 rfl rfl 14 (by decide) k24 (fun _ h9 => h9) rfl dX1_enter_71 ?_
    refine lv_aload_n hx hb dX1_enter_74 rfl (lv_at hl 0 rfl) ?_
    refine va_get (D := (dC, dI)) (ci := 1) (v := .int (nI (ms.2 8))) (C := RX1) (T := TX1) (N := 23) hx hb hts hin hown hK hP 0 rfl rfl 9 (by decide) k76 (fun _ h9 => h9) rfl dX1_enter_75 ?_
    refine lv_aload_n hx hb dX1_enter_78 rfl (lv_at hl 0 rfl) ?_
    refine va_get (D := (dC, dI)) (ci := 1) (v := .int (nI (ms.2 2))) (C := RX1) (T := TX1) (N := 23) hx hb hts hin hown hK hP 0 rfl rfl 2 (by decide) k57 (fun _ h9 => h9) rfl dX1_enter_79 ?_
    refine sq_iast hx hb hK hP hD hS 4 0 rfl rfl (i := (ms.2 8)) (by omega) (by decide) dX1_enter_82 (fun H locs hP hD hS => ?_)
    have hP : va_P (dC, dI) vwCl (wM h0 q cI cZ (ms.1 0) (ms.1 1) (ms.1 2) (upd (ms.1 3) (ms.2 8) (nI (ms.2 2))) (ms.1 4) (upd (upd (ms.1 5) ((ms.2 2) % 16) (-1)) ((ms.2 2) % 16) (nI (ms.2 8))) (ms.1 6) (ms.1 7) (ms.1 8) (ms.1 9) (ms.1 10) (ms.1 11) (ms.2 0) (ms.2 1) (ms.2 2) (ms.2 3) (ms.2 4) (ms.2 5) (ms.2 6) (ms.2 7) (ms.2 8) (ms.2 9) (ms.2 10)) H := hP
    have hD : va_D A (wM h0 q cI cZ (ms.1 0) (ms.1 1) (ms.1 2) (upd (ms.1 3) (ms.2 8) (nI (ms.2 2))) (ms.1 4) (upd (upd (ms.1 5) ((ms.2 2) % 16) (-1)) ((ms.2 2) % 16) (nI (ms.2 8))) (ms.1 6) (ms.1 7) (ms.1 8) (ms.1 9) (ms.1 10) (ms.1 11) (ms.2 0) (ms.2 1) (ms.2 2) (ms.2 3) (ms.2 4) (ms.2 5) (ms.2 6) (ms.2 7) (ms.2 8) (ms.2 9) (ms.2 10)) := hD
    refine lv_aload_n hx hb dX1_enter_83 rfl (lv_at hl 0 rfl) ?_
    refine va_get (D := (dC, dI)) (ci := 1) (v := .ref (q 2)) (C := RX1) (T := TX1) (N := 23) hx hb hts hin hown hK hP 0 rfl rfl 13 (by decide) k20 (fun _ h9 => h9) rfl dX1_enter_84 ?_
    refine lv_aload_n hx hb dX1_enter_87 rfl (lv_at hl 0 rfl) ?_
    refine va_get (D := (dC, dI)) (ci := 1) (v := .int (nI (ms.2 8))) (C := RX1) (T := TX1) (N := 23) hx hb hts hin hown hK hP 0 rfl rfl 9 (by decide) k76 (fun _ h9 => h9) rfl dX1_enter_88 ?_
    refine sq_zald hx hb hK hP 3 1 rfl rfl (i := (ms.2 8)) (by omega) (by decide) dX1_enter_91 ?_
    refine lv_if_eq (tgt := 118) hx hb dX1_enter_92 (by decide) (fun hc => ?_) (fun hc => ?_)
    · refine lv_aload_n hx hb dX1_enter_118 rfl (lv_at hl 0 rfl) ?_
      refine lv_dup hx hb dX1_enter_119 rfl ?_
      refine va_get (D := (dC, dI)) (ci := 1) (v := .int (nI (ms.2 8))) (C := RX1) (T := TX1) (N := 23) hx hb hts hin hown hK hP 0 rfl rfl 9 (by decide) k76 (fun _ h9 => h9) rfl dX1_enter_120 ?_
      refine lv_iconst (v := nI 1) hx hb dX1_enter_123 (by decide +kernel) ?_
      refine sq_iadd hx hb dX1_enter_124 ?_
      refine va_put (D := (dC, dI)) (ci := 1) (v := .int (nI ((ms.2 8) + 1))) (ty := .int) (C := RX1) (T := TX1) (N := 23) hx hb hts hin tyX1 tyX1_ok nmX1 hown hK hP hD hS 0 rfl rfl 9 (by decide) k76 (fun _ h9 => h9) rfl (by decide +kernel) rfl rfl (Nat.le_of_ble_eq_true rfl) dX1_enter_125 (fun H locs hP hD hS => ?_)
      have hP : va_P (dC, dI) vwCl (wM h0 q cI cZ (ms.1 0) (ms.1 1) (ms.1 2) (upd (ms.1 3) (ms.2 8) (nI (ms.2 2))) (ms.1 4) (upd (upd (ms.1 5) ((ms.2 2) % 16) (-1)) ((ms.2 2) % 16) (nI (ms.2 8))) (ms.1 6) (ms.1 7) (ms.1 8) (ms.1 9) (ms.1 10) (ms.1 11) (ms.2 0) (ms.2 1) (ms.2 2) (ms.2 3) (ms.2 4) (ms.2 5) (ms.2 6) (ms.2 7) ((ms.2 8) + 1) (ms.2 9) (ms.2 10)) H := hP
      have hD : va_D A (wM h0 q cI cZ (ms.1 0) (ms.1 1) (ms.1 2) (upd (ms.1 3) (ms.2 8) (nI (ms.2 2))) (ms.1 4) (upd (upd (ms.1 5) ((ms.2 2) % 16) (-1)) ((ms.2 2) % 16) (nI (ms.2 8))) (ms.1 6) (ms.1 7) (ms.1 8) (ms.1 9) (ms.1 10) (ms.1 11) (ms.2 0) (ms.2 1) (ms.2 2) (ms.2 3) (ms.2 4) (ms.2 5) (ms.2 6) (ms.2 7) ((ms.2 8) + 1) (ms.2 9) (ms.2 10)) := hD
      have e9 : (wM h0 q cI cZ ((sq_me ms).1 0) ((sq_me ms).1 1) ((sq_me ms).1 2) ((sq_me ms).1 3) ((sq_me ms).1 4) ((sq_me ms).1 5) ((sq_me ms).1 6) ((sq_me ms).1 7) ((sq_me ms).1 8) ((sq_me ms).1 9) ((sq_me ms).1 10) ((sq_me ms).1 11) ((sq_me ms).2 0) ((sq_me ms).2 1) ((sq_me ms).2 2) ((sq_me ms).2 3) ((sq_me ms).2 4) ((sq_me ms).2 5) ((sq_me ms).2 6) ((sq_me ms).2 7) ((sq_me ms).2 8) ((sq_me ms).2 9) ((sq_me ms).2 10)) = (wM h0 q cI cZ (ms.1 0) (ms.1 1) (ms.1 2) (upd (ms.1 3) (ms.2 8) (nI (ms.2 2))) (ms.1 4) (upd (upd (ms.1 5) ((ms.2 2) % 16) (-1)) ((ms.2 2) % 16) (nI (ms.2 8))) (ms.1 6) (ms.1 7) (ms.1 8) (ms.1 9) (ms.1 10) (ms.1 11) (ms.2 0) (ms.2 1) (ms.2 2) (ms.2 3) (ms.2 4) (ms.2 5) (ms.2 6) (ms.2 7) ((ms.2 8) + 1) (ms.2 9) (ms.2 10)) := by unfold sq_me; rw [if_pos hpre]; show (wM h0 q cI cZ (ms.1 0) (ms.1 1) (ms.1 2) (upd (ms.1 3) (ms.2 8) (nI (ms.2 2))) (ms.1 4) (upd (upd (ms.1 5) (ms.2 2 % 16) (-1)) (ms.2 2 % 16) (nI (ms.2 8))) (ms.1 6) (ms.1 7) (ms.1 8) (ms.1 9) (ms.1 10) (ms.1 11) (ms.2 0) (ms.2 1) (ms.2 2) (ms.2 3) (ms.2 4) (ms.2 5) (if ms.1 2 (ms.2 8) = 0 then ms.2 6 else 0) (ms.2 7) (ms.2 8 + 1) (if ms.1 2 (ms.2 8) = 0 then ms.2 9 else ms.2 9 + 1) (if ms.1 2 (ms.2 8) = 0 then ms.2 10 else ms.2 2)) = _; rw [if_pos hc, if_pos hc, if_pos hc]
      rw [← e9] at hP hD
      exact hend _ _ _ _ hP hD hS dX1_enter_128
    · refine lv_aload_n hx hb dX1_enter_95 rfl (lv_at hl 0 rfl) ?_
      refine lv_iconst (v := nI 0) hx hb dX1_enter_96 (by decide +kernel) ?_
      refine va_put (D := (dC, dI)) (ci := 1) (v := .int (nI 0)) (ty := .boolean) (C := RX1) (T := TX1) (N := 23) hx hb hts hin tyX1 tyX1_ok nmX1 hown hK hP hD hS 0 rfl rfl 6 (by decide) k69 (fun _ h9 => h9) rfl (by decide +kernel) rfl rfl (Nat.le_of_ble_eq_true rfl) dX1_enter_97 (fun H locs hP hD hS => ?_)
      have hP : va_P (dC, dI) vwCl (wM h0 q cI cZ (ms.1 0) (ms.1 1) (ms.1 2) (upd (ms.1 3) (ms.2 8) (nI (ms.2 2))) (ms.1 4) (upd (upd (ms.1 5) ((ms.2 2) % 16) (-1)) ((ms.2 2) % 16) (nI (ms.2 8))) (ms.1 6) (ms.1 7) (ms.1 8) (ms.1 9) (ms.1 10) (ms.1 11) (ms.2 0) (ms.2 1) (ms.2 2) (ms.2 3) (ms.2 4) (ms.2 5) 0 (ms.2 7) (ms.2 8) (ms.2 9) (ms.2 10)) H := hP
      have hD : va_D A (wM h0 q cI cZ (ms.1 0) (ms.1 1) (ms.1 2) (upd (ms.1 3) (ms.2 8) (nI (ms.2 2))) (ms.1 4) (upd (upd (ms.1 5) ((ms.2 2) % 16) (-1)) ((ms.2 2) % 16) (nI (ms.2 8))) (ms.1 6) (ms.1 7) (ms.1 8) (ms.1 9) (ms.1 10) (ms.1 11) (ms.2 0) (ms.2 1) (ms.2 2) (ms.2 3) (ms.2 4) (ms.2 5) 0 (ms.2 7) (ms.2 8) (ms.2 9) (ms.2 10)) := hD
      refine lv_aload_n hx hb dX1_enter_100 rfl (lv_at hl 0 rfl) ?_
      refine lv_dup hx hb dX1_enter_101 rfl ?_
      refine va_get (D := (dC, dI)) (ci := 1) (v := .int (nI (ms.2 9))) (C := RX1) (T := TX1) (N := 23) hx hb hts hin hown hK hP 0 rfl rfl 10 (by decide) k79 (fun _ h9 => h9) rfl dX1_enter_102 ?_
      refine lv_iconst (v := nI 1) hx hb dX1_enter_105 (by decide +kernel) ?_
      refine sq_iadd hx hb dX1_enter_106 ?_
      refine va_put (D := (dC, dI)) (ci := 1) (v := .int (nI ((ms.2 9) + 1))) (ty := .int) (C := RX1) (T := TX1) (N := 23) hx hb hts hin tyX1 tyX1_ok nmX1 hown hK hP hD hS 0 rfl rfl 10 (by decide) k79 (fun _ h9 => h9) rfl (by decide +kernel) rfl rfl (Nat.le_of_ble_eq_true rfl) dX1_enter_107 (fun H locs hP hD hS => ?_)
      have hP : va_P (dC, dI) vwCl (wM h0 q cI cZ (ms.1 0) (ms.1 1) (ms.1 2) (upd (ms.1 3) (ms.2 8) (nI (ms.2 2))) (ms.1 4) (upd (upd (ms.1 5) ((ms.2 2) % 16) (-1)) ((ms.2 2) % 16) (nI (ms.2 8))) (ms.1 6) (ms.1 7) (ms.1 8) (ms.1 9) (ms.1 10) (ms.1 11) (ms.2 0) (ms.2 1) (ms.2 2) (ms.2 3) (ms.2 4) (ms.2 5) 0 (ms.2 7) (ms.2 8) ((ms.2 9) + 1) (ms.2 10)) H := hP
      have hD : va_D A (wM h0 q cI cZ (ms.1 0) (ms.1 1) (ms.1 2) (upd (ms.1 3) (ms.2 8) (nI (ms.2 2))) (ms.1 4) (upd (upd (ms.1 5) ((ms.2 2) % 16) (-1)) ((ms.2 2) % 16) (nI (ms.2 8))) (ms.1 6) (ms.1 7) (ms.1 8) (ms.1 9) (ms.1 10) (ms.1 11) (ms.2 0) (ms.2 1) (ms.2 2) (ms.2 3) (ms.2 4) (ms.2 5) 0 (ms.2 7) (ms.2 8) ((ms.2 9) + 1) (ms.2 10)) := hD
      refine lv_aload_n hx hb dX1_enter_110 rfl (lv_at hl 0 rfl) ?_
      refine lv_aload_n hx hb dX1_enter_111 rfl (lv_at hl 0 rfl) ?_
      refine va_get (D := (dC, dI)) (ci := 1) (v := .int (nI (ms.2 2))) (C := RX1) (T := TX1) (N := 23) hx hb hts hin hown hK hP 0 rfl rfl 2 (by decide) k57 (fun _ h9 => h9) rfl dX1_enter_112 ?_
      refine va_put (D := (dC, dI)) (ci := 1) (v := .int (nI (ms.2 2))) (ty := .int) (C := RX1) (T := TX1) (N := 23) hx hb hts hin tyX1 tyX1_ok nmX1 hown hK hP hD hS 0 rfl rfl 11 (by decide) k94 (fun _ h9 => h9) rfl (by decide +kernel) rfl rfl (Nat.le_of_ble_eq_true rfl) dX1_enter_115 (fun H locs hP hD hS => ?_)
      have hP : va_P (dC, dI) vwCl (wM h0 q cI cZ (ms.1 0) (ms.1 1) (ms.1 2) (upd (ms.1 3) (ms.2 8) (nI (ms.2 2))) (ms.1 4) (upd (upd (ms.1 5) ((ms.2 2) % 16) (-1)) ((ms.2 2) % 16) (nI (ms.2 8))) (ms.1 6) (ms.1 7) (ms.1 8) (ms.1 9) (ms.1 10) (ms.1 11) (ms.2 0) (ms.2 1) (ms.2 2) (ms.2 3) (ms.2 4) (ms.2 5) 0 (ms.2 7) (ms.2 8) ((ms.2 9) + 1) (ms.2 2)) H := hP
      have hD : va_D A (wM h0 q cI cZ (ms.1 0) (ms.1 1) (ms.1 2) (upd (ms.1 3) (ms.2 8) (nI (ms.2 2))) (ms.1 4) (upd (upd (ms.1 5) ((ms.2 2) % 16) (-1)) ((ms.2 2) % 16) (nI (ms.2 8))) (ms.1 6) (ms.1 7) (ms.1 8) (ms.1 9) (ms.1 10) (ms.1 11) (ms.2 0) (ms.2 1) (ms.2 2) (ms.2 3) (ms.2 4) (ms.2 5) 0 (ms.2 7) (ms.2 8) ((ms.2 9) + 1) (ms.2 2)) := hD
      refine lv_aload_n hx hb dX1_enter_118 rfl (lv_at hl 0 rfl) ?_
      refine lv_dup hx hb dX1_enter_119 rfl ?_
      refine va_get (D := (dC, dI)) (ci := 1) (v := .int (nI (ms.2 8))) (C := RX1) (T := TX1) (N := 23) hx hb hts hin hown hK hP 0 rfl rfl 9 (by decide) k76 (fun _ h9 => h9) rfl dX1_enter_120 ?_
      refine lv_iconst (v := nI 1) hx hb dX1_enter_123 (by decide +kernel) ?_
      refine sq_iadd hx hb dX1_enter_124 ?_
      refine va_put (D := (dC, dI)) (ci := 1) (v := .int (nI ((ms.2 8) + 1))) (ty := .int) (C := RX1) (T := TX1) (N := 23) hx hb hts hin tyX1 tyX1_ok nmX1 hown hK hP hD hS 0 rfl rfl 9 (by decide) k76 (fun _ h9 => h9) rfl (by decide +kernel) rfl rfl (Nat.le_of_ble_eq_true rfl) dX1_enter_125 (fun H locs hP hD hS => ?_)
      have hP : va_P (dC, dI) vwCl (wM h0 q cI cZ (ms.1 0) (ms.1 1) (ms.1 2) (upd (ms.1 3) (ms.2 8) (nI (ms.2 2))) (ms.1 4) (upd (upd (ms.1 5) ((ms.2 2) % 16) (-1)) ((ms.2 2) % 16) (nI (ms.2 8))) (ms.1 6) (ms.1 7) (ms.1 8) (ms.1 9) (ms.1 10) (ms.1 11) (ms.2 0) (ms.2 1) (ms.2 2) (ms.2 3) (ms.2 4) (ms.2 5) 0 (ms.2 7) ((ms.2 8) + 1) ((ms.2 9) + 1) (ms.2 2)) H := hP
      have hD : va_D A (wM h0 q cI cZ (ms.1 0) (ms.1 1) (ms.1 2) (upd (ms.1 3) (ms.2 8) (nI (ms.2 2))) (ms.1 4) (upd (upd (ms.1 5) ((ms.2 2) % 16) (-1)) ((ms.2 2) % 16) (nI (ms.2 8))) (ms.1 6) (ms.1 7) (ms.1 8) (ms.1 9) (ms.1 10) (ms.1 11) (ms.2 0) (ms.2 1) (ms.2 2) (ms.2 3) (ms.2 4) (ms.2 5) 0 (ms.2 7) ((ms.2 8) + 1) ((ms.2 9) + 1) (ms.2 2)) := hD
      have e9 : (wM h0 q cI cZ ((sq_me ms).1 0) ((sq_me ms).1 1) ((sq_me ms).1 2) ((sq_me ms).1 3) ((sq_me ms).1 4) ((sq_me ms).1 5) ((sq_me ms).1 6) ((sq_me ms).1 7) ((sq_me ms).1 8) ((sq_me ms).1 9) ((sq_me ms).1 10) ((sq_me ms).1 11) ((sq_me ms).2 0) ((sq_me ms).2 1) ((sq_me ms).2 2) ((sq_me ms).2 3) ((sq_me ms).2 4) ((sq_me ms).2 5) ((sq_me ms).2 6) ((sq_me ms).2 7) ((sq_me ms).2 8) ((sq_me ms).2 9) ((sq_me ms).2 10)) = (wM h0 q cI cZ (ms.1 0) (ms.1 1) (ms.1 2) (upd (ms.1 3) (ms.2 8) (nI (ms.2 2))) (ms.1 4) (upd (upd (ms.1 5) ((ms.2 2) % 16) (-1)) ((ms.2 2) % 16) (nI (ms.2 8))) (ms.1 6) (ms.1 7) (ms.1 8) (ms.1 9) (ms.1 10) (ms.1 11) (ms.2 0) (ms.2 1) (ms.2 2) (ms.2 3) (ms.2 4) (ms.2 5) 0 (ms.2 7) ((ms.2 8) + 1) ((ms.2 9) + 1) (ms.2 2)) := by unfold sq_me; rw [if_pos hpre]; show (wM h0 q cI cZ (ms.1 0) (ms.1 1) (ms.1 2) (upd (ms.1 3) (ms.2 8) (nI (ms.2 2))) (ms.1 4) (upd (upd (ms.1 5) (ms.2 2 % 16) (-1)) (ms.2 2 % 16) (nI (ms.2 8))) (ms.1 6) (ms.1 7) (ms.1 8) (ms.1 9) (ms.1 10) (ms.1 11) (ms.2 0) (ms.2 1) (ms.2 2) (ms.2 3) (ms.2 4) (ms.2 5) (if ms.1 2 (ms.2 8) = 0 then ms.2 6 else 0) (ms.2 7) (ms.2 8 + 1) (if ms.1 2 (ms.2 8) = 0 then ms.2 9 else ms.2 9 + 1) (if ms.1 2 (ms.2 8) = 0 then ms.2 10 else ms.2 2)) = _; rw [if_neg hc, if_neg hc, if_neg hc]
      rw [← e9] at hP hD
      exact hend _ _ _ _ hP hD hS dX1_enter_128
  have T47 : ∀ (H : Heap) (locs : List Loc) (ls : Array Slot), ¬ sq_mcV ms = true → va_P (dC, dI) vwCl (wM h0 q cI cZ (ms.1 0) (ms.1 1) (ms.1 2) (ms.1 3) (ms.1 4) (upd (ms.1 5) ((ms.2 2) % 16) (-1)) (ms.1 6) (ms.1 7) (ms.1 8) (ms.1 9) (ms.1 10) (ms.1 11) (ms.2 0) (ms.2 1) (ms.2 2) (ms.2 3) (ms.2 4) (ms.2 5) (ms.2 6) (ms.2 7) (ms.2 8) (ms.2 9) (ms.2 10)) H → va_D A (wM h0 q cI cZ (ms.1 0) (ms.1 1) (ms.1 2) (ms.1 3) (ms.1 4) (upd (ms.1 5) ((ms.2 2) % 16) (-1)) (ms.1 6) (ms.1 7) (ms.1 8) (ms.1 9) (ms.1 10) (ms.1 11) (ms.2 0) (ms.2 1) (ms.2 2) (ms.2 3) (ms.2 4) (ms.2 5) (ms.2 6) (ms.2 7) (ms.2 8) (ms.2 9) (ms.2 10)) → va_S A s.heap H locs → lv_has ls 2 [(0, .ref h0)] → W p l e rmm_enter s m args below meth c H locs 0 0 Q (F0 m 47 ls []) := by
    intro H locs ls hpre hP hD hS hl
    refine lv_iconst (v := nI 0) hx hb dX1_enter_47 (by decide +kernel) ?_
    refine lv_istore_n (lv' := [(1, .int (nI 0)), (0, .ref h0)]) hx hb dX1_enter_48 rfl hl (by decide) rfl (fun ls hl => ?_)
    refine lv_iload_n hx hb dX1_enter_49 rfl (lv_at hl 0 rfl) ?_
    refine sq_if_ne (tgt := 54) hx hb (by omega) dX1_enter_50 (by decide) (fun hc => ?_) (fun hc => ?_)
    · exact absurd rfl hc
    · have e9 : (wM h0 q cI cZ ((sq_me ms).1 0) ((sq_me ms).1 1) ((sq_me ms).1 2) ((sq_me ms).1 3) ((sq_me ms).1 4) ((sq_me ms).1 5) ((sq_me ms).1 6) ((sq_me ms).1 7) ((sq_me ms).1 8) ((sq_me ms).1 9) ((sq_me ms).1 10) ((sq_me ms).1 11) ((sq_me ms).2 0) ((sq_me ms).2 1) ((sq_me ms).2 2) ((sq_me ms).2 3) ((sq_me ms).2 4) ((sq_me ms).2 5) ((sq_me ms).2 6) ((sq_me ms).2 7) ((sq_me ms).2 8) ((sq_me ms).2 9) ((sq_me ms).2 10)) = (wM h0 q cI cZ (ms.1 0) (ms.1 1) (ms.1 2) (ms.1 3) (ms.1 4) (upd (ms.1 5) ((ms.2 2) % 16) (-1)) (ms.1 6) (ms.1 7) (ms.1 8) (ms.1 9) (ms.1 10) (ms.1 11) (ms.2 0) (ms.2 1) (ms.2 2) (ms.2 3) (ms.2 4) (ms.2 5) (ms.2 6) (ms.2 7) (ms.2 8) (ms.2 9) (ms.2 10)) := by unfold sq_me; rw [if_neg hpre]; rfl
      rw [← e9] at hP hD
      exact hend _ _ _ _ hP hD hS dX1_enter_53
  refine lv_aload_n hx hb dX1_enter_13 rfl (lv_at hl 0 rfl) ?_
  refine va_get (D := (dC, dI)) (ci := 1) (v := .int (nI (ms.2 8))) (C := RX1) (T := TX1) (N := 23) hx hb hts hin hown hK hP 0 rfl rfl 9 (by decide) k76 (fun _ h9 => h9) rfl dX1_enter_14 ?_
  refine lv_aload_n hx hb dX1_enter_17 rfl (lv_at hl 0 rfl) ?_
  refine va_get (D := (dC, dI)) (ci := 1) (v := .int (nI (ms.2 7))) (C := RX1) (T := TX1) (N := 23) hx hb hts hin hown hK hP 0 rfl rfl 8 (by decide) k73 (fun _ h9 => h9) rfl dX1_enter_18 ?_
  refine sq_icmp_ge (tgt := 47) hx hb (by omega) (by omega) dX1_enter_21 (by decide) (fun hc => ?_) (fun hc => ?_)
  · exact T47 _ _ ls (fun h => absurd (of_decide_eq_true h).1 (by omega)) hP hD hS hl
  · refine lv_aload_n hx hb dX1_enter_24 rfl (lv_at hl 0 rfl) ?_
    refine va_get (D := (dC, dI)) (ci := 1) (v := .ref (q 2)) (C := RX1) (T := TX1) (N := 23) hx hb hts hin hown hK hP 0 rfl rfl 13 (by decide) k20 (fun _ h9 => h9) rfl dX1_enter_25 ?_
    refine lv_aload_n hx hb dX1_enter_28 rfl (lv_at hl 0 rfl) ?_
    refine va_get (D := (dC, dI)) (ci := 1) (v := .int (nI (ms.2 8))) (C := RX1) (T := TX1) (N := 23) hx hb hts hin hown hK hP 0 rfl rfl 9 (by decide) k76 (fun _ h9 => h9) rfl dX1_enter_29 ?_
    refine sq_zald hx hb hK hP 3 1 rfl rfl (i := (ms.2 8)) (by omega) (by decide) dX1_enter_32 ?_
    refine lv_if_eq (tgt := 43) hx hb dX1_enter_33 (by decide) (fun hd => ?_) (fun hd => ?_)
    · refine lv_iconst (v := nI 1) hx hb dX1_enter_43 (by decide +kernel) ?_
      refine lv_goto (tgt := 48) hx hb dX1_enter_44 (by decide) ?_
      refine lv_istore_n (lv' := [(1, .int (nI 1)), (0, .ref h0)]) hx hb dX1_enter_48 rfl hl (by decide) rfl (fun ls hl => ?_)
      refine lv_iload_n hx hb dX1_enter_49 rfl (lv_at hl 0 rfl) ?_
      refine sq_if_ne (tgt := 54) hx hb (by omega) dX1_enter_50 (by decide) (fun hq => ?_) (fun hq => ?_)
      · exact T54 _ _ ls (decide_eq_true ⟨hc, Or.inl hd⟩) hP hD hS (lv_sub hl [1] rfl)
      · exact absurd hq (by decide)
    · refine lv_aload_n hx hb dX1_enter_36 rfl (lv_at hl 0 rfl) ?_
      refine va_get (D := (dC, dI)) (ci := 1) (v := .int (nI (ms.2 6))) (C := RX1) (T := TX1) (N := 23) hx hb hts hin hown hK hP 0 rfl rfl 6 (by decide) k69 (fun _ h9 => h9) rfl dX1_enter_37 ?_
      refine sq_if_eq (tgt := 47) hx hb (by omega) dX1_enter_40 (by decide) (fun he => ?_) (fun he => ?_)
      · exact T47 _ _ ls (fun h => (of_decide_eq_true h).2.elim hd (fun h => h he)) hP hD hS hl
      · refine lv_iconst (v := nI 1) hx hb dX1_enter_43 (by decide +kernel) ?_
        refine lv_goto (tgt := 48) hx hb dX1_enter_44 (by decide) ?_
        refine lv_istore_n (lv' := [(1, .int (nI 1)), (0, .ref h0)]) hx hb dX1_enter_48 rfl hl (by decide) rfl (fun ls hl => ?_)
        refine lv_iload_n hx hb dX1_enter_49 rfl (lv_at hl 0 rfl) ?_
        refine sq_if_ne (tgt := 54) hx hb (by omega) dX1_enter_50 (by decide) (fun hq => ?_) (fun hq => ?_)
        · exact T54 _ _ ls (decide_eq_true ⟨hc, Or.inr he⟩) hP hD hS (lv_sub hl [1] rfl)
        · exact absurd hq (by decide)
def rmm_letIn : Room := { frames := 0, cells := 0, slots := 0, locals := 0 }
set_option maxHeartbeats 4000000 in
set_option maxRecDepth 100000 in
theorem k_letIn (l : Launch) (dC : Nat → ClassId) (dI : Nat → Nat → Nat) (h0 : Nat) (q : Nat → Nat) (cI cZ : ClassId) (ms : SqS)  (hok : sq_mok ms) : sq_Mv l yX1_letIn wsX1_letIn rmm_letIn [.ref h0] (dC, dI) vwCl [(cI, .int), (cZ, .boolean)] (wM h0 q cI cZ (ms.1 0) (ms.1 1) (ms.1 2) (ms.1 3) (ms.1 4) (ms.1 5) (ms.1 6) (ms.1 7) (ms.1 8) (ms.1 9) (ms.1 10) (ms.1 11) (ms.2 0) (ms.2 1) (ms.2 2) (ms.2 3) (ms.2 4) (ms.2 5) (ms.2 6) (ms.2 7) (ms.2 8) (ms.2 9) (ms.2 10)) (wM h0 q cI cZ ((sq_ml ms).1 0) ((sq_ml ms).1 1) ((sq_ml ms).1 2) ((sq_ml ms).1 3) ((sq_ml ms).1 4) ((sq_ml ms).1 5) ((sq_ml ms).1 6) ((sq_ml ms).1 7) ((sq_ml ms).1 8) ((sq_ml ms).1 9) ((sq_ml ms).1 10) ((sq_ml ms).1 11) ((sq_ml ms).2 0) ((sq_ml ms).2 1) ((sq_ml ms).2 2) ((sq_ml ms).2 3) ((sq_ml ms).2 4) ((sq_ml ms).2 5) ((sq_ml ms).2 6) ((sq_ml ms).2 7) ((sq_ml ms).2 8) ((sq_ml ms).2 9) ((sq_ml ms).2 10)) := by
  refine sq_ofWv (cc := cX1_letIn) (maxL := 4) (by decide) rfl (Nat.le_of_ble_eq_true rfl) ?_
  intro p e s m args below meth c A ls Q hx hb hts hown hml hK hP hD hS hA hl hend
  have hl : lv_has ls 4 [(0, .ref h0)] := hl
  have hin : ∀ w ∈ u_ws RX1 TX1 23, w ∈ wsX1_letIn := fun w h => List.mem_cons_of_mem _ (inX1 w h)
  have k7 := hts _ (List.mem_cons_of_mem _ mfX1_7)
  have k13 := hts _ (List.mem_cons_of_mem _ mfX1_13)
  have k42 := hts _ (List.mem_cons_of_mem _ mfX1_42)
  have k57 := hts _ (List.mem_cons_of_mem _ mfX1_57)
  have k60 := hts _ (List.mem_cons_of_mem _ mfX1_60)
  have k63 := hts _ (List.mem_cons_of_mem _ mfX1_63)
  have k66 := hts _ (List.mem_cons_of_mem _ mfX1_66)
  have k69 := hts _ (List.mem_cons_of_mem _ mfX1_69)
  have k79 := hts _ (List.mem_cons_of_mem _ mfX1_79)
  have k94 := hts _ (List.mem_cons_of_mem _ mfX1_94)
  obtain ⟨⟨o1, o2⟩, o3, ⟨o4, o5⟩, ⟨o6, o7⟩, ⟨o8, o9, o10⟩, o11, o12, o13, o14, o15, o16⟩ := id hok
  have T56 : ∀ (H : Heap) (locs : List Loc) (ls : Array Slot), sq_mcR ms = true → va_P (dC, dI) vwCl (wM h0 q cI cZ (ms.1 0) (ms.1 1) (ms.1 2) (ms.1 3) (ms.1 4) (ms.1 5) (ms.1 6) (ms.1 7) (ms.1 8) (ms.1 9) (ms.1 10) (ms.1 11) (ms.2 0) (ms.2 1) (ms.2 2) (ms.2 3) (ms.2 4) (ms.2 5) (ms.2 6) (ms.2 7) (ms.2 8) (ms.2 9) (ms.2 10)) H → va_D A (wM h0 q cI cZ (ms.1 0) (ms.1 1) (ms.1 2) (ms.1 3) (ms.1 4) (ms.1 5) (ms.1 6) (ms.1 7) (ms.1 8) (ms.1 9) (ms.1 10) (ms.1 11) (ms.2 0) (ms.2 1) (ms.2 2) (ms.2 3) (ms.2 4) (ms.2 5) (ms.2 6) (ms.2 7) (ms.2 8) (ms.2 9) (ms.2 10)) → va_S A s.heap H locs → lv_has ls 4 [(0, .ref h0)] → W p l e rmm_letIn s m args below meth c H locs 0 0 Q (F0 m 56 ls []) := by
    intro H locs ls hpre hP hD hS hl
    have hc3 := of_decide_eq_true hpre
    refine lv_aload_n hx hb dX1_letIn_56 rfl (lv_at hl 0 rfl) ?_
    refine va_get (D := (dC, dI)) (ci := 1) (v := .int (nI (ms.2 1))) (C := RX1) (T := TX1) (N := 23) hx hb hts hin hown hK hP 0 rfl rfl 1 (by decide) k7 (fun _ h9 => h9) rfl dX1_letIn_57 ?_
    refine lv_iconst (v := nI 1) hx hb dX1_letIn_60 (by decide +kernel) ?_
    refine sq_isub hx hb (by omega) dX1_letIn_61 ?_
    refine lv_istore_n (lv' := [(2, .int (nI ((ms.2 1) - 1))), (0, .ref h0)]) hx hb dX1_letIn_62 rfl hl (by decide) rfl (fun ls hl => ?_)
    have L3 : ∀ j t : Nat, t + j = ms.2 1 → ∀ (H : Heap) (locs : List Loc) (ls : Array Slot), va_P (dC, dI) vwCl (wM h0 q cI cZ (ms.1 0) (ms.1 1) (ms.1 2) (ms.1 3) (ms.1 4) (ms.1 5) (ms.1 6) (ms.1 7) (ms.1 8) (sq_G (sq_dR t) (fun j => ms.1 0 (ms.2 4 * 6 + j)) (sq_G (sq_dL (ms.2 1) 0 0) (sq_dn6 (ms.1 9)) (ms.1 9))) (ms.1 10) (ms.1 11) (ms.2 0) (ms.2 1) (ms.2 2) (ms.2 3) (ms.2 4) (ms.2 5) (ms.2 6) (ms.2 7) (ms.2 8) (ms.2 9) (ms.2 10)) H → va_D A (wM h0 q cI cZ (ms.1 0) (ms.1 1) (ms.1 2) (ms.1 3) (ms.1 4) (ms.1 5) (ms.1 6) (ms.1 7) (ms.1 8) (sq_G (sq_dR t) (fun j => ms.1 0 (ms.2 4 * 6 + j)) (sq_G (sq_dL (ms.2 1) 0 0) (sq_dn6 (ms.1 9)) (ms.1 9))) (ms.1 10) (ms.1 11) (ms.2 0) (ms.2 1) (ms.2 2) (ms.2 3) (ms.2 4) (ms.2 5) (ms.2 6) (ms.2 7) (ms.2 8) (ms.2 9) (ms.2 10)) → va_S A s.heap H locs → lv_has ls 4 [(2, .int (nI t)), (0, .ref h0)] → W p l e rmm_letIn s m args below meth c H locs 0 0 Q (F0 m 116 ls []) := by
      intro j
      induction j using Nat.strongRecOn with
      | _ j ih =>
        intro t ht H locs ls hP hD hS hl
        refine lv_iload_n hx hb dX1_letIn_116 rfl (lv_at hl 0 rfl) ?_
        refine lv_aload_n hx hb dX1_letIn_117 rfl (lv_at hl 1 rfl) ?_
        refine va_get (D := (dC, dI)) (ci := 1) (v := .int (nI (ms.2 1))) (C := RX1) (T := TX1) (N := 23) hx hb hts hin hown hK hP 0 rfl rfl 1 (by decide) k7 (fun _ h9 => h9) rfl dX1_letIn_118 ?_
        refine sq_icmp_ge (tgt := 150) hx hb (by omega) (by omega) dX1_letIn_121 (by decide) (fun hc => ?_) (fun hc => ?_)
        · have et : t = ms.2 1 := by omega
          rw [et] at hP hD
          refine lv_aload_n hx hb dX1_letIn_150 rfl (lv_at hl 1 rfl) ?_
          refine lv_dup hx hb dX1_letIn_151 rfl ?_
          refine va_get (D := (dC, dI)) (ci := 1) (v := .int (nI (ms.2 4))) (C := RX1) (T := TX1) (N := 23) hx hb hts hin hown hK hP 0 rfl rfl 4 (by decide) k63 (fun _ h9 => h9) rfl dX1_letIn_152 ?_
          refine lv_iconst (v := nI 1) hx hb dX1_letIn_155 (by decide +kernel) ?_
          refine sq_iadd hx hb dX1_letIn_156 ?_
          refine va_put (D := (dC, dI)) (ci := 1) (v := .int (nI ((ms.2 4) + 1))) (ty := .int) (C := RX1) (T := TX1) (N := 23) hx hb hts hin tyX1 tyX1_ok nmX1 hown hK hP hD hS 0 rfl rfl 4 (by decide) k63 (fun _ h9 => h9) rfl (by decide +kernel) rfl rfl (Nat.le_of_ble_eq_true rfl) dX1_letIn_157 (fun H locs hP hD hS => ?_)
          have hP : va_P (dC, dI) vwCl (wM h0 q cI cZ (ms.1 0) (ms.1 1) (ms.1 2) (ms.1 3) (ms.1 4) (ms.1 5) (ms.1 6) (ms.1 7) (ms.1 8) (sq_G (sq_dR (ms.2 1)) (fun j => ms.1 0 (ms.2 4 * 6 + j)) (sq_G (sq_dL (ms.2 1) 0 0) (sq_dn6 (ms.1 9)) (ms.1 9))) (ms.1 10) (ms.1 11) (ms.2 0) (ms.2 1) (ms.2 2) (ms.2 3) ((ms.2 4) + 1) (ms.2 5) (ms.2 6) (ms.2 7) (ms.2 8) (ms.2 9) (ms.2 10)) H := hP
          have hD : va_D A (wM h0 q cI cZ (ms.1 0) (ms.1 1) (ms.1 2) (ms.1 3) (ms.1 4) (ms.1 5) (ms.1 6) (ms.1 7) (ms.1 8) (sq_G (sq_dR (ms.2 1)) (fun j => ms.1 0 (ms.2 4 * 6 + j)) (sq_G (sq_dL (ms.2 1) 0 0) (sq_dn6 (ms.1 9)) (ms.1 9))) (ms.1 10) (ms.1 11) (ms.2 0) (ms.2 1) (ms.2 2) (ms.2 3) ((ms.2 4) + 1) (ms.2 5) (ms.2 6) (ms.2 7) (ms.2 8) (ms.2 9) (ms.2 10)) := hD
          refine lv_aload_n hx hb dX1_letIn_160 rfl (lv_at hl 1 rfl) ?_
          refine lv_dup hx hb dX1_letIn_161 rfl ?_
          refine va_get (D := (dC, dI)) (ci := 1) (v := .int (nI (ms.2 5))) (C := RX1) (T := TX1) (N := 23) hx hb hts hin hown hK hP 0 rfl rfl 5 (by decide) k66 (fun _ h9 => h9) rfl dX1_letIn_162 ?_
          refine lv_iconst (v := nI 1) hx hb dX1_letIn_165 (by decide +kernel) ?_
          refine sq_iadd hx hb dX1_letIn_166 ?_
          refine va_put (D := (dC, dI)) (ci := 1) (v := .int (nI ((ms.2 5) + 1))) (ty := .int) (C := RX1) (T := TX1) (N := 23) hx hb hts hin tyX1 tyX1_ok nmX1 hown hK hP hD hS 0 rfl rfl 5 (by decide) k66 (fun _ h9 => h9) rfl (by decide +kernel) rfl rfl (Nat.le_of_ble_eq_true rfl) dX1_letIn_167 (fun H locs hP hD hS => ?_)
          have hP : va_P (dC, dI) vwCl (wM h0 q cI cZ (ms.1 0) (ms.1 1) (ms.1 2) (ms.1 3) (ms.1 4) (ms.1 5) (ms.1 6) (ms.1 7) (ms.1 8) (sq_G (sq_dR (ms.2 1)) (fun j => ms.1 0 (ms.2 4 * 6 + j)) (sq_G (sq_dL (ms.2 1) 0 0) (sq_dn6 (ms.1 9)) (ms.1 9))) (ms.1 10) (ms.1 11) (ms.2 0) (ms.2 1) (ms.2 2) (ms.2 3) ((ms.2 4) + 1) ((ms.2 5) + 1) (ms.2 6) (ms.2 7) (ms.2 8) (ms.2 9) (ms.2 10)) H := hP
          have hD : va_D A (wM h0 q cI cZ (ms.1 0) (ms.1 1) (ms.1 2) (ms.1 3) (ms.1 4) (ms.1 5) (ms.1 6) (ms.1 7) (ms.1 8) (sq_G (sq_dR (ms.2 1)) (fun j => ms.1 0 (ms.2 4 * 6 + j)) (sq_G (sq_dL (ms.2 1) 0 0) (sq_dn6 (ms.1 9)) (ms.1 9))) (ms.1 10) (ms.1 11) (ms.2 0) (ms.2 1) (ms.2 2) (ms.2 3) ((ms.2 4) + 1) ((ms.2 5) + 1) (ms.2 6) (ms.2 7) (ms.2 8) (ms.2 9) (ms.2 10)) := hD
          refine lv_aload_n hx hb dX1_letIn_170 rfl (lv_at hl 1 rfl) ?_
          refine va_get (D := (dC, dI)) (ci := 1) (v := .int (nI ((ms.2 5) + 1))) (C := RX1) (T := TX1) (N := 23) hx hb hts hin hown hK hP 0 rfl rfl 5 (by decide) k66 (fun _ h9 => h9) rfl dX1_letIn_171 ?_
          refine lv_aload_n hx hb dX1_letIn_174 rfl (lv_at hl 1 rfl) ?_
          refine va_get (D := (dC, dI)) (ci := 1) (v := .int (nI (ms.2 1))) (C := RX1) (T := TX1) (N := 23) hx hb hts hin hown hK hP 0 rfl rfl 1 (by decide) k7 (fun _ h9 => h9) rfl dX1_letIn_175 ?_
          refine sq_icmp_ne (tgt := 191) hx hb (by omega) (by omega) dX1_letIn_178 (by decide) (fun hd => ?_) (fun hd => ?_)
          · have e9 : (wM h0 q cI cZ ((sq_ml ms).1 0) ((sq_ml ms).1 1) ((sq_ml ms).1 2) ((sq_ml ms).1 3) ((sq_ml ms).1 4) ((sq_ml ms).1 5) ((sq_ml ms).1 6) ((sq_ml ms).1 7) ((sq_ml ms).1 8) ((sq_ml ms).1 9) ((sq_ml ms).1 10) ((sq_ml ms).1 11) ((sq_ml ms).2 0) ((sq_ml ms).2 1) ((sq_ml ms).2 2) ((sq_ml ms).2 3) ((sq_ml ms).2 4) ((sq_ml ms).2 5) ((sq_ml ms).2 6) ((sq_ml ms).2 7) ((sq_ml ms).2 8) ((sq_ml ms).2 9) ((sq_ml ms).2 10)) = (wM h0 q cI cZ (ms.1 0) (ms.1 1) (ms.1 2) (ms.1 3) (ms.1 4) (ms.1 5) (ms.1 6) (ms.1 7) (ms.1 8) (sq_G (sq_dR (ms.2 1)) (fun j => ms.1 0 (ms.2 4 * 6 + j)) (sq_G (sq_dL (ms.2 1) 0 0) (sq_dn6 (ms.1 9)) (ms.1 9))) (ms.1 10) (ms.1 11) (ms.2 0) (ms.2 1) (ms.2 2) (ms.2 3) ((ms.2 4) + 1) ((ms.2 5) + 1) (ms.2 6) (ms.2 7) (ms.2 8) (ms.2 9) (ms.2 10)) := by unfold sq_ml; rw [if_pos hpre]; show (wM h0 q cI cZ (ms.1 0) (ms.1 1) (ms.1 2) (ms.1 3) (ms.1 4) (ms.1 5) (ms.1 6) (ms.1 7) (ms.1 8) (sq_G (sq_dR (ms.2 1)) (fun j => ms.1 0 (ms.2 4 * 6 + j)) (sq_G (sq_dL (ms.2 1) 0 0) (sq_dn6 (ms.1 9)) (ms.1 9))) (ms.1 10) (ms.1 11) (ms.2 0) (ms.2 1) (ms.2 2) (ms.2 3) (ms.2 4 + 1) (if ms.2 5 + 1 = ms.2 1 then 0 else ms.2 5 + 1) (if ms.2 5 + 1 = ms.2 1 then 1 else ms.2 6) (ms.2 7) (ms.2 8) (ms.2 9) (ms.2 10)) = _; rw [if_neg hd, if_neg hd]
            rw [← e9] at hP hD
            exact hend _ _ _ _ hP hD hS dX1_letIn_191
          · refine lv_aload_n hx hb dX1_letIn_181 rfl (lv_at hl 1 rfl) ?_
            refine lv_iconst (v := nI 0) hx hb dX1_letIn_182 (by decide +kernel) ?_
            refine va_put (D := (dC, dI)) (ci := 1) (v := .int (nI 0)) (ty := .int) (C := RX1) (T := TX1) (N := 23) hx hb hts hin tyX1 tyX1_ok nmX1 hown hK hP hD hS 0 rfl rfl 5 (by decide) k66 (fun _ h9 => h9) rfl (by decide +kernel) rfl rfl (Nat.le_of_ble_eq_true rfl) dX1_letIn_183 (fun H locs hP hD hS => ?_)
            have hP : va_P (dC, dI) vwCl (wM h0 q cI cZ (ms.1 0) (ms.1 1) (ms.1 2) (ms.1 3) (ms.1 4) (ms.1 5) (ms.1 6) (ms.1 7) (ms.1 8) (sq_G (sq_dR (ms.2 1)) (fun j => ms.1 0 (ms.2 4 * 6 + j)) (sq_G (sq_dL (ms.2 1) 0 0) (sq_dn6 (ms.1 9)) (ms.1 9))) (ms.1 10) (ms.1 11) (ms.2 0) (ms.2 1) (ms.2 2) (ms.2 3) ((ms.2 4) + 1) 0 (ms.2 6) (ms.2 7) (ms.2 8) (ms.2 9) (ms.2 10)) H := hP
            have hD : va_D A (wM h0 q cI cZ (ms.1 0) (ms.1 1) (ms.1 2) (ms.1 3) (ms.1 4) (ms.1 5) (ms.1 6) (ms.1 7) (ms.1 8) (sq_G (sq_dR (ms.2 1)) (fun j => ms.1 0 (ms.2 4 * 6 + j)) (sq_G (sq_dL (ms.2 1) 0 0) (sq_dn6 (ms.1 9)) (ms.1 9))) (ms.1 10) (ms.1 11) (ms.2 0) (ms.2 1) (ms.2 2) (ms.2 3) ((ms.2 4) + 1) 0 (ms.2 6) (ms.2 7) (ms.2 8) (ms.2 9) (ms.2 10)) := hD
            refine lv_aload_n hx hb dX1_letIn_186 rfl (lv_at hl 1 rfl) ?_
            refine lv_iconst (v := nI 1) hx hb dX1_letIn_187 (by decide +kernel) ?_
            refine va_put (D := (dC, dI)) (ci := 1) (v := .int (nI 1)) (ty := .boolean) (C := RX1) (T := TX1) (N := 23) hx hb hts hin tyX1 tyX1_ok nmX1 hown hK hP hD hS 0 rfl rfl 6 (by decide) k69 (fun _ h9 => h9) rfl (by decide +kernel) rfl rfl (Nat.le_of_ble_eq_true rfl) dX1_letIn_188 (fun H locs hP hD hS => ?_)
            have hP : va_P (dC, dI) vwCl (wM h0 q cI cZ (ms.1 0) (ms.1 1) (ms.1 2) (ms.1 3) (ms.1 4) (ms.1 5) (ms.1 6) (ms.1 7) (ms.1 8) (sq_G (sq_dR (ms.2 1)) (fun j => ms.1 0 (ms.2 4 * 6 + j)) (sq_G (sq_dL (ms.2 1) 0 0) (sq_dn6 (ms.1 9)) (ms.1 9))) (ms.1 10) (ms.1 11) (ms.2 0) (ms.2 1) (ms.2 2) (ms.2 3) ((ms.2 4) + 1) 0 1 (ms.2 7) (ms.2 8) (ms.2 9) (ms.2 10)) H := hP
            have hD : va_D A (wM h0 q cI cZ (ms.1 0) (ms.1 1) (ms.1 2) (ms.1 3) (ms.1 4) (ms.1 5) (ms.1 6) (ms.1 7) (ms.1 8) (sq_G (sq_dR (ms.2 1)) (fun j => ms.1 0 (ms.2 4 * 6 + j)) (sq_G (sq_dL (ms.2 1) 0 0) (sq_dn6 (ms.1 9)) (ms.1 9))) (ms.1 10) (ms.1 11) (ms.2 0) (ms.2 1) (ms.2 2) (ms.2 3) ((ms.2 4) + 1) 0 1 (ms.2 7) (ms.2 8) (ms.2 9) (ms.2 10)) := hD
            have e9 : (wM h0 q cI cZ ((sq_ml ms).1 0) ((sq_ml ms).1 1) ((sq_ml ms).1 2) ((sq_ml ms).1 3) ((sq_ml ms).1 4) ((sq_ml ms).1 5) ((sq_ml ms).1 6) ((sq_ml ms).1 7) ((sq_ml ms).1 8) ((sq_ml ms).1 9) ((sq_ml ms).1 10) ((sq_ml ms).1 11) ((sq_ml ms).2 0) ((sq_ml ms).2 1) ((sq_ml ms).2 2) ((sq_ml ms).2 3) ((sq_ml ms).2 4) ((sq_ml ms).2 5) ((sq_ml ms).2 6) ((sq_ml ms).2 7) ((sq_ml ms).2 8) ((sq_ml ms).2 9) ((sq_ml ms).2 10)) = (wM h0 q cI cZ (ms.1 0) (ms.1 1) (ms.1 2) (ms.1 3) (ms.1 4) (ms.1 5) (ms.1 6) (ms.1 7) (ms.1 8) (sq_G (sq_dR (ms.2 1)) (fun j => ms.1 0 (ms.2 4 * 6 + j)) (sq_G (sq_dL (ms.2 1) 0 0) (sq_dn6 (ms.1 9)) (ms.1 9))) (ms.1 10) (ms.1 11) (ms.2 0) (ms.2 1) (ms.2 2) (ms.2 3) ((ms.2 4) + 1) 0 1 (ms.2 7) (ms.2 8) (ms.2 9) (ms.2 10)) := by unfold sq_ml; rw [if_pos hpre]; show (wM h0 q cI cZ (ms.1 0) (ms.1 1) (ms.1 2) (ms.1 3) (ms.1 4) (ms.1 5) (ms.1 6) (ms.1 7) (ms.1 8) (sq_G (sq_dR (ms.2 1)) (fun j => ms.1 0 (ms.2 4 * 6 + j)) (sq_G (sq_dL (ms.2 1) 0 0) (sq_dn6 (ms.1 9)) (ms.1 9))) (ms.1 10) (ms.1 11) (ms.2 0) (ms.2 1) (ms.2 2) (ms.2 3) (ms.2 4 + 1) (if ms.2 5 + 1 = ms.2 1 then 0 else ms.2 5 + 1) (if ms.2 5 + 1 = ms.2 1 then 1 else ms.2 6) (ms.2 7) (ms.2 8) (ms.2 9) (ms.2 10)) = _; rw [if_pos hd, if_pos hd]
            rw [← e9] at hP hD
            exact hend _ _ _ _ hP hD hS dX1_letIn_191
        · refine lv_aload_n hx hb dX1_letIn_124 rfl (lv_at hl 1 rfl) ?_
          refine va_get (D := (dC, dI)) (ci := 1) (v := .ref (q 9)) (C := RX1) (T := TX1) (N := 23) hx hb hts hin hown hK hP 0 rfl rfl 20 (by decide) k42 (fun _ h9 => h9) rfl dX1_letIn_125 ?_
          refine lv_iload_n hx hb dX1_letIn_128 rfl (lv_at hl 0 rfl) ?_
          refine lv_aload_n hx hb dX1_letIn_129 rfl (lv_at hl 1 rfl) ?_
          refine va_get (D := (dC, dI)) (ci := 1) (v := .ref (q 0)) (C := RX1) (T := TX1) (N := 23) hx hb hts hin hown hK hP 0 rfl rfl 7 (by decide) k13 (fun _ h9 => h9) rfl dX1_letIn_130 ?_
          refine lv_bipush (v := nI 6) hx hb dX1_letIn_133 (by decide +kernel) ?_
          refine lv_aload_n hx hb dX1_letIn_135 rfl (lv_at hl 1 rfl) ?_
          refine va_get (D := (dC, dI)) (ci := 1) (v := .int (nI (ms.2 4))) (C := RX1) (T := TX1) (N := 23) hx hb hts hin hown hK hP 0 rfl rfl 4 (by decide) k63 (fun _ h9 => h9) rfl dX1_letIn_136 ?_
          refine sq_imulc hx hb dX1_letIn_139 ?_
          refine lv_iload_n hx hb dX1_letIn_140 rfl (lv_at hl 0 rfl) ?_
          refine sq_iadd hx hb dX1_letIn_141 ?_
          refine sq_iald hx hb hK hP 1 0 rfl rfl (i := (((ms.2 4) * 6) + t)) (by omega) (by decide) dX1_letIn_142 ?_
          refine sq_iast hx hb hK hP hD hS 10 0 rfl rfl (i := t) (by omega) (by decide) dX1_letIn_143 (fun H locs hP hD hS => ?_)
          have hP : va_P (dC, dI) vwCl (wM h0 q cI cZ (ms.1 0) (ms.1 1) (ms.1 2) (ms.1 3) (ms.1 4) (ms.1 5) (ms.1 6) (ms.1 7) (ms.1 8) (upd (sq_G (sq_dR t) (fun j => ms.1 0 (ms.2 4 * 6 + j)) (sq_G (sq_dL (ms.2 1) 0 0) (sq_dn6 (ms.1 9)) (ms.1 9))) t ((ms.1 0) (((ms.2 4) * 6) + t))) (ms.1 10) (ms.1 11) (ms.2 0) (ms.2 1) (ms.2 2) (ms.2 3) (ms.2 4) (ms.2 5) (ms.2 6) (ms.2 7) (ms.2 8) (ms.2 9) (ms.2 10)) H := hP
          have hD : va_D A (wM h0 q cI cZ (ms.1 0) (ms.1 1) (ms.1 2) (ms.1 3) (ms.1 4) (ms.1 5) (ms.1 6) (ms.1 7) (ms.1 8) (upd (sq_G (sq_dR t) (fun j => ms.1 0 (ms.2 4 * 6 + j)) (sq_G (sq_dL (ms.2 1) 0 0) (sq_dn6 (ms.1 9)) (ms.1 9))) t ((ms.1 0) (((ms.2 4) * 6) + t))) (ms.1 10) (ms.1 11) (ms.2 0) (ms.2 1) (ms.2 2) (ms.2 3) (ms.2 4) (ms.2 5) (ms.2 6) (ms.2 7) (ms.2 8) (ms.2 9) (ms.2 10)) := hD
          have eA : upd (sq_G (sq_dR t) (fun j => ms.1 0 (ms.2 4 * 6 + j)) (sq_G (sq_dL (ms.2 1) 0 0) (sq_dn6 (ms.1 9)) (ms.1 9))) t ((ms.1 0) (((ms.2 4) * 6) + t)) = sq_G (sq_dR (t + 1)) (fun j => ms.1 0 (ms.2 4 * 6 + j)) (sq_G (sq_dL (ms.2 1) 0 0) (sq_dn6 (ms.1 9)) (ms.1 9)) := sq_G_step rfl (sq_dR_step t)
          rw [eA] at hP hD
          clear eA
          refine lv_iinc (v := nI (t + 1)) (lv' := [(2, .int (nI (t + 1))), (0, .ref h0)]) hx hb dX1_letIn_144 hl (k := 0) rfl (sq_inc _) (by decide) rfl (fun ls hl => ?_)
          refine lv_goto (tgt := 116) hx hb dX1_letIn_147 (by decide) ?_
          exact ih (j - 1) (by omega) (t + 1) (by omega) H locs ls hP hD hS hl
    have L1 : ∀ r : Nat, r < ms.2 1 → ∀ (H : Heap) (locs : List Loc) (ls : Array Slot), va_P (dC, dI) vwCl (wM h0 q cI cZ (ms.1 0) (ms.1 1) (ms.1 2) (ms.1 3) (ms.1 4) (ms.1 5) (ms.1 6) (ms.1 7) (ms.1 8) (sq_G (sq_dL (ms.2 1) r 0) (sq_dn6 (ms.1 9)) (ms.1 9)) (ms.1 10) (ms.1 11) (ms.2 0) (ms.2 1) (ms.2 2) (ms.2 3) (ms.2 4) (ms.2 5) (ms.2 6) (ms.2 7) (ms.2 8) (ms.2 9) (ms.2 10)) H → va_D A (wM h0 q cI cZ (ms.1 0) (ms.1 1) (ms.1 2) (ms.1 3) (ms.1 4) (ms.1 5) (ms.1 6) (ms.1 7) (ms.1 8) (sq_G (sq_dL (ms.2 1) r 0) (sq_dn6 (ms.1 9)) (ms.1 9)) (ms.1 10) (ms.1 11) (ms.2 0) (ms.2 1) (ms.2 2) (ms.2 3) (ms.2 4) (ms.2 5) (ms.2 6) (ms.2 7) (ms.2 8) (ms.2 9) (ms.2 10)) → va_S A s.heap H locs → lv_has ls 4 [(2, .int (nI r)), (0, .ref h0)] → W p l e rmm_letIn s m args below meth c H locs 0 0 Q (F0 m 63 ls []) := by
      intro r
      induction r using Nat.strongRecOn with
      | _ r ih =>
        intro hr H locs ls hP hD hS hl
        refine lv_iload_n hx hb dX1_letIn_63 rfl (lv_at hl 0 rfl) ?_
        refine sq_if_le (tgt := 114) hx hb (by omega) dX1_letIn_64 (by decide) (fun hc => ?_) (fun hc => ?_)
        · have er : r = 0 := hc
          subst er
          refine lv_iconst (v := nI 0) hx hb dX1_letIn_114 (by decide +kernel) ?_
          refine lv_istore_n (lv' := [(2, .int (nI 0)), (0, .ref h0)]) hx hb dX1_letIn_115 rfl hl (by decide) rfl (fun ls hl => ?_)
          rw [← sq_G_none (d := sq_dR 0) (new := (fun j => ms.1 0 (ms.2 4 * 6 + j))) (old := sq_G (sq_dL (ms.2 1) 0 0) (sq_dn6 (ms.1 9)) (ms.1 9)) (fun j => by simp [sq_dR])] at hP hD
          exact L3 (ms.2 1) 0 (by omega) H locs ls hP hD hS hl
        · obtain ⟨k, rfl⟩ : ∃ k, r = k + 1 := ⟨r - 1, by omega⟩
          refine lv_iconst (v := nI 0) hx hb dX1_letIn_67 (by decide +kernel) ?_
          refine lv_istore_n (lv' := [(3, .int (nI 0)), (2, .int (nI (k + 1))), (0, .ref h0)]) hx hb dX1_letIn_68 rfl hl (by decide) rfl (fun ls hl => ?_)
          have L2 : ∀ j t : Nat, t + j = ms.2 1 → ∀ (H : Heap) (locs : List Loc) (ls : Array Slot), va_P (dC, dI) vwCl (wM h0 q cI cZ (ms.1 0) (ms.1 1) (ms.1 2) (ms.1 3) (ms.1 4) (ms.1 5) (ms.1 6) (ms.1 7) (ms.1 8) (sq_G (sq_dL (ms.2 1) (k + 1) t) (sq_dn6 (ms.1 9)) (ms.1 9)) (ms.1 10) (ms.1 11) (ms.2 0) (ms.2 1) (ms.2 2) (ms.2 3) (ms.2 4) (ms.2 5) (ms.2 6) (ms.2 7) (ms.2 8) (ms.2 9) (ms.2 10)) H → va_D A (wM h0 q cI cZ (ms.1 0) (ms.1 1) (ms.1 2) (ms.1 3) (ms.1 4) (ms.1 5) (ms.1 6) (ms.1 7) (ms.1 8) (sq_G (sq_dL (ms.2 1) (k + 1) t) (sq_dn6 (ms.1 9)) (ms.1 9)) (ms.1 10) (ms.1 11) (ms.2 0) (ms.2 1) (ms.2 2) (ms.2 3) (ms.2 4) (ms.2 5) (ms.2 6) (ms.2 7) (ms.2 8) (ms.2 9) (ms.2 10)) → va_S A s.heap H locs → lv_has ls 4 [(3, .int (nI t)), (2, .int (nI (k + 1))), (0, .ref h0)] → W p l e rmm_letIn s m args below meth c H locs 0 0 Q (F0 m 69 ls []) := by
            intro j
            induction j using Nat.strongRecOn with
            | _ j ih2 =>
              intro t ht H locs ls hP hD hS hl
              refine lv_iload_n hx hb dX1_letIn_69 rfl (lv_at hl 0 rfl) ?_
              refine lv_aload_n hx hb dX1_letIn_70 rfl (lv_at hl 2 rfl) ?_
              refine va_get (D := (dC, dI)) (ci := 1) (v := .int (nI (ms.2 1))) (C := RX1) (T := TX1) (N := 23) hx hb hts hin hown hK hP 0 rfl rfl 1 (by decide) k7 (fun _ h9 => h9) rfl dX1_letIn_71 ?_
              refine sq_icmp_ge (tgt := 108) hx hb (by omega) (by omega) dX1_letIn_74 (by decide) (fun hd => ?_) (fun hd => ?_)
              · have et : t = ms.2 1 := by omega
                rw [et] at hP hD
                have eA : sq_G (sq_dL (ms.2 1) (k + 1) (ms.2 1)) (sq_dn6 (ms.1 9)) (ms.1 9) = sq_G (sq_dL (ms.2 1) k 0) (sq_dn6 (ms.1 9)) (ms.1 9) := sq_G_eq (sq_dL_row (ms.2 1) k)
                rw [eA] at hP hD
                clear eA
                refine lv_iinc (v := nI k) (lv' := [(2, .int (nI k)), (3, .int (nI t)), (0, .ref h0)]) hx hb dX1_letIn_108 hl (k := 1) rfl (sq_dec _) (by decide) rfl (fun ls hl => ?_)
                refine lv_goto (tgt := 63) hx hb dX1_letIn_111 (by decide) ?_
                exact ih k (by omega) (by omega) H locs ls hP hD hS (lv_sub hl [0, 2] rfl)
              · refine lv_aload_n hx hb dX1_letIn_77 rfl (lv_at hl 2 rfl) ?_
                refine va_get (D := (dC, dI)) (ci := 1) (v := .ref (q 9)) (C := RX1) (T := TX1) (N := 23) hx hb hts hin hown hK hP 0 rfl rfl 20 (by decide) k42 (fun _ h9 => h9) rfl dX1_letIn_78 ?_
                refine lv_bipush (v := nI 6) hx hb dX1_letIn_81 (by decide +kernel) ?_
                refine lv_iload_n hx hb dX1_letIn_83 rfl (lv_at hl 1 rfl) ?_
                refine sq_imulc hx hb dX1_letIn_84 ?_
                refine lv_iload_n hx hb dX1_letIn_85 rfl (lv_at hl 0 rfl) ?_
                refine sq_iadd hx hb dX1_letIn_86 ?_
                refine lv_aload_n hx hb dX1_letIn_87 rfl (lv_at hl 2 rfl) ?_
                refine va_get (D := (dC, dI)) (ci := 1) (v := .ref (q 9)) (C := RX1) (T := TX1) (N := 23) hx hb hts hin hown hK hP 0 rfl rfl 20 (by decide) k42 (fun _ h9 => h9) rfl dX1_letIn_88 ?_
                refine lv_bipush (v := nI 6) hx hb dX1_letIn_91 (by decide +kernel) ?_
                refine lv_iload_n hx hb dX1_letIn_93 rfl (lv_at hl 1 rfl) ?_
                refine sq_imulc hx hb dX1_letIn_94 ?_
                refine lv_bipush (v := nI 6) hx hb dX1_letIn_95 (by decide +kernel) ?_
                refine sq_isub hx hb (by omega) dX1_letIn_97 ?_
                refine lv_iload_n hx hb dX1_letIn_98 rfl (lv_at hl 0 rfl) ?_
                refine sq_iadd hx hb dX1_letIn_99 ?_
                refine sq_iald hx hb hK hP 10 0 rfl rfl (i := ((((k + 1) * 6) - 6) + t)) (by omega) (by decide) dX1_letIn_100 ?_
                refine sq_iast hx hb hK hP hD hS 10 0 rfl rfl (i := (((k + 1) * 6) + t)) (by omega) (by decide) dX1_letIn_101 (fun H locs hP hD hS => ?_)
                have hP : va_P (dC, dI) vwCl (wM h0 q cI cZ (ms.1 0) (ms.1 1) (ms.1 2) (ms.1 3) (ms.1 4) (ms.1 5) (ms.1 6) (ms.1 7) (ms.1 8) (upd (sq_G (sq_dL (ms.2 1) (k + 1) t) (sq_dn6 (ms.1 9)) (ms.1 9)) (((k + 1) * 6) + t) ((sq_G (sq_dL (ms.2 1) (k + 1) t) (sq_dn6 (ms.1 9)) (ms.1 9)) ((((k + 1) * 6) - 6) + t))) (ms.1 10) (ms.1 11) (ms.2 0) (ms.2 1) (ms.2 2) (ms.2 3) (ms.2 4) (ms.2 5) (ms.2 6) (ms.2 7) (ms.2 8) (ms.2 9) (ms.2 10)) H := hP
                have hD : va_D A (wM h0 q cI cZ (ms.1 0) (ms.1 1) (ms.1 2) (ms.1 3) (ms.1 4) (ms.1 5) (ms.1 6) (ms.1 7) (ms.1 8) (upd (sq_G (sq_dL (ms.2 1) (k + 1) t) (sq_dn6 (ms.1 9)) (ms.1 9)) (((k + 1) * 6) + t) ((sq_G (sq_dL (ms.2 1) (k + 1) t) (sq_dn6 (ms.1 9)) (ms.1 9)) ((((k + 1) * 6) - 6) + t))) (ms.1 10) (ms.1 11) (ms.2 0) (ms.2 1) (ms.2 2) (ms.2 3) (ms.2 4) (ms.2 5) (ms.2 6) (ms.2 7) (ms.2 8) (ms.2 9) (ms.2 10)) := hD
                have eA : upd (sq_G (sq_dL (ms.2 1) (k + 1) t) (sq_dn6 (ms.1 9)) (ms.1 9)) (((k + 1) * 6) + t) ((sq_G (sq_dL (ms.2 1) (k + 1) t) (sq_dn6 (ms.1 9)) (ms.1 9)) ((((k + 1) * 6) - 6) + t)) = sq_G (sq_dL (ms.2 1) (k + 1) (t + 1)) (sq_dn6 (ms.1 9)) (ms.1 9) := sq_G_step (by rw [sq_G_old (by simp only [sq_dL, decide_eq_true_eq]; omega)]; exact congrArg (ms.1 9) (by omega)) (sq_dL_step (ms.2 1) (k + 1) t o2 (by omega) (by omega))
                rw [eA] at hP hD
                clear eA
                refine lv_iinc (v := nI (t + 1)) (lv' := [(3, .int (nI (t + 1))), (2, .int (nI (k + 1))), (0, .ref h0)]) hx hb dX1_letIn_102 hl (k := 0) rfl (sq_inc _) (by decide) rfl (fun ls hl => ?_)
                refine lv_goto (tgt := 69) hx hb dX1_letIn_105 (by decide) ?_
                exact ih2 (j - 1) (by omega) (t + 1) (by omega) H locs ls hP hD hS hl
          exact L2 (ms.2 1) 0 (by omega) H locs ls hP hD hS hl
    have e9 : (wM h0 q cI cZ (ms.1 0) (ms.1 1) (ms.1 2) (ms.1 3) (ms.1 4) (ms.1 5) (ms.1 6) (ms.1 7) (ms.1 8) (sq_G (sq_dL (ms.2 1) (ms.2 1 - 1) 0) (sq_dn6 (ms.1 9)) (ms.1 9)) (ms.1 10) (ms.1 11) (ms.2 0) (ms.2 1) (ms.2 2) (ms.2 3) (ms.2 4) (ms.2 5) (ms.2 6) (ms.2 7) (ms.2 8) (ms.2 9) (ms.2 10)) = (wM h0 q cI cZ (ms.1 0) (ms.1 1) (ms.1 2) (ms.1 3) (ms.1 4) (ms.1 5) (ms.1 6) (ms.1 7) (ms.1 8) (ms.1 9) (ms.1 10) (ms.1 11) (ms.2 0) (ms.2 1) (ms.2 2) (ms.2 3) (ms.2 4) (ms.2 5) (ms.2 6) (ms.2 7) (ms.2 8) (ms.2 9) (ms.2 10)) := by rw [sq_G_none (sq_dL_top (ms.2 1) o1)]
    rw [← e9] at hP hD
    exact L1 (ms.2 1 - 1) (by omega) _ _ ls hP hD hS hl
  have T49 : ∀ (H : Heap) (locs : List Loc) (ls : Array Slot), ¬ sq_mcR ms = true → va_P (dC, dI) vwCl (wM h0 q cI cZ (ms.1 0) (ms.1 1) (ms.1 2) (ms.1 3) (ms.1 4) (ms.1 5) (ms.1 6) (ms.1 7) (ms.1 8) (ms.1 9) (ms.1 10) (ms.1 11) (ms.2 0) (ms.2 1) (ms.2 2) (ms.2 3) (ms.2 4) (ms.2 5) (ms.2 6) (ms.2 7) (ms.2 8) (ms.2 9) (ms.2 10)) H → va_D A (wM h0 q cI cZ (ms.1 0) (ms.1 1) (ms.1 2) (ms.1 3) (ms.1 4) (ms.1 5) (ms.1 6) (ms.1 7) (ms.1 8) (ms.1 9) (ms.1 10) (ms.1 11) (ms.2 0) (ms.2 1) (ms.2 2) (ms.2 3) (ms.2 4) (ms.2 5) (ms.2 6) (ms.2 7) (ms.2 8) (ms.2 9) (ms.2 10)) → va_S A s.heap H locs → lv_has ls 4 [(0, .ref h0)] → W p l e rmm_letIn s m args below meth c H locs 0 0 Q (F0 m 49 ls []) := by
    intro H locs ls hpre hP hD hS hl
    refine lv_iconst (v := nI 0) hx hb dX1_letIn_49 (by decide +kernel) ?_
    refine lv_istore_n (lv' := [(1, .int (nI 0)), (0, .ref h0)]) hx hb dX1_letIn_50 rfl hl (by decide) rfl (fun ls hl => ?_)
    refine lv_iload_n hx hb dX1_letIn_51 rfl (lv_at hl 0 rfl) ?_
    refine sq_if_ne (tgt := 56) hx hb (by omega) dX1_letIn_52 (by decide) (fun hc => ?_) (fun hc => ?_)
    · exact absurd rfl hc
    · have e9 : (wM h0 q cI cZ ((sq_ml ms).1 0) ((sq_ml ms).1 1) ((sq_ml ms).1 2) ((sq_ml ms).1 3) ((sq_ml ms).1 4) ((sq_ml ms).1 5) ((sq_ml ms).1 6) ((sq_ml ms).1 7) ((sq_ml ms).1 8) ((sq_ml ms).1 9) ((sq_ml ms).1 10) ((sq_ml ms).1 11) ((sq_ml ms).2 0) ((sq_ml ms).2 1) ((sq_ml ms).2 2) ((sq_ml ms).2 3) ((sq_ml ms).2 4) ((sq_ml ms).2 5) ((sq_ml ms).2 6) ((sq_ml ms).2 7) ((sq_ml ms).2 8) ((sq_ml ms).2 9) ((sq_ml ms).2 10)) = (wM h0 q cI cZ (ms.1 0) (ms.1 1) (ms.1 2) (ms.1 3) (ms.1 4) (ms.1 5) (ms.1 6) (ms.1 7) (ms.1 8) (ms.1 9) (ms.1 10) (ms.1 11) (ms.2 0) (ms.2 1) (ms.2 2) (ms.2 3) (ms.2 4) (ms.2 5) (ms.2 6) (ms.2 7) (ms.2 8) (ms.2 9) (ms.2 10)) := by unfold sq_ml; rw [if_neg hpre]
      rw [← e9] at hP hD
      exact hend _ _ _ _ hP hD hS dX1_letIn_55
  refine lv_aload_n hx hb dX1_letIn_0 rfl (lv_at hl 0 rfl) ?_
  refine va_get (D := (dC, dI)) (ci := 1) (v := .int (nI (ms.2 4))) (C := RX1) (T := TX1) (N := 23) hx hb hts hin hown hK hP 0 rfl rfl 4 (by decide) k63 (fun _ h9 => h9) rfl dX1_letIn_1 ?_
  refine lv_aload_n hx hb dX1_letIn_4 rfl (lv_at hl 0 rfl) ?_
  refine va_get (D := (dC, dI)) (ci := 1) (v := .int (nI (ms.2 3))) (C := RX1) (T := TX1) (N := 23) hx hb hts hin hown hK hP 0 rfl rfl 3 (by decide) k60 (fun _ h9 => h9) rfl dX1_letIn_5 ?_
  refine sq_icmp_ge (tgt := 49) hx hb (by omega) (by omega) dX1_letIn_8 (by decide) (fun hc => ?_) (fun hc => ?_)
  · exact T49 _ _ ls (fun h => absurd (of_decide_eq_true h).1 (by omega)) hP hD hS hl
  · refine lv_aload_n hx hb dX1_letIn_11 rfl (lv_at hl 0 rfl) ?_
    refine va_get (D := (dC, dI)) (ci := 1) (v := .int (nI (ms.2 6))) (C := RX1) (T := TX1) (N := 23) hx hb hts hin hown hK hP 0 rfl rfl 6 (by decide) k69 (fun _ h9 => h9) rfl dX1_letIn_12 ?_
    refine sq_if_ne (tgt := 49) hx hb (by omega) dX1_letIn_15 (by decide) (fun hd => ?_) (fun hd => ?_)
    · exact T49 _ _ ls (fun h => hd (of_decide_eq_true h).2.1) hP hD hS hl
    · refine lv_aload_n hx hb dX1_letIn_18 rfl (lv_at hl 0 rfl) ?_
      refine va_get (D := (dC, dI)) (ci := 1) (v := .int (nI (ms.2 9))) (C := RX1) (T := TX1) (N := 23) hx hb hts hin hown hK hP 0 rfl rfl 10 (by decide) k79 (fun _ h9 => h9) rfl dX1_letIn_19 ?_
      refine sq_if_eq (tgt := 45) hx hb (by omega) dX1_letIn_22 (by decide) (fun he => ?_) (fun he => ?_)
      · refine lv_iconst (v := nI 1) hx hb dX1_letIn_45 (by decide +kernel) ?_
        refine lv_goto (tgt := 50) hx hb dX1_letIn_46 (by decide) ?_
        refine lv_istore_n (lv' := [(1, .int (nI 1)), (0, .ref h0)]) hx hb dX1_letIn_50 rfl hl (by decide) rfl (fun ls hl => ?_)
        refine lv_iload_n hx hb dX1_letIn_51 rfl (lv_at hl 0 rfl) ?_
        refine sq_if_ne (tgt := 56) hx hb (by omega) dX1_letIn_52 (by decide) (fun hq => ?_) (fun hq => ?_)
        · exact T56 _ _ ls (decide_eq_true ⟨hc, hd, Or.inl he⟩) hP hD hS (lv_sub hl [1] rfl)
        · exact absurd hq (by decide)
      · have h10 := o11 he
        refine lv_aload_n hx hb dX1_letIn_25 rfl (lv_at hl 0 rfl) ?_
        refine va_get (D := (dC, dI)) (ci := 1) (v := .int (nI (ms.2 2))) (C := RX1) (T := TX1) (N := 23) hx hb hts hin hown hK hP 0 rfl rfl 2 (by decide) k57 (fun _ h9 => h9) rfl dX1_letIn_26 ?_
        refine lv_aload_n hx hb dX1_letIn_29 rfl (lv_at hl 0 rfl) ?_
        refine va_get (D := (dC, dI)) (ci := 1) (v := .int (nI (ms.2 10))) (C := RX1) (T := TX1) (N := 23) hx hb hts hin hown hK hP 0 rfl rfl 11 (by decide) k94 (fun _ h9 => h9) rfl dX1_letIn_30 ?_
        refine sq_isub hx hb (by omega) dX1_letIn_33 ?_
        refine lv_iconst (v := nI 2) hx hb dX1_letIn_34 (by decide +kernel) ?_
        refine lv_aload_n hx hb dX1_letIn_35 rfl (lv_at hl 0 rfl) ?_
        refine va_get (D := (dC, dI)) (ci := 1) (v := .int (nI (ms.2 1))) (C := RX1) (T := TX1) (N := 23) hx hb hts hin hown hK hP 0 rfl rfl 1 (by decide) k7 (fun _ h9 => h9) rfl dX1_letIn_36 ?_
        refine sq_imul hx hb dX1_letIn_39 ?_
        refine lv_iconst (v := nI 2) hx hb dX1_letIn_40 (by decide +kernel) ?_
        refine sq_isub hx hb (by omega) dX1_letIn_41 ?_
        refine sq_icmp_le (tgt := 49) hx hb (by omega) (by omega) dX1_letIn_42 (by decide) (fun hf => ?_) (fun hf => ?_)
        · exact T49 _ _ ls (fun h => (of_decide_eq_true h).2.2.elim he (fun h => absurd h (by omega))) hP hD hS hl
        · refine lv_iconst (v := nI 1) hx hb dX1_letIn_45 (by decide +kernel) ?_
          refine lv_goto (tgt := 50) hx hb dX1_letIn_46 (by decide) ?_
          refine lv_istore_n (lv' := [(1, .int (nI 1)), (0, .ref h0)]) hx hb dX1_letIn_50 rfl hl (by decide) rfl (fun ls hl => ?_)
          refine lv_iload_n hx hb dX1_letIn_51 rfl (lv_at hl 0 rfl) ?_
          refine sq_if_ne (tgt := 56) hx hb (by omega) dX1_letIn_52 (by decide) (fun hq => ?_) (fun hq => ?_)
          · exact T56 _ _ ls (decide_eq_true ⟨hc, hd, Or.inr hf⟩) hP hD hS (lv_sub hl [1] rfl)
          · exact absurd hq (by decide)
def rmm_enteredAgo : Room := { frames := 0, cells := 0, slots := 0, locals := 0 }
set_option maxHeartbeats 4000000 in
set_option maxRecDepth 100000 in
theorem k_enteredAgo (l : Launch) (dC : Nat → ClassId) (dI : Nat → Nat → Nat) (h0 : Nat) (q : Nat → Nat) (cI cZ : ClassId) (ms : SqS) (k : Nat) (bk : k < 2 ^ 31) (b2 : ms.2 2 < 2 ^ 31) : sq_Mi l yX1_enteredAgo wsX1_enteredAgo rmm_enteredAgo [.ref h0, .int (nI k)] (dC, dI) vwCl [(cI, .int), (cZ, .boolean)] (wM h0 q cI cZ (ms.1 0) (ms.1 1) (ms.1 2) (ms.1 3) (ms.1 4) (ms.1 5) (ms.1 6) (ms.1 7) (ms.1 8) (ms.1 9) (ms.1 10) (ms.1 11) (ms.2 0) (ms.2 1) (ms.2 2) (ms.2 3) (ms.2 4) (ms.2 5) (ms.2 6) (ms.2 7) (ms.2 8) (ms.2 9) (ms.2 10)) (wM h0 q cI cZ (ms.1 0) (ms.1 1) (ms.1 2) (ms.1 3) (ms.1 4) (ms.1 5) (ms.1 6) (ms.1 7) (ms.1 8) (ms.1 9) (ms.1 10) (ms.1 11) (ms.2 0) (ms.2 1) (ms.2 2) (ms.2 3) (ms.2 4) (ms.2 5) (ms.2 6) (ms.2 7) (ms.2 8) (ms.2 9) (ms.2 10)) (sq_mago (ms.2 2) (ms.1 5) k) := by
  refine sq_ofWi (cc := cX1_enteredAgo) (maxL := 2) (by decide) rfl (Nat.le_of_ble_eq_true rfl) (vp_nar_int _) ?_
  intro p e s m args below meth c A ls Q hx hb hts hown hml hK hP hD hS hA hl hend
  have hl : lv_has ls 2 [(0, .ref h0), (1, .int (nI k))] := hl
  have hin : ∀ w ∈ u_ws RX1 TX1 23, w ∈ wsX1_enteredAgo := fun w h => List.mem_cons_of_mem _ (inX1 w h)
  have k30 := hts _ (List.mem_cons_of_mem _ mfX1_30)
  have k57 := hts _ (List.mem_cons_of_mem _ mfX1_57)
  refine lv_iload_n hx hb dX1_enteredAgo_0 rfl (lv_at hl 1 rfl) ?_
  refine lv_aload_n hx hb dX1_enteredAgo_1 rfl (lv_at hl 0 rfl) ?_
  refine va_get (D := (dC, dI)) (ci := 1) (v := .int (nI (ms.2 2))) (C := RX1) (T := TX1) (N := 23) hx hb hts hin hown hK hP 0 rfl rfl 2 (by decide) k57 (fun _ h9 => h9) rfl dX1_enteredAgo_2 ?_
  refine sq_icmp_ge (tgt := 25) hx hb (by omega) (by omega) dX1_enteredAgo_5 (by decide) (fun hc => ?_) (fun hc => ?_)
  · refine lv_iconst (v := (-1)) hx hb dX1_enteredAgo_25 (by decide +kernel) ?_
    exact hend _ _ _ _ _ (by unfold sq_mago; rw [if_neg (by omega)]) hP hD hS dX1_enteredAgo_26
  · refine lv_aload_n hx hb dX1_enteredAgo_8 rfl (lv_at hl 0 rfl) ?_
    refine va_get (D := (dC, dI)) (ci := 1) (v := .ref (q 5)) (C := RX1) (T := TX1) (N := 23) hx hb hts hin hown hK hP 0 rfl rfl 16 (by decide) k30 (fun _ h9 => h9) rfl dX1_enteredAgo_9 ?_
    refine lv_aload_n hx hb dX1_enteredAgo_12 rfl (lv_at hl 0 rfl) ?_
    refine va_get (D := (dC, dI)) (ci := 1) (v := .int (nI (ms.2 2))) (C := RX1) (T := TX1) (N := 23) hx hb hts hin hown hK hP 0 rfl rfl 2 (by decide) k57 (fun _ h9 => h9) rfl dX1_enteredAgo_13 ?_
    refine lv_iload_n hx hb dX1_enteredAgo_16 rfl (lv_at hl 1 rfl) ?_
    refine sq_isub hx hb (by omega) dX1_enteredAgo_17 ?_
    refine lv_bipush (v := nI 16) hx hb dX1_enteredAgo_18 (by decide +kernel) ?_
    refine sq_irem hx hb (by omega) (by decide) (by decide) dX1_enteredAgo_20 ?_
    refine sq_iald hx hb hK hP 6 0 rfl rfl (i := (((ms.2 2) - k) % 16)) (by omega) (by decide) dX1_enteredAgo_21 ?_
    refine lv_goto (tgt := 26) hx hb dX1_enteredAgo_22 (by decide) ?_
    exact hend _ _ _ _ _ (by unfold sq_mago; rw [if_pos hc]) hP hD hS dX1_enteredAgo_26
