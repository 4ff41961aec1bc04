def rm_ageEntries : Room := { frames := 0, cells := 0, slots := 0, locals := 0 }
set_option maxHeartbeats 4000000 in
set_option maxRecDepth 100000 in
theorem c_ageEntries (l : Launch) (dC : Nat → ClassId) (dI : Nat → Nat → Nat) (h0 : Nat) (q : Nat → Nat) (cI cZ : ClassId) (a0 a1 a2 a3 a4 a5 a6 a7 a8 a9 a10 : Nat → Int32) (f0 f1 f2 f3 f4 f5 f6 f7 f8 : Nat)   : sq_Mv l yX0_ageEntries wsX0_ageEntries rm_ageEntries [.ref h0] (dC, dI) vwCl [(cI, .int), (cZ, .boolean)] (wX h0 q cI cZ a0 a1 a2 a3 a4 a5 a6 a7 a8 a9 a10 f0 f1 f2 f3 f4 f5 f6 f7 f8) (wX h0 q cI cZ a0 a1 a2 a3 a4 (upd (sq_G (sq_dA 0) (sq_ago a5) a5) 0 (-1)) a6 a7 a8 a9 a10 f0 f1 f2 f3 f4 f5 f6 f7 f8) := by
  refine sq_ofWv (cc := cX0_ageEntries) (maxL := 2) (by decide) rfl (Nat.le_of_ble_eq_true rfl) ?_
  intro p e s m args below meth c A ls Q hx hb hts hown hml hK hP hD hS hA hl hend
  have hl : lv_has ls 2 [(0, .ref h0)] := hl
  have hin : ∀ w ∈ u_ws RX0 TX0 20, w ∈ wsX0_ageEntries := fun w h => List.mem_cons_of_mem _ (inX0 w h)
  have k26 := hts _ (List.mem_cons_of_mem _ mfX0_26)
  refine lv_bipush (v := nI 10) hx hb dX0_ageEntries_0 (by decide +kernel) ?_
  refine lv_istore_n (lv' := [(1, .int (nI 10)), (0, .ref h0)]) hx hb dX0_ageEntries_2 rfl hl (by decide) rfl (fun ls hl => ?_)
  have L1 : ∀ i : Nat, i ≤ 10 → ∀ (H : Heap) (locs : List Loc) (ls : Array Slot), va_P (dC, dI) vwCl (wX h0 q cI cZ a0 a1 a2 a3 a4 (sq_G (sq_dA i) (sq_ago a5) a5) a6 a7 a8 a9 a10 f0 f1 f2 f3 f4 f5 f6 f7 f8) H → va_D A (wX h0 q cI cZ a0 a1 a2 a3 a4 (sq_G (sq_dA i) (sq_ago a5) a5) a6 a7 a8 a9 a10 f0 f1 f2 f3 f4 f5 f6 f7 f8) → va_S A s.heap H locs → lv_has ls 2 [(1, .int (nI i)), (0, .ref h0)] → W p l e rm_ageEntries s m args below meth c H locs 0 0 Q (F0 m 3 ls []) := by
    intro i
    induction i using Nat.strongRecOn with
    | _ i ih =>
      intro hi H locs ls hP hD hS hl
      refine lv_iload_n hx hb dX0_ageEntries_3 rfl (lv_at hl 0 rfl) ?_
      refine sq_if_le (tgt := 27) hx hb (by omega) dX0_ageEntries_4 (by decide) (fun hc => ?_) (fun hc => ?_)
      · have ei : i = 0 := hc
        subst ei
        refine lv_aload_n hx hb dX0_ageEntries_27 rfl (lv_at hl 1 rfl) ?_
        refine va_get (D := (dC, dI)) (ci := 0) (v := .ref (q 5)) (C := RX0) (T := TX0) (N := 20) hx hb hts hin hown hK hP 0 rfl rfl 5 (by decide) k26 (fun _ h9 => h9) rfl dX0_ageEntries_28 ?_
        refine lv_iconst (v := nI 0) hx hb dX0_ageEntries_31 (by decide +kernel) ?_
        refine lv_iconst (v := (-1)) hx hb dX0_ageEntries_32 (by decide +kernel) ?_
        refine sq_iast hx hb hK hP hD hS 6 0 rfl rfl (i := 0) (by omega) (by decide) dX0_ageEntries_33 (fun H locs hP hD hS => ?_)
        have hP : va_P (dC, dI) vwCl (wX h0 q cI cZ a0 a1 a2 a3 a4 (upd (sq_G (sq_dA 0) (sq_ago a5) a5) 0 (-1)) a6 a7 a8 a9 a10 f0 f1 f2 f3 f4 f5 f6 f7 f8) H := hP
        have hD : va_D A (wX h0 q cI cZ a0 a1 a2 a3 a4 (upd (sq_G (sq_dA 0) (sq_ago a5) a5) 0 (-1)) a6 a7 a8 a9 a10 f0 f1 f2 f3 f4 f5 f6 f7 f8) := hD
        exact hend _ _ _ _ hP hD hS dX0_ageEntries_34
      · obtain ⟨k, rfl⟩ : ∃ k, i = k + 1 := ⟨i - 1, by omega⟩
        refine lv_aload_n hx hb dX0_ageEntries_7 rfl (lv_at hl 1 rfl) ?_
        refine va_get (D := (dC, dI)) (ci := 0) (v := .ref (q 5)) (C := RX0) (T := TX0) (N := 20) hx hb hts hin hown hK hP 0 rfl rfl 5 (by decide) k26 (fun _ h9 => h9) rfl dX0_ageEntries_8 ?_
        refine lv_iload_n hx hb dX0_ageEntries_11 rfl (lv_at hl 0 rfl) ?_
        refine lv_aload_n hx hb dX0_ageEntries_12 rfl (lv_at hl 1 rfl) ?_
        refine va_get (D := (dC, dI)) (ci := 0) (v := .ref (q 5)) (C := RX0) (T := TX0) (N := 20) hx hb hts hin hown hK hP 0 rfl rfl 5 (by decide) k26 (fun _ h9 => h9) rfl dX0_ageEntries_13 ?_
        refine lv_iload_n hx hb dX0_ageEntries_16 rfl (lv_at hl 0 rfl) ?_
        refine lv_iconst (v := nI 1) hx hb dX0_ageEntries_17 (by decide +kernel) ?_
        refine sq_isub hx hb (by omega) dX0_ageEntries_18 ?_
        show W p l e rm_ageEntries s m args below meth c H locs 0 0 Q (F0 m 19 ls (.int (nI k) :: .ref (q 5) :: .int (nI (k + 1)) :: .ref (q 5) :: []))
        refine sq_iald hx hb hK hP 6 0 rfl rfl (i := k) (by omega) (by decide) dX0_ageEntries_19 ?_
        refine sq_iast hx hb hK hP hD hS 6 0 rfl rfl (i := (k + 1)) (by omega) (by decide) dX0_ageEntries_20 (fun H locs hP hD hS => ?_)
        have hP : va_P (dC, dI) vwCl (wX h0 q cI cZ a0 a1 a2 a3 a4 (upd (sq_G (sq_dA (k + 1)) (sq_ago a5) a5) (k + 1) ((sq_G (sq_dA (k + 1)) (sq_ago a5) a5) k)) a6 a7 a8 a9 a10 f0 f1 f2 f3 f4 f5 f6 f7 f8) H := hP
        have hD : va_D A (wX h0 q cI cZ a0 a1 a2 a3 a4 (upd (sq_G (sq_dA (k + 1)) (sq_ago a5) a5) (k + 1) ((sq_G (sq_dA (k + 1)) (sq_ago a5) a5) k)) a6 a7 a8 a9 a10 f0 f1 f2 f3 f4 f5 f6 f7 f8) := hD
        have eA : upd (sq_G (sq_dA (k + 1)) (sq_ago a5) a5) (k + 1) ((sq_G (sq_dA (k + 1)) (sq_ago a5) a5) k) = sq_G (sq_dA k) (sq_ago a5) a5 := sq_G_step (by rw [sq_G_old (by simp only [sq_dA, decide_eq_true_eq]; omega)]; rfl) (sq_dA_step k (by omega))
        rw [eA] at hP hD
        clear eA
        refine lv_iinc (v := nI k) (lv' := [(1, .int (nI k)), (0, .ref h0)]) hx hb dX0_ageEntries_21 hl (k := 0) rfl (sq_dec _) (by decide) rfl (fun ls hl => ?_)
        refine lv_goto (tgt := 3) hx hb dX0_ageEntries_24 (by decide) ?_
        exact ih k (by omega) (by omega) H locs ls hP hD hS hl
  rw [← sq_G_none (new := sq_ago a5) (old := a5) sq_dA_top] at hP hD
  exact L1 10 (Nat.le_refl 10) _ _ ls hP hD hS hl
def rm_enterVector : Room := { frames := 0, cells := 0, slots := 0, locals := 0 }
set_option maxHeartbeats 4000000 in
set_option maxRecDepth 100000 in
theorem c_enterVector (l : Launch) (dC : Nat → ClassId) (dI : Nat → Nat → Nat) (h0 : Nat) (q : Nat → Nat) (cI cZ : ClassId) (a0 a1 a2 a3 a4 a5 a6 a7 a8 a9 a10 : Nat → Int32) (f0 f1 f2 f3 f4 f5 f6 f7 f8 : Nat)  (b6 : f6 < 200) : sq_Mv l yX0_enterVector wsX0_enterVector rm_enterVector [.ref h0] (dC, dI) vwCl [(cI, .int), (cZ, .boolean)] (wX h0 q cI cZ a0 a1 a2 a3 a4 a5 a6 a7 a8 a9 a10 f0 f1 f2 f3 f4 f5 f6 f7 f8) (wX h0 q cI cZ a0 a1 a2 a3 (upd a4 f6 (nI f1)) (upd a5 0 (nI f6)) a6 a7 a8 a9 a10 f0 f1 f2 f3 (if a3 f6 = 0 then f4 else 0) f5 (f6 + 1) (if a3 f6 = 0 then f7 else f7 + 1) (if a3 f6 = 0 then f8 else f1)) := by
  refine sq_ofWv (cc := cX0_enterVector) (maxL := 2) (by decide) rfl (Nat.le_of_ble_eq_true rfl) ?_
  intro p e s m args below meth c A ls Q hx hb hts hown hml hK hP hD hS hA hl hend
  have hl : lv_has ls 2 [(0, .ref h0)] := hl
  have hin : ∀ w ∈ u_ws RX0 TX0 20, w ∈ wsX0_enterVector := fun w h => List.mem_cons_of_mem _ (inX0 w h)
  have k19 := hts _ (List.mem_cons_of_mem _ mfX0_19)
  have k23 := hts _ (List.mem_cons_of_mem _ mfX0_23)
  have k26 := hts _ (List.mem_cons_of_mem _ mfX0_26)
  have k70 := hts _ (List.mem_cons_of_mem _ mfX0_70)
  have k98 := hts _ (List.mem_cons_of_mem _ mfX0_98)
  have k115 := hts _ (List.mem_cons_of_mem _ mfX0_115)
  have k129 := hts _ (List.mem_cons_of_mem _ mfX0_129)
  have k132 := hts _ (List.mem_cons_of_mem _ mfX0_132)
  refine lv_aload_n hx hb dX0_enterVector_0 rfl (lv_at hl 0 rfl) ?_
  refine va_get (D := (dC, dI)) (ci := 0) (v := .int (nI f6)) (C := RX0) (T := TX0) (N := 20) hx hb hts hin hown hK hP 0 rfl rfl 17 (by decide) k98 (fun _ h9 => h9) rfl dX0_enterVector_1 ?_
  refine lv_istore_n (lv' := [(1, .int (nI f6)), (0, .ref h0)]) hx hb dX0_enterVector_4 rfl hl (by decide) rfl (fun ls hl => ?_)
  refine lv_aload_n hx hb dX0_enterVector_5 rfl (lv_at hl 1 rfl) ?_
  refine lv_iload_n hx hb dX0_enterVector_6 rfl (lv_at hl 0 rfl) ?_
  refine lv_iconst (v := nI 1) hx hb dX0_enterVector_7 (by decide +kernel) ?_
  refine sq_iadd hx hb dX0_enterVector_8 ?_
  refine va_put (D := (dC, dI)) (ci := 0) (v := .int (nI (f6 + 1))) (ty := .int) (C := RX0) (T := TX0) (N := 20) hx hb hts hin tyX0 tyX0_ok nmX0 hown hK hP hD hS 0 rfl rfl 17 (by decide) k98 (fun _ h9 => h9) rfl (by decide +kernel) rfl rfl (Nat.le_of_ble_eq_true rfl) dX0_enterVector_9 (fun H locs hP hD hS => ?_)
  have hP : va_P (dC, dI) vwCl (wX h0 q cI cZ a0 a1 a2 a3 a4 a5 a6 a7 a8 a9 a10 f0 f1 f2 f3 f4 f5 (f6 + 1) f7 f8) H := hP
  have hD : va_D A (wX h0 q cI cZ a0 a1 a2 a3 a4 a5 a6 a7 a8 a9 a10 f0 f1 f2 f3 f4 f5 (f6 + 1) f7 f8) := hD
  refine lv_aload_n hx hb dX0_enterVector_12 rfl (lv_at hl 1 rfl) ?_
  refine va_get (D := (dC, dI)) (ci := 0) (v := .ref (q 5)) (C := RX0) (T := TX0) (N := 20) hx hb hts hin hown hK hP 0 rfl rfl 5 (by decide) k26 (fun _ h9 => h9) rfl dX0_enterVector_13 ?_
  refine lv_iconst (v := nI 0) hx hb dX0_enterVector_16 (by decide +kernel) ?_
  refine lv_iload_n hx hb dX0_enterVector_17 rfl (lv_at hl 0 rfl) ?_
  refine sq_iast hx hb hK hP hD hS 6 0 rfl rfl (i := 0) (by omega) (by decide) dX0_enterVector_18 (fun H locs hP hD hS => ?_)
  have hP : va_P (dC, dI) vwCl (wX h0 q cI cZ a0 a1 a2 a3 a4 (upd a5 0 (nI f6)) a6 a7 a8 a9 a10 f0 f1 f2 f3 f4 f5 (f6 + 1) f7 f8) H := hP
  have hD : va_D A (wX h0 q cI cZ a0 a1 a2 a3 a4 (upd a5 0 (nI f6)) a6 a7 a8 a9 a10 f0 f1 f2 f3 f4 f5 (f6 + 1) f7 f8) := hD
  refine lv_aload_n hx hb dX0_enterVector_19 rfl (lv_at hl 1 rfl) ?_
  refine va_get (D := (dC, dI)) (ci := 0) (v := .ref (q 4)) (C := RX0) (T := TX0) (N := 20) hx hb hts hin hown hK hP 0 rfl rfl 4 (by decide) k23 (fun _ h9 => h9) rfl dX0_enterVector_20 ?_
  refine lv_iload_n hx hb dX0_enterVector_23 rfl (lv_at hl 0 rfl) ?_
  refine lv_aload_n hx hb dX0_enterVector_24 rfl (lv_at hl 1 rfl) ?_
  refine va_get (D := (dC, dI)) (ci := 0) (v := .int (nI f1)) (C := RX0) (T := TX0) (N := 20) hx hb hts hin hown hK hP 0 rfl rfl 12 (by decide) k70 (fun _ h9 => h9) rfl dX0_enterVector_25 ?_
  refine sq_iast hx hb hK hP hD hS 5 0 rfl rfl (i := f6) (by omega) (by decide) dX0_enterVector_28 (fun H locs hP hD hS => ?_)
  have hP : va_P (dC, dI) vwCl (wX h0 q cI cZ a0 a1 a2 a3 (upd a4 f6 (nI f1)) (upd a5 0 (nI f6)) a6 a7 a8 a9 a10 f0 f1 f2 f3 f4 f5 (f6 + 1) f7 f8) H := hP
  have hD : va_D A (wX h0 q cI cZ a0 a1 a2 a3 (upd a4 f6 (nI f1)) (upd a5 0 (nI f6)) a6 a7 a8 a9 a10 f0 f1 f2 f3 f4 f5 (f6 + 1) f7 f8) := hD
  refine lv_aload_n hx hb dX0_enterVector_29 rfl (lv_at hl 1 rfl) ?_
  refine va_get (D := (dC, dI)) (ci := 0) (v := .ref (q 3)) (C := RX0) (T := TX0) (N := 20) hx hb hts hin hown hK hP 0 rfl rfl 3 (by decide) k19 (fun _ h9 => h9) rfl dX0_enterVector_30 ?_
  refine lv_iload_n hx hb dX0_enterVector_33 rfl (lv_at hl 0 rfl) ?_
  refine sq_zald hx hb hK hP 4 1 rfl rfl (i := f6) (by omega) (by decide) dX0_enterVector_34 ?_
  refine lv_if_eq (tgt := 61) hx hb dX0_enterVector_35 (by decide) (fun hc => ?_) (fun hc => ?_)
  · have e9 : (wX h0 q cI cZ a0 a1 a2 a3 (upd a4 f6 (nI f1)) (upd a5 0 (nI f6)) a6 a7 a8 a9 a10 f0 f1 f2 f3 (if a3 f6 = 0 then f4 else 0) f5 (f6 + 1) (if a3 f6 = 0 then f7 else f7 + 1) (if a3 f6 = 0 then f8 else f1)) = (wX h0 q cI cZ a0 a1 a2 a3 (upd a4 f6 (nI f1)) (upd a5 0 (nI f6)) a6 a7 a8 a9 a10 f0 f1 f2 f3 f4 f5 (f6 + 1) f7 f8) := by rw [if_pos hc, if_pos hc, if_pos hc]
    rw [← e9] at hP hD
    exact hend _ _ _ _ hP hD hS dX0_enterVector_61
  · refine lv_aload_n hx hb dX0_enterVector_38 rfl (lv_at hl 1 rfl) ?_
    refine lv_iconst (v := nI 0) hx hb dX0_enterVector_39 (by decide +kernel) ?_
    refine va_put (D := (dC, dI)) (ci := 0) (v := .int (nI 0)) (ty := .int) (C := RX0) (T := TX0) (N := 20) hx hb hts hin tyX0 tyX0_ok nmX0 hown hK hP hD hS 0 rfl rfl 15 (by decide) k129 (fun _ h9 => h9) rfl (by decide +kernel) rfl rfl (Nat.le_of_ble_eq_true rfl) dX0_enterVector_40 (fun H locs hP hD hS => ?_)
    have hP : va_P (dC, dI) vwCl (wX h0 q cI cZ a0 a1 a2 a3 (upd a4 f6 (nI f1)) (upd a5 0 (nI f6)) a6 a7 a8 a9 a10 f0 f1 f2 f3 0 f5 (f6 + 1) f7 f8) H := hP
    have hD : va_D A (wX h0 q cI cZ a0 a1 a2 a3 (upd a4 f6 (nI f1)) (upd a5 0 (nI f6)) a6 a7 a8 a9 a10 f0 f1 f2 f3 0 f5 (f6 + 1) f7 f8) := hD
    refine lv_aload_n hx hb dX0_enterVector_43 rfl (lv_at hl 1 rfl) ?_
    refine lv_dup hx hb dX0_enterVector_44 rfl ?_
    refine va_get (D := (dC, dI)) (ci := 0) (v := .int (nI f7)) (C := RX0) (T := TX0) (N := 20) hx hb hts hin hown hK hP 0 rfl rfl 18 (by decide) k115 (fun _ h9 => h9) rfl dX0_enterVector_45 ?_
    refine lv_iconst (v := nI 1) hx hb dX0_enterVector_48 (by decide +kernel) ?_
    refine sq_iadd hx hb dX0_enterVector_49 ?_
    refine va_put (D := (dC, dI)) (ci := 0) (v := .int (nI (f7 + 1))) (ty := .int) (C := RX0) (T := TX0) (N := 20) hx hb hts hin tyX0 tyX0_ok nmX0 hown hK hP hD hS 0 rfl rfl 18 (by decide) k115 (fun _ h9 => h9) rfl (by decide +kernel) rfl rfl (Nat.le_of_ble_eq_true rfl) dX0_enterVector_50 (fun H locs hP hD hS => ?_)
    have hP : va_P (dC, dI) vwCl (wX h0 q cI cZ a0 a1 a2 a3 (upd a4 f6 (nI f1)) (upd a5 0 (nI f6)) a6 a7 a8 a9 a10 f0 f1 f2 f3 0 f5 (f6 + 1) (f7 + 1) f8) H := hP
    have hD : va_D A (wX h0 q cI cZ a0 a1 a2 a3 (upd a4 f6 (nI f1)) (upd a5 0 (nI f6)) a6 a7 a8 a9 a10 f0 f1 f2 f3 0 f5 (f6 + 1) (f7 + 1) f8) := hD
    refine lv_aload_n hx hb dX0_enterVector_53 rfl (lv_at hl 1 rfl) ?_
    refine lv_aload_n hx hb dX0_enterVector_54 rfl (lv_at hl 1 rfl) ?_
    refine va_get (D := (dC, dI)) (ci := 0) (v := .int (nI f1)) (C := RX0) (T := TX0) (N := 20) hx hb hts hin hown hK hP 0 rfl rfl 12 (by decide) k70 (fun _ h9 => h9) rfl dX0_enterVector_55 ?_
    refine va_put (D := (dC, dI)) (ci := 0) (v := .int (nI f1)) (ty := .int) (C := RX0) (T := TX0) (N := 20) hx hb hts hin tyX0 tyX0_ok nmX0 hown hK hP hD hS 0 rfl rfl 19 (by decide) k132 (fun _ h9 => h9) rfl (by decide +kernel) rfl rfl (Nat.le_of_ble_eq_true rfl) dX0_enterVector_58 (fun H locs hP hD hS => ?_)
    have hP : va_P (dC, dI) vwCl (wX h0 q cI cZ a0 a1 a2 a3 (upd a4 f6 (nI f1)) (upd a5 0 (nI f6)) a6 a7 a8 a9 a10 f0 f1 f2 f3 0 f5 (f6 + 1) (f7 + 1) f1) H := hP
    have hD : va_D A (wX h0 q cI cZ a0 a1 a2 a3 (upd a4 f6 (nI f1)) (upd a5 0 (nI f6)) a6 a7 a8 a9 a10 f0 f1 f2 f3 0 f5 (f6 + 1) (f7 + 1) f1) := hD
    have e9 : (wX h0 q cI cZ a0 a1 a2 a3 (upd a4 f6 (nI f1)) (upd a5 0 (nI f6)) a6 a7 a8 a9 a10 f0 f1 f2 f3 (if a3 f6 = 0 then f4 else 0) f5 (f6 + 1) (if a3 f6 = 0 then f7 else f7 + 1) (if a3 f6 = 0 then f8 else f1)) = (wX h0 q cI cZ a0 a1 a2 a3 (upd a4 f6 (nI f1)) (upd a5 0 (nI f6)) a6 a7 a8 a9 a10 f0 f1 f2 f3 0 f5 (f6 + 1) (f7 + 1) f1) := by rw [if_neg hc, if_neg hc, if_neg hc]
    rw [← e9] at hP hD
    exact hend _ _ _ _ hP hD hS dX0_enterVector_61
def rm_letRowIn : Room := { frames := 0, cells := 0, slots := 0, locals := 0 }
set_option maxHeartbeats 4000000 in
set_option maxRecDepth 100000 in
theorem c_letRowIn (l : Launch) (dC : Nat → ClassId) (dI : Nat → Nat → Nat) (h0 : Nat) (q : Nat → Nat) (cI cZ : ClassId) (a0 a1 a2 a3 a4 a5 a6 a7 a8 a9 a10 : Nat → Int32) (f0 f1 f2 f3 f4 f5 f6 f7 f8 : Nat)  (b0 : 1 ≤ f0) (b1 : f0 ≤ 6) (b3 : f3 < 120) : sq_Mv l yX0_letRowIn wsX0_letRowIn rm_letRowIn [.ref h0] (dC, dI) vwCl [(cI, .int), (cZ, .boolean)] (wX h0 q cI cZ a0 a1 a2 a3 a4 a5 a6 a7 a8 a9 a10 f0 f1 f2 f3 f4 f5 f6 f7 f8) (wX h0 q cI cZ a0 a1 a2 a3 a4 a5 a6 a7 a8 (sq_G (sq_dR f0) (fun j => a0 (f3 * 6 + j)) (sq_G (sq_dL f0 0 0) (sq_dn6 a9) a9)) a10 f0 f1 f2 (f3 + 1) (f4 + 1) f5 f6 f7 f8) := by
  refine sq_ofWv (cc := cX0_letRowIn) (maxL := 3) (by decide) rfl (Nat.le_of_ble_eq_true rfl) ?_
  intro p e s m args below meth c A ls Q hx hb hts hown hml hK hP hD hS hA hl hend
  have hl : lv_has ls 3 [(0, .ref h0)] := hl
  have hin : ∀ w ∈ u_ws RX0 TX0 20, w ∈ wsX0_letRowIn := fun w h => List.mem_cons_of_mem _ (inX0 w h)
  have k9 := hts _ (List.mem_cons_of_mem _ mfX0_9)
  have k38 := hts _ (List.mem_cons_of_mem _ mfX0_38)
  have k112 := hts _ (List.mem_cons_of_mem _ mfX0_112)
  have k124 := hts _ (List.mem_cons_of_mem _ mfX0_124)
  have k129 := hts _ (List.mem_cons_of_mem _ mfX0_129)
  refine lv_aload_n hx hb dX0_letRowIn_0 rfl (lv_at hl 0 rfl) ?_
  refine va_get (D := (dC, dI)) (ci := 0) (v := .int (nI f0)) (C := RX0) (T := TX0) (N := 20) hx hb hts hin hown hK hP 0 rfl rfl 11 (by decide) k124 (fun _ h9 => h9) rfl dX0_letRowIn_1 ?_
  refine lv_iconst (v := nI 1) hx hb dX0_letRowIn_4 (by decide +kernel) ?_
  refine sq_isub hx hb (by omega) dX0_letRowIn_5 ?_
  refine lv_istore_n (lv' := [(1, .int (nI (f0 - 1))), (0, .ref h0)]) hx hb dX0_letRowIn_6 rfl hl (by decide) rfl (fun ls hl => ?_)
  have L3 : ∀ j t : Nat, t + j = f0 → ∀ (H : Heap) (locs : List Loc) (ls : Array Slot), va_P (dC, dI) vwCl (wX h0 q cI cZ a0 a1 a2 a3 a4 a5 a6 a7 a8 (sq_G (sq_dR t) (fun j => a0 (f3 * 6 + j)) (sq_G (sq_dL f0 0 0) (sq_dn6 a9) a9)) a10 f0 f1 f2 f3 f4 f5 f6 f7 f8) H → va_D A (wX h0 q cI cZ a0 a1 a2 a3 a4 a5 a6 a7 a8 (sq_G (sq_dR t) (fun j => a0 (f3 * 6 + j)) (sq_G (sq_dL f0 0 0) (sq_dn6 a9) a9)) a10 f0 f1 f2 f3 f4 f5 f6 f7 f8) → va_S A s.heap H locs → lv_has ls 3 [(1, .int (nI t)), (0, .ref h0)] → W p l e rm_letRowIn s m args below meth c H locs 0 0 Q (F0 m 59 ls []) := by
    intro j
    induction j using Nat.strongRecOn with
    | _ j ih =>
      intro t ht H locs ls hP hD hS hl
      refine lv_iload_n hx hb dX0_letRowIn_59 rfl (lv_at hl 0 rfl) ?_
      refine lv_aload_n hx hb dX0_letRowIn_60 rfl (lv_at hl 1 rfl) ?_
      refine va_get (D := (dC, dI)) (ci := 0) (v := .int (nI f0)) (C := RX0) (T := TX0) (N := 20) hx hb hts hin hown hK hP 0 rfl rfl 11 (by decide) k124 (fun _ h9 => h9) rfl dX0_letRowIn_61 ?_
      refine sq_icmp_ge (tgt := 93) hx hb (by omega) (by omega) dX0_letRowIn_64 (by decide) (fun hc => ?_) (fun hc => ?_)
      · have et : t = f0 := by omega
        rw [et] at hP hD
        refine lv_aload_n hx hb dX0_letRowIn_93 rfl (lv_at hl 1 rfl) ?_
        refine lv_dup hx hb dX0_letRowIn_94 rfl ?_
        refine va_get (D := (dC, dI)) (ci := 0) (v := .int (nI f3)) (C := RX0) (T := TX0) (N := 20) hx hb hts hin hown hK hP 0 rfl rfl 14 (by decide) k112 (fun _ h9 => h9) rfl dX0_letRowIn_95 ?_
        refine lv_iconst (v := nI 1) hx hb dX0_letRowIn_98 (by decide +kernel) ?_
        refine sq_iadd hx hb dX0_letRowIn_99 ?_
        refine va_put (D := (dC, dI)) (ci := 0) (v := .int (nI (f3 + 1))) (ty := .int) (C := RX0) (T := TX0) (N := 20) hx hb hts hin tyX0 tyX0_ok nmX0 hown hK hP hD hS 0 rfl rfl 14 (by decide) k112 (fun _ h9 => h9) rfl (by decide +kernel) rfl rfl (Nat.le_of_ble_eq_true rfl) dX0_letRowIn_100 (fun H locs hP hD hS => ?_)
        have hP : va_P (dC, dI) vwCl (wX h0 q cI cZ a0 a1 a2 a3 a4 a5 a6 a7 a8 (sq_G (sq_dR f0) (fun j => a0 (f3 * 6 + j)) (sq_G (sq_dL f0 0 0) (sq_dn6 a9) a9)) a10 f0 f1 f2 (f3 + 1) f4 f5 f6 f7 f8) H := hP
        have hD : va_D A (wX h0 q cI cZ a0 a1 a2 a3 a4 a5 a6 a7 a8 (sq_G (sq_dR f0) (fun j => a0 (f3 * 6 + j)) (sq_G (sq_dL f0 0 0) (sq_dn6 a9) a9)) a10 f0 f1 f2 (f3 + 1) f4 f5 f6 f7 f8) := hD
        refine lv_aload_n hx hb dX0_letRowIn_103 rfl (lv_at hl 1 rfl) ?_
        refine lv_dup hx hb dX0_letRowIn_104 rfl ?_
        refine va_get (D := (dC, dI)) (ci := 0) (v := .int (nI f4)) (C := RX0) (T := TX0) (N := 20) hx hb hts hin hown hK hP 0 rfl rfl 15 (by decide) k129 (fun _ h9 => h9) rfl dX0_letRowIn_105 ?_
        refine lv_iconst (v := nI 1) hx hb dX0_letRowIn_108 (by decide +kernel) ?_
        refine sq_iadd hx hb dX0_letRowIn_109 ?_
        refine va_put (D := (dC, dI)) (ci := 0) (v := .int (nI (f4 + 1))) (ty := .int) (C := RX0) (T := TX0) (N := 20) hx hb hts hin tyX0 tyX0_ok nmX0 hown hK hP hD hS 0 rfl rfl 15 (by decide) k129 (fun _ h9 => h9) rfl (by decide +kernel) rfl rfl (Nat.le_of_ble_eq_true rfl) dX0_letRowIn_110 (fun H locs hP hD hS => ?_)
        have hP : va_P (dC, dI) vwCl (wX h0 q cI cZ a0 a1 a2 a3 a4 a5 a6 a7 a8 (sq_G (sq_dR f0) (fun j => a0 (f3 * 6 + j)) (sq_G (sq_dL f0 0 0) (sq_dn6 a9) a9)) a10 f0 f1 f2 (f3 + 1) (f4 + 1) f5 f6 f7 f8) H := hP
        have hD : va_D A (wX h0 q cI cZ a0 a1 a2 a3 a4 a5 a6 a7 a8 (sq_G (sq_dR f0) (fun j => a0 (f3 * 6 + j)) (sq_G (sq_dL f0 0 0) (sq_dn6 a9) a9)) a10 f0 f1 f2 (f3 + 1) (f4 + 1) f5 f6 f7 f8) := hD
        exact hend _ _ _ _ hP hD hS dX0_letRowIn_113
      · refine lv_aload_n hx hb dX0_letRowIn_67 rfl (lv_at hl 1 rfl) ?_
        refine va_get (D := (dC, dI)) (ci := 0) (v := .ref (q 9)) (C := RX0) (T := TX0) (N := 20) hx hb hts hin hown hK hP 0 rfl rfl 9 (by decide) k38 (fun _ h9 => h9) rfl dX0_letRowIn_68 ?_
        refine lv_iload_n hx hb dX0_letRowIn_71 rfl (lv_at hl 0 rfl) ?_
        refine lv_aload_n hx hb dX0_letRowIn_72 rfl (lv_at hl 1 rfl) ?_
        refine va_get (D := (dC, dI)) (ci := 0) (v := .ref (q 0)) (C := RX0) (T := TX0) (N := 20) hx hb hts hin hown hK hP 0 rfl rfl 0 (by decide) k9 (fun _ h9 => h9) rfl dX0_letRowIn_73 ?_
        refine lv_aload_n hx hb dX0_letRowIn_76 rfl (lv_at hl 1 rfl) ?_
        refine va_get (D := (dC, dI)) (ci := 0) (v := .int (nI f3)) (C := RX0) (T := TX0) (N := 20) hx hb hts hin hown hK hP 0 rfl rfl 14 (by decide) k112 (fun _ h9 => h9) rfl dX0_letRowIn_77 ?_
        refine lv_bipush (v := nI 6) hx hb dX0_letRowIn_80 (by decide +kernel) ?_
        refine sq_imul hx hb dX0_letRowIn_82 ?_
        refine lv_iload_n hx hb dX0_letRowIn_83 rfl (lv_at hl 0 rfl) ?_
        refine sq_iadd hx hb dX0_letRowIn_84 ?_
        refine sq_iald hx hb hK hP 1 0 rfl rfl (i := ((f3 * 6) + t)) (by omega) (by decide) dX0_letRowIn_85 ?_
        refine sq_iast hx hb hK hP hD hS 10 0 rfl rfl (i := t) (by omega) (by decide) dX0_letRowIn_86 (fun H locs hP hD hS => ?_)
        have hP : va_P (dC, dI) vwCl (wX h0 q cI cZ a0 a1 a2 a3 a4 a5 a6 a7 a8 (upd (sq_G (sq_dR t) (fun j => a0 (f3 * 6 + j)) (sq_G (sq_dL f0 0 0) (sq_dn6 a9) a9)) t (a0 ((f3 * 6) + t))) a10 f0 f1 f2 f3 f4 f5 f6 f7 f8) H := hP
        have hD : va_D A (wX h0 q cI cZ a0 a1 a2 a3 a4 a5 a6 a7 a8 (upd (sq_G (sq_dR t) (fun j => a0 (f3 * 6 + j)) (sq_G (sq_dL f0 0 0) (sq_dn6 a9) a9)) t (a0 ((f3 * 6) + t))) a10 f0 f1 f2 f3 f4 f5 f6 f7 f8) := hD
        have eA : upd (sq_G (sq_dR t) (fun j => a0 (f3 * 6 + j)) (sq_G (sq_dL f0 0 0) (sq_dn6 a9) a9)) t (a0 ((f3 * 6) + t)) = sq_G (sq_dR (t + 1)) (fun j => a0 (f3 * 6 + j)) (sq_G (sq_dL f0 0 0) (sq_dn6 a9) a9) := sq_G_step rfl (sq_dR_step t)
        rw [eA] at hP hD
        clear eA
        refine lv_iinc (v := nI (t + 1)) (lv' := [(1, .int (nI (t + 1))), (0, .ref h0)]) hx hb dX0_letRowIn_87 hl (k := 0) rfl (sq_inc _) (by decide) rfl (fun ls hl => ?_)
        refine lv_goto (tgt := 59) hx hb dX0_letRowIn_90 (by decide) ?_
        exact ih (j - 1) (by omega) (t + 1) (by omega) H locs ls hP hD hS hl
  have L1 : ∀ r : Nat, r < f0 → ∀ (H : Heap) (locs : List Loc) (ls : Array Slot), va_P (dC, dI) vwCl (wX h0 q cI cZ a0 a1 a2 a3 a4 a5 a6 a7 a8 (sq_G (sq_dL f0 r 0) (sq_dn6 a9) a9) a10 f0 f1 f2 f3 f4 f5 f6 f7 f8) H → va_D A (wX h0 q cI cZ a0 a1 a2 a3 a4 a5 a6 a7 a8 (sq_G (sq_dL f0 r 0) (sq_dn6 a9) a9) a10 f0 f1 f2 f3 f4 f5 f6 f7 f8) → va_S A s.heap H locs → lv_has ls 3 [(1, .int (nI r)), (0, .ref h0)] → W p l e rm_letRowIn s m args below meth c H locs 0 0 Q (F0 m 7 ls []) := by
    intro r
    induction r using Nat.strongRecOn with
    | _ r ih =>
      intro hr H locs ls hP hD hS hl
      refine lv_iload_n hx hb dX0_letRowIn_7 rfl (lv_at hl 0 rfl) ?_
      refine sq_if_le (tgt := 57) hx hb (by omega) dX0_letRowIn_8 (by decide) (fun hc => ?_) (fun hc => ?_)
      · have er : r = 0 := hc
        subst er
        refine lv_iconst (v := nI 0) hx hb dX0_letRowIn_57 (by decide +kernel) ?_
        refine lv_istore_n (lv' := [(1, .int (nI 0)), (0, .ref h0)]) hx hb dX0_letRowIn_58 rfl hl (by decide) rfl (fun ls hl => ?_)
        rw [← sq_G_none (d := sq_dR 0) (new := (fun j => a0 (f3 * 6 + j))) (old := sq_G (sq_dL f0 0 0) (sq_dn6 a9) a9) (fun j => by simp [sq_dR])] at hP hD
        exact L3 f0 0 (by omega) H locs ls hP hD hS hl
      · obtain ⟨k, rfl⟩ : ∃ k, r = k + 1 := ⟨r - 1, by omega⟩
        refine lv_iconst (v := nI 0) hx hb dX0_letRowIn_11 (by decide +kernel) ?_
        refine lv_istore_n (lv' := [(2, .int (nI 0)), (1, .int (nI (k + 1))), (0, .ref h0)]) hx hb dX0_letRowIn_12 rfl hl (by decide) rfl (fun ls hl => ?_)
        have L2 : ∀ j t : Nat, t + j = f0 → ∀ (H : Heap) (locs : List Loc) (ls : Array Slot), va_P (dC, dI) vwCl (wX h0 q cI cZ a0 a1 a2 a3 a4 a5 a6 a7 a8 (sq_G (sq_dL f0 (k + 1) t) (sq_dn6 a9) a9) a10 f0 f1 f2 f3 f4 f5 f6 f7 f8) H → va_D A (wX h0 q cI cZ a0 a1 a2 a3 a4 a5 a6 a7 a8 (sq_G (sq_dL f0 (k + 1) t) (sq_dn6 a9) a9) a10 f0 f1 f2 f3 f4 f5 f6 f7 f8) → va_S A s.heap H locs → lv_has ls 3 [(2, .int (nI t)), (1, .int (nI (k + 1))), (0, .ref h0)] → W p l e rm_letRowIn s m args below meth c H locs 0 0 Q (F0 m 13 ls []) := by
          intro j
          induction j using Nat.strongRecOn with
          | _ j ih2 =>
            intro t ht H locs ls hP hD hS hl
            refine lv_iload_n hx hb dX0_letRowIn_13 rfl (lv_at hl 0 rfl) ?_
            refine lv_aload_n hx hb dX0_letRowIn_14 rfl (lv_at hl 2 rfl) ?_
            refine va_get (D := (dC, dI)) (ci := 0) (v := .int (nI f0)) (C := RX0) (T := TX0) (N := 20) hx hb hts hin hown hK hP 0 rfl rfl 11 (by decide) k124 (fun _ h9 => h9) rfl dX0_letRowIn_15 ?_
            refine sq_icmp_ge (tgt := 51) hx hb (by omega) (by omega) dX0_letRowIn_18 (by decide) (fun hd => ?_) (fun hd => ?_)
            · have et : t = f0 := by omega
              rw [et] at hP hD
              have eA : sq_G (sq_dL f0 (k + 1) f0) (sq_dn6 a9) a9 = sq_G (sq_dL f0 k 0) (sq_dn6 a9) a9 := sq_G_eq (sq_dL_row f0 k)
              rw [eA] at hP hD
              clear eA
              refine lv_iinc (v := nI k) (lv' := [(1, .int (nI k)), (2, .int (nI t)), (0, .ref h0)]) hx hb dX0_letRowIn_51 hl (k := 1) rfl (sq_dec _) (by decide) rfl (fun ls hl => ?_)
              refine lv_goto (tgt := 7) hx hb dX0_letRowIn_54 (by decide) ?_
              exact ih k (by omega) (by omega) H locs ls hP hD hS (lv_sub hl [0, 2] rfl)
            · refine lv_aload_n hx hb dX0_letRowIn_21 rfl (lv_at hl 2 rfl) ?_
              refine va_get (D := (dC, dI)) (ci := 0) (v := .ref (q 9)) (C := RX0) (T := TX0) (N := 20) hx hb hts hin hown hK hP 0 rfl rfl 9 (by decide) k38 (fun _ h9 => h9) rfl dX0_letRowIn_22 ?_
              refine lv_iload_n hx hb dX0_letRowIn_25 rfl (lv_at hl 1 rfl) ?_
              refine lv_bipush (v := nI 6) hx hb dX0_letRowIn_26 (by decide +kernel) ?_
              refine sq_imul hx hb dX0_letRowIn_28 ?_
              refine lv_iload_n hx hb dX0_letRowIn_29 rfl (lv_at hl 0 rfl) ?_
              refine sq_iadd hx hb dX0_letRowIn_30 ?_
              refine lv_aload_n hx hb dX0_letRowIn_31 rfl (lv_at hl 2 rfl) ?_
              refine va_get (D := (dC, dI)) (ci := 0) (v := .ref (q 9)) (C := RX0) (T := TX0) (N := 20) hx hb hts hin hown hK hP 0 rfl rfl 9 (by decide) k38 (fun _ h9 => h9) rfl dX0_letRowIn_32 ?_
              refine lv_iload_n hx hb dX0_letRowIn_35 rfl (lv_at hl 1 rfl) ?_
              refine lv_iconst (v := nI 1) hx hb dX0_letRowIn_36 (by decide +kernel) ?_
              refine sq_isub hx hb (by omega) dX0_letRowIn_37 ?_
              refine lv_bipush (v := nI 6) hx hb dX0_letRowIn_38 (by decide +kernel) ?_
              refine sq_imul hx hb dX0_letRowIn_40 ?_
              refine lv_iload_n hx hb dX0_letRowIn_41 rfl (lv_at hl 0 rfl) ?_
              refine sq_iadd hx hb dX0_letRowIn_42 ?_
              refine sq_iald hx hb hK hP 10 0 rfl rfl (i := ((((k + 1) - 1) * 6) + t)) (by omega) (by decide) dX0_letRowIn_43 ?_
              refine sq_iast hx hb hK hP hD hS 10 0 rfl rfl (i := (((k + 1) * 6) + t)) (by omega) (by decide) dX0_letRowIn_44 (fun H locs hP hD hS => ?_)
              have hP : va_P (dC, dI) vwCl (wX h0 q cI cZ a0 a1 a2 a3 a4 a5 a6 a7 a8 (upd (sq_G (sq_dL f0 (k + 1) t) (sq_dn6 a9) a9) (((k + 1) * 6) + t) ((sq_G (sq_dL f0 (k + 1) t) (sq_dn6 a9) a9) ((((k + 1) - 1) * 6) + t))) a10 f0 f1 f2 f3 f4 f5 f6 f7 f8) H := hP
              have hD : va_D A (wX h0 q cI cZ a0 a1 a2 a3 a4 a5 a6 a7 a8 (upd (sq_G (sq_dL f0 (k + 1) t) (sq_dn6 a9) a9) (((k + 1) * 6) + t) ((sq_G (sq_dL f0 (k + 1) t) (sq_dn6 a9) a9) ((((k + 1) - 1) * 6) + t))) a10 f0 f1 f2 f3 f4 f5 f6 f7 f8) := hD
              have eA : upd (sq_G (sq_dL f0 (k + 1) t) (sq_dn6 a9) a9) (((k + 1) * 6) + t) ((sq_G (sq_dL f0 (k + 1) t) (sq_dn6 a9) a9) ((((k + 1) - 1) * 6) + t)) = sq_G (sq_dL f0 (k + 1) (t + 1)) (sq_dn6 a9) a9 := sq_G_step (by rw [sq_G_old (by simp only [sq_dL, decide_eq_true_eq]; omega)]; exact congrArg a9 (by omega)) (sq_dL_step f0 (k + 1) t b1 (by omega) (by omega))
              rw [eA] at hP hD
              clear eA
              refine lv_iinc (v := nI (t + 1)) (lv' := [(2, .int (nI (t + 1))), (1, .int (nI (k + 1))), (0, .ref h0)]) hx hb dX0_letRowIn_45 hl (k := 0) rfl (sq_inc _) (by decide) rfl (fun ls hl => ?_)
              refine lv_goto (tgt := 13) hx hb dX0_letRowIn_48 (by decide) ?_
              exact ih2 (j - 1) (by omega) (t + 1) (by omega) H locs ls hP hD hS hl
        exact L2 f0 0 (by omega) H locs ls hP hD hS hl
  rw [← sq_G_none (new := sq_dn6 a9) (old := a9) (sq_dL_top f0 b0)] at hP hD
  exact L1 (f0 - 1) (by omega) _ _ ls hP hD hS hl
def rm_advance : Room := { frames := 0, cells := 0, slots := 0, locals := 0 }
set_option maxHeartbeats 4000000 in
set_option maxRecDepth 100000 in
theorem c_advance (l : Launch) (dC : Nat → ClassId) (dI : Nat → Nat → Nat) (h0 : Nat) (q : Nat → Nat) (cI cZ : ClassId) (a0 a1 a2 a3 a4 a5 a6 a7 a8 a9 a10 : Nat → Int32) (f0 f1 f2 f3 f4 f5 f6 f7 f8 : Nat) (r i : Nat) (x mk : Int32) (bi : i < 36) (br : r < 2 ^ 31) (b6 : ¬ r = 0 → 6 ≤ i) (hmk : vp_nar .boolean mk = mk) : sq_Mv l yX0_advance wsX0_advance rm_advance [.ref h0, .int (nI r), .int (nI i), .int x, .int mk] (dC, dI) vwCl [(cI, .int), (cZ, .boolean)] (wX h0 q cI cZ a0 a1 a2 a3 a4 a5 a6 a7 a8 a9 a10 f0 f1 f2 f3 f4 f5 f6 f7 f8) (wX h0 q cI cZ a0 a1 a2 a3 a4 a5 (upd a6 i x) (sq_advS a7 (sq_advF a8 a9 i mk) r i x) (sq_advF a8 a9 i mk) a9 (upd a10 i mk) f0 f1 f2 f3 f4 f5 f6 f7 f8) := by
  refine sq_ofWv (cc := cX0_advance) (maxL := 6) (by decide) rfl (Nat.le_of_ble_eq_true rfl) ?_
  intro p e s m args below meth c A ls Q hx hb hts hown hml hK hP hD hS hA hl hend
  have hl : lv_has ls 6 [(0, .ref h0), (1, .int (nI r)), (2, .int (nI i)), (3, .int x), (4, .int mk)] := hl
  have hin : ∀ w ∈ u_ws RX0 TX0 20, w ∈ wsX0_advance := fun w h => List.mem_cons_of_mem _ (inX0 w h)
  have k29 := hts _ (List.mem_cons_of_mem _ mfX0_29)
  have k32 := hts _ (List.mem_cons_of_mem _ mfX0_32)
  have k35 := hts _ (List.mem_cons_of_mem _ mfX0_35)
  have k38 := hts _ (List.mem_cons_of_mem _ mfX0_38)
  have k41 := hts _ (List.mem_cons_of_mem _ mfX0_41)
  refine lv_aload_n hx hb dX0_advance_0 rfl (lv_at hl 0 rfl) ?_
  refine va_get (D := (dC, dI)) (ci := 0) (v := .ref (q 6)) (C := RX0) (T := TX0) (N := 20) hx hb hts hin hown hK hP 0 rfl rfl 6 (by decide) k29 (fun _ h9 => h9) rfl dX0_advance_1 ?_
  refine lv_iload_n hx hb dX0_advance_4 rfl (lv_at hl 2 rfl) ?_
  refine lv_iload_n hx hb dX0_advance_5 rfl (lv_at hl 3 rfl) ?_
  refine sq_iast hx hb hK hP hD hS 7 0 rfl rfl (i := i) (by omega) (by decide) dX0_advance_6 (fun H locs hP hD hS => ?_)
  have hP : va_P (dC, dI) vwCl (wX h0 q cI cZ a0 a1 a2 a3 a4 a5 (upd a6 i x) a7 a8 a9 a10 f0 f1 f2 f3 f4 f5 f6 f7 f8) H := hP
  have hD : va_D A (wX h0 q cI cZ a0 a1 a2 a3 a4 a5 (upd a6 i x) a7 a8 a9 a10 f0 f1 f2 f3 f4 f5 f6 f7 f8) := hD
  refine lv_aload_n hx hb dX0_advance_7 rfl (lv_at hl 0 rfl) ?_
  refine va_get (D := (dC, dI)) (ci := 0) (v := .ref (q 10)) (C := RX0) (T := TX0) (N := 20) hx hb hts hin hown hK hP 0 rfl rfl 10 (by decide) k41 (fun _ h9 => h9) rfl dX0_advance_8 ?_
  refine lv_iload_n hx hb dX0_advance_11 rfl (lv_at hl 2 rfl) ?_
  refine lv_iload hx hb dX0_advance_12 (lv_at hl 4 rfl) ?_
  refine sq_zast hx hb hK hP hD hS 11 1 rfl rfl (i := i) (by omega) (by decide) hmk dX0_advance_14 (fun H locs hP hD hS => ?_)
  have hP : va_P (dC, dI) vwCl (wX h0 q cI cZ a0 a1 a2 a3 a4 a5 (upd a6 i x) a7 a8 a9 (upd a10 i mk) f0 f1 f2 f3 f4 f5 f6 f7 f8) H := hP
  have hD : va_D A (wX h0 q cI cZ a0 a1 a2 a3 a4 a5 (upd a6 i x) a7 a8 a9 (upd a10 i mk) f0 f1 f2 f3 f4 f5 f6 f7 f8) := hD
  refine lv_iload hx hb dX0_advance_15 (lv_at hl 4 rfl) ?_
  have T2 : ∀ (H : Heap) (locs : List Loc) (ls : Array Slot) (z : Int32), z = (if r = 0 then 0 else a7 (i - 6)) → va_P (dC, dI) vwCl (wX h0 q cI cZ a0 a1 a2 a3 a4 a5 (upd a6 i x) a7 (sq_advF a8 a9 i mk) a9 (upd a10 i mk) f0 f1 f2 f3 f4 f5 f6 f7 f8) H → va_D A (wX h0 q cI cZ a0 a1 a2 a3 a4 a5 (upd a6 i x) a7 (sq_advF a8 a9 i mk) a9 (upd a10 i mk) f0 f1 f2 f3 f4 f5 f6 f7 f8) → va_S A s.heap H locs → lv_has ls 6 [(0, .ref h0), (1, .int (nI r)), (2, .int (nI i)), (3, .int x), (4, .int mk)] → W p l e rm_advance s m args below meth c H locs 0 0 Q (F0 m 49 ls [.int z]) := by
    intro H locs ls z hz hP hD hS hl
    refine lv_istore (lv' := [(5, .int z), (0, .ref h0), (1, .int (nI r)), (2, .int (nI i)), (3, .int x), (4, .int mk)]) hx hb dX0_advance_49 hl (by decide) rfl (fun ls hl => ?_)
    refine lv_aload_n hx hb dX0_advance_51 rfl (lv_at hl 1 rfl) ?_
    refine va_get (D := (dC, dI)) (ci := 0) (v := .ref (q 7)) (C := RX0) (T := TX0) (N := 20) hx hb hts hin hown hK hP 0 rfl rfl 7 (by decide) k32 (fun _ h9 => h9) rfl dX0_advance_52 ?_
    refine lv_iload_n hx hb dX0_advance_55 rfl (lv_at hl 3 rfl) ?_
    refine lv_iload hx hb dX0_advance_56 (lv_at hl 0 rfl) ?_
    refine lv_aload_n hx hb dX0_advance_58 rfl (lv_at hl 1 rfl) ?_
    refine va_get (D := (dC, dI)) (ci := 0) (v := .ref (q 8)) (C := RX0) (T := TX0) (N := 20) hx hb hts hin hown hK hP 0 rfl rfl 8 (by decide) k35 (fun _ h9 => h9) rfl dX0_advance_59 ?_
    refine lv_iload_n hx hb dX0_advance_62 rfl (lv_at hl 3 rfl) ?_
    refine sq_iald hx hb hK hP 9 0 rfl rfl (i := i) (by omega) (by decide) dX0_advance_63 ?_
    refine lv_iload_n hx hb dX0_advance_64 rfl (lv_at hl 4 rfl) ?_
    refine lv_imul hx hb dX0_advance_65 ?_
    refine lv_iadd hx hb dX0_advance_66 ?_
    refine sq_iast hx hb hK hP hD hS 8 0 rfl rfl (i := i) (by omega) (by decide) dX0_advance_67 (fun H locs hP hD hS => ?_)
    have hP : va_P (dC, dI) vwCl (wX h0 q cI cZ a0 a1 a2 a3 a4 a5 (upd a6 i x) (upd a7 i (z + (((sq_advF a8 a9 i mk) i) * x))) (sq_advF a8 a9 i mk) a9 (upd a10 i mk) f0 f1 f2 f3 f4 f5 f6 f7 f8) H := hP
    have hD : va_D A (wX h0 q cI cZ a0 a1 a2 a3 a4 a5 (upd a6 i x) (upd a7 i (z + (((sq_advF a8 a9 i mk) i) * x))) (sq_advF a8 a9 i mk) a9 (upd a10 i mk) f0 f1 f2 f3 f4 f5 f6 f7 f8) := hD
    rw [hz] at hP hD
    exact hend _ _ _ _ hP hD hS dX0_advance_68
  have T1 : ∀ (H : Heap) (locs : List Loc) (ls : Array Slot), va_P (dC, dI) vwCl (wX h0 q cI cZ a0 a1 a2 a3 a4 a5 (upd a6 i x) a7 (sq_advF a8 a9 i mk) a9 (upd a10 i mk) f0 f1 f2 f3 f4 f5 f6 f7 f8) H → va_D A (wX h0 q cI cZ a0 a1 a2 a3 a4 a5 (upd a6 i x) a7 (sq_advF a8 a9 i mk) a9 (upd a10 i mk) f0 f1 f2 f3 f4 f5 f6 f7 f8) → va_S A s.heap H locs → lv_has ls 6 [(0, .ref h0), (1, .int (nI r)), (2, .int (nI i)), (3, .int x), (4, .int mk)] → W p l e rm_advance s m args below meth c H locs 0 0 Q (F0 m 32 ls []) := by
    intro H locs ls hP hD hS hl
    refine lv_iload_n hx hb dX0_advance_32 rfl (lv_at hl 1 rfl) ?_
    refine sq_if_ne (tgt := 40) hx hb (by omega) dX0_advance_33 (by decide) (fun hd => ?_) (fun hd => ?_)
    · refine lv_aload_n hx hb dX0_advance_40 rfl (lv_at hl 0 rfl) ?_
      refine va_get (D := (dC, dI)) (ci := 0) (v := .ref (q 7)) (C := RX0) (T := TX0) (N := 20) hx hb hts hin hown hK hP 0 rfl rfl 7 (by decide) k32 (fun _ h9 => h9) rfl dX0_advance_41 ?_
      refine lv_iload_n hx hb dX0_advance_44 rfl (lv_at hl 2 rfl) ?_
      refine lv_bipush (v := nI 6) hx hb dX0_advance_45 (by decide +kernel) ?_
      refine sq_isub hx hb (by have := b6 hd; omega) dX0_advance_47 ?_
      refine sq_iald hx hb hK hP 8 0 rfl rfl (i := (i - 6)) (by have := b6 hd; omega) (by decide) dX0_advance_48 ?_
      exact T2 H locs ls _ (by rw [if_neg hd]) hP hD hS hl
    · refine lv_iconst (v := nI 0) hx hb dX0_advance_36 (by decide +kernel) ?_
      refine lv_goto (tgt := 49) hx hb dX0_advance_37 (by decide) ?_
      exact T2 H locs ls _ (by rw [if_pos hd]; rfl) hP hD hS hl
  refine lv_if_eq (tgt := 32) hx hb dX0_advance_17 (by decide) (fun hc => ?_) (fun hc => ?_)
  · have e9 : (wX h0 q cI cZ a0 a1 a2 a3 a4 a5 (upd a6 i x) a7 (sq_advF a8 a9 i mk) a9 (upd a10 i mk) f0 f1 f2 f3 f4 f5 f6 f7 f8) = (wX h0 q cI cZ a0 a1 a2 a3 a4 a5 (upd a6 i x) a7 a8 a9 (upd a10 i mk) f0 f1 f2 f3 f4 f5 f6 f7 f8) := by unfold sq_advF; rw [if_pos hc]
    rw [← e9] at hP hD
    exact T1 _ _ ls hP hD hS hl
  · refine lv_aload_n hx hb dX0_advance_20 rfl (lv_at hl 0 rfl) ?_
    refine va_get (D := (dC, dI)) (ci := 0) (v := .ref (q 8)) (C := RX0) (T := TX0) (N := 20) hx hb hts hin hown hK hP 0 rfl rfl 8 (by decide) k35 (fun _ h9 => h9) rfl dX0_advance_21 ?_
    refine lv_iload_n hx hb dX0_advance_24 rfl (lv_at hl 2 rfl) ?_
    refine lv_aload_n hx hb dX0_advance_25 rfl (lv_at hl 0 rfl) ?_
    refine va_get (D := (dC, dI)) (ci := 0) (v := .ref (q 9)) (C := RX0) (T := TX0) (N := 20) hx hb hts hin hown hK hP 0 rfl rfl 9 (by decide) k38 (fun _ h9 => h9) rfl dX0_advance_26 ?_
    refine lv_iload_n hx hb dX0_advance_29 rfl (lv_at hl 2 rfl) ?_
    refine sq_iald hx hb hK hP 10 0 rfl rfl (i := i) (by omega) (by decide) dX0_advance_30 ?_
    refine sq_iast hx hb hK hP hD hS 9 0 rfl rfl (i := i) (by omega) (by decide) dX0_advance_31 (fun H locs hP hD hS => ?_)
    have hP : va_P (dC, dI) vwCl (wX h0 q cI cZ a0 a1 a2 a3 a4 a5 (upd a6 i x) a7 (upd a8 i (a9 i)) a9 (upd a10 i mk) f0 f1 f2 f3 f4 f5 f6 f7 f8) H := hP
    have hD : va_D A (wX h0 q cI cZ a0 a1 a2 a3 a4 a5 (upd a6 i x) a7 (upd a8 i (a9 i)) a9 (upd a10 i mk) f0 f1 f2 f3 f4 f5 f6 f7 f8) := hD
    have e9 : (wX h0 q cI cZ a0 a1 a2 a3 a4 a5 (upd a6 i x) a7 (sq_advF a8 a9 i mk) a9 (upd a10 i mk) f0 f1 f2 f3 f4 f5 f6 f7 f8) = (wX h0 q cI cZ a0 a1 a2 a3 a4 a5 (upd a6 i x) a7 (upd a8 i (a9 i)) a9 (upd a10 i mk) f0 f1 f2 f3 f4 f5 f6 f7 f8) := by unfold sq_advF; rw [if_neg hc]
    rw [← e9] at hP hD
    exact T1 _ _ ls hP hD hS hl
def rm_feed : Room := { frames := 1, cells := 0, slots := 0, locals := 25 }
set_option maxHeartbeats 4000000 in
set_option maxRecDepth 100000 in
theorem c_feed (l : Launch) (dC : Nat → ClassId) (dI : Nat → Nat → Nat) (h0 : Nat) (q : Nat → Nat) (cI cZ : ClassId) (a0 a1 a2 a3 a4 a5 a6 a7 a8 a9 a10 : Nat → Int32) (f0 f1 f2 f3 f4 f5 f6 f7 f8 : Nat) (r : Nat) (br : r < 6) (b6 : f6 ≤ 200) (hok : sq_okA a5 f6) (h01 : sq_01 a3) : sq_Mv l yX0_feed wsX0_feed rm_feed [.ref h0, .int (nI r)] (dC, dI) vwCl [(cI, .int), (cZ, .boolean)] (wX h0 q cI cZ a0 a1 a2 a3 a4 a5 a6 a7 a8 a9 a10 f0 f1 f2 f3 f4 f5 f6 f7 f8) (wX h0 q cI cZ a0 a1 a2 a3 a4 a5 (upd a6 (r * 6) (sq_fedI a5 a1 r)) (sq_advS a7 (sq_advF a8 a9 (r * 6) (sq_fedM a5 a3 r)) r (r * 6) (sq_fedI a5 a1 r)) (sq_advF a8 a9 (r * 6) (sq_fedM a5 a3 r)) a9 (upd a10 (r * 6) (sq_fedM a5 a3 r)) f0 f1 f2 f3 f4 f5 f6 f7 f8) := by
  refine sq_ofWv (cc := cX0_feed) (maxL := 3) (by decide) rfl (Nat.le_of_ble_eq_true rfl) ?_
  intro p e s m args below meth c A ls Q hx hb hts hown hml hK hP hD hS hA hl hend
  have hl : lv_has ls 3 [(0, .ref h0), (1, .int (nI r))] := hl
  have hin : ∀ w ∈ u_ws RX0 TX0 20, w ∈ wsX0_feed := fun w h => List.mem_cons_of_mem _ (inX0 w h)
  have k13 := hts _ (List.mem_cons_of_mem _ mfX0_13)
  have k19 := hts _ (List.mem_cons_of_mem _ mfX0_19)
  have k26 := hts _ (List.mem_cons_of_mem _ mfX0_26)
  refine lv_aload_n hx hb dX0_feed_0 rfl (lv_at hl 0 rfl) ?_
  refine va_get (D := (dC, dI)) (ci := 0) (v := .ref (q 5)) (C := RX0) (T := TX0) (N := 20) hx hb hts hin hown hK hP 0 rfl rfl 5 (by decide) k26 (fun _ h9 => h9) rfl dX0_feed_1 ?_
  refine lv_iload_n hx hb dX0_feed_4 rfl (lv_at hl 1 rfl) ?_
  refine sq_iald hx hb hK hP 6 0 rfl rfl (i := r) (by omega) (by decide) dX0_feed_5 ?_
  refine lv_istore_n (lv' := [(2, .int (a5 r)), (0, .ref h0), (1, .int (nI r))]) hx hb dX0_feed_6 rfl hl (by decide) rfl (fun ls hl => ?_)
  refine lv_iload_n hx hb dX0_feed_7 rfl (lv_at hl 0 rfl) ?_
  refine lv_iconst (v := (-1)) hx hb dX0_feed_8 (by decide +kernel) ?_
  refine lv_icmp_ne (tgt := 26) hx hb dX0_feed_9 (by decide) (fun hc => ?_) (fun hc => ?_)
  · obtain ⟨v, hv, ev⟩ : ∃ v : Nat, v < f6 ∧ a5 r = nI v := (hok r (by omega)).resolve_left hc
    rw [ev] at hl
    have eI : sq_fedI a5 a1 r = a1 (v * 6 + r) := by unfold sq_fedI; rw [if_neg hc, ev, sq_vec_nI (by omega)]
    have eM : sq_fedM a5 a3 r = a3 v := by unfold sq_fedM; rw [if_neg hc, ev, sq_vec_nI (by omega)]
    have hmk : vp_nar .boolean (a3 v) = a3 v := by rcases h01 v with e | e <;> rw [e] <;> decide
    refine lv_aload_n hx hb dX0_feed_26 rfl (lv_at hl 1 rfl) ?_
    refine lv_iload_n hx hb dX0_feed_27 rfl (lv_at hl 2 rfl) ?_
    refine lv_iload_n hx hb dX0_feed_28 rfl (lv_at hl 2 rfl) ?_
    refine lv_bipush (v := nI 6) hx hb dX0_feed_29 (by decide +kernel) ?_
    refine sq_imul hx hb dX0_feed_31 ?_
    refine lv_aload_n hx hb dX0_feed_32 rfl (lv_at hl 1 rfl) ?_
    refine va_get (D := (dC, dI)) (ci := 0) (v := .ref (q 1)) (C := RX0) (T := TX0) (N := 20) hx hb hts hin hown hK hP 0 rfl rfl 1 (by decide) k13 (fun _ h9 => h9) rfl dX0_feed_33 ?_
    refine lv_iload_n hx hb dX0_feed_36 rfl (lv_at hl 0 rfl) ?_
    refine lv_bipush (v := nI 6) hx hb dX0_feed_37 (by decide +kernel) ?_
    refine sq_imul hx hb dX0_feed_39 ?_
    refine lv_iload_n hx hb dX0_feed_40 rfl (lv_at hl 2 rfl) ?_
    refine sq_iadd hx hb dX0_feed_41 ?_
    refine sq_iald hx hb hK hP 2 0 rfl rfl (i := ((v * 6) + r)) (by omega) (by decide) dX0_feed_42 ?_
    refine lv_aload_n hx hb dX0_feed_43 rfl (lv_at hl 1 rfl) ?_
    refine va_get (D := (dC, dI)) (ci := 0) (v := .ref (q 3)) (C := RX0) (T := TX0) (N := 20) hx hb hts hin hown hK hP 0 rfl rfl 3 (by decide) k19 (fun _ h9 => h9) rfl dX0_feed_44 ?_
    refine lv_iload_n hx hb dX0_feed_47 rfl (lv_at hl 0 rfl) ?_
    refine sq_zald hx hb hK hP 4 1 rfl rfl (i := v) (by omega) (by decide) dX0_feed_48 ?_
    refine sq_callv (As := [.int (nI r), .int (nI (r * 6)), .int (a1 ((v * 6) + r)), .int (a3 v)]) (c_advance l dC dI h0 q cI cZ a0 a1 a2 a3 a4 a5 a6 a7 a8 a9 a10 f0 f1 f2 f3 f4 f5 f6 f7 f8 r (r * 6) (a1 (v * 6 + r)) (a3 v) (by omega) (by omega) (by omega) hmk) ⟨hx, hb, hml, hown, hts⟩ (cwV 4 hts (sq_good gvX0_162) rfl rfl rfl (by decide +kernel) ⟨Nat.le_of_ble_eq_true rfl, Nat.le_of_ble_eq_true rfl⟩) hK hP hD hS hA rfl rfl rfl rfl hl.1 rfl (Nat.le_of_ble_eq_true rfl) dX0_feed_49 ⟨Nat.zero_le _, Nat.zero_le _⟩ (fun H locs hP hD hS => ?_)
    have e9 : (wX h0 q cI cZ a0 a1 a2 a3 a4 a5 (upd a6 (r * 6) (sq_fedI a5 a1 r)) (sq_advS a7 (sq_advF a8 a9 (r * 6) (sq_fedM a5 a3 r)) r (r * 6) (sq_fedI a5 a1 r)) (sq_advF a8 a9 (r * 6) (sq_fedM a5 a3 r)) a9 (upd a10 (r * 6) (sq_fedM a5 a3 r)) f0 f1 f2 f3 f4 f5 f6 f7 f8) = (wX h0 q cI cZ a0 a1 a2 a3 a4 a5 (upd a6 (r * 6) (a1 (v * 6 + r))) (sq_advS a7 (sq_advF a8 a9 (r * 6) (a3 v)) r (r * 6) (a1 (v * 6 + r))) (sq_advF a8 a9 (r * 6) (a3 v)) a9 (upd a10 (r * 6) (a3 v)) f0 f1 f2 f3 f4 f5 f6 f7 f8) := by rw [eI, eM]
    rw [← e9] at hP hD
    exact hend _ _ _ _ hP hD hS dX0_feed_52
  · have eI : sq_fedI a5 a1 r = nI 0 := by unfold sq_fedI; rw [if_pos hc]; rfl
    have eM : sq_fedM a5 a3 r = nI 0 := by unfold sq_fedM; rw [if_pos hc]; rfl
    refine lv_aload_n hx hb dX0_feed_12 rfl (lv_at hl 1 rfl) ?_
    refine lv_iload_n hx hb dX0_feed_13 rfl (lv_at hl 2 rfl) ?_
    refine lv_iload_n hx hb dX0_feed_14 rfl (lv_at hl 2 rfl) ?_
    refine lv_bipush (v := nI 6) hx hb dX0_feed_15 (by decide +kernel) ?_
    refine sq_imul hx hb dX0_feed_17 ?_
    refine lv_iconst (v := nI 0) hx hb dX0_feed_18 (by decide +kernel) ?_
    refine lv_iconst (v := nI 0) hx hb dX0_feed_19 (by decide +kernel) ?_
    refine sq_callv (As := [.int (nI r), .int (nI (r * 6)), .int (nI 0), .int (nI 0)]) (c_advance l dC dI h0 q cI cZ a0 a1 a2 a3 a4 a5 a6 a7 a8 a9 a10 f0 f1 f2 f3 f4 f5 f6 f7 f8 r (r * 6) (nI 0) (nI 0) (by omega) (by omega) (by omega) (by decide)) ⟨hx, hb, hml, hown, hts⟩ (cwV 4 hts (sq_good gvX0_162) rfl rfl rfl (by decide +kernel) ⟨Nat.le_of_ble_eq_true rfl, Nat.le_of_ble_eq_true rfl⟩) hK hP hD hS hA rfl rfl rfl rfl hl.1 rfl (Nat.le_of_ble_eq_true rfl) dX0_feed_20 ⟨Nat.zero_le _, Nat.zero_le _⟩ (fun H locs hP hD hS => ?_)
    refine lv_goto (tgt := 52) hx hb dX0_feed_23 (by decide) ?_
    have e9 : (wX h0 q cI cZ a0 a1 a2 a3 a4 a5 (upd a6 (r * 6) (sq_fedI a5 a1 r)) (sq_advS a7 (sq_advF a8 a9 (r * 6) (sq_fedM a5 a3 r)) r (r * 6) (sq_fedI a5 a1 r)) (sq_advF a8 a9 (r * 6) (sq_fedM a5 a3 r)) a9 (upd a10 (r * 6) (sq_fedM a5 a3 r)) f0 f1 f2 f3 f4 f5 f6 f7 f8) = (wX h0 q cI cZ a0 a1 a2 a3 a4 a5 (upd a6 (r * 6) (nI 0)) (sq_advS a7 (sq_advF a8 a9 (r * 6) (nI 0)) r (r * 6) (nI 0)) (sq_advF a8 a9 (r * 6) (nI 0)) a9 (upd a10 (r * 6) (nI 0)) f0 f1 f2 f3 f4 f5 f6 f7 f8) := by rw [eI, eM]
    rw [← e9] at hP hD
    exact hend _ _ _ _ hP hD hS dX0_feed_52
