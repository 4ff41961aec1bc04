/-- the cells of the object: it, and its arrays -/
def wX (h0 : Nat) (q : Nat → Nat) (cI cZ : ClassId) (a0 a1 a2 a3 a4 a5 a6 a7 a8 a9 a10 : Nat → Int32) (f0 f1 f2 f3 f4 f5 f6 f7 f8 : Nat) : va_W :=
  [(h0, .inr (0, [.ref (q 0), .ref (q 1), .ref (q 2), .ref (q 3), .ref (q 4), .ref (q 5), .ref (q 6), .ref (q 7), .ref (q 8), .ref (q 9), .ref (q 10), .int (nI f0), .int (nI f1), .int (nI f2), .int (nI f3), .int (nI f4), .int (nI f5), .int (nI f6), .int (nI f7), .int (nI f8)])), (q 0, .inl (cI, 720, .inl a0)), (q 1, .inl (cI, 1200, .inl a1)), (q 2, .inl (cI, 1200, .inl a2)), (q 3, .inl (cZ, 200, .inl a3)), (q 4, .inl (cI, 200, .inl a4)), (q 5, .inl (cI, 11, .inl a5)), (q 6, .inl (cI, 36, .inl a6)), (q 7, .inl (cI, 36, .inl a7)), (q 8, .inl (cI, 36, .inl a8)), (q 9, .inl (cI, 36, .inl a9)), (q 10, .inl (cZ, 36, .inl a10))]
def rm_isInSquare : Room := { frames := 0, cells := 0, slots := 0, locals := 0 }
set_option maxHeartbeats 4000000 in
set_option maxRecDepth 100000 in
theorem c_isInSquare (l : Launch) (dC : Nat → ClassId) (dI : Nat → Nat → Nat) (h0 : Nat) (q : Nat → Nat) (cI cZ : ClassId) (a0 a1 a2 a3 a4 a5 a6 a7 a8 a9 a10 : Nat → Int32) (f0 f1 f2 f3 f4 f5 f6 f7 f8 : Nat) (p0 : Int32)  : sq_Mi l yX0_isInSquare wsX0_isInSquare rm_isInSquare [.ref h0, .int p0] (dC, dI) vwCl [(cI, .int), (cZ, .boolean)] (wX h0 q cI cZ a0 a1 a2 a3 a4 a5 a6 a7 a8 a9 a10 f0 f1 f2 f3 f4 f5 f6 f7 f8) (wX h0 q cI cZ a0 a1 a2 a3 a4 a5 a6 a7 a8 a9 a10 f0 f1 f2 f3 f4 f5 f6 f7 f8) (sq_b (decide (¬ p0 < 0 ∧ ¬ nI f0 ≤ p0))) := by
  refine sq_ofWi (cc := cX0_isInSquare) (maxL := 2) (by decide) rfl (Nat.le_of_ble_eq_true rfl) (sq_b_narrow _) ?_
  intro p e s m args below meth c A ls Q hx hb hts hown hml hK hP hD hS hA hl hend
  have hl : lv_has ls 2 [(0, .ref h0), (1, .int p0)] := hl
  have hin : ∀ w ∈ u_ws RX0 TX0 20, w ∈ wsX0_isInSquare := fun w h => List.mem_cons_of_mem _ (inX0 w h)
  have k124 := hts _ (List.mem_cons_of_mem _ mfX0_124)
  refine lv_iload_n hx hb dX0_isInSquare_0 rfl (lv_at hl 1 rfl) ?_
  refine lv_if_lt (tgt := 16) hx hb dX0_isInSquare_1 (by decide) (fun hc => ?_) (fun hc => ?_)
  · refine lv_iconst (v := nI 0) hx hb dX0_isInSquare_16 (by decide +kernel) ?_
    exact hend _ _ _ _ _ (sq_bF (fun h => h.1 hc)) hP hD hS dX0_isInSquare_17
  · refine lv_iload_n hx hb dX0_isInSquare_4 rfl (lv_at hl 1 rfl) ?_
    refine lv_aload_n hx hb dX0_isInSquare_5 rfl (lv_at hl 0 rfl) ?_
    refine va_get (D := (dC, dI)) (ci := 0) (v := .int (nI f0)) (C := RX0) (T := TX0) (N := 20) hx hb hts hin hown hK hP 0 rfl rfl 11 (by decide) k124 (fun _ h9 => h9) rfl dX0_isInSquare_6 ?_
    refine lv_icmp_ge (tgt := 16) hx hb dX0_isInSquare_9 (by decide) (fun hd => ?_) (fun hd => ?_)
    · refine lv_iconst (v := nI 0) hx hb dX0_isInSquare_16 (by decide +kernel) ?_
      exact hend _ _ _ _ _ (sq_bF (fun h => h.2 hd)) hP hD hS dX0_isInSquare_17
    · refine lv_iconst (v := nI 1) hx hb dX0_isInSquare_12 (by decide +kernel) ?_
      refine lv_goto (tgt := 17) hx hb dX0_isInSquare_13 (by decide) ?_
      exact hend _ _ _ _ _ (sq_bT ⟨hc, hd⟩) hP hD hS dX0_isInSquare_17
def rm_isVector : Room := { frames := 0, cells := 0, slots := 0, locals := 0 }
set_option maxHeartbeats 4000000 in
set_option maxRecDepth 100000 in
theorem c_isVector (l : Launch) (dC : Nat → ClassId) (dI : Nat → Nat → Nat) (h0 : Nat) (q : Nat → Nat) (cI cZ : ClassId) (a0 a1 a2 a3 a4 a5 a6 a7 a8 a9 a10 : Nat → Int32) (f0 f1 f2 f3 f4 f5 f6 f7 f8 : Nat) (p0 : Int32)  : sq_Mi l yX0_isVector wsX0_isVector rm_isVector [.ref h0, .int p0] (dC, dI) vwCl [(cI, .int), (cZ, .boolean)] (wX h0 q cI cZ a0 a1 a2 a3 a4 a5 a6 a7 a8 a9 a10 f0 f1 f2 f3 f4 f5 f6 f7 f8) (wX h0 q cI cZ a0 a1 a2 a3 a4 a5 a6 a7 a8 a9 a10 f0 f1 f2 f3 f4 f5 f6 f7 f8) (sq_b (decide (¬ p0 < 0 ∧ ¬ nI f5 ≤ p0))) := by
  refine sq_ofWi (cc := cX0_isVector) (maxL := 2) (by decide) rfl (Nat.le_of_ble_eq_true rfl) (sq_b_narrow _) ?_
  intro p e s m args below meth c A ls Q hx hb hts hown hml hK hP hD hS hA hl hend
  have hl : lv_has ls 2 [(0, .ref h0), (1, .int p0)] := hl
  have hin : ∀ w ∈ u_ws RX0 TX0 20, w ∈ wsX0_isVector := fun w h => List.mem_cons_of_mem _ (inX0 w h)
  have k64 := hts _ (List.mem_cons_of_mem _ mfX0_64)
  refine lv_iload_n hx hb dX0_isVector_0 rfl (lv_at hl 1 rfl) ?_
  refine lv_if_lt (tgt := 16) hx hb dX0_isVector_1 (by decide) (fun hc => ?_) (fun hc => ?_)
  · refine lv_iconst (v := nI 0) hx hb dX0_isVector_16 (by decide +kernel) ?_
    exact hend _ _ _ _ _ (sq_bF (fun h => h.1 hc)) hP hD hS dX0_isVector_17
  · refine lv_iload_n hx hb dX0_isVector_4 rfl (lv_at hl 1 rfl) ?_
    refine lv_aload_n hx hb dX0_isVector_5 rfl (lv_at hl 0 rfl) ?_
    refine va_get (D := (dC, dI)) (ci := 0) (v := .int (nI f5)) (C := RX0) (T := TX0) (N := 20) hx hb hts hin hown hK hP 0 rfl rfl 16 (by decide) k64 (fun _ h9 => h9) rfl dX0_isVector_6 ?_
    refine lv_icmp_ge (tgt := 16) hx hb dX0_isVector_9 (by decide) (fun hd => ?_) (fun hd => ?_)
    · refine lv_iconst (v := nI 0) hx hb dX0_isVector_16 (by decide +kernel) ?_
      exact hend _ _ _ _ _ (sq_bF (fun h => h.2 hd)) hP hD hS dX0_isVector_17
    · refine lv_iconst (v := nI 1) hx hb dX0_isVector_12 (by decide +kernel) ?_
      refine lv_goto (tgt := 17) hx hb dX0_isVector_13 (by decide) ?_
      exact hend _ _ _ _ _ (sq_bT ⟨hc, hd⟩) hP hD hS dX0_isVector_17
def rm_crossing : Room := { frames := 0, cells := 0, slots := 0, locals := 0 }
set_option maxHeartbeats 4000000 in
set_option maxRecDepth 100000 in
theorem c_crossing (l : Launch) (dC : Nat → ClassId) (dI : Nat → Nat → Nat) (h0 : Nat) (q : Nat → Nat) (cI cZ : ClassId) (a0 a1 a2 a3 a4 a5 a6 a7 a8 a9 a10 : Nat → Int32) (f0 f1 f2 f3 f4 f5 f6 f7 f8 : Nat)  (hn : 1 ≤ f0) : sq_Mi l yX0_crossing wsX0_crossing rm_crossing [.ref h0] (dC, dI) vwCl [(cI, .int), (cZ, .boolean)] (wX h0 q cI cZ a0 a1 a2 a3 a4 a5 a6 a7 a8 a9 a10 f0 f1 f2 f3 f4 f5 f6 f7 f8) (wX h0 q cI cZ a0 a1 a2 a3 a4 a5 a6 a7 a8 a9 a10 f0 f1 f2 f3 f4 f5 f6 f7 f8) (nI (2 * f0 - 2)) := by
  refine sq_ofWi (cc := cX0_crossing) (maxL := 1) (by decide) rfl (Nat.le_of_ble_eq_true rfl) (vp_nar_int _) ?_
  intro p e s m args below meth c A ls Q hx hb hts hown hml hK hP hD hS hA hl hend
  have hl : lv_has ls 1 [(0, .ref h0)] := hl
  have hin : ∀ w ∈ u_ws RX0 TX0 20, w ∈ wsX0_crossing := fun w h => List.mem_cons_of_mem _ (inX0 w h)
  have k124 := hts _ (List.mem_cons_of_mem _ mfX0_124)
  refine lv_iconst (v := nI 2) hx hb dX0_crossing_0 (by decide +kernel) ?_
  refine lv_aload_n hx hb dX0_crossing_1 rfl (lv_at hl 0 rfl) ?_
  refine va_get (D := (dC, dI)) (ci := 0) (v := .int (nI f0)) (C := RX0) (T := TX0) (N := 20) hx hb hts hin hown hK hP 0 rfl rfl 11 (by decide) k124 (fun _ h9 => h9) rfl dX0_crossing_2 ?_
  refine sq_imul hx hb dX0_crossing_5 ?_
  refine lv_iconst (v := nI 2) hx hb dX0_crossing_6 (by decide +kernel) ?_
  refine sq_isub hx hb (by omega) dX0_crossing_7 ?_
  exact hend _ _ _ _ _ rfl hP hD hS dX0_crossing_8
def rm_isSetComplete : Room := { frames := 0, cells := 0, slots := 0, locals := 0 }
set_option maxHeartbeats 4000000 in
set_option maxRecDepth 100000 in
theorem c_isSetComplete (l : Launch) (dC : Nat → ClassId) (dI : Nat → Nat → Nat) (h0 : Nat) (q : Nat → Nat) (cI cZ : ClassId) (a0 a1 a2 a3 a4 a5 a6 a7 a8 a9 a10 : Nat → Int32) (f0 f1 f2 f3 f4 f5 f6 f7 f8 : Nat)  (b4 : f4 < 2 ^ 31) (b0 : f0 < 2 ^ 31) : sq_Mi l yX0_isSetComplete wsX0_isSetComplete rm_isSetComplete [.ref h0] (dC, dI) vwCl [(cI, .int), (cZ, .boolean)] (wX h0 q cI cZ a0 a1 a2 a3 a4 a5 a6 a7 a8 a9 a10 f0 f1 f2 f3 f4 f5 f6 f7 f8) (wX h0 q cI cZ a0 a1 a2 a3 a4 a5 a6 a7 a8 a9 a10 f0 f1 f2 f3 f4 f5 f6 f7 f8) (sq_b (decide (f4 = f0))) := by
  refine sq_ofWi (cc := cX0_isSetComplete) (maxL := 1) (by decide) rfl (Nat.le_of_ble_eq_true rfl) (sq_b_narrow _) ?_
  intro p e s m args below meth c A ls Q hx hb hts hown hml hK hP hD hS hA hl hend
  have hl : lv_has ls 1 [(0, .ref h0)] := hl
  have hin : ∀ w ∈ u_ws RX0 TX0 20, w ∈ wsX0_isSetComplete := fun w h => List.mem_cons_of_mem _ (inX0 w h)
  have k124 := hts _ (List.mem_cons_of_mem _ mfX0_124)
  have k129 := hts _ (List.mem_cons_of_mem _ mfX0_129)
  refine lv_aload_n hx hb dX0_isSetComplete_0 rfl (lv_at hl 0 rfl) ?_
  refine va_get (D := (dC, dI)) (ci := 0) (v := .int (nI f4)) (C := RX0) (T := TX0) (N := 20) hx hb hts hin hown hK hP 0 rfl rfl 15 (by decide) k129 (fun _ h9 => h9) rfl dX0_isSetComplete_1 ?_
  refine lv_aload_n hx hb dX0_isSetComplete_4 rfl (lv_at hl 0 rfl) ?_
  refine va_get (D := (dC, dI)) (ci := 0) (v := .int (nI f0)) (C := RX0) (T := TX0) (N := 20) hx hb hts hin hown hK hP 0 rfl rfl 11 (by decide) k124 (fun _ h9 => h9) rfl dX0_isSetComplete_5 ?_
  refine sq_icmp_ne (tgt := 15) hx hb (by omega) (by omega) dX0_isSetComplete_8 (by decide) (fun hc => ?_) (fun hc => ?_)
  · refine lv_iconst (v := nI 0) hx hb dX0_isSetComplete_15 (by decide +kernel) ?_
    exact hend _ _ _ _ _ (sq_bF hc) hP hD hS dX0_isSetComplete_16
  · refine lv_iconst (v := nI 1) hx hb dX0_isSetComplete_11 (by decide +kernel) ?_
    refine lv_goto (tgt := 16) hx hb dX0_isSetComplete_12 (by decide) ?_
    exact hend _ _ _ _ _ (sq_bT hc) hP hD hS dX0_isSetComplete_16
def rm_canVectorEnter : Room := { frames := 1, cells := 0, slots := 0, locals := 20 }
set_option maxHeartbeats 4000000 in
set_option maxRecDepth 100000 in
theorem c_canVectorEnter (l : Launch) (dC : Nat → ClassId) (dI : Nat → Nat → Nat) (h0 : Nat) (q : Nat → Nat) (cI cZ : ClassId) (a0 a1 a2 a3 a4 a5 a6 a7 a8 a9 a10 : Nat → Int32) (f0 f1 f2 f3 f4 f5 f6 f7 f8 : Nat)  (b4 : f4 < 2 ^ 31) (b0 : f0 < 2 ^ 31) (b5 : f5 ≤ 200) (b6 : f6 < 2 ^ 31) : sq_Mi l yX0_canVectorEnter wsX0_canVectorEnter rm_canVectorEnter [.ref h0] (dC, dI) vwCl [(cI, .int), (cZ, .boolean)] (wX h0 q cI cZ a0 a1 a2 a3 a4 a5 a6 a7 a8 a9 a10 f0 f1 f2 f3 f4 f5 f6 f7 f8) (wX h0 q cI cZ a0 a1 a2 a3 a4 a5 a6 a7 a8 a9 a10 f0 f1 f2 f3 f4 f5 f6 f7 f8) (sq_b (decide (f6 < f5 ∧ (a3 f6 = 0 ∨ f4 = f0)))) := by
  refine sq_ofWi (cc := cX0_canVectorEnter) (maxL := 1) (by decide) rfl (Nat.le_of_ble_eq_true rfl) (sq_b_narrow _) ?_
  intro p e s m args below meth c A ls Q hx hb hts hown hml hK hP hD hS hA hl hend
  have hl : lv_has ls 1 [(0, .ref h0)] := hl
  have hin : ∀ w ∈ u_ws RX0 TX0 20, w ∈ wsX0_canVectorEnter := fun w h => List.mem_cons_of_mem _ (inX0 w h)
  have k19 := hts _ (List.mem_cons_of_mem _ mfX0_19)
  have k64 := hts _ (List.mem_cons_of_mem _ mfX0_64)
  have k98 := hts _ (List.mem_cons_of_mem _ mfX0_98)
  refine lv_aload_n hx hb dX0_canVectorEnter_0 rfl (lv_at hl 0 rfl) ?_
  refine va_get (D := (dC, dI)) (ci := 0) (v := .int (nI f6)) (C := RX0) (T := TX0) (N := 20) hx hb hts hin hown hK hP 0 rfl rfl 17 (by decide) k98 (fun _ h9 => h9) rfl dX0_canVectorEnter_1 ?_
  refine lv_aload_n hx hb dX0_canVectorEnter_4 rfl (lv_at hl 0 rfl) ?_
  refine va_get (D := (dC, dI)) (ci := 0) (v := .int (nI f5)) (C := RX0) (T := TX0) (N := 20) hx hb hts hin hown hK hP 0 rfl rfl 16 (by decide) k64 (fun _ h9 => h9) rfl dX0_canVectorEnter_5 ?_
  refine sq_icmp_ge (tgt := 34) hx hb (by omega) (by omega) dX0_canVectorEnter_8 (by decide) (fun hc => ?_) (fun hc => ?_)
  · refine lv_iconst (v := nI 0) hx hb dX0_canVectorEnter_34 (by decide +kernel) ?_
    exact hend _ _ _ _ _ (sq_bF (fun h => absurd h.1 (by omega))) hP hD hS dX0_canVectorEnter_35
  · refine lv_aload_n hx hb dX0_canVectorEnter_11 rfl (lv_at hl 0 rfl) ?_
    refine va_get (D := (dC, dI)) (ci := 0) (v := .ref (q 3)) (C := RX0) (T := TX0) (N := 20) hx hb hts hin hown hK hP 0 rfl rfl 3 (by decide) k19 (fun _ h9 => h9) rfl dX0_canVectorEnter_12 ?_
    refine lv_aload_n hx hb dX0_canVectorEnter_15 rfl (lv_at hl 0 rfl) ?_
    refine va_get (D := (dC, dI)) (ci := 0) (v := .int (nI f6)) (C := RX0) (T := TX0) (N := 20) hx hb hts hin hown hK hP 0 rfl rfl 17 (by decide) k98 (fun _ h9 => h9) rfl dX0_canVectorEnter_16 ?_
    refine sq_zald hx hb hK hP 4 1 rfl rfl (i := f6) (by omega) (by decide) dX0_canVectorEnter_19 ?_
    refine lv_if_eq (tgt := 30) hx hb dX0_canVectorEnter_20 (by decide) (fun hd => ?_) (fun hd => ?_)
    · refine lv_iconst (v := nI 1) hx hb dX0_canVectorEnter_30 (by decide +kernel) ?_
      refine lv_goto (tgt := 35) hx hb dX0_canVectorEnter_31 (by decide) ?_
      exact hend _ _ _ _ _ (sq_bT ⟨hc, Or.inl hd⟩) hP hD hS dX0_canVectorEnter_35
    · refine lv_aload_n hx hb dX0_canVectorEnter_23 rfl (lv_at hl 0 rfl) ?_
      refine sq_calli (As := []) (c_isSetComplete l dC dI h0 q cI cZ a0 a1 a2 a3 a4 a5 a6 a7 a8 a9 a10 f0 f1 f2 f3 f4 f5 f6 f7 f8 b4 b0) ⟨hx, hb, hml, hown, hts⟩ (cwV 0 hts (sq_good gvX0_118) rfl rfl rfl (by decide +kernel) ⟨Nat.le_of_ble_eq_true rfl, Nat.le_of_ble_eq_true rfl⟩) hK hP hD hS hA rfl rfl rfl rfl hl.1 rfl (Nat.le_of_ble_eq_true rfl) dX0_canVectorEnter_24 ⟨Nat.zero_le _, Nat.zero_le _⟩ (fun H locs hP hD hS => ?_)
      refine lv_if_eq (tgt := 34) hx hb dX0_canVectorEnter_27 (by decide) (fun he => ?_) (fun he => ?_)
      · refine lv_iconst (v := nI 0) hx hb dX0_canVectorEnter_34 (by decide +kernel) ?_
        exact hend _ _ _ _ _ (sq_bF (fun h => h.2.elim hd (sq_b0d he))) hP hD hS dX0_canVectorEnter_35
      · refine lv_iconst (v := nI 1) hx hb dX0_canVectorEnter_30 (by decide +kernel) ?_
        refine lv_goto (tgt := 35) hx hb dX0_canVectorEnter_31 (by decide) ?_
        exact hend _ _ _ _ _ (sq_bT ⟨hc, Or.inr (sq_bnd he)⟩) hP hD hS dX0_canVectorEnter_35
def rm_canRowComeIn : Room := { frames := 1, cells := 0, slots := 0, locals := 20 }
set_option maxHeartbeats 4000000 in
set_option maxRecDepth 100000 in
theorem c_canRowComeIn (l : Launch) (dC : Nat → ClassId) (dI : Nat → Nat → Nat) (h0 : Nat) (q : Nat → Nat) (cI cZ : ClassId) (a0 a1 a2 a3 a4 a5 a6 a7 a8 a9 a10 : Nat → Int32) (f0 f1 f2 f3 f4 f5 f6 f7 f8 : Nat) (c0 : Nat) (b0 : 1 ≤ f0) (b1 : f0 ≤ 6) (b2 : f2 < 2 ^ 31) (b3 : f3 < 2 ^ 31) (b4 : f4 < 2 ^ 31) (b7 : f7 < 2 ^ 31) (b8 : f8 ≤ c0) (b9 : c0 < 2 ^ 31) : sq_Mi l yX0_canRowComeIn wsX0_canRowComeIn rm_canRowComeIn [.ref h0, .int (nI c0)] (dC, dI) vwCl [(cI, .int), (cZ, .boolean)] (wX h0 q cI cZ a0 a1 a2 a3 a4 a5 a6 a7 a8 a9 a10 f0 f1 f2 f3 f4 f5 f6 f7 f8) (wX h0 q cI cZ a0 a1 a2 a3 a4 a5 a6 a7 a8 a9 a10 f0 f1 f2 f3 f4 f5 f6 f7 f8) (sq_b (decide (f3 < f2 ∧ ¬ f4 = f0 ∧ (f7 = 0 ∨ 2 * f0 - 2 < c0 - f8)))) := by
  refine sq_ofWi (cc := cX0_canRowComeIn) (maxL := 2) (by decide) rfl (Nat.le_of_ble_eq_true rfl) (sq_b_narrow _) ?_
  intro p e s m args below meth c A ls Q hx hb hts hown hml hK hP hD hS hA hl hend
  have hl : lv_has ls 2 [(0, .ref h0), (1, .int (nI c0))] := hl
  have hin : ∀ w ∈ u_ws RX0 TX0 20, w ∈ wsX0_canRowComeIn := fun w h => List.mem_cons_of_mem _ (inX0 w h)
  have k55 := hts _ (List.mem_cons_of_mem _ mfX0_55)
  have k112 := hts _ (List.mem_cons_of_mem _ mfX0_112)
  have k115 := hts _ (List.mem_cons_of_mem _ mfX0_115)
  have k132 := hts _ (List.mem_cons_of_mem _ mfX0_132)
  refine lv_aload_n hx hb dX0_canRowComeIn_0 rfl (lv_at hl 0 rfl) ?_
  refine va_get (D := (dC, dI)) (ci := 0) (v := .int (nI f3)) (C := RX0) (T := TX0) (N := 20) hx hb hts hin hown hK hP 0 rfl rfl 14 (by decide) k112 (fun _ h9 => h9) rfl dX0_canRowComeIn_1 ?_
  refine lv_aload_n hx hb dX0_canRowComeIn_4 rfl (lv_at hl 0 rfl) ?_
  refine va_get (D := (dC, dI)) (ci := 0) (v := .int (nI f2)) (C := RX0) (T := TX0) (N := 20) hx hb hts hin hown hK hP 0 rfl rfl 13 (by decide) k55 (fun _ h9 => h9) rfl dX0_canRowComeIn_5 ?_
  refine sq_icmp_ge (tgt := 42) hx hb (by omega) (by omega) dX0_canRowComeIn_8 (by decide) (fun hc => ?_) (fun hc => ?_)
  · refine lv_iconst (v := nI 0) hx hb dX0_canRowComeIn_42 (by decide +kernel) ?_
    exact hend _ _ _ _ _ (sq_bF (fun h => absurd h.1 (by omega))) hP hD hS dX0_canRowComeIn_43
  · refine lv_aload_n hx hb dX0_canRowComeIn_11 rfl (lv_at hl 0 rfl) ?_
    refine sq_calli (As := []) (c_isSetComplete l dC dI h0 q cI cZ a0 a1 a2 a3 a4 a5 a6 a7 a8 a9 a10 f0 f1 f2 f3 f4 f5 f6 f7 f8 b4 (by omega)) ⟨hx, hb, hml, hown, hts⟩ (cwV 0 hts (sq_good gvX0_118) rfl rfl rfl (by decide +kernel) ⟨Nat.le_of_ble_eq_true rfl, Nat.le_of_ble_eq_true rfl⟩) hK hP hD hS hA rfl rfl rfl rfl hl.1 rfl (Nat.le_of_ble_eq_true rfl) dX0_canRowComeIn_12 ⟨Nat.zero_le _, Nat.zero_le _⟩ (fun H locs hP hD hS => ?_)
    refine lv_if_ne (tgt := 42) hx hb dX0_canRowComeIn_15 (by decide) (fun hd => ?_) (fun hd => ?_)
    · refine lv_iconst (v := nI 0) hx hb dX0_canRowComeIn_42 (by decide +kernel) ?_
      exact hend _ _ _ _ _ (sq_bF (fun h => h.2.1 (sq_bnd hd))) hP hD hS dX0_canRowComeIn_43
    · refine lv_aload_n hx hb dX0_canRowComeIn_18 rfl (lv_at hl 0 rfl) ?_
      refine va_get (D := (dC, dI)) (ci := 0) (v := .int (nI f7)) (C := RX0) (T := TX0) (N := 20) hx hb hts hin hown hK hP 0 rfl rfl 18 (by decide) k115 (fun _ h9 => h9) rfl dX0_canRowComeIn_19 ?_
      refine sq_if_eq (tgt := 38) hx hb (by omega) dX0_canRowComeIn_22 (by decide) (fun he => ?_) (fun he => ?_)
      · refine lv_iconst (v := nI 1) hx hb dX0_canRowComeIn_38 (by decide +kernel) ?_
        refine lv_goto (tgt := 43) hx hb dX0_canRowComeIn_39 (by decide) ?_
        exact hend _ _ _ _ _ (sq_bT ⟨hc, sq_b0d hd, Or.inl he⟩) hP hD hS dX0_canRowComeIn_43
      · refine lv_iload_n hx hb dX0_canRowComeIn_25 rfl (lv_at hl 1 rfl) ?_
        refine lv_aload_n hx hb dX0_canRowComeIn_26 rfl (lv_at hl 0 rfl) ?_
        refine va_get (D := (dC, dI)) (ci := 0) (v := .int (nI f8)) (C := RX0) (T := TX0) (N := 20) hx hb hts hin hown hK hP 0 rfl rfl 19 (by decide) k132 (fun _ h9 => h9) rfl dX0_canRowComeIn_27 ?_
        refine sq_isub hx hb (by omega) dX0_canRowComeIn_30 ?_
        refine lv_aload_n hx hb dX0_canRowComeIn_31 rfl (lv_at hl 0 rfl) ?_
        refine sq_calli (As := []) (c_crossing l dC dI h0 q cI cZ a0 a1 a2 a3 a4 a5 a6 a7 a8 a9 a10 f0 f1 f2 f3 f4 f5 f6 f7 f8 b0) ⟨hx, hb, hml, hown, hts⟩ (cwV 0 hts (sq_good gvX0_103) rfl rfl rfl (by decide +kernel) ⟨Nat.le_of_ble_eq_true rfl, Nat.le_of_ble_eq_true rfl⟩) hK hP hD hS hA rfl rfl rfl rfl hl.1 rfl (Nat.le_of_ble_eq_true rfl) dX0_canRowComeIn_32 ⟨Nat.zero_le _, Nat.zero_le _⟩ (fun H locs hP hD hS => ?_)
        refine sq_icmp_le (tgt := 42) hx hb (by omega) (by omega) dX0_canRowComeIn_35 (by decide) (fun hf => ?_) (fun hf => ?_)
        · refine lv_iconst (v := nI 0) hx hb dX0_canRowComeIn_42 (by decide +kernel) ?_
          exact hend _ _ _ _ _ (sq_bF (fun h => h.2.2.elim he (fun h => absurd h (by omega)))) hP hD hS dX0_canRowComeIn_43
        · refine lv_iconst (v := nI 1) hx hb dX0_canRowComeIn_38 (by decide +kernel) ?_
          refine lv_goto (tgt := 43) hx hb dX0_canRowComeIn_39 (by decide) ?_
          exact hend _ _ _ _ _ (sq_bT ⟨hc, sq_b0d hd, Or.inr hf⟩) hP hD hS dX0_canRowComeIn_43
def rm_countReachedCells : Room := { frames := 0, cells := 0, slots := 0, locals := 0 }
set_option maxHeartbeats 4000000 in
set_option maxRecDepth 100000 in
theorem c_countReachedCells (l : Launch) (dC : Nat → ClassId) (dI : Nat → Nat → Nat) (h0 : Nat) (q : Nat → Nat) (cI cZ : ClassId) (a0 a1 a2 a3 a4 a5 a6 a7 a8 a9 a10 : Nat → Int32) (f0 f1 f2 f3 f4 f5 f6 f7 f8 : Nat)  (b0 : 1 ≤ f0) (b1 : f0 ≤ 6) : sq_Mi l yX0_countReachedCells wsX0_countReachedCells rm_countReachedCells [.ref h0] (dC, dI) vwCl [(cI, .int), (cZ, .boolean)] (wX h0 q cI cZ a0 a1 a2 a3 a4 a5 a6 a7 a8 a9 a10 f0 f1 f2 f3 f4 f5 f6 f7 f8) (wX h0 q cI cZ a0 a1 a2 a3 a4 a5 a6 a7 a8 a9 a10 f0 f1 f2 f3 f4 f5 f6 f7 f8) (nI (sq_cntR a5 f0 f0)) := by
  refine sq_ofWi (cc := cX0_countReachedCells) (maxL := 4) (by decide) rfl (Nat.le_of_ble_eq_true rfl) (vp_nar_int _) ?_
  intro p e s m args below meth c A ls Q hx hb hts hown hml hK hP hD hS hA hl hend
  have hl : lv_has ls 4 [(0, .ref h0)] := hl
  have hin : ∀ w ∈ u_ws RX0 TX0 20, w ∈ wsX0_countReachedCells := fun w h => List.mem_cons_of_mem _ (inX0 w h)
  have k26 := hts _ (List.mem_cons_of_mem _ mfX0_26)
  have k124 := hts _ (List.mem_cons_of_mem _ mfX0_124)
  refine lv_iconst (v := nI 0) hx hb dX0_countReachedCells_0 (by decide +kernel) ?_
  refine lv_istore_n (lv' := [(1, .int (nI 0)), (0, .ref h0)]) hx hb dX0_countReachedCells_1 rfl hl (by decide) rfl (fun ls hl => ?_)
  refine lv_iconst (v := nI 0) hx hb dX0_countReachedCells_2 (by decide +kernel) ?_
  refine lv_istore_n (lv' := [(2, .int (nI 0)), (1, .int (nI 0)), (0, .ref h0)]) hx hb dX0_countReachedCells_3 rfl hl (by decide) rfl (fun ls hl => ?_)
  have L1 : ∀ k r : Nat, r + k = f0 → ∀ ls : Array Slot, lv_has ls 4 [(2, .int (nI r)), (1, .int (nI (sq_cntR a5 f0 r))), (0, .ref h0)] → W p l e rm_countReachedCells s m args below meth c s.heap [] 0 0 Q (F0 m 4 ls []) := by
    intro k
    induction k using Nat.strongRecOn with
    | _ k ih =>
      intro r hr ls hl
      have b5 := sq_cntR_le a5 f0 r
      have b6 : r * f0 ≤ 36 := Nat.mul_le_mul (show r ≤ 6 by omega) b1
      refine lv_iload_n hx hb dX0_countReachedCells_4 rfl (lv_at hl 0 rfl) ?_
      refine lv_aload_n hx hb dX0_countReachedCells_5 rfl (lv_at hl 2 rfl) ?_
      refine va_get (D := (dC, dI)) (ci := 0) (v := .int (nI f0)) (C := RX0) (T := TX0) (N := 20) hx hb hts hin hown hK hP 0 rfl rfl 11 (by decide) k124 (fun _ h9 => h9) rfl dX0_countReachedCells_6 ?_
      refine sq_icmp_ge (tgt := 49) hx hb (by omega) (by omega) dX0_countReachedCells_9 (by decide) (fun hc => ?_) (fun hc => ?_)
      · refine lv_iload_n hx hb dX0_countReachedCells_49 rfl (lv_at hl 1 rfl) ?_
        exact hend _ _ _ _ _ (by rw [show r = f0 by omega]) hP hD hS dX0_countReachedCells_50
      · refine lv_iconst (v := nI 0) hx hb dX0_countReachedCells_12 (by decide +kernel) ?_
        refine lv_istore_n (lv' := [(3, .int (nI 0)), (2, .int (nI r)), (1, .int (nI (sq_cntR a5 f0 r))), (0, .ref h0)]) hx hb dX0_countReachedCells_13 rfl hl (by decide) rfl (fun ls hl => ?_)
        have L2 : ∀ j t : Nat, t + j = f0 → ∀ ls : Array Slot, lv_has ls 4 [(3, .int (nI t)), (2, .int (nI r)), (1, .int (nI (sq_cntR a5 f0 r + sq_cntC a5 r t))), (0, .ref h0)] → W p l e rm_countReachedCells s m args below meth c s.heap [] 0 0 Q (F0 m 14 ls []) := by
          intro j
          induction j using Nat.strongRecOn with
          | _ j ih2 =>
            intro t ht ls hl
            have b7 := sq_cntC_le a5 r t
            refine lv_iload_n hx hb dX0_countReachedCells_14 rfl (lv_at hl 0 rfl) ?_
            refine lv_aload_n hx hb dX0_countReachedCells_15 rfl (lv_at hl 3 rfl) ?_
            refine va_get (D := (dC, dI)) (ci := 0) (v := .int (nI f0)) (C := RX0) (T := TX0) (N := 20) hx hb hts hin hown hK hP 0 rfl rfl 11 (by decide) k124 (fun _ h9 => h9) rfl dX0_countReachedCells_16 ?_
            refine sq_icmp_ge (tgt := 43) hx hb (by omega) (by omega) dX0_countReachedCells_19 (by decide) (fun hd => ?_) (fun hd => ?_)
            · refine lv_iinc (v := nI (r + 1)) (lv' := [(2, .int (nI (r + 1))), (3, .int (nI t)), (1, .int (nI (sq_cntR a5 f0 r + sq_cntC a5 r t))), (0, .ref h0)]) hx hb dX0_countReachedCells_43 hl (k := 1) rfl (sq_inc _) (by decide) rfl (fun ls hl => ?_)
              refine lv_goto (tgt := 4) hx hb dX0_countReachedCells_46 (by decide) ?_
              refine ih (k - 1) (by omega) (r + 1) (by omega) ls ?_
              have e9 : sq_cntR a5 f0 (r + 1) = sq_cntR a5 f0 r + sq_cntC a5 r t := by rw [show t = f0 by omega]; rfl
              rw [e9]
              exact lv_sub hl [0, 2, 3] rfl
            · refine lv_aload_n hx hb dX0_countReachedCells_22 rfl (lv_at hl 3 rfl) ?_
              refine va_get (D := (dC, dI)) (ci := 0) (v := .ref (q 5)) (C := RX0) (T := TX0) (N := 20) hx hb hts hin hown hK hP 0 rfl rfl 5 (by decide) k26 (fun _ h9 => h9) rfl dX0_countReachedCells_23 ?_
              refine lv_iload_n hx hb dX0_countReachedCells_26 rfl (lv_at hl 1 rfl) ?_
              refine lv_iload_n hx hb dX0_countReachedCells_27 rfl (lv_at hl 0 rfl) ?_
              refine sq_iadd hx hb dX0_countReachedCells_28 ?_
              refine sq_iald hx hb hK hP 6 0 rfl rfl (i := (r + t)) (by omega) (by decide) dX0_countReachedCells_29 ?_
              refine lv_iconst (v := (-1)) hx hb dX0_countReachedCells_30 (by decide +kernel) ?_
              refine lv_icmp_eq (tgt := 37) hx hb dX0_countReachedCells_31 (by decide) (fun he => ?_) (fun he => ?_)
              · refine lv_iinc (v := nI (t + 1)) (lv' := [(3, .int (nI (t + 1))), (2, .int (nI r)), (1, .int (nI (sq_cntR a5 f0 r + sq_cntC a5 r t))), (0, .ref h0)]) hx hb dX0_countReachedCells_37 hl (k := 0) rfl (sq_inc _) (by decide) rfl (fun ls hl => ?_)
                refine lv_goto (tgt := 14) hx hb dX0_countReachedCells_40 (by decide) ?_
                refine ih2 (j - 1) (by omega) (t + 1) (by omega) ls ?_
                have e9 : sq_cntR a5 f0 r + sq_cntC a5 r (t + 1) = sq_cntR a5 f0 r + sq_cntC a5 r t := by
                  rw [show sq_cntC a5 r (t + 1) = sq_cntC a5 r t + (if a5 (r + t) = -1 then 0 else 1) from rfl, if_pos he, Nat.add_zero]
                rw [e9]
                exact lv_sub hl [0, 1, 2, 3] rfl
              · refine lv_iinc (v := nI ((sq_cntR a5 f0 r + sq_cntC a5 r t) + 1)) (lv' := [(1, .int (nI ((sq_cntR a5 f0 r + sq_cntC a5 r t) + 1))), (3, .int (nI t)), (2, .int (nI r)), (0, .ref h0)]) hx hb dX0_countReachedCells_34 hl (k := 2) rfl (sq_inc _) (by decide) rfl (fun ls hl => ?_)
                refine lv_iinc (v := nI (t + 1)) (lv' := [(3, .int (nI (t + 1))), (1, .int (nI ((sq_cntR a5 f0 r + sq_cntC a5 r t) + 1))), (2, .int (nI r)), (0, .ref h0)]) hx hb dX0_countReachedCells_37 hl (k := 1) rfl (sq_inc _) (by decide) rfl (fun ls hl => ?_)
                refine lv_goto (tgt := 14) hx hb dX0_countReachedCells_40 (by decide) ?_
                refine ih2 (j - 1) (by omega) (t + 1) (by omega) ls ?_
                have e9 : sq_cntR a5 f0 r + sq_cntC a5 r (t + 1) = sq_cntR a5 f0 r + sq_cntC a5 r t + 1 := by
                  rw [show sq_cntC a5 r (t + 1) = sq_cntC a5 r t + (if a5 (r + t) = -1 then 0 else 1) from rfl, if_neg he]; omega
                rw [e9]
                exact lv_sub hl [0, 2, 1, 3] rfl
        exact L2 f0 0 (by omega) ls (lv_sub hl [0, 1, 2, 3] rfl)
  exact L1 f0 0 (by omega) ls hl
def rm_isAtRest : Room := { frames := 2, cells := 0, slots := 0, locals := 41 }
set_option maxHeartbeats 4000000 in
set_option maxRecDepth 100000 in
theorem c_isAtRest (l : Launch) (dC : Nat → ClassId) (dI : Nat → Nat → Nat) (h0 : Nat) (q : Nat → Nat) (cI cZ : ClassId) (a0 a1 a2 a3 a4 a5 a6 a7 a8 a9 a10 : Nat → Int32) (f0 f1 f2 f3 f4 f5 f6 f7 f8 : Nat)  (b0 : 1 ≤ f0) (b1 : f0 ≤ 6) (b2 : f2 < 2 ^ 31) (b3 : f3 < 2 ^ 31) (b4 : f4 < 2 ^ 31) (b5 : f5 ≤ 200) (b6 : f6 < 2 ^ 31) (b7 : f7 < 2 ^ 31) (b8 : f8 ≤ f1) (b9 : f1 ≤ 100000) : sq_Mi l yX0_isAtRest wsX0_isAtRest rm_isAtRest [.ref h0] (dC, dI) vwCl [(cI, .int), (cZ, .boolean)] (wX h0 q cI cZ a0 a1 a2 a3 a4 a5 a6 a7 a8 a9 a10 f0 f1 f2 f3 f4 f5 f6 f7 f8) (wX h0 q cI cZ a0 a1 a2 a3 a4 a5 a6 a7 a8 a9 a10 f0 f1 f2 f3 f4 f5 f6 f7 f8) (sq_b (decide (¬ (f6 < f5 ∧ (a3 f6 = 0 ∨ f4 = f0)) ∧ ¬ (f3 < f2 ∧ ¬ f4 = f0 ∧ (f7 = 0 ∨ 2 * f0 - 2 < f1 + 1 - f8)) ∧ sq_cntR a5 f0 f0 = 0))) := by
  refine sq_ofWi (cc := cX0_isAtRest) (maxL := 1) (by decide) rfl (Nat.le_of_ble_eq_true rfl) (sq_b_narrow _) ?_
  intro p e s m args below meth c A ls Q hx hb hts hown hml hK hP hD hS hA hl hend
  have hl : lv_has ls 1 [(0, .ref h0)] := hl
  have hin : ∀ w ∈ u_ws RX0 TX0 20, w ∈ wsX0_isAtRest := fun w h => List.mem_cons_of_mem _ (inX0 w h)
  have k70 := hts _ (List.mem_cons_of_mem _ mfX0_70)
  have c5 := sq_cntR_le a5 f0 f0
  have c6 : f0 * f0 ≤ 36 := Nat.mul_le_mul b1 b1
  refine lv_aload_n hx hb dX0_isAtRest_0 rfl (lv_at hl 0 rfl) ?_
  refine sq_calli (As := []) (c_canVectorEnter l dC dI h0 q cI cZ a0 a1 a2 a3 a4 a5 a6 a7 a8 a9 a10 f0 f1 f2 f3 f4 f5 f6 f7 f8 b4 (by omega) b5 b6) ⟨hx, hb, hml, hown, hts⟩ (cwV 0 hts (sq_good gvX0_141) rfl rfl rfl (by decide +kernel) ⟨Nat.le_of_ble_eq_true rfl, Nat.le_of_ble_eq_true rfl⟩) hK hP hD hS hA rfl rfl rfl rfl hl.1 rfl (Nat.le_of_ble_eq_true rfl) dX0_isAtRest_1 ⟨Nat.zero_le _, Nat.zero_le _⟩ (fun H locs hP hD hS => ?_)
  refine lv_if_ne (tgt := 31) hx hb dX0_isAtRest_4 (by decide) (fun hc => ?_) (fun hc => ?_)
  · refine lv_iconst (v := nI 0) hx hb dX0_isAtRest_31 (by decide +kernel) ?_
    exact hend _ _ _ _ _ (sq_bF (fun h => h.1 (sq_bnd hc))) hP hD hS dX0_isAtRest_32
  · refine lv_aload_n hx hb dX0_isAtRest_7 rfl (lv_at hl 0 rfl) ?_
    refine lv_aload_n hx hb dX0_isAtRest_8 rfl (lv_at hl 0 rfl) ?_
    refine va_get (D := (dC, dI)) (ci := 0) (v := .int (nI f1)) (C := RX0) (T := TX0) (N := 20) hx hb hts hin hown hK hP 0 rfl rfl 12 (by decide) k70 (fun _ h9 => h9) rfl dX0_isAtRest_9 ?_
    refine lv_iconst (v := nI 1) hx hb dX0_isAtRest_12 (by decide +kernel) ?_
    refine sq_iadd hx hb dX0_isAtRest_13 ?_
    refine sq_calli (As := [.int (nI (f1 + 1))]) (c_canRowComeIn l dC dI h0 q cI cZ a0 a1 a2 a3 a4 a5 a6 a7 a8 a9 a10 f0 f1 f2 f3 f4 f5 f6 f7 f8 (f1 + 1) b0 b1 b2 b3 b4 b7 (by omega) (by omega)) ⟨hx, hb, hml, hown, hts⟩ (cwV 1 hts (sq_good gvX0_144) rfl rfl rfl (by decide +kernel) ⟨Nat.le_of_ble_eq_true rfl, Nat.le_of_ble_eq_true rfl⟩) hK hP hD hS hA rfl rfl rfl rfl hl.1 rfl (Nat.le_of_ble_eq_true rfl) dX0_isAtRest_14 ⟨Nat.zero_le _, Nat.zero_le _⟩ (fun H locs hP hD hS => ?_)
    refine lv_if_ne (tgt := 31) hx hb dX0_isAtRest_17 (by decide) (fun hd => ?_) (fun hd => ?_)
    · refine lv_iconst (v := nI 0) hx hb dX0_isAtRest_31 (by decide +kernel) ?_
      exact hend _ _ _ _ _ (sq_bF (fun h => h.2.1 (sq_bnd hd))) hP hD hS dX0_isAtRest_32
    · refine lv_aload_n hx hb dX0_isAtRest_20 rfl (lv_at hl 0 rfl) ?_
      refine sq_calli (As := []) (c_countReachedCells l dC dI h0 q cI cZ a0 a1 a2 a3 a4 a5 a6 a7 a8 a9 a10 f0 f1 f2 f3 f4 f5 f6 f7 f8 b0 b1) ⟨hx, hb, hml, hown, hts⟩ (cwV 0 hts (sq_good gvX0_121) rfl rfl rfl (by decide +kernel) ⟨Nat.le_of_ble_eq_true rfl, Nat.le_of_ble_eq_true rfl⟩) hK hP hD hS hA rfl rfl rfl rfl hl.1 rfl (Nat.le_of_ble_eq_true rfl) dX0_isAtRest_21 ⟨Nat.zero_le _, Nat.zero_le _⟩ (fun H locs hP hD hS => ?_)
      refine sq_if_ne (tgt := 31) hx hb (by omega) dX0_isAtRest_24 (by decide) (fun he => ?_) (fun he => ?_)
      · refine lv_iconst (v := nI 0) hx hb dX0_isAtRest_31 (by decide +kernel) ?_
        exact hend _ _ _ _ _ (sq_bF (fun h => he h.2.2)) hP hD hS dX0_isAtRest_32
      · refine lv_iconst (v := nI 1) hx hb dX0_isAtRest_27 (by decide +kernel) ?_
        refine lv_goto (tgt := 32) hx hb dX0_isAtRest_28 (by decide) ?_
        exact hend _ _ _ _ _ (sq_bT ⟨sq_b0d hc, sq_b0d hd, he⟩) hP hD hS dX0_isAtRest_32
