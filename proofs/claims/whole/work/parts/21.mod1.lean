def rmm_thrown : Room := { frames := 0, cells := 0, slots := 0, locals := 0 }
set_option maxHeartbeats 4000000 in
set_option maxRecDepth 100000 in
theorem k_thrown (l : Launch) (dC : Nat → ClassId) (dI : Nat → Nat → Nat) (h0 : Nat) (q : Nat → Nat) (cI cZ : ClassId) (ms : SqS)   : sq_Mi l yX1_thrown wsX1_thrown rmm_thrown [.ref h0] (dC, dI) vwCl [(cI, .int), (cZ, .boolean)] (wM h0 q cI cZ (ms.1 0) (ms.1 1) (ms.1 2) (ms.1 3) (ms.1 4) (ms.1 5) (ms.1 6) (ms.1 7) (ms.1 8) (ms.1 9) (ms.1 10) (ms.1 11) (ms.2 0) (ms.2 1) (ms.2 2) (ms.2 3) (ms.2 4) (ms.2 5) (ms.2 6) (ms.2 7) (ms.2 8) (ms.2 9) (ms.2 10)) (wM h0 q cI cZ (ms.1 0) (ms.1 1) (ms.1 2) (ms.1 3) (ms.1 4) (ms.1 5) (ms.1 6) (ms.1 7) (ms.1 8) (ms.1 9) (ms.1 10) (ms.1 11) (ms.2 0) (ms.2 1) (ms.2 2) (ms.2 3) (ms.2 4) (ms.2 5) (ms.2 6) (ms.2 7) (ms.2 8) (ms.2 9) (ms.2 10)) (nI (ms.2 0)) := by
  refine sq_ofWi (cc := cX1_thrown) (maxL := 1) (by decide) rfl (Nat.le_of_ble_eq_true rfl) (vp_nar_int _) ?_
  intro p e s m args below meth c A ls Q hx hb hts hown hml hK hP hD hS hA hl hend
  have hl : lv_has ls 1 [(0, .ref h0)] := hl
  have hin : ∀ w ∈ u_ws RX1 TX1 23, w ∈ wsX1_thrown := fun w h => List.mem_cons_of_mem _ (inX1 w h)
  have k54 := hts _ (List.mem_cons_of_mem _ mfX1_54)
  refine lv_aload_n hx hb dX1_thrown_0 rfl (lv_at hl 0 rfl) ?_
  refine va_get (D := (dC, dI)) (ci := 1) (v := .int (nI (ms.2 0))) (C := RX1) (T := TX1) (N := 23) hx hb hts hin hown hK hP 0 rfl rfl 0 (by decide) k54 (fun _ h9 => h9) rfl dX1_thrown_1 ?_
  exact hend _ _ _ _ _ rfl hP hD hS dX1_thrown_4
def rmm_refuse : Room := { frames := 0, cells := 0, slots := 0, locals := 0 }
set_option maxHeartbeats 4000000 in
set_option maxRecDepth 100000 in
theorem k_refuse (l : Launch) (dC : Nat → ClassId) (dI : Nat → Nat → Nat) (h0 : Nat) (q : Nat → Nat) (cI cZ : ClassId) (b0 b1 b2 b3 b4 b5 b6 b7 b8 b9 b10 b11 : Nat → Int32) (g0 g1 g2 g3 g4 g5 g6 g7 g8 g9 g10 : Nat) (p1 p2 : Bool)  : sq_Mi l yX1_refuse wsX1_refuse rmm_refuse [.ref h0, .int (sq_b p1), .int (sq_b p2)] (dC, dI) vwCl [(cI, .int), (cZ, .boolean)] (wM h0 q cI cZ b0 b1 b2 b3 b4 b5 b6 b7 b8 b9 b10 b11 g0 g1 g2 g3 g4 g5 g6 g7 g8 g9 g10) (wM h0 q cI cZ b0 b1 b2 b3 b4 b5 b6 b7 b8 b9 b10 b11 (sq_rf p1 p2) g1 g2 g3 g4 g5 g6 g7 g8 g9 g10) (sq_b (decide (0 < sq_rf p1 p2))) := by
  refine sq_ofWi (cc := cX1_refuse) (maxL := 3) (by decide) rfl (Nat.le_of_ble_eq_true rfl) (sq_b_narrow _) ?_
  intro p e s m args below meth c A ls Q hx hb hts hown hml hK hP hD hS hA hl hend
  have hl : lv_has ls 3 [(0, .ref h0), (1, .int (sq_b p1)), (2, .int (sq_b p2))] := hl
  have hin : ∀ w ∈ u_ws RX1 TX1 23, w ∈ wsX1_refuse := fun w h => List.mem_cons_of_mem _ (inX1 w h)
  have k54 := hts _ (List.mem_cons_of_mem _ mfX1_54)
  have r2 := sq_rf_le p1 p2
  refine lv_aload_n hx hb dX1_refuse_0 rfl (lv_at hl 0 rfl) ?_
  have T18 : ∀ (v : Nat) (H : Heap) (locs : List Loc) (ls : Array Slot), v = sq_rf p1 p2 → va_P (dC, dI) vwCl (wM h0 q cI cZ b0 b1 b2 b3 b4 b5 b6 b7 b8 b9 b10 b11 g0 g1 g2 g3 g4 g5 g6 g7 g8 g9 g10) H → va_D A (wM h0 q cI cZ b0 b1 b2 b3 b4 b5 b6 b7 b8 b9 b10 b11 g0 g1 g2 g3 g4 g5 g6 g7 g8 g9 g10) → va_S A s.heap H locs → lv_has ls 3 [(0, .ref h0), (1, .int (sq_b p1)), (2, .int (sq_b p2))] → W p l e rmm_refuse s m args below meth c H locs 0 0 Q (F0 m 18 ls [.int (nI v), .ref h0]) := by
    intro v H locs ls hpre hP hD hS hl
    subst hpre
    refine va_put (D := (dC, dI)) (ci := 1) (v := .int (nI (sq_rf p1 p2))) (ty := .int) (C := RX1) (T := TX1) (N := 23) hx hb hts hin tyX1 tyX1_ok nmX1 hown hK hP hD hS 0 rfl rfl 0 (by decide) k54 (fun _ h9 => h9) rfl (by decide +kernel) rfl rfl (Nat.le_of_ble_eq_true rfl) dX1_refuse_18 (fun H locs hP hD hS => ?_)
    have hP : va_P (dC, dI) vwCl (wM h0 q cI cZ b0 b1 b2 b3 b4 b5 b6 b7 b8 b9 b10 b11 (sq_rf p1 p2) g1 g2 g3 g4 g5 g6 g7 g8 g9 g10) H := hP
    have hD : va_D A (wM h0 q cI cZ b0 b1 b2 b3 b4 b5 b6 b7 b8 b9 b10 b11 (sq_rf p1 p2) g1 g2 g3 g4 g5 g6 g7 g8 g9 g10) := hD
    refine lv_aload_n hx hb dX1_refuse_21 rfl (lv_at hl 0 rfl) ?_
    refine va_get (D := (dC, dI)) (ci := 1) (v := .int (nI (sq_rf p1 p2))) (C := RX1) (T := TX1) (N := 23) hx hb hts hin hown hK hP 0 rfl rfl 0 (by decide) k54 (fun _ h9 => h9) rfl dX1_refuse_22 ?_
    refine sq_if_le (tgt := 32) hx hb (by omega) dX1_refuse_25 (by decide) (fun hc => ?_) (fun hc => ?_)
    · refine lv_iconst (v := nI 0) hx hb dX1_refuse_32 (by decide +kernel) ?_
      exact hend _ _ _ _ _ (sq_bF (by omega)) hP hD hS dX1_refuse_33
    · refine lv_iconst (v := nI 1) hx hb dX1_refuse_28 (by decide +kernel) ?_
      refine lv_goto (tgt := 33) hx hb dX1_refuse_29 (by decide) ?_
      exact hend _ _ _ _ _ (sq_bT hc) hP hD hS dX1_refuse_33
  refine lv_iload_n hx hb dX1_refuse_1 rfl (lv_at hl 1 rfl) ?_
  refine lv_if_eq (tgt := 9) hx hb dX1_refuse_2 (by decide) (fun hc => ?_) (fun hc => ?_)
  · refine lv_iload_n hx hb dX1_refuse_9 rfl (lv_at hl 2 rfl) ?_
    refine lv_if_eq (tgt := 17) hx hb dX1_refuse_10 (by decide) (fun hd => ?_) (fun hd => ?_)
    · refine lv_iconst (v := nI 0) hx hb dX1_refuse_17 (by decide +kernel) ?_
      exact T18 0 _ _ ls (by rw [sq_b0.mp hc, sq_b0.mp hd]; rfl) hP hD hS hl
    · refine lv_iconst (v := nI 2) hx hb dX1_refuse_13 (by decide +kernel) ?_
      refine lv_goto (tgt := 18) hx hb dX1_refuse_14 (by decide) ?_
      exact T18 2 _ _ ls (by rw [sq_b0.mp hc, sq_bn0.mp hd]; rfl) hP hD hS hl
  · refine lv_iconst (v := nI 1) hx hb dX1_refuse_5 (by decide +kernel) ?_
    refine lv_goto (tgt := 18) hx hb dX1_refuse_6 (by decide) ?_
    exact T18 1 _ _ ls (by rw [sq_bn0.mp hc]; rfl) hP hD hS hl
def rmm_in_ : Room := { frames := 0, cells := 0, slots := 0, locals := 0 }
def rmm_six : Room := { frames := 0, cells := 0, slots := 0, locals := 0 }
set_option maxHeartbeats 4000000 in
set_option maxRecDepth 100000 in
theorem k_in (l : Launch) (D : va_G) (cl : List vw_C) (tys : List (ClassId × FieldType)) (ws : va_W) (v lo hi : Int32) : sq_Mi l yX1_in_ wsX1_in_ rmm_in_ [.int v, .int lo, .int hi] D cl tys ws ws (sq_b (decide (¬ v < lo ∧ ¬ hi < v))) := by
  refine sq_ofWi (cc := cX1_in_) (maxL := 3) (by decide) rfl (Nat.le_of_ble_eq_true rfl) (sq_b_narrow _) ?_
  intro p e s m args below meth c A ls Q hx hb hts hown hml hK hP hD hS hA hl hend
  have hl : lv_has ls 3 [(0, .int v), (1, .int lo), (2, .int hi)] := hl
  refine lv_iload_n hx hb dX1_in__0 rfl (lv_at hl 0 rfl) ?_
  refine lv_iload_n hx hb dX1_in__1 rfl (lv_at hl 1 rfl) ?_
  refine lv_icmp_lt (tgt := 14) hx hb dX1_in__2 (by decide) (fun hc => ?_) (fun hc => ?_)
  · refine lv_iconst (v := nI 0) hx hb dX1_in__14 (by decide +kernel) ?_
    exact hend _ _ _ _ _ (sq_bF (fun h => h.1 hc)) hP hD hS dX1_in__15
  · refine lv_iload_n hx hb dX1_in__5 rfl (lv_at hl 0 rfl) ?_
    refine lv_iload_n hx hb dX1_in__6 rfl (lv_at hl 2 rfl) ?_
    refine lv_icmp_gt (tgt := 14) hx hb dX1_in__7 (by decide) (fun hd => ?_) (fun hd => ?_)
    · refine lv_iconst (v := nI 0) hx hb dX1_in__14 (by decide +kernel) ?_
      exact hend _ _ _ _ _ (sq_bF (fun h => h.2 hd)) hP hD hS dX1_in__15
    · refine lv_iconst (v := nI 1) hx hb dX1_in__10 (by decide +kernel) ?_
      refine lv_goto (tgt := 15) hx hb dX1_in__11 (by decide) ?_
      exact hend _ _ _ _ _ (sq_bT ⟨hc, hd⟩) hP hD hS dX1_in__15
set_option maxHeartbeats 4000000 in
set_option maxRecDepth 100000 in
theorem k_six (l : Launch) (D : va_G) (cl : List vw_C) (tys : List (ClassId × FieldType)) (ws : va_W) (k t0 a : Nat) (cI : ClassId) (n : Nat) (f : Nat → Int32) (i : Nat) (x1 x2 x3 x4 x5 x6 : Int32) (ha : ws[k]? = some (a, .inl (cI, n, .inl f))) (ht : tys[t0]? = some (cI, .int)) (hi : i + 5 < n) (hn : n < 2 ^ 31) : sq_Mv l yX1_six wsX1_six rmm_six [.ref a, .int (nI i), .int x1, .int x2, .int x3, .int x4, .int x5, .int x6] D cl tys ws (ws.set k (a, .inl (cI, n, .inl (sq_p6 f i x1 x2 x3 x4 x5 x6)))) := by
  refine sq_ofWv (cc := cX1_six) (maxL := 8) (by decide) rfl (Nat.le_of_ble_eq_true rfl) ?_
  intro p e s m args below meth c A ls Q hx hb hts hown hml hK hP hD hS hA hl hend
  have hl : lv_has ls 8 [(0, .ref a), (1, .int (nI i)), (2, .int x1), (3, .int x2), (4, .int x3), (5, .int x4), (6, .int x5), (7, .int x6)] := hl
  have hkl : k < ws.length := (List.getElem?_eq_some_iff.mp ha).1
  refine lv_aload_n hx hb dX1_six_0 rfl (lv_at hl 0 rfl) ?_
  refine lv_iload_n hx hb dX1_six_1 rfl (lv_at hl 1 rfl) ?_
  refine lv_iload_n hx hb dX1_six_2 rfl (lv_at hl 2 rfl) ?_
  refine sq_iast hx hb hK hP hD hS k t0 ha ht (i := i) (by omega) hn dX1_six_3 (fun H locs hP hD hS => ?_)
  refine lv_aload_n hx hb dX1_six_4 rfl (lv_at hl 0 rfl) ?_
  refine lv_iload_n hx hb dX1_six_5 rfl (lv_at hl 1 rfl) ?_
  refine lv_iconst (v := nI 1) hx hb dX1_six_6 (by decide +kernel) ?_
  refine sq_iadd hx hb dX1_six_7 ?_
  refine lv_iload_n hx hb dX1_six_8 rfl (lv_at hl 3 rfl) ?_
  refine sq_iast hx hb hK hP hD hS k t0 (List.getElem?_set_self hkl) ht (i := (i + 1)) (by omega) hn dX1_six_9 (fun H locs hP hD hS => ?_)
  rw [List.set_set] at hP hD
  refine lv_aload_n hx hb dX1_six_10 rfl (lv_at hl 0 rfl) ?_
  refine lv_iload_n hx hb dX1_six_11 rfl (lv_at hl 1 rfl) ?_
  refine lv_iconst (v := nI 2) hx hb dX1_six_12 (by decide +kernel) ?_
  refine sq_iadd hx hb dX1_six_13 ?_
  refine lv_iload hx hb dX1_six_14 (lv_at hl 4 rfl) ?_
  refine sq_iast hx hb hK hP hD hS k t0 (List.getElem?_set_self hkl) ht (i := (i + 2)) (by omega) hn dX1_six_16 (fun H locs hP hD hS => ?_)
  rw [List.set_set] at hP hD
  refine lv_aload_n hx hb dX1_six_17 rfl (lv_at hl 0 rfl) ?_
  refine lv_iload_n hx hb dX1_six_18 rfl (lv_at hl 1 rfl) ?_
  refine lv_iconst (v := nI 3) hx hb dX1_six_19 (by decide +kernel) ?_
  refine sq_iadd hx hb dX1_six_20 ?_
  refine lv_iload hx hb dX1_six_21 (lv_at hl 5 rfl) ?_
  refine sq_iast hx hb hK hP hD hS k t0 (List.getElem?_set_self hkl) ht (i := (i + 3)) (by omega) hn dX1_six_23 (fun H locs hP hD hS => ?_)
  rw [List.set_set] at hP hD
  refine lv_aload_n hx hb dX1_six_24 rfl (lv_at hl 0 rfl) ?_
  refine lv_iload_n hx hb dX1_six_25 rfl (lv_at hl 1 rfl) ?_
  refine lv_iconst (v := nI 4) hx hb dX1_six_26 (by decide +kernel) ?_
  refine sq_iadd hx hb dX1_six_27 ?_
  refine lv_iload hx hb dX1_six_28 (lv_at hl 6 rfl) ?_
  refine sq_iast hx hb hK hP hD hS k t0 (List.getElem?_set_self hkl) ht (i := (i + 4)) (by omega) hn dX1_six_30 (fun H locs hP hD hS => ?_)
  rw [List.set_set] at hP hD
  refine lv_aload_n hx hb dX1_six_31 rfl (lv_at hl 0 rfl) ?_
  refine lv_iload_n hx hb dX1_six_32 rfl (lv_at hl 1 rfl) ?_
  refine lv_iconst (v := nI 5) hx hb dX1_six_33 (by decide +kernel) ?_
  refine sq_iadd hx hb dX1_six_34 ?_
  refine lv_iload hx hb dX1_six_35 (lv_at hl 7 rfl) ?_
  refine sq_iast hx hb hK hP hD hS k t0 (List.getElem?_set_self hkl) ht (i := (i + 5)) (by omega) hn dX1_six_37 (fun H locs hP hD hS => ?_)
  rw [List.set_set] at hP hD
  exact hend _ _ _ _ hP hD hS dX1_six_38
def rmm_clear : Room := { frames := 0, cells := 0, slots := 0, locals := 0 }
set_option maxHeartbeats 4000000 in
set_option maxRecDepth 100000 in
theorem k_clear (l : Launch) (dC : Nat → ClassId) (dI : Nat → Nat → Nat) (h0 : Nat) (q : Nat → Nat) (cI cZ : ClassId) (ms : SqS)   : sq_Mv l yX1_clear wsX1_clear rmm_clear [.ref h0] (dC, dI) vwCl [(cI, .int), (cZ, .boolean)] (wM h0 q cI cZ (ms.1 0) (ms.1 1) (ms.1 2) (ms.1 3) (ms.1 4) (ms.1 5) (ms.1 6) (ms.1 7) (ms.1 8) (ms.1 9) (ms.1 10) (ms.1 11) (ms.2 0) (ms.2 1) (ms.2 2) (ms.2 3) (ms.2 4) (ms.2 5) (ms.2 6) (ms.2 7) (ms.2 8) (ms.2 9) (ms.2 10)) (wM h0 q cI cZ ((sq_mclr ms (ms.2 1)).1 0) ((sq_mclr ms (ms.2 1)).1 1) ((sq_mclr ms (ms.2 1)).1 2) ((sq_mclr ms (ms.2 1)).1 3) ((sq_mclr ms (ms.2 1)).1 4) ((sq_mclr ms (ms.2 1)).1 5) ((sq_mclr ms (ms.2 1)).1 6) ((sq_mclr ms (ms.2 1)).1 7) ((sq_mclr ms (ms.2 1)).1 8) ((sq_mclr ms (ms.2 1)).1 9) ((sq_mclr ms (ms.2 1)).1 10) ((sq_mclr ms (ms.2 1)).1 11) ((sq_mclr ms (ms.2 1)).2 0) ((sq_mclr ms (ms.2 1)).2 1) ((sq_mclr ms (ms.2 1)).2 2) ((sq_mclr ms (ms.2 1)).2 3) ((sq_mclr ms (ms.2 1)).2 4) ((sq_mclr ms (ms.2 1)).2 5) ((sq_mclr ms (ms.2 1)).2 6) ((sq_mclr ms (ms.2 1)).2 7) ((sq_mclr ms (ms.2 1)).2 8) ((sq_mclr ms (ms.2 1)).2 9) ((sq_mclr ms (ms.2 1)).2 10)) := by
  refine sq_ofWv (cc := cX1_clear) (maxL := 2) (by decide) rfl (Nat.le_of_ble_eq_true rfl) ?_
  intro p e s m args below meth c A ls Q hx hb hts hown hml hK hP hD hS hA hl hend
  have hl : lv_has ls 2 [(0, .ref h0)] := hl
  have hin : ∀ w ∈ u_ws RX1 TX1 23, w ∈ wsX1_clear := fun w h => List.mem_cons_of_mem _ (inX1 w h)
  have k30 := hts _ (List.mem_cons_of_mem _ mfX1_30)
  have k33 := hts _ (List.mem_cons_of_mem _ mfX1_33)
  have k36 := hts _ (List.mem_cons_of_mem _ mfX1_36)
  have k39 := hts _ (List.mem_cons_of_mem _ mfX1_39)
  have k42 := hts _ (List.mem_cons_of_mem _ mfX1_42)
  have k45 := hts _ (List.mem_cons_of_mem _ mfX1_45)
  have k48 := hts _ (List.mem_cons_of_mem _ mfX1_48)
  have k57 := hts _ (List.mem_cons_of_mem _ mfX1_57)
  have k60 := hts _ (List.mem_cons_of_mem _ mfX1_60)
  have k63 := hts _ (List.mem_cons_of_mem _ mfX1_63)
  have k66 := hts _ (List.mem_cons_of_mem _ mfX1_66)
  have k69 := hts _ (List.mem_cons_of_mem _ mfX1_69)
  have k73 := hts _ (List.mem_cons_of_mem _ mfX1_73)
  have k76 := hts _ (List.mem_cons_of_mem _ mfX1_76)
  have k79 := hts _ (List.mem_cons_of_mem _ mfX1_79)
  refine lv_aload_n hx hb dX1_clear_0 rfl (lv_at hl 0 rfl) ?_
  refine lv_iconst (v := nI 0) hx hb dX1_clear_1 (by decide +kernel) ?_
  refine va_put (D := (dC, dI)) (ci := 1) (v := .int (nI 0)) (ty := .int) (C := RX1) (T := TX1) (N := 23) hx hb hts hin tyX1 tyX1_ok nmX1 hown hK hP hD hS 0 rfl rfl 2 (by decide) k57 (fun _ h9 => h9) rfl (by decide +kernel) rfl rfl (Nat.le_of_ble_eq_true rfl) dX1_clear_2 (fun H locs hP hD hS => ?_)
  have hP : va_P (dC, dI) vwCl (wM h0 q cI cZ (ms.1 0) (ms.1 1) (ms.1 2) (ms.1 3) (ms.1 4) (ms.1 5) (ms.1 6) (ms.1 7) (ms.1 8) (ms.1 9) (ms.1 10) (ms.1 11) (ms.2 0) (ms.2 1) 0 (ms.2 3) (ms.2 4) (ms.2 5) (ms.2 6) (ms.2 7) (ms.2 8) (ms.2 9) (ms.2 10)) H := hP
  have hD : va_D A (wM h0 q cI cZ (ms.1 0) (ms.1 1) (ms.1 2) (ms.1 3) (ms.1 4) (ms.1 5) (ms.1 6) (ms.1 7) (ms.1 8) (ms.1 9) (ms.1 10) (ms.1 11) (ms.2 0) (ms.2 1) 0 (ms.2 3) (ms.2 4) (ms.2 5) (ms.2 6) (ms.2 7) (ms.2 8) (ms.2 9) (ms.2 10)) := hD
  refine lv_aload_n hx hb dX1_clear_5 rfl (lv_at hl 0 rfl) ?_
  refine lv_iconst (v := nI 0) hx hb dX1_clear_6 (by decide +kernel) ?_
  refine va_put (D := (dC, dI)) (ci := 1) (v := .int (nI 0)) (ty := .int) (C := RX1) (T := TX1) (N := 23) hx hb hts hin tyX1 tyX1_ok nmX1 hown hK hP hD hS 0 rfl rfl 3 (by decide) k60 (fun _ h9 => h9) rfl (by decide +kernel) rfl rfl (Nat.le_of_ble_eq_true rfl) dX1_clear_7 (fun H locs hP hD hS => ?_)
  have hP : va_P (dC, dI) vwCl (wM h0 q cI cZ (ms.1 0) (ms.1 1) (ms.1 2) (ms.1 3) (ms.1 4) (ms.1 5) (ms.1 6) (ms.1 7) (ms.1 8) (ms.1 9) (ms.1 10) (ms.1 11) (ms.2 0) (ms.2 1) 0 0 (ms.2 4) (ms.2 5) (ms.2 6) (ms.2 7) (ms.2 8) (ms.2 9) (ms.2 10)) H := hP
  have hD : va_D A (wM h0 q cI cZ (ms.1 0) (ms.1 1) (ms.1 2) (ms.1 3) (ms.1 4) (ms.1 5) (ms.1 6) (ms.1 7) (ms.1 8) (ms.1 9) (ms.1 10) (ms.1 11) (ms.2 0) (ms.2 1) 0 0 (ms.2 4) (ms.2 5) (ms.2 6) (ms.2 7) (ms.2 8) (ms.2 9) (ms.2 10)) := hD
  refine lv_aload_n hx hb dX1_clear_10 rfl (lv_at hl 0 rfl) ?_
  refine lv_iconst (v := nI 0) hx hb dX1_clear_11 (by decide +kernel) ?_
  refine va_put (D := (dC, dI)) (ci := 1) (v := .int (nI 0)) (ty := .int) (C := RX1) (T := TX1) (N := 23) hx hb hts hin tyX1 tyX1_ok nmX1 hown hK hP hD hS 0 rfl rfl 4 (by decide) k63 (fun _ h9 => h9) rfl (by decide +kernel) rfl rfl (Nat.le_of_ble_eq_true rfl) dX1_clear_12 (fun H locs hP hD hS => ?_)
  have hP : va_P (dC, dI) vwCl (wM h0 q cI cZ (ms.1 0) (ms.1 1) (ms.1 2) (ms.1 3) (ms.1 4) (ms.1 5) (ms.1 6) (ms.1 7) (ms.1 8) (ms.1 9) (ms.1 10) (ms.1 11) (ms.2 0) (ms.2 1) 0 0 0 (ms.2 5) (ms.2 6) (ms.2 7) (ms.2 8) (ms.2 9) (ms.2 10)) H := hP
  have hD : va_D A (wM h0 q cI cZ (ms.1 0) (ms.1 1) (ms.1 2) (ms.1 3) (ms.1 4) (ms.1 5) (ms.1 6) (ms.1 7) (ms.1 8) (ms.1 9) (ms.1 10) (ms.1 11) (ms.2 0) (ms.2 1) 0 0 0 (ms.2 5) (ms.2 6) (ms.2 7) (ms.2 8) (ms.2 9) (ms.2 10)) := hD
  refine lv_aload_n hx hb dX1_clear_15 rfl (lv_at hl 0 rfl) ?_
  refine lv_iconst (v := nI 0) hx hb dX1_clear_16 (by decide +kernel) ?_
  refine va_put (D := (dC, dI)) (ci := 1) (v := .int (nI 0)) (ty := .int) (C := RX1) (T := TX1) (N := 23) hx hb hts hin tyX1 tyX1_ok nmX1 hown hK hP hD hS 0 rfl rfl 5 (by decide) k66 (fun _ h9 => h9) rfl (by decide +kernel) rfl rfl (Nat.le_of_ble_eq_true rfl) dX1_clear_17 (fun H locs hP hD hS => ?_)
  have hP : va_P (dC, dI) vwCl (wM h0 q cI cZ (ms.1 0) (ms.1 1) (ms.1 2) (ms.1 3) (ms.1 4) (ms.1 5) (ms.1 6) (ms.1 7) (ms.1 8) (ms.1 9) (ms.1 10) (ms.1 11) (ms.2 0) (ms.2 1) 0 0 0 0 (ms.2 6) (ms.2 7) (ms.2 8) (ms.2 9) (ms.2 10)) H := hP
  have hD : va_D A (wM h0 q cI cZ (ms.1 0) (ms.1 1) (ms.1 2) (ms.1 3) (ms.1 4) (ms.1 5) (ms.1 6) (ms.1 7) (ms.1 8) (ms.1 9) (ms.1 10) (ms.1 11) (ms.2 0) (ms.2 1) 0 0 0 0 (ms.2 6) (ms.2 7) (ms.2 8) (ms.2 9) (ms.2 10)) := hD
  refine lv_aload_n hx hb dX1_clear_20 rfl (lv_at hl 0 rfl) ?_
  refine lv_iconst (v := nI 0) hx hb dX1_clear_21 (by decide +kernel) ?_
  refine va_put (D := (dC, dI)) (ci := 1) (v := .int (nI 0)) (ty := .boolean) (C := RX1) (T := TX1) (N := 23) hx hb hts hin tyX1 tyX1_ok nmX1 hown hK hP hD hS 0 rfl rfl 6 (by decide) k69 (fun _ h9 => h9) rfl (by decide +kernel) rfl rfl (Nat.le_of_ble_eq_true rfl) dX1_clear_22 (fun H locs hP hD hS => ?_)
  have hP : va_P (dC, dI) vwCl (wM h0 q cI cZ (ms.1 0) (ms.1 1) (ms.1 2) (ms.1 3) (ms.1 4) (ms.1 5) (ms.1 6) (ms.1 7) (ms.1 8) (ms.1 9) (ms.1 10) (ms.1 11) (ms.2 0) (ms.2 1) 0 0 0 0 0 (ms.2 7) (ms.2 8) (ms.2 9) (ms.2 10)) H := hP
  have hD : va_D A (wM h0 q cI cZ (ms.1 0) (ms.1 1) (ms.1 2) (ms.1 3) (ms.1 4) (ms.1 5) (ms.1 6) (ms.1 7) (ms.1 8) (ms.1 9) (ms.1 10) (ms.1 11) (ms.2 0) (ms.2 1) 0 0 0 0 0 (ms.2 7) (ms.2 8) (ms.2 9) (ms.2 10)) := hD
  refine lv_aload_n hx hb dX1_clear_25 rfl (lv_at hl 0 rfl) ?_
  refine lv_iconst (v := nI 0) hx hb dX1_clear_26 (by decide +kernel) ?_
  refine va_put (D := (dC, dI)) (ci := 1) (v := .int (nI 0)) (ty := .int) (C := RX1) (T := TX1) (N := 23) hx hb hts hin tyX1 tyX1_ok nmX1 hown hK hP hD hS 0 rfl rfl 8 (by decide) k73 (fun _ h9 => h9) rfl (by decide +kernel) rfl rfl (Nat.le_of_ble_eq_true rfl) dX1_clear_27 (fun H locs hP hD hS => ?_)
  have hP : va_P (dC, dI) vwCl (wM h0 q cI cZ (ms.1 0) (ms.1 1) (ms.1 2) (ms.1 3) (ms.1 4) (ms.1 5) (ms.1 6) (ms.1 7) (ms.1 8) (ms.1 9) (ms.1 10) (ms.1 11) (ms.2 0) (ms.2 1) 0 0 0 0 0 0 (ms.2 8) (ms.2 9) (ms.2 10)) H := hP
  have hD : va_D A (wM h0 q cI cZ (ms.1 0) (ms.1 1) (ms.1 2) (ms.1 3) (ms.1 4) (ms.1 5) (ms.1 6) (ms.1 7) (ms.1 8) (ms.1 9) (ms.1 10) (ms.1 11) (ms.2 0) (ms.2 1) 0 0 0 0 0 0 (ms.2 8) (ms.2 9) (ms.2 10)) := hD
  refine lv_aload_n hx hb dX1_clear_30 rfl (lv_at hl 0 rfl) ?_
  refine lv_iconst (v := nI 0) hx hb dX1_clear_31 (by decide +kernel) ?_
  refine va_put (D := (dC, dI)) (ci := 1) (v := .int (nI 0)) (ty := .int) (C := RX1) (T := TX1) (N := 23) hx hb hts hin tyX1 tyX1_ok nmX1 hown hK hP hD hS 0 rfl rfl 9 (by decide) k76 (fun _ h9 => h9) rfl (by decide +kernel) rfl rfl (Nat.le_of_ble_eq_true rfl) dX1_clear_32 (fun H locs hP hD hS => ?_)
  have hP : va_P (dC, dI) vwCl (wM h0 q cI cZ (ms.1 0) (ms.1 1) (ms.1 2) (ms.1 3) (ms.1 4) (ms.1 5) (ms.1 6) (ms.1 7) (ms.1 8) (ms.1 9) (ms.1 10) (ms.1 11) (ms.2 0) (ms.2 1) 0 0 0 0 0 0 0 (ms.2 9) (ms.2 10)) H := hP
  have hD : va_D A (wM h0 q cI cZ (ms.1 0) (ms.1 1) (ms.1 2) (ms.1 3) (ms.1 4) (ms.1 5) (ms.1 6) (ms.1 7) (ms.1 8) (ms.1 9) (ms.1 10) (ms.1 11) (ms.2 0) (ms.2 1) 0 0 0 0 0 0 0 (ms.2 9) (ms.2 10)) := hD
  refine lv_aload_n hx hb dX1_clear_35 rfl (lv_at hl 0 rfl) ?_
  refine lv_iconst (v := nI 0) hx hb dX1_clear_36 (by decide +kernel) ?_
  refine va_put (D := (dC, dI)) (ci := 1) (v := .int (nI 0)) (ty := .int) (C := RX1) (T := TX1) (N := 23) hx hb hts hin tyX1 tyX1_ok nmX1 hown hK hP hD hS 0 rfl rfl 10 (by decide) k79 (fun _ h9 => h9) rfl (by decide +kernel) rfl rfl (Nat.le_of_ble_eq_true rfl) dX1_clear_37 (fun H locs hP hD hS => ?_)
  have hP : va_P (dC, dI) vwCl (wM h0 q cI cZ (ms.1 0) (ms.1 1) (ms.1 2) (ms.1 3) (ms.1 4) (ms.1 5) (ms.1 6) (ms.1 7) (ms.1 8) (ms.1 9) (ms.1 10) (ms.1 11) (ms.2 0) (ms.2 1) 0 0 0 0 0 0 0 0 (ms.2 10)) H := hP
  have hD : va_D A (wM h0 q cI cZ (ms.1 0) (ms.1 1) (ms.1 2) (ms.1 3) (ms.1 4) (ms.1 5) (ms.1 6) (ms.1 7) (ms.1 8) (ms.1 9) (ms.1 10) (ms.1 11) (ms.2 0) (ms.2 1) 0 0 0 0 0 0 0 0 (ms.2 10)) := hD
  refine lv_iconst (v := nI 0) hx hb dX1_clear_40 (by decide +kernel) ?_
  refine lv_istore_n (lv' := [(1, .int (nI 0)), (0, .ref h0)]) hx hb dX1_clear_41 rfl hl (by decide) rfl (fun ls hl => ?_)
  have L2 : ∀ j t : Nat, t + j = 36 → ∀ (H : Heap) (locs : List Loc) (ls : Array Slot), va_P (dC, dI) vwCl (wM h0 q cI cZ (ms.1 0) (ms.1 1) (ms.1 2) (ms.1 3) (ms.1 4) (sq_G (sq_dR 16) (fun _ => -1) (ms.1 5)) (sq_G (sq_dR t) (fun _ => nI 0) (ms.1 6)) (sq_G (sq_dR t) (fun _ => nI 0) (ms.1 7)) (sq_G (sq_dR t) (fun _ => nI 0) (ms.1 8)) (sq_G (sq_dR t) (fun _ => nI 0) (ms.1 9)) (sq_G (sq_dR t) (fun _ => nI 0) (ms.1 10)) (sq_G (sq_dR t) (fun _ => nI 0) (ms.1 11)) (ms.2 0) (ms.2 1) 0 0 0 0 0 0 0 0 (ms.2 10)) H → va_D A (wM h0 q cI cZ (ms.1 0) (ms.1 1) (ms.1 2) (ms.1 3) (ms.1 4) (sq_G (sq_dR 16) (fun _ => -1) (ms.1 5)) (sq_G (sq_dR t) (fun _ => nI 0) (ms.1 6)) (sq_G (sq_dR t) (fun _ => nI 0) (ms.1 7)) (sq_G (sq_dR t) (fun _ => nI 0) (ms.1 8)) (sq_G (sq_dR t) (fun _ => nI 0) (ms.1 9)) (sq_G (sq_dR t) (fun _ => nI 0) (ms.1 10)) (sq_G (sq_dR t) (fun _ => nI 0) (ms.1 11)) (ms.2 0) (ms.2 1) 0 0 0 0 0 0 0 0 (ms.2 10)) → va_S A s.heap H locs → lv_has ls 2 [(1, .int (nI t)), (0, .ref h0)] → W p l e rmm_clear s m args below meth c H locs 0 0 Q (F0 m 63 ls []) := by
    intro j
    induction j using Nat.strongRecOn with
    | _ j ih =>
      intro t ht H locs ls hP hD hS hl
      refine lv_iload_n hx hb dX1_clear_63 rfl (lv_at hl 0 rfl) ?_
      refine lv_bipush (v := nI 36) hx hb dX1_clear_64 (by decide +kernel) ?_
      refine sq_icmp_ge (tgt := 117) hx hb (by omega) (by omega) dX1_clear_66 (by decide) (fun hc => ?_) (fun hc => ?_)
      · rw [show t = 36 by omega] at hP hD
        exact hend _ _ _ _ hP hD hS dX1_clear_117
      · refine lv_aload_n hx hb dX1_clear_69 rfl (lv_at hl 1 rfl) ?_
        refine va_get (D := (dC, dI)) (ci := 1) (v := .ref (q 6)) (C := RX1) (T := TX1) (N := 23) hx hb hts hin hown hK hP 0 rfl rfl 17 (by decide) k33 (fun _ h9 => h9) rfl dX1_clear_70 ?_
        refine lv_iload_n hx hb dX1_clear_73 rfl (lv_at hl 0 rfl) ?_
        refine lv_iconst (v := nI 0) hx hb dX1_clear_74 (by decide +kernel) ?_
        refine sq_iast hx hb hK hP hD hS 7 0 rfl rfl (i := t) (by omega) (by decide) dX1_clear_75 (fun H locs hP hD hS => ?_)
        have hP : va_P (dC, dI) vwCl (wM h0 q cI cZ (ms.1 0) (ms.1 1) (ms.1 2) (ms.1 3) (ms.1 4) (sq_G (sq_dR 16) (fun _ => -1) (ms.1 5)) (upd (sq_G (sq_dR t) (fun _ => nI 0) (ms.1 6)) t (nI 0)) (sq_G (sq_dR t) (fun _ => nI 0) (ms.1 7)) (sq_G (sq_dR t) (fun _ => nI 0) (ms.1 8)) (sq_G (sq_dR t) (fun _ => nI 0) (ms.1 9)) (sq_G (sq_dR t) (fun _ => nI 0) (ms.1 10)) (sq_G (sq_dR t) (fun _ => nI 0) (ms.1 11)) (ms.2 0) (ms.2 1) 0 0 0 0 0 0 0 0 (ms.2 10)) H := hP
        have hD : va_D A (wM h0 q cI cZ (ms.1 0) (ms.1 1) (ms.1 2) (ms.1 3) (ms.1 4) (sq_G (sq_dR 16) (fun _ => -1) (ms.1 5)) (upd (sq_G (sq_dR t) (fun _ => nI 0) (ms.1 6)) t (nI 0)) (sq_G (sq_dR t) (fun _ => nI 0) (ms.1 7)) (sq_G (sq_dR t) (fun _ => nI 0) (ms.1 8)) (sq_G (sq_dR t) (fun _ => nI 0) (ms.1 9)) (sq_G (sq_dR t) (fun _ => nI 0) (ms.1 10)) (sq_G (sq_dR t) (fun _ => nI 0) (ms.1 11)) (ms.2 0) (ms.2 1) 0 0 0 0 0 0 0 0 (ms.2 10)) := hD
        refine lv_aload_n hx hb dX1_clear_76 rfl (lv_at hl 1 rfl) ?_
        refine va_get (D := (dC, dI)) (ci := 1) (v := .ref (q 7)) (C := RX1) (T := TX1) (N := 23) hx hb hts hin hown hK hP 0 rfl rfl 18 (by decide) k36 (fun _ h9 => h9) rfl dX1_clear_77 ?_
        refine lv_iload_n hx hb dX1_clear_80 rfl (lv_at hl 0 rfl) ?_
        refine lv_iconst (v := nI 0) hx hb dX1_clear_81 (by decide +kernel) ?_
        refine sq_iast hx hb hK hP hD hS 8 0 rfl rfl (i := t) (by omega) (by decide) dX1_clear_82 (fun H locs hP hD hS => ?_)
        have hP : va_P (dC, dI) vwCl (wM h0 q cI cZ (ms.1 0) (ms.1 1) (ms.1 2) (ms.1 3) (ms.1 4) (sq_G (sq_dR 16) (fun _ => -1) (ms.1 5)) (upd (sq_G (sq_dR t) (fun _ => nI 0) (ms.1 6)) t (nI 0)) (upd (sq_G (sq_dR t) (fun _ => nI 0) (ms.1 7)) t (nI 0)) (sq_G (sq_dR t) (fun _ => nI 0) (ms.1 8)) (sq_G (sq_dR t) (fun _ => nI 0) (ms.1 9)) (sq_G (sq_dR t) (fun _ => nI 0) (ms.1 10)) (sq_G (sq_dR t) (fun _ => nI 0) (ms.1 11)) (ms.2 0) (ms.2 1) 0 0 0 0 0 0 0 0 (ms.2 10)) H := hP
        have hD : va_D A (wM h0 q cI cZ (ms.1 0) (ms.1 1) (ms.1 2) (ms.1 3) (ms.1 4) (sq_G (sq_dR 16) (fun _ => -1) (ms.1 5)) (upd (sq_G (sq_dR t) (fun _ => nI 0) (ms.1 6)) t (nI 0)) (upd (sq_G (sq_dR t) (fun _ => nI 0) (ms.1 7)) t (nI 0)) (sq_G (sq_dR t) (fun _ => nI 0) (ms.1 8)) (sq_G (sq_dR t) (fun _ => nI 0) (ms.1 9)) (sq_G (sq_dR t) (fun _ => nI 0) (ms.1 10)) (sq_G (sq_dR t) (fun _ => nI 0) (ms.1 11)) (ms.2 0) (ms.2 1) 0 0 0 0 0 0 0 0 (ms.2 10)) := hD
        refine lv_aload_n hx hb dX1_clear_83 rfl (lv_at hl 1 rfl) ?_
        refine va_get (D := (dC, dI)) (ci := 1) (v := .ref (q 8)) (C := RX1) (T := TX1) (N := 23) hx hb hts hin hown hK hP 0 rfl rfl 19 (by decide) k39 (fun _ h9 => h9) rfl dX1_clear_84 ?_
        refine lv_iload_n hx hb dX1_clear_87 rfl (lv_at hl 0 rfl) ?_
        refine lv_iconst (v := nI 0) hx hb dX1_clear_88 (by decide +kernel) ?_
        refine sq_iast hx hb hK hP hD hS 9 0 rfl rfl (i := t) (by omega) (by decide) dX1_clear_89 (fun H locs hP hD hS => ?_)
        have hP : va_P (dC, dI) vwCl (wM h0 q cI cZ (ms.1 0) (ms.1 1) (ms.1 2) (ms.1 3) (ms.1 4) (sq_G (sq_dR 16) (fun _ => -1) (ms.1 5)) (upd (sq_G (sq_dR t) (fun _ => nI 0) (ms.1 6)) t (nI 0)) (upd (sq_G (sq_dR t) (fun _ => nI 0) (ms.1 7)) t (nI 0)) (upd (sq_G (sq_dR t) (fun _ => nI 0) (ms.1 8)) t (nI 0)) (sq_G (sq_dR t) (fun _ => nI 0) (ms.1 9)) (sq_G (sq_dR t) (fun _ => nI 0) (ms.1 10)) (sq_G (sq_dR t) (fun _ => nI 0) (ms.1 11)) (ms.2 0) (ms.2 1) 0 0 0 0 0 0 0 0 (ms.2 10)) H := hP
        have hD : va_D A (wM h0 q cI cZ (ms.1 0) (ms.1 1) (ms.1 2) (ms.1 3) (ms.1 4) (sq_G (sq_dR 16) (fun _ => -1) (ms.1 5)) (upd (sq_G (sq_dR t) (fun _ => nI 0) (ms.1 6)) t (nI 0)) (upd (sq_G (sq_dR t) (fun _ => nI 0) (ms.1 7)) t (nI 0)) (upd (sq_G (sq_dR t) (fun _ => nI 0) (ms.1 8)) t (nI 0)) (sq_G (sq_dR t) (fun _ => nI 0) (ms.1 9)) (sq_G (sq_dR t) (fun _ => nI 0) (ms.1 10)) (sq_G (sq_dR t) (fun _ => nI 0) (ms.1 11)) (ms.2 0) (ms.2 1) 0 0 0 0 0 0 0 0 (ms.2 10)) := hD
        refine lv_aload_n hx hb dX1_clear_90 rfl (lv_at hl 1 rfl) ?_
        refine va_get (D := (dC, dI)) (ci := 1) (v := .ref (q 9)) (C := RX1) (T := TX1) (N := 23) hx hb hts hin hown hK hP 0 rfl rfl 20 (by decide) k42 (fun _ h9 => h9) rfl dX1_clear_91 ?_
        refine lv_iload_n hx hb dX1_clear_94 rfl (lv_at hl 0 rfl) ?_
        refine lv_iconst (v := nI 0) hx hb dX1_clear_95 (by decide +kernel) ?_
        refine sq_iast hx hb hK hP hD hS 10 0 rfl rfl (i := t) (by omega) (by decide) dX1_clear_96 (fun H locs hP hD hS => ?_)
        have hP : va_P (dC, dI) vwCl (wM h0 q cI cZ (ms.1 0) (ms.1 1) (ms.1 2) (ms.1 3) (ms.1 4) (sq_G (sq_dR 16) (fun _ => -1) (ms.1 5)) (upd (sq_G (sq_dR t) (fun _ => nI 0) (ms.1 6)) t (nI 0)) (upd (sq_G (sq_dR t) (fun _ => nI 0) (ms.1 7)) t (nI 0)) (upd (sq_G (sq_dR t) (fun _ => nI 0) (ms.1 8)) t (nI 0)) (upd (sq_G (sq_dR t) (fun _ => nI 0) (ms.1 9)) t (nI 0)) (sq_G (sq_dR t) (fun _ => nI 0) (ms.1 10)) (sq_G (sq_dR t) (fun _ => nI 0) (ms.1 11)) (ms.2 0) (ms.2 1) 0 0 0 0 0 0 0 0 (ms.2 10)) H := hP
        have hD : va_D A (wM h0 q cI cZ (ms.1 0) (ms.1 1) (ms.1 2) (ms.1 3) (ms.1 4) (sq_G (sq_dR 16) (fun _ => -1) (ms.1 5)) (upd (sq_G (sq_dR t) (fun _ => nI 0) (ms.1 6)) t (nI 0)) (upd (sq_G (sq_dR t) (fun _ => nI 0) (ms.1 7)) t (nI 0)) (upd (sq_G (sq_dR t) (fun _ => nI 0) (ms.1 8)) t (nI 0)) (upd (sq_G (sq_dR t) (fun _ => nI 0) (ms.1 9)) t (nI 0)) (sq_G (sq_dR t) (fun _ => nI 0) (ms.1 10)) (sq_G (sq_dR t) (fun _ => nI 0) (ms.1 11)) (ms.2 0) (ms.2 1) 0 0 0 0 0 0 0 0 (ms.2 10)) := hD
        refine lv_aload_n hx hb dX1_clear_97 rfl (lv_at hl 1 rfl) ?_
        refine va_get (D := (dC, dI)) (ci := 1) (v := .ref (q 10)) (C := RX1) (T := TX1) (N := 23) hx hb hts hin hown hK hP 0 rfl rfl 21 (by decide) k45 (fun _ h9 => h9) rfl dX1_clear_98 ?_
        refine lv_iload_n hx hb dX1_clear_101 rfl (lv_at hl 0 rfl) ?_
        refine lv_iconst (v := nI 0) hx hb dX1_clear_102 (by decide +kernel) ?_
        refine sq_zast hx hb hK hP hD hS 11 1 rfl rfl (i := t) (by omega) (by decide) (by decide) dX1_clear_103 (fun H locs hP hD hS => ?_)
        have hP : va_P (dC, dI) vwCl (wM h0 q cI cZ (ms.1 0) (ms.1 1) (ms.1 2) (ms.1 3) (ms.1 4) (sq_G (sq_dR 16) (fun _ => -1) (ms.1 5)) (upd (sq_G (sq_dR t) (fun _ => nI 0) (ms.1 6)) t (nI 0)) (upd (sq_G (sq_dR t) (fun _ => nI 0) (ms.1 7)) t (nI 0)) (upd (sq_G (sq_dR t) (fun _ => nI 0) (ms.1 8)) t (nI 0)) (upd (sq_G (sq_dR t) (fun _ => nI 0) (ms.1 9)) t (nI 0)) (upd (sq_G (sq_dR t) (fun _ => nI 0) (ms.1 10)) t (nI 0)) (sq_G (sq_dR t) (fun _ => nI 0) (ms.1 11)) (ms.2 0) (ms.2 1) 0 0 0 0 0 0 0 0 (ms.2 10)) H := hP
        have hD : va_D A (wM h0 q cI cZ (ms.1 0) (ms.1 1) (ms.1 2) (ms.1 3) (ms.1 4) (sq_G (sq_dR 16) (fun _ => -1) (ms.1 5)) (upd (sq_G (sq_dR t) (fun _ => nI 0) (ms.1 6)) t (nI 0)) (upd (sq_G (sq_dR t) (fun _ => nI 0) (ms.1 7)) t (nI 0)) (upd (sq_G (sq_dR t) (fun _ => nI 0) (ms.1 8)) t (nI 0)) (upd (sq_G (sq_dR t) (fun _ => nI 0) (ms.1 9)) t (nI 0)) (upd (sq_G (sq_dR t) (fun _ => nI 0) (ms.1 10)) t (nI 0)) (sq_G (sq_dR t) (fun _ => nI 0) (ms.1 11)) (ms.2 0) (ms.2 1) 0 0 0 0 0 0 0 0 (ms.2 10)) := hD
        refine lv_aload_n hx hb dX1_clear_104 rfl (lv_at hl 1 rfl) ?_
        refine va_get (D := (dC, dI)) (ci := 1) (v := .ref (q 11)) (C := RX1) (T := TX1) (N := 23) hx hb hts hin hown hK hP 0 rfl rfl 22 (by decide) k48 (fun _ h9 => h9) rfl dX1_clear_105 ?_
        refine lv_iload_n hx hb dX1_clear_108 rfl (lv_at hl 0 rfl) ?_
        refine lv_iconst (v := nI 0) hx hb dX1_clear_109 (by decide +kernel) ?_
        refine sq_zast hx hb hK hP hD hS 12 1 rfl rfl (i := t) (by omega) (by decide) (by decide) dX1_clear_110 (fun H locs hP hD hS => ?_)
        have hP : va_P (dC, dI) vwCl (wM h0 q cI cZ (ms.1 0) (ms.1 1) (ms.1 2) (ms.1 3) (ms.1 4) (sq_G (sq_dR 16) (fun _ => -1) (ms.1 5)) (upd (sq_G (sq_dR t) (fun _ => nI 0) (ms.1 6)) t (nI 0)) (upd (sq_G (sq_dR t) (fun _ => nI 0) (ms.1 7)) t (nI 0)) (upd (sq_G (sq_dR t) (fun _ => nI 0) (ms.1 8)) t (nI 0)) (upd (sq_G (sq_dR t) (fun _ => nI 0) (ms.1 9)) t (nI 0)) (upd (sq_G (sq_dR t) (fun _ => nI 0) (ms.1 10)) t (nI 0)) (upd (sq_G (sq_dR t) (fun _ => nI 0) (ms.1 11)) t (nI 0)) (ms.2 0) (ms.2 1) 0 0 0 0 0 0 0 0 (ms.2 10)) H := hP
        have hD : va_D A (wM h0 q cI cZ (ms.1 0) (ms.1 1) (ms.1 2) (ms.1 3) (ms.1 4) (sq_G (sq_dR 16) (fun _ => -1) (ms.1 5)) (upd (sq_G (sq_dR t) (fun _ => nI 0) (ms.1 6)) t (nI 0)) (upd (sq_G (sq_dR t) (fun _ => nI 0) (ms.1 7)) t (nI 0)) (upd (sq_G (sq_dR t) (fun _ => nI 0) (ms.1 8)) t (nI 0)) (upd (sq_G (sq_dR t) (fun _ => nI 0) (ms.1 9)) t (nI 0)) (upd (sq_G (sq_dR t) (fun _ => nI 0) (ms.1 10)) t (nI 0)) (upd (sq_G (sq_dR t) (fun _ => nI 0) (ms.1 11)) t (nI 0)) (ms.2 0) (ms.2 1) 0 0 0 0 0 0 0 0 (ms.2 10)) := hD
        have eA : upd (sq_G (sq_dR t) (fun _ => nI 0) (ms.1 6)) t (nI 0) = sq_G (sq_dR (t + 1)) (fun _ => nI 0) (ms.1 6) := sq_G_step rfl (sq_dR_step t)
        rw [eA] at hP hD
        clear eA
        have eA : upd (sq_G (sq_dR t) (fun _ => nI 0) (ms.1 7)) t (nI 0) = sq_G (sq_dR (t + 1)) (fun _ => nI 0) (ms.1 7) := sq_G_step rfl (sq_dR_step t)
        rw [eA] at hP hD
        clear eA
        have eA : upd (sq_G (sq_dR t) (fun _ => nI 0) (ms.1 8)) t (nI 0) = sq_G (sq_dR (t + 1)) (fun _ => nI 0) (ms.1 8) := sq_G_step rfl (sq_dR_step t)
        rw [eA] at hP hD
        clear eA
        have eA : upd (sq_G (sq_dR t) (fun _ => nI 0) (ms.1 9)) t (nI 0) = sq_G (sq_dR (t + 1)) (fun _ => nI 0) (ms.1 9) := sq_G_step rfl (sq_dR_step t)
        rw [eA] at hP hD
        clear eA
        have eA : upd (sq_G (sq_dR t) (fun _ => nI 0) (ms.1 10)) t (nI 0) = sq_G (sq_dR (t + 1)) (fun _ => nI 0) (ms.1 10) := sq_G_step rfl (sq_dR_step t)
        rw [eA] at hP hD
        clear eA
        have eA : upd (sq_G (sq_dR t) (fun _ => nI 0) (ms.1 11)) t (nI 0) = sq_G (sq_dR (t + 1)) (fun _ => nI 0) (ms.1 11) := sq_G_step rfl (sq_dR_step t)
        rw [eA] at hP hD
        clear eA
        refine lv_iinc (v := nI (t + 1)) (lv' := [(1, .int (nI (t + 1))), (0, .ref h0)]) hx hb dX1_clear_111 hl (k := 0) rfl (sq_inc _) (by decide) rfl (fun ls hl => ?_)
        refine lv_goto (tgt := 63) hx hb dX1_clear_114 (by decide) ?_
        exact ih (j - 1) (by omega) (t + 1) (by omega) H locs ls hP hD hS hl
  have L1 : ∀ j t : Nat, t + j = 16 → ∀ (H : Heap) (locs : List Loc) (ls : Array Slot), va_P (dC, dI) vwCl (wM h0 q cI cZ (ms.1 0) (ms.1 1) (ms.1 2) (ms.1 3) (ms.1 4) (sq_G (sq_dR t) (fun _ => -1) (ms.1 5)) (ms.1 6) (ms.1 7) (ms.1 8) (ms.1 9) (ms.1 10) (ms.1 11) (ms.2 0) (ms.2 1) 0 0 0 0 0 0 0 0 (ms.2 10)) H → va_D A (wM h0 q cI cZ (ms.1 0) (ms.1 1) (ms.1 2) (ms.1 3) (ms.1 4) (sq_G (sq_dR t) (fun _ => -1) (ms.1 5)) (ms.1 6) (ms.1 7) (ms.1 8) (ms.1 9) (ms.1 10) (ms.1 11) (ms.2 0) (ms.2 1) 0 0 0 0 0 0 0 0 (ms.2 10)) → va_S A s.heap H locs → lv_has ls 2 [(1, .int (nI t)), (0, .ref h0)] → W p l e rmm_clear s m args below meth c H locs 0 0 Q (F0 m 42 ls []) := by
    intro j
    induction j using Nat.strongRecOn with
    | _ j ih =>
      intro t ht H locs ls hP hD hS hl
      refine lv_iload_n hx hb dX1_clear_42 rfl (lv_at hl 0 rfl) ?_
      refine lv_bipush (v := nI 16) hx hb dX1_clear_43 (by decide +kernel) ?_
      refine sq_icmp_ge (tgt := 61) hx hb (by omega) (by omega) dX1_clear_45 (by decide) (fun hc => ?_) (fun hc => ?_)
      · rw [show t = 16 by omega] at hP hD
        refine lv_iconst (v := nI 0) hx hb dX1_clear_61 (by decide +kernel) ?_
        refine lv_istore_n (lv' := [(1, .int (nI 0)), (0, .ref h0)]) hx hb dX1_clear_62 rfl hl (by decide) rfl (fun ls hl => ?_)
        have e9 : (wM h0 q cI cZ (ms.1 0) (ms.1 1) (ms.1 2) (ms.1 3) (ms.1 4) (sq_G (sq_dR 16) (fun _ => -1) (ms.1 5)) (sq_G (sq_dR 0) (fun _ => nI 0) (ms.1 6)) (sq_G (sq_dR 0) (fun _ => nI 0) (ms.1 7)) (sq_G (sq_dR 0) (fun _ => nI 0) (ms.1 8)) (sq_G (sq_dR 0) (fun _ => nI 0) (ms.1 9)) (sq_G (sq_dR 0) (fun _ => nI 0) (ms.1 10)) (sq_G (sq_dR 0) (fun _ => nI 0) (ms.1 11)) (ms.2 0) (ms.2 1) 0 0 0 0 0 0 0 0 (ms.2 10)) = (wM h0 q cI cZ (ms.1 0) (ms.1 1) (ms.1 2) (ms.1 3) (ms.1 4) (sq_G (sq_dR 16) (fun _ => -1) (ms.1 5)) (ms.1 6) (ms.1 7) (ms.1 8) (ms.1 9) (ms.1 10) (ms.1 11) (ms.2 0) (ms.2 1) 0 0 0 0 0 0 0 0 (ms.2 10)) := by simp only [sq_G_none (d := sq_dR 0) (fun j => by simp [sq_dR])]
        rw [← e9] at hP hD
        exact L2 36 0 (by omega) H locs ls hP hD hS (lv_sub hl [0, 1] rfl)
      · refine lv_aload_n hx hb dX1_clear_48 rfl (lv_at hl 1 rfl) ?_
        refine va_get (D := (dC, dI)) (ci := 1) (v := .ref (q 5)) (C := RX1) (T := TX1) (N := 23) hx hb hts hin hown hK hP 0 rfl rfl 16 (by decide) k30 (fun _ h9 => h9) rfl dX1_clear_49 ?_
        refine lv_iload_n hx hb dX1_clear_52 rfl (lv_at hl 0 rfl) ?_
        refine lv_iconst (v := (-1)) hx hb dX1_clear_53 (by decide +kernel) ?_
        refine sq_iast hx hb hK hP hD hS 6 0 rfl rfl (i := t) (by omega) (by decide) dX1_clear_54 (fun H locs hP hD hS => ?_)
        have hP : va_P (dC, dI) vwCl (wM h0 q cI cZ (ms.1 0) (ms.1 1) (ms.1 2) (ms.1 3) (ms.1 4) (upd (sq_G (sq_dR t) (fun _ => -1) (ms.1 5)) t (-1)) (ms.1 6) (ms.1 7) (ms.1 8) (ms.1 9) (ms.1 10) (ms.1 11) (ms.2 0) (ms.2 1) 0 0 0 0 0 0 0 0 (ms.2 10)) H := hP
        have hD : va_D A (wM h0 q cI cZ (ms.1 0) (ms.1 1) (ms.1 2) (ms.1 3) (ms.1 4) (upd (sq_G (sq_dR t) (fun _ => -1) (ms.1 5)) t (-1)) (ms.1 6) (ms.1 7) (ms.1 8) (ms.1 9) (ms.1 10) (ms.1 11) (ms.2 0) (ms.2 1) 0 0 0 0 0 0 0 0 (ms.2 10)) := hD
        have eA : upd (sq_G (sq_dR t) (fun _ => -1) (ms.1 5)) t (-1) = sq_G (sq_dR (t + 1)) (fun _ => -1) (ms.1 5) := sq_G_step rfl (sq_dR_step t)
        rw [eA] at hP hD
        clear eA
        refine lv_iinc (v := nI (t + 1)) (lv' := [(1, .int (nI (t + 1))), (0, .ref h0)]) hx hb dX1_clear_55 hl (k := 0) rfl (sq_inc _) (by decide) rfl (fun ls hl => ?_)
        refine lv_goto (tgt := 42) hx hb dX1_clear_58 (by decide) ?_
        exact ih (j - 1) (by omega) (t + 1) (by omega) H locs ls hP hD hS hl
  have e9 : (wM h0 q cI cZ (ms.1 0) (ms.1 1) (ms.1 2) (ms.1 3) (ms.1 4) (sq_G (sq_dR 0) (fun _ => -1) (ms.1 5)) (ms.1 6) (ms.1 7) (ms.1 8) (ms.1 9) (ms.1 10) (ms.1 11) (ms.2 0) (ms.2 1) 0 0 0 0 0 0 0 0 (ms.2 10)) = (wM h0 q cI cZ (ms.1 0) (ms.1 1) (ms.1 2) (ms.1 3) (ms.1 4) (ms.1 5) (ms.1 6) (ms.1 7) (ms.1 8) (ms.1 9) (ms.1 10) (ms.1 11) (ms.2 0) (ms.2 1) 0 0 0 0 0 0 0 0 (ms.2 10)) := by simp only [sq_G_none (d := sq_dR 0) (fun j => by simp [sq_dR])]
  rw [← e9] at hP hD
  exact L1 16 0 (by omega) _ _ ls hP hD hS hl
def sq_mkB (x : Int32) : Nat := sq_rf (!decide (¬ x < nI 1 ∧ ¬ nI 6 < x)) false
def sq_mB (ms : SqS) (x : Int32) : SqS := if sq_mkB x = 0 then sq_mclr (sq_mt ms 0) (sq_vec x) else sq_mt ms (sq_mkB x)
def rmm_begin : Room := { frames := 1, cells := 0, slots := 0, locals := 22 }
set_option maxHeartbeats 4000000 in
set_option maxRecDepth 100000 in
theorem k_begin (l : Launch) (dC : Nat → ClassId) (dI : Nat → Nat → Nat) (h0 : Nat) (q : Nat → Nat) (cI cZ : ClassId) (ms : SqS) (x : Int32)  : sq_Mv l yX1_begin wsX1_begin rmm_begin [.ref h0, .int x] (dC, dI) vwCl [(cI, .int), (cZ, .boolean)] (wM h0 q cI cZ (ms.1 0) (ms.1 1) (ms.1 2) (ms.1 3) (ms.1 4) (ms.1 5) (ms.1 6) (ms.1 7) (ms.1 8) (ms.1 9) (ms.1 10) (ms.1 11) (ms.2 0) (ms.2 1) (ms.2 2) (ms.2 3) (ms.2 4) (ms.2 5) (ms.2 6) (ms.2 7) (ms.2 8) (ms.2 9) (ms.2 10)) (wM h0 q cI cZ ((sq_mB ms x).1 0) ((sq_mB ms x).1 1) ((sq_mB ms x).1 2) ((sq_mB ms x).1 3) ((sq_mB ms x).1 4) ((sq_mB ms x).1 5) ((sq_mB ms x).1 6) ((sq_mB ms x).1 7) ((sq_mB ms x).1 8) ((sq_mB ms x).1 9) ((sq_mB ms x).1 10) ((sq_mB ms x).1 11) ((sq_mB ms x).2 0) ((sq_mB ms x).2 1) ((sq_mB ms x).2 2) ((sq_mB ms x).2 3) ((sq_mB ms x).2 4) ((sq_mB ms x).2 5) ((sq_mB ms x).2 6) ((sq_mB ms x).2 7) ((sq_mB ms x).2 8) ((sq_mB ms x).2 9) ((sq_mB ms x).2 10)) := by
  refine sq_ofWv (cc := cX1_begin) (maxL := 2) (by decide) rfl (Nat.le_of_ble_eq_true rfl) ?_
  intro p e s m args below meth c A ls Q hx hb hts hown hml hK hP hD hS hA hl hend
  have hl : lv_has ls 2 [(0, .ref h0), (1, .int x)] := hl
  have hin : ∀ w ∈ u_ws RX1 TX1 23, w ∈ wsX1_begin := fun w h => List.mem_cons_of_mem _ (inX1 w h)
  have k7 := hts _ (List.mem_cons_of_mem _ mfX1_7)
  have T16 : ∀ (b : Bool) (H : Heap) (locs : List Loc) (ls : Array Slot), b = !decide (¬ x < nI 1 ∧ ¬ nI 6 < x) → va_P (dC, dI) vwCl (wM h0 q cI cZ (ms.1 0) (ms.1 1) (ms.1 2) (ms.1 3) (ms.1 4) (ms.1 5) (ms.1 6) (ms.1 7) (ms.1 8) (ms.1 9) (ms.1 10) (ms.1 11) (ms.2 0) (ms.2 1) (ms.2 2) (ms.2 3) (ms.2 4) (ms.2 5) (ms.2 6) (ms.2 7) (ms.2 8) (ms.2 9) (ms.2 10)) H → va_D A (wM h0 q cI cZ (ms.1 0) (ms.1 1) (ms.1 2) (ms.1 3) (ms.1 4) (ms.1 5) (ms.1 6) (ms.1 7) (ms.1 8) (ms.1 9) (ms.1 10) (ms.1 11) (ms.2 0) (ms.2 1) (ms.2 2) (ms.2 3) (ms.2 4) (ms.2 5) (ms.2 6) (ms.2 7) (ms.2 8) (ms.2 9) (ms.2 10)) → va_S A s.heap H locs → lv_has ls 2 [(0, .ref h0), (1, .int x)] → W p l e rmm_begin s m args below meth c H locs 0 0 Q (F0 m 16 ls [.int (sq_b b), .ref h0]) := by
    intro b H locs ls hpre hP hD hS hl
    subst hpre
    refine lv_iconst (v := nI 0) hx hb dX1_begin_16 (by decide +kernel) ?_
    refine sq_calli (As := [.int (sq_b (!decide (¬ x < nI 1 ∧ ¬ nI 6 < x))), .int (sq_b false)]) (k_refuse l dC dI h0 q cI cZ (ms.1 0) (ms.1 1) (ms.1 2) (ms.1 3) (ms.1 4) (ms.1 5) (ms.1 6) (ms.1 7) (ms.1 8) (ms.1 9) (ms.1 10) (ms.1 11) (ms.2 0) (ms.2 1) (ms.2 2) (ms.2 3) (ms.2 4) (ms.2 5) (ms.2 6) (ms.2 7) (ms.2 8) (ms.2 9) (ms.2 10) (!decide (¬ x < nI 1 ∧ ¬ nI 6 < x)) false) ⟨hx, hb, hml, hown, hts⟩ (cwV 2 hts (sq_good gvX1_86) rfl rfl rfl (by decide +kernel) ⟨Nat.le_of_ble_eq_true rfl, Nat.le_of_ble_eq_true rfl⟩) hK hP hD hS hA rfl rfl rfl rfl hl.1 rfl (Nat.le_of_ble_eq_true rfl) dX1_begin_17 ⟨Nat.zero_le _, Nat.zero_le _⟩ (fun H locs hP hD hS => ?_)
    refine lv_if_ne (tgt := 32) hx hb dX1_begin_20 (by decide) (fun hc => ?_) (fun hc => ?_)
    · have hP : va_P (dC, dI) vwCl (wM h0 q cI cZ ((sq_mt ms (sq_mkB x)).1 0) ((sq_mt ms (sq_mkB x)).1 1) ((sq_mt ms (sq_mkB x)).1 2) ((sq_mt ms (sq_mkB x)).1 3) ((sq_mt ms (sq_mkB x)).1 4) ((sq_mt ms (sq_mkB x)).1 5) ((sq_mt ms (sq_mkB x)).1 6) ((sq_mt ms (sq_mkB x)).1 7) ((sq_mt ms (sq_mkB x)).1 8) ((sq_mt ms (sq_mkB x)).1 9) ((sq_mt ms (sq_mkB x)).1 10) ((sq_mt ms (sq_mkB x)).1 11) ((sq_mt ms (sq_mkB x)).2 0) ((sq_mt ms (sq_mkB x)).2 1) ((sq_mt ms (sq_mkB x)).2 2) ((sq_mt ms (sq_mkB x)).2 3) ((sq_mt ms (sq_mkB x)).2 4) ((sq_mt ms (sq_mkB x)).2 5) ((sq_mt ms (sq_mkB x)).2 6) ((sq_mt ms (sq_mkB x)).2 7) ((sq_mt ms (sq_mkB x)).2 8) ((sq_mt ms (sq_mkB x)).2 9) ((sq_mt ms (sq_mkB x)).2 10)) H := hP
      have hD : va_D A (wM h0 q cI cZ ((sq_mt ms (sq_mkB x)).1 0) ((sq_mt ms (sq_mkB x)).1 1) ((sq_mt ms (sq_mkB x)).1 2) ((sq_mt ms (sq_mkB x)).1 3) ((sq_mt ms (sq_mkB x)).1 4) ((sq_mt ms (sq_mkB x)).1 5) ((sq_mt ms (sq_mkB x)).1 6) ((sq_mt ms (sq_mkB x)).1 7) ((sq_mt ms (sq_mkB x)).1 8) ((sq_mt ms (sq_mkB x)).1 9) ((sq_mt ms (sq_mkB x)).1 10) ((sq_mt ms (sq_mkB x)).1 11) ((sq_mt ms (sq_mkB x)).2 0) ((sq_mt ms (sq_mkB x)).2 1) ((sq_mt ms (sq_mkB x)).2 2) ((sq_mt ms (sq_mkB x)).2 3) ((sq_mt ms (sq_mkB x)).2 4) ((sq_mt ms (sq_mkB x)).2 5) ((sq_mt ms (sq_mkB x)).2 6) ((sq_mt ms (sq_mkB x)).2 7) ((sq_mt ms (sq_mkB x)).2 8) ((sq_mt ms (sq_mkB x)).2 9) ((sq_mt ms (sq_mkB x)).2 10)) := hD
      have e9 : sq_mB ms x = sq_mt ms (sq_mkB x) := by unfold sq_mB; rw [if_neg (fun h => by have h2 : 0 < sq_mkB x := sq_bnd hc; omega)]
      rw [← e9] at hP hD
      exact hend _ _ _ _ hP hD hS dX1_begin_32
    · have hk : sq_mkB x = 0 := by have h2 : ¬ 0 < sq_mkB x := sq_b0d hc; omega
      have hp : ¬ x < nI 1 ∧ ¬ nI 6 < x := Decidable.byContradiction (fun h => by unfold sq_mkB at hk; rw [decide_eq_false h] at hk; exact absurd hk (by decide))
      obtain ⟨n, hn, rfl⟩ := nI_of (x := x) (fun h => hp.1 (by rw [Int32.lt_iff_toInt_lt] at h ⊢; rw [nI_toInt (by decide)]; rw [Int32.toInt_zero] at h; omega))
      have hP : va_P (dC, dI) vwCl (wM h0 q cI cZ (ms.1 0) (ms.1 1) (ms.1 2) (ms.1 3) (ms.1 4) (ms.1 5) (ms.1 6) (ms.1 7) (ms.1 8) (ms.1 9) (ms.1 10) (ms.1 11) (sq_mkB (nI n)) (ms.2 1) (ms.2 2) (ms.2 3) (ms.2 4) (ms.2 5) (ms.2 6) (ms.2 7) (ms.2 8) (ms.2 9) (ms.2 10)) H := hP
      have hD : va_D A (wM h0 q cI cZ (ms.1 0) (ms.1 1) (ms.1 2) (ms.1 3) (ms.1 4) (ms.1 5) (ms.1 6) (ms.1 7) (ms.1 8) (ms.1 9) (ms.1 10) (ms.1 11) (sq_mkB (nI n)) (ms.2 1) (ms.2 2) (ms.2 3) (ms.2 4) (ms.2 5) (ms.2 6) (ms.2 7) (ms.2 8) (ms.2 9) (ms.2 10)) := hD
      rw [hk] at hP hD
      refine lv_aload_n hx hb dX1_begin_23 rfl (lv_at hl 0 rfl) ?_
      refine lv_iload_n hx hb dX1_begin_24 rfl (lv_at hl 1 rfl) ?_
      refine va_put (D := (dC, dI)) (ci := 1) (v := .int (nI n)) (ty := .int) (C := RX1) (T := TX1) (N := 23) hx hb hts hin tyX1 tyX1_ok nmX1 hown hK hP hD hS 0 rfl rfl 1 (by decide) k7 (fun _ h9 => h9) rfl (by decide +kernel) rfl rfl (Nat.le_of_ble_eq_true rfl) dX1_begin_25 (fun H locs hP hD hS => ?_)
      have hP : va_P (dC, dI) vwCl (wM h0 q cI cZ (ms.1 0) (ms.1 1) (ms.1 2) (ms.1 3) (ms.1 4) (ms.1 5) (ms.1 6) (ms.1 7) (ms.1 8) (ms.1 9) (ms.1 10) (ms.1 11) 0 n (ms.2 2) (ms.2 3) (ms.2 4) (ms.2 5) (ms.2 6) (ms.2 7) (ms.2 8) (ms.2 9) (ms.2 10)) H := hP
      have hD : va_D A (wM h0 q cI cZ (ms.1 0) (ms.1 1) (ms.1 2) (ms.1 3) (ms.1 4) (ms.1 5) (ms.1 6) (ms.1 7) (ms.1 8) (ms.1 9) (ms.1 10) (ms.1 11) 0 n (ms.2 2) (ms.2 3) (ms.2 4) (ms.2 5) (ms.2 6) (ms.2 7) (ms.2 8) (ms.2 9) (ms.2 10)) := hD
      refine lv_aload_n hx hb dX1_begin_28 rfl (lv_at hl 0 rfl) ?_
      have hP : va_P (dC, dI) vwCl (wM h0 q cI cZ ((sq_mm (ms.1 0) (ms.1 1) (ms.1 2) (ms.1 3) (ms.1 4) (ms.1 5) (ms.1 6) (ms.1 7) (ms.1 8) (ms.1 9) (ms.1 10) (ms.1 11) 0 n (ms.2 2) (ms.2 3) (ms.2 4) (ms.2 5) (ms.2 6) (ms.2 7) (ms.2 8) (ms.2 9) (ms.2 10)).1 0) ((sq_mm (ms.1 0) (ms.1 1) (ms.1 2) (ms.1 3) (ms.1 4) (ms.1 5) (ms.1 6) (ms.1 7) (ms.1 8) (ms.1 9) (ms.1 10) (ms.1 11) 0 n (ms.2 2) (ms.2 3) (ms.2 4) (ms.2 5) (ms.2 6) (ms.2 7) (ms.2 8) (ms.2 9) (ms.2 10)).1 1) ((sq_mm (ms.1 0) (ms.1 1) (ms.1 2) (ms.1 3) (ms.1 4) (ms.1 5) (ms.1 6) (ms.1 7) (ms.1 8) (ms.1 9) (ms.1 10) (ms.1 11) 0 n (ms.2 2) (ms.2 3) (ms.2 4) (ms.2 5) (ms.2 6) (ms.2 7) (ms.2 8) (ms.2 9) (ms.2 10)).1 2) ((sq_mm (ms.1 0) (ms.1 1) (ms.1 2) (ms.1 3) (ms.1 4) (ms.1 5) (ms.1 6) (ms.1 7) (ms.1 8) (ms.1 9) (ms.1 10) (ms.1 11) 0 n (ms.2 2) (ms.2 3) (ms.2 4) (ms.2 5) (ms.2 6) (ms.2 7) (ms.2 8) (ms.2 9) (ms.2 10)).1 3) ((sq_mm (ms.1 0) (ms.1 1) (ms.1 2) (ms.1 3) (ms.1 4) (ms.1 5) (ms.1 6) (ms.1 7) (ms.1 8) (ms.1 9) (ms.1 10) (ms.1 11) 0 n (ms.2 2) (ms.2 3) (ms.2 4) (ms.2 5) (ms.2 6) (ms.2 7) (ms.2 8) (ms.2 9) (ms.2 10)).1 4) ((sq_mm (ms.1 0) (ms.1 1) (ms.1 2) (ms.1 3) (ms.1 4) (ms.1 5) (ms.1 6) (ms.1 7) (ms.1 8) (ms.1 9) (ms.1 10) (ms.1 11) 0 n (ms.2 2) (ms.2 3) (ms.2 4) (ms.2 5) (ms.2 6) (ms.2 7) (ms.2 8) (ms.2 9) (ms.2 10)).1 5) ((sq_mm (ms.1 0) (ms.1 1) (ms.1 2) (ms.1 3) (ms.1 4) (ms.1 5) (ms.1 6) (ms.1 7) (ms.1 8) (ms.1 9) (ms.1 10) (ms.1 11) 0 n (ms.2 2) (ms.2 3) (ms.2 4) (ms.2 5) (ms.2 6) (ms.2 7) (ms.2 8) (ms.2 9) (ms.2 10)).1 6) ((sq_mm (ms.1 0) (ms.1 1) (ms.1 2) (ms.1 3) (ms.1 4) (ms.1 5) (ms.1 6) (ms.1 7) (ms.1 8) (ms.1 9) (ms.1 10) (ms.1 11) 0 n (ms.2 2) (ms.2 3) (ms.2 4) (ms.2 5) (ms.2 6) (ms.2 7) (ms.2 8) (ms.2 9) (ms.2 10)).1 7) ((sq_mm (ms.1 0) (ms.1 1) (ms.1 2) (ms.1 3) (ms.1 4) (ms.1 5) (ms.1 6) (ms.1 7) (ms.1 8) (ms.1 9) (ms.1 10) (ms.1 11) 0 n (ms.2 2) (ms.2 3) (ms.2 4) (ms.2 5) (ms.2 6) (ms.2 7) (ms.2 8) (ms.2 9) (ms.2 10)).1 8) ((sq_mm (ms.1 0) (ms.1 1) (ms.1 2) (ms.1 3) (ms.1 4) (ms.1 5) (ms.1 6) (ms.1 7) (ms.1 8) (ms.1 9) (ms.1 10) (ms.1 11) 0 n (ms.2 2) (ms.2 3) (ms.2 4) (ms.2 5) (ms.2 6) (ms.2 7) (ms.2 8) (ms.2 9) (ms.2 10)).1 9) ((sq_mm (ms.1 0) (ms.1 1) (ms.1 2) (ms.1 3) (ms.1 4) (ms.1 5) (ms.1 6) (ms.1 7) (ms.1 8) (ms.1 9) (ms.1 10) (ms.1 11) 0 n (ms.2 2) (ms.2 3) (ms.2 4) (ms.2 5) (ms.2 6) (ms.2 7) (ms.2 8) (ms.2 9) (ms.2 10)).1 10) ((sq_mm (ms.1 0) (ms.1 1) (ms.1 2) (ms.1 3) (ms.1 4) (ms.1 5) (ms.1 6) (ms.1 7) (ms.1 8) (ms.1 9) (ms.1 10) (ms.1 11) 0 n (ms.2 2) (ms.2 3) (ms.2 4) (ms.2 5) (ms.2 6) (ms.2 7) (ms.2 8) (ms.2 9) (ms.2 10)).1 11) ((sq_mm (ms.1 0) (ms.1 1) (ms.1 2) (ms.1 3) (ms.1 4) (ms.1 5) (ms.1 6) (ms.1 7) (ms.1 8) (ms.1 9) (ms.1 10) (ms.1 11) 0 n (ms.2 2) (ms.2 3) (ms.2 4) (ms.2 5) (ms.2 6) (ms.2 7) (ms.2 8) (ms.2 9) (ms.2 10)).2 0) ((sq_mm (ms.1 0) (ms.1 1) (ms.1 2) (ms.1 3) (ms.1 4) (ms.1 5) (ms.1 6) (ms.1 7) (ms.1 8) (ms.1 9) (ms.1 10) (ms.1 11) 0 n (ms.2 2) (ms.2 3) (ms.2 4) (ms.2 5) (ms.2 6) (ms.2 7) (ms.2 8) (ms.2 9) (ms.2 10)).2 1) ((sq_mm (ms.1 0) (ms.1 1) (ms.1 2) (ms.1 3) (ms.1 4) (ms.1 5) (ms.1 6) (ms.1 7) (ms.1 8) (ms.1 9) (ms.1 10) (ms.1 11) 0 n (ms.2 2) (ms.2 3) (ms.2 4) (ms.2 5) (ms.2 6) (ms.2 7) (ms.2 8) (ms.2 9) (ms.2 10)).2 2) ((sq_mm (ms.1 0) (ms.1 1) (ms.1 2) (ms.1 3) (ms.1 4) (ms.1 5) (ms.1 6) (ms.1 7) (ms.1 8) (ms.1 9) (ms.1 10) (ms.1 11) 0 n (ms.2 2) (ms.2 3) (ms.2 4) (ms.2 5) (ms.2 6) (ms.2 7) (ms.2 8) (ms.2 9) (ms.2 10)).2 3) ((sq_mm (ms.1 0) (ms.1 1) (ms.1 2) (ms.1 3) (ms.1 4) (ms.1 5) (ms.1 6) (ms.1 7) (ms.1 8) (ms.1 9) (ms.1 10) (ms.1 11) 0 n (ms.2 2) (ms.2 3) (ms.2 4) (ms.2 5) (ms.2 6) (ms.2 7) (ms.2 8) (ms.2 9) (ms.2 10)).2 4) ((sq_mm (ms.1 0) (ms.1 1) (ms.1 2) (ms.1 3) (ms.1 4) (ms.1 5) (ms.1 6) (ms.1 7) (ms.1 8) (ms.1 9) (ms.1 10) (ms.1 11) 0 n (ms.2 2) (ms.2 3) (ms.2 4) (ms.2 5) (ms.2 6) (ms.2 7) (ms.2 8) (ms.2 9) (ms.2 10)).2 5) ((sq_mm (ms.1 0) (ms.1 1) (ms.1 2) (ms.1 3) (ms.1 4) (ms.1 5) (ms.1 6) (ms.1 7) (ms.1 8) (ms.1 9) (ms.1 10) (ms.1 11) 0 n (ms.2 2) (ms.2 3) (ms.2 4) (ms.2 5) (ms.2 6) (ms.2 7) (ms.2 8) (ms.2 9) (ms.2 10)).2 6) ((sq_mm (ms.1 0) (ms.1 1) (ms.1 2) (ms.1 3) (ms.1 4) (ms.1 5) (ms.1 6) (ms.1 7) (ms.1 8) (ms.1 9) (ms.1 10) (ms.1 11) 0 n (ms.2 2) (ms.2 3) (ms.2 4) (ms.2 5) (ms.2 6) (ms.2 7) (ms.2 8) (ms.2 9) (ms.2 10)).2 7) ((sq_mm (ms.1 0) (ms.1 1) (ms.1 2) (ms.1 3) (ms.1 4) (ms.1 5) (ms.1 6) (ms.1 7) (ms.1 8) (ms.1 9) (ms.1 10) (ms.1 11) 0 n (ms.2 2) (ms.2 3) (ms.2 4) (ms.2 5) (ms.2 6) (ms.2 7) (ms.2 8) (ms.2 9) (ms.2 10)).2 8) ((sq_mm (ms.1 0) (ms.1 1) (ms.1 2) (ms.1 3) (ms.1 4) (ms.1 5) (ms.1 6) (ms.1 7) (ms.1 8) (ms.1 9) (ms.1 10) (ms.1 11) 0 n (ms.2 2) (ms.2 3) (ms.2 4) (ms.2 5) (ms.2 6) (ms.2 7) (ms.2 8) (ms.2 9) (ms.2 10)).2 9) ((sq_mm (ms.1 0) (ms.1 1) (ms.1 2) (ms.1 3) (ms.1 4) (ms.1 5) (ms.1 6) (ms.1 7) (ms.1 8) (ms.1 9) (ms.1 10) (ms.1 11) 0 n (ms.2 2) (ms.2 3) (ms.2 4) (ms.2 5) (ms.2 6) (ms.2 7) (ms.2 8) (ms.2 9) (ms.2 10)).2 10)) H := hP
      have hD : va_D A (wM h0 q cI cZ ((sq_mm (ms.1 0) (ms.1 1) (ms.1 2) (ms.1 3) (ms.1 4) (ms.1 5) (ms.1 6) (ms.1 7) (ms.1 8) (ms.1 9) (ms.1 10) (ms.1 11) 0 n (ms.2 2) (ms.2 3) (ms.2 4) (ms.2 5) (ms.2 6) (ms.2 7) (ms.2 8) (ms.2 9) (ms.2 10)).1 0) ((sq_mm (ms.1 0) (ms.1 1) (ms.1 2) (ms.1 3) (ms.1 4) (ms.1 5) (ms.1 6) (ms.1 7) (ms.1 8) (ms.1 9) (ms.1 10) (ms.1 11) 0 n (ms.2 2) (ms.2 3) (ms.2 4) (ms.2 5) (ms.2 6) (ms.2 7) (ms.2 8) (ms.2 9) (ms.2 10)).1 1) ((sq_mm (ms.1 0) (ms.1 1) (ms.1 2) (ms.1 3) (ms.1 4) (ms.1 5) (ms.1 6) (ms.1 7) (ms.1 8) (ms.1 9) (ms.1 10) (ms.1 11) 0 n (ms.2 2) (ms.2 3) (ms.2 4) (ms.2 5) (ms.2 6) (ms.2 7) (ms.2 8) (ms.2 9) (ms.2 10)).1 2) ((sq_mm (ms.1 0) (ms.1 1) (ms.1 2) (ms.1 3) (ms.1 4) (ms.1 5) (ms.1 6) (ms.1 7) (ms.1 8) (ms.1 9) (ms.1 10) (ms.1 11) 0 n (ms.2 2) (ms.2 3) (ms.2 4) (ms.2 5) (ms.2 6) (ms.2 7) (ms.2 8) (ms.2 9) (ms.2 10)).1 3) ((sq_mm (ms.1 0) (ms.1 1) (ms.1 2) (ms.1 3) (ms.1 4) (ms.1 5) (ms.1 6) (ms.1 7) (ms.1 8) (ms.1 9) (ms.1 10) (ms.1 11) 0 n (ms.2 2) (ms.2 3) (ms.2 4) (ms.2 5) (ms.2 6) (ms.2 7) (ms.2 8) (ms.2 9) (ms.2 10)).1 4) ((sq_mm (ms.1 0) (ms.1 1) (ms.1 2) (ms.1 3) (ms.1 4) (ms.1 5) (ms.1 6) (ms.1 7) (ms.1 8) (ms.1 9) (ms.1 10) (ms.1 11) 0 n (ms.2 2) (ms.2 3) (ms.2 4) (ms.2 5) (ms.2 6) (ms.2 7) (ms.2 8) (ms.2 9) (ms.2 10)).1 5) ((sq_mm (ms.1 0) (ms.1 1) (ms.1 2) (ms.1 3) (ms.1 4) (ms.1 5) (ms.1 6) (ms.1 7) (ms.1 8) (ms.1 9) (ms.1 10) (ms.1 11) 0 n (ms.2 2) (ms.2 3) (ms.2 4) (ms.2 5) (ms.2 6) (ms.2 7) (ms.2 8) (ms.2 9) (ms.2 10)).1 6) ((sq_mm (ms.1 0) (ms.1 1) (ms.1 2) (ms.1 3) (ms.1 4) (ms.1 5) (ms.1 6) (ms.1 7) (ms.1 8) (ms.1 9) (ms.1 10) (ms.1 11) 0 n (ms.2 2) (ms.2 3) (ms.2 4) (ms.2 5) (ms.2 6) (ms.2 7) (ms.2 8) (ms.2 9) (ms.2 10)).1 7) ((sq_mm (ms.1 0) (ms.1 1) (ms.1 2) (ms.1 3) (ms.1 4) (ms.1 5) (ms.1 6) (ms.1 7) (ms.1 8) (ms.1 9) (ms.1 10) (ms.1 11) 0 n (ms.2 2) (ms.2 3) (ms.2 4) (ms.2 5) (ms.2 6) (ms.2 7) (ms.2 8) (ms.2 9) (ms.2 10)).1 8) ((sq_mm (ms.1 0) (ms.1 1) (ms.1 2) (ms.1 3) (ms.1 4) (ms.1 5) (ms.1 6) (ms.1 7) (ms.1 8) (ms.1 9) (ms.1 10) (ms.1 11) 0 n (ms.2 2) (ms.2 3) (ms.2 4) (ms.2 5) (ms.2 6) (ms.2 7) (ms.2 8) (ms.2 9) (ms.2 10)).1 9) ((sq_mm (ms.1 0) (ms.1 1) (ms.1 2) (ms.1 3) (ms.1 4) (ms.1 5) (ms.1 6) (ms.1 7) (ms.1 8) (ms.1 9) (ms.1 10) (ms.1 11) 0 n (ms.2 2) (ms.2 3) (ms.2 4) (ms.2 5) (ms.2 6) (ms.2 7) (ms.2 8) (ms.2 9) (ms.2 10)).1 10) ((sq_mm (ms.1 0) (ms.1 1) (ms.1 2) (ms.1 3) (ms.1 4) (ms.1 5) (ms.1 6) (ms.1 7) (ms.1 8) (ms.1 9) (ms.1 10) (ms.1 11) 0 n (ms.2 2) (ms.2 3) (ms.2 4) (ms.2 5) (ms.2 6) (ms.2 7) (ms.2 8) (ms.2 9) (ms.2 10)).1 11) ((sq_mm (ms.1 0) (ms.1 1) (ms.1 2) (ms.1 3) (ms.1 4) (ms.1 5) (ms.1 6) (ms.1 7) (ms.1 8) (ms.1 9) (ms.1 10) (ms.1 11) 0 n (ms.2 2) (ms.2 3) (ms.2 4) (ms.2 5) (ms.2 6) (ms.2 7) (ms.2 8) (ms.2 9) (ms.2 10)).2 0) ((sq_mm (ms.1 0) (ms.1 1) (ms.1 2) (ms.1 3) (ms.1 4) (ms.1 5) (ms.1 6) (ms.1 7) (ms.1 8) (ms.1 9) (ms.1 10) (ms.1 11) 0 n (ms.2 2) (ms.2 3) (ms.2 4) (ms.2 5) (ms.2 6) (ms.2 7) (ms.2 8) (ms.2 9) (ms.2 10)).2 1) ((sq_mm (ms.1 0) (ms.1 1) (ms.1 2) (ms.1 3) (ms.1 4) (ms.1 5) (ms.1 6) (ms.1 7) (ms.1 8) (ms.1 9) (ms.1 10) (ms.1 11) 0 n (ms.2 2) (ms.2 3) (ms.2 4) (ms.2 5) (ms.2 6) (ms.2 7) (ms.2 8) (ms.2 9) (ms.2 10)).2 2) ((sq_mm (ms.1 0) (ms.1 1) (ms.1 2) (ms.1 3) (ms.1 4) (ms.1 5) (ms.1 6) (ms.1 7) (ms.1 8) (ms.1 9) (ms.1 10) (ms.1 11) 0 n (ms.2 2) (ms.2 3) (ms.2 4) (ms.2 5) (ms.2 6) (ms.2 7) (ms.2 8) (ms.2 9) (ms.2 10)).2 3) ((sq_mm (ms.1 0) (ms.1 1) (ms.1 2) (ms.1 3) (ms.1 4) (ms.1 5) (ms.1 6) (ms.1 7) (ms.1 8) (ms.1 9) (ms.1 10) (ms.1 11) 0 n (ms.2 2) (ms.2 3) (ms.2 4) (ms.2 5) (ms.2 6) (ms.2 7) (ms.2 8) (ms.2 9) (ms.2 10)).2 4) ((sq_mm (ms.1 0) (ms.1 1) (ms.1 2) (ms.1 3) (ms.1 4) (ms.1 5) (ms.1 6) (ms.1 7) (ms.1 8) (ms.1 9) (ms.1 10) (ms.1 11) 0 n (ms.2 2) (ms.2 3) (ms.2 4) (ms.2 5) (ms.2 6) (ms.2 7) (ms.2 8) (ms.2 9) (ms.2 10)).2 5) ((sq_mm (ms.1 0) (ms.1 1) (ms.1 2) (ms.1 3) (ms.1 4) (ms.1 5) (ms.1 6) (ms.1 7) (ms.1 8) (ms.1 9) (ms.1 10) (ms.1 11) 0 n (ms.2 2) (ms.2 3) (ms.2 4) (ms.2 5) (ms.2 6) (ms.2 7) (ms.2 8) (ms.2 9) (ms.2 10)).2 6) ((sq_mm (ms.1 0) (ms.1 1) (ms.1 2) (ms.1 3) (ms.1 4) (ms.1 5) (ms.1 6) (ms.1 7) (ms.1 8) (ms.1 9) (ms.1 10) (ms.1 11) 0 n (ms.2 2) (ms.2 3) (ms.2 4) (ms.2 5) (ms.2 6) (ms.2 7) (ms.2 8) (ms.2 9) (ms.2 10)).2 7) ((sq_mm (ms.1 0) (ms.1 1) (ms.1 2) (ms.1 3) (ms.1 4) (ms.1 5) (ms.1 6) (ms.1 7) (ms.1 8) (ms.1 9) (ms.1 10) (ms.1 11) 0 n (ms.2 2) (ms.2 3) (ms.2 4) (ms.2 5) (ms.2 6) (ms.2 7) (ms.2 8) (ms.2 9) (ms.2 10)).2 8) ((sq_mm (ms.1 0) (ms.1 1) (ms.1 2) (ms.1 3) (ms.1 4) (ms.1 5) (ms.1 6) (ms.1 7) (ms.1 8) (ms.1 9) (ms.1 10) (ms.1 11) 0 n (ms.2 2) (ms.2 3) (ms.2 4) (ms.2 5) (ms.2 6) (ms.2 7) (ms.2 8) (ms.2 9) (ms.2 10)).2 9) ((sq_mm (ms.1 0) (ms.1 1) (ms.1 2) (ms.1 3) (ms.1 4) (ms.1 5) (ms.1 6) (ms.1 7) (ms.1 8) (ms.1 9) (ms.1 10) (ms.1 11) 0 n (ms.2 2) (ms.2 3) (ms.2 4) (ms.2 5) (ms.2 6) (ms.2 7) (ms.2 8) (ms.2 9) (ms.2 10)).2 10)) := hD
      refine sq_callv (As := []) (k_clear l dC dI h0 q cI cZ (sq_mm (ms.1 0) (ms.1 1) (ms.1 2) (ms.1 3) (ms.1 4) (ms.1 5) (ms.1 6) (ms.1 7) (ms.1 8) (ms.1 9) (ms.1 10) (ms.1 11) 0 n (ms.2 2) (ms.2 3) (ms.2 4) (ms.2 5) (ms.2 6) (ms.2 7) (ms.2 8) (ms.2 9) (ms.2 10))) ⟨hx, hb, hml, hown, hts⟩ (cwV 0 hts (sq_good gvX1_51) rfl rfl rfl (by decide +kernel) ⟨Nat.le_of_ble_eq_true rfl, Nat.le_of_ble_eq_true rfl⟩) hK hP hD hS hA rfl rfl rfl rfl hl.1 rfl (Nat.le_of_ble_eq_true rfl) dX1_begin_29 ⟨Nat.zero_le _, Nat.zero_le _⟩ (fun H locs hP hD hS => ?_)
      have e9 : sq_mB ms (nI n) = sq_mclr (sq_mt ms 0) n := by unfold sq_mB; rw [if_pos hk, sq_vec_nI hn]
      exact hend _ _ _ _ (by rw [e9]; exact hP) (by rw [e9]; exact hD) hS dX1_begin_32
  refine lv_aload_n hx hb dX1_begin_0 rfl (lv_at hl 0 rfl) ?_
  refine lv_iload_n hx hb dX1_begin_1 rfl (lv_at hl 1 rfl) ?_
  refine lv_iconst (v := nI 1) hx hb dX1_begin_2 (by decide +kernel) ?_
  refine lv_bipush (v := nI 6) hx hb dX1_begin_3 (by decide +kernel) ?_
  refine sq_callsi (As := [.int x, .int (nI 1), .int (nI 6)]) (k_in l (dC, dI) vwCl [(cI, .int), (cZ, .boolean)] (wM h0 q cI cZ (ms.1 0) (ms.1 1) (ms.1 2) (ms.1 3) (ms.1 4) (ms.1 5) (ms.1 6) (ms.1 7) (ms.1 8) (ms.1 9) (ms.1 10) (ms.1 11) (ms.2 0) (ms.2 1) (ms.2 2) (ms.2 3) (ms.2 4) (ms.2 5) (ms.2 6) (ms.2 7) (ms.2 8) (ms.2 9) (ms.2 10)) x (nI 1) (nI 6)) ⟨hx, hb, hml, hown, hts⟩ (va_cwS 3 hts (sq_good gsX1_82) rfl rfl rfl (by decide +kernel) ⟨Nat.le_of_ble_eq_true rfl, Nat.le_of_ble_eq_true rfl⟩) hK hP hD hS hA rfl hl.1 rfl (Nat.le_of_ble_eq_true rfl) dX1_begin_5 ⟨Nat.zero_le _, Nat.zero_le _⟩ (fun H locs hP hD hS => ?_)
  refine lv_if_ne (tgt := 15) hx hb dX1_begin_8 (by decide) (fun hc => ?_) (fun hc => ?_)
  · refine lv_iconst (v := nI 0) hx hb dX1_begin_15 (by decide +kernel) ?_
    exact T16 false _ _ ls (by rw [decide_eq_true (sq_bnd hc)]; rfl) hP hD hS hl
  · refine lv_iconst (v := nI 1) hx hb dX1_begin_11 (by decide +kernel) ?_
    refine lv_goto (tgt := 16) hx hb dX1_begin_12 (by decide) ?_
    exact T16 true _ _ ls (by rw [decide_eq_false (sq_b0d hc)]; rfl) hP hD hS hl
def sq_mkW (ms : SqS) : Nat := sq_rf (decide (ms.2 3 = 120)) false
def sq_mW (ms : SqS) (x1 x2 x3 x4 x5 x6 : Int32) : SqS := if sq_mkW ms = 0 then sq_mw (sq_mt ms 0) x1 x2 x3 x4 x5 x6 else sq_mt ms (sq_mkW ms)
def sq_mrW (ms : SqS) : Int32 := if sq_mkW ms = 0 then nI (ms.2 3) else 0
def sq_mkV (ms : SqS) : Nat := sq_rf (decide (ms.2 7 = 200)) false
def sq_mV (ms : SqS) (b x1 x2 x3 x4 x5 x6 : Int32) : SqS := if sq_mkV ms = 0 then sq_mv (sq_mt ms 0) b x1 x2 x3 x4 x5 x6 else sq_mt ms (sq_mkV ms)
def sq_mrV (ms : SqS) : Int32 := if sq_mkV ms = 0 then nI (ms.2 7) else 0
def rmm_weights : Room := { frames := 1, cells := 0, slots := 0, locals := 27 }
set_option maxHeartbeats 4000000 in
set_option maxRecDepth 100000 in
theorem k_weights (l : Launch) (dC : Nat → ClassId) (dI : Nat → Nat → Nat) (h0 : Nat) (q : Nat → Nat) (cI cZ : ClassId) (ms : SqS) (x1 x2 x3 x4 x5 x6 : Int32) (b3 : ms.2 3 ≤ 120) : sq_Mi l yX1_weights wsX1_weights rmm_weights [.ref h0, .int x1, .int x2, .int x3, .int x4, .int x5, .int x6] (dC, dI) vwCl [(cI, .int), (cZ, .boolean)] (wM h0 q cI cZ (ms.1 0) (ms.1 1) (ms.1 2) (ms.1 3) (ms.1 4) (ms.1 5) (ms.1 6) (ms.1 7) (ms.1 8) (ms.1 9) (ms.1 10) (ms.1 11) (ms.2 0) (ms.2 1) (ms.2 2) (ms.2 3) (ms.2 4) (ms.2 5) (ms.2 6) (ms.2 7) (ms.2 8) (ms.2 9) (ms.2 10)) (wM h0 q cI cZ ((sq_mW ms x1 x2 x3 x4 x5 x6).1 0) ((sq_mW ms x1 x2 x3 x4 x5 x6).1 1) ((sq_mW ms x1 x2 x3 x4 x5 x6).1 2) ((sq_mW ms x1 x2 x3 x4 x5 x6).1 3) ((sq_mW ms x1 x2 x3 x4 x5 x6).1 4) ((sq_mW ms x1 x2 x3 x4 x5 x6).1 5) ((sq_mW ms x1 x2 x3 x4 x5 x6).1 6) ((sq_mW ms x1 x2 x3 x4 x5 x6).1 7) ((sq_mW ms x1 x2 x3 x4 x5 x6).1 8) ((sq_mW ms x1 x2 x3 x4 x5 x6).1 9) ((sq_mW ms x1 x2 x3 x4 x5 x6).1 10) ((sq_mW ms x1 x2 x3 x4 x5 x6).1 11) ((sq_mW ms x1 x2 x3 x4 x5 x6).2 0) ((sq_mW ms x1 x2 x3 x4 x5 x6).2 1) ((sq_mW ms x1 x2 x3 x4 x5 x6).2 2) ((sq_mW ms x1 x2 x3 x4 x5 x6).2 3) ((sq_mW ms x1 x2 x3 x4 x5 x6).2 4) ((sq_mW ms x1 x2 x3 x4 x5 x6).2 5) ((sq_mW ms x1 x2 x3 x4 x5 x6).2 6) ((sq_mW ms x1 x2 x3 x4 x5 x6).2 7) ((sq_mW ms x1 x2 x3 x4 x5 x6).2 8) ((sq_mW ms x1 x2 x3 x4 x5 x6).2 9) ((sq_mW ms x1 x2 x3 x4 x5 x6).2 10)) (sq_mrW ms) := by
  refine sq_ofWi (cc := cX1_weights) (maxL := 7) (by decide) rfl (Nat.le_of_ble_eq_true rfl) (vp_nar_int _) ?_
  intro p e s m args below meth c A ls Q hx hb hts hown hml hK hP hD hS hA hl hend
  have hl : lv_has ls 7 [(0, .ref h0), (1, .int x1), (2, .int x2), (3, .int x3), (4, .int x4), (5, .int x5), (6, .int x6)] := hl
  have hin : ∀ w ∈ u_ws RX1 TX1 23, w ∈ wsX1_weights := fun w h => List.mem_cons_of_mem _ (inX1 w h)
  have k13 := hts _ (List.mem_cons_of_mem _ mfX1_13)
  have k60 := hts _ (List.mem_cons_of_mem _ mfX1_60)
  have T1 : ∀ (c9 : Bool) (H : Heap) (locs : List Loc) (ls : Array Slot), c9 = decide (ms.2 3 = 120) → va_P (dC, dI) vwCl (wM h0 q cI cZ (ms.1 0) (ms.1 1) (ms.1 2) (ms.1 3) (ms.1 4) (ms.1 5) (ms.1 6) (ms.1 7) (ms.1 8) (ms.1 9) (ms.1 10) (ms.1 11) (ms.2 0) (ms.2 1) (ms.2 2) (ms.2 3) (ms.2 4) (ms.2 5) (ms.2 6) (ms.2 7) (ms.2 8) (ms.2 9) (ms.2 10)) H → va_D A (wM h0 q cI cZ (ms.1 0) (ms.1 1) (ms.1 2) (ms.1 3) (ms.1 4) (ms.1 5) (ms.1 6) (ms.1 7) (ms.1 8) (ms.1 9) (ms.1 10) (ms.1 11) (ms.2 0) (ms.2 1) (ms.2 2) (ms.2 3) (ms.2 4) (ms.2 5) (ms.2 6) (ms.2 7) (ms.2 8) (ms.2 9) (ms.2 10)) → va_S A s.heap H locs → lv_has ls 7 [(0, .ref h0), (1, .int x1), (2, .int x2), (3, .int x3), (4, .int x4), (5, .int x5), (6, .int x6)] → W p l e rmm_weights s m args below meth c H locs 0 0 Q (F0 m 15 ls [.int (sq_b c9), .ref h0]) := by
    intro c9 H locs ls hpre hP hD hS hl
    subst hpre
    refine lv_iconst (v := nI 0) hx hb dX1_weights_15 (by decide +kernel) ?_
    refine sq_calli (As := [.int (sq_b (decide (ms.2 3 = 120))), .int (sq_b false)]) (k_refuse l dC dI h0 q cI cZ (ms.1 0) (ms.1 1) (ms.1 2) (ms.1 3) (ms.1 4) (ms.1 5) (ms.1 6) (ms.1 7) (ms.1 8) (ms.1 9) (ms.1 10) (ms.1 11) (ms.2 0) (ms.2 1) (ms.2 2) (ms.2 3) (ms.2 4) (ms.2 5) (ms.2 6) (ms.2 7) (ms.2 8) (ms.2 9) (ms.2 10) (decide (ms.2 3 = 120)) false) ⟨hx, hb, hml, hown, hts⟩ (cwV 2 hts (sq_good gvX1_86) rfl rfl rfl (by decide +kernel) ⟨Nat.le_of_ble_eq_true rfl, Nat.le_of_ble_eq_true rfl⟩) hK hP hD hS hA rfl rfl rfl rfl hl.1 rfl (Nat.le_of_ble_eq_true rfl) dX1_weights_16 ⟨Nat.zero_le _, Nat.zero_le _⟩ (fun H locs hP hD hS => ?_)
    refine lv_if_eq (tgt := 24) hx hb dX1_weights_19 (by decide) (fun hc => ?_) (fun hc => ?_)
    · have hk : sq_mkW ms = 0 := by have h2 : ¬ 0 < sq_mkW ms := sq_b0d hc; omega
      have hp : ¬ ms.2 3 = 120 := fun h => by unfold sq_mkW at hk; rw [decide_eq_true h] at hk; exact absurd hk (by decide)
      have hP : va_P (dC, dI) vwCl (wM h0 q cI cZ (ms.1 0) (ms.1 1) (ms.1 2) (ms.1 3) (ms.1 4) (ms.1 5) (ms.1 6) (ms.1 7) (ms.1 8) (ms.1 9) (ms.1 10) (ms.1 11) (sq_mkW ms) (ms.2 1) (ms.2 2) (ms.2 3) (ms.2 4) (ms.2 5) (ms.2 6) (ms.2 7) (ms.2 8) (ms.2 9) (ms.2 10)) H := hP
      have hD : va_D A (wM h0 q cI cZ (ms.1 0) (ms.1 1) (ms.1 2) (ms.1 3) (ms.1 4) (ms.1 5) (ms.1 6) (ms.1 7) (ms.1 8) (ms.1 9) (ms.1 10) (ms.1 11) (sq_mkW ms) (ms.2 1) (ms.2 2) (ms.2 3) (ms.2 4) (ms.2 5) (ms.2 6) (ms.2 7) (ms.2 8) (ms.2 9) (ms.2 10)) := hD
      rw [hk] at hP hD
      refine lv_aload_n hx hb dX1_weights_24 rfl (lv_at hl 0 rfl) ?_
      refine va_get (D := (dC, dI)) (ci := 1) (v := .ref (q 0)) (C := RX1) (T := TX1) (N := 23) hx hb hts hin hown hK hP 0 rfl rfl 7 (by decide) k13 (fun _ h9 => h9) rfl dX1_weights_25 ?_
      refine lv_bipush (v := nI 6) hx hb dX1_weights_28 (by decide +kernel) ?_
      refine lv_aload_n hx hb dX1_weights_30 rfl (lv_at hl 0 rfl) ?_
      refine va_get (D := (dC, dI)) (ci := 1) (v := .int (nI (ms.2 3))) (C := RX1) (T := TX1) (N := 23) hx hb hts hin hown hK hP 0 rfl rfl 3 (by decide) k60 (fun _ h9 => h9) rfl dX1_weights_31 ?_
      refine sq_imulc hx hb dX1_weights_34 ?_
      refine lv_iload_n hx hb dX1_weights_35 rfl (lv_at hl 1 rfl) ?_
      refine lv_iload_n hx hb dX1_weights_36 rfl (lv_at hl 2 rfl) ?_
      refine lv_iload_n hx hb dX1_weights_37 rfl (lv_at hl 3 rfl) ?_
      refine lv_iload hx hb dX1_weights_38 (lv_at hl 4 rfl) ?_
      refine lv_iload hx hb dX1_weights_40 (lv_at hl 5 rfl) ?_
      refine lv_iload hx hb dX1_weights_42 (lv_at hl 6 rfl) ?_
      refine sq_callsv (As := [.ref (q 0), .int (nI ((ms.2 3) * 6)), .int x1, .int x2, .int x3, .int x4, .int x5, .int x6]) (k_six l (dC, dI) vwCl [(cI, .int), (cZ, .boolean)] (wM h0 q cI cZ (ms.1 0) (ms.1 1) (ms.1 2) (ms.1 3) (ms.1 4) (ms.1 5) (ms.1 6) (ms.1 7) (ms.1 8) (ms.1 9) (ms.1 10) (ms.1 11) 0 (ms.2 1) (ms.2 2) (ms.2 3) (ms.2 4) (ms.2 5) (ms.2 6) (ms.2 7) (ms.2 8) (ms.2 9) (ms.2 10)) 1 0 (q 0) cI 720 (ms.1 0) ((ms.2 3) * 6) x1 x2 x3 x4 x5 x6 rfl rfl (by omega) (by decide)) ⟨hx, hb, hml, hown, hts⟩ (va_cwS 8 hts (sq_good gsX1_90) rfl rfl rfl (by decide +kernel) ⟨Nat.le_of_ble_eq_true rfl, Nat.le_of_ble_eq_true rfl⟩) hK hP hD hS hA rfl hl.1 rfl (Nat.le_of_ble_eq_true rfl) dX1_weights_44 ⟨Nat.zero_le _, Nat.zero_le _⟩ (fun H locs hP hD hS => ?_)
      have hP : va_P (dC, dI) vwCl (wM h0 q cI cZ (sq_p6 (ms.1 0) ((ms.2 3) * 6) x1 x2 x3 x4 x5 x6) (ms.1 1) (ms.1 2) (ms.1 3) (ms.1 4) (ms.1 5) (ms.1 6) (ms.1 7) (ms.1 8) (ms.1 9) (ms.1 10) (ms.1 11) 0 (ms.2 1) (ms.2 2) (ms.2 3) (ms.2 4) (ms.2 5) (ms.2 6) (ms.2 7) (ms.2 8) (ms.2 9) (ms.2 10)) H := hP
      have hD : va_D A (wM h0 q cI cZ (sq_p6 (ms.1 0) ((ms.2 3) * 6) x1 x2 x3 x4 x5 x6) (ms.1 1) (ms.1 2) (ms.1 3) (ms.1 4) (ms.1 5) (ms.1 6) (ms.1 7) (ms.1 8) (ms.1 9) (ms.1 10) (ms.1 11) 0 (ms.2 1) (ms.2 2) (ms.2 3) (ms.2 4) (ms.2 5) (ms.2 6) (ms.2 7) (ms.2 8) (ms.2 9) (ms.2 10)) := hD
      refine lv_aload_n hx hb dX1_weights_47 rfl (lv_at hl 0 rfl) ?_
      refine lv_dup hx hb dX1_weights_48 rfl ?_
      refine va_get (D := (dC, dI)) (ci := 1) (v := .int (nI (ms.2 3))) (C := RX1) (T := TX1) (N := 23) hx hb hts hin hown hK hP 0 rfl rfl 3 (by decide) k60 (fun _ h9 => h9) rfl dX1_weights_49 ?_
      refine lv_iconst (v := nI 1) hx hb dX1_weights_52 (by decide +kernel) ?_
      refine sq_iadd hx hb dX1_weights_53 ?_
      refine va_put (D := (dC, dI)) (ci := 1) (v := .int (nI ((ms.2 3) + 1))) (ty := .int) (C := RX1) (T := TX1) (N := 23) hx hb hts hin tyX1 tyX1_ok nmX1 hown hK hP hD hS 0 rfl rfl 3 (by decide) k60 (fun _ h9 => h9) rfl (by decide +kernel) rfl rfl (Nat.le_of_ble_eq_true rfl) dX1_weights_54 (fun H locs hP hD hS => ?_)
      have hP : va_P (dC, dI) vwCl (wM h0 q cI cZ (sq_p6 (ms.1 0) ((ms.2 3) * 6) x1 x2 x3 x4 x5 x6) (ms.1 1) (ms.1 2) (ms.1 3) (ms.1 4) (ms.1 5) (ms.1 6) (ms.1 7) (ms.1 8) (ms.1 9) (ms.1 10) (ms.1 11) 0 (ms.2 1) (ms.2 2) ((ms.2 3) + 1) (ms.2 4) (ms.2 5) (ms.2 6) (ms.2 7) (ms.2 8) (ms.2 9) (ms.2 10)) H := hP
      have hD : va_D A (wM h0 q cI cZ (sq_p6 (ms.1 0) ((ms.2 3) * 6) x1 x2 x3 x4 x5 x6) (ms.1 1) (ms.1 2) (ms.1 3) (ms.1 4) (ms.1 5) (ms.1 6) (ms.1 7) (ms.1 8) (ms.1 9) (ms.1 10) (ms.1 11) 0 (ms.2 1) (ms.2 2) ((ms.2 3) + 1) (ms.2 4) (ms.2 5) (ms.2 6) (ms.2 7) (ms.2 8) (ms.2 9) (ms.2 10)) := hD
      refine lv_aload_n hx hb dX1_weights_57 rfl (lv_at hl 0 rfl) ?_
      refine va_get (D := (dC, dI)) (ci := 1) (v := .int (nI ((ms.2 3) + 1))) (C := RX1) (T := TX1) (N := 23) hx hb hts hin hown hK hP 0 rfl rfl 3 (by decide) k60 (fun _ h9 => h9) rfl dX1_weights_58 ?_
      refine lv_iconst (v := nI 1) hx hb dX1_weights_61 (by decide +kernel) ?_
      refine sq_isub hx hb (by omega) dX1_weights_62 ?_
      have hP : va_P (dC, dI) vwCl (wM h0 q cI cZ ((sq_mw (sq_mt ms 0) x1 x2 x3 x4 x5 x6).1 0) ((sq_mw (sq_mt ms 0) x1 x2 x3 x4 x5 x6).1 1) ((sq_mw (sq_mt ms 0) x1 x2 x3 x4 x5 x6).1 2) ((sq_mw (sq_mt ms 0) x1 x2 x3 x4 x5 x6).1 3) ((sq_mw (sq_mt ms 0) x1 x2 x3 x4 x5 x6).1 4) ((sq_mw (sq_mt ms 0) x1 x2 x3 x4 x5 x6).1 5) ((sq_mw (sq_mt ms 0) x1 x2 x3 x4 x5 x6).1 6) ((sq_mw (sq_mt ms 0) x1 x2 x3 x4 x5 x6).1 7) ((sq_mw (sq_mt ms 0) x1 x2 x3 x4 x5 x6).1 8) ((sq_mw (sq_mt ms 0) x1 x2 x3 x4 x5 x6).1 9) ((sq_mw (sq_mt ms 0) x1 x2 x3 x4 x5 x6).1 10) ((sq_mw (sq_mt ms 0) x1 x2 x3 x4 x5 x6).1 11) ((sq_mw (sq_mt ms 0) x1 x2 x3 x4 x5 x6).2 0) ((sq_mw (sq_mt ms 0) x1 x2 x3 x4 x5 x6).2 1) ((sq_mw (sq_mt ms 0) x1 x2 x3 x4 x5 x6).2 2) ((sq_mw (sq_mt ms 0) x1 x2 x3 x4 x5 x6).2 3) ((sq_mw (sq_mt ms 0) x1 x2 x3 x4 x5 x6).2 4) ((sq_mw (sq_mt ms 0) x1 x2 x3 x4 x5 x6).2 5) ((sq_mw (sq_mt ms 0) x1 x2 x3 x4 x5 x6).2 6) ((sq_mw (sq_mt ms 0) x1 x2 x3 x4 x5 x6).2 7) ((sq_mw (sq_mt ms 0) x1 x2 x3 x4 x5 x6).2 8) ((sq_mw (sq_mt ms 0) x1 x2 x3 x4 x5 x6).2 9) ((sq_mw (sq_mt ms 0) x1 x2 x3 x4 x5 x6).2 10)) H := hP
      have hD : va_D A (wM h0 q cI cZ ((sq_mw (sq_mt ms 0) x1 x2 x3 x4 x5 x6).1 0) ((sq_mw (sq_mt ms 0) x1 x2 x3 x4 x5 x6).1 1) ((sq_mw (sq_mt ms 0) x1 x2 x3 x4 x5 x6).1 2) ((sq_mw (sq_mt ms 0) x1 x2 x3 x4 x5 x6).1 3) ((sq_mw (sq_mt ms 0) x1 x2 x3 x4 x5 x6).1 4) ((sq_mw (sq_mt ms 0) x1 x2 x3 x4 x5 x6).1 5) ((sq_mw (sq_mt ms 0) x1 x2 x3 x4 x5 x6).1 6) ((sq_mw (sq_mt ms 0) x1 x2 x3 x4 x5 x6).1 7) ((sq_mw (sq_mt ms 0) x1 x2 x3 x4 x5 x6).1 8) ((sq_mw (sq_mt ms 0) x1 x2 x3 x4 x5 x6).1 9) ((sq_mw (sq_mt ms 0) x1 x2 x3 x4 x5 x6).1 10) ((sq_mw (sq_mt ms 0) x1 x2 x3 x4 x5 x6).1 11) ((sq_mw (sq_mt ms 0) x1 x2 x3 x4 x5 x6).2 0) ((sq_mw (sq_mt ms 0) x1 x2 x3 x4 x5 x6).2 1) ((sq_mw (sq_mt ms 0) x1 x2 x3 x4 x5 x6).2 2) ((sq_mw (sq_mt ms 0) x1 x2 x3 x4 x5 x6).2 3) ((sq_mw (sq_mt ms 0) x1 x2 x3 x4 x5 x6).2 4) ((sq_mw (sq_mt ms 0) x1 x2 x3 x4 x5 x6).2 5) ((sq_mw (sq_mt ms 0) x1 x2 x3 x4 x5 x6).2 6) ((sq_mw (sq_mt ms 0) x1 x2 x3 x4 x5 x6).2 7) ((sq_mw (sq_mt ms 0) x1 x2 x3 x4 x5 x6).2 8) ((sq_mw (sq_mt ms 0) x1 x2 x3 x4 x5 x6).2 9) ((sq_mw (sq_mt ms 0) x1 x2 x3 x4 x5 x6).2 10)) := hD
      have e9 : (sq_mW ms x1 x2 x3 x4 x5 x6) = sq_mw (sq_mt ms 0) x1 x2 x3 x4 x5 x6 := by unfold sq_mW; rw [if_pos hk]
      rw [← e9] at hP hD
      have e8 : sq_mrW ms = nI (ms.2 3) := by unfold sq_mrW; rw [if_pos hk]
      exact hend _ _ _ _ _ (by rw [e8, Nat.add_sub_cancel]) hP hD hS dX1_weights_63
    · refine lv_iconst (v := nI 0) hx hb dX1_weights_22 (by decide +kernel) ?_
      have hP : va_P (dC, dI) vwCl (wM h0 q cI cZ ((sq_mt ms (sq_mkW ms)).1 0) ((sq_mt ms (sq_mkW ms)).1 1) ((sq_mt ms (sq_mkW ms)).1 2) ((sq_mt ms (sq_mkW ms)).1 3) ((sq_mt ms (sq_mkW ms)).1 4) ((sq_mt ms (sq_mkW ms)).1 5) ((sq_mt ms (sq_mkW ms)).1 6) ((sq_mt ms (sq_mkW ms)).1 7) ((sq_mt ms (sq_mkW ms)).1 8) ((sq_mt ms (sq_mkW ms)).1 9) ((sq_mt ms (sq_mkW ms)).1 10) ((sq_mt ms (sq_mkW ms)).1 11) ((sq_mt ms (sq_mkW ms)).2 0) ((sq_mt ms (sq_mkW ms)).2 1) ((sq_mt ms (sq_mkW ms)).2 2) ((sq_mt ms (sq_mkW ms)).2 3) ((sq_mt ms (sq_mkW ms)).2 4) ((sq_mt ms (sq_mkW ms)).2 5) ((sq_mt ms (sq_mkW ms)).2 6) ((sq_mt ms (sq_mkW ms)).2 7) ((sq_mt ms (sq_mkW ms)).2 8) ((sq_mt ms (sq_mkW ms)).2 9) ((sq_mt ms (sq_mkW ms)).2 10)) H := hP
      have hD : va_D A (wM h0 q cI cZ ((sq_mt ms (sq_mkW ms)).1 0) ((sq_mt ms (sq_mkW ms)).1 1) ((sq_mt ms (sq_mkW ms)).1 2) ((sq_mt ms (sq_mkW ms)).1 3) ((sq_mt ms (sq_mkW ms)).1 4) ((sq_mt ms (sq_mkW ms)).1 5) ((sq_mt ms (sq_mkW ms)).1 6) ((sq_mt ms (sq_mkW ms)).1 7) ((sq_mt ms (sq_mkW ms)).1 8) ((sq_mt ms (sq_mkW ms)).1 9) ((sq_mt ms (sq_mkW ms)).1 10) ((sq_mt ms (sq_mkW ms)).1 11) ((sq_mt ms (sq_mkW ms)).2 0) ((sq_mt ms (sq_mkW ms)).2 1) ((sq_mt ms (sq_mkW ms)).2 2) ((sq_mt ms (sq_mkW ms)).2 3) ((sq_mt ms (sq_mkW ms)).2 4) ((sq_mt ms (sq_mkW ms)).2 5) ((sq_mt ms (sq_mkW ms)).2 6) ((sq_mt ms (sq_mkW ms)).2 7) ((sq_mt ms (sq_mkW ms)).2 8) ((sq_mt ms (sq_mkW ms)).2 9) ((sq_mt ms (sq_mkW ms)).2 10)) := hD
      have hk : ¬ sq_mkW ms = 0 := by have h2 : 0 < sq_mkW ms := sq_bnd hc; omega
      have e9 : (sq_mW ms x1 x2 x3 x4 x5 x6) = sq_mt ms (sq_mkW ms) := by unfold sq_mW; rw [if_neg hk]
      rw [← e9] at hP hD
      exact hend _ _ _ _ _ (by unfold sq_mrW; rw [if_neg hk]; rfl) hP hD hS dX1_weights_23
  refine lv_aload_n hx hb dX1_weights_0 rfl (lv_at hl 0 rfl) ?_
  refine lv_aload_n hx hb dX1_weights_1 rfl (lv_at hl 0 rfl) ?_
  refine va_get (D := (dC, dI)) (ci := 1) (v := .int (nI (ms.2 3))) (C := RX1) (T := TX1) (N := 23) hx hb hts hin hown hK hP 0 rfl rfl 3 (by decide) k60 (fun _ h9 => h9) rfl dX1_weights_2 ?_
  refine lv_bipush (v := nI 120) hx hb dX1_weights_5 (by decide +kernel) ?_
  refine sq_icmp_ne (tgt := 14) hx hb (by omega) (by omega) dX1_weights_7 (by decide) (fun hc => ?_) (fun hc => ?_)
  · refine lv_iconst (v := nI 0) hx hb dX1_weights_14 (by decide +kernel) ?_
    exact T1 false _ _ ls (decide_eq_false hc).symm hP hD hS hl
  · refine lv_iconst (v := nI 1) hx hb dX1_weights_10 (by decide +kernel) ?_
    refine lv_goto (tgt := 15) hx hb dX1_weights_11 (by decide) ?_
    exact T1 true _ _ ls (decide_eq_true hc).symm hP hD hS hl
def rmm_vector : Room := { frames := 1, cells := 0, slots := 0, locals := 27 }
set_option maxHeartbeats 4000000 in
set_option maxRecDepth 100000 in
theorem k_vector (l : Launch) (dC : Nat → ClassId) (dI : Nat → Nat → Nat) (h0 : Nat) (q : Nat → Nat) (cI cZ : ClassId) (ms : SqS) (b x1 x2 x3 x4 x5 x6 : Int32) (b7 : ms.2 7 ≤ 200) (hz1 : vp_nar .boolean b = b) : sq_Mi l yX1_vector wsX1_vector rmm_vector [.ref h0, .int b, .int x1, .int x2, .int x3, .int x4, .int x5, .int x6] (dC, dI) vwCl [(cI, .int), (cZ, .boolean)] (wM h0 q cI cZ (ms.1 0) (ms.1 1) (ms.1 2) (ms.1 3) (ms.1 4) (ms.1 5) (ms.1 6) (ms.1 7) (ms.1 8) (ms.1 9) (ms.1 10) (ms.1 11) (ms.2 0) (ms.2 1) (ms.2 2) (ms.2 3) (ms.2 4) (ms.2 5) (ms.2 6) (ms.2 7) (ms.2 8) (ms.2 9) (ms.2 10)) (wM h0 q cI cZ ((sq_mV ms b x1 x2 x3 x4 x5 x6).1 0) ((sq_mV ms b x1 x2 x3 x4 x5 x6).1 1) ((sq_mV ms b x1 x2 x3 x4 x5 x6).1 2) ((sq_mV ms b x1 x2 x3 x4 x5 x6).1 3) ((sq_mV ms b x1 x2 x3 x4 x5 x6).1 4) ((sq_mV ms b x1 x2 x3 x4 x5 x6).1 5) ((sq_mV ms b x1 x2 x3 x4 x5 x6).1 6) ((sq_mV ms b x1 x2 x3 x4 x5 x6).1 7) ((sq_mV ms b x1 x2 x3 x4 x5 x6).1 8) ((sq_mV ms b x1 x2 x3 x4 x5 x6).1 9) ((sq_mV ms b x1 x2 x3 x4 x5 x6).1 10) ((sq_mV ms b x1 x2 x3 x4 x5 x6).1 11) ((sq_mV ms b x1 x2 x3 x4 x5 x6).2 0) ((sq_mV ms b x1 x2 x3 x4 x5 x6).2 1) ((sq_mV ms b x1 x2 x3 x4 x5 x6).2 2) ((sq_mV ms b x1 x2 x3 x4 x5 x6).2 3) ((sq_mV ms b x1 x2 x3 x4 x5 x6).2 4) ((sq_mV ms b x1 x2 x3 x4 x5 x6).2 5) ((sq_mV ms b x1 x2 x3 x4 x5 x6).2 6) ((sq_mV ms b x1 x2 x3 x4 x5 x6).2 7) ((sq_mV ms b x1 x2 x3 x4 x5 x6).2 8) ((sq_mV ms b x1 x2 x3 x4 x5 x6).2 9) ((sq_mV ms b x1 x2 x3 x4 x5 x6).2 10)) (sq_mrV ms) := by
  refine sq_ofWi (cc := cX1_vector) (maxL := 8) (by decide) rfl (Nat.le_of_ble_eq_true rfl) (vp_nar_int _) ?_
  intro p e s m args below meth c A ls Q hx hb hts hown hml hK hP hD hS hA hl hend
  have hl : lv_has ls 8 [(0, .ref h0), (1, .int b), (2, .int x1), (3, .int x2), (4, .int x3), (5, .int x4), (6, .int x5), (7, .int x6)] := hl
  have hin : ∀ w ∈ u_ws RX1 TX1 23, w ∈ wsX1_vector := fun w h => List.mem_cons_of_mem _ (inX1 w h)
  have k17 := hts _ (List.mem_cons_of_mem _ mfX1_17)
  have k20 := hts _ (List.mem_cons_of_mem _ mfX1_20)
  have k24 := hts _ (List.mem_cons_of_mem _ mfX1_24)
  have k73 := hts _ (List.mem_cons_of_mem _ mfX1_73)
  have T1 : ∀ (c9 : Bool) (H : Heap) (locs : List Loc) (ls : Array Slot), c9 = decide (ms.2 7 = 200) → va_P (dC, dI) vwCl (wM h0 q cI cZ (ms.1 0) (ms.1 1) (ms.1 2) (ms.1 3) (ms.1 4) (ms.1 5) (ms.1 6) (ms.1 7) (ms.1 8) (ms.1 9) (ms.1 10) (ms.1 11) (ms.2 0) (ms.2 1) (ms.2 2) (ms.2 3) (ms.2 4) (ms.2 5) (ms.2 6) (ms.2 7) (ms.2 8) (ms.2 9) (ms.2 10)) H → va_D A (wM h0 q cI cZ (ms.1 0) (ms.1 1) (ms.1 2) (ms.1 3) (ms.1 4) (ms.1 5) (ms.1 6) (ms.1 7) (ms.1 8) (ms.1 9) (ms.1 10) (ms.1 11) (ms.2 0) (ms.2 1) (ms.2 2) (ms.2 3) (ms.2 4) (ms.2 5) (ms.2 6) (ms.2 7) (ms.2 8) (ms.2 9) (ms.2 10)) → va_S A s.heap H locs → lv_has ls 8 [(0, .ref h0), (1, .int b), (2, .int x1), (3, .int x2), (4, .int x3), (5, .int x4), (6, .int x5), (7, .int x6)] → W p l e rmm_vector s m args below meth c H locs 0 0 Q (F0 m 16 ls [.int (sq_b c9), .ref h0]) := by
    intro c9 H locs ls hpre hP hD hS hl
    subst hpre
    refine lv_iconst (v := nI 0) hx hb dX1_vector_16 (by decide +kernel) ?_
    refine sq_calli (As := [.int (sq_b (decide (ms.2 7 = 200))), .int (sq_b false)]) (k_refuse l dC dI h0 q cI cZ (ms.1 0) (ms.1 1) (ms.1 2) (ms.1 3) (ms.1 4) (ms.1 5) (ms.1 6) (ms.1 7) (ms.1 8) (ms.1 9) (ms.1 10) (ms.1 11) (ms.2 0) (ms.2 1) (ms.2 2) (ms.2 3) (ms.2 4) (ms.2 5) (ms.2 6) (ms.2 7) (ms.2 8) (ms.2 9) (ms.2 10) (decide (ms.2 7 = 200)) false) ⟨hx, hb, hml, hown, hts⟩ (cwV 2 hts (sq_good gvX1_86) rfl rfl rfl (by decide +kernel) ⟨Nat.le_of_ble_eq_true rfl, Nat.le_of_ble_eq_true rfl⟩) hK hP hD hS hA rfl rfl rfl rfl hl.1 rfl (Nat.le_of_ble_eq_true rfl) dX1_vector_17 ⟨Nat.zero_le _, Nat.zero_le _⟩ (fun H locs hP hD hS => ?_)
    refine lv_if_eq (tgt := 25) hx hb dX1_vector_20 (by decide) (fun hc => ?_) (fun hc => ?_)
    · have hk : sq_mkV ms = 0 := by have h2 : ¬ 0 < sq_mkV ms := sq_b0d hc; omega
      have hp : ¬ ms.2 7 = 200 := fun h => by unfold sq_mkV at hk; rw [decide_eq_true h] at hk; exact absurd hk (by decide)
      have hP : va_P (dC, dI) vwCl (wM h0 q cI cZ (ms.1 0) (ms.1 1) (ms.1 2) (ms.1 3) (ms.1 4) (ms.1 5) (ms.1 6) (ms.1 7) (ms.1 8) (ms.1 9) (ms.1 10) (ms.1 11) (sq_mkV ms) (ms.2 1) (ms.2 2) (ms.2 3) (ms.2 4) (ms.2 5) (ms.2 6) (ms.2 7) (ms.2 8) (ms.2 9) (ms.2 10)) H := hP
      have hD : va_D A (wM h0 q cI cZ (ms.1 0) (ms.1 1) (ms.1 2) (ms.1 3) (ms.1 4) (ms.1 5) (ms.1 6) (ms.1 7) (ms.1 8) (ms.1 9) (ms.1 10) (ms.1 11) (sq_mkV ms) (ms.2 1) (ms.2 2) (ms.2 3) (ms.2 4) (ms.2 5) (ms.2 6) (ms.2 7) (ms.2 8) (ms.2 9) (ms.2 10)) := hD
      rw [hk] at hP hD
      refine lv_aload_n hx hb dX1_vector_25 rfl (lv_at hl 0 rfl) ?_
      refine va_get (D := (dC, dI)) (ci := 1) (v := .ref (q 1)) (C := RX1) (T := TX1) (N := 23) hx hb hts hin hown hK hP 0 rfl rfl 12 (by decide) k17 (fun _ h9 => h9) rfl dX1_vector_26 ?_
      refine lv_bipush (v := nI 6) hx hb dX1_vector_29 (by decide +kernel) ?_
      refine lv_aload_n hx hb dX1_vector_31 rfl (lv_at hl 0 rfl) ?_
      refine va_get (D := (dC, dI)) (ci := 1) (v := .int (nI (ms.2 7))) (C := RX1) (T := TX1) (N := 23) hx hb hts hin hown hK hP 0 rfl rfl 8 (by decide) k73 (fun _ h9 => h9) rfl dX1_vector_32 ?_
      refine sq_imulc hx hb dX1_vector_35 ?_
      refine lv_iload_n hx hb dX1_vector_36 rfl (lv_at hl 2 rfl) ?_
      refine lv_iload_n hx hb dX1_vector_37 rfl (lv_at hl 3 rfl) ?_
      refine lv_iload hx hb dX1_vector_38 (lv_at hl 4 rfl) ?_
      refine lv_iload hx hb dX1_vector_40 (lv_at hl 5 rfl) ?_
      refine lv_iload hx hb dX1_vector_42 (lv_at hl 6 rfl) ?_
      refine lv_iload hx hb dX1_vector_44 (lv_at hl 7 rfl) ?_
      refine sq_callsv (As := [.ref (q 1), .int (nI ((ms.2 7) * 6)), .int x1, .int x2, .int x3, .int x4, .int x5, .int x6]) (k_six l (dC, dI) vwCl [(cI, .int), (cZ, .boolean)] (wM h0 q cI cZ (ms.1 0) (ms.1 1) (ms.1 2) (ms.1 3) (ms.1 4) (ms.1 5) (ms.1 6) (ms.1 7) (ms.1 8) (ms.1 9) (ms.1 10) (ms.1 11) 0 (ms.2 1) (ms.2 2) (ms.2 3) (ms.2 4) (ms.2 5) (ms.2 6) (ms.2 7) (ms.2 8) (ms.2 9) (ms.2 10)) 2 0 (q 1) cI 1200 (ms.1 1) ((ms.2 7) * 6) x1 x2 x3 x4 x5 x6 rfl rfl (by omega) (by decide)) ⟨hx, hb, hml, hown, hts⟩ (va_cwS 8 hts (sq_good gsX1_90) rfl rfl rfl (by decide +kernel) ⟨Nat.le_of_ble_eq_true rfl, Nat.le_of_ble_eq_true rfl⟩) hK hP hD hS hA rfl hl.1 rfl (Nat.le_of_ble_eq_true rfl) dX1_vector_46 ⟨Nat.zero_le _, Nat.zero_le _⟩ (fun H locs hP hD hS => ?_)
      have hP : va_P (dC, dI) vwCl (wM h0 q cI cZ (ms.1 0) (sq_p6 (ms.1 1) ((ms.2 7) * 6) x1 x2 x3 x4 x5 x6) (ms.1 2) (ms.1 3) (ms.1 4) (ms.1 5) (ms.1 6) (ms.1 7) (ms.1 8) (ms.1 9) (ms.1 10) (ms.1 11) 0 (ms.2 1) (ms.2 2) (ms.2 3) (ms.2 4) (ms.2 5) (ms.2 6) (ms.2 7) (ms.2 8) (ms.2 9) (ms.2 10)) H := hP
      have hD : va_D A (wM h0 q cI cZ (ms.1 0) (sq_p6 (ms.1 1) ((ms.2 7) * 6) x1 x2 x3 x4 x5 x6) (ms.1 2) (ms.1 3) (ms.1 4) (ms.1 5) (ms.1 6) (ms.1 7) (ms.1 8) (ms.1 9) (ms.1 10) (ms.1 11) 0 (ms.2 1) (ms.2 2) (ms.2 3) (ms.2 4) (ms.2 5) (ms.2 6) (ms.2 7) (ms.2 8) (ms.2 9) (ms.2 10)) := hD
      refine lv_aload_n hx hb dX1_vector_49 rfl (lv_at hl 0 rfl) ?_
      refine va_get (D := (dC, dI)) (ci := 1) (v := .ref (q 2)) (C := RX1) (T := TX1) (N := 23) hx hb hts hin hown hK hP 0 rfl rfl 13 (by decide) k20 (fun _ h9 => h9) rfl dX1_vector_50 ?_
      refine lv_aload_n hx hb dX1_vector_53 rfl (lv_at hl 0 rfl) ?_
      refine va_get (D := (dC, dI)) (ci := 1) (v := .int (nI (ms.2 7))) (C := RX1) (T := TX1) (N := 23) hx hb hts hin hown hK hP 0 rfl rfl 8 (by decide) k73 (fun _ h9 => h9) rfl dX1_vector_54 ?_
      refine lv_iload_n hx hb dX1_vector_57 rfl (lv_at hl 1 rfl) ?_
      refine sq_zast hx hb hK hP hD hS 3 1 rfl rfl (i := (ms.2 7)) (by omega) (by decide) hz1 dX1_vector_58 (fun H locs hP hD hS => ?_)
      have hP : va_P (dC, dI) vwCl (wM h0 q cI cZ (ms.1 0) (sq_p6 (ms.1 1) ((ms.2 7) * 6) x1 x2 x3 x4 x5 x6) (upd (ms.1 2) (ms.2 7) b) (ms.1 3) (ms.1 4) (ms.1 5) (ms.1 6) (ms.1 7) (ms.1 8) (ms.1 9) (ms.1 10) (ms.1 11) 0 (ms.2 1) (ms.2 2) (ms.2 3) (ms.2 4) (ms.2 5) (ms.2 6) (ms.2 7) (ms.2 8) (ms.2 9) (ms.2 10)) H := hP
      have hD : va_D A (wM h0 q cI cZ (ms.1 0) (sq_p6 (ms.1 1) ((ms.2 7) * 6) x1 x2 x3 x4 x5 x6) (upd (ms.1 2) (ms.2 7) b) (ms.1 3) (ms.1 4) (ms.1 5) (ms.1 6) (ms.1 7) (ms.1 8) (ms.1 9) (ms.1 10) (ms.1 11) 0 (ms.2 1) (ms.2 2) (ms.2 3) (ms.2 4) (ms.2 5) (ms.2 6) (ms.2 7) (ms.2 8) (ms.2 9) (ms.2 10)) := hD
      refine lv_aload_n hx hb dX1_vector_59 rfl (lv_at hl 0 rfl) ?_
      refine va_get (D := (dC, dI)) (ci := 1) (v := .ref (q 3)) (C := RX1) (T := TX1) (N := 23) hx hb hts hin hown hK hP 0 rfl rfl 14 (by decide) k24 (fun _ h9 => h9) rfl dX1_vector_60 ?_
      refine lv_aload_n hx hb dX1_vector_63 rfl (lv_at hl 0 rfl) ?_
      refine va_get (D := (dC, dI)) (ci := 1) (v := .int (nI (ms.2 7))) (C := RX1) (T := TX1) (N := 23) hx hb hts hin hown hK hP 0 rfl rfl 8 (by decide) k73 (fun _ h9 => h9) rfl dX1_vector_64 ?_
      refine lv_iconst (v := (-1)) hx hb dX1_vector_67 (by decide +kernel) ?_
      refine sq_iast hx hb hK hP hD hS 4 0 rfl rfl (i := (ms.2 7)) (by omega) (by decide) dX1_vector_68 (fun H locs hP hD hS => ?_)
      have hP : va_P (dC, dI) vwCl (wM h0 q cI cZ (ms.1 0) (sq_p6 (ms.1 1) ((ms.2 7) * 6) x1 x2 x3 x4 x5 x6) (upd (ms.1 2) (ms.2 7) b) (upd (ms.1 3) (ms.2 7) (-1)) (ms.1 4) (ms.1 5) (ms.1 6) (ms.1 7) (ms.1 8) (ms.1 9) (ms.1 10) (ms.1 11) 0 (ms.2 1) (ms.2 2) (ms.2 3) (ms.2 4) (ms.2 5) (ms.2 6) (ms.2 7) (ms.2 8) (ms.2 9) (ms.2 10)) H := hP
      have hD : va_D A (wM h0 q cI cZ (ms.1 0) (sq_p6 (ms.1 1) ((ms.2 7) * 6) x1 x2 x3 x4 x5 x6) (upd (ms.1 2) (ms.2 7) b) (upd (ms.1 3) (ms.2 7) (-1)) (ms.1 4) (ms.1 5) (ms.1 6) (ms.1 7) (ms.1 8) (ms.1 9) (ms.1 10) (ms.1 11) 0 (ms.2 1) (ms.2 2) (ms.2 3) (ms.2 4) (ms.2 5) (ms.2 6) (ms.2 7) (ms.2 8) (ms.2 9) (ms.2 10)) := hD
      refine lv_aload_n hx hb dX1_vector_69 rfl (lv_at hl 0 rfl) ?_
      refine lv_dup hx hb dX1_vector_70 rfl ?_
      refine va_get (D := (dC, dI)) (ci := 1) (v := .int (nI (ms.2 7))) (C := RX1) (T := TX1) (N := 23) hx hb hts hin hown hK hP 0 rfl rfl 8 (by decide) k73 (fun _ h9 => h9) rfl dX1_vector_71 ?_
      refine lv_iconst (v := nI 1) hx hb dX1_vector_74 (by decide +kernel) ?_
      refine sq_iadd hx hb dX1_vector_75 ?_
      refine va_put (D := (dC, dI)) (ci := 1) (v := .int (nI ((ms.2 7) + 1))) (ty := .int) (C := RX1) (T := TX1) (N := 23) hx hb hts hin tyX1 tyX1_ok nmX1 hown hK hP hD hS 0 rfl rfl 8 (by decide) k73 (fun _ h9 => h9) rfl (by decide +kernel) rfl rfl (Nat.le_of_ble_eq_true rfl) dX1_vector_76 (fun H locs hP hD hS => ?_)
      have hP : va_P (dC, dI) vwCl (wM h0 q cI cZ (ms.1 0) (sq_p6 (ms.1 1) ((ms.2 7) * 6) x1 x2 x3 x4 x5 x6) (upd (ms.1 2) (ms.2 7) b) (upd (ms.1 3) (ms.2 7) (-1)) (ms.1 4) (ms.1 5) (ms.1 6) (ms.1 7) (ms.1 8) (ms.1 9) (ms.1 10) (ms.1 11) 0 (ms.2 1) (ms.2 2) (ms.2 3) (ms.2 4) (ms.2 5) (ms.2 6) ((ms.2 7) + 1) (ms.2 8) (ms.2 9) (ms.2 10)) H := hP
      have hD : va_D A (wM h0 q cI cZ (ms.1 0) (sq_p6 (ms.1 1) ((ms.2 7) * 6) x1 x2 x3 x4 x5 x6) (upd (ms.1 2) (ms.2 7) b) (upd (ms.1 3) (ms.2 7) (-1)) (ms.1 4) (ms.1 5) (ms.1 6) (ms.1 7) (ms.1 8) (ms.1 9) (ms.1 10) (ms.1 11) 0 (ms.2 1) (ms.2 2) (ms.2 3) (ms.2 4) (ms.2 5) (ms.2 6) ((ms.2 7) + 1) (ms.2 8) (ms.2 9) (ms.2 10)) := hD
      refine lv_aload_n hx hb dX1_vector_79 rfl (lv_at hl 0 rfl) ?_
      refine va_get (D := (dC, dI)) (ci := 1) (v := .int (nI ((ms.2 7) + 1))) (C := RX1) (T := TX1) (N := 23) hx hb hts hin hown hK hP 0 rfl rfl 8 (by decide) k73 (fun _ h9 => h9) rfl dX1_vector_80 ?_
      refine lv_iconst (v := nI 1) hx hb dX1_vector_83 (by decide +kernel) ?_
      refine sq_isub hx hb (by omega) dX1_vector_84 ?_
      have hP : va_P (dC, dI) vwCl (wM h0 q cI cZ ((sq_mv (sq_mt ms 0) b x1 x2 x3 x4 x5 x6).1 0) ((sq_mv (sq_mt ms 0) b x1 x2 x3 x4 x5 x6).1 1) ((sq_mv (sq_mt ms 0) b x1 x2 x3 x4 x5 x6).1 2) ((sq_mv (sq_mt ms 0) b x1 x2 x3 x4 x5 x6).1 3) ((sq_mv (sq_mt ms 0) b x1 x2 x3 x4 x5 x6).1 4) ((sq_mv (sq_mt ms 0) b x1 x2 x3 x4 x5 x6).1 5) ((sq_mv (sq_mt ms 0) b x1 x2 x3 x4 x5 x6).1 6) ((sq_mv (sq_mt ms 0) b x1 x2 x3 x4 x5 x6).1 7) ((sq_mv (sq_mt ms 0) b x1 x2 x3 x4 x5 x6).1 8) ((sq_mv (sq_mt ms 0) b x1 x2 x3 x4 x5 x6).1 9) ((sq_mv (sq_mt ms 0) b x1 x2 x3 x4 x5 x6).1 10) ((sq_mv (sq_mt ms 0) b x1 x2 x3 x4 x5 x6).1 11) ((sq_mv (sq_mt ms 0) b x1 x2 x3 x4 x5 x6).2 0) ((sq_mv (sq_mt ms 0) b x1 x2 x3 x4 x5 x6).2 1) ((sq_mv (sq_mt ms 0) b x1 x2 x3 x4 x5 x6).2 2) ((sq_mv (sq_mt ms 0) b x1 x2 x3 x4 x5 x6).2 3) ((sq_mv (sq_mt ms 0) b x1 x2 x3 x4 x5 x6).2 4) ((sq_mv (sq_mt ms 0) b x1 x2 x3 x4 x5 x6).2 5) ((sq_mv (sq_mt ms 0) b x1 x2 x3 x4 x5 x6).2 6) ((sq_mv (sq_mt ms 0) b x1 x2 x3 x4 x5 x6).2 7) ((sq_mv (sq_mt ms 0) b x1 x2 x3 x4 x5 x6).2 8) ((sq_mv (sq_mt ms 0) b x1 x2 x3 x4 x5 x6).2 9) ((sq_mv (sq_mt ms 0) b x1 x2 x3 x4 x5 x6).2 10)) H := hP
      have hD : va_D A (wM h0 q cI cZ ((sq_mv (sq_mt ms 0) b x1 x2 x3 x4 x5 x6).1 0) ((sq_mv (sq_mt ms 0) b x1 x2 x3 x4 x5 x6).1 1) ((sq_mv (sq_mt ms 0) b x1 x2 x3 x4 x5 x6).1 2) ((sq_mv (sq_mt ms 0) b x1 x2 x3 x4 x5 x6).1 3) ((sq_mv (sq_mt ms 0) b x1 x2 x3 x4 x5 x6).1 4) ((sq_mv (sq_mt ms 0) b x1 x2 x3 x4 x5 x6).1 5) ((sq_mv (sq_mt ms 0) b x1 x2 x3 x4 x5 x6).1 6) ((sq_mv (sq_mt ms 0) b x1 x2 x3 x4 x5 x6).1 7) ((sq_mv (sq_mt ms 0) b x1 x2 x3 x4 x5 x6).1 8) ((sq_mv (sq_mt ms 0) b x1 x2 x3 x4 x5 x6).1 9) ((sq_mv (sq_mt ms 0) b x1 x2 x3 x4 x5 x6).1 10) ((sq_mv (sq_mt ms 0) b x1 x2 x3 x4 x5 x6).1 11) ((sq_mv (sq_mt ms 0) b x1 x2 x3 x4 x5 x6).2 0) ((sq_mv (sq_mt ms 0) b x1 x2 x3 x4 x5 x6).2 1) ((sq_mv (sq_mt ms 0) b x1 x2 x3 x4 x5 x6).2 2) ((sq_mv (sq_mt ms 0) b x1 x2 x3 x4 x5 x6).2 3) ((sq_mv (sq_mt ms 0) b x1 x2 x3 x4 x5 x6).2 4) ((sq_mv (sq_mt ms 0) b x1 x2 x3 x4 x5 x6).2 5) ((sq_mv (sq_mt ms 0) b x1 x2 x3 x4 x5 x6).2 6) ((sq_mv (sq_mt ms 0) b x1 x2 x3 x4 x5 x6).2 7) ((sq_mv (sq_mt ms 0) b x1 x2 x3 x4 x5 x6).2 8) ((sq_mv (sq_mt ms 0) b x1 x2 x3 x4 x5 x6).2 9) ((sq_mv (sq_mt ms 0) b x1 x2 x3 x4 x5 x6).2 10)) := hD
      have e9 : (sq_mV ms b x1 x2 x3 x4 x5 x6) = sq_mv (sq_mt ms 0) b x1 x2 x3 x4 x5 x6 := by unfold sq_mV; rw [if_pos hk]
      rw [← e9] at hP hD
      have e8 : sq_mrV ms = nI (ms.2 7) := by unfold sq_mrV; rw [if_pos hk]
      exact hend _ _ _ _ _ (by rw [e8, Nat.add_sub_cancel]) hP hD hS dX1_vector_85
    · refine lv_iconst (v := nI 0) hx hb dX1_vector_23 (by decide +kernel) ?_
      have hP : va_P (dC, dI) vwCl (wM h0 q cI cZ ((sq_mt ms (sq_mkV ms)).1 0) ((sq_mt ms (sq_mkV ms)).1 1) ((sq_mt ms (sq_mkV ms)).1 2) ((sq_mt ms (sq_mkV ms)).1 3) ((sq_mt ms (sq_mkV ms)).1 4) ((sq_mt ms (sq_mkV ms)).1 5) ((sq_mt ms (sq_mkV ms)).1 6) ((sq_mt ms (sq_mkV ms)).1 7) ((sq_mt ms (sq_mkV ms)).1 8) ((sq_mt ms (sq_mkV ms)).1 9) ((sq_mt ms (sq_mkV ms)).1 10) ((sq_mt ms (sq_mkV ms)).1 11) ((sq_mt ms (sq_mkV ms)).2 0) ((sq_mt ms (sq_mkV ms)).2 1) ((sq_mt ms (sq_mkV ms)).2 2) ((sq_mt ms (sq_mkV ms)).2 3) ((sq_mt ms (sq_mkV ms)).2 4) ((sq_mt ms (sq_mkV ms)).2 5) ((sq_mt ms (sq_mkV ms)).2 6) ((sq_mt ms (sq_mkV ms)).2 7) ((sq_mt ms (sq_mkV ms)).2 8) ((sq_mt ms (sq_mkV ms)).2 9) ((sq_mt ms (sq_mkV ms)).2 10)) H := hP
      have hD : va_D A (wM h0 q cI cZ ((sq_mt ms (sq_mkV ms)).1 0) ((sq_mt ms (sq_mkV ms)).1 1) ((sq_mt ms (sq_mkV ms)).1 2) ((sq_mt ms (sq_mkV ms)).1 3) ((sq_mt ms (sq_mkV ms)).1 4) ((sq_mt ms (sq_mkV ms)).1 5) ((sq_mt ms (sq_mkV ms)).1 6) ((sq_mt ms (sq_mkV ms)).1 7) ((sq_mt ms (sq_mkV ms)).1 8) ((sq_mt ms (sq_mkV ms)).1 9) ((sq_mt ms (sq_mkV ms)).1 10) ((sq_mt ms (sq_mkV ms)).1 11) ((sq_mt ms (sq_mkV ms)).2 0) ((sq_mt ms (sq_mkV ms)).2 1) ((sq_mt ms (sq_mkV ms)).2 2) ((sq_mt ms (sq_mkV ms)).2 3) ((sq_mt ms (sq_mkV ms)).2 4) ((sq_mt ms (sq_mkV ms)).2 5) ((sq_mt ms (sq_mkV ms)).2 6) ((sq_mt ms (sq_mkV ms)).2 7) ((sq_mt ms (sq_mkV ms)).2 8) ((sq_mt ms (sq_mkV ms)).2 9) ((sq_mt ms (sq_mkV ms)).2 10)) := hD
      have hk : ¬ sq_mkV ms = 0 := by have h2 : 0 < sq_mkV ms := sq_bnd hc; omega
      have e9 : (sq_mV ms b x1 x2 x3 x4 x5 x6) = sq_mt ms (sq_mkV ms) := by unfold sq_mV; rw [if_neg hk]
      rw [← e9] at hP hD
      exact hend _ _ _ _ _ (by unfold sq_mrV; rw [if_neg hk]; rfl) hP hD hS dX1_vector_24
  refine lv_aload_n hx hb dX1_vector_0 rfl (lv_at hl 0 rfl) ?_
  refine lv_aload_n hx hb dX1_vector_1 rfl (lv_at hl 0 rfl) ?_
  refine va_get (D := (dC, dI)) (ci := 1) (v := .int (nI (ms.2 7))) (C := RX1) (T := TX1) (N := 23) hx hb hts hin hown hK hP 0 rfl rfl 8 (by decide) k73 (fun _ h9 => h9) rfl dX1_vector_2 ?_
  refine lv_sipush (v := nI 200) hx hb dX1_vector_5 (by decide +kernel) ?_
  refine sq_icmp_ne (tgt := 15) hx hb (by omega) (by omega) dX1_vector_8 (by decide) (fun hc => ?_) (fun hc => ?_)
  · refine lv_iconst (v := nI 0) hx hb dX1_vector_15 (by decide +kernel) ?_
    exact T1 false _ _ ls (decide_eq_false hc).symm hP hD hS hl
  · refine lv_iconst (v := nI 1) hx hb dX1_vector_11 (by decide +kernel) ?_
    refine lv_goto (tgt := 16) hx hb dX1_vector_12 (by decide) ?_
    exact T1 true _ _ ls (decide_eq_true hc).symm hP hD hS hl
