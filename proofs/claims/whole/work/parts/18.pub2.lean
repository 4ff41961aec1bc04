def rm_cell : Room := { frames := 6, cells := 1, slots := 6, locals := 90 }
set_option maxHeartbeats 4000000 in
set_option maxRecDepth 100000 in
theorem c_cell (l : Launch) (hl9 : l.stackTraces = false) (S : Nat → Nat) (dC : Nat → ClassId) (dI : Nat → Nat → Nat) (h0 : Nat) (q : Nat → Nat) (cI cZ : ClassId) (st : SqS) (x y w : Int32) (hok : sq_ok st) : sq_Xi sq_cC sq_cD RX0 sq_cS sq_cN S l yX0_cell wsX0_cell rm_cell [.ref h0, .int x, .int y, .int w] (dC, dI) vwCl [(cI, .int), (cZ, .boolean)] (wX h0 q cI cZ (st.1 0) (st.1 1) (st.1 2) (st.1 3) (st.1 4) (st.1 5) (st.1 6) (st.1 7) (st.1 8) (st.1 9) (st.1 10) (st.2 0) (st.2 1) (st.2 2) (st.2 3) (st.2 4) (st.2 5) (st.2 6) (st.2 7) (st.2 8)) (wX h0 q cI cZ (st.1 0) (st.1 1) (st.1 2) (st.1 3) (st.1 4) (st.1 5) (st.1 6) (st.1 7) (st.1 8) (st.1 9) (st.1 10) (st.2 0) (st.2 1) (st.2 2) (st.2 3) (st.2 4) (st.2 5) (st.2 6) (st.2 7) (st.2 8)) (sq_kL st x y w) (fun k => if k = 1 then "java/lang/IndexOutOfBoundsException" else "java/lang/IllegalArgumentException") (sq_rL st x y w) := by
  refine sq_ofXi (cc := cX0_cell) (maxL := 5) (by decide) rfl (Nat.le_of_ble_eq_true rfl) ?_
  intro p e s m args below meth c A ls Q hx hb hts hown hml hK hP hD hS hA hl hZ hlocks hEx hend hQ
  have hl : lv_has ls 5 [(0, .ref h0), (1, .int x), (2, .int y), (3, .int w)] := hl
  have hin : ∀ w ∈ u_ws RX0 TX0 20, w ∈ wsX0_cell := fun w h => List.mem_cons_of_mem _ (inX0 w h)
  have k29 := hts _ (List.mem_cons_of_mem _ mfX0_29)
  have k32 := hts _ (List.mem_cons_of_mem _ mfX0_32)
  have k35 := hts _ (List.mem_cons_of_mem _ mfX0_35)
  have k38 := hts _ (List.mem_cons_of_mem _ mfX0_38)
  have k41 := hts _ (List.mem_cons_of_mem _ mfX0_41)
  obtain ⟨⟨o1, o2⟩, o3, ⟨o4, o5⟩, o6, ⟨o7, o8, o9⟩, o10, o11, o12, o13, o14⟩ := id hok
  refine lv_aload_n hx hb dX0_cell_0 rfl (lv_at hl 0 rfl) ?_
  refine lv_iload_n hx hb dX0_cell_1 rfl (lv_at hl 1 rfl) ?_
  refine sq_calli (As := [.int x]) (c_isInSquare l dC dI h0 q cI cZ (st.1 0) (st.1 1) (st.1 2) (st.1 3) (st.1 4) (st.1 5) (st.1 6) (st.1 7) (st.1 8) (st.1 9) (st.1 10) (st.2 0) (st.2 1) (st.2 2) (st.2 3) (st.2 4) (st.2 5) (st.2 6) (st.2 7) (st.2 8) x) ⟨hx, hb, hml, hown, hts⟩ (cwV 1 hts (sq_good gvX0_82) rfl rfl rfl (by decide +kernel) ⟨Nat.le_of_ble_eq_true rfl, Nat.le_of_ble_eq_true rfl⟩) hK hP hD hS hA rfl rfl rfl rfl hl.1 rfl (Nat.le_of_ble_eq_true rfl) dX0_cell_2 ⟨Nat.zero_le _, Nat.zero_le _⟩ (fun H locs hP hD hS => ?_)
  refine lv_if_eq (tgt := 16) hx hb dX0_cell_5 (by decide) (fun hc => ?_) (fun hc => ?_)
  · have hk1 : sq_kL st x y w = 1 := by unfold sq_kL; rw [if_pos (fun h => sq_b0d hc h.1)]
    have hk9 : ¬ (sq_kL st x y w) = 0 := (by rw [hk1]; decide)
    have hE9 : "java/lang/IndexOutOfBoundsException" = (fun k => if k = 1 then "java/lang/IndexOutOfBoundsException" else "java/lang/IllegalArgumentException") (sq_kL st x y w) := (by rw [hk1]; rfl)
    exact sq_thr (k := sq_kL st x y w) (En := fun k => if k = 1 then "java/lang/IndexOutOfBoundsException" else "java/lang/IllegalArgumentException") (cls := "java/lang/IndexOutOfBoundsException") (names := ["java/lang/RuntimeException", "java/lang/Exception"]) hQ hx hb hl9 hown (by decide +kernel) (by decide +kernel) (hts _ (List.mem_cons_of_mem _ mkX0_86)) (hts _ (List.mem_cons_of_mem _ mt_IndexOutOfBoundsException)) (hZ.2.2.2.2.1 (88, "there is no such cell") (by decide)) (vx_hat (L := vx_atS RX0 90 "java/lang/IndexOutOfBoundsException" ["java/lang/RuntimeException", "java/lang/Exception"]) (B := [.castable "java/lang/IndexOutOfBoundsException" "java/lang/IndexOutOfBoundsException", .declares ⟨"java/lang/RuntimeException", "<init>", "(Ljava/lang/String;)V"⟩, .declares ⟨"java/lang/Exception", "<init>", "(Ljava/lang/String;)V"⟩, .declares ⟨"java/lang/Throwable", "<init>", "(Ljava/lang/String;)V"⟩]) (fun w hw => hts w (List.mem_cons_of_mem _ (sq_inT (sq_ax90 w hw) (List.mem_filter.mp hw).2))) (by decide +kernel) (vx_c (va_Nw.use rfl (hZ.2.2.1 ("java/lang/IndexOutOfBoundsException", "java/lang/IndexOutOfBoundsException") (by decide))) (vx_c (va_Nw.use rfl (hZ.2.2.2.1 ⟨"java/lang/RuntimeException", "<init>", "(Ljava/lang/String;)V"⟩ (by decide))) (vx_c (va_Nw.use rfl (hZ.2.2.2.1 ⟨"java/lang/Exception", "<init>", "(Ljava/lang/String;)V"⟩ (by decide))) (vx_c (va_Nw.use rfl (hZ.2.2.2.1 ⟨"java/lang/Throwable", "<init>", "(Ljava/lang/String;)V"⟩ (by decide))) (vx_n)))))) (by decide +kernel) hZ hS (hl.1.trans hml.symm) dX0_cell_16 dX0_cell_19 dX0_cell_20 dX0_cell_22 dX0_cell_25 hEx (Nat.le_of_ble_eq_true rfl) (Nat.le_of_ble_eq_true rfl) (Nat.le_of_ble_eq_true rfl) (Nat.le_of_ble_eq_true rfl) hlocks hP hK hD hk9 hE9
  · refine lv_aload_n hx hb dX0_cell_8 rfl (lv_at hl 0 rfl) ?_
    refine lv_iload_n hx hb dX0_cell_9 rfl (lv_at hl 2 rfl) ?_
    refine sq_calli (As := [.int y]) (c_isInSquare l dC dI h0 q cI cZ (st.1 0) (st.1 1) (st.1 2) (st.1 3) (st.1 4) (st.1 5) (st.1 6) (st.1 7) (st.1 8) (st.1 9) (st.1 10) (st.2 0) (st.2 1) (st.2 2) (st.2 3) (st.2 4) (st.2 5) (st.2 6) (st.2 7) (st.2 8) y) ⟨hx, hb, hml, hown, hts⟩ (cwV 1 hts (sq_good gvX0_82) rfl rfl rfl (by decide +kernel) ⟨Nat.le_of_ble_eq_true rfl, Nat.le_of_ble_eq_true rfl⟩) hK hP hD hS hA rfl rfl rfl rfl hl.1 rfl (Nat.le_of_ble_eq_true rfl) dX0_cell_10 ⟨Nat.zero_le _, Nat.zero_le _⟩ (fun H locs hP hD hS => ?_)
    refine lv_if_ne (tgt := 26) hx hb dX0_cell_13 (by decide) (fun hd => ?_) (fun hd => ?_)
    · have hv : sq_in (st.2 0) x := sq_bnd hc
      have hw : sq_in (st.2 0) y := sq_bnd hd
      have hkk : sq_kL st x y w = if w < 0 ∨ nI 4 < w then 2 else 0 := by unfold sq_kL; rw [if_neg (fun h => h ⟨hv, hw⟩)]
      obtain ⟨j, hj, rfl⟩ := sq_in_of hv (by omega)
      obtain ⟨i, hi, rfl⟩ := sq_in_of hw (by omega)
      have e8 : sq_vec (nI j) = j := sq_vec_nI (by omega)
      have e9 : sq_vec (nI i) = i := sq_vec_nI (by omega)
      refine lv_iload_n hx hb dX0_cell_26 rfl (lv_at hl 1 rfl) ?_
      refine lv_bipush (v := nI 6) hx hb dX0_cell_27 (by decide +kernel) ?_
      refine sq_imul hx hb dX0_cell_29 ?_
      refine lv_iload_n hx hb dX0_cell_30 rfl (lv_at hl 2 rfl) ?_
      refine sq_iadd hx hb dX0_cell_31 ?_
      refine lv_istore (lv' := [(4, .int (nI ((j * 6) + i))), (0, .ref h0), (1, .int (nI j)), (2, .int (nI i)), (3, .int w)]) hx hb dX0_cell_32 hl (by decide) rfl (fun ls hl => ?_)
      refine lv_iload_n hx hb dX0_cell_34 rfl (lv_at hl 4 rfl) ?_
      rcases sq_sw5 w with (rfl | rfl | rfl | rfl | rfl) | hw9
      · refine lv_tableIn (tgt := 68) hx hb dX0_cell_35 (by decide) (by decide) rfl (by decide) ?_
        rw [if_neg (by decide)] at hkk
        refine lv_aload_n hx hb dX0_cell_68 rfl (lv_at hl 1 rfl) ?_
        refine va_get (D := (dC, dI)) (ci := 0) (v := .ref (q 6)) (C := RX0) (T := TX0) (N := 20) hx hb hts hin hown hK hP 0 rfl rfl 6 (by decide) k29 (fun _ h9 => h9) rfl dX0_cell_69 ?_
        refine lv_iload hx hb dX0_cell_72 (lv_at hl 0 rfl) ?_
        refine sq_iald hx hb hK hP 7 0 rfl rfl (i := ((j * 6) + i)) (by omega) (by decide) dX0_cell_74 ?_
        exact hend _ _ _ _ _ hkk (by unfold sq_rL; rw [e8, e9, if_pos rfl]) hP hD hS dX0_cell_75
      · refine lv_tableIn (tgt := 76) hx hb dX0_cell_35 (by decide) (by decide) rfl (by decide) ?_
        rw [if_neg (by decide)] at hkk
        refine lv_aload_n hx hb dX0_cell_76 rfl (lv_at hl 1 rfl) ?_
        refine va_get (D := (dC, dI)) (ci := 0) (v := .ref (q 7)) (C := RX0) (T := TX0) (N := 20) hx hb hts hin hown hK hP 0 rfl rfl 7 (by decide) k32 (fun _ h9 => h9) rfl dX0_cell_77 ?_
        refine lv_iload hx hb dX0_cell_80 (lv_at hl 0 rfl) ?_
        refine sq_iald hx hb hK hP 8 0 rfl rfl (i := ((j * 6) + i)) (by omega) (by decide) dX0_cell_82 ?_
        exact hend _ _ _ _ _ hkk (by unfold sq_rL; rw [e8, e9, if_neg (by decide), if_pos rfl]) hP hD hS dX0_cell_83
      · refine lv_tableIn (tgt := 84) hx hb dX0_cell_35 (by decide) (by decide) rfl (by decide) ?_
        rw [if_neg (by decide)] at hkk
        refine lv_aload_n hx hb dX0_cell_84 rfl (lv_at hl 1 rfl) ?_
        refine va_get (D := (dC, dI)) (ci := 0) (v := .ref (q 8)) (C := RX0) (T := TX0) (N := 20) hx hb hts hin hown hK hP 0 rfl rfl 8 (by decide) k35 (fun _ h9 => h9) rfl dX0_cell_85 ?_
        refine lv_iload hx hb dX0_cell_88 (lv_at hl 0 rfl) ?_
        refine sq_iald hx hb hK hP 9 0 rfl rfl (i := ((j * 6) + i)) (by omega) (by decide) dX0_cell_90 ?_
        exact hend _ _ _ _ _ hkk (by unfold sq_rL; rw [e8, e9, if_neg (by decide), if_neg (by decide), if_pos rfl]) hP hD hS dX0_cell_91
      · refine lv_tableIn (tgt := 92) hx hb dX0_cell_35 (by decide) (by decide) rfl (by decide) ?_
        rw [if_neg (by decide)] at hkk
        refine lv_aload_n hx hb dX0_cell_92 rfl (lv_at hl 1 rfl) ?_
        refine va_get (D := (dC, dI)) (ci := 0) (v := .ref (q 9)) (C := RX0) (T := TX0) (N := 20) hx hb hts hin hown hK hP 0 rfl rfl 9 (by decide) k38 (fun _ h9 => h9) rfl dX0_cell_93 ?_
        refine lv_iload hx hb dX0_cell_96 (lv_at hl 0 rfl) ?_
        refine sq_iald hx hb hK hP 10 0 rfl rfl (i := ((j * 6) + i)) (by omega) (by decide) dX0_cell_98 ?_
        exact hend _ _ _ _ _ hkk (by unfold sq_rL; rw [e8, e9, if_neg (by decide), if_neg (by decide), if_neg (by decide), if_pos rfl]) hP hD hS dX0_cell_99
      · refine lv_tableIn (tgt := 100) hx hb dX0_cell_35 (by decide) (by decide) rfl (by decide) ?_
        rw [if_neg (by decide)] at hkk
        refine lv_aload_n hx hb dX0_cell_100 rfl (lv_at hl 1 rfl) ?_
        refine va_get (D := (dC, dI)) (ci := 0) (v := .ref (q 10)) (C := RX0) (T := TX0) (N := 20) hx hb hts hin hown hK hP 0 rfl rfl 10 (by decide) k41 (fun _ h9 => h9) rfl dX0_cell_101 ?_
        refine lv_iload hx hb dX0_cell_104 (lv_at hl 0 rfl) ?_
        refine sq_zald hx hb hK hP 11 1 rfl rfl (i := ((j * 6) + i)) (by omega) (by decide) dX0_cell_106 ?_
        refine lv_if_eq (tgt := 114) hx hb dX0_cell_107 (by decide) (fun hf => ?_) (fun hf => ?_)
        · refine lv_iconst (v := nI 0) hx hb dX0_cell_114 (by decide +kernel) ?_
          exact hend _ _ _ _ _ hkk (by unfold sq_rL; rw [e8, e9, if_neg (by decide), if_neg (by decide), if_neg (by decide), if_neg (by decide), if_pos hf]) hP hD hS dX0_cell_115
        · refine lv_iconst (v := nI 1) hx hb dX0_cell_110 (by decide +kernel) ?_
          refine lv_goto (tgt := 115) hx hb dX0_cell_111 (by decide) ?_
          exact hend _ _ _ _ _ hkk (by unfold sq_rL; rw [e8, e9, if_neg (by decide), if_neg (by decide), if_neg (by decide), if_neg (by decide), if_neg hf]) hP hD hS dX0_cell_115
      · refine lv_tableOut (tgt := 116) hx hb dX0_cell_35 (sq_swOut (k := 4) (by decide) hw9) (by decide) ?_
        rw [if_pos hw9] at hkk
        have hk9 : ¬ (sq_kL st (nI j) (nI i) w) = 0 := (by rw [hkk]; decide)
        have hE9 : "java/lang/IllegalArgumentException" = (fun k => if k = 1 then "java/lang/IndexOutOfBoundsException" else "java/lang/IllegalArgumentException") (sq_kL st (nI j) (nI i) w) := (by rw [hkk]; rfl)
        exact sq_thr (k := sq_kL st (nI j) (nI i) w) (En := fun k => if k = 1 then "java/lang/IndexOutOfBoundsException" else "java/lang/IllegalArgumentException") (cls := "java/lang/IllegalArgumentException") (names := ["java/lang/RuntimeException", "java/lang/Exception"]) hQ hx hb hl9 hown (by decide +kernel) (by decide +kernel) (hts _ (List.mem_cons_of_mem _ mkX0_48)) (hts _ (List.mem_cons_of_mem _ mt_IllegalArgumentException)) (hZ.2.2.2.2.1 (91, "what is not 0 .. 4") (by decide)) (vx_hat (L := vx_atS RX0 52 "java/lang/IllegalArgumentException" ["java/lang/RuntimeException", "java/lang/Exception"]) (B := [.castable "java/lang/IllegalArgumentException" "java/lang/IllegalArgumentException", .declares ⟨"java/lang/RuntimeException", "<init>", "(Ljava/lang/String;)V"⟩, .declares ⟨"java/lang/Exception", "<init>", "(Ljava/lang/String;)V"⟩, .declares ⟨"java/lang/Throwable", "<init>", "(Ljava/lang/String;)V"⟩]) (fun w hw => hts w (List.mem_cons_of_mem _ (sq_inT (sq_ax52 w hw) (List.mem_filter.mp hw).2))) (by decide +kernel) (vx_c (va_Nw.use rfl (hZ.2.2.1 ("java/lang/IllegalArgumentException", "java/lang/IllegalArgumentException") (by decide))) (vx_c (va_Nw.use rfl (hZ.2.2.2.1 ⟨"java/lang/RuntimeException", "<init>", "(Ljava/lang/String;)V"⟩ (by decide))) (vx_c (va_Nw.use rfl (hZ.2.2.2.1 ⟨"java/lang/Exception", "<init>", "(Ljava/lang/String;)V"⟩ (by decide))) (vx_c (va_Nw.use rfl (hZ.2.2.2.1 ⟨"java/lang/Throwable", "<init>", "(Ljava/lang/String;)V"⟩ (by decide))) (vx_n)))))) (by decide +kernel) hZ hS (hl.1.trans hml.symm) dX0_cell_116 dX0_cell_119 dX0_cell_120 dX0_cell_122 dX0_cell_125 hEx (Nat.le_of_ble_eq_true rfl) (Nat.le_of_ble_eq_true rfl) (Nat.le_of_ble_eq_true rfl) (Nat.le_of_ble_eq_true rfl) hlocks hP hK hD hk9 hE9
    · have hk1 : sq_kL st x y w = 1 := by unfold sq_kL; rw [if_pos (fun h => sq_b0d hd h.2)]
      have hk9 : ¬ (sq_kL st x y w) = 0 := (by rw [hk1]; decide)
      have hE9 : "java/lang/IndexOutOfBoundsException" = (fun k => if k = 1 then "java/lang/IndexOutOfBoundsException" else "java/lang/IllegalArgumentException") (sq_kL st x y w) := (by rw [hk1]; rfl)
      exact sq_thr (k := sq_kL st x y w) (En := fun k => if k = 1 then "java/lang/IndexOutOfBoundsException" else "java/lang/IllegalArgumentException") (cls := "java/lang/IndexOutOfBoundsException") (names := ["java/lang/RuntimeException", "java/lang/Exception"]) hQ hx hb hl9 hown (by decide +kernel) (by decide +kernel) (hts _ (List.mem_cons_of_mem _ mkX0_86)) (hts _ (List.mem_cons_of_mem _ mt_IndexOutOfBoundsException)) (hZ.2.2.2.2.1 (88, "there is no such cell") (by decide)) (vx_hat (L := vx_atS RX0 90 "java/lang/IndexOutOfBoundsException" ["java/lang/RuntimeException", "java/lang/Exception"]) (B := [.castable "java/lang/IndexOutOfBoundsException" "java/lang/IndexOutOfBoundsException", .declares ⟨"java/lang/RuntimeException", "<init>", "(Ljava/lang/String;)V"⟩, .declares ⟨"java/lang/Exception", "<init>", "(Ljava/lang/String;)V"⟩, .declares ⟨"java/lang/Throwable", "<init>", "(Ljava/lang/String;)V"⟩]) (fun w hw => hts w (List.mem_cons_of_mem _ (sq_inT (sq_ax90 w hw) (List.mem_filter.mp hw).2))) (by decide +kernel) (vx_c (va_Nw.use rfl (hZ.2.2.1 ("java/lang/IndexOutOfBoundsException", "java/lang/IndexOutOfBoundsException") (by decide))) (vx_c (va_Nw.use rfl (hZ.2.2.2.1 ⟨"java/lang/RuntimeException", "<init>", "(Ljava/lang/String;)V"⟩ (by decide))) (vx_c (va_Nw.use rfl (hZ.2.2.2.1 ⟨"java/lang/Exception", "<init>", "(Ljava/lang/String;)V"⟩ (by decide))) (vx_c (va_Nw.use rfl (hZ.2.2.2.1 ⟨"java/lang/Throwable", "<init>", "(Ljava/lang/String;)V"⟩ (by decide))) (vx_n)))))) (by decide +kernel) hZ hS (hl.1.trans hml.symm) dX0_cell_16 dX0_cell_19 dX0_cell_20 dX0_cell_22 dX0_cell_25 hEx (Nat.le_of_ble_eq_true rfl) (Nat.le_of_ble_eq_true rfl) (Nat.le_of_ble_eq_true rfl) (Nat.le_of_ble_eq_true rfl) hlocks hP hK hD hk9 hE9
def rm_about : Room := { frames := 6, cells := 1, slots := 6, locals := 90 }
set_option maxHeartbeats 4000000 in
set_option maxRecDepth 100000 in
theorem c_about (l : Launch) (hl9 : l.stackTraces = false) (S : Nat → Nat) (dC : Nat → ClassId) (dI : Nat → Nat → Nat) (h0 : Nat) (q : Nat → Nat) (cI cZ : ClassId) (st : SqS) (w : Int32) (hok : sq_ok st) : sq_Xi sq_cC sq_cD RX0 sq_cS sq_cN S l yX0_about wsX0_about rm_about [.ref h0, .int w] (dC, dI) vwCl [(cI, .int), (cZ, .boolean)] (wX h0 q cI cZ (st.1 0) (st.1 1) (st.1 2) (st.1 3) (st.1 4) (st.1 5) (st.1 6) (st.1 7) (st.1 8) (st.1 9) (st.1 10) (st.2 0) (st.2 1) (st.2 2) (st.2 3) (st.2 4) (st.2 5) (st.2 6) (st.2 7) (st.2 8)) (wX h0 q cI cZ (st.1 0) (st.1 1) (st.1 2) (st.1 3) (st.1 4) (st.1 5) (st.1 6) (st.1 7) (st.1 8) (st.1 9) (st.1 10) (st.2 0) (st.2 1) (st.2 2) (st.2 3) (st.2 4) (st.2 5) (st.2 6) (st.2 7) (st.2 8)) (sq_kA w) (fun _ => "java/lang/IllegalArgumentException") (sq_rA st w) := by
  refine sq_ofXi (cc := cX0_about) (maxL := 2) (by decide) rfl (Nat.le_of_ble_eq_true rfl) ?_
  intro p e s m args below meth c A ls Q hx hb hts hown hml hK hP hD hS hA hl hZ hlocks hEx hend hQ
  have hl : lv_has ls 2 [(0, .ref h0), (1, .int w)] := hl
  have hin : ∀ w ∈ u_ws RX0 TX0 20, w ∈ wsX0_about := fun w h => List.mem_cons_of_mem _ (inX0 w h)
  have k55 := hts _ (List.mem_cons_of_mem _ mfX0_55)
  have k64 := hts _ (List.mem_cons_of_mem _ mfX0_64)
  have k70 := hts _ (List.mem_cons_of_mem _ mfX0_70)
  have k98 := hts _ (List.mem_cons_of_mem _ mfX0_98)
  have k112 := hts _ (List.mem_cons_of_mem _ mfX0_112)
  have k115 := hts _ (List.mem_cons_of_mem _ mfX0_115)
  have k124 := hts _ (List.mem_cons_of_mem _ mfX0_124)
  obtain ⟨⟨o1, o2⟩, o3, ⟨o4, o5⟩, o6, ⟨o7, o8, o9⟩, o10, o11, o12, o13, o14⟩ := id hok
  refine lv_iload_n hx hb dX0_about_0 rfl (lv_at hl 1 rfl) ?_
  rcases sq_sw7 w with (rfl | rfl | rfl | rfl | rfl | rfl | rfl) | hw9
  · refine lv_tableIn (tgt := 44) hx hb dX0_about_1 (by decide) (by decide) rfl (by decide) ?_
    have hkk : sq_kA 0 = 0 := by unfold sq_kA; rw [if_neg (by decide)]
    refine lv_aload_n hx hb dX0_about_44 rfl (lv_at hl 0 rfl) ?_
    refine va_get (D := (dC, dI)) (ci := 0) (v := .int (nI (st.2 1))) (C := RX0) (T := TX0) (N := 20) hx hb hts hin hown hK hP 0 rfl rfl 12 (by decide) k70 (fun _ h9 => h9) rfl dX0_about_45 ?_
    exact hend _ _ _ _ _ hkk (by unfold sq_rA; rw [if_pos rfl]) hP hD hS dX0_about_48
  · refine lv_tableIn (tgt := 49) hx hb dX0_about_1 (by decide) (by decide) rfl (by decide) ?_
    have hkk : sq_kA 1 = 0 := by unfold sq_kA; rw [if_neg (by decide)]
    refine lv_aload_n hx hb dX0_about_49 rfl (lv_at hl 0 rfl) ?_
    refine va_get (D := (dC, dI)) (ci := 0) (v := .int (nI (st.2 5))) (C := RX0) (T := TX0) (N := 20) hx hb hts hin hown hK hP 0 rfl rfl 16 (by decide) k64 (fun _ h9 => h9) rfl dX0_about_50 ?_
    refine lv_aload_n hx hb dX0_about_53 rfl (lv_at hl 0 rfl) ?_
    refine va_get (D := (dC, dI)) (ci := 0) (v := .int (nI (st.2 6))) (C := RX0) (T := TX0) (N := 20) hx hb hts hin hown hK hP 0 rfl rfl 17 (by decide) k98 (fun _ h9 => h9) rfl dX0_about_54 ?_
    refine sq_isub hx hb (by omega) dX0_about_57 ?_
    exact hend _ _ _ _ _ hkk (by unfold sq_rA; rw [if_neg (by decide), if_pos rfl]) hP hD hS dX0_about_58
  · refine lv_tableIn (tgt := 59) hx hb dX0_about_1 (by decide) (by decide) rfl (by decide) ?_
    have hkk : sq_kA 2 = 0 := by unfold sq_kA; rw [if_neg (by decide)]
    refine lv_aload_n hx hb dX0_about_59 rfl (lv_at hl 0 rfl) ?_
    refine va_get (D := (dC, dI)) (ci := 0) (v := .int (nI (st.2 2))) (C := RX0) (T := TX0) (N := 20) hx hb hts hin hown hK hP 0 rfl rfl 13 (by decide) k55 (fun _ h9 => h9) rfl dX0_about_60 ?_
    refine lv_aload_n hx hb dX0_about_63 rfl (lv_at hl 0 rfl) ?_
    refine va_get (D := (dC, dI)) (ci := 0) (v := .int (nI (st.2 3))) (C := RX0) (T := TX0) (N := 20) hx hb hts hin hown hK hP 0 rfl rfl 14 (by decide) k112 (fun _ h9 => h9) rfl dX0_about_64 ?_
    refine sq_isub hx hb (by omega) dX0_about_67 ?_
    exact hend _ _ _ _ _ hkk (by unfold sq_rA; rw [if_neg (by decide), if_neg (by decide), if_pos rfl]) hP hD hS dX0_about_68
  · refine lv_tableIn (tgt := 69) hx hb dX0_about_1 (by decide) (by decide) rfl (by decide) ?_
    have hkk : sq_kA 3 = 0 := by unfold sq_kA; rw [if_neg (by decide)]
    refine lv_aload_n hx hb dX0_about_69 rfl (lv_at hl 0 rfl) ?_
    refine va_get (D := (dC, dI)) (ci := 0) (v := .int (nI (st.2 7))) (C := RX0) (T := TX0) (N := 20) hx hb hts hin hown hK hP 0 rfl rfl 18 (by decide) k115 (fun _ h9 => h9) rfl dX0_about_70 ?_
    exact hend _ _ _ _ _ hkk (by unfold sq_rA; rw [if_neg (by decide), if_neg (by decide), if_neg (by decide), if_pos rfl]) hP hD hS dX0_about_73
  · refine lv_tableIn (tgt := 74) hx hb dX0_about_1 (by decide) (by decide) rfl (by decide) ?_
    have hkk : sq_kA 4 = 0 := by unfold sq_kA; rw [if_neg (by decide)]
    refine lv_aload_n hx hb dX0_about_74 rfl (lv_at hl 0 rfl) ?_
    refine sq_calli (As := []) (c_isSetComplete l dC dI h0 q cI cZ (st.1 0) (st.1 1) (st.1 2) (st.1 3) (st.1 4) (st.1 5) (st.1 6) (st.1 7) (st.1 8) (st.1 9) (st.1 10) (st.2 0) (st.2 1) (st.2 2) (st.2 3) (st.2 4) (st.2 5) (st.2 6) (st.2 7) (st.2 8) (by omega) (by omega)) ⟨hx, hb, hml, hown, hts⟩ (cwV 0 hts (sq_good gvX0_118) rfl rfl rfl (by decide +kernel) ⟨Nat.le_of_ble_eq_true rfl, Nat.le_of_ble_eq_true rfl⟩) hK hP hD hS hA rfl rfl rfl rfl hl.1 rfl (Nat.le_of_ble_eq_true rfl) dX0_about_75 ⟨Nat.zero_le _, Nat.zero_le _⟩ (fun H locs hP hD hS => ?_)
    refine lv_if_eq (tgt := 85) hx hb dX0_about_78 (by decide) (fun hf => ?_) (fun hf => ?_)
    · refine lv_iconst (v := nI 0) hx hb dX0_about_85 (by decide +kernel) ?_
      exact hend _ _ _ _ _ hkk (by unfold sq_rA; rw [if_neg (by decide), if_neg (by decide), if_neg (by decide), if_neg (by decide), if_pos rfl]; exact sq_bF (sq_b0d hf)) hP hD hS dX0_about_86
    · refine lv_iconst (v := nI 1) hx hb dX0_about_81 (by decide +kernel) ?_
      refine lv_goto (tgt := 86) hx hb dX0_about_82 (by decide) ?_
      exact hend _ _ _ _ _ hkk (by unfold sq_rA; rw [if_neg (by decide), if_neg (by decide), if_neg (by decide), if_neg (by decide), if_pos rfl]; exact sq_bT (sq_bnd hf)) hP hD hS dX0_about_86
  · refine lv_tableIn (tgt := 87) hx hb dX0_about_1 (by decide) (by decide) rfl (by decide) ?_
    have hkk : sq_kA 5 = 0 := by unfold sq_kA; rw [if_neg (by decide)]
    refine lv_aload_n hx hb dX0_about_87 rfl (lv_at hl 0 rfl) ?_
    refine sq_calli (As := []) (c_countReachedCells l dC dI h0 q cI cZ (st.1 0) (st.1 1) (st.1 2) (st.1 3) (st.1 4) (st.1 5) (st.1 6) (st.1 7) (st.1 8) (st.1 9) (st.1 10) (st.2 0) (st.2 1) (st.2 2) (st.2 3) (st.2 4) (st.2 5) (st.2 6) (st.2 7) (st.2 8) o1 o2) ⟨hx, hb, hml, hown, hts⟩ (cwV 0 hts (sq_good gvX0_121) rfl rfl rfl (by decide +kernel) ⟨Nat.le_of_ble_eq_true rfl, Nat.le_of_ble_eq_true rfl⟩) hK hP hD hS hA rfl rfl rfl rfl hl.1 rfl (Nat.le_of_ble_eq_true rfl) dX0_about_88 ⟨Nat.zero_le _, Nat.zero_le _⟩ (fun H locs hP hD hS => ?_)
    exact hend _ _ _ _ _ hkk (by unfold sq_rA; rw [if_neg (by decide), if_neg (by decide), if_neg (by decide), if_neg (by decide), if_neg (by decide), if_pos rfl]) hP hD hS dX0_about_91
  · refine lv_tableIn (tgt := 92) hx hb dX0_about_1 (by decide) (by decide) rfl (by decide) ?_
    have hkk : sq_kA 6 = 0 := by unfold sq_kA; rw [if_neg (by decide)]
    refine lv_aload_n hx hb dX0_about_92 rfl (lv_at hl 0 rfl) ?_
    refine va_get (D := (dC, dI)) (ci := 0) (v := .int (nI (st.2 0))) (C := RX0) (T := TX0) (N := 20) hx hb hts hin hown hK hP 0 rfl rfl 11 (by decide) k124 (fun _ h9 => h9) rfl dX0_about_93 ?_
    exact hend _ _ _ _ _ hkk (by unfold sq_rA; rw [if_neg (by decide), if_neg (by decide), if_neg (by decide), if_neg (by decide), if_neg (by decide), if_neg (by decide)]) hP hD hS dX0_about_96
  · refine lv_tableOut (tgt := 97) hx hb dX0_about_1 (sq_swOut (k := 6) (by decide) hw9) (by decide) ?_
    have hk9 : ¬ (sq_kA w) = 0 := (by unfold sq_kA; rw [if_pos hw9]; decide)
    have hE9 : "java/lang/IllegalArgumentException" = (fun _ => "java/lang/IllegalArgumentException") (sq_kA w) := rfl
    exact sq_thr (k := sq_kA w) (En := fun _ => "java/lang/IllegalArgumentException") (cls := "java/lang/IllegalArgumentException") (names := ["java/lang/RuntimeException", "java/lang/Exception"]) hQ hx hb hl9 hown (by decide +kernel) (by decide +kernel) (hts _ (List.mem_cons_of_mem _ mkX0_48)) (hts _ (List.mem_cons_of_mem _ mt_IllegalArgumentException)) (hZ.2.2.2.2.1 (127, "what is not 0 .. 6") (by decide)) (vx_hat (L := vx_atS RX0 52 "java/lang/IllegalArgumentException" ["java/lang/RuntimeException", "java/lang/Exception"]) (B := [.castable "java/lang/IllegalArgumentException" "java/lang/IllegalArgumentException", .declares ⟨"java/lang/RuntimeException", "<init>", "(Ljava/lang/String;)V"⟩, .declares ⟨"java/lang/Exception", "<init>", "(Ljava/lang/String;)V"⟩, .declares ⟨"java/lang/Throwable", "<init>", "(Ljava/lang/String;)V"⟩]) (fun w hw => hts w (List.mem_cons_of_mem _ (sq_inT (sq_ax52 w hw) (List.mem_filter.mp hw).2))) (by decide +kernel) (vx_c (va_Nw.use rfl (hZ.2.2.1 ("java/lang/IllegalArgumentException", "java/lang/IllegalArgumentException") (by decide))) (vx_c (va_Nw.use rfl (hZ.2.2.2.1 ⟨"java/lang/RuntimeException", "<init>", "(Ljava/lang/String;)V"⟩ (by decide))) (vx_c (va_Nw.use rfl (hZ.2.2.2.1 ⟨"java/lang/Exception", "<init>", "(Ljava/lang/String;)V"⟩ (by decide))) (vx_c (va_Nw.use rfl (hZ.2.2.2.1 ⟨"java/lang/Throwable", "<init>", "(Ljava/lang/String;)V"⟩ (by decide))) (vx_n)))))) (by decide +kernel) hZ hS (hl.1.trans hml.symm) dX0_about_97 dX0_about_100 dX0_about_101 dX0_about_103 dX0_about_106 hEx (Nat.le_of_ble_eq_true rfl) (Nat.le_of_ble_eq_true rfl) (Nat.le_of_ble_eq_true rfl) (Nat.le_of_ble_eq_true rfl) hlocks hP hK hD hk9 hE9
def rm_cycle : Room := { frames := 6, cells := 1, slots := 6, locals := 90 }
set_option maxHeartbeats 4000000 in
set_option maxRecDepth 100000 in
theorem c_cycle (l : Launch) (hl9 : l.stackTraces = false) (S : Nat → Nat) (dC : Nat → ClassId) (dI : Nat → Nat → Nat) (h0 : Nat) (q : Nat → Nat) (cI cZ : ClassId) (st : SqS) (x : Int32) (hok : sq_ok st) : sq_Xi sq_cC sq_cD RX0 sq_cS sq_cN S l yX0_cycle wsX0_cycle rm_cycle [.ref h0, .int x] (dC, dI) vwCl [(cI, .int), (cZ, .boolean)] (wX h0 q cI cZ (st.1 0) (st.1 1) (st.1 2) (st.1 3) (st.1 4) (st.1 5) (st.1 6) (st.1 7) (st.1 8) (st.1 9) (st.1 10) (st.2 0) (st.2 1) (st.2 2) (st.2 3) (st.2 4) (st.2 5) (st.2 6) (st.2 7) (st.2 8)) (wX h0 q cI cZ ((sq_cyc st (sq_vec x)).1 0) ((sq_cyc st (sq_vec x)).1 1) ((sq_cyc st (sq_vec x)).1 2) ((sq_cyc st (sq_vec x)).1 3) ((sq_cyc st (sq_vec x)).1 4) ((sq_cyc st (sq_vec x)).1 5) ((sq_cyc st (sq_vec x)).1 6) ((sq_cyc st (sq_vec x)).1 7) ((sq_cyc st (sq_vec x)).1 8) ((sq_cyc st (sq_vec x)).1 9) ((sq_cyc st (sq_vec x)).1 10) ((sq_cyc st (sq_vec x)).2 0) ((sq_cyc st (sq_vec x)).2 1) ((sq_cyc st (sq_vec x)).2 2) ((sq_cyc st (sq_vec x)).2 3) ((sq_cyc st (sq_vec x)).2 4) ((sq_cyc st (sq_vec x)).2 5) ((sq_cyc st (sq_vec x)).2 6) ((sq_cyc st (sq_vec x)).2 7) ((sq_cyc st (sq_vec x)).2 8)) (sq_kC st x) (fun _ => "java/lang/IllegalArgumentException") (nI (st.2 1 + sq_vec x)) := by
  refine sq_ofXi (cc := cX0_cycle) (maxL := 4) (by decide) rfl (Nat.le_of_ble_eq_true rfl) ?_
  intro p e s m args below meth c A ls Q hx hb hts hown hml hK hP hD hS hA hl hZ hlocks hEx hend hQ
  have hl : lv_has ls 4 [(0, .ref h0), (1, .int x)] := hl
  have hin : ∀ w ∈ u_ws RX0 TX0 20, w ∈ wsX0_cycle := fun w h => List.mem_cons_of_mem _ (inX0 w h)
  have k70 := hts _ (List.mem_cons_of_mem _ mfX0_70)
  obtain ⟨⟨o1, o2⟩, o3, ⟨o4, o5⟩, o6, ⟨o7, o8, o9⟩, o10, o11, o12, o13, o14⟩ := id hok
  refine lv_iload_n hx hb dX0_cycle_0 rfl (lv_at hl 1 rfl) ?_
  refine lv_if_lt (tgt := 15) hx hb dX0_cycle_1 (by decide) (fun hc => ?_) (fun hc => ?_)
  · have hk9 : ¬ (sq_kC st x) = 0 := (by unfold sq_kC; rw [if_pos (Or.inl hc)]; decide)
    have hE9 : "java/lang/IllegalArgumentException" = (fun _ => "java/lang/IllegalArgumentException") (sq_kC st x) := rfl
    exact sq_thr (k := sq_kC st x) (En := fun _ => "java/lang/IllegalArgumentException") (cls := "java/lang/IllegalArgumentException") (names := ["java/lang/RuntimeException", "java/lang/Exception"]) hQ hx hb hl9 hown (by decide +kernel) (by decide +kernel) (hts _ (List.mem_cons_of_mem _ mkX0_48)) (hts _ (List.mem_cons_of_mem _ mt_IllegalArgumentException)) (hZ.2.2.2.2.1 (73, "n is below 0 or too many cycles") (by decide)) (vx_hat (L := vx_atS RX0 52 "java/lang/IllegalArgumentException" ["java/lang/RuntimeException", "java/lang/Exception"]) (B := [.castable "java/lang/IllegalArgumentException" "java/lang/IllegalArgumentException", .declares ⟨"java/lang/RuntimeException", "<init>", "(Ljava/lang/String;)V"⟩, .declares ⟨"java/lang/Exception", "<init>", "(Ljava/lang/String;)V"⟩, .declares ⟨"java/lang/Throwable", "<init>", "(Ljava/lang/String;)V"⟩]) (fun w hw => hts w (List.mem_cons_of_mem _ (sq_inT (sq_ax52 w hw) (List.mem_filter.mp hw).2))) (by decide +kernel) (vx_c (va_Nw.use rfl (hZ.2.2.1 ("java/lang/IllegalArgumentException", "java/lang/IllegalArgumentException") (by decide))) (vx_c (va_Nw.use rfl (hZ.2.2.2.1 ⟨"java/lang/RuntimeException", "<init>", "(Ljava/lang/String;)V"⟩ (by decide))) (vx_c (va_Nw.use rfl (hZ.2.2.2.1 ⟨"java/lang/Exception", "<init>", "(Ljava/lang/String;)V"⟩ (by decide))) (vx_c (va_Nw.use rfl (hZ.2.2.2.1 ⟨"java/lang/Throwable", "<init>", "(Ljava/lang/String;)V"⟩ (by decide))) (vx_n)))))) (by decide +kernel) hZ hS (hl.1.trans hml.symm) dX0_cycle_15 dX0_cycle_18 dX0_cycle_19 dX0_cycle_21 dX0_cycle_24 hEx (Nat.le_of_ble_eq_true rfl) (Nat.le_of_ble_eq_true rfl) (Nat.le_of_ble_eq_true rfl) (Nat.le_of_ble_eq_true rfl) hlocks hP hK hD hk9 hE9
  · obtain ⟨n, hn, rfl⟩ := nI_of hc
    have e9 : sq_vec (nI n) = n := sq_vec_nI hn
    refine lv_iload_n hx hb dX0_cycle_4 rfl (lv_at hl 1 rfl) ?_
    refine lv_ldc (v := 100000) hx hb hown (hts _ (List.mem_cons_of_mem _ mnX0_69)) dX0_cycle_5 ?_
    refine sq_top (show (100000 : Int32) = nI 100000 by decide +kernel) ?_
    refine lv_aload_n hx hb dX0_cycle_7 rfl (lv_at hl 0 rfl) ?_
    refine va_get (D := (dC, dI)) (ci := 0) (v := .int (nI (st.2 1))) (C := RX0) (T := TX0) (N := 20) hx hb hts hin hown hK hP 0 rfl rfl 12 (by decide) k70 (fun _ h9 => h9) rfl dX0_cycle_8 ?_
    refine sq_isub hx hb (by omega) dX0_cycle_11 ?_
    refine sq_icmp_le (tgt := 25) hx hb (by omega) (by omega) dX0_cycle_12 (by decide) (fun hd => ?_) (fun hd => ?_)
    · have hk0 : sq_kC st (nI n) = 0 := by unfold sq_kC; rw [if_neg (fun h => h.elim hc (fun h => h (by rw [e9]; exact hd)))]
      rw [e9] at hend
      have T56 : ∀ (s1 : SqS) (H : Heap) (locs : List Loc) (ls : Array Slot), sq_t1 s1 (st.2 1 + n) = sq_cyc st n → va_P (dC, dI) vwCl (wX h0 q cI cZ (s1.1 0) (s1.1 1) (s1.1 2) (s1.1 3) (s1.1 4) (s1.1 5) (s1.1 6) (s1.1 7) (s1.1 8) (s1.1 9) (s1.1 10) (s1.2 0) (s1.2 1) (s1.2 2) (s1.2 3) (s1.2 4) (s1.2 5) (s1.2 6) (s1.2 7) (s1.2 8)) H → va_D A (wX h0 q cI cZ (s1.1 0) (s1.1 1) (s1.1 2) (s1.1 3) (s1.1 4) (s1.1 5) (s1.1 6) (s1.1 7) (s1.1 8) (s1.1 9) (s1.1 10) (s1.2 0) (s1.2 1) (s1.2 2) (s1.2 3) (s1.2 4) (s1.2 5) (s1.2 6) (s1.2 7) (s1.2 8)) → va_S A s.heap H locs → lv_has ls 4 [(2, .int (nI (st.2 1 + n))), (0, .ref h0)] → W p l e rm_cycle s m args below meth c H locs 0 0 Q (F0 m 56 ls []) := by
        intro s1 H locs ls he hP hD hS hl
        refine lv_aload_n hx hb dX0_cycle_56 rfl (lv_at hl 1 rfl) ?_
        refine lv_iload_n hx hb dX0_cycle_57 rfl (lv_at hl 0 rfl) ?_
        refine va_put (D := (dC, dI)) (ci := 0) (v := .int (nI (st.2 1 + n))) (ty := .int) (C := RX0) (T := TX0) (N := 20) hx hb hts hin tyX0 tyX0_ok nmX0 hown hK hP hD hS 0 rfl rfl 12 (by decide) k70 (fun _ h9 => h9) rfl (by decide +kernel) rfl rfl (Nat.le_of_ble_eq_true rfl) dX0_cycle_58 (fun H locs hP hD hS => ?_)
        have hP : va_P (dC, dI) vwCl (wX h0 q cI cZ (s1.1 0) (s1.1 1) (s1.1 2) (s1.1 3) (s1.1 4) (s1.1 5) (s1.1 6) (s1.1 7) (s1.1 8) (s1.1 9) (s1.1 10) (s1.2 0) (st.2 1 + n) (s1.2 2) (s1.2 3) (s1.2 4) (s1.2 5) (s1.2 6) (s1.2 7) (s1.2 8)) H := hP
        have hD : va_D A (wX h0 q cI cZ (s1.1 0) (s1.1 1) (s1.1 2) (s1.1 3) (s1.1 4) (s1.1 5) (s1.1 6) (s1.1 7) (s1.1 8) (s1.1 9) (s1.1 10) (s1.2 0) (st.2 1 + n) (s1.2 2) (s1.2 3) (s1.2 4) (s1.2 5) (s1.2 6) (s1.2 7) (s1.2 8)) := hD
        refine lv_iload_n hx hb dX0_cycle_61 rfl (lv_at hl 0 rfl) ?_
        have hP : va_P (dC, dI) vwCl (wX h0 q cI cZ ((sq_t1 s1 (st.2 1 + n)).1 0) ((sq_t1 s1 (st.2 1 + n)).1 1) ((sq_t1 s1 (st.2 1 + n)).1 2) ((sq_t1 s1 (st.2 1 + n)).1 3) ((sq_t1 s1 (st.2 1 + n)).1 4) ((sq_t1 s1 (st.2 1 + n)).1 5) ((sq_t1 s1 (st.2 1 + n)).1 6) ((sq_t1 s1 (st.2 1 + n)).1 7) ((sq_t1 s1 (st.2 1 + n)).1 8) ((sq_t1 s1 (st.2 1 + n)).1 9) ((sq_t1 s1 (st.2 1 + n)).1 10) ((sq_t1 s1 (st.2 1 + n)).2 0) ((sq_t1 s1 (st.2 1 + n)).2 1) ((sq_t1 s1 (st.2 1 + n)).2 2) ((sq_t1 s1 (st.2 1 + n)).2 3) ((sq_t1 s1 (st.2 1 + n)).2 4) ((sq_t1 s1 (st.2 1 + n)).2 5) ((sq_t1 s1 (st.2 1 + n)).2 6) ((sq_t1 s1 (st.2 1 + n)).2 7) ((sq_t1 s1 (st.2 1 + n)).2 8)) H := hP
        have hD : va_D A (wX h0 q cI cZ ((sq_t1 s1 (st.2 1 + n)).1 0) ((sq_t1 s1 (st.2 1 + n)).1 1) ((sq_t1 s1 (st.2 1 + n)).1 2) ((sq_t1 s1 (st.2 1 + n)).1 3) ((sq_t1 s1 (st.2 1 + n)).1 4) ((sq_t1 s1 (st.2 1 + n)).1 5) ((sq_t1 s1 (st.2 1 + n)).1 6) ((sq_t1 s1 (st.2 1 + n)).1 7) ((sq_t1 s1 (st.2 1 + n)).1 8) ((sq_t1 s1 (st.2 1 + n)).1 9) ((sq_t1 s1 (st.2 1 + n)).1 10) ((sq_t1 s1 (st.2 1 + n)).2 0) ((sq_t1 s1 (st.2 1 + n)).2 1) ((sq_t1 s1 (st.2 1 + n)).2 2) ((sq_t1 s1 (st.2 1 + n)).2 3) ((sq_t1 s1 (st.2 1 + n)).2 4) ((sq_t1 s1 (st.2 1 + n)).2 5) ((sq_t1 s1 (st.2 1 + n)).2 6) ((sq_t1 s1 (st.2 1 + n)).2 7) ((sq_t1 s1 (st.2 1 + n)).2 8)) := hD
        rw [he] at hP hD
        exact hend _ _ _ _ _ hk0 rfl hP hD hS dX0_cycle_62
      have L1 : ∀ j i : Nat, i + j = n → ∀ (s1 : SqS) (H : Heap) (locs : List Loc) (ls : Array Slot), sq_ok s1 → s1.2 1 + j ≤ 100000 → sq_t1 (sq_loop j s1) (st.2 1 + n) = sq_cyc st n → va_P (dC, dI) vwCl (wX h0 q cI cZ (s1.1 0) (s1.1 1) (s1.1 2) (s1.1 3) (s1.1 4) (s1.1 5) (s1.1 6) (s1.1 7) (s1.1 8) (s1.1 9) (s1.1 10) (s1.2 0) (s1.2 1) (s1.2 2) (s1.2 3) (s1.2 4) (s1.2 5) (s1.2 6) (s1.2 7) (s1.2 8)) H → va_D A (wX h0 q cI cZ (s1.1 0) (s1.1 1) (s1.1 2) (s1.1 3) (s1.1 4) (s1.1 5) (s1.1 6) (s1.1 7) (s1.1 8) (s1.1 9) (s1.1 10) (s1.2 0) (s1.2 1) (s1.2 2) (s1.2 3) (s1.2 4) (s1.2 5) (s1.2 6) (s1.2 7) (s1.2 8)) → va_S A s.heap H locs → lv_has ls 4 [(3, .int (nI i)), (2, .int (nI (st.2 1 + n))), (0, .ref h0), (1, .int (nI n))] → W p l e rm_cycle s m args below meth c H locs 0 0 Q (F0 m 34 ls []) := by
        intro j
        induction j using Nat.strongRecOn with
        | _ j ih =>
          intro i hi s1 H locs ls hok1 ht he hP hD hS hl
          obtain ⟨⟨p1, p2⟩, p3, ⟨p4, p5⟩, p6, ⟨p7, p8, p9⟩, p10, p11, p12, p13, p14⟩ := id hok1
          refine lv_iload_n hx hb dX0_cycle_34 rfl (lv_at hl 0 rfl) ?_
          refine lv_iload_n hx hb dX0_cycle_35 rfl (lv_at hl 3 rfl) ?_
          refine sq_icmp_ge (tgt := 56) hx hb (by omega) (by omega) dX0_cycle_36 (by decide) (fun he1 => ?_) (fun he1 => ?_)
          · have ej : j = 0 := by omega
            subst ej
            exact T56 s1 H locs ls he hP hD hS (lv_sub hl [1, 2] rfl)
          · obtain ⟨j1, rfl⟩ : ∃ j1, j = j1 + 1 := ⟨j - 1, by omega⟩
            refine lv_aload_n hx hb dX0_cycle_39 rfl (lv_at hl 2 rfl) ?_
            refine sq_calli (As := []) (c_isAtRest l dC dI h0 q cI cZ (s1.1 0) (s1.1 1) (s1.1 2) (s1.1 3) (s1.1 4) (s1.1 5) (s1.1 6) (s1.1 7) (s1.1 8) (s1.1 9) (s1.1 10) (s1.2 0) (s1.2 1) (s1.2 2) (s1.2 3) (s1.2 4) (s1.2 5) (s1.2 6) (s1.2 7) (s1.2 8) p1 p2 (by omega) (by omega) (by omega) p7 (by omega) (by omega) p10 p3) ⟨hx, hb, hml, hown, hts⟩ (cwV 0 hts (sq_good gvX0_75) rfl rfl rfl (by decide +kernel) ⟨Nat.le_of_ble_eq_true rfl, Nat.le_of_ble_eq_true rfl⟩) hK hP hD hS hA rfl rfl rfl rfl hl.1 rfl (Nat.le_of_ble_eq_true rfl) dX0_cycle_40 ⟨Nat.zero_le _, Nat.zero_le _⟩ (fun H locs hP hD hS => ?_)
            refine lv_if_ne (tgt := 56) hx hb dX0_cycle_43 (by decide) (fun hf => ?_) (fun hf => ?_)
            · have hf2 : sq_at s1 = true := sq_bn0.mp hf
              rw [show sq_loop (j1 + 1) s1 = if sq_at s1 = true then s1 else sq_loop j1 (sq_run s1) from rfl, if_pos hf2] at he
              exact T56 s1 H locs ls he hP hD hS (lv_sub hl [1, 2] rfl)
            · have hf2 : sq_at s1 = false := sq_b0.mp hf
              rw [show sq_loop (j1 + 1) s1 = if sq_at s1 = true then s1 else sq_loop j1 (sq_run s1) from rfl, if_neg (by rw [hf2]; decide)] at he
              refine lv_aload_n hx hb dX0_cycle_46 rfl (lv_at hl 2 rfl) ?_
              refine sq_callv (As := []) (c_runCycle l dC dI h0 q cI cZ s1 hok1 (by omega)) ⟨hx, hb, hml, hown, hts⟩ (cwV 0 hts (sq_good gvX0_79) rfl rfl rfl (by decide +kernel) ⟨Nat.le_of_ble_eq_true rfl, Nat.le_of_ble_eq_true rfl⟩) hK hP hD hS hA rfl rfl rfl rfl hl.1 rfl (Nat.le_of_ble_eq_true rfl) dX0_cycle_47 ⟨Nat.zero_le _, Nat.zero_le _⟩ (fun H locs hP hD hS => ?_)
              have hP : va_P (dC, dI) vwCl (wX h0 q cI cZ ((sq_run s1).1 0) ((sq_run s1).1 1) ((sq_run s1).1 2) ((sq_run s1).1 3) ((sq_run s1).1 4) ((sq_run s1).1 5) ((sq_run s1).1 6) ((sq_run s1).1 7) ((sq_run s1).1 8) ((sq_run s1).1 9) ((sq_run s1).1 10) ((sq_run s1).2 0) ((sq_run s1).2 1) ((sq_run s1).2 2) ((sq_run s1).2 3) ((sq_run s1).2 4) ((sq_run s1).2 5) ((sq_run s1).2 6) ((sq_run s1).2 7) ((sq_run s1).2 8)) H := hP
              have hD : va_D A (wX h0 q cI cZ ((sq_run s1).1 0) ((sq_run s1).1 1) ((sq_run s1).1 2) ((sq_run s1).1 3) ((sq_run s1).1 4) ((sq_run s1).1 5) ((sq_run s1).1 6) ((sq_run s1).1 7) ((sq_run s1).1 8) ((sq_run s1).1 9) ((sq_run s1).1 10) ((sq_run s1).2 0) ((sq_run s1).2 1) ((sq_run s1).2 2) ((sq_run s1).2 3) ((sq_run s1).2 4) ((sq_run s1).2 5) ((sq_run s1).2 6) ((sq_run s1).2 7) ((sq_run s1).2 8)) := hD
              refine lv_iinc (v := nI (i + 1)) (lv' := [(3, .int (nI (i + 1))), (2, .int (nI (st.2 1 + n))), (0, .ref h0), (1, .int (nI n))]) hx hb dX0_cycle_50 hl (k := 0) rfl (sq_inc _) (by decide) rfl (fun ls hl => ?_)
              refine lv_goto (tgt := 34) hx hb dX0_cycle_53 (by decide) ?_
              exact ih j1 (by omega) (i + 1) (by omega) (sq_run s1) H locs ls (sq_ok_run hok1 (by omega)) (by rw [sq_run_1]; omega) he hP hD hS hl
      refine lv_aload_n hx hb dX0_cycle_25 rfl (lv_at hl 0 rfl) ?_
      refine va_get (D := (dC, dI)) (ci := 0) (v := .int (nI (st.2 1))) (C := RX0) (T := TX0) (N := 20) hx hb hts hin hown hK hP 0 rfl rfl 12 (by decide) k70 (fun _ h9 => h9) rfl dX0_cycle_26 ?_
      refine lv_iload_n hx hb dX0_cycle_29 rfl (lv_at hl 1 rfl) ?_
      refine sq_iadd hx hb dX0_cycle_30 ?_
      refine lv_istore_n (lv' := [(2, .int (nI ((st.2 1) + n))), (0, .ref h0), (1, .int (nI n))]) hx hb dX0_cycle_31 rfl hl (by decide) rfl (fun ls hl => ?_)
      refine lv_iconst (v := nI 0) hx hb dX0_cycle_32 (by decide +kernel) ?_
      refine lv_istore_n (lv' := [(3, .int (nI 0)), (2, .int (nI ((st.2 1) + n))), (0, .ref h0), (1, .int (nI n))]) hx hb dX0_cycle_33 rfl hl (by decide) rfl (fun ls hl => ?_)
      exact L1 n 0 (by omega) st _ _ ls hok (by omega) rfl hP hD hS (lv_sub hl [0, 1, 2, 3] rfl)
    · have hk9 : ¬ (sq_kC st (nI n)) = 0 := (by unfold sq_kC; rw [if_pos (Or.inr (by rw [e9]; omega))]; decide)
      have hE9 : "java/lang/IllegalArgumentException" = (fun _ => "java/lang/IllegalArgumentException") (sq_kC st (nI n)) := rfl
      exact sq_thr (k := sq_kC st (nI n)) (En := fun _ => "java/lang/IllegalArgumentException") (cls := "java/lang/IllegalArgumentException") (names := ["java/lang/RuntimeException", "java/lang/Exception"]) hQ hx hb hl9 hown (by decide +kernel) (by decide +kernel) (hts _ (List.mem_cons_of_mem _ mkX0_48)) (hts _ (List.mem_cons_of_mem _ mt_IllegalArgumentException)) (hZ.2.2.2.2.1 (73, "n is below 0 or too many cycles") (by decide)) (vx_hat (L := vx_atS RX0 52 "java/lang/IllegalArgumentException" ["java/lang/RuntimeException", "java/lang/Exception"]) (B := [.castable "java/lang/IllegalArgumentException" "java/lang/IllegalArgumentException", .declares ⟨"java/lang/RuntimeException", "<init>", "(Ljava/lang/String;)V"⟩, .declares ⟨"java/lang/Exception", "<init>", "(Ljava/lang/String;)V"⟩, .declares ⟨"java/lang/Throwable", "<init>", "(Ljava/lang/String;)V"⟩]) (fun w hw => hts w (List.mem_cons_of_mem _ (sq_inT (sq_ax52 w hw) (List.mem_filter.mp hw).2))) (by decide +kernel) (vx_c (va_Nw.use rfl (hZ.2.2.1 ("java/lang/IllegalArgumentException", "java/lang/IllegalArgumentException") (by decide))) (vx_c (va_Nw.use rfl (hZ.2.2.2.1 ⟨"java/lang/RuntimeException", "<init>", "(Ljava/lang/String;)V"⟩ (by decide))) (vx_c (va_Nw.use rfl (hZ.2.2.2.1 ⟨"java/lang/Exception", "<init>", "(Ljava/lang/String;)V"⟩ (by decide))) (vx_c (va_Nw.use rfl (hZ.2.2.2.1 ⟨"java/lang/Throwable", "<init>", "(Ljava/lang/String;)V"⟩ (by decide))) (vx_n)))))) (by decide +kernel) hZ hS (hl.1.trans hml.symm) dX0_cycle_15 dX0_cycle_18 dX0_cycle_19 dX0_cycle_21 dX0_cycle_24 hEx (Nat.le_of_ble_eq_true rfl) (Nat.le_of_ble_eq_true rfl) (Nat.le_of_ble_eq_true rfl) (Nat.le_of_ble_eq_true rfl) hlocks hP hK hD hk9 hE9
