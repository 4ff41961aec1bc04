def sq_cC : List (String × String) := [("java/lang/IllegalArgumentException", "java/lang/IllegalArgumentException"), ("java/lang/UnsupportedOperationException", "java/lang/UnsupportedOperationException"), ("java/lang/IndexOutOfBoundsException", "java/lang/IndexOutOfBoundsException"), ("java/util/NoSuchElementException", "java/util/NoSuchElementException")]
def sq_cD : List MethodName := [⟨"java/lang/RuntimeException", "<init>", "(Ljava/lang/String;)V"⟩, ⟨"java/lang/Exception", "<init>", "(Ljava/lang/String;)V"⟩, ⟨"java/lang/Throwable", "<init>", "(Ljava/lang/String;)V"⟩]
def sq_cS : List (Nat × String) := [(50, "the side is not 1 .. 6"), (61, "there are 120 rows"), (67, "there are 200 vectors"), (73, "n is below 0 or too many cycles"), (88, "there is no such cell"), (91, "what is not 0 .. 4"), (96, "there is no such vector"), (101, "there is no such vector or column"), (109, "the vector has no result yet"), (127, "what is not 0 .. 6")]
def sq_cN : List (String × String) := [("java/lang/IllegalArgumentException", "java/lang/IndexOutOfBoundsException"), ("java/util/NoSuchElementException", "java/lang/IndexOutOfBoundsException")]
theorem sq_ax52 : ∀ w ∈ (vx_atS RX0 52 "java/lang/IllegalArgumentException" ["java/lang/RuntimeException", "java/lang/Exception"]).filter goodWord, w ∈ lw_tbl := by decide +kernel
theorem sq_ax63 : ∀ w ∈ (vx_atS RX0 63 "java/lang/UnsupportedOperationException" ["java/lang/RuntimeException", "java/lang/Exception"]).filter goodWord, w ∈ lw_tbl := by decide +kernel
theorem sq_ax90 : ∀ w ∈ (vx_atS RX0 90 "java/lang/IndexOutOfBoundsException" ["java/lang/RuntimeException", "java/lang/Exception"]).filter goodWord, w ∈ lw_tbl := by decide +kernel
theorem sq_ax111 : ∀ w ∈ ((sq_own RX0 111 "java/util/NoSuchElementException" 13 prog_12_method_4_code "java/lang/RuntimeException" ["java/lang/Exception"]).filter vx_no).filter goodWord, w ∈ lw_tbl := by decide +kernel
/-- 'throw new NoSuchElementException("the vector has no result yet")' (its constructor calls by another entry than the others) -/
theorem sq_thrN {S : Nat → Nat} {p : Program} {l : Launch} {e : Env} {R : Room} {s : State} {m : MethodId} {args : Array Value} {below : List Frame} {meth : Method} {c : Code} {H : Heap} {locs : List Loc} {cc : ByteArray} {pc : Nat} {ls : Array Slot} {D : va_G} {cl : List vw_C} {ws : va_W} {tys : List (ClassId × FieldType)} {A : Nat → Prop} {k : Nat} {En : Nat → String} {Q : State → Prop} {Qc : Array Value → State → Outcome → State → Prop} {w0 : Cond}
    (hQ : Q = vx_MQ below Qc (vx_X (fun _ : Unit => ¬ k = 0) (fun E _ t => E = En k ∧ sq_B D cl ws tys A t) A) args s 1 6 A)
    (hx : p.tables.exec = Jvm.exec) (hb : c.code = cc) (hl : l.stackTraces = false) (hown : s.vm.findClass RX0 = some m.cls) (hts : ∀ w ∈ w0 :: sq_W, w.before args s = true)
    (hZ : sq_Z sq_cC sq_cD RX0 sq_cS sq_cN S A s s.heap) (hS : va_S A s.heap H locs) (hsize : ls.size = c.maxLocals)
    (d0 : decode cc pc = .ok (.new 107, 3)) (d3 : decode cc (pc + 3) = .ok (.dup, 1)) (d4 : decode cc (pc + 4) = .ok (.ldc 109, 2)) (d6 : decode cc (pc + 6) = .ok (.invokespecial 111, 3)) (d9 : decode cc (pc + 9) = .ok (.athrow, 1))
    (hEx : ∀ x ∈ c.exceptionTable.toList, False) (hRf : 5 < R.frames) (hRl : 82 ≤ R.locals) (hRc : 1 ≤ R.cells) (hRs : 6 ≤ R.slots) (hlocks : meth.locks = false)
    (hP : va_P D cl ws H) (hK : va_K D cl tys s) (hD : va_D A ws) (hk0 : ¬ k = 0) (hE : "java/util/NoSuchElementException" = En k) : W p l e R s m args below meth c H locs 0 0 Q (F0 m pc ls []) := by
  rw [hQ]
  have hat : ∀ w ∈ (sq_own RX0 111 "java/util/NoSuchElementException" 13 prog_12_method_4_code "java/lang/RuntimeException" ["java/lang/Exception"]).filter vx_no, w.before args s = true :=
    vx_hat (B := [.castable "java/util/NoSuchElementException" "java/util/NoSuchElementException", .declares ⟨"java/lang/RuntimeException", "<init>", "(Ljava/lang/String;)V"⟩, .declares ⟨"java/lang/Exception", "<init>", "(Ljava/lang/String;)V"⟩, .declares ⟨"java/lang/Throwable", "<init>", "(Ljava/lang/String;)V"⟩])
      (fun w hw => hts w (List.mem_cons_of_mem _ (sq_inT (sq_ax111 w hw) (List.mem_filter.mp hw).2))) (by decide +kernel)
      (vx_c (va_Nw.use rfl (hZ.2.2.1 ("java/util/NoSuchElementException", "java/util/NoSuchElementException") (by decide))) (vx_c (va_Nw.use rfl (hZ.2.2.2.1 ⟨"java/lang/RuntimeException", "<init>", "(Ljava/lang/String;)V"⟩ (by decide))) (vx_c (va_Nw.use rfl (hZ.2.2.2.1 ⟨"java/lang/Exception", "<init>", "(Ljava/lang/String;)V"⟩ (by decide))) (vx_c (va_Nw.use rfl (hZ.2.2.2.1 ⟨"java/lang/Throwable", "<init>", "(Ljava/lang/String;)V"⟩ (by decide))) vx_n))))
  exact sq_throwX (cls := "java/util/NoSuchElementException") (Y' := "java/lang/RuntimeException") (r := ["java/lang/Exception"]) (ix := 13) (rx := prog_12_method_4_code) hx hb hl (by decide +kernel) (by decide +kernel) (by decide +kernel) (by decide +kernel) hown (by decide +kernel) (by decide +kernel) (by decide +kernel)
    (hts _ (List.mem_cons_of_mem _ mkX0_107)) (hts _ (List.mem_cons_of_mem _ mt_NoSuchElementException)) (hZ.2.2.2.2.1 (109, "the vector has no result yet") (by decide)) hat (by decide +kernel) hZ.1 hZ.2.1 hS hsize d0 d3 d4 d6 d9 (fun x hx => (hEx x hx).elim) hRf (by simpa using hRl) (by simpa using hRc) (by simpa using hRs) hlocks
    (fun t ha hsz hk => ⟨(), hk0, ⟨hE, hP.kept (fun k q hq => hk q.1 (hP k q hq).lt), va_K.moved ha hK, hD⟩, Nat.le_trans hS.1 hsz, fun q h1 h2 => (hk q (Nat.lt_of_lt_of_le h1 hS.1)).trans (hS.2.1 q h1 h2)⟩) hS.2.2 (Nat.le_refl _) (Nat.le_refl _)
def rm_begin : Room := { frames := 6, cells := 1, slots := 6, locals := 90 }
set_option maxHeartbeats 4000000 in
set_option maxRecDepth 100000 in
theorem c_begin (l : Launch) (hl9 : l.stackTraces = false) (S : Nat → Nat) (dC : Nat → ClassId) (dI : Nat → Nat → Nat) (h0 : Nat) (q : Nat → Nat) (cI cZ : ClassId) (st : SqS) (p0 : Int32)  : sq_Xv sq_cC sq_cD RX0 sq_cS sq_cN S l yX0_begin wsX0_begin rm_begin [.ref h0, .int p0] (dC, dI) vwCl [(cI, .int), (cZ, .boolean)] (wX h0 q cI cZ (st.1 0) (st.1 1) (st.1 2) (st.1 3) (st.1 4) (st.1 5) (st.1 6) (st.1 7) (st.1 8) (st.1 9) (st.1 10) (st.2 0) (st.2 1) (st.2 2) (st.2 3) (st.2 4) (st.2 5) (st.2 6) (st.2 7) (st.2 8)) (wX h0 q cI cZ ((sq_clr st (sq_vec p0)).1 0) ((sq_clr st (sq_vec p0)).1 1) ((sq_clr st (sq_vec p0)).1 2) ((sq_clr st (sq_vec p0)).1 3) ((sq_clr st (sq_vec p0)).1 4) ((sq_clr st (sq_vec p0)).1 5) ((sq_clr st (sq_vec p0)).1 6) ((sq_clr st (sq_vec p0)).1 7) ((sq_clr st (sq_vec p0)).1 8) ((sq_clr st (sq_vec p0)).1 9) ((sq_clr st (sq_vec p0)).1 10) ((sq_clr st (sq_vec p0)).2 0) ((sq_clr st (sq_vec p0)).2 1) ((sq_clr st (sq_vec p0)).2 2) ((sq_clr st (sq_vec p0)).2 3) ((sq_clr st (sq_vec p0)).2 4) ((sq_clr st (sq_vec p0)).2 5) ((sq_clr st (sq_vec p0)).2 6) ((sq_clr st (sq_vec p0)).2 7) ((sq_clr st (sq_vec p0)).2 8)) (sq_kB p0) (fun _ => "java/lang/IllegalArgumentException") := by
  refine sq_ofXv (cc := cX0_begin) (maxL := 2) (by decide) rfl (Nat.le_of_ble_eq_true rfl) ?_
  intro p e s m args below meth c A ls Q hx hb hts hown hml hK hP hD hS hA hl hZ hlocks hEx hend hQ
  have hl : lv_has ls 2 [(0, .ref h0), (1, .int p0)] := hl
  refine lv_iload_n hx hb dX0_begin_0 rfl (lv_at hl 1 rfl) ?_
  refine lv_iconst (v := nI 1) hx hb dX0_begin_1 (by decide +kernel) ?_
  refine lv_icmp_lt (tgt := 11) hx hb dX0_begin_2 (by decide) (fun hc => ?_) (fun hc => ?_)
  · have hk9 : ¬ (sq_kB p0) = 0 := (by unfold sq_kB; rw [if_pos (Or.inl hc)]; decide)
    have hE9 : "java/lang/IllegalArgumentException" = (fun _ => "java/lang/IllegalArgumentException") (sq_kB p0) := rfl
    exact sq_thr (k := sq_kB p0) (En := fun _ => "java/lang/IllegalArgumentException") (cls := "java/lang/IllegalArgumentException") (names := ["java/lang/RuntimeException", "java/lang/Exception"]) hQ hx hb hl9 hown (by decide +kernel) (by decide +kernel) (hts _ (List.mem_cons_of_mem _ mkX0_48)) (hts _ (List.mem_cons_of_mem _ mt_IllegalArgumentException)) (hZ.2.2.2.2.1 (50, "the side is not 1 .. 6") (by decide)) (vx_hat (L := vx_atS RX0 52 "java/lang/IllegalArgumentException" ["java/lang/RuntimeException", "java/lang/Exception"]) (B := [.castable "java/lang/IllegalArgumentException" "java/lang/IllegalArgumentException", .declares ⟨"java/lang/RuntimeException", "<init>", "(Ljava/lang/String;)V"⟩, .declares ⟨"java/lang/Exception", "<init>", "(Ljava/lang/String;)V"⟩, .declares ⟨"java/lang/Throwable", "<init>", "(Ljava/lang/String;)V"⟩]) (fun w hw => hts w (List.mem_cons_of_mem _ (sq_inT (sq_ax52 w hw) (List.mem_filter.mp hw).2))) (by decide +kernel) (vx_c (va_Nw.use rfl (hZ.2.2.1 ("java/lang/IllegalArgumentException", "java/lang/IllegalArgumentException") (by decide))) (vx_c (va_Nw.use rfl (hZ.2.2.2.1 ⟨"java/lang/RuntimeException", "<init>", "(Ljava/lang/String;)V"⟩ (by decide))) (vx_c (va_Nw.use rfl (hZ.2.2.2.1 ⟨"java/lang/Exception", "<init>", "(Ljava/lang/String;)V"⟩ (by decide))) (vx_c (va_Nw.use rfl (hZ.2.2.2.1 ⟨"java/lang/Throwable", "<init>", "(Ljava/lang/String;)V"⟩ (by decide))) (vx_n)))))) (by decide +kernel) hZ hS (hl.1.trans hml.symm) dX0_begin_11 dX0_begin_14 dX0_begin_15 dX0_begin_17 dX0_begin_20 hEx (Nat.le_of_ble_eq_true rfl) (Nat.le_of_ble_eq_true rfl) (Nat.le_of_ble_eq_true rfl) (Nat.le_of_ble_eq_true rfl) hlocks hP hK hD hk9 hE9
  · refine lv_iload_n hx hb dX0_begin_5 rfl (lv_at hl 1 rfl) ?_
    refine lv_bipush (v := nI 6) hx hb dX0_begin_6 (by decide +kernel) ?_
    refine lv_icmp_le (tgt := 21) hx hb dX0_begin_8 (by decide) (fun hd => ?_) (fun hd => ?_)
    · obtain ⟨n, hn, rfl⟩ := nI_of (x := p0) (fun h => hc (by rw [Int32.lt_iff_toInt_lt] at h ⊢; rw [nI_toInt (by decide)]; rw [Int32.toInt_zero] at h; omega))
      have e9 : sq_vec (nI n) = n := sq_vec_nI hn
      refine lv_aload_n hx hb dX0_begin_21 rfl (lv_at hl 0 rfl) ?_
      refine lv_iload_n hx hb dX0_begin_22 rfl (lv_at hl 1 rfl) ?_
      refine sq_callv (As := [.int (nI n)]) (c_clearTo l dC dI h0 q cI cZ (st.1 0) (st.1 1) (st.1 2) (st.1 3) (st.1 4) (st.1 5) (st.1 6) (st.1 7) (st.1 8) (st.1 9) (st.1 10) (st.2 0) (st.2 1) (st.2 2) (st.2 3) (st.2 4) (st.2 5) (st.2 6) (st.2 7) (st.2 8) n) ⟨hx, hb, hml, hown, hts⟩ (cwV 1 hts (sq_good gvX0_44) rfl rfl rfl (by decide +kernel) ⟨Nat.le_of_ble_eq_true rfl, Nat.le_of_ble_eq_true rfl⟩) hK hP hD hS hA rfl rfl rfl rfl hl.1 rfl (Nat.le_of_ble_eq_true rfl) dX0_begin_23 ⟨Nat.zero_le _, Nat.zero_le _⟩ (fun H locs hP hD hS => ?_)
      have hP : va_P (dC, dI) vwCl (wX h0 q cI cZ ((sq_clr st n).1 0) ((sq_clr st n).1 1) ((sq_clr st n).1 2) ((sq_clr st n).1 3) ((sq_clr st n).1 4) ((sq_clr st n).1 5) ((sq_clr st n).1 6) ((sq_clr st n).1 7) ((sq_clr st n).1 8) ((sq_clr st n).1 9) ((sq_clr st n).1 10) ((sq_clr st n).2 0) ((sq_clr st n).2 1) ((sq_clr st n).2 2) ((sq_clr st n).2 3) ((sq_clr st n).2 4) ((sq_clr st n).2 5) ((sq_clr st n).2 6) ((sq_clr st n).2 7) ((sq_clr st n).2 8)) H := hP
      have hD : va_D A (wX h0 q cI cZ ((sq_clr st n).1 0) ((sq_clr st n).1 1) ((sq_clr st n).1 2) ((sq_clr st n).1 3) ((sq_clr st n).1 4) ((sq_clr st n).1 5) ((sq_clr st n).1 6) ((sq_clr st n).1 7) ((sq_clr st n).1 8) ((sq_clr st n).1 9) ((sq_clr st n).1 10) ((sq_clr st n).2 0) ((sq_clr st n).2 1) ((sq_clr st n).2 2) ((sq_clr st n).2 3) ((sq_clr st n).2 4) ((sq_clr st n).2 5) ((sq_clr st n).2 6) ((sq_clr st n).2 7) ((sq_clr st n).2 8)) := hD
      exact hend _ _ _ _ (by unfold sq_kB; rw [if_neg (fun h => h.elim hc (fun h => h hd))]) (by rw [e9]; exact hP) (by rw [e9]; exact hD) hS dX0_begin_26
    · have hk9 : ¬ (sq_kB p0) = 0 := (by unfold sq_kB; rw [if_pos (Or.inr hd)]; decide)
      have hE9 : "java/lang/IllegalArgumentException" = (fun _ => "java/lang/IllegalArgumentException") (sq_kB p0) := rfl
      exact sq_thr (k := sq_kB p0) (En := fun _ => "java/lang/IllegalArgumentException") (cls := "java/lang/IllegalArgumentException") (names := ["java/lang/RuntimeException", "java/lang/Exception"]) hQ hx hb hl9 hown (by decide +kernel) (by decide +kernel) (hts _ (List.mem_cons_of_mem _ mkX0_48)) (hts _ (List.mem_cons_of_mem _ mt_IllegalArgumentException)) (hZ.2.2.2.2.1 (50, "the side is not 1 .. 6") (by decide)) (vx_hat (L := vx_atS RX0 52 "java/lang/IllegalArgumentException" ["java/lang/RuntimeException", "java/lang/Exception"]) (B := [.castable "java/lang/IllegalArgumentException" "java/lang/IllegalArgumentException", .declares ⟨"java/lang/RuntimeException", "<init>", "(Ljava/lang/String;)V"⟩, .declares ⟨"java/lang/Exception", "<init>", "(Ljava/lang/String;)V"⟩, .declares ⟨"java/lang/Throwable", "<init>", "(Ljava/lang/String;)V"⟩]) (fun w hw => hts w (List.mem_cons_of_mem _ (sq_inT (sq_ax52 w hw) (List.mem_filter.mp hw).2))) (by decide +kernel) (vx_c (va_Nw.use rfl (hZ.2.2.1 ("java/lang/IllegalArgumentException", "java/lang/IllegalArgumentException") (by decide))) (vx_c (va_Nw.use rfl (hZ.2.2.2.1 ⟨"java/lang/RuntimeException", "<init>", "(Ljava/lang/String;)V"⟩ (by decide))) (vx_c (va_Nw.use rfl (hZ.2.2.2.1 ⟨"java/lang/Exception", "<init>", "(Ljava/lang/String;)V"⟩ (by decide))) (vx_c (va_Nw.use rfl (hZ.2.2.2.1 ⟨"java/lang/Throwable", "<init>", "(Ljava/lang/String;)V"⟩ (by decide))) (vx_n)))))) (by decide +kernel) hZ hS (hl.1.trans hml.symm) dX0_begin_11 dX0_begin_14 dX0_begin_15 dX0_begin_17 dX0_begin_20 hEx (Nat.le_of_ble_eq_true rfl) (Nat.le_of_ble_eq_true rfl) (Nat.le_of_ble_eq_true rfl) (Nat.le_of_ble_eq_true rfl) hlocks hP hK hD hk9 hE9
def rm_weights : Room := { frames := 6, cells := 1, slots := 6, locals := 90 }
set_option maxHeartbeats 4000000 in
set_option maxRecDepth 100000 in
theorem c_weights (l : Launch) (hl9 : l.stackTraces = false) (S : Nat → Nat) (dC : Nat → ClassId) (dI : Nat → Nat → Nat) (h0 : Nat) (q : Nat → Nat) (cI cZ : ClassId) (st : SqS) (x1 x2 x3 x4 x5 x6 : Int32) (b2 : st.2 2 < 2 ^ 31) : sq_Xi sq_cC sq_cD RX0 sq_cS sq_cN S l yX0_weights wsX0_weights rm_weights [.ref h0, .int x1, .int x2, .int x3, .int x4, .int x5, .int x6] (dC, dI) vwCl [(cI, .int), (cZ, .boolean)] (wX h0 q cI cZ (st.1 0) (st.1 1) (st.1 2) (st.1 3) (st.1 4) (st.1 5) (st.1 6) (st.1 7) (st.1 8) (st.1 9) (st.1 10) (st.2 0) (st.2 1) (st.2 2) (st.2 3) (st.2 4) (st.2 5) (st.2 6) (st.2 7) (st.2 8)) (wX h0 q cI cZ ((sq_wgt st x1 x2 x3 x4 x5 x6).1 0) ((sq_wgt st x1 x2 x3 x4 x5 x6).1 1) ((sq_wgt st x1 x2 x3 x4 x5 x6).1 2) ((sq_wgt st x1 x2 x3 x4 x5 x6).1 3) ((sq_wgt st x1 x2 x3 x4 x5 x6).1 4) ((sq_wgt st x1 x2 x3 x4 x5 x6).1 5) ((sq_wgt st x1 x2 x3 x4 x5 x6).1 6) ((sq_wgt st x1 x2 x3 x4 x5 x6).1 7) ((sq_wgt st x1 x2 x3 x4 x5 x6).1 8) ((sq_wgt st x1 x2 x3 x4 x5 x6).1 9) ((sq_wgt st x1 x2 x3 x4 x5 x6).1 10) ((sq_wgt st x1 x2 x3 x4 x5 x6).2 0) ((sq_wgt st x1 x2 x3 x4 x5 x6).2 1) ((sq_wgt st x1 x2 x3 x4 x5 x6).2 2) ((sq_wgt st x1 x2 x3 x4 x5 x6).2 3) ((sq_wgt st x1 x2 x3 x4 x5 x6).2 4) ((sq_wgt st x1 x2 x3 x4 x5 x6).2 5) ((sq_wgt st x1 x2 x3 x4 x5 x6).2 6) ((sq_wgt st x1 x2 x3 x4 x5 x6).2 7) ((sq_wgt st x1 x2 x3 x4 x5 x6).2 8)) (sq_kW st) (fun _ => "java/lang/UnsupportedOperationException") (nI (st.2 2)) := by
  refine sq_ofXi (cc := cX0_weights) (maxL := 9) (by decide) rfl (Nat.le_of_ble_eq_true rfl) ?_
  intro p e s m args below meth c A ls Q hx hb hts hown hml hK hP hD hS hA hl hZ hlocks hEx hend hQ
  have hl : lv_has ls 9 [(0, .ref h0), (1, .int x1), (2, .int x2), (3, .int x3), (4, .int x4), (5, .int x5), (6, .int x6)] := hl
  have hin : ∀ w ∈ u_ws RX0 TX0 20, w ∈ wsX0_weights := fun w h => List.mem_cons_of_mem _ (inX0 w h)
  have k9 := hts _ (List.mem_cons_of_mem _ mfX0_9)
  have k55 := hts _ (List.mem_cons_of_mem _ mfX0_55)
  refine lv_aload_n hx hb dX0_weights_0 rfl (lv_at hl 0 rfl) ?_
  refine va_get (D := (dC, dI)) (ci := 0) (v := .int (nI (st.2 2))) (C := RX0) (T := TX0) (N := 20) hx hb hts hin hown hK hP 0 rfl rfl 13 (by decide) k55 (fun _ h9 => h9) rfl dX0_weights_1 ?_
  refine lv_bipush (v := nI 120) hx hb dX0_weights_4 (by decide +kernel) ?_
  refine sq_icmp_lt (tgt := 19) hx hb (by omega) (by omega) dX0_weights_6 (by decide) (fun hc => ?_) (fun hc => ?_)
  · refine lv_aload_n hx hb dX0_weights_19 rfl (lv_at hl 0 rfl) ?_
    refine va_get (D := (dC, dI)) (ci := 0) (v := .int (nI (st.2 2))) (C := RX0) (T := TX0) (N := 20) hx hb hts hin hown hK hP 0 rfl rfl 13 (by decide) k55 (fun _ h9 => h9) rfl dX0_weights_20 ?_
    refine lv_istore (lv' := [(7, .int (nI (st.2 2))), (0, .ref h0), (1, .int x1), (2, .int x2), (3, .int x3), (4, .int x4), (5, .int x5), (6, .int x6)]) hx hb dX0_weights_23 hl (by decide) rfl (fun ls hl => ?_)
    refine lv_iload hx hb dX0_weights_25 (lv_at hl 0 rfl) ?_
    refine lv_bipush (v := nI 6) hx hb dX0_weights_27 (by decide +kernel) ?_
    refine sq_imul hx hb dX0_weights_29 ?_
    refine lv_istore (lv' := [(8, .int (nI ((st.2 2) * 6))), (7, .int (nI (st.2 2))), (0, .ref h0), (1, .int x1), (2, .int x2), (3, .int x3), (4, .int x4), (5, .int x5), (6, .int x6)]) hx hb dX0_weights_30 hl (by decide) rfl (fun ls hl => ?_)
    refine lv_aload_n hx hb dX0_weights_32 rfl (lv_at hl 2 rfl) ?_
    refine va_get (D := (dC, dI)) (ci := 0) (v := .ref (q 0)) (C := RX0) (T := TX0) (N := 20) hx hb hts hin hown hK hP 0 rfl rfl 0 (by decide) k9 (fun _ h9 => h9) rfl dX0_weights_33 ?_
    refine lv_iload hx hb dX0_weights_36 (lv_at hl 0 rfl) ?_
    refine lv_iload_n hx hb dX0_weights_38 rfl (lv_at hl 3 rfl) ?_
    refine sq_iast hx hb hK hP hD hS 1 0 rfl rfl (i := ((st.2 2) * 6)) (by omega) (by decide) dX0_weights_39 (fun H locs hP hD hS => ?_)
    have hP : va_P (dC, dI) vwCl (wX h0 q cI cZ (upd (st.1 0) ((st.2 2) * 6) x1) (st.1 1) (st.1 2) (st.1 3) (st.1 4) (st.1 5) (st.1 6) (st.1 7) (st.1 8) (st.1 9) (st.1 10) (st.2 0) (st.2 1) (st.2 2) (st.2 3) (st.2 4) (st.2 5) (st.2 6) (st.2 7) (st.2 8)) H := hP
    have hD : va_D A (wX h0 q cI cZ (upd (st.1 0) ((st.2 2) * 6) x1) (st.1 1) (st.1 2) (st.1 3) (st.1 4) (st.1 5) (st.1 6) (st.1 7) (st.1 8) (st.1 9) (st.1 10) (st.2 0) (st.2 1) (st.2 2) (st.2 3) (st.2 4) (st.2 5) (st.2 6) (st.2 7) (st.2 8)) := hD
    refine lv_aload_n hx hb dX0_weights_40 rfl (lv_at hl 2 rfl) ?_
    refine va_get (D := (dC, dI)) (ci := 0) (v := .ref (q 0)) (C := RX0) (T := TX0) (N := 20) hx hb hts hin hown hK hP 0 rfl rfl 0 (by decide) k9 (fun _ h9 => h9) rfl dX0_weights_41 ?_
    refine lv_iload hx hb dX0_weights_44 (lv_at hl 0 rfl) ?_
    refine lv_iconst (v := nI 1) hx hb dX0_weights_46 (by decide +kernel) ?_
    refine sq_iadd hx hb dX0_weights_47 ?_
    refine lv_iload_n hx hb dX0_weights_48 rfl (lv_at hl 4 rfl) ?_
    refine sq_iast hx hb hK hP hD hS 1 0 rfl rfl (i := (((st.2 2) * 6) + 1)) (by omega) (by decide) dX0_weights_49 (fun H locs hP hD hS => ?_)
    have hP : va_P (dC, dI) vwCl (wX h0 q cI cZ (upd (upd (st.1 0) ((st.2 2) * 6) x1) (((st.2 2) * 6) + 1) x2) (st.1 1) (st.1 2) (st.1 3) (st.1 4) (st.1 5) (st.1 6) (st.1 7) (st.1 8) (st.1 9) (st.1 10) (st.2 0) (st.2 1) (st.2 2) (st.2 3) (st.2 4) (st.2 5) (st.2 6) (st.2 7) (st.2 8)) H := hP
    have hD : va_D A (wX h0 q cI cZ (upd (upd (st.1 0) ((st.2 2) * 6) x1) (((st.2 2) * 6) + 1) x2) (st.1 1) (st.1 2) (st.1 3) (st.1 4) (st.1 5) (st.1 6) (st.1 7) (st.1 8) (st.1 9) (st.1 10) (st.2 0) (st.2 1) (st.2 2) (st.2 3) (st.2 4) (st.2 5) (st.2 6) (st.2 7) (st.2 8)) := hD
    refine lv_aload_n hx hb dX0_weights_50 rfl (lv_at hl 2 rfl) ?_
    refine va_get (D := (dC, dI)) (ci := 0) (v := .ref (q 0)) (C := RX0) (T := TX0) (N := 20) hx hb hts hin hown hK hP 0 rfl rfl 0 (by decide) k9 (fun _ h9 => h9) rfl dX0_weights_51 ?_
    refine lv_iload hx hb dX0_weights_54 (lv_at hl 0 rfl) ?_
    refine lv_iconst (v := nI 2) hx hb dX0_weights_56 (by decide +kernel) ?_
    refine sq_iadd hx hb dX0_weights_57 ?_
    refine lv_iload_n hx hb dX0_weights_58 rfl (lv_at hl 5 rfl) ?_
    refine sq_iast hx hb hK hP hD hS 1 0 rfl rfl (i := (((st.2 2) * 6) + 2)) (by omega) (by decide) dX0_weights_59 (fun H locs hP hD hS => ?_)
    have hP : va_P (dC, dI) vwCl (wX h0 q cI cZ (upd (upd (upd (st.1 0) ((st.2 2) * 6) x1) (((st.2 2) * 6) + 1) x2) (((st.2 2) * 6) + 2) x3) (st.1 1) (st.1 2) (st.1 3) (st.1 4) (st.1 5) (st.1 6) (st.1 7) (st.1 8) (st.1 9) (st.1 10) (st.2 0) (st.2 1) (st.2 2) (st.2 3) (st.2 4) (st.2 5) (st.2 6) (st.2 7) (st.2 8)) H := hP
    have hD : va_D A (wX h0 q cI cZ (upd (upd (upd (st.1 0) ((st.2 2) * 6) x1) (((st.2 2) * 6) + 1) x2) (((st.2 2) * 6) + 2) x3) (st.1 1) (st.1 2) (st.1 3) (st.1 4) (st.1 5) (st.1 6) (st.1 7) (st.1 8) (st.1 9) (st.1 10) (st.2 0) (st.2 1) (st.2 2) (st.2 3) (st.2 4) (st.2 5) (st.2 6) (st.2 7) (st.2 8)) := hD
    refine lv_aload_n hx hb dX0_weights_60 rfl (lv_at hl 2 rfl) ?_
    refine va_get (D := (dC, dI)) (ci := 0) (v := .ref (q 0)) (C := RX0) (T := TX0) (N := 20) hx hb hts hin hown hK hP 0 rfl rfl 0 (by decide) k9 (fun _ h9 => h9) rfl dX0_weights_61 ?_
    refine lv_iload hx hb dX0_weights_64 (lv_at hl 0 rfl) ?_
    refine lv_iconst (v := nI 3) hx hb dX0_weights_66 (by decide +kernel) ?_
    refine sq_iadd hx hb dX0_weights_67 ?_
    refine lv_iload hx hb dX0_weights_68 (lv_at hl 6 rfl) ?_
    refine sq_iast hx hb hK hP hD hS 1 0 rfl rfl (i := (((st.2 2) * 6) + 3)) (by omega) (by decide) dX0_weights_70 (fun H locs hP hD hS => ?_)
    have hP : va_P (dC, dI) vwCl (wX h0 q cI cZ (upd (upd (upd (upd (st.1 0) ((st.2 2) * 6) x1) (((st.2 2) * 6) + 1) x2) (((st.2 2) * 6) + 2) x3) (((st.2 2) * 6) + 3) x4) (st.1 1) (st.1 2) (st.1 3) (st.1 4) (st.1 5) (st.1 6) (st.1 7) (st.1 8) (st.1 9) (st.1 10) (st.2 0) (st.2 1) (st.2 2) (st.2 3) (st.2 4) (st.2 5) (st.2 6) (st.2 7) (st.2 8)) H := hP
    have hD : va_D A (wX h0 q cI cZ (upd (upd (upd (upd (st.1 0) ((st.2 2) * 6) x1) (((st.2 2) * 6) + 1) x2) (((st.2 2) * 6) + 2) x3) (((st.2 2) * 6) + 3) x4) (st.1 1) (st.1 2) (st.1 3) (st.1 4) (st.1 5) (st.1 6) (st.1 7) (st.1 8) (st.1 9) (st.1 10) (st.2 0) (st.2 1) (st.2 2) (st.2 3) (st.2 4) (st.2 5) (st.2 6) (st.2 7) (st.2 8)) := hD
    refine lv_aload_n hx hb dX0_weights_71 rfl (lv_at hl 2 rfl) ?_
    refine va_get (D := (dC, dI)) (ci := 0) (v := .ref (q 0)) (C := RX0) (T := TX0) (N := 20) hx hb hts hin hown hK hP 0 rfl rfl 0 (by decide) k9 (fun _ h9 => h9) rfl dX0_weights_72 ?_
    refine lv_iload hx hb dX0_weights_75 (lv_at hl 0 rfl) ?_
    refine lv_iconst (v := nI 4) hx hb dX0_weights_77 (by decide +kernel) ?_
    refine sq_iadd hx hb dX0_weights_78 ?_
    refine lv_iload hx hb dX0_weights_79 (lv_at hl 7 rfl) ?_
    refine sq_iast hx hb hK hP hD hS 1 0 rfl rfl (i := (((st.2 2) * 6) + 4)) (by omega) (by decide) dX0_weights_81 (fun H locs hP hD hS => ?_)
    have hP : va_P (dC, dI) vwCl (wX h0 q cI cZ (upd (upd (upd (upd (upd (st.1 0) ((st.2 2) * 6) x1) (((st.2 2) * 6) + 1) x2) (((st.2 2) * 6) + 2) x3) (((st.2 2) * 6) + 3) x4) (((st.2 2) * 6) + 4) x5) (st.1 1) (st.1 2) (st.1 3) (st.1 4) (st.1 5) (st.1 6) (st.1 7) (st.1 8) (st.1 9) (st.1 10) (st.2 0) (st.2 1) (st.2 2) (st.2 3) (st.2 4) (st.2 5) (st.2 6) (st.2 7) (st.2 8)) H := hP
    have hD : va_D A (wX h0 q cI cZ (upd (upd (upd (upd (upd (st.1 0) ((st.2 2) * 6) x1) (((st.2 2) * 6) + 1) x2) (((st.2 2) * 6) + 2) x3) (((st.2 2) * 6) + 3) x4) (((st.2 2) * 6) + 4) x5) (st.1 1) (st.1 2) (st.1 3) (st.1 4) (st.1 5) (st.1 6) (st.1 7) (st.1 8) (st.1 9) (st.1 10) (st.2 0) (st.2 1) (st.2 2) (st.2 3) (st.2 4) (st.2 5) (st.2 6) (st.2 7) (st.2 8)) := hD
    refine lv_aload_n hx hb dX0_weights_82 rfl (lv_at hl 2 rfl) ?_
    refine va_get (D := (dC, dI)) (ci := 0) (v := .ref (q 0)) (C := RX0) (T := TX0) (N := 20) hx hb hts hin hown hK hP 0 rfl rfl 0 (by decide) k9 (fun _ h9 => h9) rfl dX0_weights_83 ?_
    refine lv_iload hx hb dX0_weights_86 (lv_at hl 0 rfl) ?_
    refine lv_iconst (v := nI 5) hx hb dX0_weights_88 (by decide +kernel) ?_
    refine sq_iadd hx hb dX0_weights_89 ?_
    refine lv_iload hx hb dX0_weights_90 (lv_at hl 8 rfl) ?_
    refine sq_iast hx hb hK hP hD hS 1 0 rfl rfl (i := (((st.2 2) * 6) + 5)) (by omega) (by decide) dX0_weights_92 (fun H locs hP hD hS => ?_)
    have hP : va_P (dC, dI) vwCl (wX h0 q cI cZ (upd (upd (upd (upd (upd (upd (st.1 0) ((st.2 2) * 6) x1) (((st.2 2) * 6) + 1) x2) (((st.2 2) * 6) + 2) x3) (((st.2 2) * 6) + 3) x4) (((st.2 2) * 6) + 4) x5) (((st.2 2) * 6) + 5) x6) (st.1 1) (st.1 2) (st.1 3) (st.1 4) (st.1 5) (st.1 6) (st.1 7) (st.1 8) (st.1 9) (st.1 10) (st.2 0) (st.2 1) (st.2 2) (st.2 3) (st.2 4) (st.2 5) (st.2 6) (st.2 7) (st.2 8)) H := hP
    have hD : va_D A (wX h0 q cI cZ (upd (upd (upd (upd (upd (upd (st.1 0) ((st.2 2) * 6) x1) (((st.2 2) * 6) + 1) x2) (((st.2 2) * 6) + 2) x3) (((st.2 2) * 6) + 3) x4) (((st.2 2) * 6) + 4) x5) (((st.2 2) * 6) + 5) x6) (st.1 1) (st.1 2) (st.1 3) (st.1 4) (st.1 5) (st.1 6) (st.1 7) (st.1 8) (st.1 9) (st.1 10) (st.2 0) (st.2 1) (st.2 2) (st.2 3) (st.2 4) (st.2 5) (st.2 6) (st.2 7) (st.2 8)) := hD
    refine lv_aload_n hx hb dX0_weights_93 rfl (lv_at hl 2 rfl) ?_
    refine lv_iload hx hb dX0_weights_94 (lv_at hl 1 rfl) ?_
    refine lv_iconst (v := nI 1) hx hb dX0_weights_96 (by decide +kernel) ?_
    refine sq_iadd hx hb dX0_weights_97 ?_
    refine va_put (D := (dC, dI)) (ci := 0) (v := .int (nI ((st.2 2) + 1))) (ty := .int) (C := RX0) (T := TX0) (N := 20) hx hb hts hin tyX0 tyX0_ok nmX0 hown hK hP hD hS 0 rfl rfl 13 (by decide) k55 (fun _ h9 => h9) rfl (by decide +kernel) rfl rfl (Nat.le_of_ble_eq_true rfl) dX0_weights_98 (fun H locs hP hD hS => ?_)
    have hP : va_P (dC, dI) vwCl (wX h0 q cI cZ (upd (upd (upd (upd (upd (upd (st.1 0) ((st.2 2) * 6) x1) (((st.2 2) * 6) + 1) x2) (((st.2 2) * 6) + 2) x3) (((st.2 2) * 6) + 3) x4) (((st.2 2) * 6) + 4) x5) (((st.2 2) * 6) + 5) x6) (st.1 1) (st.1 2) (st.1 3) (st.1 4) (st.1 5) (st.1 6) (st.1 7) (st.1 8) (st.1 9) (st.1 10) (st.2 0) (st.2 1) ((st.2 2) + 1) (st.2 3) (st.2 4) (st.2 5) (st.2 6) (st.2 7) (st.2 8)) H := hP
    have hD : va_D A (wX h0 q cI cZ (upd (upd (upd (upd (upd (upd (st.1 0) ((st.2 2) * 6) x1) (((st.2 2) * 6) + 1) x2) (((st.2 2) * 6) + 2) x3) (((st.2 2) * 6) + 3) x4) (((st.2 2) * 6) + 4) x5) (((st.2 2) * 6) + 5) x6) (st.1 1) (st.1 2) (st.1 3) (st.1 4) (st.1 5) (st.1 6) (st.1 7) (st.1 8) (st.1 9) (st.1 10) (st.2 0) (st.2 1) ((st.2 2) + 1) (st.2 3) (st.2 4) (st.2 5) (st.2 6) (st.2 7) (st.2 8)) := hD
    refine lv_iload hx hb dX0_weights_101 (lv_at hl 1 rfl) ?_
    exact hend _ _ _ _ _ (by unfold sq_kW; rw [if_pos hc]) rfl hP hD hS dX0_weights_103
  · have hk9 : ¬ (sq_kW st) = 0 := (by unfold sq_kW; rw [if_neg (by omega)]; decide)
    have hE9 : "java/lang/UnsupportedOperationException" = (fun _ => "java/lang/UnsupportedOperationException") (sq_kW st) := rfl
    exact sq_thr (k := sq_kW st) (En := fun _ => "java/lang/UnsupportedOperationException") (cls := "java/lang/UnsupportedOperationException") (names := ["java/lang/RuntimeException", "java/lang/Exception"]) hQ hx hb hl9 hown (by decide +kernel) (by decide +kernel) (hts _ (List.mem_cons_of_mem _ mkX0_59)) (hts _ (List.mem_cons_of_mem _ mt_UnsupportedOperationException)) (hZ.2.2.2.2.1 (61, "there are 120 rows") (by decide)) (vx_hat (L := vx_atS RX0 63 "java/lang/UnsupportedOperationException" ["java/lang/RuntimeException", "java/lang/Exception"]) (B := [.castable "java/lang/UnsupportedOperationException" "java/lang/UnsupportedOperationException", .declares ⟨"java/lang/RuntimeException", "<init>", "(Ljava/lang/String;)V"⟩, .declares ⟨"java/lang/Exception", "<init>", "(Ljava/lang/String;)V"⟩, .declares ⟨"java/lang/Throwable", "<init>", "(Ljava/lang/String;)V"⟩]) (fun w hw => hts w (List.mem_cons_of_mem _ (sq_inT (sq_ax63 w hw) (List.mem_filter.mp hw).2))) (by decide +kernel) (vx_c (va_Nw.use rfl (hZ.2.2.1 ("java/lang/UnsupportedOperationException", "java/lang/UnsupportedOperationException") (by decide))) (vx_c (va_Nw.use rfl (hZ.2.2.2.1 ⟨"java/lang/RuntimeException", "<init>", "(Ljava/lang/String;)V"⟩ (by decide))) (vx_c (va_Nw.use rfl (hZ.2.2.2.1 ⟨"java/lang/Exception", "<init>", "(Ljava/lang/String;)V"⟩ (by decide))) (vx_c (va_Nw.use rfl (hZ.2.2.2.1 ⟨"java/lang/Throwable", "<init>", "(Ljava/lang/String;)V"⟩ (by decide))) (vx_n)))))) (by decide +kernel) hZ hS (hl.1.trans hml.symm) dX0_weights_9 dX0_weights_12 dX0_weights_13 dX0_weights_15 dX0_weights_18 hEx (Nat.le_of_ble_eq_true rfl) (Nat.le_of_ble_eq_true rfl) (Nat.le_of_ble_eq_true rfl) (Nat.le_of_ble_eq_true rfl) hlocks hP hK hD hk9 hE9
def rm_vector : Room := { frames := 6, cells := 1, slots := 6, locals := 90 }
set_option maxHeartbeats 4000000 in
set_option maxRecDepth 100000 in
theorem c_vector (l : Launch) (hl9 : l.stackTraces = false) (S : Nat → Nat) (dC : Nat → ClassId) (dI : Nat → Nat → Nat) (h0 : Nat) (q : Nat → Nat) (cI cZ : ClassId) (st : SqS) (b x1 x2 x3 x4 x5 x6 : Int32) (b5 : st.2 5 < 2 ^ 31) (hz1 : vp_nar .boolean b = b) : sq_Xi sq_cC sq_cD RX0 sq_cS sq_cN S l yX0_vector wsX0_vector rm_vector [.ref h0, .int b, .int x1, .int x2, .int x3, .int x4, .int x5, .int x6] (dC, dI) vwCl [(cI, .int), (cZ, .boolean)] (wX h0 q cI cZ (st.1 0) (st.1 1) (st.1 2) (st.1 3) (st.1 4) (st.1 5) (st.1 6) (st.1 7) (st.1 8) (st.1 9) (st.1 10) (st.2 0) (st.2 1) (st.2 2) (st.2 3) (st.2 4) (st.2 5) (st.2 6) (st.2 7) (st.2 8)) (wX h0 q cI cZ ((sq_vct st b x1 x2 x3 x4 x5 x6).1 0) ((sq_vct st b x1 x2 x3 x4 x5 x6).1 1) ((sq_vct st b x1 x2 x3 x4 x5 x6).1 2) ((sq_vct st b x1 x2 x3 x4 x5 x6).1 3) ((sq_vct st b x1 x2 x3 x4 x5 x6).1 4) ((sq_vct st b x1 x2 x3 x4 x5 x6).1 5) ((sq_vct st b x1 x2 x3 x4 x5 x6).1 6) ((sq_vct st b x1 x2 x3 x4 x5 x6).1 7) ((sq_vct st b x1 x2 x3 x4 x5 x6).1 8) ((sq_vct st b x1 x2 x3 x4 x5 x6).1 9) ((sq_vct st b x1 x2 x3 x4 x5 x6).1 10) ((sq_vct st b x1 x2 x3 x4 x5 x6).2 0) ((sq_vct st b x1 x2 x3 x4 x5 x6).2 1) ((sq_vct st b x1 x2 x3 x4 x5 x6).2 2) ((sq_vct st b x1 x2 x3 x4 x5 x6).2 3) ((sq_vct st b x1 x2 x3 x4 x5 x6).2 4) ((sq_vct st b x1 x2 x3 x4 x5 x6).2 5) ((sq_vct st b x1 x2 x3 x4 x5 x6).2 6) ((sq_vct st b x1 x2 x3 x4 x5 x6).2 7) ((sq_vct st b x1 x2 x3 x4 x5 x6).2 8)) (sq_kV st) (fun _ => "java/lang/UnsupportedOperationException") (nI (st.2 5)) := by
  refine sq_ofXi (cc := cX0_vector) (maxL := 10) (by decide) rfl (Nat.le_of_ble_eq_true rfl) ?_
  intro p e s m args below meth c A ls Q hx hb hts hown hml hK hP hD hS hA hl hZ hlocks hEx hend hQ
  have hl : lv_has ls 10 [(0, .ref h0), (1, .int b), (2, .int x1), (3, .int x2), (4, .int x3), (5, .int x4), (6, .int x5), (7, .int x6)] := hl
  have hin : ∀ w ∈ u_ws RX0 TX0 20, w ∈ wsX0_vector := fun w h => List.mem_cons_of_mem _ (inX0 w h)
  have k13 := hts _ (List.mem_cons_of_mem _ mfX0_13)
  have k19 := hts _ (List.mem_cons_of_mem _ mfX0_19)
  have k64 := hts _ (List.mem_cons_of_mem _ mfX0_64)
  refine lv_aload_n hx hb dX0_vector_0 rfl (lv_at hl 0 rfl) ?_
  refine va_get (D := (dC, dI)) (ci := 0) (v := .int (nI (st.2 5))) (C := RX0) (T := TX0) (N := 20) hx hb hts hin hown hK hP 0 rfl rfl 16 (by decide) k64 (fun _ h9 => h9) rfl dX0_vector_1 ?_
  refine lv_sipush (v := nI 200) hx hb dX0_vector_4 (by decide +kernel) ?_
  refine sq_icmp_lt (tgt := 20) hx hb (by omega) (by omega) dX0_vector_7 (by decide) (fun hc => ?_) (fun hc => ?_)
  · refine lv_aload_n hx hb dX0_vector_20 rfl (lv_at hl 0 rfl) ?_
    refine va_get (D := (dC, dI)) (ci := 0) (v := .int (nI (st.2 5))) (C := RX0) (T := TX0) (N := 20) hx hb hts hin hown hK hP 0 rfl rfl 16 (by decide) k64 (fun _ h9 => h9) rfl dX0_vector_21 ?_
    refine lv_istore (lv' := [(8, .int (nI (st.2 5))), (0, .ref h0), (1, .int b), (2, .int x1), (3, .int x2), (4, .int x3), (5, .int x4), (6, .int x5), (7, .int x6)]) hx hb dX0_vector_24 hl (by decide) rfl (fun ls hl => ?_)
    refine lv_iload hx hb dX0_vector_26 (lv_at hl 0 rfl) ?_
    refine lv_bipush (v := nI 6) hx hb dX0_vector_28 (by decide +kernel) ?_
    refine sq_imul hx hb dX0_vector_30 ?_
    refine lv_istore (lv' := [(9, .int (nI ((st.2 5) * 6))), (8, .int (nI (st.2 5))), (0, .ref h0), (1, .int b), (2, .int x1), (3, .int x2), (4, .int x3), (5, .int x4), (6, .int x5), (7, .int x6)]) hx hb dX0_vector_31 hl (by decide) rfl (fun ls hl => ?_)
    refine lv_aload_n hx hb dX0_vector_33 rfl (lv_at hl 2 rfl) ?_
    refine va_get (D := (dC, dI)) (ci := 0) (v := .ref (q 1)) (C := RX0) (T := TX0) (N := 20) hx hb hts hin hown hK hP 0 rfl rfl 1 (by decide) k13 (fun _ h9 => h9) rfl dX0_vector_34 ?_
    refine lv_iload hx hb dX0_vector_37 (lv_at hl 0 rfl) ?_
    refine lv_iload_n hx hb dX0_vector_39 rfl (lv_at hl 4 rfl) ?_
    refine sq_iast hx hb hK hP hD hS 2 0 rfl rfl (i := ((st.2 5) * 6)) (by omega) (by decide) dX0_vector_40 (fun H locs hP hD hS => ?_)
    have hP : va_P (dC, dI) vwCl (wX h0 q cI cZ (st.1 0) (upd (st.1 1) ((st.2 5) * 6) x1) (st.1 2) (st.1 3) (st.1 4) (st.1 5) (st.1 6) (st.1 7) (st.1 8) (st.1 9) (st.1 10) (st.2 0) (st.2 1) (st.2 2) (st.2 3) (st.2 4) (st.2 5) (st.2 6) (st.2 7) (st.2 8)) H := hP
    have hD : va_D A (wX h0 q cI cZ (st.1 0) (upd (st.1 1) ((st.2 5) * 6) x1) (st.1 2) (st.1 3) (st.1 4) (st.1 5) (st.1 6) (st.1 7) (st.1 8) (st.1 9) (st.1 10) (st.2 0) (st.2 1) (st.2 2) (st.2 3) (st.2 4) (st.2 5) (st.2 6) (st.2 7) (st.2 8)) := hD
    refine lv_aload_n hx hb dX0_vector_41 rfl (lv_at hl 2 rfl) ?_
    refine va_get (D := (dC, dI)) (ci := 0) (v := .ref (q 1)) (C := RX0) (T := TX0) (N := 20) hx hb hts hin hown hK hP 0 rfl rfl 1 (by decide) k13 (fun _ h9 => h9) rfl dX0_vector_42 ?_
    refine lv_iload hx hb dX0_vector_45 (lv_at hl 0 rfl) ?_
    refine lv_iconst (v := nI 1) hx hb dX0_vector_47 (by decide +kernel) ?_
    refine sq_iadd hx hb dX0_vector_48 ?_
    refine lv_iload_n hx hb dX0_vector_49 rfl (lv_at hl 5 rfl) ?_
    refine sq_iast hx hb hK hP hD hS 2 0 rfl rfl (i := (((st.2 5) * 6) + 1)) (by omega) (by decide) dX0_vector_50 (fun H locs hP hD hS => ?_)
    have hP : va_P (dC, dI) vwCl (wX h0 q cI cZ (st.1 0) (upd (upd (st.1 1) ((st.2 5) * 6) x1) (((st.2 5) * 6) + 1) x2) (st.1 2) (st.1 3) (st.1 4) (st.1 5) (st.1 6) (st.1 7) (st.1 8) (st.1 9) (st.1 10) (st.2 0) (st.2 1) (st.2 2) (st.2 3) (st.2 4) (st.2 5) (st.2 6) (st.2 7) (st.2 8)) H := hP
    have hD : va_D A (wX h0 q cI cZ (st.1 0) (upd (upd (st.1 1) ((st.2 5) * 6) x1) (((st.2 5) * 6) + 1) x2) (st.1 2) (st.1 3) (st.1 4) (st.1 5) (st.1 6) (st.1 7) (st.1 8) (st.1 9) (st.1 10) (st.2 0) (st.2 1) (st.2 2) (st.2 3) (st.2 4) (st.2 5) (st.2 6) (st.2 7) (st.2 8)) := hD
    refine lv_aload_n hx hb dX0_vector_51 rfl (lv_at hl 2 rfl) ?_
    refine va_get (D := (dC, dI)) (ci := 0) (v := .ref (q 1)) (C := RX0) (T := TX0) (N := 20) hx hb hts hin hown hK hP 0 rfl rfl 1 (by decide) k13 (fun _ h9 => h9) rfl dX0_vector_52 ?_
    refine lv_iload hx hb dX0_vector_55 (lv_at hl 0 rfl) ?_
    refine lv_iconst (v := nI 2) hx hb dX0_vector_57 (by decide +kernel) ?_
    refine sq_iadd hx hb dX0_vector_58 ?_
    refine lv_iload hx hb dX0_vector_59 (lv_at hl 6 rfl) ?_
    refine sq_iast hx hb hK hP hD hS 2 0 rfl rfl (i := (((st.2 5) * 6) + 2)) (by omega) (by decide) dX0_vector_61 (fun H locs hP hD hS => ?_)
    have hP : va_P (dC, dI) vwCl (wX h0 q cI cZ (st.1 0) (upd (upd (upd (st.1 1) ((st.2 5) * 6) x1) (((st.2 5) * 6) + 1) x2) (((st.2 5) * 6) + 2) x3) (st.1 2) (st.1 3) (st.1 4) (st.1 5) (st.1 6) (st.1 7) (st.1 8) (st.1 9) (st.1 10) (st.2 0) (st.2 1) (st.2 2) (st.2 3) (st.2 4) (st.2 5) (st.2 6) (st.2 7) (st.2 8)) H := hP
    have hD : va_D A (wX h0 q cI cZ (st.1 0) (upd (upd (upd (st.1 1) ((st.2 5) * 6) x1) (((st.2 5) * 6) + 1) x2) (((st.2 5) * 6) + 2) x3) (st.1 2) (st.1 3) (st.1 4) (st.1 5) (st.1 6) (st.1 7) (st.1 8) (st.1 9) (st.1 10) (st.2 0) (st.2 1) (st.2 2) (st.2 3) (st.2 4) (st.2 5) (st.2 6) (st.2 7) (st.2 8)) := hD
    refine lv_aload_n hx hb dX0_vector_62 rfl (lv_at hl 2 rfl) ?_
    refine va_get (D := (dC, dI)) (ci := 0) (v := .ref (q 1)) (C := RX0) (T := TX0) (N := 20) hx hb hts hin hown hK hP 0 rfl rfl 1 (by decide) k13 (fun _ h9 => h9) rfl dX0_vector_63 ?_
    refine lv_iload hx hb dX0_vector_66 (lv_at hl 0 rfl) ?_
    refine lv_iconst (v := nI 3) hx hb dX0_vector_68 (by decide +kernel) ?_
    refine sq_iadd hx hb dX0_vector_69 ?_
    refine lv_iload hx hb dX0_vector_70 (lv_at hl 7 rfl) ?_
    refine sq_iast hx hb hK hP hD hS 2 0 rfl rfl (i := (((st.2 5) * 6) + 3)) (by omega) (by decide) dX0_vector_72 (fun H locs hP hD hS => ?_)
    have hP : va_P (dC, dI) vwCl (wX h0 q cI cZ (st.1 0) (upd (upd (upd (upd (st.1 1) ((st.2 5) * 6) x1) (((st.2 5) * 6) + 1) x2) (((st.2 5) * 6) + 2) x3) (((st.2 5) * 6) + 3) x4) (st.1 2) (st.1 3) (st.1 4) (st.1 5) (st.1 6) (st.1 7) (st.1 8) (st.1 9) (st.1 10) (st.2 0) (st.2 1) (st.2 2) (st.2 3) (st.2 4) (st.2 5) (st.2 6) (st.2 7) (st.2 8)) H := hP
    have hD : va_D A (wX h0 q cI cZ (st.1 0) (upd (upd (upd (upd (st.1 1) ((st.2 5) * 6) x1) (((st.2 5) * 6) + 1) x2) (((st.2 5) * 6) + 2) x3) (((st.2 5) * 6) + 3) x4) (st.1 2) (st.1 3) (st.1 4) (st.1 5) (st.1 6) (st.1 7) (st.1 8) (st.1 9) (st.1 10) (st.2 0) (st.2 1) (st.2 2) (st.2 3) (st.2 4) (st.2 5) (st.2 6) (st.2 7) (st.2 8)) := hD
    refine lv_aload_n hx hb dX0_vector_73 rfl (lv_at hl 2 rfl) ?_
    refine va_get (D := (dC, dI)) (ci := 0) (v := .ref (q 1)) (C := RX0) (T := TX0) (N := 20) hx hb hts hin hown hK hP 0 rfl rfl 1 (by decide) k13 (fun _ h9 => h9) rfl dX0_vector_74 ?_
    refine lv_iload hx hb dX0_vector_77 (lv_at hl 0 rfl) ?_
    refine lv_iconst (v := nI 4) hx hb dX0_vector_79 (by decide +kernel) ?_
    refine sq_iadd hx hb dX0_vector_80 ?_
    refine lv_iload hx hb dX0_vector_81 (lv_at hl 8 rfl) ?_
    refine sq_iast hx hb hK hP hD hS 2 0 rfl rfl (i := (((st.2 5) * 6) + 4)) (by omega) (by decide) dX0_vector_83 (fun H locs hP hD hS => ?_)
    have hP : va_P (dC, dI) vwCl (wX h0 q cI cZ (st.1 0) (upd (upd (upd (upd (upd (st.1 1) ((st.2 5) * 6) x1) (((st.2 5) * 6) + 1) x2) (((st.2 5) * 6) + 2) x3) (((st.2 5) * 6) + 3) x4) (((st.2 5) * 6) + 4) x5) (st.1 2) (st.1 3) (st.1 4) (st.1 5) (st.1 6) (st.1 7) (st.1 8) (st.1 9) (st.1 10) (st.2 0) (st.2 1) (st.2 2) (st.2 3) (st.2 4) (st.2 5) (st.2 6) (st.2 7) (st.2 8)) H := hP
    have hD : va_D A (wX h0 q cI cZ (st.1 0) (upd (upd (upd (upd (upd (st.1 1) ((st.2 5) * 6) x1) (((st.2 5) * 6) + 1) x2) (((st.2 5) * 6) + 2) x3) (((st.2 5) * 6) + 3) x4) (((st.2 5) * 6) + 4) x5) (st.1 2) (st.1 3) (st.1 4) (st.1 5) (st.1 6) (st.1 7) (st.1 8) (st.1 9) (st.1 10) (st.2 0) (st.2 1) (st.2 2) (st.2 3) (st.2 4) (st.2 5) (st.2 6) (st.2 7) (st.2 8)) := hD
    refine lv_aload_n hx hb dX0_vector_84 rfl (lv_at hl 2 rfl) ?_
    refine va_get (D := (dC, dI)) (ci := 0) (v := .ref (q 1)) (C := RX0) (T := TX0) (N := 20) hx hb hts hin hown hK hP 0 rfl rfl 1 (by decide) k13 (fun _ h9 => h9) rfl dX0_vector_85 ?_
    refine lv_iload hx hb dX0_vector_88 (lv_at hl 0 rfl) ?_
    refine lv_iconst (v := nI 5) hx hb dX0_vector_90 (by decide +kernel) ?_
    refine sq_iadd hx hb dX0_vector_91 ?_
    refine lv_iload hx hb dX0_vector_92 (lv_at hl 9 rfl) ?_
    refine sq_iast hx hb hK hP hD hS 2 0 rfl rfl (i := (((st.2 5) * 6) + 5)) (by omega) (by decide) dX0_vector_94 (fun H locs hP hD hS => ?_)
    have hP : va_P (dC, dI) vwCl (wX h0 q cI cZ (st.1 0) (upd (upd (upd (upd (upd (upd (st.1 1) ((st.2 5) * 6) x1) (((st.2 5) * 6) + 1) x2) (((st.2 5) * 6) + 2) x3) (((st.2 5) * 6) + 3) x4) (((st.2 5) * 6) + 4) x5) (((st.2 5) * 6) + 5) x6) (st.1 2) (st.1 3) (st.1 4) (st.1 5) (st.1 6) (st.1 7) (st.1 8) (st.1 9) (st.1 10) (st.2 0) (st.2 1) (st.2 2) (st.2 3) (st.2 4) (st.2 5) (st.2 6) (st.2 7) (st.2 8)) H := hP
    have hD : va_D A (wX h0 q cI cZ (st.1 0) (upd (upd (upd (upd (upd (upd (st.1 1) ((st.2 5) * 6) x1) (((st.2 5) * 6) + 1) x2) (((st.2 5) * 6) + 2) x3) (((st.2 5) * 6) + 3) x4) (((st.2 5) * 6) + 4) x5) (((st.2 5) * 6) + 5) x6) (st.1 2) (st.1 3) (st.1 4) (st.1 5) (st.1 6) (st.1 7) (st.1 8) (st.1 9) (st.1 10) (st.2 0) (st.2 1) (st.2 2) (st.2 3) (st.2 4) (st.2 5) (st.2 6) (st.2 7) (st.2 8)) := hD
    refine lv_aload_n hx hb dX0_vector_95 rfl (lv_at hl 2 rfl) ?_
    refine va_get (D := (dC, dI)) (ci := 0) (v := .ref (q 3)) (C := RX0) (T := TX0) (N := 20) hx hb hts hin hown hK hP 0 rfl rfl 3 (by decide) k19 (fun _ h9 => h9) rfl dX0_vector_96 ?_
    refine lv_iload hx hb dX0_vector_99 (lv_at hl 1 rfl) ?_
    refine lv_iload_n hx hb dX0_vector_101 rfl (lv_at hl 3 rfl) ?_
    refine sq_zast hx hb hK hP hD hS 4 1 rfl rfl (i := (st.2 5)) (by omega) (by decide) hz1 dX0_vector_102 (fun H locs hP hD hS => ?_)
    have hP : va_P (dC, dI) vwCl (wX h0 q cI cZ (st.1 0) (upd (upd (upd (upd (upd (upd (st.1 1) ((st.2 5) * 6) x1) (((st.2 5) * 6) + 1) x2) (((st.2 5) * 6) + 2) x3) (((st.2 5) * 6) + 3) x4) (((st.2 5) * 6) + 4) x5) (((st.2 5) * 6) + 5) x6) (st.1 2) (upd (st.1 3) (st.2 5) b) (st.1 4) (st.1 5) (st.1 6) (st.1 7) (st.1 8) (st.1 9) (st.1 10) (st.2 0) (st.2 1) (st.2 2) (st.2 3) (st.2 4) (st.2 5) (st.2 6) (st.2 7) (st.2 8)) H := hP
    have hD : va_D A (wX h0 q cI cZ (st.1 0) (upd (upd (upd (upd (upd (upd (st.1 1) ((st.2 5) * 6) x1) (((st.2 5) * 6) + 1) x2) (((st.2 5) * 6) + 2) x3) (((st.2 5) * 6) + 3) x4) (((st.2 5) * 6) + 4) x5) (((st.2 5) * 6) + 5) x6) (st.1 2) (upd (st.1 3) (st.2 5) b) (st.1 4) (st.1 5) (st.1 6) (st.1 7) (st.1 8) (st.1 9) (st.1 10) (st.2 0) (st.2 1) (st.2 2) (st.2 3) (st.2 4) (st.2 5) (st.2 6) (st.2 7) (st.2 8)) := hD
    refine lv_aload_n hx hb dX0_vector_103 rfl (lv_at hl 2 rfl) ?_
    refine lv_iload hx hb dX0_vector_104 (lv_at hl 1 rfl) ?_
    refine lv_iconst (v := nI 1) hx hb dX0_vector_106 (by decide +kernel) ?_
    refine sq_iadd hx hb dX0_vector_107 ?_
    refine va_put (D := (dC, dI)) (ci := 0) (v := .int (nI ((st.2 5) + 1))) (ty := .int) (C := RX0) (T := TX0) (N := 20) hx hb hts hin tyX0 tyX0_ok nmX0 hown hK hP hD hS 0 rfl rfl 16 (by decide) k64 (fun _ h9 => h9) rfl (by decide +kernel) rfl rfl (Nat.le_of_ble_eq_true rfl) dX0_vector_108 (fun H locs hP hD hS => ?_)
    have hP : va_P (dC, dI) vwCl (wX h0 q cI cZ (st.1 0) (upd (upd (upd (upd (upd (upd (st.1 1) ((st.2 5) * 6) x1) (((st.2 5) * 6) + 1) x2) (((st.2 5) * 6) + 2) x3) (((st.2 5) * 6) + 3) x4) (((st.2 5) * 6) + 4) x5) (((st.2 5) * 6) + 5) x6) (st.1 2) (upd (st.1 3) (st.2 5) b) (st.1 4) (st.1 5) (st.1 6) (st.1 7) (st.1 8) (st.1 9) (st.1 10) (st.2 0) (st.2 1) (st.2 2) (st.2 3) (st.2 4) ((st.2 5) + 1) (st.2 6) (st.2 7) (st.2 8)) H := hP
    have hD : va_D A (wX h0 q cI cZ (st.1 0) (upd (upd (upd (upd (upd (upd (st.1 1) ((st.2 5) * 6) x1) (((st.2 5) * 6) + 1) x2) (((st.2 5) * 6) + 2) x3) (((st.2 5) * 6) + 3) x4) (((st.2 5) * 6) + 4) x5) (((st.2 5) * 6) + 5) x6) (st.1 2) (upd (st.1 3) (st.2 5) b) (st.1 4) (st.1 5) (st.1 6) (st.1 7) (st.1 8) (st.1 9) (st.1 10) (st.2 0) (st.2 1) (st.2 2) (st.2 3) (st.2 4) ((st.2 5) + 1) (st.2 6) (st.2 7) (st.2 8)) := hD
    refine lv_iload hx hb dX0_vector_111 (lv_at hl 1 rfl) ?_
    exact hend _ _ _ _ _ (by unfold sq_kV; rw [if_pos hc]) rfl hP hD hS dX0_vector_113
  · have hk9 : ¬ (sq_kV st) = 0 := (by unfold sq_kV; rw [if_neg (by omega)]; decide)
    have hE9 : "java/lang/UnsupportedOperationException" = (fun _ => "java/lang/UnsupportedOperationException") (sq_kV st) := rfl
    exact sq_thr (k := sq_kV st) (En := fun _ => "java/lang/UnsupportedOperationException") (cls := "java/lang/UnsupportedOperationException") (names := ["java/lang/RuntimeException", "java/lang/Exception"]) hQ hx hb hl9 hown (by decide +kernel) (by decide +kernel) (hts _ (List.mem_cons_of_mem _ mkX0_59)) (hts _ (List.mem_cons_of_mem _ mt_UnsupportedOperationException)) (hZ.2.2.2.2.1 (67, "there are 200 vectors") (by decide)) (vx_hat (L := vx_atS RX0 63 "java/lang/UnsupportedOperationException" ["java/lang/RuntimeException", "java/lang/Exception"]) (B := [.castable "java/lang/UnsupportedOperationException" "java/lang/UnsupportedOperationException", .declares ⟨"java/lang/RuntimeException", "<init>", "(Ljava/lang/String;)V"⟩, .declares ⟨"java/lang/Exception", "<init>", "(Ljava/lang/String;)V"⟩, .declares ⟨"java/lang/Throwable", "<init>", "(Ljava/lang/String;)V"⟩]) (fun w hw => hts w (List.mem_cons_of_mem _ (sq_inT (sq_ax63 w hw) (List.mem_filter.mp hw).2))) (by decide +kernel) (vx_c (va_Nw.use rfl (hZ.2.2.1 ("java/lang/UnsupportedOperationException", "java/lang/UnsupportedOperationException") (by decide))) (vx_c (va_Nw.use rfl (hZ.2.2.2.1 ⟨"java/lang/RuntimeException", "<init>", "(Ljava/lang/String;)V"⟩ (by decide))) (vx_c (va_Nw.use rfl (hZ.2.2.2.1 ⟨"java/lang/Exception", "<init>", "(Ljava/lang/String;)V"⟩ (by decide))) (vx_c (va_Nw.use rfl (hZ.2.2.2.1 ⟨"java/lang/Throwable", "<init>", "(Ljava/lang/String;)V"⟩ (by decide))) (vx_n)))))) (by decide +kernel) hZ hS (hl.1.trans hml.symm) dX0_vector_10 dX0_vector_13 dX0_vector_14 dX0_vector_16 dX0_vector_19 hEx (Nat.le_of_ble_eq_true rfl) (Nat.le_of_ble_eq_true rfl) (Nat.le_of_ble_eq_true rfl) (Nat.le_of_ble_eq_true rfl) hlocks hP hK hD hk9 hE9
def rm_entered : Room := { frames := 6, cells := 1, slots := 6, locals := 90 }
set_option maxHeartbeats 4000000 in
set_option maxRecDepth 100000 in
theorem c_entered (l : Launch) (hl9 : l.stackTraces = false) (S : Nat → Nat) (dC : Nat → ClassId) (dI : Nat → Nat → Nat) (h0 : Nat) (q : Nat → Nat) (cI cZ : ClassId) (st : SqS) (v : Int32) (hok : sq_ok st) : sq_Xi sq_cC sq_cD RX0 sq_cS sq_cN S l yX0_entered wsX0_entered rm_entered [.ref h0, .int v] (dC, dI) vwCl [(cI, .int), (cZ, .boolean)] (wX h0 q cI cZ (st.1 0) (st.1 1) (st.1 2) (st.1 3) (st.1 4) (st.1 5) (st.1 6) (st.1 7) (st.1 8) (st.1 9) (st.1 10) (st.2 0) (st.2 1) (st.2 2) (st.2 3) (st.2 4) (st.2 5) (st.2 6) (st.2 7) (st.2 8)) (wX h0 q cI cZ (st.1 0) (st.1 1) (st.1 2) (st.1 3) (st.1 4) (st.1 5) (st.1 6) (st.1 7) (st.1 8) (st.1 9) (st.1 10) (st.2 0) (st.2 1) (st.2 2) (st.2 3) (st.2 4) (st.2 5) (st.2 6) (st.2 7) (st.2 8)) (sq_kE st v) (fun _ => "java/lang/IndexOutOfBoundsException") (sq_rE st v) := by
  refine sq_ofXi (cc := cX0_entered) (maxL := 2) (by decide) rfl (Nat.le_of_ble_eq_true rfl) ?_
  intro p e s m args below meth c A ls Q hx hb hts hown hml hK hP hD hS hA hl hZ hlocks hEx hend hQ
  have hl : lv_has ls 2 [(0, .ref h0), (1, .int v)] := hl
  have hin : ∀ w ∈ u_ws RX0 TX0 20, w ∈ wsX0_entered := fun w h => List.mem_cons_of_mem _ (inX0 w h)
  have k23 := hts _ (List.mem_cons_of_mem _ mfX0_23)
  have k98 := hts _ (List.mem_cons_of_mem _ mfX0_98)
  obtain ⟨⟨o1, o2⟩, o3, ⟨o4, o5⟩, o6, ⟨o7, o8, o9⟩, o10, o11, o12, o13, o14⟩ := id hok
  refine lv_aload_n hx hb dX0_entered_0 rfl (lv_at hl 0 rfl) ?_
  refine lv_iload_n hx hb dX0_entered_1 rfl (lv_at hl 1 rfl) ?_
  refine sq_calli (As := [.int v]) (c_isVector l dC dI h0 q cI cZ (st.1 0) (st.1 1) (st.1 2) (st.1 3) (st.1 4) (st.1 5) (st.1 6) (st.1 7) (st.1 8) (st.1 9) (st.1 10) (st.2 0) (st.2 1) (st.2 2) (st.2 3) (st.2 4) (st.2 5) (st.2 6) (st.2 7) (st.2 8) v) ⟨hx, hb, hml, hown, hts⟩ (cwV 1 hts (sq_good gvX0_93) rfl rfl rfl (by decide +kernel) ⟨Nat.le_of_ble_eq_true rfl, Nat.le_of_ble_eq_true rfl⟩) hK hP hD hS hA rfl rfl rfl rfl hl.1 rfl (Nat.le_of_ble_eq_true rfl) dX0_entered_2 ⟨Nat.zero_le _, Nat.zero_le _⟩ (fun H locs hP hD hS => ?_)
  refine lv_if_ne (tgt := 18) hx hb dX0_entered_5 (by decide) (fun hc => ?_) (fun hc => ?_)
  · have hv : sq_in (st.2 5) v := sq_bnd hc
    have hk0 : sq_kE st v = 0 := by unfold sq_kE; rw [if_pos hv]
    obtain ⟨j, hj, rfl⟩ := sq_in_of hv (by omega)
    have e9 : sq_vec (nI j) = j := sq_vec_nI (by omega)
    refine lv_iload_n hx hb dX0_entered_18 rfl (lv_at hl 1 rfl) ?_
    refine lv_aload_n hx hb dX0_entered_19 rfl (lv_at hl 0 rfl) ?_
    refine va_get (D := (dC, dI)) (ci := 0) (v := .int (nI (st.2 6))) (C := RX0) (T := TX0) (N := 20) hx hb hts hin hown hK hP 0 rfl rfl 17 (by decide) k98 (fun _ h9 => h9) rfl dX0_entered_20 ?_
    refine sq_icmp_ge (tgt := 35) hx hb (by omega) (by omega) dX0_entered_23 (by decide) (fun hd => ?_) (fun hd => ?_)
    · refine lv_iconst (v := (-1)) hx hb dX0_entered_35 (by decide +kernel) ?_
      exact hend _ _ _ _ _ hk0 (by unfold sq_rE; rw [e9, if_neg (by omega)]) hP hD hS dX0_entered_36
    · refine lv_aload_n hx hb dX0_entered_26 rfl (lv_at hl 0 rfl) ?_
      refine va_get (D := (dC, dI)) (ci := 0) (v := .ref (q 4)) (C := RX0) (T := TX0) (N := 20) hx hb hts hin hown hK hP 0 rfl rfl 4 (by decide) k23 (fun _ h9 => h9) rfl dX0_entered_27 ?_
      refine lv_iload_n hx hb dX0_entered_30 rfl (lv_at hl 1 rfl) ?_
      refine sq_iald hx hb hK hP 5 0 rfl rfl (i := j) (by omega) (by decide) dX0_entered_31 ?_
      refine lv_goto (tgt := 36) hx hb dX0_entered_32 (by decide) ?_
      exact hend _ _ _ _ _ hk0 (by unfold sq_rE; rw [e9, if_pos hd]) hP hD hS dX0_entered_36
  · have hk9 : ¬ (sq_kE st v) = 0 := (by unfold sq_kE; rw [if_neg (sq_b0d hc)]; decide)
    have hE9 : "java/lang/IndexOutOfBoundsException" = (fun _ => "java/lang/IndexOutOfBoundsException") (sq_kE st v) := rfl
    exact sq_thr (k := sq_kE st v) (En := fun _ => "java/lang/IndexOutOfBoundsException") (cls := "java/lang/IndexOutOfBoundsException") (names := ["java/lang/RuntimeException", "java/lang/Exception"]) hQ hx hb hl9 hown (by decide +kernel) (by decide +kernel) (hts _ (List.mem_cons_of_mem _ mkX0_86)) (hts _ (List.mem_cons_of_mem _ mt_IndexOutOfBoundsException)) (hZ.2.2.2.2.1 (96, "there is no such vector") (by decide)) (vx_hat (L := vx_atS RX0 90 "java/lang/IndexOutOfBoundsException" ["java/lang/RuntimeException", "java/lang/Exception"]) (B := [.castable "java/lang/IndexOutOfBoundsException" "java/lang/IndexOutOfBoundsException", .declares ⟨"java/lang/RuntimeException", "<init>", "(Ljava/lang/String;)V"⟩, .declares ⟨"java/lang/Exception", "<init>", "(Ljava/lang/String;)V"⟩, .declares ⟨"java/lang/Throwable", "<init>", "(Ljava/lang/String;)V"⟩]) (fun w hw => hts w (List.mem_cons_of_mem _ (sq_inT (sq_ax90 w hw) (List.mem_filter.mp hw).2))) (by decide +kernel) (vx_c (va_Nw.use rfl (hZ.2.2.1 ("java/lang/IndexOutOfBoundsException", "java/lang/IndexOutOfBoundsException") (by decide))) (vx_c (va_Nw.use rfl (hZ.2.2.2.1 ⟨"java/lang/RuntimeException", "<init>", "(Ljava/lang/String;)V"⟩ (by decide))) (vx_c (va_Nw.use rfl (hZ.2.2.2.1 ⟨"java/lang/Exception", "<init>", "(Ljava/lang/String;)V"⟩ (by decide))) (vx_c (va_Nw.use rfl (hZ.2.2.2.1 ⟨"java/lang/Throwable", "<init>", "(Ljava/lang/String;)V"⟩ (by decide))) (vx_n)))))) (by decide +kernel) hZ hS (hl.1.trans hml.symm) dX0_entered_8 dX0_entered_11 dX0_entered_12 dX0_entered_14 dX0_entered_17 hEx (Nat.le_of_ble_eq_true rfl) (Nat.le_of_ble_eq_true rfl) (Nat.le_of_ble_eq_true rfl) (Nat.le_of_ble_eq_true rfl) hlocks hP hK hD hk9 hE9
def rm_result : Room := { frames := 6, cells := 1, slots := 6, locals := 90 }
set_option maxHeartbeats 4000000 in
set_option maxRecDepth 100000 in
theorem c_result (l : Launch) (hl9 : l.stackTraces = false) (S : Nat → Nat) (dC : Nat → ClassId) (dI : Nat → Nat → Nat) (h0 : Nat) (q : Nat → Nat) (cI cZ : ClassId) (st : SqS) (v w : Int32) (hok : sq_ok st) : sq_Xi sq_cC sq_cD RX0 sq_cS sq_cN S l yX0_result wsX0_result rm_result [.ref h0, .int v, .int w] (dC, dI) vwCl [(cI, .int), (cZ, .boolean)] (wX h0 q cI cZ (st.1 0) (st.1 1) (st.1 2) (st.1 3) (st.1 4) (st.1 5) (st.1 6) (st.1 7) (st.1 8) (st.1 9) (st.1 10) (st.2 0) (st.2 1) (st.2 2) (st.2 3) (st.2 4) (st.2 5) (st.2 6) (st.2 7) (st.2 8)) (wX h0 q cI cZ (st.1 0) (st.1 1) (st.1 2) (st.1 3) (st.1 4) (st.1 5) (st.1 6) (st.1 7) (st.1 8) (st.1 9) (st.1 10) (st.2 0) (st.2 1) (st.2 2) (st.2 3) (st.2 4) (st.2 5) (st.2 6) (st.2 7) (st.2 8)) (sq_kR st v w) (fun k => if k = 1 then "java/lang/IndexOutOfBoundsException" else "java/util/NoSuchElementException") (sq_rR st v w) := by
  refine sq_ofXi (cc := cX0_result) (maxL := 3) (by decide) rfl (Nat.le_of_ble_eq_true rfl) ?_
  intro p e s m args below meth c A ls Q hx hb hts hown hml hK hP hD hS hA hl hZ hlocks hEx hend hQ
  have hl : lv_has ls 3 [(0, .ref h0), (1, .int v), (2, .int w)] := hl
  have hin : ∀ w ∈ u_ws RX0 TX0 20, w ∈ wsX0_result := fun w h => List.mem_cons_of_mem _ (inX0 w h)
  have k16 := hts _ (List.mem_cons_of_mem _ mfX0_16)
  have k23 := hts _ (List.mem_cons_of_mem _ mfX0_23)
  have k70 := hts _ (List.mem_cons_of_mem _ mfX0_70)
  have k98 := hts _ (List.mem_cons_of_mem _ mfX0_98)
  obtain ⟨⟨o1, o2⟩, o3, ⟨o4, o5⟩, o6, ⟨o7, o8, o9⟩, o10, o11, o12, o13, o14⟩ := id hok
  refine lv_aload_n hx hb dX0_result_0 rfl (lv_at hl 0 rfl) ?_
  refine lv_iload_n hx hb dX0_result_1 rfl (lv_at hl 1 rfl) ?_
  refine sq_calli (As := [.int v]) (c_isVector l dC dI h0 q cI cZ (st.1 0) (st.1 1) (st.1 2) (st.1 3) (st.1 4) (st.1 5) (st.1 6) (st.1 7) (st.1 8) (st.1 9) (st.1 10) (st.2 0) (st.2 1) (st.2 2) (st.2 3) (st.2 4) (st.2 5) (st.2 6) (st.2 7) (st.2 8) v) ⟨hx, hb, hml, hown, hts⟩ (cwV 1 hts (sq_good gvX0_93) rfl rfl rfl (by decide +kernel) ⟨Nat.le_of_ble_eq_true rfl, Nat.le_of_ble_eq_true rfl⟩) hK hP hD hS hA rfl rfl rfl rfl hl.1 rfl (Nat.le_of_ble_eq_true rfl) dX0_result_2 ⟨Nat.zero_le _, Nat.zero_le _⟩ (fun H locs hP hD hS => ?_)
  refine lv_if_eq (tgt := 16) hx hb dX0_result_5 (by decide) (fun hc => ?_) (fun hc => ?_)
  · have hk1 : sq_kR st v w = 1 := by unfold sq_kR; rw [if_pos (fun h => sq_b0d hc h.1)]
    have hk9 : ¬ (sq_kR st v w) = 0 := (by rw [hk1]; decide)
    have hE9 : "java/lang/IndexOutOfBoundsException" = (fun k => if k = 1 then "java/lang/IndexOutOfBoundsException" else "java/util/NoSuchElementException") (sq_kR st v w) := (by rw [hk1]; rfl)
    exact sq_thr (k := sq_kR st v w) (En := fun k => if k = 1 then "java/lang/IndexOutOfBoundsException" else "java/util/NoSuchElementException") (cls := "java/lang/IndexOutOfBoundsException") (names := ["java/lang/RuntimeException", "java/lang/Exception"]) hQ hx hb hl9 hown (by decide +kernel) (by decide +kernel) (hts _ (List.mem_cons_of_mem _ mkX0_86)) (hts _ (List.mem_cons_of_mem _ mt_IndexOutOfBoundsException)) (hZ.2.2.2.2.1 (101, "there is no such vector or column") (by decide)) (vx_hat (L := vx_atS RX0 90 "java/lang/IndexOutOfBoundsException" ["java/lang/RuntimeException", "java/lang/Exception"]) (B := [.castable "java/lang/IndexOutOfBoundsException" "java/lang/IndexOutOfBoundsException", .declares ⟨"java/lang/RuntimeException", "<init>", "(Ljava/lang/String;)V"⟩, .declares ⟨"java/lang/Exception", "<init>", "(Ljava/lang/String;)V"⟩, .declares ⟨"java/lang/Throwable", "<init>", "(Ljava/lang/String;)V"⟩]) (fun w hw => hts w (List.mem_cons_of_mem _ (sq_inT (sq_ax90 w hw) (List.mem_filter.mp hw).2))) (by decide +kernel) (vx_c (va_Nw.use rfl (hZ.2.2.1 ("java/lang/IndexOutOfBoundsException", "java/lang/IndexOutOfBoundsException") (by decide))) (vx_c (va_Nw.use rfl (hZ.2.2.2.1 ⟨"java/lang/RuntimeException", "<init>", "(Ljava/lang/String;)V"⟩ (by decide))) (vx_c (va_Nw.use rfl (hZ.2.2.2.1 ⟨"java/lang/Exception", "<init>", "(Ljava/lang/String;)V"⟩ (by decide))) (vx_c (va_Nw.use rfl (hZ.2.2.2.1 ⟨"java/lang/Throwable", "<init>", "(Ljava/lang/String;)V"⟩ (by decide))) (vx_n)))))) (by decide +kernel) hZ hS (hl.1.trans hml.symm) dX0_result_16 dX0_result_19 dX0_result_20 dX0_result_22 dX0_result_25 hEx (Nat.le_of_ble_eq_true rfl) (Nat.le_of_ble_eq_true rfl) (Nat.le_of_ble_eq_true rfl) (Nat.le_of_ble_eq_true rfl) hlocks hP hK hD hk9 hE9
  · refine lv_aload_n hx hb dX0_result_8 rfl (lv_at hl 0 rfl) ?_
    refine lv_iload_n hx hb dX0_result_9 rfl (lv_at hl 2 rfl) ?_
    refine sq_calli (As := [.int w]) (c_isInSquare l dC dI h0 q cI cZ (st.1 0) (st.1 1) (st.1 2) (st.1 3) (st.1 4) (st.1 5) (st.1 6) (st.1 7) (st.1 8) (st.1 9) (st.1 10) (st.2 0) (st.2 1) (st.2 2) (st.2 3) (st.2 4) (st.2 5) (st.2 6) (st.2 7) (st.2 8) w) ⟨hx, hb, hml, hown, hts⟩ (cwV 1 hts (sq_good gvX0_82) rfl rfl rfl (by decide +kernel) ⟨Nat.le_of_ble_eq_true rfl, Nat.le_of_ble_eq_true rfl⟩) hK hP hD hS hA rfl rfl rfl rfl hl.1 rfl (Nat.le_of_ble_eq_true rfl) dX0_result_10 ⟨Nat.zero_le _, Nat.zero_le _⟩ (fun H locs hP hD hS => ?_)
    refine lv_if_ne (tgt := 26) hx hb dX0_result_13 (by decide) (fun hd => ?_) (fun hd => ?_)
    · have hv : sq_in (st.2 5) v := sq_bnd hc
      have hw : sq_in (st.2 0) w := sq_bnd hd
      have hkk : sq_kR st v w = if sq_vec v < st.2 6 ∧ 2 * st.2 0 - 2 ≤ st.2 1 - sq_vec (st.1 4 (sq_vec v)) then 0 else 2 := by unfold sq_kR; rw [if_neg (fun h => h ⟨hv, hw⟩)]
      obtain ⟨j, hj, rfl⟩ := sq_in_of hv (by omega)
      obtain ⟨i, hi, rfl⟩ := sq_in_of hw (by omega)
      have e8 : sq_vec (nI j) = j := sq_vec_nI (by omega)
      have e9 : sq_vec (nI i) = i := sq_vec_nI (by omega)
      rw [e8] at hkk
      refine lv_iload_n hx hb dX0_result_26 rfl (lv_at hl 1 rfl) ?_
      refine lv_aload_n hx hb dX0_result_27 rfl (lv_at hl 0 rfl) ?_
      refine va_get (D := (dC, dI)) (ci := 0) (v := .int (nI (st.2 6))) (C := RX0) (T := TX0) (N := 20) hx hb hts hin hown hK hP 0 rfl rfl 17 (by decide) k98 (fun _ h9 => h9) rfl dX0_result_28 ?_
      refine sq_icmp_ge (tgt := 52) hx hb (by omega) (by omega) dX0_result_31 (by decide) (fun he => ?_) (fun he => ?_)
      · rw [if_neg (fun h => absurd h.1 (by omega))] at hkk
        have hk9 : ¬ (sq_kR st (nI j) (nI i)) = 0 := (by rw [hkk]; decide)
        have hE9 : "java/util/NoSuchElementException" = (fun k => if k = 1 then "java/lang/IndexOutOfBoundsException" else "java/util/NoSuchElementException") (sq_kR st (nI j) (nI i)) := (by rw [hkk]; rfl)
        exact sq_thrN (k := sq_kR st (nI j) (nI i)) (En := fun k => if k = 1 then "java/lang/IndexOutOfBoundsException" else "java/util/NoSuchElementException") hQ hx hb hl9 hown hts hZ hS (hl.1.trans hml.symm) dX0_result_52 dX0_result_55 dX0_result_56 dX0_result_58 dX0_result_61 hEx (Nat.le_of_ble_eq_true rfl) (Nat.le_of_ble_eq_true rfl) (Nat.le_of_ble_eq_true rfl) (Nat.le_of_ble_eq_true rfl) hlocks hP hK hD hk9 hE9
      · obtain ⟨t, ht, et⟩ := o14 j he
        have e7 : sq_vec (st.1 4 j) = t := by rw [et]; exact sq_vec_nI (by omega)
        rw [e7] at hkk
        refine lv_aload_n hx hb dX0_result_34 rfl (lv_at hl 0 rfl) ?_
        refine va_get (D := (dC, dI)) (ci := 0) (v := .int (nI (st.2 1))) (C := RX0) (T := TX0) (N := 20) hx hb hts hin hown hK hP 0 rfl rfl 12 (by decide) k70 (fun _ h9 => h9) rfl dX0_result_35 ?_
        refine lv_aload_n hx hb dX0_result_38 rfl (lv_at hl 0 rfl) ?_
        refine va_get (D := (dC, dI)) (ci := 0) (v := .ref (q 4)) (C := RX0) (T := TX0) (N := 20) hx hb hts hin hown hK hP 0 rfl rfl 4 (by decide) k23 (fun _ h9 => h9) rfl dX0_result_39 ?_
        refine lv_iload_n hx hb dX0_result_42 rfl (lv_at hl 1 rfl) ?_
        refine sq_iald hx hb hK hP 5 0 rfl rfl (i := j) (by omega) (by decide) dX0_result_43 ?_
        refine sq_top et ?_
        refine sq_isub hx hb (by omega) dX0_result_44 ?_
        refine lv_aload_n hx hb dX0_result_45 rfl (lv_at hl 0 rfl) ?_
        refine sq_calli (As := []) (c_crossing l dC dI h0 q cI cZ (st.1 0) (st.1 1) (st.1 2) (st.1 3) (st.1 4) (st.1 5) (st.1 6) (st.1 7) (st.1 8) (st.1 9) (st.1 10) (st.2 0) (st.2 1) (st.2 2) (st.2 3) (st.2 4) (st.2 5) (st.2 6) (st.2 7) (st.2 8) o1) ⟨hx, hb, hml, hown, hts⟩ (cwV 0 hts (sq_good gvX0_103) rfl rfl rfl (by decide +kernel) ⟨Nat.le_of_ble_eq_true rfl, Nat.le_of_ble_eq_true rfl⟩) hK hP hD hS hA rfl rfl rfl rfl hl.1 rfl (Nat.le_of_ble_eq_true rfl) dX0_result_46 ⟨Nat.zero_le _, Nat.zero_le _⟩ (fun H locs hP hD hS => ?_)
        refine sq_icmp_ge (tgt := 62) hx hb (by omega) (by omega) dX0_result_49 (by decide) (fun hf => ?_) (fun hf => ?_)
        · rw [if_pos ⟨he, hf⟩] at hkk
          refine lv_aload_n hx hb dX0_result_62 rfl (lv_at hl 0 rfl) ?_
          refine va_get (D := (dC, dI)) (ci := 0) (v := .ref (q 2)) (C := RX0) (T := TX0) (N := 20) hx hb hts hin hown hK hP 0 rfl rfl 2 (by decide) k16 (fun _ h9 => h9) rfl dX0_result_63 ?_
          refine lv_iload_n hx hb dX0_result_66 rfl (lv_at hl 1 rfl) ?_
          refine lv_bipush (v := nI 6) hx hb dX0_result_67 (by decide +kernel) ?_
          refine sq_imul hx hb dX0_result_69 ?_
          refine lv_iload_n hx hb dX0_result_70 rfl (lv_at hl 2 rfl) ?_
          refine sq_iadd hx hb dX0_result_71 ?_
          refine sq_iald hx hb hK hP 3 0 rfl rfl (i := ((j * 6) + i)) (by omega) (by decide) dX0_result_72 ?_
          exact hend _ _ _ _ _ hkk (by unfold sq_rR; rw [e8, e9]) hP hD hS dX0_result_73
        · rw [if_neg (fun h => absurd h.2 (by omega))] at hkk
          have hk9 : ¬ (sq_kR st (nI j) (nI i)) = 0 := (by rw [hkk]; decide)
          have hE9 : "java/util/NoSuchElementException" = (fun k => if k = 1 then "java/lang/IndexOutOfBoundsException" else "java/util/NoSuchElementException") (sq_kR st (nI j) (nI i)) := (by rw [hkk]; rfl)
          exact sq_thrN (k := sq_kR st (nI j) (nI i)) (En := fun k => if k = 1 then "java/lang/IndexOutOfBoundsException" else "java/util/NoSuchElementException") hQ hx hb hl9 hown hts hZ hS (hl.1.trans hml.symm) dX0_result_52 dX0_result_55 dX0_result_56 dX0_result_58 dX0_result_61 hEx (Nat.le_of_ble_eq_true rfl) (Nat.le_of_ble_eq_true rfl) (Nat.le_of_ble_eq_true rfl) (Nat.le_of_ble_eq_true rfl) hlocks hP hK hD hk9 hE9
    · have hk1 : sq_kR st v w = 1 := by unfold sq_kR; rw [if_pos (fun h => sq_b0d hd h.2)]
      have hk9 : ¬ (sq_kR st v w) = 0 := (by rw [hk1]; decide)
      have hE9 : "java/lang/IndexOutOfBoundsException" = (fun k => if k = 1 then "java/lang/IndexOutOfBoundsException" else "java/util/NoSuchElementException") (sq_kR st v w) := (by rw [hk1]; rfl)
      exact sq_thr (k := sq_kR st v w) (En := fun k => if k = 1 then "java/lang/IndexOutOfBoundsException" else "java/util/NoSuchElementException") (cls := "java/lang/IndexOutOfBoundsException") (names := ["java/lang/RuntimeException", "java/lang/Exception"]) hQ hx hb hl9 hown (by decide +kernel) (by decide +kernel) (hts _ (List.mem_cons_of_mem _ mkX0_86)) (hts _ (List.mem_cons_of_mem _ mt_IndexOutOfBoundsException)) (hZ.2.2.2.2.1 (101, "there is no such vector or column") (by decide)) (vx_hat (L := vx_atS RX0 90 "java/lang/IndexOutOfBoundsException" ["java/lang/RuntimeException", "java/lang/Exception"]) (B := [.castable "java/lang/IndexOutOfBoundsException" "java/lang/IndexOutOfBoundsException", .declares ⟨"java/lang/RuntimeException", "<init>", "(Ljava/lang/String;)V"⟩, .declares ⟨"java/lang/Exception", "<init>", "(Ljava/lang/String;)V"⟩, .declares ⟨"java/lang/Throwable", "<init>", "(Ljava/lang/String;)V"⟩]) (fun w hw => hts w (List.mem_cons_of_mem _ (sq_inT (sq_ax90 w hw) (List.mem_filter.mp hw).2))) (by decide +kernel) (vx_c (va_Nw.use rfl (hZ.2.2.1 ("java/lang/IndexOutOfBoundsException", "java/lang/IndexOutOfBoundsException") (by decide))) (vx_c (va_Nw.use rfl (hZ.2.2.2.1 ⟨"java/lang/RuntimeException", "<init>", "(Ljava/lang/String;)V"⟩ (by decide))) (vx_c (va_Nw.use rfl (hZ.2.2.2.1 ⟨"java/lang/Exception", "<init>", "(Ljava/lang/String;)V"⟩ (by decide))) (vx_c (va_Nw.use rfl (hZ.2.2.2.1 ⟨"java/lang/Throwable", "<init>", "(Ljava/lang/String;)V"⟩ (by decide))) (vx_n)))))) (by decide +kernel) hZ hS (hl.1.trans hml.symm) dX0_result_16 dX0_result_19 dX0_result_20 dX0_result_22 dX0_result_25 hEx (Nat.le_of_ble_eq_true rfl) (Nat.le_of_ble_eq_true rfl) (Nat.le_of_ble_eq_true rfl) (Nat.le_of_ble_eq_true rfl) hlocks hP hK hD hk9 hE9
