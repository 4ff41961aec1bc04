def wL (h0 m0 o : Nat) (q qm : Nat → Nat) (cI cZ cL : ClassId) (st ms : SqS) (g : Nat → Int64) : va_W := (wX h0 q cI cZ (st.1 0) (st.1 1) (st.1 2) (st.1 3) (st.1 4) (st.1 5) (st.1 6) (st.1 7) (st.1 8) (st.1 9) (st.1 10) (st.2 0) (st.2 1) (st.2 2) (st.2 3) (st.2 4) (st.2 5) (st.2 6) (st.2 7) (st.2 8)) ++ ((wM m0 qm cI cZ (ms.1 0) (ms.1 1) (ms.1 2) (ms.1 3) (ms.1 4) (ms.1 5) (ms.1 6) (ms.1 7) (ms.1 8) (ms.1 9) (ms.1 10) (ms.1 11) (ms.2 0) (ms.2 1) (ms.2 2) (ms.2 3) (ms.2 4) (ms.2 5) (ms.2 6) (ms.2 7) (ms.2 8) (ms.2 9) (ms.2 10)) ++ [(o, .inl (cL, 1, .inr (.inl g)))])
theorem sq_cmp0 (x : Int64) : lg_cmp x x = 0 := by
  unfold lg_cmp
  rw [if_neg Int64.lt_irrefl, if_pos rfl]
theorem sq_sld {p : Program} {l : Launch} {e : Env} {R : Room} {s : State} {m : MethodId} {args : Array Value} {below : List Frame} {meth : Method} {c : Code} {H : Heap} {locs : List Loc} {cells slots : Nat} {Q : State → Prop} {cc : ByteArray} {pc : Nat} {ls : Array Slot} {rest : List Value} {A : Nat → Prop} {H0 : Heap}
    (hx : p.tables.exec = Jvm.exec) (hb : c.code = cc) {b L : Nat} {xs : Nat → Int32} (hX : va_X b L xs s H0) (hbl : b < H0.size) (hbA : ¬ A b) (hS : va_S A H0 H locs) {i : Nat} (hi : i < L) (hL : L < 2 ^ 31) (hd : decode cc pc = .ok (.iaload, 1))
    (kk : W p l e R s m args below meth c H locs cells slots Q (F0 m (pc + 1) ls (.int (xs i) :: rest))) : W p l e R s m args below meth c H locs cells slots Q (F0 m pc ls (.int (nI i) :: .ref b :: rest)) :=
  va_sld hx hb hX hbl hbA hS (vp_in_nI hi hL) hd (by rw [nI_clamp (by omega)]; exact kk)
theorem sq_kB_le (x : Int32) : sq_kB x < 2 ^ 31 := by unfold sq_kB; split <;> omega
theorem sq_kW_le (st : SqS) : sq_kW st < 2 ^ 31 := by unfold sq_kW; split <;> omega
theorem sq_kV_le (st : SqS) : sq_kV st < 2 ^ 31 := by unfold sq_kV; split <;> omega
theorem sq_kC_le (st : SqS) (x : Int32) : sq_kC st x < 2 ^ 31 := by unfold sq_kC; split <;> omega
theorem sq_kL_le (st : SqS) (x y w : Int32) : sq_kL st x y w < 2 ^ 31 := by unfold sq_kL; split <;> (try split) <;> omega
theorem sq_kE_le (st : SqS) (x : Int32) : sq_kE st x < 2 ^ 31 := by unfold sq_kE; split <;> omega
theorem sq_kR_le (st : SqS) (x y : Int32) : sq_kR st x y < 2 ^ 31 := by unfold sq_kR; split <;> (try split) <;> omega
theorem sq_kA_le (x : Int32) : sq_kA x < 2 ^ 31 := by unfold sq_kA; split <;> omega
set_option maxHeartbeats 2000000 in
set_option maxRecDepth 100000 in
theorem law_0 {p : Program} {l : Launch} {e : Env} {s : State} {m : MethodId} {below : List Frame} {meth : Method} {c : Code} {dC : Nat → ClassId} {dI : Nat → Nat → Nat} {b L : Nat} {xs : Nat → Int32} (hl9 : l.stackTraces = false) (hL : L ≤ 4096) (C0 : lw_At p s m meth c b L xs) {S : Nat → Nat} (hZ : sq_Z sq_cC sq_cD RX0 sq_cS sq_cN S (fun q : Nat => s.heap.size ≤ q) s s.heap) {h0 m0 o : Nat} {q qm : Nat → Nat} {cI cZ cL : ClassId} (hK : va_K (dC, dI) vwCl [(cI, .int), (cZ, .boolean), (cL, .long)] s) (i cc1 ss1 : Nat) (hi : i + 8 ≤ L) (hcc : cc1 + 1 ≤ 1060) (hss : ss1 + 6 ≤ 15759) (hnext : ∀ (st ms : SqS) (g : Nat → Int64) (H : Heap) (locs : List Loc) (ls : Array Slot), sq_Inv st ms → va_P (dC, dI) vwCl (wL h0 m0 o q qm cI cZ cL st ms g) H → va_D (fun q : Nat => s.heap.size ≤ q) (wL h0 m0 o q qm cI cZ cL st ms g) → va_S (fun q : Nat => s.heap.size ≤ q) s.heap H locs → lv_has ls 7 [(4, .int (nI i)), (0, .ref b), (1, .ref h0), (2, .ref m0), (3, .ref o)] → W p l e room_1 s m #[Value.ref b] below meth c H locs (cc1 + 1) (ss1 + 6) (lw_Z below #[Value.ref b] s) (F0 m 706 ls [])) :
    ∀ (st ms : SqS) (g : Nat → Int64) (H : Heap) (locs : List Loc) (ls : Array Slot), sq_Inv st ms → va_P (dC, dI) vwCl (wL h0 m0 o q qm cI cZ cL st ms g) H → va_D (fun q : Nat => s.heap.size ≤ q) (wL h0 m0 o q qm cI cZ cL st ms g) → va_S (fun q : Nat => s.heap.size ≤ q) s.heap H locs → lv_has ls 7 [(4, .int (nI i)), (0, .ref b), (1, .ref h0), (2, .ref m0), (3, .ref o)] → W p l e room_1 s m #[Value.ref b] below meth c H locs cc1 ss1 (lw_Z below #[Value.ref b] s) (F0 m 88 ls []) := by
  obtain ⟨hx, hb, hr, hml, hown, hts, hX, hbl, hlocks, hgv⟩ := C0
  have hown : s.vm.findClass RL = some m.cls := hown
  have hA : ∀ q : Nat, s.heap.size ≤ q → (fun q : Nat => s.heap.size ≤ q) q := fun _ h => h
  have hbA : ¬ (fun q : Nat => s.heap.size ≤ q) b := Nat.not_le.mpr hbl
  have hK2 : va_K (dC, dI) vwCl [(cI, .int), (cZ, .boolean)] s := hK.sub [0, 1] rfl
  intro st ms g H locs ls hI hP hD hS hl
  have hq := sq_q_B hI (xs (i + 1))
  refine lv_aload_n hx hb dL_law_88 rfl (lv_at hl 2 rfl) ?_
  refine lv_aload_n hx hb dL_law_89 rfl (lv_at hl 1 rfl) ?_
  refine lv_iload hx hb dL_law_90 (lv_at hl 0 rfl) ?_
  refine lv_iconst (v := nI 1) hx hb dL_law_92 (by decide +kernel) ?_
  refine sq_iadd hx hb dL_law_93 ?_
  refine sq_sld hx hb hX hbl hbA hS (i := (i + 1)) (by omega) (by omega) dL_law_94 ?_
  refine sq_callW (As := [.ref h0, .int (xs (i + 1))]) (rest := []) (wr := ((wM m0 qm cI cZ (ms.1 0) (ms.1 1) (ms.1 2) (ms.1 3) (ms.1 4) (ms.1 5) (ms.1 6) (ms.1 7) (ms.1 8) (ms.1 9) (ms.1 10) (ms.1 11) (ms.2 0) (ms.2 1) (ms.2 2) (ms.2 3) (ms.2 4) (ms.2 5) (ms.2 6) (ms.2 7) (ms.2 8) (ms.2 9) (ms.2 10)) ++ [(o, .inl (cL, 1, .inr (.inl g)))])) (w_begin l hl9 S dC dI h0 q cI cZ st (xs (i + 1)) ) ⟨hx, hb, hml, hown, hts⟩ (vx_cwSW 2 hts (sq_goodL gsL_51) rfl rfl rfl (by decide +kernel) ⟨Nat.le_of_ble_eq_true rfl, Nat.le_of_ble_eq_true rfl⟩) hK2 hP hD hS hA hZ [0, 1, 2, 3, 4, 5, 6, 7, 8, 9, 10, 11] [12, 13, 14, 15, 16, 17, 18, 19, 20, 21, 22, 23, 24, 25] rfl rfl rfl (by decide) (by decide) (by decide) rfl hl.1 rfl (Nat.le_of_ble_eq_true rfl) dL_law_95 ⟨hcc, hss⟩ (fun H locs hP hD hS => ?_)
  have hP := hP.sub (ws' := (wL h0 m0 o q qm cI cZ cL (sq_nB st (xs (i + 1))) ms g)) [14, 15, 16, 17, 18, 19, 20, 21, 22, 23, 24, 25, 0, 1, 2, 3, 4, 5, 6, 7, 8, 9, 10, 11, 12, 13] rfl
  have hD := hD.sub (ws' := (wL h0 m0 o q qm cI cZ cL (sq_nB st (xs (i + 1))) ms g)) [14, 15, 16, 17, 18, 19, 20, 21, 22, 23, 24, 25, 0, 1, 2, 3, 4, 5, 6, 7, 8, 9, 10, 11, 12, 13] (by decide) rfl
  refine lv_istore (lv' := [(5, .int (nI (sq_kB (xs (i + 1))))), (4, .int (nI i)), (0, .ref b), (1, .ref h0), (2, .ref m0), (3, .ref o)]) hx hb dL_law_98 hl (by decide) rfl (fun ls hl => ?_)
  refine lv_aload_n hx hb dL_law_100 rfl (lv_at hl 4 rfl) ?_
  refine lv_aload_n hx hb dL_law_101 rfl (lv_at hl 2 rfl) ?_
  refine lv_iload hx hb dL_law_102 (lv_at hl 1 rfl) ?_
  refine lv_iconst (v := nI 1) hx hb dL_law_104 (by decide +kernel) ?_
  refine sq_iadd hx hb dL_law_105 ?_
  refine sq_sld hx hb hX hbl hbA hS (i := (i + 1)) (by omega) (by omega) dL_law_106 ?_
  refine sq_callvS (As := [.int (xs (i + 1))]) (rest := []) (wr := ((wX h0 q cI cZ ((sq_nB st (xs (i + 1))).1 0) ((sq_nB st (xs (i + 1))).1 1) ((sq_nB st (xs (i + 1))).1 2) ((sq_nB st (xs (i + 1))).1 3) ((sq_nB st (xs (i + 1))).1 4) ((sq_nB st (xs (i + 1))).1 5) ((sq_nB st (xs (i + 1))).1 6) ((sq_nB st (xs (i + 1))).1 7) ((sq_nB st (xs (i + 1))).1 8) ((sq_nB st (xs (i + 1))).1 9) ((sq_nB st (xs (i + 1))).1 10) ((sq_nB st (xs (i + 1))).2 0) ((sq_nB st (xs (i + 1))).2 1) ((sq_nB st (xs (i + 1))).2 2) ((sq_nB st (xs (i + 1))).2 3) ((sq_nB st (xs (i + 1))).2 4) ((sq_nB st (xs (i + 1))).2 5) ((sq_nB st (xs (i + 1))).2 6) ((sq_nB st (xs (i + 1))).2 7) ((sq_nB st (xs (i + 1))).2 8)) ++ [(o, .inl (cL, 1, .inr (.inl (g))))])) (k_begin l dC dI m0 qm cI cZ ms (xs (i + 1)) ) ⟨hx, hb, hml, hown, hts⟩ (cwV 1 hts (sq_goodL gvL_56) rfl rfl rfl (by decide +kernel) ⟨Nat.le_of_ble_eq_true rfl, Nat.le_of_ble_eq_true rfl⟩) hK2 hP hD hS hA [12, 13, 14, 15, 16, 17, 18, 19, 20, 21, 22, 23, 24] [0, 1, 2, 3, 4, 5, 6, 7, 8, 9, 10, 11, 25] rfl rfl rfl (by decide) (by decide) (by decide) rfl rfl rfl rfl hl.1 rfl (Nat.le_of_ble_eq_true rfl) dL_law_107 ⟨hcc, hss⟩ (fun H locs hP hD hS => ?_)
  have hP := hP.sub (ws' := (wL h0 m0 o q qm cI cZ cL (sq_nB st (xs (i + 1))) (sq_mB ms (xs (i + 1))) g)) [0, 1, 2, 3, 4, 5, 6, 7, 8, 9, 10, 11, 13, 14, 15, 16, 17, 18, 19, 20, 21, 22, 23, 24, 25, 12] rfl
  have hD := hD.sub (ws' := (wL h0 m0 o q qm cI cZ cL (sq_nB st (xs (i + 1))) (sq_mB ms (xs (i + 1))) g)) [0, 1, 2, 3, 4, 5, 6, 7, 8, 9, 10, 11, 13, 14, 15, 16, 17, 18, 19, 20, 21, 22, 23, 24, 25, 12] (by decide) rfl
  refine lv_aload_n hx hb dL_law_110 rfl (lv_at hl 4 rfl) ?_
  refine sq_calliS (As := []) (rest := []) (wr := ((wX h0 q cI cZ ((sq_nB st (xs (i + 1))).1 0) ((sq_nB st (xs (i + 1))).1 1) ((sq_nB st (xs (i + 1))).1 2) ((sq_nB st (xs (i + 1))).1 3) ((sq_nB st (xs (i + 1))).1 4) ((sq_nB st (xs (i + 1))).1 5) ((sq_nB st (xs (i + 1))).1 6) ((sq_nB st (xs (i + 1))).1 7) ((sq_nB st (xs (i + 1))).1 8) ((sq_nB st (xs (i + 1))).1 9) ((sq_nB st (xs (i + 1))).1 10) ((sq_nB st (xs (i + 1))).2 0) ((sq_nB st (xs (i + 1))).2 1) ((sq_nB st (xs (i + 1))).2 2) ((sq_nB st (xs (i + 1))).2 3) ((sq_nB st (xs (i + 1))).2 4) ((sq_nB st (xs (i + 1))).2 5) ((sq_nB st (xs (i + 1))).2 6) ((sq_nB st (xs (i + 1))).2 7) ((sq_nB st (xs (i + 1))).2 8)) ++ [(o, .inl (cL, 1, .inr (.inl (g))))])) (k_thrown l dC dI m0 qm cI cZ (sq_mB ms (xs (i + 1)))) ⟨hx, hb, hml, hown, hts⟩ (cwV 0 hts (sq_goodL gvL_57) rfl rfl rfl (by decide +kernel) ⟨Nat.le_of_ble_eq_true rfl, Nat.le_of_ble_eq_true rfl⟩) hK2 hP hD hS hA [12, 13, 14, 15, 16, 17, 18, 19, 20, 21, 22, 23, 24] [0, 1, 2, 3, 4, 5, 6, 7, 8, 9, 10, 11, 25] rfl rfl rfl (by decide) (by decide) (by decide) rfl rfl rfl rfl hl.1 rfl (Nat.le_of_ble_eq_true rfl) dL_law_111 ⟨hcc, hss⟩ (fun H locs hP hD hS => ?_)
  have hP := hP.sub (ws' := (wL h0 m0 o q qm cI cZ cL (sq_nB st (xs (i + 1))) (sq_mB ms (xs (i + 1))) g)) [0, 1, 2, 3, 4, 5, 6, 7, 8, 9, 10, 11, 13, 14, 15, 16, 17, 18, 19, 20, 21, 22, 23, 24, 25, 12] rfl
  have hD := hD.sub (ws' := (wL h0 m0 o q qm cI cZ cL (sq_nB st (xs (i + 1))) (sq_mB ms (xs (i + 1))) g)) [0, 1, 2, 3, 4, 5, 6, 7, 8, 9, 10, 11, 13, 14, 15, 16, 17, 18, 19, 20, 21, 22, 23, 24, 25, 12] (by decide) rfl
  have h0k : (sq_mB ms (xs (i + 1))).2 0 = sq_kB (xs (i + 1)) := hq.2.1
  have hI2 : sq_Inv (sq_nB st (xs (i + 1))) (sq_mB ms (xs (i + 1))) := hq.2.2
  refine lv_iload hx hb dL_law_114 (lv_at hl 0 rfl) ?_
  refine lv_icmp_eq (tgt := 121) hx hb dL_law_116 (by decide) (fun _ => ?_) (fun hn9 => absurd (by rw [h0k]) hn9)
  refine lv_goto (tgt := 706) hx hb dL_law_121 (by decide) ?_
  exact hnext _ _ _ H locs ls hI2 hP hD hS (lv_sub hl [1, 2, 3, 4, 5] rfl)
set_option maxHeartbeats 2000000 in
set_option maxRecDepth 100000 in
theorem law_1 {p : Program} {l : Launch} {e : Env} {s : State} {m : MethodId} {below : List Frame} {meth : Method} {c : Code} {dC : Nat → ClassId} {dI : Nat → Nat → Nat} {b L : Nat} {xs : Nat → Int32} (hl9 : l.stackTraces = false) (hL : L ≤ 4096) (C0 : lw_At p s m meth c b L xs) {S : Nat → Nat} (hZ : sq_Z sq_cC sq_cD RX0 sq_cS sq_cN S (fun q : Nat => s.heap.size ≤ q) s s.heap) {h0 m0 o : Nat} {q qm : Nat → Nat} {cI cZ cL : ClassId} (hK : va_K (dC, dI) vwCl [(cI, .int), (cZ, .boolean), (cL, .long)] s) (i cc1 ss1 : Nat) (hi : i + 8 ≤ L) (hcc : cc1 + 1 ≤ 1060) (hss : ss1 + 6 ≤ 15759) (hnext : ∀ (st ms : SqS) (g : Nat → Int64) (H : Heap) (locs : List Loc) (ls : Array Slot), sq_Inv st ms → va_P (dC, dI) vwCl (wL h0 m0 o q qm cI cZ cL st ms g) H → va_D (fun q : Nat => s.heap.size ≤ q) (wL h0 m0 o q qm cI cZ cL st ms g) → va_S (fun q : Nat => s.heap.size ≤ q) s.heap H locs → lv_has ls 7 [(4, .int (nI i)), (0, .ref b), (1, .ref h0), (2, .ref m0), (3, .ref o)] → W p l e room_1 s m #[Value.ref b] below meth c H locs (cc1 + 1) (ss1 + 6) (lw_Z below #[Value.ref b] s) (F0 m 706 ls [])) :
    ∀ (st ms : SqS) (g : Nat → Int64) (H : Heap) (locs : List Loc) (ls : Array Slot), sq_Inv st ms → va_P (dC, dI) vwCl (wL h0 m0 o q qm cI cZ cL st ms g) H → va_D (fun q : Nat => s.heap.size ≤ q) (wL h0 m0 o q qm cI cZ cL st ms g) → va_S (fun q : Nat => s.heap.size ≤ q) s.heap H locs → lv_has ls 7 [(4, .int (nI i)), (0, .ref b), (1, .ref h0), (2, .ref m0), (3, .ref o)] → W p l e room_1 s m #[Value.ref b] below meth c H locs cc1 ss1 (lw_Z below #[Value.ref b] s) (F0 m 124 ls []) := by
  obtain ⟨hx, hb, hr, hml, hown, hts, hX, hbl, hlocks, hgv⟩ := C0
  have hown : s.vm.findClass RL = some m.cls := hown
  have hA : ∀ q : Nat, s.heap.size ≤ q → (fun q : Nat => s.heap.size ≤ q) q := fun _ h => h
  have hbA : ¬ (fun q : Nat => s.heap.size ≤ q) b := Nat.not_le.mpr hbl
  have hK2 : va_K (dC, dI) vwCl [(cI, .int), (cZ, .boolean)] s := hK.sub [0, 1] rfl
  intro st ms g H locs ls hI hP hD hS hl
  have hq := sq_q_W hI (xs (i + 1)) (xs (i + 2)) (xs (i + 3)) (xs (i + 4)) (xs (i + 5)) (xs (i + 6))
  refine lv_aload_n hx hb dL_law_124 rfl (lv_at hl 2 rfl) ?_
  refine lv_aload_n hx hb dL_law_125 rfl (lv_at hl 1 rfl) ?_
  refine lv_iload hx hb dL_law_126 (lv_at hl 0 rfl) ?_
  refine lv_iconst (v := nI 1) hx hb dL_law_128 (by decide +kernel) ?_
  refine sq_iadd hx hb dL_law_129 ?_
  refine sq_sld hx hb hX hbl hbA hS (i := (i + 1)) (by omega) (by omega) dL_law_130 ?_
  refine lv_aload_n hx hb dL_law_131 rfl (lv_at hl 1 rfl) ?_
  refine lv_iload hx hb dL_law_132 (lv_at hl 0 rfl) ?_
  refine lv_iconst (v := nI 2) hx hb dL_law_134 (by decide +kernel) ?_
  refine sq_iadd hx hb dL_law_135 ?_
  refine sq_sld hx hb hX hbl hbA hS (i := (i + 2)) (by omega) (by omega) dL_law_136 ?_
  refine lv_aload_n hx hb dL_law_137 rfl (lv_at hl 1 rfl) ?_
  refine lv_iload hx hb dL_law_138 (lv_at hl 0 rfl) ?_
  refine lv_iconst (v := nI 3) hx hb dL_law_140 (by decide +kernel) ?_
  refine sq_iadd hx hb dL_law_141 ?_
  refine sq_sld hx hb hX hbl hbA hS (i := (i + 3)) (by omega) (by omega) dL_law_142 ?_
  refine lv_aload_n hx hb dL_law_143 rfl (lv_at hl 1 rfl) ?_
  refine lv_iload hx hb dL_law_144 (lv_at hl 0 rfl) ?_
  refine lv_iconst (v := nI 4) hx hb dL_law_146 (by decide +kernel) ?_
  refine sq_iadd hx hb dL_law_147 ?_
  refine sq_sld hx hb hX hbl hbA hS (i := (i + 4)) (by omega) (by omega) dL_law_148 ?_
  refine lv_aload_n hx hb dL_law_149 rfl (lv_at hl 1 rfl) ?_
  refine lv_iload hx hb dL_law_150 (lv_at hl 0 rfl) ?_
  refine lv_iconst (v := nI 5) hx hb dL_law_152 (by decide +kernel) ?_
  refine sq_iadd hx hb dL_law_153 ?_
  refine sq_sld hx hb hX hbl hbA hS (i := (i + 5)) (by omega) (by omega) dL_law_154 ?_
  refine lv_aload_n hx hb dL_law_155 rfl (lv_at hl 1 rfl) ?_
  refine lv_iload hx hb dL_law_156 (lv_at hl 0 rfl) ?_
  refine lv_bipush (v := nI 6) hx hb dL_law_158 (by decide +kernel) ?_
  refine sq_iadd hx hb dL_law_160 ?_
  refine sq_sld hx hb hX hbl hbA hS (i := (i + 6)) (by omega) (by omega) dL_law_161 ?_
  refine lv_aload_n hx hb dL_law_162 rfl (lv_at hl 4 rfl) ?_
  refine sq_callW (As := [.ref h0, .int (xs (i + 1)), .int (xs (i + 2)), .int (xs (i + 3)), .int (xs (i + 4)), .int (xs (i + 5)), .int (xs (i + 6)), .ref o]) (rest := []) (wr := (wM m0 qm cI cZ (ms.1 0) (ms.1 1) (ms.1 2) (ms.1 3) (ms.1 4) (ms.1 5) (ms.1 6) (ms.1 7) (ms.1 8) (ms.1 9) (ms.1 10) (ms.1 11) (ms.2 0) (ms.2 1) (ms.2 2) (ms.2 3) (ms.2 4) (ms.2 5) (ms.2 6) (ms.2 7) (ms.2 8) (ms.2 9) (ms.2 10))) (w_weights l hl9 S dC dI h0 q cI cZ o cL g st (xs (i + 1)) (xs (i + 2)) (xs (i + 3)) (xs (i + 4)) (xs (i + 5)) (xs (i + 6)) hI.1) ⟨hx, hb, hml, hown, hts⟩ (vx_cwSW 8 hts (sq_goodL gsL_61) rfl rfl rfl (by decide +kernel) ⟨Nat.le_of_ble_eq_true rfl, Nat.le_of_ble_eq_true rfl⟩) hK hP hD hS hA hZ [0, 1, 2, 3, 4, 5, 6, 7, 8, 9, 10, 11, 25] [12, 13, 14, 15, 16, 17, 18, 19, 20, 21, 22, 23, 24] rfl rfl rfl (by decide) (by decide) (by decide) rfl hl.1 rfl (Nat.le_of_ble_eq_true rfl) dL_law_163 ⟨hcc, hss⟩ (fun H locs hP hD hS => ?_)
  have hP := hP.sub (ws' := (wL h0 m0 o q qm cI cZ cL (sq_nW st (xs (i + 1)) (xs (i + 2)) (xs (i + 3)) (xs (i + 4)) (xs (i + 5)) (xs (i + 6))) ms (sq_o (sq_kW st) g (nI (st.2 2))))) [13, 14, 15, 16, 17, 18, 19, 20, 21, 22, 23, 24, 0, 1, 2, 3, 4, 5, 6, 7, 8, 9, 10, 11, 12, 25] rfl
  have hD := hD.sub (ws' := (wL h0 m0 o q qm cI cZ cL (sq_nW st (xs (i + 1)) (xs (i + 2)) (xs (i + 3)) (xs (i + 4)) (xs (i + 5)) (xs (i + 6))) ms (sq_o (sq_kW st) g (nI (st.2 2))))) [13, 14, 15, 16, 17, 18, 19, 20, 21, 22, 23, 24, 0, 1, 2, 3, 4, 5, 6, 7, 8, 9, 10, 11, 12, 25] (by decide) rfl
  refine lv_istore (lv' := [(5, .int (nI (sq_kW st))), (4, .int (nI i)), (0, .ref b), (1, .ref h0), (2, .ref m0), (3, .ref o)]) hx hb dL_law_166 hl (by decide) rfl (fun ls hl => ?_)
  refine lv_aload_n hx hb dL_law_168 rfl (lv_at hl 4 rfl) ?_
  refine lv_aload_n hx hb dL_law_169 rfl (lv_at hl 2 rfl) ?_
  refine lv_iload hx hb dL_law_170 (lv_at hl 1 rfl) ?_
  refine lv_iconst (v := nI 1) hx hb dL_law_172 (by decide +kernel) ?_
  refine sq_iadd hx hb dL_law_173 ?_
  refine sq_sld hx hb hX hbl hbA hS (i := (i + 1)) (by omega) (by omega) dL_law_174 ?_
  refine lv_aload_n hx hb dL_law_175 rfl (lv_at hl 2 rfl) ?_
  refine lv_iload hx hb dL_law_176 (lv_at hl 1 rfl) ?_
  refine lv_iconst (v := nI 2) hx hb dL_law_178 (by decide +kernel) ?_
  refine sq_iadd hx hb dL_law_179 ?_
  refine sq_sld hx hb hX hbl hbA hS (i := (i + 2)) (by omega) (by omega) dL_law_180 ?_
  refine lv_aload_n hx hb dL_law_181 rfl (lv_at hl 2 rfl) ?_
  refine lv_iload hx hb dL_law_182 (lv_at hl 1 rfl) ?_
  refine lv_iconst (v := nI 3) hx hb dL_law_184 (by decide +kernel) ?_
  refine sq_iadd hx hb dL_law_185 ?_
  refine sq_sld hx hb hX hbl hbA hS (i := (i + 3)) (by omega) (by omega) dL_law_186 ?_
  refine lv_aload_n hx hb dL_law_187 rfl (lv_at hl 2 rfl) ?_
  refine lv_iload hx hb dL_law_188 (lv_at hl 1 rfl) ?_
  refine lv_iconst (v := nI 4) hx hb dL_law_190 (by decide +kernel) ?_
  refine sq_iadd hx hb dL_law_191 ?_
  refine sq_sld hx hb hX hbl hbA hS (i := (i + 4)) (by omega) (by omega) dL_law_192 ?_
  refine lv_aload_n hx hb dL_law_193 rfl (lv_at hl 2 rfl) ?_
  refine lv_iload hx hb dL_law_194 (lv_at hl 1 rfl) ?_
  refine lv_iconst (v := nI 5) hx hb dL_law_196 (by decide +kernel) ?_
  refine sq_iadd hx hb dL_law_197 ?_
  refine sq_sld hx hb hX hbl hbA hS (i := (i + 5)) (by omega) (by omega) dL_law_198 ?_
  refine lv_aload_n hx hb dL_law_199 rfl (lv_at hl 2 rfl) ?_
  refine lv_iload hx hb dL_law_200 (lv_at hl 1 rfl) ?_
  refine lv_bipush (v := nI 6) hx hb dL_law_202 (by decide +kernel) ?_
  refine sq_iadd hx hb dL_law_204 ?_
  refine sq_sld hx hb hX hbl hbA hS (i := (i + 6)) (by omega) (by omega) dL_law_205 ?_
  refine sq_calliS (As := [.int (xs (i + 1)), .int (xs (i + 2)), .int (xs (i + 3)), .int (xs (i + 4)), .int (xs (i + 5)), .int (xs (i + 6))]) (rest := []) (wr := ((wX h0 q cI cZ ((sq_nW st (xs (i + 1)) (xs (i + 2)) (xs (i + 3)) (xs (i + 4)) (xs (i + 5)) (xs (i + 6))).1 0) ((sq_nW st (xs (i + 1)) (xs (i + 2)) (xs (i + 3)) (xs (i + 4)) (xs (i + 5)) (xs (i + 6))).1 1) ((sq_nW st (xs (i + 1)) (xs (i + 2)) (xs (i + 3)) (xs (i + 4)) (xs (i + 5)) (xs (i + 6))).1 2) ((sq_nW st (xs (i + 1)) (xs (i + 2)) (xs (i + 3)) (xs (i + 4)) (xs (i + 5)) (xs (i + 6))).1 3) ((sq_nW st (xs (i + 1)) (xs (i + 2)) (xs (i + 3)) (xs (i + 4)) (xs (i + 5)) (xs (i + 6))).1 4) ((sq_nW st (xs (i + 1)) (xs (i + 2)) (xs (i + 3)) (xs (i + 4)) (xs (i + 5)) (xs (i + 6))).1 5) ((sq_nW st (xs (i + 1)) (xs (i + 2)) (xs (i + 3)) (xs (i + 4)) (xs (i + 5)) (xs (i + 6))).1 6) ((sq_nW st (xs (i + 1)) (xs (i + 2)) (xs (i + 3)) (xs (i + 4)) (xs (i + 5)) (xs (i + 6))).1 7) ((sq_nW st (xs (i + 1)) (xs (i + 2)) (xs (i + 3)) (xs (i + 4)) (xs (i + 5)) (xs (i + 6))).1 8) ((sq_nW st (xs (i + 1)) (xs (i + 2)) (xs (i + 3)) (xs (i + 4)) (xs (i + 5)) (xs (i + 6))).1 9) ((sq_nW st (xs (i + 1)) (xs (i + 2)) (xs (i + 3)) (xs (i + 4)) (xs (i + 5)) (xs (i + 6))).1 10) ((sq_nW st (xs (i + 1)) (xs (i + 2)) (xs (i + 3)) (xs (i + 4)) (xs (i + 5)) (xs (i + 6))).2 0) ((sq_nW st (xs (i + 1)) (xs (i + 2)) (xs (i + 3)) (xs (i + 4)) (xs (i + 5)) (xs (i + 6))).2 1) ((sq_nW st (xs (i + 1)) (xs (i + 2)) (xs (i + 3)) (xs (i + 4)) (xs (i + 5)) (xs (i + 6))).2 2) ((sq_nW st (xs (i + 1)) (xs (i + 2)) (xs (i + 3)) (xs (i + 4)) (xs (i + 5)) (xs (i + 6))).2 3) ((sq_nW st (xs (i + 1)) (xs (i + 2)) (xs (i + 3)) (xs (i + 4)) (xs (i + 5)) (xs (i + 6))).2 4) ((sq_nW st (xs (i + 1)) (xs (i + 2)) (xs (i + 3)) (xs (i + 4)) (xs (i + 5)) (xs (i + 6))).2 5) ((sq_nW st (xs (i + 1)) (xs (i + 2)) (xs (i + 3)) (xs (i + 4)) (xs (i + 5)) (xs (i + 6))).2 6) ((sq_nW st (xs (i + 1)) (xs (i + 2)) (xs (i + 3)) (xs (i + 4)) (xs (i + 5)) (xs (i + 6))).2 7) ((sq_nW st (xs (i + 1)) (xs (i + 2)) (xs (i + 3)) (xs (i + 4)) (xs (i + 5)) (xs (i + 6))).2 8)) ++ [(o, .inl (cL, 1, .inr (.inl (sq_o (sq_kW st) g (nI (st.2 2))))))])) (k_weights l dC dI m0 qm cI cZ ms (xs (i + 1)) (xs (i + 2)) (xs (i + 3)) (xs (i + 4)) (xs (i + 5)) (xs (i + 6)) hI.2.1.2.2.1.1) ⟨hx, hb, hml, hown, hts⟩ (cwV 6 hts (sq_goodL gvL_64) rfl rfl rfl (by decide +kernel) ⟨Nat.le_of_ble_eq_true rfl, Nat.le_of_ble_eq_true rfl⟩) hK2 hP hD hS hA [12, 13, 14, 15, 16, 17, 18, 19, 20, 21, 22, 23, 24] [0, 1, 2, 3, 4, 5, 6, 7, 8, 9, 10, 11, 25] rfl rfl rfl (by decide) (by decide) (by decide) rfl rfl rfl rfl hl.1 rfl (Nat.le_of_ble_eq_true rfl) dL_law_206 ⟨hcc, hss⟩ (fun H locs hP hD hS => ?_)
  have hP := hP.sub (ws' := (wL h0 m0 o q qm cI cZ cL (sq_nW st (xs (i + 1)) (xs (i + 2)) (xs (i + 3)) (xs (i + 4)) (xs (i + 5)) (xs (i + 6))) (sq_mW ms (xs (i + 1)) (xs (i + 2)) (xs (i + 3)) (xs (i + 4)) (xs (i + 5)) (xs (i + 6))) (sq_o (sq_kW st) g (nI (st.2 2))))) [0, 1, 2, 3, 4, 5, 6, 7, 8, 9, 10, 11, 13, 14, 15, 16, 17, 18, 19, 20, 21, 22, 23, 24, 25, 12] rfl
  have hD := hD.sub (ws' := (wL h0 m0 o q qm cI cZ cL (sq_nW st (xs (i + 1)) (xs (i + 2)) (xs (i + 3)) (xs (i + 4)) (xs (i + 5)) (xs (i + 6))) (sq_mW ms (xs (i + 1)) (xs (i + 2)) (xs (i + 3)) (xs (i + 4)) (xs (i + 5)) (xs (i + 6))) (sq_o (sq_kW st) g (nI (st.2 2))))) [0, 1, 2, 3, 4, 5, 6, 7, 8, 9, 10, 11, 13, 14, 15, 16, 17, 18, 19, 20, 21, 22, 23, 24, 25, 12] (by decide) rfl
  refine lv_istore (lv' := [(6, .int (sq_mrW ms)), (5, .int (nI (sq_kW st))), (4, .int (nI i)), (0, .ref b), (1, .ref h0), (2, .ref m0), (3, .ref o)]) hx hb dL_law_209 hl (by decide) rfl (fun ls hl => ?_)
  refine lv_aload_n hx hb dL_law_211 rfl (lv_at hl 5 rfl) ?_
  refine sq_calliS (As := []) (rest := []) (wr := ((wX h0 q cI cZ ((sq_nW st (xs (i + 1)) (xs (i + 2)) (xs (i + 3)) (xs (i + 4)) (xs (i + 5)) (xs (i + 6))).1 0) ((sq_nW st (xs (i + 1)) (xs (i + 2)) (xs (i + 3)) (xs (i + 4)) (xs (i + 5)) (xs (i + 6))).1 1) ((sq_nW st (xs (i + 1)) (xs (i + 2)) (xs (i + 3)) (xs (i + 4)) (xs (i + 5)) (xs (i + 6))).1 2) ((sq_nW st (xs (i + 1)) (xs (i + 2)) (xs (i + 3)) (xs (i + 4)) (xs (i + 5)) (xs (i + 6))).1 3) ((sq_nW st (xs (i + 1)) (xs (i + 2)) (xs (i + 3)) (xs (i + 4)) (xs (i + 5)) (xs (i + 6))).1 4) ((sq_nW st (xs (i + 1)) (xs (i + 2)) (xs (i + 3)) (xs (i + 4)) (xs (i + 5)) (xs (i + 6))).1 5) ((sq_nW st (xs (i + 1)) (xs (i + 2)) (xs (i + 3)) (xs (i + 4)) (xs (i + 5)) (xs (i + 6))).1 6) ((sq_nW st (xs (i + 1)) (xs (i + 2)) (xs (i + 3)) (xs (i + 4)) (xs (i + 5)) (xs (i + 6))).1 7) ((sq_nW st (xs (i + 1)) (xs (i + 2)) (xs (i + 3)) (xs (i + 4)) (xs (i + 5)) (xs (i + 6))).1 8) ((sq_nW st (xs (i + 1)) (xs (i + 2)) (xs (i + 3)) (xs (i + 4)) (xs (i + 5)) (xs (i + 6))).1 9) ((sq_nW st (xs (i + 1)) (xs (i + 2)) (xs (i + 3)) (xs (i + 4)) (xs (i + 5)) (xs (i + 6))).1 10) ((sq_nW st (xs (i + 1)) (xs (i + 2)) (xs (i + 3)) (xs (i + 4)) (xs (i + 5)) (xs (i + 6))).2 0) ((sq_nW st (xs (i + 1)) (xs (i + 2)) (xs (i + 3)) (xs (i + 4)) (xs (i + 5)) (xs (i + 6))).2 1) ((sq_nW st (xs (i + 1)) (xs (i + 2)) (xs (i + 3)) (xs (i + 4)) (xs (i + 5)) (xs (i + 6))).2 2) ((sq_nW st (xs (i + 1)) (xs (i + 2)) (xs (i + 3)) (xs (i + 4)) (xs (i + 5)) (xs (i + 6))).2 3) ((sq_nW st (xs (i + 1)) (xs (i + 2)) (xs (i + 3)) (xs (i + 4)) (xs (i + 5)) (xs (i + 6))).2 4) ((sq_nW st (xs (i + 1)) (xs (i + 2)) (xs (i + 3)) (xs (i + 4)) (xs (i + 5)) (xs (i + 6))).2 5) ((sq_nW st (xs (i + 1)) (xs (i + 2)) (xs (i + 3)) (xs (i + 4)) (xs (i + 5)) (xs (i + 6))).2 6) ((sq_nW st (xs (i + 1)) (xs (i + 2)) (xs (i + 3)) (xs (i + 4)) (xs (i + 5)) (xs (i + 6))).2 7) ((sq_nW st (xs (i + 1)) (xs (i + 2)) (xs (i + 3)) (xs (i + 4)) (xs (i + 5)) (xs (i + 6))).2 8)) ++ [(o, .inl (cL, 1, .inr (.inl (sq_o (sq_kW st) g (nI (st.2 2))))))])) (k_thrown l dC dI m0 qm cI cZ (sq_mW ms (xs (i + 1)) (xs (i + 2)) (xs (i + 3)) (xs (i + 4)) (xs (i + 5)) (xs (i + 6)))) ⟨hx, hb, hml, hown, hts⟩ (cwV 0 hts (sq_goodL gvL_57) rfl rfl rfl (by decide +kernel) ⟨Nat.le_of_ble_eq_true rfl, Nat.le_of_ble_eq_true rfl⟩) hK2 hP hD hS hA [12, 13, 14, 15, 16, 17, 18, 19, 20, 21, 22, 23, 24] [0, 1, 2, 3, 4, 5, 6, 7, 8, 9, 10, 11, 25] rfl rfl rfl (by decide) (by decide) (by decide) rfl rfl rfl rfl hl.1 rfl (Nat.le_of_ble_eq_true rfl) dL_law_212 ⟨hcc, hss⟩ (fun H locs hP hD hS => ?_)
  have hP := hP.sub (ws' := (wL h0 m0 o q qm cI cZ cL (sq_nW st (xs (i + 1)) (xs (i + 2)) (xs (i + 3)) (xs (i + 4)) (xs (i + 5)) (xs (i + 6))) (sq_mW ms (xs (i + 1)) (xs (i + 2)) (xs (i + 3)) (xs (i + 4)) (xs (i + 5)) (xs (i + 6))) (sq_o (sq_kW st) g (nI (st.2 2))))) [0, 1, 2, 3, 4, 5, 6, 7, 8, 9, 10, 11, 13, 14, 15, 16, 17, 18, 19, 20, 21, 22, 23, 24, 25, 12] rfl
  have hD := hD.sub (ws' := (wL h0 m0 o q qm cI cZ cL (sq_nW st (xs (i + 1)) (xs (i + 2)) (xs (i + 3)) (xs (i + 4)) (xs (i + 5)) (xs (i + 6))) (sq_mW ms (xs (i + 1)) (xs (i + 2)) (xs (i + 3)) (xs (i + 4)) (xs (i + 5)) (xs (i + 6))) (sq_o (sq_kW st) g (nI (st.2 2))))) [0, 1, 2, 3, 4, 5, 6, 7, 8, 9, 10, 11, 13, 14, 15, 16, 17, 18, 19, 20, 21, 22, 23, 24, 25, 12] (by decide) rfl
  have h0k : (sq_mW ms (xs (i + 1)) (xs (i + 2)) (xs (i + 3)) (xs (i + 4)) (xs (i + 5)) (xs (i + 6))).2 0 = sq_kW st := hq.1
  have hrr : sq_kW st = 0 → sq_mrW ms = nI (st.2 2) := hq.2.1
  have hI2 : sq_Inv (sq_nW st (xs (i + 1)) (xs (i + 2)) (xs (i + 3)) (xs (i + 4)) (xs (i + 5)) (xs (i + 6))) (sq_mW ms (xs (i + 1)) (xs (i + 2)) (xs (i + 3)) (xs (i + 4)) (xs (i + 5)) (xs (i + 6))) := hq.2.2
  refine lv_iload hx hb dL_law_215 (lv_at hl 1 rfl) ?_
  refine lv_icmp_eq (tgt := 222) hx hb dL_law_217 (by decide) (fun _ => ?_) (fun hn9 => absurd (by rw [h0k]) hn9)
  refine lv_iload hx hb dL_law_222 (lv_at hl 1 rfl) ?_
  refine lv_if_ne (tgt := 239) hx hb dL_law_224 (by decide) (fun _ => ?_) (fun hz9 => ?_)
  · refine lv_goto (tgt := 706) hx hb dL_law_239 (by decide) ?_
    exact hnext _ _ _ H locs ls hI2 hP hD hS (lv_sub hl [2, 3, 4, 5, 6] rfl)
  · have hk0 : sq_kW st = 0 := (sq_nI_eq0 (sq_kW_le st)).mp hz9
    refine lv_aload_n hx hb dL_law_227 rfl (lv_at hl 6 rfl) ?_
    refine lv_iconst (v := nI 0) hx hb dL_law_228 (by decide +kernel) ?_
    refine va_lald hx hb hK hP 25 2 rfl rfl (vp_in_nI (by decide) (by decide)) dL_law_229 ?_
    refine lv_iload hx hb dL_law_230 (lv_at hl 0 rfl) ?_
    refine lv_i2l (v := (sq_mrW ms).toInt64) hx hb dL_law_232 rfl ?_
    refine W.lcmp hx hb dL_law_233 ?_
    have hg0 : (sq_o (sq_kW st) g (nI (st.2 2))) (nI 0).toNatClampNeg = (sq_mrW ms).toInt64 := by rw [hrr hk0]; unfold sq_o; rw [if_pos hk0]; exact pk_uLs
    refine lv_if_eq (tgt := 239) hx hb dL_law_234 (by decide) (fun _ => ?_) (fun hn9 => absurd (by rw [hg0]; exact sq_cmp0 _) hn9)
    refine lv_goto (tgt := 706) hx hb dL_law_239 (by decide) ?_
    exact hnext _ _ _ H locs ls hI2 hP hD hS (lv_sub hl [2, 3, 4, 5, 6] rfl)
set_option maxHeartbeats 2000000 in
set_option maxRecDepth 100000 in
theorem law_2t {p : Program} {l : Launch} {e : Env} {s : State} {m : MethodId} {below : List Frame} {meth : Method} {c : Code} {dC : Nat → ClassId} {dI : Nat → Nat → Nat} {b L : Nat} {xs : Nat → Int32} (hl9 : l.stackTraces = false) (hL : L ≤ 4096) (C0 : lw_At p s m meth c b L xs) {S : Nat → Nat} (hZ : sq_Z sq_cC sq_cD RX0 sq_cS sq_cN S (fun q : Nat => s.heap.size ≤ q) s s.heap) {h0 m0 o : Nat} {q qm : Nat → Nat} {cI cZ cL : ClassId} (hK : va_K (dC, dI) vwCl [(cI, .int), (cZ, .boolean), (cL, .long)] s) (i cc1 ss1 : Nat) (hi : i + 8 ≤ L) (hcc : cc1 + 1 ≤ 1060) (hss : ss1 + 6 ≤ 15759) (hc : ¬ xs (i + 1) = 0) (hnext : ∀ (st ms : SqS) (g : Nat → Int64) (H : Heap) (locs : List Loc) (ls : Array Slot), sq_Inv st ms → va_P (dC, dI) vwCl (wL h0 m0 o q qm cI cZ cL st ms g) H → va_D (fun q : Nat => s.heap.size ≤ q) (wL h0 m0 o q qm cI cZ cL st ms g) → va_S (fun q : Nat => s.heap.size ≤ q) s.heap H locs → lv_has ls 7 [(4, .int (nI i)), (0, .ref b), (1, .ref h0), (2, .ref m0), (3, .ref o)] → W p l e room_1 s m #[Value.ref b] below meth c H locs (cc1 + 1) (ss1 + 6) (lw_Z below #[Value.ref b] s) (F0 m 706 ls [])) :
    ∀ (st ms : SqS) (g : Nat → Int64) (H : Heap) (locs : List Loc) (ls : Array Slot), sq_Inv st ms → va_P (dC, dI) vwCl (wL h0 m0 o q qm cI cZ cL st ms g) H → va_D (fun q : Nat => s.heap.size ≤ q) (wL h0 m0 o q qm cI cZ cL st ms g) → va_S (fun q : Nat => s.heap.size ≤ q) s.heap H locs → lv_has ls 7 [(4, .int (nI i)), (0, .ref b), (1, .ref h0), (2, .ref m0), (3, .ref o)] → W p l e room_1 s m #[Value.ref b] below meth c H locs cc1 ss1 (lw_Z below #[Value.ref b] s) (F0 m 242 ls []) := by
  obtain ⟨hx, hb, hr, hml, hown, hts, hX, hbl, hlocks, hgv⟩ := C0
  have hown : s.vm.findClass RL = some m.cls := hown
  have hA : ∀ q : Nat, s.heap.size ≤ q → (fun q : Nat => s.heap.size ≤ q) q := fun _ h => h
  have hbA : ¬ (fun q : Nat => s.heap.size ≤ q) b := Nat.not_le.mpr hbl
  have hK2 : va_K (dC, dI) vwCl [(cI, .int), (cZ, .boolean)] s := hK.sub [0, 1] rfl
  have hb01 : (nI 1) = 0 ∨ (nI 1) = 1 := by decide
  have hz1 : vp_nar .boolean (nI 1) = (nI 1) := by decide
  intro st ms g H locs ls hI hP hD hS hl
  have hq := sq_q_V hI (nI 1) (xs (i + 2)) (xs (i + 3)) (xs (i + 4)) (xs (i + 5)) (xs (i + 6)) (xs (i + 7)) hb01
  refine lv_aload_n hx hb dL_law_242 rfl (lv_at hl 2 rfl) ?_
  refine lv_aload_n hx hb dL_law_243 rfl (lv_at hl 1 rfl) ?_
  refine lv_iload hx hb dL_law_244 (lv_at hl 0 rfl) ?_
  refine lv_iconst (v := nI 1) hx hb dL_law_246 (by decide +kernel) ?_
  refine sq_iadd hx hb dL_law_247 ?_
  refine sq_sld hx hb hX hbl hbA hS (i := (i + 1)) (by omega) (by omega) dL_law_248 ?_
  refine lv_if_eq (tgt := 256) hx hb dL_law_249 (by decide) (fun hq9 => absurd hq9 hc) (fun _ => ?_)
  refine lv_iconst (v := nI 1) hx hb dL_law_252 (by decide +kernel) ?_
  refine lv_goto (tgt := 257) hx hb dL_law_253 (by decide) ?_
  refine lv_aload_n hx hb dL_law_257 rfl (lv_at hl 1 rfl) ?_
  refine lv_iload hx hb dL_law_258 (lv_at hl 0 rfl) ?_
  refine lv_iconst (v := nI 2) hx hb dL_law_260 (by decide +kernel) ?_
  refine sq_iadd hx hb dL_law_261 ?_
  refine sq_sld hx hb hX hbl hbA hS (i := (i + 2)) (by omega) (by omega) dL_law_262 ?_
  refine lv_aload_n hx hb dL_law_263 rfl (lv_at hl 1 rfl) ?_
  refine lv_iload hx hb dL_law_264 (lv_at hl 0 rfl) ?_
  refine lv_iconst (v := nI 3) hx hb dL_law_266 (by decide +kernel) ?_
  refine sq_iadd hx hb dL_law_267 ?_
  refine sq_sld hx hb hX hbl hbA hS (i := (i + 3)) (by omega) (by omega) dL_law_268 ?_
  refine lv_aload_n hx hb dL_law_269 rfl (lv_at hl 1 rfl) ?_
  refine lv_iload hx hb dL_law_270 (lv_at hl 0 rfl) ?_
  refine lv_iconst (v := nI 4) hx hb dL_law_272 (by decide +kernel) ?_
  refine sq_iadd hx hb dL_law_273 ?_
  refine sq_sld hx hb hX hbl hbA hS (i := (i + 4)) (by omega) (by omega) dL_law_274 ?_
  refine lv_aload_n hx hb dL_law_275 rfl (lv_at hl 1 rfl) ?_
  refine lv_iload hx hb dL_law_276 (lv_at hl 0 rfl) ?_
  refine lv_iconst (v := nI 5) hx hb dL_law_278 (by decide +kernel) ?_
  refine sq_iadd hx hb dL_law_279 ?_
  refine sq_sld hx hb hX hbl hbA hS (i := (i + 5)) (by omega) (by omega) dL_law_280 ?_
  refine lv_aload_n hx hb dL_law_281 rfl (lv_at hl 1 rfl) ?_
  refine lv_iload hx hb dL_law_282 (lv_at hl 0 rfl) ?_
  refine lv_bipush (v := nI 6) hx hb dL_law_284 (by decide +kernel) ?_
  refine sq_iadd hx hb dL_law_286 ?_
  refine sq_sld hx hb hX hbl hbA hS (i := (i + 6)) (by omega) (by omega) dL_law_287 ?_
  refine lv_aload_n hx hb dL_law_288 rfl (lv_at hl 1 rfl) ?_
  refine lv_iload hx hb dL_law_289 (lv_at hl 0 rfl) ?_
  refine lv_bipush (v := nI 7) hx hb dL_law_291 (by decide +kernel) ?_
  refine sq_iadd hx hb dL_law_293 ?_
  refine sq_sld hx hb hX hbl hbA hS (i := (i + 7)) (by omega) (by omega) dL_law_294 ?_
  refine lv_aload_n hx hb dL_law_295 rfl (lv_at hl 4 rfl) ?_
  refine sq_callW (As := [.ref h0, .int (nI 1), .int (xs (i + 2)), .int (xs (i + 3)), .int (xs (i + 4)), .int (xs (i + 5)), .int (xs (i + 6)), .int (xs (i + 7)), .ref o]) (rest := []) (wr := (wM m0 qm cI cZ (ms.1 0) (ms.1 1) (ms.1 2) (ms.1 3) (ms.1 4) (ms.1 5) (ms.1 6) (ms.1 7) (ms.1 8) (ms.1 9) (ms.1 10) (ms.1 11) (ms.2 0) (ms.2 1) (ms.2 2) (ms.2 3) (ms.2 4) (ms.2 5) (ms.2 6) (ms.2 7) (ms.2 8) (ms.2 9) (ms.2 10))) (w_vector l hl9 S dC dI h0 q cI cZ o cL g st (nI 1) (xs (i + 2)) (xs (i + 3)) (xs (i + 4)) (xs (i + 5)) (xs (i + 6)) (xs (i + 7)) hI.1 hz1) ⟨hx, hb, hml, hown, hts⟩ (vx_cwSW 9 hts (sq_goodL gsL_65) rfl rfl rfl (by decide +kernel) ⟨Nat.le_of_ble_eq_true rfl, Nat.le_of_ble_eq_true rfl⟩) hK hP hD hS hA hZ [0, 1, 2, 3, 4, 5, 6, 7, 8, 9, 10, 11, 25] [12, 13, 14, 15, 16, 17, 18, 19, 20, 21, 22, 23, 24] rfl rfl rfl (by decide) (by decide) (by decide) rfl hl.1 rfl (Nat.le_of_ble_eq_true rfl) dL_law_296 ⟨hcc, hss⟩ (fun H locs hP hD hS => ?_)
  have hP := hP.sub (ws' := (wL h0 m0 o q qm cI cZ cL (sq_nV st (nI 1) (xs (i + 2)) (xs (i + 3)) (xs (i + 4)) (xs (i + 5)) (xs (i + 6)) (xs (i + 7))) ms (sq_o (sq_kV st) g (nI (st.2 5))))) [13, 14, 15, 16, 17, 18, 19, 20, 21, 22, 23, 24, 0, 1, 2, 3, 4, 5, 6, 7, 8, 9, 10, 11, 12, 25] rfl
  have hD := hD.sub (ws' := (wL h0 m0 o q qm cI cZ cL (sq_nV st (nI 1) (xs (i + 2)) (xs (i + 3)) (xs (i + 4)) (xs (i + 5)) (xs (i + 6)) (xs (i + 7))) ms (sq_o (sq_kV st) g (nI (st.2 5))))) [13, 14, 15, 16, 17, 18, 19, 20, 21, 22, 23, 24, 0, 1, 2, 3, 4, 5, 6, 7, 8, 9, 10, 11, 12, 25] (by decide) rfl
  refine lv_istore (lv' := [(5, .int (nI (sq_kV st))), (4, .int (nI i)), (0, .ref b), (1, .ref h0), (2, .ref m0), (3, .ref o)]) hx hb dL_law_299 hl (by decide) rfl (fun ls hl => ?_)
  refine lv_aload_n hx hb dL_law_301 rfl (lv_at hl 4 rfl) ?_
  refine lv_aload_n hx hb dL_law_302 rfl (lv_at hl 2 rfl) ?_
  refine lv_iload hx hb dL_law_303 (lv_at hl 1 rfl) ?_
  refine lv_iconst (v := nI 1) hx hb dL_law_305 (by decide +kernel) ?_
  refine sq_iadd hx hb dL_law_306 ?_
  refine sq_sld hx hb hX hbl hbA hS (i := (i + 1)) (by omega) (by omega) dL_law_307 ?_
  refine lv_if_eq (tgt := 315) hx hb dL_law_308 (by decide) (fun hq9 => absurd hq9 hc) (fun _ => ?_)
  refine lv_iconst (v := nI 1) hx hb dL_law_311 (by decide +kernel) ?_
  refine lv_goto (tgt := 316) hx hb dL_law_312 (by decide) ?_
  refine lv_aload_n hx hb dL_law_316 rfl (lv_at hl 2 rfl) ?_
  refine lv_iload hx hb dL_law_317 (lv_at hl 1 rfl) ?_
  refine lv_iconst (v := nI 2) hx hb dL_law_319 (by decide +kernel) ?_
  refine sq_iadd hx hb dL_law_320 ?_
  refine sq_sld hx hb hX hbl hbA hS (i := (i + 2)) (by omega) (by omega) dL_law_321 ?_
  refine lv_aload_n hx hb dL_law_322 rfl (lv_at hl 2 rfl) ?_
  refine lv_iload hx hb dL_law_323 (lv_at hl 1 rfl) ?_
  refine lv_iconst (v := nI 3) hx hb dL_law_325 (by decide +kernel) ?_
  refine sq_iadd hx hb dL_law_326 ?_
  refine sq_sld hx hb hX hbl hbA hS (i := (i + 3)) (by omega) (by omega) dL_law_327 ?_
  refine lv_aload_n hx hb dL_law_328 rfl (lv_at hl 2 rfl) ?_
  refine lv_iload hx hb dL_law_329 (lv_at hl 1 rfl) ?_
  refine lv_iconst (v := nI 4) hx hb dL_law_331 (by decide +kernel) ?_
  refine sq_iadd hx hb dL_law_332 ?_
  refine sq_sld hx hb hX hbl hbA hS (i := (i + 4)) (by omega) (by omega) dL_law_333 ?_
  refine lv_aload_n hx hb dL_law_334 rfl (lv_at hl 2 rfl) ?_
  refine lv_iload hx hb dL_law_335 (lv_at hl 1 rfl) ?_
  refine lv_iconst (v := nI 5) hx hb dL_law_337 (by decide +kernel) ?_
  refine sq_iadd hx hb dL_law_338 ?_
  refine sq_sld hx hb hX hbl hbA hS (i := (i + 5)) (by omega) (by omega) dL_law_339 ?_
  refine lv_aload_n hx hb dL_law_340 rfl (lv_at hl 2 rfl) ?_
  refine lv_iload hx hb dL_law_341 (lv_at hl 1 rfl) ?_
  refine lv_bipush (v := nI 6) hx hb dL_law_343 (by decide +kernel) ?_
  refine sq_iadd hx hb dL_law_345 ?_
  refine sq_sld hx hb hX hbl hbA hS (i := (i + 6)) (by omega) (by omega) dL_law_346 ?_
  refine lv_aload_n hx hb dL_law_347 rfl (lv_at hl 2 rfl) ?_
  refine lv_iload hx hb dL_law_348 (lv_at hl 1 rfl) ?_
  refine lv_bipush (v := nI 7) hx hb dL_law_350 (by decide +kernel) ?_
  refine sq_iadd hx hb dL_law_352 ?_
  refine sq_sld hx hb hX hbl hbA hS (i := (i + 7)) (by omega) (by omega) dL_law_353 ?_
  refine sq_calliS (As := [.int (nI 1), .int (xs (i + 2)), .int (xs (i + 3)), .int (xs (i + 4)), .int (xs (i + 5)), .int (xs (i + 6)), .int (xs (i + 7))]) (rest := []) (wr := ((wX h0 q cI cZ ((sq_nV st (nI 1) (xs (i + 2)) (xs (i + 3)) (xs (i + 4)) (xs (i + 5)) (xs (i + 6)) (xs (i + 7))).1 0) ((sq_nV st (nI 1) (xs (i + 2)) (xs (i + 3)) (xs (i + 4)) (xs (i + 5)) (xs (i + 6)) (xs (i + 7))).1 1) ((sq_nV st (nI 1) (xs (i + 2)) (xs (i + 3)) (xs (i + 4)) (xs (i + 5)) (xs (i + 6)) (xs (i + 7))).1 2) ((sq_nV st (nI 1) (xs (i + 2)) (xs (i + 3)) (xs (i + 4)) (xs (i + 5)) (xs (i + 6)) (xs (i + 7))).1 3) ((sq_nV st (nI 1) (xs (i + 2)) (xs (i + 3)) (xs (i + 4)) (xs (i + 5)) (xs (i + 6)) (xs (i + 7))).1 4) ((sq_nV st (nI 1) (xs (i + 2)) (xs (i + 3)) (xs (i + 4)) (xs (i + 5)) (xs (i + 6)) (xs (i + 7))).1 5) ((sq_nV st (nI 1) (xs (i + 2)) (xs (i + 3)) (xs (i + 4)) (xs (i + 5)) (xs (i + 6)) (xs (i + 7))).1 6) ((sq_nV st (nI 1) (xs (i + 2)) (xs (i + 3)) (xs (i + 4)) (xs (i + 5)) (xs (i + 6)) (xs (i + 7))).1 7) ((sq_nV st (nI 1) (xs (i + 2)) (xs (i + 3)) (xs (i + 4)) (xs (i + 5)) (xs (i + 6)) (xs (i + 7))).1 8) ((sq_nV st (nI 1) (xs (i + 2)) (xs (i + 3)) (xs (i + 4)) (xs (i + 5)) (xs (i + 6)) (xs (i + 7))).1 9) ((sq_nV st (nI 1) (xs (i + 2)) (xs (i + 3)) (xs (i + 4)) (xs (i + 5)) (xs (i + 6)) (xs (i + 7))).1 10) ((sq_nV st (nI 1) (xs (i + 2)) (xs (i + 3)) (xs (i + 4)) (xs (i + 5)) (xs (i + 6)) (xs (i + 7))).2 0) ((sq_nV st (nI 1) (xs (i + 2)) (xs (i + 3)) (xs (i + 4)) (xs (i + 5)) (xs (i + 6)) (xs (i + 7))).2 1) ((sq_nV st (nI 1) (xs (i + 2)) (xs (i + 3)) (xs (i + 4)) (xs (i + 5)) (xs (i + 6)) (xs (i + 7))).2 2) ((sq_nV st (nI 1) (xs (i + 2)) (xs (i + 3)) (xs (i + 4)) (xs (i + 5)) (xs (i + 6)) (xs (i + 7))).2 3) ((sq_nV st (nI 1) (xs (i + 2)) (xs (i + 3)) (xs (i + 4)) (xs (i + 5)) (xs (i + 6)) (xs (i + 7))).2 4) ((sq_nV st (nI 1) (xs (i + 2)) (xs (i + 3)) (xs (i + 4)) (xs (i + 5)) (xs (i + 6)) (xs (i + 7))).2 5) ((sq_nV st (nI 1) (xs (i + 2)) (xs (i + 3)) (xs (i + 4)) (xs (i + 5)) (xs (i + 6)) (xs (i + 7))).2 6) ((sq_nV st (nI 1) (xs (i + 2)) (xs (i + 3)) (xs (i + 4)) (xs (i + 5)) (xs (i + 6)) (xs (i + 7))).2 7) ((sq_nV st (nI 1) (xs (i + 2)) (xs (i + 3)) (xs (i + 4)) (xs (i + 5)) (xs (i + 6)) (xs (i + 7))).2 8)) ++ [(o, .inl (cL, 1, .inr (.inl (sq_o (sq_kV st) g (nI (st.2 5))))))])) (k_vector l dC dI m0 qm cI cZ ms (nI 1) (xs (i + 2)) (xs (i + 3)) (xs (i + 4)) (xs (i + 5)) (xs (i + 6)) (xs (i + 7)) hI.2.1.2.2.2.2.1.1 hz1) ⟨hx, hb, hml, hown, hts⟩ (cwV 7 hts (sq_goodL gvL_68) rfl rfl rfl (by decide +kernel) ⟨Nat.le_of_ble_eq_true rfl, Nat.le_of_ble_eq_true rfl⟩) hK2 hP hD hS hA [12, 13, 14, 15, 16, 17, 18, 19, 20, 21, 22, 23, 24] [0, 1, 2, 3, 4, 5, 6, 7, 8, 9, 10, 11, 25] rfl rfl rfl (by decide) (by decide) (by decide) rfl rfl rfl rfl hl.1 rfl (Nat.le_of_ble_eq_true rfl) dL_law_354 ⟨hcc, hss⟩ (fun H locs hP hD hS => ?_)
  have hP := hP.sub (ws' := (wL h0 m0 o q qm cI cZ cL (sq_nV st (nI 1) (xs (i + 2)) (xs (i + 3)) (xs (i + 4)) (xs (i + 5)) (xs (i + 6)) (xs (i + 7))) (sq_mV ms (nI 1) (xs (i + 2)) (xs (i + 3)) (xs (i + 4)) (xs (i + 5)) (xs (i + 6)) (xs (i + 7))) (sq_o (sq_kV st) g (nI (st.2 5))))) [0, 1, 2, 3, 4, 5, 6, 7, 8, 9, 10, 11, 13, 14, 15, 16, 17, 18, 19, 20, 21, 22, 23, 24, 25, 12] rfl
  have hD := hD.sub (ws' := (wL h0 m0 o q qm cI cZ cL (sq_nV st (nI 1) (xs (i + 2)) (xs (i + 3)) (xs (i + 4)) (xs (i + 5)) (xs (i + 6)) (xs (i + 7))) (sq_mV ms (nI 1) (xs (i + 2)) (xs (i + 3)) (xs (i + 4)) (xs (i + 5)) (xs (i + 6)) (xs (i + 7))) (sq_o (sq_kV st) g (nI (st.2 5))))) [0, 1, 2, 3, 4, 5, 6, 7, 8, 9, 10, 11, 13, 14, 15, 16, 17, 18, 19, 20, 21, 22, 23, 24, 25, 12] (by decide) rfl
  refine lv_istore (lv' := [(6, .int (sq_mrV ms)), (5, .int (nI (sq_kV st))), (4, .int (nI i)), (0, .ref b), (1, .ref h0), (2, .ref m0), (3, .ref o)]) hx hb dL_law_357 hl (by decide) rfl (fun ls hl => ?_)
  refine lv_aload_n hx hb dL_law_359 rfl (lv_at hl 5 rfl) ?_
  refine sq_calliS (As := []) (rest := []) (wr := ((wX h0 q cI cZ ((sq_nV st (nI 1) (xs (i + 2)) (xs (i + 3)) (xs (i + 4)) (xs (i + 5)) (xs (i + 6)) (xs (i + 7))).1 0) ((sq_nV st (nI 1) (xs (i + 2)) (xs (i + 3)) (xs (i + 4)) (xs (i + 5)) (xs (i + 6)) (xs (i + 7))).1 1) ((sq_nV st (nI 1) (xs (i + 2)) (xs (i + 3)) (xs (i + 4)) (xs (i + 5)) (xs (i + 6)) (xs (i + 7))).1 2) ((sq_nV st (nI 1) (xs (i + 2)) (xs (i + 3)) (xs (i + 4)) (xs (i + 5)) (xs (i + 6)) (xs (i + 7))).1 3) ((sq_nV st (nI 1) (xs (i + 2)) (xs (i + 3)) (xs (i + 4)) (xs (i + 5)) (xs (i + 6)) (xs (i + 7))).1 4) ((sq_nV st (nI 1) (xs (i + 2)) (xs (i + 3)) (xs (i + 4)) (xs (i + 5)) (xs (i + 6)) (xs (i + 7))).1 5) ((sq_nV st (nI 1) (xs (i + 2)) (xs (i + 3)) (xs (i + 4)) (xs (i + 5)) (xs (i + 6)) (xs (i + 7))).1 6) ((sq_nV st (nI 1) (xs (i + 2)) (xs (i + 3)) (xs (i + 4)) (xs (i + 5)) (xs (i + 6)) (xs (i + 7))).1 7) ((sq_nV st (nI 1) (xs (i + 2)) (xs (i + 3)) (xs (i + 4)) (xs (i + 5)) (xs (i + 6)) (xs (i + 7))).1 8) ((sq_nV st (nI 1) (xs (i + 2)) (xs (i + 3)) (xs (i + 4)) (xs (i + 5)) (xs (i + 6)) (xs (i + 7))).1 9) ((sq_nV st (nI 1) (xs (i + 2)) (xs (i + 3)) (xs (i + 4)) (xs (i + 5)) (xs (i + 6)) (xs (i + 7))).1 10) ((sq_nV st (nI 1) (xs (i + 2)) (xs (i + 3)) (xs (i + 4)) (xs (i + 5)) (xs (i + 6)) (xs (i + 7))).2 0) ((sq_nV st (nI 1) (xs (i + 2)) (xs (i + 3)) (xs (i + 4)) (xs (i + 5)) (xs (i + 6)) (xs (i + 7))).2 1) ((sq_nV st (nI 1) (xs (i + 2)) (xs (i + 3)) (xs (i + 4)) (xs (i + 5)) (xs (i + 6)) (xs (i + 7))).2 2) ((sq_nV st (nI 1) (xs (i + 2)) (xs (i + 3)) (xs (i + 4)) (xs (i + 5)) (xs (i + 6)) (xs (i + 7))).2 3) ((sq_nV st (nI 1) (xs (i + 2)) (xs (i + 3)) (xs (i + 4)) (xs (i + 5)) (xs (i + 6)) (xs (i + 7))).2 4) ((sq_nV st (nI 1) (xs (i + 2)) (xs (i + 3)) (xs (i + 4)) (xs (i + 5)) (xs (i + 6)) (xs (i + 7))).2 5) ((sq_nV st (nI 1) (xs (i + 2)) (xs (i + 3)) (xs (i + 4)) (xs (i + 5)) (xs (i + 6)) (xs (i + 7))).2 6) ((sq_nV st (nI 1) (xs (i + 2)) (xs (i + 3)) (xs (i + 4)) (xs (i + 5)) (xs (i + 6)) (xs (i + 7))).2 7) ((sq_nV st (nI 1) (xs (i + 2)) (xs (i + 3)) (xs (i + 4)) (xs (i + 5)) (xs (i + 6)) (xs (i + 7))).2 8)) ++ [(o, .inl (cL, 1, .inr (.inl (sq_o (sq_kV st) g (nI (st.2 5))))))])) (k_thrown l dC dI m0 qm cI cZ (sq_mV ms (nI 1) (xs (i + 2)) (xs (i + 3)) (xs (i + 4)) (xs (i + 5)) (xs (i + 6)) (xs (i + 7)))) ⟨hx, hb, hml, hown, hts⟩ (cwV 0 hts (sq_goodL gvL_57) rfl rfl rfl (by decide +kernel) ⟨Nat.le_of_ble_eq_true rfl, Nat.le_of_ble_eq_true rfl⟩) hK2 hP hD hS hA [12, 13, 14, 15, 16, 17, 18, 19, 20, 21, 22, 23, 24] [0, 1, 2, 3, 4, 5, 6, 7, 8, 9, 10, 11, 25] rfl rfl rfl (by decide) (by decide) (by decide) rfl rfl rfl rfl hl.1 rfl (Nat.le_of_ble_eq_true rfl) dL_law_360 ⟨hcc, hss⟩ (fun H locs hP hD hS => ?_)
  have hP := hP.sub (ws' := (wL h0 m0 o q qm cI cZ cL (sq_nV st (nI 1) (xs (i + 2)) (xs (i + 3)) (xs (i + 4)) (xs (i + 5)) (xs (i + 6)) (xs (i + 7))) (sq_mV ms (nI 1) (xs (i + 2)) (xs (i + 3)) (xs (i + 4)) (xs (i + 5)) (xs (i + 6)) (xs (i + 7))) (sq_o (sq_kV st) g (nI (st.2 5))))) [0, 1, 2, 3, 4, 5, 6, 7, 8, 9, 10, 11, 13, 14, 15, 16, 17, 18, 19, 20, 21, 22, 23, 24, 25, 12] rfl
  have hD := hD.sub (ws' := (wL h0 m0 o q qm cI cZ cL (sq_nV st (nI 1) (xs (i + 2)) (xs (i + 3)) (xs (i + 4)) (xs (i + 5)) (xs (i + 6)) (xs (i + 7))) (sq_mV ms (nI 1) (xs (i + 2)) (xs (i + 3)) (xs (i + 4)) (xs (i + 5)) (xs (i + 6)) (xs (i + 7))) (sq_o (sq_kV st) g (nI (st.2 5))))) [0, 1, 2, 3, 4, 5, 6, 7, 8, 9, 10, 11, 13, 14, 15, 16, 17, 18, 19, 20, 21, 22, 23, 24, 25, 12] (by decide) rfl
  have h0k : (sq_mV ms (nI 1) (xs (i + 2)) (xs (i + 3)) (xs (i + 4)) (xs (i + 5)) (xs (i + 6)) (xs (i + 7))).2 0 = sq_kV st := hq.1
  have hrr : sq_kV st = 0 → sq_mrV ms = nI (st.2 5) := hq.2.1
  have hI2 : sq_Inv (sq_nV st (nI 1) (xs (i + 2)) (xs (i + 3)) (xs (i + 4)) (xs (i + 5)) (xs (i + 6)) (xs (i + 7))) (sq_mV ms (nI 1) (xs (i + 2)) (xs (i + 3)) (xs (i + 4)) (xs (i + 5)) (xs (i + 6)) (xs (i + 7))) := hq.2.2
  refine lv_iload hx hb dL_law_363 (lv_at hl 1 rfl) ?_
  refine lv_icmp_eq (tgt := 370) hx hb dL_law_365 (by decide) (fun _ => ?_) (fun hn9 => absurd (by rw [h0k]) hn9)
  refine lv_iload hx hb dL_law_370 (lv_at hl 1 rfl) ?_
  refine lv_if_ne (tgt := 387) hx hb dL_law_372 (by decide) (fun _ => ?_) (fun hz9 => ?_)
  · refine lv_goto (tgt := 706) hx hb dL_law_387 (by decide) ?_
    exact hnext _ _ _ H locs ls hI2 hP hD hS (lv_sub hl [2, 3, 4, 5, 6] rfl)
  · have hk0 : sq_kV st = 0 := (sq_nI_eq0 (sq_kV_le st)).mp hz9
    refine lv_aload_n hx hb dL_law_375 rfl (lv_at hl 6 rfl) ?_
    refine lv_iconst (v := nI 0) hx hb dL_law_376 (by decide +kernel) ?_
    refine va_lald hx hb hK hP 25 2 rfl rfl (vp_in_nI (by decide) (by decide)) dL_law_377 ?_
    refine lv_iload hx hb dL_law_378 (lv_at hl 0 rfl) ?_
    refine lv_i2l (v := (sq_mrV ms).toInt64) hx hb dL_law_380 rfl ?_
    refine W.lcmp hx hb dL_law_381 ?_
    have hg0 : (sq_o (sq_kV st) g (nI (st.2 5))) (nI 0).toNatClampNeg = (sq_mrV ms).toInt64 := by rw [hrr hk0]; unfold sq_o; rw [if_pos hk0]; exact pk_uLs
    refine lv_if_eq (tgt := 387) hx hb dL_law_382 (by decide) (fun _ => ?_) (fun hn9 => absurd (by rw [hg0]; exact sq_cmp0 _) hn9)
    refine lv_goto (tgt := 706) hx hb dL_law_387 (by decide) ?_
    exact hnext _ _ _ H locs ls hI2 hP hD hS (lv_sub hl [2, 3, 4, 5, 6] rfl)
set_option maxHeartbeats 2000000 in
set_option maxRecDepth 100000 in
theorem law_2f {p : Program} {l : Launch} {e : Env} {s : State} {m : MethodId} {below : List Frame} {meth : Method} {c : Code} {dC : Nat → ClassId} {dI : Nat → Nat → Nat} {b L : Nat} {xs : Nat → Int32} (hl9 : l.stackTraces = false) (hL : L ≤ 4096) (C0 : lw_At p s m meth c b L xs) {S : Nat → Nat} (hZ : sq_Z sq_cC sq_cD RX0 sq_cS sq_cN S (fun q : Nat => s.heap.size ≤ q) s s.heap) {h0 m0 o : Nat} {q qm : Nat → Nat} {cI cZ cL : ClassId} (hK : va_K (dC, dI) vwCl [(cI, .int), (cZ, .boolean), (cL, .long)] s) (i cc1 ss1 : Nat) (hi : i + 8 ≤ L) (hcc : cc1 + 1 ≤ 1060) (hss : ss1 + 6 ≤ 15759) (hc : xs (i + 1) = 0) (hnext : ∀ (st ms : SqS) (g : Nat → Int64) (H : Heap) (locs : List Loc) (ls : Array Slot), sq_Inv st ms → va_P (dC, dI) vwCl (wL h0 m0 o q qm cI cZ cL st ms g) H → va_D (fun q : Nat => s.heap.size ≤ q) (wL h0 m0 o q qm cI cZ cL st ms g) → va_S (fun q : Nat => s.heap.size ≤ q) s.heap H locs → lv_has ls 7 [(4, .int (nI i)), (0, .ref b), (1, .ref h0), (2, .ref m0), (3, .ref o)] → W p l e room_1 s m #[Value.ref b] below meth c H locs (cc1 + 1) (ss1 + 6) (lw_Z below #[Value.ref b] s) (F0 m 706 ls [])) :
    ∀ (st ms : SqS) (g : Nat → Int64) (H : Heap) (locs : List Loc) (ls : Array Slot), sq_Inv st ms → va_P (dC, dI) vwCl (wL h0 m0 o q qm cI cZ cL st ms g) H → va_D (fun q : Nat => s.heap.size ≤ q) (wL h0 m0 o q qm cI cZ cL st ms g) → va_S (fun q : Nat => s.heap.size ≤ q) s.heap H locs → lv_has ls 7 [(4, .int (nI i)), (0, .ref b), (1, .ref h0), (2, .ref m0), (3, .ref o)] → W p l e room_1 s m #[Value.ref b] below meth c H locs cc1 ss1 (lw_Z below #[Value.ref b] s) (F0 m 242 ls []) := by
  obtain ⟨hx, hb, hr, hml, hown, hts, hX, hbl, hlocks, hgv⟩ := C0
  have hown : s.vm.findClass RL = some m.cls := hown
  have hA : ∀ q : Nat, s.heap.size ≤ q → (fun q : Nat => s.heap.size ≤ q) q := fun _ h => h
  have hbA : ¬ (fun q : Nat => s.heap.size ≤ q) b := Nat.not_le.mpr hbl
  have hK2 : va_K (dC, dI) vwCl [(cI, .int), (cZ, .boolean)] s := hK.sub [0, 1] rfl
  have hb01 : (nI 0) = 0 ∨ (nI 0) = 1 := by decide
  have hz1 : vp_nar .boolean (nI 0) = (nI 0) := by decide
  intro st ms g H locs ls hI hP hD hS hl
  have hq := sq_q_V hI (nI 0) (xs (i + 2)) (xs (i + 3)) (xs (i + 4)) (xs (i + 5)) (xs (i + 6)) (xs (i + 7)) hb01
  refine lv_aload_n hx hb dL_law_242 rfl (lv_at hl 2 rfl) ?_
  refine lv_aload_n hx hb dL_law_243 rfl (lv_at hl 1 rfl) ?_
  refine lv_iload hx hb dL_law_244 (lv_at hl 0 rfl) ?_
  refine lv_iconst (v := nI 1) hx hb dL_law_246 (by decide +kernel) ?_
  refine sq_iadd hx hb dL_law_247 ?_
  refine sq_sld hx hb hX hbl hbA hS (i := (i + 1)) (by omega) (by omega) dL_law_248 ?_
  refine lv_if_eq (tgt := 256) hx hb dL_law_249 (by decide) (fun _ => ?_) (fun hq9 => absurd hc hq9)
  refine lv_iconst (v := nI 0) hx hb dL_law_256 (by decide +kernel) ?_
  refine lv_aload_n hx hb dL_law_257 rfl (lv_at hl 1 rfl) ?_
  refine lv_iload hx hb dL_law_258 (lv_at hl 0 rfl) ?_
  refine lv_iconst (v := nI 2) hx hb dL_law_260 (by decide +kernel) ?_
  refine sq_iadd hx hb dL_law_261 ?_
  refine sq_sld hx hb hX hbl hbA hS (i := (i + 2)) (by omega) (by omega) dL_law_262 ?_
  refine lv_aload_n hx hb dL_law_263 rfl (lv_at hl 1 rfl) ?_
  refine lv_iload hx hb dL_law_264 (lv_at hl 0 rfl) ?_
  refine lv_iconst (v := nI 3) hx hb dL_law_266 (by decide +kernel) ?_
  refine sq_iadd hx hb dL_law_267 ?_
  refine sq_sld hx hb hX hbl hbA hS (i := (i + 3)) (by omega) (by omega) dL_law_268 ?_
  refine lv_aload_n hx hb dL_law_269 rfl (lv_at hl 1 rfl) ?_
  refine lv_iload hx hb dL_law_270 (lv_at hl 0 rfl) ?_
  refine lv_iconst (v := nI 4) hx hb dL_law_272 (by decide +kernel) ?_
  refine sq_iadd hx hb dL_law_273 ?_
  refine sq_sld hx hb hX hbl hbA hS (i := (i + 4)) (by omega) (by omega) dL_law_274 ?_
  refine lv_aload_n hx hb dL_law_275 rfl (lv_at hl 1 rfl) ?_
  refine lv_iload hx hb dL_law_276 (lv_at hl 0 rfl) ?_
  refine lv_iconst (v := nI 5) hx hb dL_law_278 (by decide +kernel) ?_
  refine sq_iadd hx hb dL_law_279 ?_
  refine sq_sld hx hb hX hbl hbA hS (i := (i + 5)) (by omega) (by omega) dL_law_280 ?_
  refine lv_aload_n hx hb dL_law_281 rfl (lv_at hl 1 rfl) ?_
  refine lv_iload hx hb dL_law_282 (lv_at hl 0 rfl) ?_
  refine lv_bipush (v := nI 6) hx hb dL_law_284 (by decide +kernel) ?_
  refine sq_iadd hx hb dL_law_286 ?_
  refine sq_sld hx hb hX hbl hbA hS (i := (i + 6)) (by omega) (by omega) dL_law_287 ?_
  refine lv_aload_n hx hb dL_law_288 rfl (lv_at hl 1 rfl) ?_
  refine lv_iload hx hb dL_law_289 (lv_at hl 0 rfl) ?_
  refine lv_bipush (v := nI 7) hx hb dL_law_291 (by decide +kernel) ?_
  refine sq_iadd hx hb dL_law_293 ?_
  refine sq_sld hx hb hX hbl hbA hS (i := (i + 7)) (by omega) (by omega) dL_law_294 ?_
  refine lv_aload_n hx hb dL_law_295 rfl (lv_at hl 4 rfl) ?_
  refine sq_callW (As := [.ref h0, .int (nI 0), .int (xs (i + 2)), .int (xs (i + 3)), .int (xs (i + 4)), .int (xs (i + 5)), .int (xs (i + 6)), .int (xs (i + 7)), .ref o]) (rest := []) (wr := (wM m0 qm cI cZ (ms.1 0) (ms.1 1) (ms.1 2) (ms.1 3) (ms.1 4) (ms.1 5) (ms.1 6) (ms.1 7) (ms.1 8) (ms.1 9) (ms.1 10) (ms.1 11) (ms.2 0) (ms.2 1) (ms.2 2) (ms.2 3) (ms.2 4) (ms.2 5) (ms.2 6) (ms.2 7) (ms.2 8) (ms.2 9) (ms.2 10))) (w_vector l hl9 S dC dI h0 q cI cZ o cL g st (nI 0) (xs (i + 2)) (xs (i + 3)) (xs (i + 4)) (xs (i + 5)) (xs (i + 6)) (xs (i + 7)) hI.1 hz1) ⟨hx, hb, hml, hown, hts⟩ (vx_cwSW 9 hts (sq_goodL gsL_65) rfl rfl rfl (by decide +kernel) ⟨Nat.le_of_ble_eq_true rfl, Nat.le_of_ble_eq_true rfl⟩) hK hP hD hS hA hZ [0, 1, 2, 3, 4, 5, 6, 7, 8, 9, 10, 11, 25] [12, 13, 14, 15, 16, 17, 18, 19, 20, 21, 22, 23, 24] rfl rfl rfl (by decide) (by decide) (by decide) rfl hl.1 rfl (Nat.le_of_ble_eq_true rfl) dL_law_296 ⟨hcc, hss⟩ (fun H locs hP hD hS => ?_)
  have hP := hP.sub (ws' := (wL h0 m0 o q qm cI cZ cL (sq_nV st (nI 0) (xs (i + 2)) (xs (i + 3)) (xs (i + 4)) (xs (i + 5)) (xs (i + 6)) (xs (i + 7))) ms (sq_o (sq_kV st) g (nI (st.2 5))))) [13, 14, 15, 16, 17, 18, 19, 20, 21, 22, 23, 24, 0, 1, 2, 3, 4, 5, 6, 7, 8, 9, 10, 11, 12, 25] rfl
  have hD := hD.sub (ws' := (wL h0 m0 o q qm cI cZ cL (sq_nV st (nI 0) (xs (i + 2)) (xs (i + 3)) (xs (i + 4)) (xs (i + 5)) (xs (i + 6)) (xs (i + 7))) ms (sq_o (sq_kV st) g (nI (st.2 5))))) [13, 14, 15, 16, 17, 18, 19, 20, 21, 22, 23, 24, 0, 1, 2, 3, 4, 5, 6, 7, 8, 9, 10, 11, 12, 25] (by decide) rfl
  refine lv_istore (lv' := [(5, .int (nI (sq_kV st))), (4, .int (nI i)), (0, .ref b), (1, .ref h0), (2, .ref m0), (3, .ref o)]) hx hb dL_law_299 hl (by decide) rfl (fun ls hl => ?_)
  refine lv_aload_n hx hb dL_law_301 rfl (lv_at hl 4 rfl) ?_
  refine lv_aload_n hx hb dL_law_302 rfl (lv_at hl 2 rfl) ?_
  refine lv_iload hx hb dL_law_303 (lv_at hl 1 rfl) ?_
  refine lv_iconst (v := nI 1) hx hb dL_law_305 (by decide +kernel) ?_
  refine sq_iadd hx hb dL_law_306 ?_
  refine sq_sld hx hb hX hbl hbA hS (i := (i + 1)) (by omega) (by omega) dL_law_307 ?_
  refine lv_if_eq (tgt := 315) hx hb dL_law_308 (by decide) (fun _ => ?_) (fun hq9 => absurd hc hq9)
  refine lv_iconst (v := nI 0) hx hb dL_law_315 (by decide +kernel) ?_
  refine lv_aload_n hx hb dL_law_316 rfl (lv_at hl 2 rfl) ?_
  refine lv_iload hx hb dL_law_317 (lv_at hl 1 rfl) ?_
  refine lv_iconst (v := nI 2) hx hb dL_law_319 (by decide +kernel) ?_
  refine sq_iadd hx hb dL_law_320 ?_
  refine sq_sld hx hb hX hbl hbA hS (i := (i + 2)) (by omega) (by omega) dL_law_321 ?_
  refine lv_aload_n hx hb dL_law_322 rfl (lv_at hl 2 rfl) ?_
  refine lv_iload hx hb dL_law_323 (lv_at hl 1 rfl) ?_
  refine lv_iconst (v := nI 3) hx hb dL_law_325 (by decide +kernel) ?_
  refine sq_iadd hx hb dL_law_326 ?_
  refine sq_sld hx hb hX hbl hbA hS (i := (i + 3)) (by omega) (by omega) dL_law_327 ?_
  refine lv_aload_n hx hb dL_law_328 rfl (lv_at hl 2 rfl) ?_
  refine lv_iload hx hb dL_law_329 (lv_at hl 1 rfl) ?_
  refine lv_iconst (v := nI 4) hx hb dL_law_331 (by decide +kernel) ?_
  refine sq_iadd hx hb dL_law_332 ?_
  refine sq_sld hx hb hX hbl hbA hS (i := (i + 4)) (by omega) (by omega) dL_law_333 ?_
  refine lv_aload_n hx hb dL_law_334 rfl (lv_at hl 2 rfl) ?_
  refine lv_iload hx hb dL_law_335 (lv_at hl 1 rfl) ?_
  refine lv_iconst (v := nI 5) hx hb dL_law_337 (by decide +kernel) ?_
  refine sq_iadd hx hb dL_law_338 ?_
  refine sq_sld hx hb hX hbl hbA hS (i := (i + 5)) (by omega) (by omega) dL_law_339 ?_
  refine lv_aload_n hx hb dL_law_340 rfl (lv_at hl 2 rfl) ?_
  refine lv_iload hx hb dL_law_341 (lv_at hl 1 rfl) ?_
  refine lv_bipush (v := nI 6) hx hb dL_law_343 (by decide +kernel) ?_
  refine sq_iadd hx hb dL_law_345 ?_
  refine sq_sld hx hb hX hbl hbA hS (i := (i + 6)) (by omega) (by omega) dL_law_346 ?_
  refine lv_aload_n hx hb dL_law_347 rfl (lv_at hl 2 rfl) ?_
  refine lv_iload hx hb dL_law_348 (lv_at hl 1 rfl) ?_
  refine lv_bipush (v := nI 7) hx hb dL_law_350 (by decide +kernel) ?_
  refine sq_iadd hx hb dL_law_352 ?_
  refine sq_sld hx hb hX hbl hbA hS (i := (i + 7)) (by omega) (by omega) dL_law_353 ?_
  refine sq_calliS (As := [.int (nI 0), .int (xs (i + 2)), .int (xs (i + 3)), .int (xs (i + 4)), .int (xs (i + 5)), .int (xs (i + 6)), .int (xs (i + 7))]) (rest := []) (wr := ((wX h0 q cI cZ ((sq_nV st (nI 0) (xs (i + 2)) (xs (i + 3)) (xs (i + 4)) (xs (i + 5)) (xs (i + 6)) (xs (i + 7))).1 0) ((sq_nV st (nI 0) (xs (i + 2)) (xs (i + 3)) (xs (i + 4)) (xs (i + 5)) (xs (i + 6)) (xs (i + 7))).1 1) ((sq_nV st (nI 0) (xs (i + 2)) (xs (i + 3)) (xs (i + 4)) (xs (i + 5)) (xs (i + 6)) (xs (i + 7))).1 2) ((sq_nV st (nI 0) (xs (i + 2)) (xs (i + 3)) (xs (i + 4)) (xs (i + 5)) (xs (i + 6)) (xs (i + 7))).1 3) ((sq_nV st (nI 0) (xs (i + 2)) (xs (i + 3)) (xs (i + 4)) (xs (i + 5)) (xs (i + 6)) (xs (i + 7))).1 4) ((sq_nV st (nI 0) (xs (i + 2)) (xs (i + 3)) (xs (i + 4)) (xs (i + 5)) (xs (i + 6)) (xs (i + 7))).1 5) ((sq_nV st (nI 0) (xs (i + 2)) (xs (i + 3)) (xs (i + 4)) (xs (i + 5)) (xs (i + 6)) (xs (i + 7))).1 6) ((sq_nV st (nI 0) (xs (i + 2)) (xs (i + 3)) (xs (i + 4)) (xs (i + 5)) (xs (i + 6)) (xs (i + 7))).1 7) ((sq_nV st (nI 0) (xs (i + 2)) (xs (i + 3)) (xs (i + 4)) (xs (i + 5)) (xs (i + 6)) (xs (i + 7))).1 8) ((sq_nV st (nI 0) (xs (i + 2)) (xs (i + 3)) (xs (i + 4)) (xs (i + 5)) (xs (i + 6)) (xs (i + 7))).1 9) ((sq_nV st (nI 0) (xs (i + 2)) (xs (i + 3)) (xs (i + 4)) (xs (i + 5)) (xs (i + 6)) (xs (i + 7))).1 10) ((sq_nV st (nI 0) (xs (i + 2)) (xs (i + 3)) (xs (i + 4)) (xs (i + 5)) (xs (i + 6)) (xs (i + 7))).2 0) ((sq_nV st (nI 0) (xs (i + 2)) (xs (i + 3)) (xs (i + 4)) (xs (i + 5)) (xs (i + 6)) (xs (i + 7))).2 1) ((sq_nV st (nI 0) (xs (i + 2)) (xs (i + 3)) (xs (i + 4)) (xs (i + 5)) (xs (i + 6)) (xs (i + 7))).2 2) ((sq_nV st (nI 0) (xs (i + 2)) (xs (i + 3)) (xs (i + 4)) (xs (i + 5)) (xs (i + 6)) (xs (i + 7))).2 3) ((sq_nV st (nI 0) (xs (i + 2)) (xs (i + 3)) (xs (i + 4)) (xs (i + 5)) (xs (i + 6)) (xs (i + 7))).2 4) ((sq_nV st (nI 0) (xs (i + 2)) (xs (i + 3)) (xs (i + 4)) (xs (i + 5)) (xs (i + 6)) (xs (i + 7))).2 5) ((sq_nV st (nI 0) (xs (i + 2)) (xs (i + 3)) (xs (i + 4)) (xs (i + 5)) (xs (i + 6)) (xs (i + 7))).2 6) ((sq_nV st (nI 0) (xs (i + 2)) (xs (i + 3)) (xs (i + 4)) (xs (i + 5)) (xs (i + 6)) (xs (i + 7))).2 7) ((sq_nV st (nI 0) (xs (i + 2)) (xs (i + 3)) (xs (i + 4)) (xs (i + 5)) (xs (i + 6)) (xs (i + 7))).2 8)) ++ [(o, .inl (cL, 1, .inr (.inl (sq_o (sq_kV st) g (nI (st.2 5))))))])) (k_vector l dC dI m0 qm cI cZ ms (nI 0) (xs (i + 2)) (xs (i + 3)) (xs (i + 4)) (xs (i + 5)) (xs (i + 6)) (xs (i + 7)) hI.2.1.2.2.2.2.1.1 hz1) ⟨hx, hb, hml, hown, hts⟩ (cwV 7 hts (sq_goodL gvL_68) rfl rfl rfl (by decide +kernel) ⟨Nat.le_of_ble_eq_true rfl, Nat.le_of_ble_eq_true rfl⟩) hK2 hP hD hS hA [12, 13, 14, 15, 16, 17, 18, 19, 20, 21, 22, 23, 24] [0, 1, 2, 3, 4, 5, 6, 7, 8, 9, 10, 11, 25] rfl rfl rfl (by decide) (by decide) (by decide) rfl rfl rfl rfl hl.1 rfl (Nat.le_of_ble_eq_true rfl) dL_law_354 ⟨hcc, hss⟩ (fun H locs hP hD hS => ?_)
  have hP := hP.sub (ws' := (wL h0 m0 o q qm cI cZ cL (sq_nV st (nI 0) (xs (i + 2)) (xs (i + 3)) (xs (i + 4)) (xs (i + 5)) (xs (i + 6)) (xs (i + 7))) (sq_mV ms (nI 0) (xs (i + 2)) (xs (i + 3)) (xs (i + 4)) (xs (i + 5)) (xs (i + 6)) (xs (i + 7))) (sq_o (sq_kV st) g (nI (st.2 5))))) [0, 1, 2, 3, 4, 5, 6, 7, 8, 9, 10, 11, 13, 14, 15, 16, 17, 18, 19, 20, 21, 22, 23, 24, 25, 12] rfl
  have hD := hD.sub (ws' := (wL h0 m0 o q qm cI cZ cL (sq_nV st (nI 0) (xs (i + 2)) (xs (i + 3)) (xs (i + 4)) (xs (i + 5)) (xs (i + 6)) (xs (i + 7))) (sq_mV ms (nI 0) (xs (i + 2)) (xs (i + 3)) (xs (i + 4)) (xs (i + 5)) (xs (i + 6)) (xs (i + 7))) (sq_o (sq_kV st) g (nI (st.2 5))))) [0, 1, 2, 3, 4, 5, 6, 7, 8, 9, 10, 11, 13, 14, 15, 16, 17, 18, 19, 20, 21, 22, 23, 24, 25, 12] (by decide) rfl
  refine lv_istore (lv' := [(6, .int (sq_mrV ms)), (5, .int (nI (sq_kV st))), (4, .int (nI i)), (0, .ref b), (1, .ref h0), (2, .ref m0), (3, .ref o)]) hx hb dL_law_357 hl (by decide) rfl (fun ls hl => ?_)
  refine lv_aload_n hx hb dL_law_359 rfl (lv_at hl 5 rfl) ?_
  refine sq_calliS (As := []) (rest := []) (wr := ((wX h0 q cI cZ ((sq_nV st (nI 0) (xs (i + 2)) (xs (i + 3)) (xs (i + 4)) (xs (i + 5)) (xs (i + 6)) (xs (i + 7))).1 0) ((sq_nV st (nI 0) (xs (i + 2)) (xs (i + 3)) (xs (i + 4)) (xs (i + 5)) (xs (i + 6)) (xs (i + 7))).1 1) ((sq_nV st (nI 0) (xs (i + 2)) (xs (i + 3)) (xs (i + 4)) (xs (i + 5)) (xs (i + 6)) (xs (i + 7))).1 2) ((sq_nV st (nI 0) (xs (i + 2)) (xs (i + 3)) (xs (i + 4)) (xs (i + 5)) (xs (i + 6)) (xs (i + 7))).1 3) ((sq_nV st (nI 0) (xs (i + 2)) (xs (i + 3)) (xs (i + 4)) (xs (i + 5)) (xs (i + 6)) (xs (i + 7))).1 4) ((sq_nV st (nI 0) (xs (i + 2)) (xs (i + 3)) (xs (i + 4)) (xs (i + 5)) (xs (i + 6)) (xs (i + 7))).1 5) ((sq_nV st (nI 0) (xs (i + 2)) (xs (i + 3)) (xs (i + 4)) (xs (i + 5)) (xs (i + 6)) (xs (i + 7))).1 6) ((sq_nV st (nI 0) (xs (i + 2)) (xs (i + 3)) (xs (i + 4)) (xs (i + 5)) (xs (i + 6)) (xs (i + 7))).1 7) ((sq_nV st (nI 0) (xs (i + 2)) (xs (i + 3)) (xs (i + 4)) (xs (i + 5)) (xs (i + 6)) (xs (i + 7))).1 8) ((sq_nV st (nI 0) (xs (i + 2)) (xs (i + 3)) (xs (i + 4)) (xs (i + 5)) (xs (i + 6)) (xs (i + 7))).1 9) ((sq_nV st (nI 0) (xs (i + 2)) (xs (i + 3)) (xs (i + 4)) (xs (i + 5)) (xs (i + 6)) (xs (i + 7))).1 10) ((sq_nV st (nI 0) (xs (i + 2)) (xs (i + 3)) (xs (i + 4)) (xs (i + 5)) (xs (i + 6)) (xs (i + 7))).2 0) ((sq_nV st (nI 0) (xs (i + 2)) (xs (i + 3)) (xs (i + 4)) (xs (i + 5)) (xs (i + 6)) (xs (i + 7))).2 1) ((sq_nV st (nI 0) (xs (i + 2)) (xs (i + 3)) (xs (i + 4)) (xs (i + 5)) (xs (i + 6)) (xs (i + 7))).2 2) ((sq_nV st (nI 0) (xs (i + 2)) (xs (i + 3)) (xs (i + 4)) (xs (i + 5)) (xs (i + 6)) (xs (i + 7))).2 3) ((sq_nV st (nI 0) (xs (i + 2)) (xs (i + 3)) (xs (i + 4)) (xs (i + 5)) (xs (i + 6)) (xs (i + 7))).2 4) ((sq_nV st (nI 0) (xs (i + 2)) (xs (i + 3)) (xs (i + 4)) (xs (i + 5)) (xs (i + 6)) (xs (i + 7))).2 5) ((sq_nV st (nI 0) (xs (i + 2)) (xs (i + 3)) (xs (i + 4)) (xs (i + 5)) (xs (i + 6)) (xs (i + 7))).2 6) ((sq_nV st (nI 0) (xs (i + 2)) (xs (i + 3)) (xs (i + 4)) (xs (i + 5)) (xs (i + 6)) (xs (i + 7))).2 7) ((sq_nV st (nI 0) (xs (i + 2)) (xs (i + 3)) (xs (i + 4)) (xs (i + 5)) (xs (i + 6)) (xs (i + 7))).2 8)) ++ [(o, .inl (cL, 1, .inr (.inl (sq_o (sq_kV st) g (nI (st.2 5))))))])) (k_thrown l dC dI m0 qm cI cZ (sq_mV ms (nI 0) (xs (i + 2)) (xs (i + 3)) (xs (i + 4)) (xs (i + 5)) (xs (i + 6)) (xs (i + 7)))) ⟨hx, hb, hml, hown, hts⟩ (cwV 0 hts (sq_goodL gvL_57) rfl rfl rfl (by decide +kernel) ⟨Nat.le_of_ble_eq_true rfl, Nat.le_of_ble_eq_true rfl⟩) hK2 hP hD hS hA [12, 13, 14, 15, 16, 17, 18, 19, 20, 21, 22, 23, 24] [0, 1, 2, 3, 4, 5, 6, 7, 8, 9, 10, 11, 25] rfl rfl rfl (by decide) (by decide) (by decide) rfl rfl rfl rfl hl.1 rfl (Nat.le_of_ble_eq_true rfl) dL_law_360 ⟨hcc, hss⟩ (fun H locs hP hD hS => ?_)
  have hP := hP.sub (ws' := (wL h0 m0 o q qm cI cZ cL (sq_nV st (nI 0) (xs (i + 2)) (xs (i + 3)) (xs (i + 4)) (xs (i + 5)) (xs (i + 6)) (xs (i + 7))) (sq_mV ms (nI 0) (xs (i + 2)) (xs (i + 3)) (xs (i + 4)) (xs (i + 5)) (xs (i + 6)) (xs (i + 7))) (sq_o (sq_kV st) g (nI (st.2 5))))) [0, 1, 2, 3, 4, 5, 6, 7, 8, 9, 10, 11, 13, 14, 15, 16, 17, 18, 19, 20, 21, 22, 23, 24, 25, 12] rfl
  have hD := hD.sub (ws' := (wL h0 m0 o q qm cI cZ cL (sq_nV st (nI 0) (xs (i + 2)) (xs (i + 3)) (xs (i + 4)) (xs (i + 5)) (xs (i + 6)) (xs (i + 7))) (sq_mV ms (nI 0) (xs (i + 2)) (xs (i + 3)) (xs (i + 4)) (xs (i + 5)) (xs (i + 6)) (xs (i + 7))) (sq_o (sq_kV st) g (nI (st.2 5))))) [0, 1, 2, 3, 4, 5, 6, 7, 8, 9, 10, 11, 13, 14, 15, 16, 17, 18, 19, 20, 21, 22, 23, 24, 25, 12] (by decide) rfl
  have h0k : (sq_mV ms (nI 0) (xs (i + 2)) (xs (i + 3)) (xs (i + 4)) (xs (i + 5)) (xs (i + 6)) (xs (i + 7))).2 0 = sq_kV st := hq.1
  have hrr : sq_kV st = 0 → sq_mrV ms = nI (st.2 5) := hq.2.1
  have hI2 : sq_Inv (sq_nV st (nI 0) (xs (i + 2)) (xs (i + 3)) (xs (i + 4)) (xs (i + 5)) (xs (i + 6)) (xs (i + 7))) (sq_mV ms (nI 0) (xs (i + 2)) (xs (i + 3)) (xs (i + 4)) (xs (i + 5)) (xs (i + 6)) (xs (i + 7))) := hq.2.2
  refine lv_iload hx hb dL_law_363 (lv_at hl 1 rfl) ?_
  refine lv_icmp_eq (tgt := 370) hx hb dL_law_365 (by decide) (fun _ => ?_) (fun hn9 => absurd (by rw [h0k]) hn9)
  refine lv_iload hx hb dL_law_370 (lv_at hl 1 rfl) ?_
  refine lv_if_ne (tgt := 387) hx hb dL_law_372 (by decide) (fun _ => ?_) (fun hz9 => ?_)
  · refine lv_goto (tgt := 706) hx hb dL_law_387 (by decide) ?_
    exact hnext _ _ _ H locs ls hI2 hP hD hS (lv_sub hl [2, 3, 4, 5, 6] rfl)
  · have hk0 : sq_kV st = 0 := (sq_nI_eq0 (sq_kV_le st)).mp hz9
    refine lv_aload_n hx hb dL_law_375 rfl (lv_at hl 6 rfl) ?_
    refine lv_iconst (v := nI 0) hx hb dL_law_376 (by decide +kernel) ?_
    refine va_lald hx hb hK hP 25 2 rfl rfl (vp_in_nI (by decide) (by decide)) dL_law_377 ?_
    refine lv_iload hx hb dL_law_378 (lv_at hl 0 rfl) ?_
    refine lv_i2l (v := (sq_mrV ms).toInt64) hx hb dL_law_380 rfl ?_
    refine W.lcmp hx hb dL_law_381 ?_
    have hg0 : (sq_o (sq_kV st) g (nI (st.2 5))) (nI 0).toNatClampNeg = (sq_mrV ms).toInt64 := by rw [hrr hk0]; unfold sq_o; rw [if_pos hk0]; exact pk_uLs
    refine lv_if_eq (tgt := 387) hx hb dL_law_382 (by decide) (fun _ => ?_) (fun hn9 => absurd (by rw [hg0]; exact sq_cmp0 _) hn9)
    refine lv_goto (tgt := 706) hx hb dL_law_387 (by decide) ?_
    exact hnext _ _ _ H locs ls hI2 hP hD hS (lv_sub hl [2, 3, 4, 5, 6] rfl)
set_option maxHeartbeats 2000000 in
set_option maxRecDepth 100000 in
theorem law_3 {p : Program} {l : Launch} {e : Env} {s : State} {m : MethodId} {below : List Frame} {meth : Method} {c : Code} {dC : Nat → ClassId} {dI : Nat → Nat → Nat} {b L : Nat} {xs : Nat → Int32} (hl9 : l.stackTraces = false) (hL : L ≤ 4096) (C0 : lw_At p s m meth c b L xs) {S : Nat → Nat} (hZ : sq_Z sq_cC sq_cD RX0 sq_cS sq_cN S (fun q : Nat => s.heap.size ≤ q) s s.heap) {h0 m0 o : Nat} {q qm : Nat → Nat} {cI cZ cL : ClassId} (hK : va_K (dC, dI) vwCl [(cI, .int), (cZ, .boolean), (cL, .long)] s) (i cc1 ss1 : Nat) (hi : i + 8 ≤ L) (hcc : cc1 + 1 ≤ 1060) (hss : ss1 + 6 ≤ 15759) (hnext : ∀ (st ms : SqS) (g : Nat → Int64) (H : Heap) (locs : List Loc) (ls : Array Slot), sq_Inv st ms → va_P (dC, dI) vwCl (wL h0 m0 o q qm cI cZ cL st ms g) H → va_D (fun q : Nat => s.heap.size ≤ q) (wL h0 m0 o q qm cI cZ cL st ms g) → va_S (fun q : Nat => s.heap.size ≤ q) s.heap H locs → lv_has ls 7 [(4, .int (nI i)), (0, .ref b), (1, .ref h0), (2, .ref m0), (3, .ref o)] → W p l e room_1 s m #[Value.ref b] below meth c H locs (cc1 + 1) (ss1 + 6) (lw_Z below #[Value.ref b] s) (F0 m 706 ls [])) :
    ∀ (st ms : SqS) (g : Nat → Int64) (H : Heap) (locs : List Loc) (ls : Array Slot), sq_Inv st ms → va_P (dC, dI) vwCl (wL h0 m0 o q qm cI cZ cL st ms g) H → va_D (fun q : Nat => s.heap.size ≤ q) (wL h0 m0 o q qm cI cZ cL st ms g) → va_S (fun q : Nat => s.heap.size ≤ q) s.heap H locs → lv_has ls 7 [(4, .int (nI i)), (0, .ref b), (1, .ref h0), (2, .ref m0), (3, .ref o)] → W p l e room_1 s m #[Value.ref b] below meth c H locs cc1 ss1 (lw_Z below #[Value.ref b] s) (F0 m 390 ls []) := by
  obtain ⟨hx, hb, hr, hml, hown, hts, hX, hbl, hlocks, hgv⟩ := C0
  have hown : s.vm.findClass RL = some m.cls := hown
  have hA : ∀ q : Nat, s.heap.size ≤ q → (fun q : Nat => s.heap.size ≤ q) q := fun _ h => h
  have hbA : ¬ (fun q : Nat => s.heap.size ≤ q) b := Nat.not_le.mpr hbl
  have hK2 : va_K (dC, dI) vwCl [(cI, .int), (cZ, .boolean)] s := hK.sub [0, 1] rfl
  intro st ms g H locs ls hI hP hD hS hl
  have hq := sq_q_C hI (xs (i + 1))
  refine lv_aload_n hx hb dL_law_390 rfl (lv_at hl 2 rfl) ?_
  refine lv_aload_n hx hb dL_law_391 rfl (lv_at hl 1 rfl) ?_
  refine lv_iload hx hb dL_law_392 (lv_at hl 0 rfl) ?_
  refine lv_iconst (v := nI 1) hx hb dL_law_394 (by decide +kernel) ?_
  refine sq_iadd hx hb dL_law_395 ?_
  refine sq_sld hx hb hX hbl hbA hS (i := (i + 1)) (by omega) (by omega) dL_law_396 ?_
  refine lv_aload_n hx hb dL_law_397 rfl (lv_at hl 4 rfl) ?_
  refine sq_callW (As := [.ref h0, .int (xs (i + 1)), .ref o]) (rest := []) (wr := (wM m0 qm cI cZ (ms.1 0) (ms.1 1) (ms.1 2) (ms.1 3) (ms.1 4) (ms.1 5) (ms.1 6) (ms.1 7) (ms.1 8) (ms.1 9) (ms.1 10) (ms.1 11) (ms.2 0) (ms.2 1) (ms.2 2) (ms.2 3) (ms.2 4) (ms.2 5) (ms.2 6) (ms.2 7) (ms.2 8) (ms.2 9) (ms.2 10))) (w_cycle l hl9 S dC dI h0 q cI cZ o cL g st (xs (i + 1)) hI.1) ⟨hx, hb, hml, hown, hts⟩ (vx_cwSW 3 hts (sq_goodL gsL_69) rfl rfl rfl (by decide +kernel) ⟨Nat.le_of_ble_eq_true rfl, Nat.le_of_ble_eq_true rfl⟩) hK hP hD hS hA hZ [0, 1, 2, 3, 4, 5, 6, 7, 8, 9, 10, 11, 25] [12, 13, 14, 15, 16, 17, 18, 19, 20, 21, 22, 23, 24] rfl rfl rfl (by decide) (by decide) (by decide) rfl hl.1 rfl (Nat.le_of_ble_eq_true rfl) dL_law_398 ⟨hcc, hss⟩ (fun H locs hP hD hS => ?_)
  have hP := hP.sub (ws' := (wL h0 m0 o q qm cI cZ cL (sq_nC st (xs (i + 1))) ms (sq_o (sq_kC st (xs (i + 1))) g (nI (st.2 1 + sq_vec (xs (i + 1))))))) [13, 14, 15, 16, 17, 18, 19, 20, 21, 22, 23, 24, 0, 1, 2, 3, 4, 5, 6, 7, 8, 9, 10, 11, 12, 25] rfl
  have hD := hD.sub (ws' := (wL h0 m0 o q qm cI cZ cL (sq_nC st (xs (i + 1))) ms (sq_o (sq_kC st (xs (i + 1))) g (nI (st.2 1 + sq_vec (xs (i + 1))))))) [13, 14, 15, 16, 17, 18, 19, 20, 21, 22, 23, 24, 0, 1, 2, 3, 4, 5, 6, 7, 8, 9, 10, 11, 12, 25] (by decide) rfl
  refine lv_istore (lv' := [(5, .int (nI (sq_kC st (xs (i + 1))))), (4, .int (nI i)), (0, .ref b), (1, .ref h0), (2, .ref m0), (3, .ref o)]) hx hb dL_law_401 hl (by decide) rfl (fun ls hl => ?_)
  refine lv_aload_n hx hb dL_law_403 rfl (lv_at hl 4 rfl) ?_
  refine lv_aload_n hx hb dL_law_404 rfl (lv_at hl 2 rfl) ?_
  refine lv_iload hx hb dL_law_405 (lv_at hl 1 rfl) ?_
  refine lv_iconst (v := nI 1) hx hb dL_law_407 (by decide +kernel) ?_
  refine sq_iadd hx hb dL_law_408 ?_
  refine sq_sld hx hb hX hbl hbA hS (i := (i + 1)) (by omega) (by omega) dL_law_409 ?_
  refine sq_calliS (As := [.int (xs (i + 1))]) (rest := []) (wr := ((wX h0 q cI cZ ((sq_nC st (xs (i + 1))).1 0) ((sq_nC st (xs (i + 1))).1 1) ((sq_nC st (xs (i + 1))).1 2) ((sq_nC st (xs (i + 1))).1 3) ((sq_nC st (xs (i + 1))).1 4) ((sq_nC st (xs (i + 1))).1 5) ((sq_nC st (xs (i + 1))).1 6) ((sq_nC st (xs (i + 1))).1 7) ((sq_nC st (xs (i + 1))).1 8) ((sq_nC st (xs (i + 1))).1 9) ((sq_nC st (xs (i + 1))).1 10) ((sq_nC st (xs (i + 1))).2 0) ((sq_nC st (xs (i + 1))).2 1) ((sq_nC st (xs (i + 1))).2 2) ((sq_nC st (xs (i + 1))).2 3) ((sq_nC st (xs (i + 1))).2 4) ((sq_nC st (xs (i + 1))).2 5) ((sq_nC st (xs (i + 1))).2 6) ((sq_nC st (xs (i + 1))).2 7) ((sq_nC st (xs (i + 1))).2 8)) ++ [(o, .inl (cL, 1, .inr (.inl (sq_o (sq_kC st (xs (i + 1))) g (nI (st.2 1 + sq_vec (xs (i + 1))))))))])) (k_cycle l dC dI m0 qm cI cZ ms (xs (i + 1)) hI.2.1) ⟨hx, hb, hml, hown, hts⟩ (cwV 1 hts (sq_goodL gvL_72) rfl rfl rfl (by decide +kernel) ⟨Nat.le_of_ble_eq_true rfl, Nat.le_of_ble_eq_true rfl⟩) hK2 hP hD hS hA [12, 13, 14, 15, 16, 17, 18, 19, 20, 21, 22, 23, 24] [0, 1, 2, 3, 4, 5, 6, 7, 8, 9, 10, 11, 25] rfl rfl rfl (by decide) (by decide) (by decide) rfl rfl rfl rfl hl.1 rfl (Nat.le_of_ble_eq_true rfl) dL_law_410 ⟨hcc, hss⟩ (fun H locs hP hD hS => ?_)
  have hP := hP.sub (ws' := (wL h0 m0 o q qm cI cZ cL (sq_nC st (xs (i + 1))) (sq_mC ms (xs (i + 1))) (sq_o (sq_kC st (xs (i + 1))) g (nI (st.2 1 + sq_vec (xs (i + 1))))))) [0, 1, 2, 3, 4, 5, 6, 7, 8, 9, 10, 11, 13, 14, 15, 16, 17, 18, 19, 20, 21, 22, 23, 24, 25, 12] rfl
  have hD := hD.sub (ws' := (wL h0 m0 o q qm cI cZ cL (sq_nC st (xs (i + 1))) (sq_mC ms (xs (i + 1))) (sq_o (sq_kC st (xs (i + 1))) g (nI (st.2 1 + sq_vec (xs (i + 1))))))) [0, 1, 2, 3, 4, 5, 6, 7, 8, 9, 10, 11, 13, 14, 15, 16, 17, 18, 19, 20, 21, 22, 23, 24, 25, 12] (by decide) rfl
  refine lv_istore (lv' := [(6, .int (sq_mrC ms (xs (i + 1)))), (5, .int (nI (sq_kC st (xs (i + 1))))), (4, .int (nI i)), (0, .ref b), (1, .ref h0), (2, .ref m0), (3, .ref o)]) hx hb dL_law_413 hl (by decide) rfl (fun ls hl => ?_)
  refine lv_aload_n hx hb dL_law_415 rfl (lv_at hl 5 rfl) ?_
  refine sq_calliS (As := []) (rest := []) (wr := ((wX h0 q cI cZ ((sq_nC st (xs (i + 1))).1 0) ((sq_nC st (xs (i + 1))).1 1) ((sq_nC st (xs (i + 1))).1 2) ((sq_nC st (xs (i + 1))).1 3) ((sq_nC st (xs (i + 1))).1 4) ((sq_nC st (xs (i + 1))).1 5) ((sq_nC st (xs (i + 1))).1 6) ((sq_nC st (xs (i + 1))).1 7) ((sq_nC st (xs (i + 1))).1 8) ((sq_nC st (xs (i + 1))).1 9) ((sq_nC st (xs (i + 1))).1 10) ((sq_nC st (xs (i + 1))).2 0) ((sq_nC st (xs (i + 1))).2 1) ((sq_nC st (xs (i + 1))).2 2) ((sq_nC st (xs (i + 1))).2 3) ((sq_nC st (xs (i + 1))).2 4) ((sq_nC st (xs (i + 1))).2 5) ((sq_nC st (xs (i + 1))).2 6) ((sq_nC st (xs (i + 1))).2 7) ((sq_nC st (xs (i + 1))).2 8)) ++ [(o, .inl (cL, 1, .inr (.inl (sq_o (sq_kC st (xs (i + 1))) g (nI (st.2 1 + sq_vec (xs (i + 1))))))))])) (k_thrown l dC dI m0 qm cI cZ (sq_mC ms (xs (i + 1)))) ⟨hx, hb, hml, hown, hts⟩ (cwV 0 hts (sq_goodL gvL_57) rfl rfl rfl (by decide +kernel) ⟨Nat.le_of_ble_eq_true rfl, Nat.le_of_ble_eq_true rfl⟩) hK2 hP hD hS hA [12, 13, 14, 15, 16, 17, 18, 19, 20, 21, 22, 23, 24] [0, 1, 2, 3, 4, 5, 6, 7, 8, 9, 10, 11, 25] rfl rfl rfl (by decide) (by decide) (by decide) rfl rfl rfl rfl hl.1 rfl (Nat.le_of_ble_eq_true rfl) dL_law_416 ⟨hcc, hss⟩ (fun H locs hP hD hS => ?_)
  have hP := hP.sub (ws' := (wL h0 m0 o q qm cI cZ cL (sq_nC st (xs (i + 1))) (sq_mC ms (xs (i + 1))) (sq_o (sq_kC st (xs (i + 1))) g (nI (st.2 1 + sq_vec (xs (i + 1))))))) [0, 1, 2, 3, 4, 5, 6, 7, 8, 9, 10, 11, 13, 14, 15, 16, 17, 18, 19, 20, 21, 22, 23, 24, 25, 12] rfl
  have hD := hD.sub (ws' := (wL h0 m0 o q qm cI cZ cL (sq_nC st (xs (i + 1))) (sq_mC ms (xs (i + 1))) (sq_o (sq_kC st (xs (i + 1))) g (nI (st.2 1 + sq_vec (xs (i + 1))))))) [0, 1, 2, 3, 4, 5, 6, 7, 8, 9, 10, 11, 13, 14, 15, 16, 17, 18, 19, 20, 21, 22, 23, 24, 25, 12] (by decide) rfl
  have h0k : (sq_mC ms (xs (i + 1))).2 0 = sq_kC st (xs (i + 1)) := hq.1
  have hrr : sq_kC st (xs (i + 1)) = 0 → sq_mrC ms (xs (i + 1)) = nI (st.2 1 + sq_vec (xs (i + 1))) := hq.2.1
  have hI2 : sq_Inv (sq_nC st (xs (i + 1))) (sq_mC ms (xs (i + 1))) := hq.2.2
  refine lv_iload hx hb dL_law_419 (lv_at hl 1 rfl) ?_
  refine lv_icmp_eq (tgt := 426) hx hb dL_law_421 (by decide) (fun _ => ?_) (fun hn9 => absurd (by rw [h0k]) hn9)
  refine lv_iload hx hb dL_law_426 (lv_at hl 1 rfl) ?_
  refine lv_if_ne (tgt := 443) hx hb dL_law_428 (by decide) (fun _ => ?_) (fun hz9 => ?_)
  · refine lv_goto (tgt := 706) hx hb dL_law_443 (by decide) ?_
    exact hnext _ _ _ H locs ls hI2 hP hD hS (lv_sub hl [2, 3, 4, 5, 6] rfl)
  · have hk0 : sq_kC st (xs (i + 1)) = 0 := (sq_nI_eq0 (sq_kC_le st (xs (i + 1)))).mp hz9
    refine lv_aload_n hx hb dL_law_431 rfl (lv_at hl 6 rfl) ?_
    refine lv_iconst (v := nI 0) hx hb dL_law_432 (by decide +kernel) ?_
    refine va_lald hx hb hK hP 25 2 rfl rfl (vp_in_nI (by decide) (by decide)) dL_law_433 ?_
    refine lv_iload hx hb dL_law_434 (lv_at hl 0 rfl) ?_
    refine lv_i2l (v := (sq_mrC ms (xs (i + 1))).toInt64) hx hb dL_law_436 rfl ?_
    refine W.lcmp hx hb dL_law_437 ?_
    have hg0 : (sq_o (sq_kC st (xs (i + 1))) g (nI (st.2 1 + sq_vec (xs (i + 1))))) (nI 0).toNatClampNeg = (sq_mrC ms (xs (i + 1))).toInt64 := by rw [hrr hk0]; unfold sq_o; rw [if_pos hk0]; exact pk_uLs
    refine lv_if_eq (tgt := 443) hx hb dL_law_438 (by decide) (fun _ => ?_) (fun hn9 => absurd (by rw [hg0]; exact sq_cmp0 _) hn9)
    refine lv_goto (tgt := 706) hx hb dL_law_443 (by decide) ?_
    exact hnext _ _ _ H locs ls hI2 hP hD hS (lv_sub hl [2, 3, 4, 5, 6] rfl)
set_option maxHeartbeats 2000000 in
set_option maxRecDepth 100000 in
theorem law_4 {p : Program} {l : Launch} {e : Env} {s : State} {m : MethodId} {below : List Frame} {meth : Method} {c : Code} {dC : Nat → ClassId} {dI : Nat → Nat → Nat} {b L : Nat} {xs : Nat → Int32} (hl9 : l.stackTraces = false) (hL : L ≤ 4096) (C0 : lw_At p s m meth c b L xs) {S : Nat → Nat} (hZ : sq_Z sq_cC sq_cD RX0 sq_cS sq_cN S (fun q : Nat => s.heap.size ≤ q) s s.heap) {h0 m0 o : Nat} {q qm : Nat → Nat} {cI cZ cL : ClassId} (hK : va_K (dC, dI) vwCl [(cI, .int), (cZ, .boolean), (cL, .long)] s) (i cc1 ss1 : Nat) (hi : i + 8 ≤ L) (hcc : cc1 + 1 ≤ 1060) (hss : ss1 + 6 ≤ 15759) (hnext : ∀ (st ms : SqS) (g : Nat → Int64) (H : Heap) (locs : List Loc) (ls : Array Slot), sq_Inv st ms → va_P (dC, dI) vwCl (wL h0 m0 o q qm cI cZ cL st ms g) H → va_D (fun q : Nat => s.heap.size ≤ q) (wL h0 m0 o q qm cI cZ cL st ms g) → va_S (fun q : Nat => s.heap.size ≤ q) s.heap H locs → lv_has ls 7 [(4, .int (nI i)), (0, .ref b), (1, .ref h0), (2, .ref m0), (3, .ref o)] → W p l e room_1 s m #[Value.ref b] below meth c H locs (cc1 + 1) (ss1 + 6) (lw_Z below #[Value.ref b] s) (F0 m 706 ls [])) :
    ∀ (st ms : SqS) (g : Nat → Int64) (H : Heap) (locs : List Loc) (ls : Array Slot), sq_Inv st ms → va_P (dC, dI) vwCl (wL h0 m0 o q qm cI cZ cL st ms g) H → va_D (fun q : Nat => s.heap.size ≤ q) (wL h0 m0 o q qm cI cZ cL st ms g) → va_S (fun q : Nat => s.heap.size ≤ q) s.heap H locs → lv_has ls 7 [(4, .int (nI i)), (0, .ref b), (1, .ref h0), (2, .ref m0), (3, .ref o)] → W p l e room_1 s m #[Value.ref b] below meth c H locs cc1 ss1 (lw_Z below #[Value.ref b] s) (F0 m 446 ls []) := by
  obtain ⟨hx, hb, hr, hml, hown, hts, hX, hbl, hlocks, hgv⟩ := C0
  have hown : s.vm.findClass RL = some m.cls := hown
  have hA : ∀ q : Nat, s.heap.size ≤ q → (fun q : Nat => s.heap.size ≤ q) q := fun _ h => h
  have hbA : ¬ (fun q : Nat => s.heap.size ≤ q) b := Nat.not_le.mpr hbl
  have hK2 : va_K (dC, dI) vwCl [(cI, .int), (cZ, .boolean)] s := hK.sub [0, 1] rfl
  intro st ms g H locs ls hI hP hD hS hl
  have hq := sq_q_L hI (xs (i + 1)) (xs (i + 2)) (xs (i + 3))
  refine lv_aload_n hx hb dL_law_446 rfl (lv_at hl 2 rfl) ?_
  refine lv_aload_n hx hb dL_law_447 rfl (lv_at hl 1 rfl) ?_
  refine lv_iload hx hb dL_law_448 (lv_at hl 0 rfl) ?_
  refine lv_iconst (v := nI 1) hx hb dL_law_450 (by decide +kernel) ?_
  refine sq_iadd hx hb dL_law_451 ?_
  refine sq_sld hx hb hX hbl hbA hS (i := (i + 1)) (by omega) (by omega) dL_law_452 ?_
  refine lv_aload_n hx hb dL_law_453 rfl (lv_at hl 1 rfl) ?_
  refine lv_iload hx hb dL_law_454 (lv_at hl 0 rfl) ?_
  refine lv_iconst (v := nI 2) hx hb dL_law_456 (by decide +kernel) ?_
  refine sq_iadd hx hb dL_law_457 ?_
  refine sq_sld hx hb hX hbl hbA hS (i := (i + 2)) (by omega) (by omega) dL_law_458 ?_
  refine lv_aload_n hx hb dL_law_459 rfl (lv_at hl 1 rfl) ?_
  refine lv_iload hx hb dL_law_460 (lv_at hl 0 rfl) ?_
  refine lv_iconst (v := nI 3) hx hb dL_law_462 (by decide +kernel) ?_
  refine sq_iadd hx hb dL_law_463 ?_
  refine sq_sld hx hb hX hbl hbA hS (i := (i + 3)) (by omega) (by omega) dL_law_464 ?_
  refine lv_aload_n hx hb dL_law_465 rfl (lv_at hl 4 rfl) ?_
  refine sq_callW (As := [.ref h0, .int (xs (i + 1)), .int (xs (i + 2)), .int (xs (i + 3)), .ref o]) (rest := []) (wr := (wM m0 qm cI cZ (ms.1 0) (ms.1 1) (ms.1 2) (ms.1 3) (ms.1 4) (ms.1 5) (ms.1 6) (ms.1 7) (ms.1 8) (ms.1 9) (ms.1 10) (ms.1 11) (ms.2 0) (ms.2 1) (ms.2 2) (ms.2 3) (ms.2 4) (ms.2 5) (ms.2 6) (ms.2 7) (ms.2 8) (ms.2 9) (ms.2 10))) (w_cell l hl9 S dC dI h0 q cI cZ o cL g st (xs (i + 1)) (xs (i + 2)) (xs (i + 3)) hI.1) ⟨hx, hb, hml, hown, hts⟩ (vx_cwSW 5 hts (sq_goodL gsL_73) rfl rfl rfl (by decide +kernel) ⟨Nat.le_of_ble_eq_true rfl, Nat.le_of_ble_eq_true rfl⟩) hK hP hD hS hA hZ [0, 1, 2, 3, 4, 5, 6, 7, 8, 9, 10, 11, 25] [12, 13, 14, 15, 16, 17, 18, 19, 20, 21, 22, 23, 24] rfl rfl rfl (by decide) (by decide) (by decide) rfl hl.1 rfl (Nat.le_of_ble_eq_true rfl) dL_law_466 ⟨hcc, hss⟩ (fun H locs hP hD hS => ?_)
  have hP := hP.sub (ws' := (wL h0 m0 o q qm cI cZ cL st ms (sq_o (sq_kL st (xs (i + 1)) (xs (i + 2)) (xs (i + 3))) g (sq_rL st (xs (i + 1)) (xs (i + 2)) (xs (i + 3)))))) [13, 14, 15, 16, 17, 18, 19, 20, 21, 22, 23, 24, 0, 1, 2, 3, 4, 5, 6, 7, 8, 9, 10, 11, 12, 25] rfl
  have hD := hD.sub (ws' := (wL h0 m0 o q qm cI cZ cL st ms (sq_o (sq_kL st (xs (i + 1)) (xs (i + 2)) (xs (i + 3))) g (sq_rL st (xs (i + 1)) (xs (i + 2)) (xs (i + 3)))))) [13, 14, 15, 16, 17, 18, 19, 20, 21, 22, 23, 24, 0, 1, 2, 3, 4, 5, 6, 7, 8, 9, 10, 11, 12, 25] (by decide) rfl
  refine lv_istore (lv' := [(5, .int (nI (sq_kL st (xs (i + 1)) (xs (i + 2)) (xs (i + 3))))), (4, .int (nI i)), (0, .ref b), (1, .ref h0), (2, .ref m0), (3, .ref o)]) hx hb dL_law_469 hl (by decide) rfl (fun ls hl => ?_)
  refine lv_aload_n hx hb dL_law_471 rfl (lv_at hl 4 rfl) ?_
  refine lv_aload_n hx hb dL_law_472 rfl (lv_at hl 2 rfl) ?_
  refine lv_iload hx hb dL_law_473 (lv_at hl 1 rfl) ?_
  refine lv_iconst (v := nI 1) hx hb dL_law_475 (by decide +kernel) ?_
  refine sq_iadd hx hb dL_law_476 ?_
  refine sq_sld hx hb hX hbl hbA hS (i := (i + 1)) (by omega) (by omega) dL_law_477 ?_
  refine lv_aload_n hx hb dL_law_478 rfl (lv_at hl 2 rfl) ?_
  refine lv_iload hx hb dL_law_479 (lv_at hl 1 rfl) ?_
  refine lv_iconst (v := nI 2) hx hb dL_law_481 (by decide +kernel) ?_
  refine sq_iadd hx hb dL_law_482 ?_
  refine sq_sld hx hb hX hbl hbA hS (i := (i + 2)) (by omega) (by omega) dL_law_483 ?_
  refine lv_aload_n hx hb dL_law_484 rfl (lv_at hl 2 rfl) ?_
  refine lv_iload hx hb dL_law_485 (lv_at hl 1 rfl) ?_
  refine lv_iconst (v := nI 3) hx hb dL_law_487 (by decide +kernel) ?_
  refine sq_iadd hx hb dL_law_488 ?_
  refine sq_sld hx hb hX hbl hbA hS (i := (i + 3)) (by omega) (by omega) dL_law_489 ?_
  refine sq_calliS (As := [.int (xs (i + 1)), .int (xs (i + 2)), .int (xs (i + 3))]) (rest := []) (wr := ((wX h0 q cI cZ ((st).1 0) ((st).1 1) ((st).1 2) ((st).1 3) ((st).1 4) ((st).1 5) ((st).1 6) ((st).1 7) ((st).1 8) ((st).1 9) ((st).1 10) ((st).2 0) ((st).2 1) ((st).2 2) ((st).2 3) ((st).2 4) ((st).2 5) ((st).2 6) ((st).2 7) ((st).2 8)) ++ [(o, .inl (cL, 1, .inr (.inl (sq_o (sq_kL st (xs (i + 1)) (xs (i + 2)) (xs (i + 3))) g (sq_rL st (xs (i + 1)) (xs (i + 2)) (xs (i + 3)))))))])) (k_cell l dC dI m0 qm cI cZ ms (xs (i + 1)) (xs (i + 2)) (xs (i + 3)) hI.2.1) ⟨hx, hb, hml, hown, hts⟩ (cwV 3 hts (sq_goodL gvL_76) rfl rfl rfl (by decide +kernel) ⟨Nat.le_of_ble_eq_true rfl, Nat.le_of_ble_eq_true rfl⟩) hK2 hP hD hS hA [12, 13, 14, 15, 16, 17, 18, 19, 20, 21, 22, 23, 24] [0, 1, 2, 3, 4, 5, 6, 7, 8, 9, 10, 11, 25] rfl rfl rfl (by decide) (by decide) (by decide) rfl rfl rfl rfl hl.1 rfl (Nat.le_of_ble_eq_true rfl) dL_law_490 ⟨hcc, hss⟩ (fun H locs hP hD hS => ?_)
  have hP := hP.sub (ws' := (wL h0 m0 o q qm cI cZ cL st (sq_mt ms (sq_mkL ms (xs (i + 1)) (xs (i + 2)) (xs (i + 3)))) (sq_o (sq_kL st (xs (i + 1)) (xs (i + 2)) (xs (i + 3))) g (sq_rL st (xs (i + 1)) (xs (i + 2)) (xs (i + 3)))))) [0, 1, 2, 3, 4, 5, 6, 7, 8, 9, 10, 11, 13, 14, 15, 16, 17, 18, 19, 20, 21, 22, 23, 24, 25, 12] rfl
  have hD := hD.sub (ws' := (wL h0 m0 o q qm cI cZ cL st (sq_mt ms (sq_mkL ms (xs (i + 1)) (xs (i + 2)) (xs (i + 3)))) (sq_o (sq_kL st (xs (i + 1)) (xs (i + 2)) (xs (i + 3))) g (sq_rL st (xs (i + 1)) (xs (i + 2)) (xs (i + 3)))))) [0, 1, 2, 3, 4, 5, 6, 7, 8, 9, 10, 11, 13, 14, 15, 16, 17, 18, 19, 20, 21, 22, 23, 24, 25, 12] (by decide) rfl
  refine lv_istore (lv' := [(6, .int (sq_mrL ms (xs (i + 1)) (xs (i + 2)) (xs (i + 3)))), (5, .int (nI (sq_kL st (xs (i + 1)) (xs (i + 2)) (xs (i + 3))))), (4, .int (nI i)), (0, .ref b), (1, .ref h0), (2, .ref m0), (3, .ref o)]) hx hb dL_law_493 hl (by decide) rfl (fun ls hl => ?_)
  refine lv_aload_n hx hb dL_law_495 rfl (lv_at hl 5 rfl) ?_
  refine sq_calliS (As := []) (rest := []) (wr := ((wX h0 q cI cZ ((st).1 0) ((st).1 1) ((st).1 2) ((st).1 3) ((st).1 4) ((st).1 5) ((st).1 6) ((st).1 7) ((st).1 8) ((st).1 9) ((st).1 10) ((st).2 0) ((st).2 1) ((st).2 2) ((st).2 3) ((st).2 4) ((st).2 5) ((st).2 6) ((st).2 7) ((st).2 8)) ++ [(o, .inl (cL, 1, .inr (.inl (sq_o (sq_kL st (xs (i + 1)) (xs (i + 2)) (xs (i + 3))) g (sq_rL st (xs (i + 1)) (xs (i + 2)) (xs (i + 3)))))))])) (k_thrown l dC dI m0 qm cI cZ (sq_mt ms (sq_mkL ms (xs (i + 1)) (xs (i + 2)) (xs (i + 3))))) ⟨hx, hb, hml, hown, hts⟩ (cwV 0 hts (sq_goodL gvL_57) rfl rfl rfl (by decide +kernel) ⟨Nat.le_of_ble_eq_true rfl, Nat.le_of_ble_eq_true rfl⟩) hK2 hP hD hS hA [12, 13, 14, 15, 16, 17, 18, 19, 20, 21, 22, 23, 24] [0, 1, 2, 3, 4, 5, 6, 7, 8, 9, 10, 11, 25] rfl rfl rfl (by decide) (by decide) (by decide) rfl rfl rfl rfl hl.1 rfl (Nat.le_of_ble_eq_true rfl) dL_law_496 ⟨hcc, hss⟩ (fun H locs hP hD hS => ?_)
  have hP := hP.sub (ws' := (wL h0 m0 o q qm cI cZ cL st (sq_mt ms (sq_mkL ms (xs (i + 1)) (xs (i + 2)) (xs (i + 3)))) (sq_o (sq_kL st (xs (i + 1)) (xs (i + 2)) (xs (i + 3))) g (sq_rL st (xs (i + 1)) (xs (i + 2)) (xs (i + 3)))))) [0, 1, 2, 3, 4, 5, 6, 7, 8, 9, 10, 11, 13, 14, 15, 16, 17, 18, 19, 20, 21, 22, 23, 24, 25, 12] rfl
  have hD := hD.sub (ws' := (wL h0 m0 o q qm cI cZ cL st (sq_mt ms (sq_mkL ms (xs (i + 1)) (xs (i + 2)) (xs (i + 3)))) (sq_o (sq_kL st (xs (i + 1)) (xs (i + 2)) (xs (i + 3))) g (sq_rL st (xs (i + 1)) (xs (i + 2)) (xs (i + 3)))))) [0, 1, 2, 3, 4, 5, 6, 7, 8, 9, 10, 11, 13, 14, 15, 16, 17, 18, 19, 20, 21, 22, 23, 24, 25, 12] (by decide) rfl
  have h0k : (sq_mt ms (sq_mkL ms (xs (i + 1)) (xs (i + 2)) (xs (i + 3)))).2 0 = sq_kL st (xs (i + 1)) (xs (i + 2)) (xs (i + 3)) := hq.1
  have hrr : sq_kL st (xs (i + 1)) (xs (i + 2)) (xs (i + 3)) = 0 → sq_mrL ms (xs (i + 1)) (xs (i + 2)) (xs (i + 3)) = sq_rL st (xs (i + 1)) (xs (i + 2)) (xs (i + 3)) := hq.2
  have hI2 : sq_Inv (st) (sq_mt ms (sq_mkL ms (xs (i + 1)) (xs (i + 2)) (xs (i + 3)))) := sq_Inv_mt hI _
  refine lv_iload hx hb dL_law_499 (lv_at hl 1 rfl) ?_
  refine lv_icmp_eq (tgt := 506) hx hb dL_law_501 (by decide) (fun _ => ?_) (fun hn9 => absurd (by rw [h0k]) hn9)
  refine lv_iload hx hb dL_law_506 (lv_at hl 1 rfl) ?_
  refine lv_if_ne (tgt := 523) hx hb dL_law_508 (by decide) (fun _ => ?_) (fun hz9 => ?_)
  · refine lv_goto (tgt := 706) hx hb dL_law_523 (by decide) ?_
    exact hnext _ _ _ H locs ls hI2 hP hD hS (lv_sub hl [2, 3, 4, 5, 6] rfl)
  · have hk0 : sq_kL st (xs (i + 1)) (xs (i + 2)) (xs (i + 3)) = 0 := (sq_nI_eq0 (sq_kL_le st (xs (i + 1)) (xs (i + 2)) (xs (i + 3)))).mp hz9
    refine lv_aload_n hx hb dL_law_511 rfl (lv_at hl 6 rfl) ?_
    refine lv_iconst (v := nI 0) hx hb dL_law_512 (by decide +kernel) ?_
    refine va_lald hx hb hK hP 25 2 rfl rfl (vp_in_nI (by decide) (by decide)) dL_law_513 ?_
    refine lv_iload hx hb dL_law_514 (lv_at hl 0 rfl) ?_
    refine lv_i2l (v := (sq_mrL ms (xs (i + 1)) (xs (i + 2)) (xs (i + 3))).toInt64) hx hb dL_law_516 rfl ?_
    refine W.lcmp hx hb dL_law_517 ?_
    have hg0 : (sq_o (sq_kL st (xs (i + 1)) (xs (i + 2)) (xs (i + 3))) g (sq_rL st (xs (i + 1)) (xs (i + 2)) (xs (i + 3)))) (nI 0).toNatClampNeg = (sq_mrL ms (xs (i + 1)) (xs (i + 2)) (xs (i + 3))).toInt64 := by rw [hrr hk0]; unfold sq_o; rw [if_pos hk0]; exact pk_uLs
    refine lv_if_eq (tgt := 523) hx hb dL_law_518 (by decide) (fun _ => ?_) (fun hn9 => absurd (by rw [hg0]; exact sq_cmp0 _) hn9)
    refine lv_goto (tgt := 706) hx hb dL_law_523 (by decide) ?_
    exact hnext _ _ _ H locs ls hI2 hP hD hS (lv_sub hl [2, 3, 4, 5, 6] rfl)
set_option maxHeartbeats 2000000 in
set_option maxRecDepth 100000 in
theorem law_5 {p : Program} {l : Launch} {e : Env} {s : State} {m : MethodId} {below : List Frame} {meth : Method} {c : Code} {dC : Nat → ClassId} {dI : Nat → Nat → Nat} {b L : Nat} {xs : Nat → Int32} (hl9 : l.stackTraces = false) (hL : L ≤ 4096) (C0 : lw_At p s m meth c b L xs) {S : Nat → Nat} (hZ : sq_Z sq_cC sq_cD RX0 sq_cS sq_cN S (fun q : Nat => s.heap.size ≤ q) s s.heap) {h0 m0 o : Nat} {q qm : Nat → Nat} {cI cZ cL : ClassId} (hK : va_K (dC, dI) vwCl [(cI, .int), (cZ, .boolean), (cL, .long)] s) (i cc1 ss1 : Nat) (hi : i + 8 ≤ L) (hcc : cc1 + 1 ≤ 1060) (hss : ss1 + 6 ≤ 15759) (hnext : ∀ (st ms : SqS) (g : Nat → Int64) (H : Heap) (locs : List Loc) (ls : Array Slot), sq_Inv st ms → va_P (dC, dI) vwCl (wL h0 m0 o q qm cI cZ cL st ms g) H → va_D (fun q : Nat => s.heap.size ≤ q) (wL h0 m0 o q qm cI cZ cL st ms g) → va_S (fun q : Nat => s.heap.size ≤ q) s.heap H locs → lv_has ls 7 [(4, .int (nI i)), (0, .ref b), (1, .ref h0), (2, .ref m0), (3, .ref o)] → W p l e room_1 s m #[Value.ref b] below meth c H locs (cc1 + 1) (ss1 + 6) (lw_Z below #[Value.ref b] s) (F0 m 706 ls [])) :
    ∀ (st ms : SqS) (g : Nat → Int64) (H : Heap) (locs : List Loc) (ls : Array Slot), sq_Inv st ms → va_P (dC, dI) vwCl (wL h0 m0 o q qm cI cZ cL st ms g) H → va_D (fun q : Nat => s.heap.size ≤ q) (wL h0 m0 o q qm cI cZ cL st ms g) → va_S (fun q : Nat => s.heap.size ≤ q) s.heap H locs → lv_has ls 7 [(4, .int (nI i)), (0, .ref b), (1, .ref h0), (2, .ref m0), (3, .ref o)] → W p l e room_1 s m #[Value.ref b] below meth c H locs cc1 ss1 (lw_Z below #[Value.ref b] s) (F0 m 526 ls []) := by
  obtain ⟨hx, hb, hr, hml, hown, hts, hX, hbl, hlocks, hgv⟩ := C0
  have hown : s.vm.findClass RL = some m.cls := hown
  have hA : ∀ q : Nat, s.heap.size ≤ q → (fun q : Nat => s.heap.size ≤ q) q := fun _ h => h
  have hbA : ¬ (fun q : Nat => s.heap.size ≤ q) b := Nat.not_le.mpr hbl
  have hK2 : va_K (dC, dI) vwCl [(cI, .int), (cZ, .boolean)] s := hK.sub [0, 1] rfl
  intro st ms g H locs ls hI hP hD hS hl
  have hq := sq_q_E hI (xs (i + 1))
  refine lv_aload_n hx hb dL_law_526 rfl (lv_at hl 2 rfl) ?_
  refine lv_aload_n hx hb dL_law_527 rfl (lv_at hl 1 rfl) ?_
  refine lv_iload hx hb dL_law_528 (lv_at hl 0 rfl) ?_
  refine lv_iconst (v := nI 1) hx hb dL_law_530 (by decide +kernel) ?_
  refine sq_iadd hx hb dL_law_531 ?_
  refine sq_sld hx hb hX hbl hbA hS (i := (i + 1)) (by omega) (by omega) dL_law_532 ?_
  refine lv_aload_n hx hb dL_law_533 rfl (lv_at hl 4 rfl) ?_
  refine sq_callW (As := [.ref h0, .int (xs (i + 1)), .ref o]) (rest := []) (wr := (wM m0 qm cI cZ (ms.1 0) (ms.1 1) (ms.1 2) (ms.1 3) (ms.1 4) (ms.1 5) (ms.1 6) (ms.1 7) (ms.1 8) (ms.1 9) (ms.1 10) (ms.1 11) (ms.2 0) (ms.2 1) (ms.2 2) (ms.2 3) (ms.2 4) (ms.2 5) (ms.2 6) (ms.2 7) (ms.2 8) (ms.2 9) (ms.2 10))) (w_entered l hl9 S dC dI h0 q cI cZ o cL g st (xs (i + 1)) hI.1) ⟨hx, hb, hml, hown, hts⟩ (vx_cwSW 3 hts (sq_goodL gsL_77) rfl rfl rfl (by decide +kernel) ⟨Nat.le_of_ble_eq_true rfl, Nat.le_of_ble_eq_true rfl⟩) hK hP hD hS hA hZ [0, 1, 2, 3, 4, 5, 6, 7, 8, 9, 10, 11, 25] [12, 13, 14, 15, 16, 17, 18, 19, 20, 21, 22, 23, 24] rfl rfl rfl (by decide) (by decide) (by decide) rfl hl.1 rfl (Nat.le_of_ble_eq_true rfl) dL_law_534 ⟨hcc, hss⟩ (fun H locs hP hD hS => ?_)
  have hP := hP.sub (ws' := (wL h0 m0 o q qm cI cZ cL st ms (sq_o (sq_kE st (xs (i + 1))) g (sq_rE st (xs (i + 1)))))) [13, 14, 15, 16, 17, 18, 19, 20, 21, 22, 23, 24, 0, 1, 2, 3, 4, 5, 6, 7, 8, 9, 10, 11, 12, 25] rfl
  have hD := hD.sub (ws' := (wL h0 m0 o q qm cI cZ cL st ms (sq_o (sq_kE st (xs (i + 1))) g (sq_rE st (xs (i + 1)))))) [13, 14, 15, 16, 17, 18, 19, 20, 21, 22, 23, 24, 0, 1, 2, 3, 4, 5, 6, 7, 8, 9, 10, 11, 12, 25] (by decide) rfl
  refine lv_istore (lv' := [(5, .int (nI (sq_kE st (xs (i + 1))))), (4, .int (nI i)), (0, .ref b), (1, .ref h0), (2, .ref m0), (3, .ref o)]) hx hb dL_law_537 hl (by decide) rfl (fun ls hl => ?_)
  refine lv_aload_n hx hb dL_law_539 rfl (lv_at hl 4 rfl) ?_
  refine lv_aload_n hx hb dL_law_540 rfl (lv_at hl 2 rfl) ?_
  refine lv_iload hx hb dL_law_541 (lv_at hl 1 rfl) ?_
  refine lv_iconst (v := nI 1) hx hb dL_law_543 (by decide +kernel) ?_
  refine sq_iadd hx hb dL_law_544 ?_
  refine sq_sld hx hb hX hbl hbA hS (i := (i + 1)) (by omega) (by omega) dL_law_545 ?_
  refine sq_calliS (As := [.int (xs (i + 1))]) (rest := []) (wr := ((wX h0 q cI cZ ((st).1 0) ((st).1 1) ((st).1 2) ((st).1 3) ((st).1 4) ((st).1 5) ((st).1 6) ((st).1 7) ((st).1 8) ((st).1 9) ((st).1 10) ((st).2 0) ((st).2 1) ((st).2 2) ((st).2 3) ((st).2 4) ((st).2 5) ((st).2 6) ((st).2 7) ((st).2 8)) ++ [(o, .inl (cL, 1, .inr (.inl (sq_o (sq_kE st (xs (i + 1))) g (sq_rE st (xs (i + 1)))))))])) (k_entered l dC dI m0 qm cI cZ ms (xs (i + 1)) hI.2.1) ⟨hx, hb, hml, hown, hts⟩ (cwV 1 hts (sq_goodL gvL_79) rfl rfl rfl (by decide +kernel) ⟨Nat.le_of_ble_eq_true rfl, Nat.le_of_ble_eq_true rfl⟩) hK2 hP hD hS hA [12, 13, 14, 15, 16, 17, 18, 19, 20, 21, 22, 23, 24] [0, 1, 2, 3, 4, 5, 6, 7, 8, 9, 10, 11, 25] rfl rfl rfl (by decide) (by decide) (by decide) rfl rfl rfl rfl hl.1 rfl (Nat.le_of_ble_eq_true rfl) dL_law_546 ⟨hcc, hss⟩ (fun H locs hP hD hS => ?_)
  have hP := hP.sub (ws' := (wL h0 m0 o q qm cI cZ cL st (sq_mt ms (sq_mkE ms (xs (i + 1)))) (sq_o (sq_kE st (xs (i + 1))) g (sq_rE st (xs (i + 1)))))) [0, 1, 2, 3, 4, 5, 6, 7, 8, 9, 10, 11, 13, 14, 15, 16, 17, 18, 19, 20, 21, 22, 23, 24, 25, 12] rfl
  have hD := hD.sub (ws' := (wL h0 m0 o q qm cI cZ cL st (sq_mt ms (sq_mkE ms (xs (i + 1)))) (sq_o (sq_kE st (xs (i + 1))) g (sq_rE st (xs (i + 1)))))) [0, 1, 2, 3, 4, 5, 6, 7, 8, 9, 10, 11, 13, 14, 15, 16, 17, 18, 19, 20, 21, 22, 23, 24, 25, 12] (by decide) rfl
  refine lv_istore (lv' := [(6, .int (sq_mrE ms (xs (i + 1)))), (5, .int (nI (sq_kE st (xs (i + 1))))), (4, .int (nI i)), (0, .ref b), (1, .ref h0), (2, .ref m0), (3, .ref o)]) hx hb dL_law_549 hl (by decide) rfl (fun ls hl => ?_)
  refine lv_aload_n hx hb dL_law_551 rfl (lv_at hl 5 rfl) ?_
  refine sq_calliS (As := []) (rest := []) (wr := ((wX h0 q cI cZ ((st).1 0) ((st).1 1) ((st).1 2) ((st).1 3) ((st).1 4) ((st).1 5) ((st).1 6) ((st).1 7) ((st).1 8) ((st).1 9) ((st).1 10) ((st).2 0) ((st).2 1) ((st).2 2) ((st).2 3) ((st).2 4) ((st).2 5) ((st).2 6) ((st).2 7) ((st).2 8)) ++ [(o, .inl (cL, 1, .inr (.inl (sq_o (sq_kE st (xs (i + 1))) g (sq_rE st (xs (i + 1)))))))])) (k_thrown l dC dI m0 qm cI cZ (sq_mt ms (sq_mkE ms (xs (i + 1))))) ⟨hx, hb, hml, hown, hts⟩ (cwV 0 hts (sq_goodL gvL_57) rfl rfl rfl (by decide +kernel) ⟨Nat.le_of_ble_eq_true rfl, Nat.le_of_ble_eq_true rfl⟩) hK2 hP hD hS hA [12, 13, 14, 15, 16, 17, 18, 19, 20, 21, 22, 23, 24] [0, 1, 2, 3, 4, 5, 6, 7, 8, 9, 10, 11, 25] rfl rfl rfl (by decide) (by decide) (by decide) rfl rfl rfl rfl hl.1 rfl (Nat.le_of_ble_eq_true rfl) dL_law_552 ⟨hcc, hss⟩ (fun H locs hP hD hS => ?_)
  have hP := hP.sub (ws' := (wL h0 m0 o q qm cI cZ cL st (sq_mt ms (sq_mkE ms (xs (i + 1)))) (sq_o (sq_kE st (xs (i + 1))) g (sq_rE st (xs (i + 1)))))) [0, 1, 2, 3, 4, 5, 6, 7, 8, 9, 10, 11, 13, 14, 15, 16, 17, 18, 19, 20, 21, 22, 23, 24, 25, 12] rfl
  have hD := hD.sub (ws' := (wL h0 m0 o q qm cI cZ cL st (sq_mt ms (sq_mkE ms (xs (i + 1)))) (sq_o (sq_kE st (xs (i + 1))) g (sq_rE st (xs (i + 1)))))) [0, 1, 2, 3, 4, 5, 6, 7, 8, 9, 10, 11, 13, 14, 15, 16, 17, 18, 19, 20, 21, 22, 23, 24, 25, 12] (by decide) rfl
  have h0k : (sq_mt ms (sq_mkE ms (xs (i + 1)))).2 0 = sq_kE st (xs (i + 1)) := hq.1
  have hrr : sq_kE st (xs (i + 1)) = 0 → sq_mrE ms (xs (i + 1)) = sq_rE st (xs (i + 1)) := hq.2
  have hI2 : sq_Inv (st) (sq_mt ms (sq_mkE ms (xs (i + 1)))) := sq_Inv_mt hI _
  refine lv_iload hx hb dL_law_555 (lv_at hl 1 rfl) ?_
  refine lv_icmp_eq (tgt := 562) hx hb dL_law_557 (by decide) (fun _ => ?_) (fun hn9 => absurd (by rw [h0k]) hn9)
  refine lv_iload hx hb dL_law_562 (lv_at hl 1 rfl) ?_
  refine lv_if_ne (tgt := 579) hx hb dL_law_564 (by decide) (fun _ => ?_) (fun hz9 => ?_)
  · refine lv_goto (tgt := 706) hx hb dL_law_579 (by decide) ?_
    exact hnext _ _ _ H locs ls hI2 hP hD hS (lv_sub hl [2, 3, 4, 5, 6] rfl)
  · have hk0 : sq_kE st (xs (i + 1)) = 0 := (sq_nI_eq0 (sq_kE_le st (xs (i + 1)))).mp hz9
    refine lv_aload_n hx hb dL_law_567 rfl (lv_at hl 6 rfl) ?_
    refine lv_iconst (v := nI 0) hx hb dL_law_568 (by decide +kernel) ?_
    refine va_lald hx hb hK hP 25 2 rfl rfl (vp_in_nI (by decide) (by decide)) dL_law_569 ?_
    refine lv_iload hx hb dL_law_570 (lv_at hl 0 rfl) ?_
    refine lv_i2l (v := (sq_mrE ms (xs (i + 1))).toInt64) hx hb dL_law_572 rfl ?_
    refine W.lcmp hx hb dL_law_573 ?_
    have hg0 : (sq_o (sq_kE st (xs (i + 1))) g (sq_rE st (xs (i + 1)))) (nI 0).toNatClampNeg = (sq_mrE ms (xs (i + 1))).toInt64 := by rw [hrr hk0]; unfold sq_o; rw [if_pos hk0]; exact pk_uLs
    refine lv_if_eq (tgt := 579) hx hb dL_law_574 (by decide) (fun _ => ?_) (fun hn9 => absurd (by rw [hg0]; exact sq_cmp0 _) hn9)
    refine lv_goto (tgt := 706) hx hb dL_law_579 (by decide) ?_
    exact hnext _ _ _ H locs ls hI2 hP hD hS (lv_sub hl [2, 3, 4, 5, 6] rfl)
set_option maxHeartbeats 2000000 in
set_option maxRecDepth 100000 in
theorem law_6 {p : Program} {l : Launch} {e : Env} {s : State} {m : MethodId} {below : List Frame} {meth : Method} {c : Code} {dC : Nat → ClassId} {dI : Nat → Nat → Nat} {b L : Nat} {xs : Nat → Int32} (hl9 : l.stackTraces = false) (hL : L ≤ 4096) (C0 : lw_At p s m meth c b L xs) {S : Nat → Nat} (hZ : sq_Z sq_cC sq_cD RX0 sq_cS sq_cN S (fun q : Nat => s.heap.size ≤ q) s s.heap) {h0 m0 o : Nat} {q qm : Nat → Nat} {cI cZ cL : ClassId} (hK : va_K (dC, dI) vwCl [(cI, .int), (cZ, .boolean), (cL, .long)] s) (i cc1 ss1 : Nat) (hi : i + 8 ≤ L) (hcc : cc1 + 1 ≤ 1060) (hss : ss1 + 6 ≤ 15759) (hnext : ∀ (st ms : SqS) (g : Nat → Int64) (H : Heap) (locs : List Loc) (ls : Array Slot), sq_Inv st ms → va_P (dC, dI) vwCl (wL h0 m0 o q qm cI cZ cL st ms g) H → va_D (fun q : Nat => s.heap.size ≤ q) (wL h0 m0 o q qm cI cZ cL st ms g) → va_S (fun q : Nat => s.heap.size ≤ q) s.heap H locs → lv_has ls 7 [(4, .int (nI i)), (0, .ref b), (1, .ref h0), (2, .ref m0), (3, .ref o)] → W p l e room_1 s m #[Value.ref b] below meth c H locs (cc1 + 1) (ss1 + 6) (lw_Z below #[Value.ref b] s) (F0 m 706 ls [])) :
    ∀ (st ms : SqS) (g : Nat → Int64) (H : Heap) (locs : List Loc) (ls : Array Slot), sq_Inv st ms → va_P (dC, dI) vwCl (wL h0 m0 o q qm cI cZ cL st ms g) H → va_D (fun q : Nat => s.heap.size ≤ q) (wL h0 m0 o q qm cI cZ cL st ms g) → va_S (fun q : Nat => s.heap.size ≤ q) s.heap H locs → lv_has ls 7 [(4, .int (nI i)), (0, .ref b), (1, .ref h0), (2, .ref m0), (3, .ref o)] → W p l e room_1 s m #[Value.ref b] below meth c H locs cc1 ss1 (lw_Z below #[Value.ref b] s) (F0 m 582 ls []) := by
  obtain ⟨hx, hb, hr, hml, hown, hts, hX, hbl, hlocks, hgv⟩ := C0
  have hown : s.vm.findClass RL = some m.cls := hown
  have hA : ∀ q : Nat, s.heap.size ≤ q → (fun q : Nat => s.heap.size ≤ q) q := fun _ h => h
  have hbA : ¬ (fun q : Nat => s.heap.size ≤ q) b := Nat.not_le.mpr hbl
  have hK2 : va_K (dC, dI) vwCl [(cI, .int), (cZ, .boolean)] s := hK.sub [0, 1] rfl
  intro st ms g H locs ls hI hP hD hS hl
  have hq := sq_q_R hI (xs (i + 1)) (xs (i + 2))
  refine lv_aload_n hx hb dL_law_582 rfl (lv_at hl 2 rfl) ?_
  refine lv_aload_n hx hb dL_law_583 rfl (lv_at hl 1 rfl) ?_
  refine lv_iload hx hb dL_law_584 (lv_at hl 0 rfl) ?_
  refine lv_iconst (v := nI 1) hx hb dL_law_586 (by decide +kernel) ?_
  refine sq_iadd hx hb dL_law_587 ?_
  refine sq_sld hx hb hX hbl hbA hS (i := (i + 1)) (by omega) (by omega) dL_law_588 ?_
  refine lv_aload_n hx hb dL_law_589 rfl (lv_at hl 1 rfl) ?_
  refine lv_iload hx hb dL_law_590 (lv_at hl 0 rfl) ?_
  refine lv_iconst (v := nI 2) hx hb dL_law_592 (by decide +kernel) ?_
  refine sq_iadd hx hb dL_law_593 ?_
  refine sq_sld hx hb hX hbl hbA hS (i := (i + 2)) (by omega) (by omega) dL_law_594 ?_
  refine lv_aload_n hx hb dL_law_595 rfl (lv_at hl 4 rfl) ?_
  refine sq_callW (As := [.ref h0, .int (xs (i + 1)), .int (xs (i + 2)), .ref o]) (rest := []) (wr := (wM m0 qm cI cZ (ms.1 0) (ms.1 1) (ms.1 2) (ms.1 3) (ms.1 4) (ms.1 5) (ms.1 6) (ms.1 7) (ms.1 8) (ms.1 9) (ms.1 10) (ms.1 11) (ms.2 0) (ms.2 1) (ms.2 2) (ms.2 3) (ms.2 4) (ms.2 5) (ms.2 6) (ms.2 7) (ms.2 8) (ms.2 9) (ms.2 10))) (w_result l hl9 S dC dI h0 q cI cZ o cL g st (xs (i + 1)) (xs (i + 2)) hI.1) ⟨hx, hb, hml, hown, hts⟩ (vx_cwSW 4 hts (sq_goodL gsL_80) rfl rfl rfl (by decide +kernel) ⟨Nat.le_of_ble_eq_true rfl, Nat.le_of_ble_eq_true rfl⟩) hK hP hD hS hA hZ [0, 1, 2, 3, 4, 5, 6, 7, 8, 9, 10, 11, 25] [12, 13, 14, 15, 16, 17, 18, 19, 20, 21, 22, 23, 24] rfl rfl rfl (by decide) (by decide) (by decide) rfl hl.1 rfl (Nat.le_of_ble_eq_true rfl) dL_law_596 ⟨hcc, hss⟩ (fun H locs hP hD hS => ?_)
  have hP := hP.sub (ws' := (wL h0 m0 o q qm cI cZ cL st ms (sq_o (sq_kR st (xs (i + 1)) (xs (i + 2))) g (sq_rR st (xs (i + 1)) (xs (i + 2)))))) [13, 14, 15, 16, 17, 18, 19, 20, 21, 22, 23, 24, 0, 1, 2, 3, 4, 5, 6, 7, 8, 9, 10, 11, 12, 25] rfl
  have hD := hD.sub (ws' := (wL h0 m0 o q qm cI cZ cL st ms (sq_o (sq_kR st (xs (i + 1)) (xs (i + 2))) g (sq_rR st (xs (i + 1)) (xs (i + 2)))))) [13, 14, 15, 16, 17, 18, 19, 20, 21, 22, 23, 24, 0, 1, 2, 3, 4, 5, 6, 7, 8, 9, 10, 11, 12, 25] (by decide) rfl
  refine lv_istore (lv' := [(5, .int (nI (sq_kR st (xs (i + 1)) (xs (i + 2))))), (4, .int (nI i)), (0, .ref b), (1, .ref h0), (2, .ref m0), (3, .ref o)]) hx hb dL_law_599 hl (by decide) rfl (fun ls hl => ?_)
  refine lv_aload_n hx hb dL_law_601 rfl (lv_at hl 4 rfl) ?_
  refine lv_aload_n hx hb dL_law_602 rfl (lv_at hl 2 rfl) ?_
  refine lv_iload hx hb dL_law_603 (lv_at hl 1 rfl) ?_
  refine lv_iconst (v := nI 1) hx hb dL_law_605 (by decide +kernel) ?_
  refine sq_iadd hx hb dL_law_606 ?_
  refine sq_sld hx hb hX hbl hbA hS (i := (i + 1)) (by omega) (by omega) dL_law_607 ?_
  refine lv_aload_n hx hb dL_law_608 rfl (lv_at hl 2 rfl) ?_
  refine lv_iload hx hb dL_law_609 (lv_at hl 1 rfl) ?_
  refine lv_iconst (v := nI 2) hx hb dL_law_611 (by decide +kernel) ?_
  refine sq_iadd hx hb dL_law_612 ?_
  refine sq_sld hx hb hX hbl hbA hS (i := (i + 2)) (by omega) (by omega) dL_law_613 ?_
  refine sq_calliS (As := [.int (xs (i + 1)), .int (xs (i + 2))]) (rest := []) (wr := ((wX h0 q cI cZ ((st).1 0) ((st).1 1) ((st).1 2) ((st).1 3) ((st).1 4) ((st).1 5) ((st).1 6) ((st).1 7) ((st).1 8) ((st).1 9) ((st).1 10) ((st).2 0) ((st).2 1) ((st).2 2) ((st).2 3) ((st).2 4) ((st).2 5) ((st).2 6) ((st).2 7) ((st).2 8)) ++ [(o, .inl (cL, 1, .inr (.inl (sq_o (sq_kR st (xs (i + 1)) (xs (i + 2))) g (sq_rR st (xs (i + 1)) (xs (i + 2)))))))])) (k_result l dC dI m0 qm cI cZ ms (xs (i + 1)) (xs (i + 2)) hI.2.1) ⟨hx, hb, hml, hown, hts⟩ (cwV 2 hts (sq_goodL gvL_83) rfl rfl rfl (by decide +kernel) ⟨Nat.le_of_ble_eq_true rfl, Nat.le_of_ble_eq_true rfl⟩) hK2 hP hD hS hA [12, 13, 14, 15, 16, 17, 18, 19, 20, 21, 22, 23, 24] [0, 1, 2, 3, 4, 5, 6, 7, 8, 9, 10, 11, 25] rfl rfl rfl (by decide) (by decide) (by decide) rfl rfl rfl rfl hl.1 rfl (Nat.le_of_ble_eq_true rfl) dL_law_614 ⟨hcc, hss⟩ (fun H locs hP hD hS => ?_)
  have hP := hP.sub (ws' := (wL h0 m0 o q qm cI cZ cL st (sq_mt ms (sq_mkR ms (xs (i + 1)) (xs (i + 2)))) (sq_o (sq_kR st (xs (i + 1)) (xs (i + 2))) g (sq_rR st (xs (i + 1)) (xs (i + 2)))))) [0, 1, 2, 3, 4, 5, 6, 7, 8, 9, 10, 11, 13, 14, 15, 16, 17, 18, 19, 20, 21, 22, 23, 24, 25, 12] rfl
  have hD := hD.sub (ws' := (wL h0 m0 o q qm cI cZ cL st (sq_mt ms (sq_mkR ms (xs (i + 1)) (xs (i + 2)))) (sq_o (sq_kR st (xs (i + 1)) (xs (i + 2))) g (sq_rR st (xs (i + 1)) (xs (i + 2)))))) [0, 1, 2, 3, 4, 5, 6, 7, 8, 9, 10, 11, 13, 14, 15, 16, 17, 18, 19, 20, 21, 22, 23, 24, 25, 12] (by decide) rfl
  refine lv_istore (lv' := [(6, .int (sq_mrR ms (xs (i + 1)) (xs (i + 2)))), (5, .int (nI (sq_kR st (xs (i + 1)) (xs (i + 2))))), (4, .int (nI i)), (0, .ref b), (1, .ref h0), (2, .ref m0), (3, .ref o)]) hx hb dL_law_617 hl (by decide) rfl (fun ls hl => ?_)
  refine lv_aload_n hx hb dL_law_619 rfl (lv_at hl 5 rfl) ?_
  refine sq_calliS (As := []) (rest := []) (wr := ((wX h0 q cI cZ ((st).1 0) ((st).1 1) ((st).1 2) ((st).1 3) ((st).1 4) ((st).1 5) ((st).1 6) ((st).1 7) ((st).1 8) ((st).1 9) ((st).1 10) ((st).2 0) ((st).2 1) ((st).2 2) ((st).2 3) ((st).2 4) ((st).2 5) ((st).2 6) ((st).2 7) ((st).2 8)) ++ [(o, .inl (cL, 1, .inr (.inl (sq_o (sq_kR st (xs (i + 1)) (xs (i + 2))) g (sq_rR st (xs (i + 1)) (xs (i + 2)))))))])) (k_thrown l dC dI m0 qm cI cZ (sq_mt ms (sq_mkR ms (xs (i + 1)) (xs (i + 2))))) ⟨hx, hb, hml, hown, hts⟩ (cwV 0 hts (sq_goodL gvL_57) rfl rfl rfl (by decide +kernel) ⟨Nat.le_of_ble_eq_true rfl, Nat.le_of_ble_eq_true rfl⟩) hK2 hP hD hS hA [12, 13, 14, 15, 16, 17, 18, 19, 20, 21, 22, 23, 24] [0, 1, 2, 3, 4, 5, 6, 7, 8, 9, 10, 11, 25] rfl rfl rfl (by decide) (by decide) (by decide) rfl rfl rfl rfl hl.1 rfl (Nat.le_of_ble_eq_true rfl) dL_law_620 ⟨hcc, hss⟩ (fun H locs hP hD hS => ?_)
  have hP := hP.sub (ws' := (wL h0 m0 o q qm cI cZ cL st (sq_mt ms (sq_mkR ms (xs (i + 1)) (xs (i + 2)))) (sq_o (sq_kR st (xs (i + 1)) (xs (i + 2))) g (sq_rR st (xs (i + 1)) (xs (i + 2)))))) [0, 1, 2, 3, 4, 5, 6, 7, 8, 9, 10, 11, 13, 14, 15, 16, 17, 18, 19, 20, 21, 22, 23, 24, 25, 12] rfl
  have hD := hD.sub (ws' := (wL h0 m0 o q qm cI cZ cL st (sq_mt ms (sq_mkR ms (xs (i + 1)) (xs (i + 2)))) (sq_o (sq_kR st (xs (i + 1)) (xs (i + 2))) g (sq_rR st (xs (i + 1)) (xs (i + 2)))))) [0, 1, 2, 3, 4, 5, 6, 7, 8, 9, 10, 11, 13, 14, 15, 16, 17, 18, 19, 20, 21, 22, 23, 24, 25, 12] (by decide) rfl
  have h0k : (sq_mt ms (sq_mkR ms (xs (i + 1)) (xs (i + 2)))).2 0 = sq_kR st (xs (i + 1)) (xs (i + 2)) := hq.1
  have hrr : sq_kR st (xs (i + 1)) (xs (i + 2)) = 0 → sq_mrR ms (xs (i + 1)) (xs (i + 2)) = sq_rR st (xs (i + 1)) (xs (i + 2)) := hq.2
  have hI2 : sq_Inv (st) (sq_mt ms (sq_mkR ms (xs (i + 1)) (xs (i + 2)))) := sq_Inv_mt hI _
  refine lv_iload hx hb dL_law_623 (lv_at hl 1 rfl) ?_
  refine lv_icmp_eq (tgt := 630) hx hb dL_law_625 (by decide) (fun _ => ?_) (fun hn9 => absurd (by rw [h0k]) hn9)
  refine lv_iload hx hb dL_law_630 (lv_at hl 1 rfl) ?_
  refine lv_if_ne (tgt := 647) hx hb dL_law_632 (by decide) (fun _ => ?_) (fun hz9 => ?_)
  · refine lv_goto (tgt := 706) hx hb dL_law_647 (by decide) ?_
    exact hnext _ _ _ H locs ls hI2 hP hD hS (lv_sub hl [2, 3, 4, 5, 6] rfl)
  · have hk0 : sq_kR st (xs (i + 1)) (xs (i + 2)) = 0 := (sq_nI_eq0 (sq_kR_le st (xs (i + 1)) (xs (i + 2)))).mp hz9
    refine lv_aload_n hx hb dL_law_635 rfl (lv_at hl 6 rfl) ?_
    refine lv_iconst (v := nI 0) hx hb dL_law_636 (by decide +kernel) ?_
    refine va_lald hx hb hK hP 25 2 rfl rfl (vp_in_nI (by decide) (by decide)) dL_law_637 ?_
    refine lv_iload hx hb dL_law_638 (lv_at hl 0 rfl) ?_
    refine lv_i2l (v := (sq_mrR ms (xs (i + 1)) (xs (i + 2))).toInt64) hx hb dL_law_640 rfl ?_
    refine W.lcmp hx hb dL_law_641 ?_
    have hg0 : (sq_o (sq_kR st (xs (i + 1)) (xs (i + 2))) g (sq_rR st (xs (i + 1)) (xs (i + 2)))) (nI 0).toNatClampNeg = (sq_mrR ms (xs (i + 1)) (xs (i + 2))).toInt64 := by rw [hrr hk0]; unfold sq_o; rw [if_pos hk0]; exact pk_uLs
    refine lv_if_eq (tgt := 647) hx hb dL_law_642 (by decide) (fun _ => ?_) (fun hn9 => absurd (by rw [hg0]; exact sq_cmp0 _) hn9)
    refine lv_goto (tgt := 706) hx hb dL_law_647 (by decide) ?_
    exact hnext _ _ _ H locs ls hI2 hP hD hS (lv_sub hl [2, 3, 4, 5, 6] rfl)
set_option maxHeartbeats 2000000 in
set_option maxRecDepth 100000 in
theorem law_7 {p : Program} {l : Launch} {e : Env} {s : State} {m : MethodId} {below : List Frame} {meth : Method} {c : Code} {dC : Nat → ClassId} {dI : Nat → Nat → Nat} {b L : Nat} {xs : Nat → Int32} (hl9 : l.stackTraces = false) (hL : L ≤ 4096) (C0 : lw_At p s m meth c b L xs) {S : Nat → Nat} (hZ : sq_Z sq_cC sq_cD RX0 sq_cS sq_cN S (fun q : Nat => s.heap.size ≤ q) s s.heap) {h0 m0 o : Nat} {q qm : Nat → Nat} {cI cZ cL : ClassId} (hK : va_K (dC, dI) vwCl [(cI, .int), (cZ, .boolean), (cL, .long)] s) (i cc1 ss1 : Nat) (hi : i + 8 ≤ L) (hcc : cc1 + 1 ≤ 1060) (hss : ss1 + 6 ≤ 15759) (hnext : ∀ (st ms : SqS) (g : Nat → Int64) (H : Heap) (locs : List Loc) (ls : Array Slot), sq_Inv st ms → va_P (dC, dI) vwCl (wL h0 m0 o q qm cI cZ cL st ms g) H → va_D (fun q : Nat => s.heap.size ≤ q) (wL h0 m0 o q qm cI cZ cL st ms g) → va_S (fun q : Nat => s.heap.size ≤ q) s.heap H locs → lv_has ls 7 [(4, .int (nI i)), (0, .ref b), (1, .ref h0), (2, .ref m0), (3, .ref o)] → W p l e room_1 s m #[Value.ref b] below meth c H locs (cc1 + 1) (ss1 + 6) (lw_Z below #[Value.ref b] s) (F0 m 706 ls [])) :
    ∀ (st ms : SqS) (g : Nat → Int64) (H : Heap) (locs : List Loc) (ls : Array Slot), sq_Inv st ms → va_P (dC, dI) vwCl (wL h0 m0 o q qm cI cZ cL st ms g) H → va_D (fun q : Nat => s.heap.size ≤ q) (wL h0 m0 o q qm cI cZ cL st ms g) → va_S (fun q : Nat => s.heap.size ≤ q) s.heap H locs → lv_has ls 7 [(4, .int (nI i)), (0, .ref b), (1, .ref h0), (2, .ref m0), (3, .ref o)] → W p l e room_1 s m #[Value.ref b] below meth c H locs cc1 ss1 (lw_Z below #[Value.ref b] s) (F0 m 650 ls []) := by
  obtain ⟨hx, hb, hr, hml, hown, hts, hX, hbl, hlocks, hgv⟩ := C0
  have hown : s.vm.findClass RL = some m.cls := hown
  have hA : ∀ q : Nat, s.heap.size ≤ q → (fun q : Nat => s.heap.size ≤ q) q := fun _ h => h
  have hbA : ¬ (fun q : Nat => s.heap.size ≤ q) b := Nat.not_le.mpr hbl
  have hK2 : va_K (dC, dI) vwCl [(cI, .int), (cZ, .boolean)] s := hK.sub [0, 1] rfl
  intro st ms g H locs ls hI hP hD hS hl
  have hq := sq_q_A hI (xs (i + 1))
  refine lv_aload_n hx hb dL_law_650 rfl (lv_at hl 2 rfl) ?_
  refine lv_aload_n hx hb dL_law_651 rfl (lv_at hl 1 rfl) ?_
  refine lv_iload hx hb dL_law_652 (lv_at hl 0 rfl) ?_
  refine lv_iconst (v := nI 1) hx hb dL_law_654 (by decide +kernel) ?_
  refine sq_iadd hx hb dL_law_655 ?_
  refine sq_sld hx hb hX hbl hbA hS (i := (i + 1)) (by omega) (by omega) dL_law_656 ?_
  refine lv_aload_n hx hb dL_law_657 rfl (lv_at hl 4 rfl) ?_
  refine sq_callW (As := [.ref h0, .int (xs (i + 1)), .ref o]) (rest := []) (wr := (wM m0 qm cI cZ (ms.1 0) (ms.1 1) (ms.1 2) (ms.1 3) (ms.1 4) (ms.1 5) (ms.1 6) (ms.1 7) (ms.1 8) (ms.1 9) (ms.1 10) (ms.1 11) (ms.2 0) (ms.2 1) (ms.2 2) (ms.2 3) (ms.2 4) (ms.2 5) (ms.2 6) (ms.2 7) (ms.2 8) (ms.2 9) (ms.2 10))) (w_about l hl9 S dC dI h0 q cI cZ o cL g st (xs (i + 1)) hI.1) ⟨hx, hb, hml, hown, hts⟩ (vx_cwSW 3 hts (sq_goodL gsL_84) rfl rfl rfl (by decide +kernel) ⟨Nat.le_of_ble_eq_true rfl, Nat.le_of_ble_eq_true rfl⟩) hK hP hD hS hA hZ [0, 1, 2, 3, 4, 5, 6, 7, 8, 9, 10, 11, 25] [12, 13, 14, 15, 16, 17, 18, 19, 20, 21, 22, 23, 24] rfl rfl rfl (by decide) (by decide) (by decide) rfl hl.1 rfl (Nat.le_of_ble_eq_true rfl) dL_law_658 ⟨hcc, hss⟩ (fun H locs hP hD hS => ?_)
  have hP := hP.sub (ws' := (wL h0 m0 o q qm cI cZ cL st ms (sq_o (sq_kA (xs (i + 1))) g (sq_rA st (xs (i + 1)))))) [13, 14, 15, 16, 17, 18, 19, 20, 21, 22, 23, 24, 0, 1, 2, 3, 4, 5, 6, 7, 8, 9, 10, 11, 12, 25] rfl
  have hD := hD.sub (ws' := (wL h0 m0 o q qm cI cZ cL st ms (sq_o (sq_kA (xs (i + 1))) g (sq_rA st (xs (i + 1)))))) [13, 14, 15, 16, 17, 18, 19, 20, 21, 22, 23, 24, 0, 1, 2, 3, 4, 5, 6, 7, 8, 9, 10, 11, 12, 25] (by decide) rfl
  refine lv_istore (lv' := [(5, .int (nI (sq_kA (xs (i + 1))))), (4, .int (nI i)), (0, .ref b), (1, .ref h0), (2, .ref m0), (3, .ref o)]) hx hb dL_law_661 hl (by decide) rfl (fun ls hl => ?_)
  refine lv_aload_n hx hb dL_law_663 rfl (lv_at hl 4 rfl) ?_
  refine lv_aload_n hx hb dL_law_664 rfl (lv_at hl 2 rfl) ?_
  refine lv_iload hx hb dL_law_665 (lv_at hl 1 rfl) ?_
  refine lv_iconst (v := nI 1) hx hb dL_law_667 (by decide +kernel) ?_
  refine sq_iadd hx hb dL_law_668 ?_
  refine sq_sld hx hb hX hbl hbA hS (i := (i + 1)) (by omega) (by omega) dL_law_669 ?_
  refine sq_calliS (As := [.int (xs (i + 1))]) (rest := []) (wr := ((wX h0 q cI cZ ((st).1 0) ((st).1 1) ((st).1 2) ((st).1 3) ((st).1 4) ((st).1 5) ((st).1 6) ((st).1 7) ((st).1 8) ((st).1 9) ((st).1 10) ((st).2 0) ((st).2 1) ((st).2 2) ((st).2 3) ((st).2 4) ((st).2 5) ((st).2 6) ((st).2 7) ((st).2 8)) ++ [(o, .inl (cL, 1, .inr (.inl (sq_o (sq_kA (xs (i + 1))) g (sq_rA st (xs (i + 1)))))))])) (k_about l dC dI m0 qm cI cZ ms (xs (i + 1)) hI.2.1) ⟨hx, hb, hml, hown, hts⟩ (cwV 1 hts (sq_goodL gvL_86) rfl rfl rfl (by decide +kernel) ⟨Nat.le_of_ble_eq_true rfl, Nat.le_of_ble_eq_true rfl⟩) hK2 hP hD hS hA [12, 13, 14, 15, 16, 17, 18, 19, 20, 21, 22, 23, 24] [0, 1, 2, 3, 4, 5, 6, 7, 8, 9, 10, 11, 25] rfl rfl rfl (by decide) (by decide) (by decide) rfl rfl rfl rfl hl.1 rfl (Nat.le_of_ble_eq_true rfl) dL_law_670 ⟨hcc, hss⟩ (fun H locs hP hD hS => ?_)
  have hP := hP.sub (ws' := (wL h0 m0 o q qm cI cZ cL st (sq_mt ms (sq_mkA (xs (i + 1)))) (sq_o (sq_kA (xs (i + 1))) g (sq_rA st (xs (i + 1)))))) [0, 1, 2, 3, 4, 5, 6, 7, 8, 9, 10, 11, 13, 14, 15, 16, 17, 18, 19, 20, 21, 22, 23, 24, 25, 12] rfl
  have hD := hD.sub (ws' := (wL h0 m0 o q qm cI cZ cL st (sq_mt ms (sq_mkA (xs (i + 1)))) (sq_o (sq_kA (xs (i + 1))) g (sq_rA st (xs (i + 1)))))) [0, 1, 2, 3, 4, 5, 6, 7, 8, 9, 10, 11, 13, 14, 15, 16, 17, 18, 19, 20, 21, 22, 23, 24, 25, 12] (by decide) rfl
  refine lv_istore (lv' := [(6, .int (sq_mrA ms (xs (i + 1)))), (5, .int (nI (sq_kA (xs (i + 1))))), (4, .int (nI i)), (0, .ref b), (1, .ref h0), (2, .ref m0), (3, .ref o)]) hx hb dL_law_673 hl (by decide) rfl (fun ls hl => ?_)
  refine lv_aload_n hx hb dL_law_675 rfl (lv_at hl 5 rfl) ?_
  refine sq_calliS (As := []) (rest := []) (wr := ((wX h0 q cI cZ ((st).1 0) ((st).1 1) ((st).1 2) ((st).1 3) ((st).1 4) ((st).1 5) ((st).1 6) ((st).1 7) ((st).1 8) ((st).1 9) ((st).1 10) ((st).2 0) ((st).2 1) ((st).2 2) ((st).2 3) ((st).2 4) ((st).2 5) ((st).2 6) ((st).2 7) ((st).2 8)) ++ [(o, .inl (cL, 1, .inr (.inl (sq_o (sq_kA (xs (i + 1))) g (sq_rA st (xs (i + 1)))))))])) (k_thrown l dC dI m0 qm cI cZ (sq_mt ms (sq_mkA (xs (i + 1))))) ⟨hx, hb, hml, hown, hts⟩ (cwV 0 hts (sq_goodL gvL_57) rfl rfl rfl (by decide +kernel) ⟨Nat.le_of_ble_eq_true rfl, Nat.le_of_ble_eq_true rfl⟩) hK2 hP hD hS hA [12, 13, 14, 15, 16, 17, 18, 19, 20, 21, 22, 23, 24] [0, 1, 2, 3, 4, 5, 6, 7, 8, 9, 10, 11, 25] rfl rfl rfl (by decide) (by decide) (by decide) rfl rfl rfl rfl hl.1 rfl (Nat.le_of_ble_eq_true rfl) dL_law_676 ⟨hcc, hss⟩ (fun H locs hP hD hS => ?_)
  have hP := hP.sub (ws' := (wL h0 m0 o q qm cI cZ cL st (sq_mt ms (sq_mkA (xs (i + 1)))) (sq_o (sq_kA (xs (i + 1))) g (sq_rA st (xs (i + 1)))))) [0, 1, 2, 3, 4, 5, 6, 7, 8, 9, 10, 11, 13, 14, 15, 16, 17, 18, 19, 20, 21, 22, 23, 24, 25, 12] rfl
  have hD := hD.sub (ws' := (wL h0 m0 o q qm cI cZ cL st (sq_mt ms (sq_mkA (xs (i + 1)))) (sq_o (sq_kA (xs (i + 1))) g (sq_rA st (xs (i + 1)))))) [0, 1, 2, 3, 4, 5, 6, 7, 8, 9, 10, 11, 13, 14, 15, 16, 17, 18, 19, 20, 21, 22, 23, 24, 25, 12] (by decide) rfl
  have h0k : (sq_mt ms (sq_mkA (xs (i + 1)))).2 0 = sq_kA (xs (i + 1)) := hq.1
  have hrr : sq_kA (xs (i + 1)) = 0 → sq_mrA ms (xs (i + 1)) = sq_rA st (xs (i + 1)) := hq.2
  have hI2 : sq_Inv (st) (sq_mt ms (sq_mkA (xs (i + 1)))) := sq_Inv_mt hI _
  refine lv_iload hx hb dL_law_679 (lv_at hl 1 rfl) ?_
  refine lv_icmp_eq (tgt := 686) hx hb dL_law_681 (by decide) (fun _ => ?_) (fun hn9 => absurd (by rw [h0k]) hn9)
  refine lv_iload hx hb dL_law_686 (lv_at hl 1 rfl) ?_
  refine lv_if_ne (tgt := 703) hx hb dL_law_688 (by decide) (fun _ => ?_) (fun hz9 => ?_)
  · refine lv_goto (tgt := 706) hx hb dL_law_703 (by decide) ?_
    exact hnext _ _ _ H locs ls hI2 hP hD hS (lv_sub hl [2, 3, 4, 5, 6] rfl)
  · have hk0 : sq_kA (xs (i + 1)) = 0 := (sq_nI_eq0 (sq_kA_le (xs (i + 1)))).mp hz9
    refine lv_aload_n hx hb dL_law_691 rfl (lv_at hl 6 rfl) ?_
    refine lv_iconst (v := nI 0) hx hb dL_law_692 (by decide +kernel) ?_
    refine va_lald hx hb hK hP 25 2 rfl rfl (vp_in_nI (by decide) (by decide)) dL_law_693 ?_
    refine lv_iload hx hb dL_law_694 (lv_at hl 0 rfl) ?_
    refine lv_i2l (v := (sq_mrA ms (xs (i + 1))).toInt64) hx hb dL_law_696 rfl ?_
    refine W.lcmp hx hb dL_law_697 ?_
    have hg0 : (sq_o (sq_kA (xs (i + 1))) g (sq_rA st (xs (i + 1)))) (nI 0).toNatClampNeg = (sq_mrA ms (xs (i + 1))).toInt64 := by rw [hrr hk0]; unfold sq_o; rw [if_pos hk0]; exact pk_uLs
    refine lv_if_eq (tgt := 703) hx hb dL_law_698 (by decide) (fun _ => ?_) (fun hn9 => absurd (by rw [hg0]; exact sq_cmp0 _) hn9)
    refine lv_goto (tgt := 706) hx hb dL_law_703 (by decide) ?_
    exact hnext _ _ _ H locs ls hI2 hP hD hS (lv_sub hl [2, 3, 4, 5, 6] rfl)
