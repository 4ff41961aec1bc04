def rm_fill : Room := { frames := 0, cells := 0, slots := 0, locals := 0 }
theorem sq_set_same {ws : va_W} {k : Nat} {x : Nat × va_E} (h : ws[k]? = some x) : ws.set k x = ws := by
  apply List.ext_getElem?
  intro i
  by_cases hi : k = i
  · subst hi
    rw [List.getElem?_set_self (List.getElem?_eq_some_iff.mp h).1, h]
  · rw [List.getElem?_set_ne hi]
set_option maxHeartbeats 4000000 in
set_option maxRecDepth 100000 in
/-- Arrays.fill of ints: every place holds v -/
theorem c_fill (l : Launch) (D : va_G) (cl : List vw_C) (tys : List (ClassId × FieldType)) (ws : va_W) (k t0 a : Nat) (cI : ClassId) (n : Nat) (f : Nat → Int32) (v : Int32) (ha : ws[k]? = some (a, .inl (cI, n, .inl f))) (ht : tys[t0]? = some (cI, .int)) (hn : n < 2 ^ 31) : sq_Mv l yJ_fill wsJ_fill rm_fill [.ref a, .int v] D cl tys ws (ws.set k (a, .inl (cI, n, .inl (sq_G (sq_dR n) (fun _ => v) f)))) := by
  refine sq_ofWv (cc := cJ_fill) (maxL := 4) (by decide) rfl (Nat.le_of_ble_eq_true rfl) ?_
  intro p e s m args below meth c A ls Q hx hb hts hown hml hK hP hD hS hA hl hend
  have hl : lv_has ls 4 [(0, .ref a), (1, .int v)] := hl
  have hkl : k < ws.length := (List.getElem?_eq_some_iff.mp ha).1
  have L1 : ∀ j t : Nat, t + j = n → ∀ (H : Heap) (locs : List Loc) (ls : Array Slot), va_P D cl (ws.set k (a, .inl (cI, n, .inl (sq_G (sq_dR t) (fun _ => v) f)))) H → va_D A (ws.set k (a, .inl (cI, n, .inl (sq_G (sq_dR t) (fun _ => v) f)))) → va_S A s.heap H locs → lv_has ls 4 [(2, .int (nI t)), (3, .int (nI n)), (0, .ref a), (1, .int v)] → W p l e rm_fill s m args below meth c H locs 0 0 Q (F0 m 5 ls []) := by
    intro j
    induction j using Nat.strongRecOn with
    | _ j ih =>
      intro t ht1 H locs ls hP hD hS hl
      refine lv_iload_n hx hb dJ_fill_5 rfl (lv_at hl 0 rfl) ?_
      refine lv_iload_n hx hb dJ_fill_6 rfl (lv_at hl 1 rfl) ?_
      refine sq_icmp_ge (tgt := 20) hx hb (by omega) (by omega) dJ_fill_7 (by decide) (fun hc => ?_) (fun hc => ?_)
      · rw [show t = n by omega] at hP hD
        exact hend _ _ _ _ hP hD hS dJ_fill_20
      · refine lv_aload_n hx hb dJ_fill_10 rfl (lv_at hl 2 rfl) ?_
        refine lv_iload_n hx hb dJ_fill_11 rfl (lv_at hl 0 rfl) ?_
        refine lv_iload_n hx hb dJ_fill_12 rfl (lv_at hl 3 rfl) ?_
        refine sq_iast hx hb hK hP hD hS k t0 (List.getElem?_set_self hkl) ht (i := t) hc hn dJ_fill_13 (fun H locs hP hD hS => ?_)
        rw [List.set_set, sq_G_step (d' := sq_dR (t + 1)) rfl (sq_dR_step t)] at hP hD
        refine lv_iinc (v := nI (t + 1)) (lv' := [(2, .int (nI (t + 1))), (3, .int (nI n)), (0, .ref a), (1, .int v)]) hx hb dJ_fill_14 hl (k := 0) rfl (sq_inc _) (by decide) rfl (fun ls hl => ?_)
        refine lv_goto (tgt := 5) hx hb dJ_fill_17 (by decide) ?_
        exact ih (j - 1) (by omega) (t + 1) (by omega) H locs ls hP hD hS hl
  refine lv_iconst (v := nI 0) hx hb dJ_fill_0 (by decide +kernel) ?_
  refine lv_istore_n (lv' := [(2, .int (nI 0)), (0, .ref a), (1, .int v)]) hx hb dJ_fill_1 rfl hl (by decide) rfl (fun ls hl => ?_)
  refine lv_aload_n hx hb dJ_fill_2 rfl (lv_at hl 1 rfl) ?_
  refine va_alen (v := nI n) hx hb hK hP k t0 ha ht rfl dJ_fill_3 ?_
  refine lv_istore_n (lv' := [(3, .int (nI n)), (2, .int (nI 0)), (0, .ref a), (1, .int v)]) hx hb dJ_fill_4 rfl hl (by decide) rfl (fun ls hl => ?_)
  have e9 : (ws.set k (a, .inl (cI, n, .inl (sq_G (sq_dR 0) (fun _ => v) f)))) = ws := sq_set_same (by rw [ha, sq_G_none (fun j => by simp [sq_dR])])
  rw [← e9] at hP hD
  exact L1 n 0 (by omega) _ _ ls hP hD hS (lv_sub hl [1, 0, 2, 3] rfl)
section SqCallS
variable {p : Program} {l : Launch} {e : Env} {R : Room} {s : State} {m : MethodId} {args : Array Value} {below : List Frame} {meth : Method} {c : Code} {H : Heap} {locs : List Loc} {cells slots : Nat} {Q : State → Prop} {cc : ByteArray} {pc : Nat} {ls : Array Slot} {rest : List Value}
variable {D : va_G} {cl : List vw_C} {ws w' : va_W} {tys : List (ClassId × FieldType)} {A : Nat → Prop}
variable {y : MethodName} {bytes : ByteArray} {maxL nL n index : Nat} {ret : Option FieldType} {wsy : List Cond} {rm : Room} {Ts : List Cond} {own : String} {As st0 : List Value}
/-- a static call on the world as it stands -/
theorem sq_callsv (hM : sq_Mv l y wsy rm As D cl tys ws w') (S : CallFix p m c cc nL s args Ts own) (cw : CallB R s args own index y bytes maxL ret wsy rm 0 0 n ∧ (Cond.static y).before args s = true)
    (hK : va_K D cl tys s) (hP : va_P D cl ws H) (hD : va_D A ws) (hS : va_S A s.heap H locs) (hA : ∀ q : Nat, s.heap.size ≤ q → A q)
    (hn : As.length = n) (hsz : ls.size = nL) (hst : st0 = As.reverse ++ rest) (hW : (rest.map fun v => v.category).sum ≤ 8) (hdg : decode cc pc = .ok (.invokestatic index, 3)) (hf : cells ≤ R.cells ∧ slots ≤ R.slots)
    (kk : ∀ (H1 : Heap) (locs1 : List Loc), va_P D cl w' H1 → va_D A w' → va_S A s.heap H1 locs1 → W p l e R s m args below meth c H1 locs1 cells slots Q (F0 m (pc + 3) ls rest)) : W p l e R s m args below meth c H locs cells slots Q (F0 m pc ls st0) := by
  have hFc := va_free (wc := ws) hD hS hA (List.range ws.length) (sq_allC ws)
  refine va_callv (va_runS (As := As) (rest := rest) S (hM H.size) cw ⟨sq_blind, fun U hU hW => ⟨rfl, by rw [hU], by rw [hU]; exact hP, va_K.moved hW.alike hK, hD.weaken (fun _ _ _ _ => trivial)⟩⟩ rfl hn hsz hst (lv_room hW) hdg ⟨hf.1, hf.2⟩) hS (fun q _ h => hFc q h) hFc (fun u t H1 locs ht hvm hw hB hz1 hk1 hS => ?_)
  obtain ⟨hP1, hK1, hD1⟩ := hB
  rw [ht] at hP1
  obtain ⟨hP2, hD2⟩ := va_join (wr := []) (w1 := w') hP hD (List.range ws.length) [] (sq_allC ws) rfl (by decide) (fun i h => by cases h) hk1 hFc hP1 hD1
  exact kk H1 locs hP2 hD2 hS
end SqCallS
def rm_clearTo : Room := { frames := 1, cells := 0, slots := 0, locals := 23 }
set_option maxHeartbeats 4000000 in
set_option maxRecDepth 100000 in
theorem c_clearTo (l : Launch) (dC : Nat → ClassId) (dI : Nat → Nat → Nat) (h0 : Nat) (q : Nat → Nat) (cI cZ : ClassId) (a0 a1 a2 a3 a4 a5 a6 a7 a8 a9 a10 : Nat → Int32) (f0 f1 f2 f3 f4 f5 f6 f7 f8 : Nat) (n0 : Nat)  : sq_Mv l yX0_clearTo wsX0_clearTo rm_clearTo [.ref h0, .int (nI n0)] (dC, dI) vwCl [(cI, .int), (cZ, .boolean)] (wX h0 q cI cZ a0 a1 a2 a3 a4 a5 a6 a7 a8 a9 a10 f0 f1 f2 f3 f4 f5 f6 f7 f8) (wX h0 q cI cZ a0 a1 a2 a3 a4 (sq_G (sq_dR 11) (fun _ => -1) a5) (sq_G (sq_dR 36) (fun _ => nI 0) a6) (sq_G (sq_dR 36) (fun _ => nI 0) a7) (sq_G (sq_dR 36) (fun _ => nI 0) a8) (sq_G (sq_dR 36) (fun _ => nI 0) a9) (sq_G (sq_dR 36) (fun _ => nI 0) a10) n0 0 0 0 0 0 0 0 0) := by
  refine sq_ofWv (cc := cX0_clearTo) (maxL := 3) (by decide) rfl (Nat.le_of_ble_eq_true rfl) ?_
  intro p e s m args below meth c A ls Q hx hb hts hown hml hK hP hD hS hA hl hend
  have hl : lv_has ls 3 [(0, .ref h0), (1, .int (nI n0))] := hl
  have hin : ∀ w ∈ u_ws RX0 TX0 20, w ∈ wsX0_clearTo := fun w h => List.mem_cons_of_mem _ (inX0 w h)
  have k26 := hts _ (List.mem_cons_of_mem _ mfX0_26)
  have k29 := hts _ (List.mem_cons_of_mem _ mfX0_29)
  have k32 := hts _ (List.mem_cons_of_mem _ mfX0_32)
  have k35 := hts _ (List.mem_cons_of_mem _ mfX0_35)
  have k38 := hts _ (List.mem_cons_of_mem _ mfX0_38)
  have k41 := hts _ (List.mem_cons_of_mem _ mfX0_41)
  have k55 := hts _ (List.mem_cons_of_mem _ mfX0_55)
  have k64 := hts _ (List.mem_cons_of_mem _ mfX0_64)
  have k70 := hts _ (List.mem_cons_of_mem _ mfX0_70)
  have k98 := hts _ (List.mem_cons_of_mem _ mfX0_98)
  have k112 := hts _ (List.mem_cons_of_mem _ mfX0_112)
  have k115 := hts _ (List.mem_cons_of_mem _ mfX0_115)
  have k124 := hts _ (List.mem_cons_of_mem _ mfX0_124)
  have k129 := hts _ (List.mem_cons_of_mem _ mfX0_129)
  have k132 := hts _ (List.mem_cons_of_mem _ mfX0_132)
  refine lv_aload_n hx hb dX0_clearTo_0 rfl (lv_at hl 0 rfl) ?_
  refine lv_iload_n hx hb dX0_clearTo_1 rfl (lv_at hl 1 rfl) ?_
  refine va_put (D := (dC, dI)) (ci := 0) (v := .int (nI n0)) (ty := .int) (C := RX0) (T := TX0) (N := 20) hx hb hts hin tyX0 tyX0_ok nmX0 hown hK hP hD hS 0 rfl rfl 11 (by decide) k124 (fun _ h9 => h9) rfl (by decide +kernel) rfl rfl (Nat.le_of_ble_eq_true rfl) dX0_clearTo_2 (fun H locs hP hD hS => ?_)
  have hP : va_P (dC, dI) vwCl (wX h0 q cI cZ a0 a1 a2 a3 a4 a5 a6 a7 a8 a9 a10 n0 f1 f2 f3 f4 f5 f6 f7 f8) H := hP
  have hD : va_D A (wX h0 q cI cZ a0 a1 a2 a3 a4 a5 a6 a7 a8 a9 a10 n0 f1 f2 f3 f4 f5 f6 f7 f8) := hD
  refine lv_aload_n hx hb dX0_clearTo_5 rfl (lv_at hl 0 rfl) ?_
  refine lv_iconst (v := nI 0) hx hb dX0_clearTo_6 (by decide +kernel) ?_
  refine va_put (D := (dC, dI)) (ci := 0) (v := .int (nI 0)) (ty := .int) (C := RX0) (T := TX0) (N := 20) hx hb hts hin tyX0 tyX0_ok nmX0 hown hK hP hD hS 0 rfl rfl 12 (by decide) k70 (fun _ h9 => h9) rfl (by decide +kernel) rfl rfl (Nat.le_of_ble_eq_true rfl) dX0_clearTo_7 (fun H locs hP hD hS => ?_)
  have hP : va_P (dC, dI) vwCl (wX h0 q cI cZ a0 a1 a2 a3 a4 a5 a6 a7 a8 a9 a10 n0 0 f2 f3 f4 f5 f6 f7 f8) H := hP
  have hD : va_D A (wX h0 q cI cZ a0 a1 a2 a3 a4 a5 a6 a7 a8 a9 a10 n0 0 f2 f3 f4 f5 f6 f7 f8) := hD
  refine lv_aload_n hx hb dX0_clearTo_10 rfl (lv_at hl 0 rfl) ?_
  refine lv_iconst (v := nI 0) hx hb dX0_clearTo_11 (by decide +kernel) ?_
  refine va_put (D := (dC, dI)) (ci := 0) (v := .int (nI 0)) (ty := .int) (C := RX0) (T := TX0) (N := 20) hx hb hts hin tyX0 tyX0_ok nmX0 hown hK hP hD hS 0 rfl rfl 13 (by decide) k55 (fun _ h9 => h9) rfl (by decide +kernel) rfl rfl (Nat.le_of_ble_eq_true rfl) dX0_clearTo_12 (fun H locs hP hD hS => ?_)
  have hP : va_P (dC, dI) vwCl (wX h0 q cI cZ a0 a1 a2 a3 a4 a5 a6 a7 a8 a9 a10 n0 0 0 f3 f4 f5 f6 f7 f8) H := hP
  have hD : va_D A (wX h0 q cI cZ a0 a1 a2 a3 a4 a5 a6 a7 a8 a9 a10 n0 0 0 f3 f4 f5 f6 f7 f8) := hD
  refine lv_aload_n hx hb dX0_clearTo_15 rfl (lv_at hl 0 rfl) ?_
  refine lv_iconst (v := nI 0) hx hb dX0_clearTo_16 (by decide +kernel) ?_
  refine va_put (D := (dC, dI)) (ci := 0) (v := .int (nI 0)) (ty := .int) (C := RX0) (T := TX0) (N := 20) hx hb hts hin tyX0 tyX0_ok nmX0 hown hK hP hD hS 0 rfl rfl 14 (by decide) k112 (fun _ h9 => h9) rfl (by decide +kernel) rfl rfl (Nat.le_of_ble_eq_true rfl) dX0_clearTo_17 (fun H locs hP hD hS => ?_)
  have hP : va_P (dC, dI) vwCl (wX h0 q cI cZ a0 a1 a2 a3 a4 a5 a6 a7 a8 a9 a10 n0 0 0 0 f4 f5 f6 f7 f8) H := hP
  have hD : va_D A (wX h0 q cI cZ a0 a1 a2 a3 a4 a5 a6 a7 a8 a9 a10 n0 0 0 0 f4 f5 f6 f7 f8) := hD
  refine lv_aload_n hx hb dX0_clearTo_20 rfl (lv_at hl 0 rfl) ?_
  refine lv_iconst (v := nI 0) hx hb dX0_clearTo_21 (by decide +kernel) ?_
  refine va_put (D := (dC, dI)) (ci := 0) (v := .int (nI 0)) (ty := .int) (C := RX0) (T := TX0) (N := 20) hx hb hts hin tyX0 tyX0_ok nmX0 hown hK hP hD hS 0 rfl rfl 15 (by decide) k129 (fun _ h9 => h9) rfl (by decide +kernel) rfl rfl (Nat.le_of_ble_eq_true rfl) dX0_clearTo_22 (fun H locs hP hD hS => ?_)
  have hP : va_P (dC, dI) vwCl (wX h0 q cI cZ a0 a1 a2 a3 a4 a5 a6 a7 a8 a9 a10 n0 0 0 0 0 f5 f6 f7 f8) H := hP
  have hD : va_D A (wX h0 q cI cZ a0 a1 a2 a3 a4 a5 a6 a7 a8 a9 a10 n0 0 0 0 0 f5 f6 f7 f8) := hD
  refine lv_aload_n hx hb dX0_clearTo_25 rfl (lv_at hl 0 rfl) ?_
  refine lv_iconst (v := nI 0) hx hb dX0_clearTo_26 (by decide +kernel) ?_
  refine va_put (D := (dC, dI)) (ci := 0) (v := .int (nI 0)) (ty := .int) (C := RX0) (T := TX0) (N := 20) hx hb hts hin tyX0 tyX0_ok nmX0 hown hK hP hD hS 0 rfl rfl 16 (by decide) k64 (fun _ h9 => h9) rfl (by decide +kernel) rfl rfl (Nat.le_of_ble_eq_true rfl) dX0_clearTo_27 (fun H locs hP hD hS => ?_)
  have hP : va_P (dC, dI) vwCl (wX h0 q cI cZ a0 a1 a2 a3 a4 a5 a6 a7 a8 a9 a10 n0 0 0 0 0 0 f6 f7 f8) H := hP
  have hD : va_D A (wX h0 q cI cZ a0 a1 a2 a3 a4 a5 a6 a7 a8 a9 a10 n0 0 0 0 0 0 f6 f7 f8) := hD
  refine lv_aload_n hx hb dX0_clearTo_30 rfl (lv_at hl 0 rfl) ?_
  refine lv_iconst (v := nI 0) hx hb dX0_clearTo_31 (by decide +kernel) ?_
  refine va_put (D := (dC, dI)) (ci := 0) (v := .int (nI 0)) (ty := .int) (C := RX0) (T := TX0) (N := 20) hx hb hts hin tyX0 tyX0_ok nmX0 hown hK hP hD hS 0 rfl rfl 17 (by decide) k98 (fun _ h9 => h9) rfl (by decide +kernel) rfl rfl (Nat.le_of_ble_eq_true rfl) dX0_clearTo_32 (fun H locs hP hD hS => ?_)
  have hP : va_P (dC, dI) vwCl (wX h0 q cI cZ a0 a1 a2 a3 a4 a5 a6 a7 a8 a9 a10 n0 0 0 0 0 0 0 f7 f8) H := hP
  have hD : va_D A (wX h0 q cI cZ a0 a1 a2 a3 a4 a5 a6 a7 a8 a9 a10 n0 0 0 0 0 0 0 f7 f8) := hD
  refine lv_aload_n hx hb dX0_clearTo_35 rfl (lv_at hl 0 rfl) ?_
  refine lv_iconst (v := nI 0) hx hb dX0_clearTo_36 (by decide +kernel) ?_
  refine va_put (D := (dC, dI)) (ci := 0) (v := .int (nI 0)) (ty := .int) (C := RX0) (T := TX0) (N := 20) hx hb hts hin tyX0 tyX0_ok nmX0 hown hK hP hD hS 0 rfl rfl 18 (by decide) k115 (fun _ h9 => h9) rfl (by decide +kernel) rfl rfl (Nat.le_of_ble_eq_true rfl) dX0_clearTo_37 (fun H locs hP hD hS => ?_)
  have hP : va_P (dC, dI) vwCl (wX h0 q cI cZ a0 a1 a2 a3 a4 a5 a6 a7 a8 a9 a10 n0 0 0 0 0 0 0 0 f8) H := hP
  have hD : va_D A (wX h0 q cI cZ a0 a1 a2 a3 a4 a5 a6 a7 a8 a9 a10 n0 0 0 0 0 0 0 0 f8) := hD
  refine lv_aload_n hx hb dX0_clearTo_40 rfl (lv_at hl 0 rfl) ?_
  refine lv_iconst (v := nI 0) hx hb dX0_clearTo_41 (by decide +kernel) ?_
  refine va_put (D := (dC, dI)) (ci := 0) (v := .int (nI 0)) (ty := .int) (C := RX0) (T := TX0) (N := 20) hx hb hts hin tyX0 tyX0_ok nmX0 hown hK hP hD hS 0 rfl rfl 19 (by decide) k132 (fun _ h9 => h9) rfl (by decide +kernel) rfl rfl (Nat.le_of_ble_eq_true rfl) dX0_clearTo_42 (fun H locs hP hD hS => ?_)
  have hP : va_P (dC, dI) vwCl (wX h0 q cI cZ a0 a1 a2 a3 a4 a5 a6 a7 a8 a9 a10 n0 0 0 0 0 0 0 0 0) H := hP
  have hD : va_D A (wX h0 q cI cZ a0 a1 a2 a3 a4 a5 a6 a7 a8 a9 a10 n0 0 0 0 0 0 0 0 0) := hD
  refine lv_aload_n hx hb dX0_clearTo_45 rfl (lv_at hl 0 rfl) ?_
  refine va_get (D := (dC, dI)) (ci := 0) (v := .ref (q 5)) (C := RX0) (T := TX0) (N := 20) hx hb hts hin hown hK hP 0 rfl rfl 5 (by decide) k26 (fun _ h9 => h9) rfl dX0_clearTo_46 ?_
  refine lv_iconst (v := (-1)) hx hb dX0_clearTo_49 (by decide +kernel) ?_
  refine sq_callsv (As := [.ref (q 5), .int (-1)]) (c_fill l (dC, dI) vwCl [(cI, .int), (cZ, .boolean)] (wX h0 q cI cZ a0 a1 a2 a3 a4 a5 a6 a7 a8 a9 a10 n0 0 0 0 0 0 0 0 0) 6 0 (q 5) cI 11 a5 (-1) rfl rfl (by decide)) ⟨hx, hb, hml, hown, hts⟩ (va_cwS 2 hts (sq_good gsX0_135) rfl rfl rfl (by decide +kernel) ⟨Nat.le_of_ble_eq_true rfl, Nat.le_of_ble_eq_true rfl⟩) hK hP hD hS hA rfl hl.1 rfl (Nat.le_of_ble_eq_true rfl) dX0_clearTo_50 ⟨Nat.zero_le _, Nat.zero_le _⟩ (fun H locs hP hD hS => ?_)
  have hP : va_P (dC, dI) vwCl (wX h0 q cI cZ a0 a1 a2 a3 a4 (sq_G (sq_dR 11) (fun _ => -1) a5) a6 a7 a8 a9 a10 n0 0 0 0 0 0 0 0 0) H := hP
  have hD : va_D A (wX h0 q cI cZ a0 a1 a2 a3 a4 (sq_G (sq_dR 11) (fun _ => -1) a5) a6 a7 a8 a9 a10 n0 0 0 0 0 0 0 0 0) := hD
  refine lv_aload_n hx hb dX0_clearTo_53 rfl (lv_at hl 0 rfl) ?_
  refine va_get (D := (dC, dI)) (ci := 0) (v := .ref (q 6)) (C := RX0) (T := TX0) (N := 20) hx hb hts hin hown hK hP 0 rfl rfl 6 (by decide) k29 (fun _ h9 => h9) rfl dX0_clearTo_54 ?_
  refine lv_iconst (v := nI 0) hx hb dX0_clearTo_57 (by decide +kernel) ?_
  refine sq_callsv (As := [.ref (q 6), .int (nI 0)]) (c_fill l (dC, dI) vwCl [(cI, .int), (cZ, .boolean)] (wX h0 q cI cZ a0 a1 a2 a3 a4 (sq_G (sq_dR 11) (fun _ => -1) a5) a6 a7 a8 a9 a10 n0 0 0 0 0 0 0 0 0) 7 0 (q 6) cI 36 a6 (nI 0) rfl rfl (by decide)) ⟨hx, hb, hml, hown, hts⟩ (va_cwS 2 hts (sq_good gsX0_135) rfl rfl rfl (by decide +kernel) ⟨Nat.le_of_ble_eq_true rfl, Nat.le_of_ble_eq_true rfl⟩) hK hP hD hS hA rfl hl.1 rfl (Nat.le_of_ble_eq_true rfl) dX0_clearTo_58 ⟨Nat.zero_le _, Nat.zero_le _⟩ (fun H locs hP hD hS => ?_)
  have hP : va_P (dC, dI) vwCl (wX h0 q cI cZ a0 a1 a2 a3 a4 (sq_G (sq_dR 11) (fun _ => -1) a5) (sq_G (sq_dR 36) (fun _ => nI 0) a6) a7 a8 a9 a10 n0 0 0 0 0 0 0 0 0) H := hP
  have hD : va_D A (wX h0 q cI cZ a0 a1 a2 a3 a4 (sq_G (sq_dR 11) (fun _ => -1) a5) (sq_G (sq_dR 36) (fun _ => nI 0) a6) a7 a8 a9 a10 n0 0 0 0 0 0 0 0 0) := hD
  refine lv_aload_n hx hb dX0_clearTo_61 rfl (lv_at hl 0 rfl) ?_
  refine va_get (D := (dC, dI)) (ci := 0) (v := .ref (q 7)) (C := RX0) (T := TX0) (N := 20) hx hb hts hin hown hK hP 0 rfl rfl 7 (by decide) k32 (fun _ h9 => h9) rfl dX0_clearTo_62 ?_
  refine lv_iconst (v := nI 0) hx hb dX0_clearTo_65 (by decide +kernel) ?_
  refine sq_callsv (As := [.ref (q 7), .int (nI 0)]) (c_fill l (dC, dI) vwCl [(cI, .int), (cZ, .boolean)] (wX h0 q cI cZ a0 a1 a2 a3 a4 (sq_G (sq_dR 11) (fun _ => -1) a5) (sq_G (sq_dR 36) (fun _ => nI 0) a6) a7 a8 a9 a10 n0 0 0 0 0 0 0 0 0) 8 0 (q 7) cI 36 a7 (nI 0) rfl rfl (by decide)) ⟨hx, hb, hml, hown, hts⟩ (va_cwS 2 hts (sq_good gsX0_135) rfl rfl rfl (by decide +kernel) ⟨Nat.le_of_ble_eq_true rfl, Nat.le_of_ble_eq_true rfl⟩) hK hP hD hS hA rfl hl.1 rfl (Nat.le_of_ble_eq_true rfl) dX0_clearTo_66 ⟨Nat.zero_le _, Nat.zero_le _⟩ (fun H locs hP hD hS => ?_)
  have hP : va_P (dC, dI) vwCl (wX h0 q cI cZ a0 a1 a2 a3 a4 (sq_G (sq_dR 11) (fun _ => -1) a5) (sq_G (sq_dR 36) (fun _ => nI 0) a6) (sq_G (sq_dR 36) (fun _ => nI 0) a7) a8 a9 a10 n0 0 0 0 0 0 0 0 0) H := hP
  have hD : va_D A (wX h0 q cI cZ a0 a1 a2 a3 a4 (sq_G (sq_dR 11) (fun _ => -1) a5) (sq_G (sq_dR 36) (fun _ => nI 0) a6) (sq_G (sq_dR 36) (fun _ => nI 0) a7) a8 a9 a10 n0 0 0 0 0 0 0 0 0) := hD
  refine lv_aload_n hx hb dX0_clearTo_69 rfl (lv_at hl 0 rfl) ?_
  refine va_get (D := (dC, dI)) (ci := 0) (v := .ref (q 8)) (C := RX0) (T := TX0) (N := 20) hx hb hts hin hown hK hP 0 rfl rfl 8 (by decide) k35 (fun _ h9 => h9) rfl dX0_clearTo_70 ?_
  refine lv_iconst (v := nI 0) hx hb dX0_clearTo_73 (by decide +kernel) ?_
  refine sq_callsv (As := [.ref (q 8), .int (nI 0)]) (c_fill l (dC, dI) vwCl [(cI, .int), (cZ, .boolean)] (wX h0 q cI cZ a0 a1 a2 a3 a4 (sq_G (sq_dR 11) (fun _ => -1) a5) (sq_G (sq_dR 36) (fun _ => nI 0) a6) (sq_G (sq_dR 36) (fun _ => nI 0) a7) a8 a9 a10 n0 0 0 0 0 0 0 0 0) 9 0 (q 8) cI 36 a8 (nI 0) rfl rfl (by decide)) ⟨hx, hb, hml, hown, hts⟩ (va_cwS 2 hts (sq_good gsX0_135) rfl rfl rfl (by decide +kernel) ⟨Nat.le_of_ble_eq_true rfl, Nat.le_of_ble_eq_true rfl⟩) hK hP hD hS hA rfl hl.1 rfl (Nat.le_of_ble_eq_true rfl) dX0_clearTo_74 ⟨Nat.zero_le _, Nat.zero_le _⟩ (fun H locs hP hD hS => ?_)
  have hP : va_P (dC, dI) vwCl (wX h0 q cI cZ a0 a1 a2 a3 a4 (sq_G (sq_dR 11) (fun _ => -1) a5) (sq_G (sq_dR 36) (fun _ => nI 0) a6) (sq_G (sq_dR 36) (fun _ => nI 0) a7) (sq_G (sq_dR 36) (fun _ => nI 0) a8) a9 a10 n0 0 0 0 0 0 0 0 0) H := hP
  have hD : va_D A (wX h0 q cI cZ a0 a1 a2 a3 a4 (sq_G (sq_dR 11) (fun _ => -1) a5) (sq_G (sq_dR 36) (fun _ => nI 0) a6) (sq_G (sq_dR 36) (fun _ => nI 0) a7) (sq_G (sq_dR 36) (fun _ => nI 0) a8) a9 a10 n0 0 0 0 0 0 0 0 0) := hD
  refine lv_aload_n hx hb dX0_clearTo_77 rfl (lv_at hl 0 rfl) ?_
  refine va_get (D := (dC, dI)) (ci := 0) (v := .ref (q 9)) (C := RX0) (T := TX0) (N := 20) hx hb hts hin hown hK hP 0 rfl rfl 9 (by decide) k38 (fun _ h9 => h9) rfl dX0_clearTo_78 ?_
  refine lv_iconst (v := nI 0) hx hb dX0_clearTo_81 (by decide +kernel) ?_
  refine sq_callsv (As := [.ref (q 9), .int (nI 0)]) (c_fill l (dC, dI) vwCl [(cI, .int), (cZ, .boolean)] (wX h0 q cI cZ a0 a1 a2 a3 a4 (sq_G (sq_dR 11) (fun _ => -1) a5) (sq_G (sq_dR 36) (fun _ => nI 0) a6) (sq_G (sq_dR 36) (fun _ => nI 0) a7) (sq_G (sq_dR 36) (fun _ => nI 0) a8) a9 a10 n0 0 0 0 0 0 0 0 0) 10 0 (q 9) cI 36 a9 (nI 0) rfl rfl (by decide)) ⟨hx, hb, hml, hown, hts⟩ (va_cwS 2 hts (sq_good gsX0_135) rfl rfl rfl (by decide +kernel) ⟨Nat.le_of_ble_eq_true rfl, Nat.le_of_ble_eq_true rfl⟩) hK hP hD hS hA rfl hl.1 rfl (Nat.le_of_ble_eq_true rfl) dX0_clearTo_82 ⟨Nat.zero_le _, Nat.zero_le _⟩ (fun H locs hP hD hS => ?_)
  have hP : va_P (dC, dI) vwCl (wX h0 q cI cZ a0 a1 a2 a3 a4 (sq_G (sq_dR 11) (fun _ => -1) a5) (sq_G (sq_dR 36) (fun _ => nI 0) a6) (sq_G (sq_dR 36) (fun _ => nI 0) a7) (sq_G (sq_dR 36) (fun _ => nI 0) a8) (sq_G (sq_dR 36) (fun _ => nI 0) a9) a10 n0 0 0 0 0 0 0 0 0) H := hP
  have hD : va_D A (wX h0 q cI cZ a0 a1 a2 a3 a4 (sq_G (sq_dR 11) (fun _ => -1) a5) (sq_G (sq_dR 36) (fun _ => nI 0) a6) (sq_G (sq_dR 36) (fun _ => nI 0) a7) (sq_G (sq_dR 36) (fun _ => nI 0) a8) (sq_G (sq_dR 36) (fun _ => nI 0) a9) a10 n0 0 0 0 0 0 0 0 0) := hD
  refine lv_iconst (v := nI 0) hx hb dX0_clearTo_85 (by decide +kernel) ?_
  refine lv_istore_n (lv' := [(2, .int (nI 0)), (0, .ref h0), (1, .int (nI n0))]) hx hb dX0_clearTo_86 rfl hl (by decide) rfl (fun ls hl => ?_)
  have L1 : ∀ j t : Nat, t + j = 36 → ∀ (H : Heap) (locs : List Loc) (ls : Array Slot), va_P (dC, dI) vwCl (wX h0 q cI cZ a0 a1 a2 a3 a4 (sq_G (sq_dR 11) (fun _ => -1) a5) (sq_G (sq_dR 36) (fun _ => nI 0) a6) (sq_G (sq_dR 36) (fun _ => nI 0) a7) (sq_G (sq_dR 36) (fun _ => nI 0) a8) (sq_G (sq_dR 36) (fun _ => nI 0) a9) (sq_G (sq_dR t) (fun _ => nI 0) a10) n0 0 0 0 0 0 0 0 0) H → va_D A (wX h0 q cI cZ a0 a1 a2 a3 a4 (sq_G (sq_dR 11) (fun _ => -1) a5) (sq_G (sq_dR 36) (fun _ => nI 0) a6) (sq_G (sq_dR 36) (fun _ => nI 0) a7) (sq_G (sq_dR 36) (fun _ => nI 0) a8) (sq_G (sq_dR 36) (fun _ => nI 0) a9) (sq_G (sq_dR t) (fun _ => nI 0) a10) n0 0 0 0 0 0 0 0 0) → va_S A s.heap H locs → lv_has ls 3 [(2, .int (nI t)), (0, .ref h0), (1, .int (nI n0))] → W p l e rm_clearTo s m args below meth c H locs 0 0 Q (F0 m 87 ls []) := by
    intro j
    induction j using Nat.strongRecOn with
    | _ j ih =>
      intro t ht H locs ls hP hD hS hl
      refine lv_iload_n hx hb dX0_clearTo_87 rfl (lv_at hl 0 rfl) ?_
      refine lv_bipush (v := nI 36) hx hb dX0_clearTo_88 (by decide +kernel) ?_
      refine sq_icmp_ge (tgt := 106) hx hb (by omega) (by omega) dX0_clearTo_90 (by decide) (fun hc => ?_) (fun hc => ?_)
      · rw [show t = 36 by omega] at hP hD
        exact hend _ _ _ _ hP hD hS dX0_clearTo_106
      · refine lv_aload_n hx hb dX0_clearTo_93 rfl (lv_at hl 1 rfl) ?_
        refine va_get (D := (dC, dI)) (ci := 0) (v := .ref (q 10)) (C := RX0) (T := TX0) (N := 20) hx hb hts hin hown hK hP 0 rfl rfl 10 (by decide) k41 (fun _ h9 => h9) rfl dX0_clearTo_94 ?_
        refine lv_iload_n hx hb dX0_clearTo_97 rfl (lv_at hl 0 rfl) ?_
        refine lv_iconst (v := nI 0) hx hb dX0_clearTo_98 (by decide +kernel) ?_
        refine sq_zast hx hb hK hP hD hS 11 1 rfl rfl (i := t) (by omega) (by decide) (by decide) dX0_clearTo_99 (fun H locs hP hD hS => ?_)
        have hP : va_P (dC, dI) vwCl (wX h0 q cI cZ a0 a1 a2 a3 a4 (sq_G (sq_dR 11) (fun _ => -1) a5) (sq_G (sq_dR 36) (fun _ => nI 0) a6) (sq_G (sq_dR 36) (fun _ => nI 0) a7) (sq_G (sq_dR 36) (fun _ => nI 0) a8) (sq_G (sq_dR 36) (fun _ => nI 0) a9) (upd (sq_G (sq_dR t) (fun _ => nI 0) a10) t (nI 0)) n0 0 0 0 0 0 0 0 0) H := hP
        have hD : va_D A (wX h0 q cI cZ a0 a1 a2 a3 a4 (sq_G (sq_dR 11) (fun _ => -1) a5) (sq_G (sq_dR 36) (fun _ => nI 0) a6) (sq_G (sq_dR 36) (fun _ => nI 0) a7) (sq_G (sq_dR 36) (fun _ => nI 0) a8) (sq_G (sq_dR 36) (fun _ => nI 0) a9) (upd (sq_G (sq_dR t) (fun _ => nI 0) a10) t (nI 0)) n0 0 0 0 0 0 0 0 0) := hD
        have eA : upd (sq_G (sq_dR t) (fun _ => nI 0) a10) t (nI 0) = sq_G (sq_dR (t + 1)) (fun _ => nI 0) a10 := sq_G_step rfl (sq_dR_step t)
        rw [eA] at hP hD
        clear eA
        refine lv_iinc (v := nI (t + 1)) (lv' := [(2, .int (nI (t + 1))), (0, .ref h0), (1, .int (nI n0))]) hx hb dX0_clearTo_100 hl (k := 0) rfl (sq_inc _) (by decide) rfl (fun ls hl => ?_)
        refine lv_goto (tgt := 87) hx hb dX0_clearTo_103 (by decide) ?_
        exact ih (j - 1) (by omega) (t + 1) (by omega) H locs ls hP hD hS hl
  rw [← sq_G_none (d := sq_dR 0) (new := fun _ => nI 0) (old := a10) (fun j => by simp [sq_dR])] at hP hD
  exact L1 36 0 (by omega) _ _ ls hP hD hS hl
