def rm_goOn : Room := { frames := 2, cells := 0, slots := 0, locals := 47 }
set_option maxHeartbeats 4000000 in
set_option maxRecDepth 100000 in
theorem c_goOn (l : Launch) (dC : Nat → ClassId) (dI : Nat → Nat → Nat) (h0 : Nat) (q : Nat → Nat) (cI cZ : ClassId) (a0 a1 a2 a3 a4 a5 a6 a7 a8 a9 a10 : Nat → Int32) (f0 f1 f2 f3 f4 f5 f6 f7 f8 : Nat)  (b0 : 1 ≤ f0) (b1 : f0 ≤ 6) (b6 : f6 ≤ 200) (hok : sq_okA a5 f6) (h01 : sq_01 a3) (m01 : sq_01 a10) : sq_Mv l yX0_goOn wsX0_goOn rm_goOn [.ref h0] (dC, dI) vwCl [(cI, .int), (cZ, .boolean)] (wX h0 q cI cZ a0 a1 a2 a3 a4 a5 a6 a7 a8 a9 a10 f0 f1 f2 f3 f4 f5 f6 f7 f8) (wX h0 q cI cZ a0 a1 a2 a3 a4 a5 (sq_G (sq_dG f0 0 0) (sq_gI a5 a1 a6) a6) (sq_G (sq_dG f0 0 0) (sq_gS a5 a1 a3 a6 a10 a8 a9 a7) a7) (sq_G (sq_dG f0 0 0) (sq_gF a5 a3 a10 a8 a9) a8) a9 (sq_G (sq_dG f0 0 0) (sq_gM a5 a3 a10) a10) f0 f1 f2 f3 f4 f5 f6 f7 f8) := by
  refine sq_ofWv (cc := cX0_goOn) (maxL := 4) (by decide) rfl (Nat.le_of_ble_eq_true rfl) ?_
  intro p e s m args below meth c A ls Q hx hb hts hown hml hK hP hD hS hA hl hend
  have hl : lv_has ls 4 [(0, .ref h0)] := hl
  have hin : ∀ w ∈ u_ws RX0 TX0 20, w ∈ wsX0_goOn := fun w h => List.mem_cons_of_mem _ (inX0 w h)
  have k29 := hts _ (List.mem_cons_of_mem _ mfX0_29)
  have k41 := hts _ (List.mem_cons_of_mem _ mfX0_41)
  have k124 := hts _ (List.mem_cons_of_mem _ mfX0_124)
  have mk01 : ∀ i : Nat, vp_nar .boolean (a10 i) = a10 i := fun i => by rcases m01 i with e | e <;> rw [e] <;> decide
  refine lv_aload_n hx hb dX0_goOn_0 rfl (lv_at hl 0 rfl) ?_
  refine va_get (D := (dC, dI)) (ci := 0) (v := .int (nI f0)) (C := RX0) (T := TX0) (N := 20) hx hb hts hin hown hK hP 0 rfl rfl 11 (by decide) k124 (fun _ h9 => h9) rfl dX0_goOn_1 ?_
  refine lv_iconst (v := nI 1) hx hb dX0_goOn_4 (by decide +kernel) ?_
  refine sq_isub hx hb (by omega) dX0_goOn_5 ?_
  refine lv_istore_n (lv' := [(1, .int (nI (f0 - 1))), (0, .ref h0)]) hx hb dX0_goOn_6 rfl hl (by decide) rfl (fun ls hl => ?_)
  have L1 : ∀ k : Nat, k ≤ f0 → ∀ (x1 : Int32), x1 = nI k - 1 → ∀ (H : Heap) (locs : List Loc) (ls : Array Slot), va_P (dC, dI) vwCl (wX h0 q cI cZ a0 a1 a2 a3 a4 a5 (sq_G (sq_dG f0 k 0) (sq_gI a5 a1 a6) a6) (sq_G (sq_dG f0 k 0) (sq_gS a5 a1 a3 a6 a10 a8 a9 a7) a7) (sq_G (sq_dG f0 k 0) (sq_gF a5 a3 a10 a8 a9) a8) a9 (sq_G (sq_dG f0 k 0) (sq_gM a5 a3 a10) a10) f0 f1 f2 f3 f4 f5 f6 f7 f8) H → va_D A (wX h0 q cI cZ a0 a1 a2 a3 a4 a5 (sq_G (sq_dG f0 k 0) (sq_gI a5 a1 a6) a6) (sq_G (sq_dG f0 k 0) (sq_gS a5 a1 a3 a6 a10 a8 a9 a7) a7) (sq_G (sq_dG f0 k 0) (sq_gF a5 a3 a10 a8 a9) a8) a9 (sq_G (sq_dG f0 k 0) (sq_gM a5 a3 a10) a10) f0 f1 f2 f3 f4 f5 f6 f7 f8) → va_S A s.heap H locs → lv_has ls 4 [(1, .int x1), (0, .ref h0)] → W p l e rm_goOn s m args below meth c H locs 0 0 Q (F0 m 7 ls []) := by
    intro k
    induction k with
    | zero =>
      intro _ x1 e1 H locs ls hP hD hS hl
      refine lv_iload_n hx hb dX0_goOn_7 rfl (lv_at hl 0 rfl) ?_
      refine lv_if_lt (tgt := 68) hx hb dX0_goOn_8 (by decide) (fun _ => ?_) (fun hn => absurd (by rw [e1]; decide) hn)
      exact hend _ _ _ _ hP hD hS dX0_goOn_68
    | succ r ih =>
      intro hr x1 e1 H locs ls hP hD hS hl
      have e2 : x1 = nI r := by rw [e1]; exact nI_pred r
      subst e2
      refine lv_iload_n hx hb dX0_goOn_7 rfl (lv_at hl 0 rfl) ?_
      refine sq_if_lt (tgt := 68) hx hb (by omega) dX0_goOn_8 (by decide) ?_
      have eA : sq_G (sq_dG f0 (r + 1) 0) (sq_gI a5 a1 a6) a6 = sq_G (sq_dG f0 r f0) (sq_gI a5 a1 a6) a6 := sq_G_eq (sq_dG_row f0 r)
      rw [eA] at hP hD
      clear eA
      have eA : sq_G (sq_dG f0 (r + 1) 0) (sq_gM a5 a3 a10) a10 = sq_G (sq_dG f0 r f0) (sq_gM a5 a3 a10) a10 := sq_G_eq (sq_dG_row f0 r)
      rw [eA] at hP hD
      clear eA
      have eA : sq_G (sq_dG f0 (r + 1) 0) (sq_gF a5 a3 a10 a8 a9) a8 = sq_G (sq_dG f0 r f0) (sq_gF a5 a3 a10 a8 a9) a8 := sq_G_eq (sq_dG_row f0 r)
      rw [eA] at hP hD
      clear eA
      have eA : sq_G (sq_dG f0 (r + 1) 0) (sq_gS a5 a1 a3 a6 a10 a8 a9 a7) a7 = sq_G (sq_dG f0 r f0) (sq_gS a5 a1 a3 a6 a10 a8 a9 a7) a7 := sq_G_eq (sq_dG_row f0 r)
      rw [eA] at hP hD
      clear eA
      refine lv_aload_n hx hb dX0_goOn_11 rfl (lv_at hl 1 rfl) ?_
      refine va_get (D := (dC, dI)) (ci := 0) (v := .int (nI f0)) (C := RX0) (T := TX0) (N := 20) hx hb hts hin hown hK hP 0 rfl rfl 11 (by decide) k124 (fun _ h9 => h9) rfl dX0_goOn_12 ?_
      refine lv_iconst (v := nI 1) hx hb dX0_goOn_15 (by decide +kernel) ?_
      refine sq_isub hx hb (by omega) dX0_goOn_16 ?_
      refine lv_istore_n (lv' := [(2, .int (nI (f0 - 1))), (1, .int (nI r)), (0, .ref h0)]) hx hb dX0_goOn_17 rfl hl (by decide) rfl (fun ls hl => ?_)
      have L2 : ∀ t : Nat, t < f0 → ∀ (H : Heap) (locs : List Loc) (ls : Array Slot), va_P (dC, dI) vwCl (wX h0 q cI cZ a0 a1 a2 a3 a4 a5 (sq_G (sq_dG f0 r (t + 1)) (sq_gI a5 a1 a6) a6) (sq_G (sq_dG f0 r (t + 1)) (sq_gS a5 a1 a3 a6 a10 a8 a9 a7) a7) (sq_G (sq_dG f0 r (t + 1)) (sq_gF a5 a3 a10 a8 a9) a8) a9 (sq_G (sq_dG f0 r (t + 1)) (sq_gM a5 a3 a10) a10) f0 f1 f2 f3 f4 f5 f6 f7 f8) H → va_D A (wX h0 q cI cZ a0 a1 a2 a3 a4 a5 (sq_G (sq_dG f0 r (t + 1)) (sq_gI a5 a1 a6) a6) (sq_G (sq_dG f0 r (t + 1)) (sq_gS a5 a1 a3 a6 a10 a8 a9 a7) a7) (sq_G (sq_dG f0 r (t + 1)) (sq_gF a5 a3 a10 a8 a9) a8) a9 (sq_G (sq_dG f0 r (t + 1)) (sq_gM a5 a3 a10) a10) f0 f1 f2 f3 f4 f5 f6 f7 f8) → va_S A s.heap H locs → lv_has ls 4 [(2, .int (nI t)), (1, .int (nI r)), (0, .ref h0)] → W p l e rm_goOn s m args below meth c H locs 0 0 Q (F0 m 18 ls []) := by
        intro t
        induction t using Nat.strongRecOn with
        | _ t ih2 =>
          intro ht H locs ls hP hD hS hl
          refine lv_iload_n hx hb dX0_goOn_18 rfl (lv_at hl 0 rfl) ?_
          refine sq_if_le (tgt := 57) hx hb (by omega) dX0_goOn_19 (by decide) (fun hd => ?_) (fun hd => ?_)
          · subst hd
            refine lv_aload_n hx hb dX0_goOn_57 rfl (lv_at hl 2 rfl) ?_
            refine lv_iload_n hx hb dX0_goOn_58 rfl (lv_at hl 1 rfl) ?_
            refine sq_callv (As := [.int (nI r)]) (c_feed l dC dI h0 q cI cZ a0 a1 a2 a3 a4 a5 (sq_G (sq_dG f0 r (0 + 1)) (sq_gI a5 a1 a6) a6) (sq_G (sq_dG f0 r (0 + 1)) (sq_gS a5 a1 a3 a6 a10 a8 a9 a7) a7) (sq_G (sq_dG f0 r (0 + 1)) (sq_gF a5 a3 a10 a8 a9) a8) a9 (sq_G (sq_dG f0 r (0 + 1)) (sq_gM a5 a3 a10) a10) f0 f1 f2 f3 f4 f5 f6 f7 f8 r (by omega) b6 hok h01) ⟨hx, hb, hml, hown, hts⟩ (cwV 1 hts (sq_good gvX0_166) rfl rfl rfl (by decide +kernel) ⟨Nat.le_of_ble_eq_true rfl, Nat.le_of_ble_eq_true rfl⟩) hK hP hD hS hA rfl rfl rfl rfl hl.1 rfl (Nat.le_of_ble_eq_true rfl) dX0_goOn_59 ⟨Nat.zero_le _, Nat.zero_le _⟩ (fun H locs hP hD hS => ?_)
            have xI : sq_fedI a5 a1 r = sq_gI a5 a1 a6 (r * 6 + 0) := by unfold sq_gI sq_nIn; rw [if_pos (by omega), show (r * 6 + 0) / 6 = r by omega]
            have xM : sq_fedM a5 a3 r = sq_gM a5 a3 a10 (r * 6 + 0) := by unfold sq_gM sq_nIn; rw [if_pos (by omega), show (r * 6 + 0) / 6 = r by omega]
            have dS := sq_dG_step f0 r 0 b1 (by omega) (by omega)
            have e8 : sq_advF (sq_G (sq_dG f0 r (0 + 1)) (sq_gF a5 a3 a10 a8 a9) a8) a9 (r * 6) (sq_fedM a5 a3 r) = sq_G (sq_dG f0 r 0) (sq_gF a5 a3 a10 a8 a9) a8 := by rw [xM]; exact sq_stepF (sq_dG_at f0 r 0 (by omega)) dS
            have e7 : sq_advS (sq_G (sq_dG f0 r (0 + 1)) (sq_gS a5 a1 a3 a6 a10 a8 a9 a7) a7) (sq_advF (sq_G (sq_dG f0 r (0 + 1)) (sq_gF a5 a3 a10 a8 a9) a8) a9 (r * 6) (sq_fedM a5 a3 r)) r (r * 6) (sq_fedI a5 a1 r) = sq_G (sq_dG f0 r 0) (sq_gS a5 a1 a3 a6 a10 a8 a9 a7) a7 := by rw [e8]; exact sq_stepS (by omega) (fun h9 => sq_dG_up f0 r 0 h9 (by omega)) dS (sq_G_new ((dS _).mpr (Or.inr rfl))) xI
            have e6 : upd (sq_G (sq_dG f0 r (0 + 1)) (sq_gI a5 a1 a6) a6) (r * 6) (sq_fedI a5 a1 r) = sq_G (sq_dG f0 r 0) (sq_gI a5 a1 a6) a6 := sq_G_step xI dS
            have e10 : upd (sq_G (sq_dG f0 r (0 + 1)) (sq_gM a5 a3 a10) a10) (r * 6) (sq_fedM a5 a3 r) = sq_G (sq_dG f0 r 0) (sq_gM a5 a3 a10) a10 := sq_G_step xM dS
            have e9 : (wX h0 q cI cZ a0 a1 a2 a3 a4 a5 (sq_G (sq_dG f0 r 0) (sq_gI a5 a1 a6) a6) (sq_G (sq_dG f0 r 0) (sq_gS a5 a1 a3 a6 a10 a8 a9 a7) a7) (sq_G (sq_dG f0 r 0) (sq_gF a5 a3 a10 a8 a9) a8) a9 (sq_G (sq_dG f0 r 0) (sq_gM a5 a3 a10) a10) f0 f1 f2 f3 f4 f5 f6 f7 f8) = (wX h0 q cI cZ a0 a1 a2 a3 a4 a5 (upd (sq_G (sq_dG f0 r (0 + 1)) (sq_gI a5 a1 a6) a6) (r * 6) (sq_fedI a5 a1 r)) (sq_advS (sq_G (sq_dG f0 r (0 + 1)) (sq_gS a5 a1 a3 a6 a10 a8 a9 a7) a7) (sq_advF (sq_G (sq_dG f0 r (0 + 1)) (sq_gF a5 a3 a10 a8 a9) a8) a9 (r * 6) (sq_fedM a5 a3 r)) r (r * 6) (sq_fedI a5 a1 r)) (sq_advF (sq_G (sq_dG f0 r (0 + 1)) (sq_gF a5 a3 a10 a8 a9) a8) a9 (r * 6) (sq_fedM a5 a3 r)) a9 (upd (sq_G (sq_dG f0 r (0 + 1)) (sq_gM a5 a3 a10) a10) (r * 6) (sq_fedM a5 a3 r)) f0 f1 f2 f3 f4 f5 f6 f7 f8) := by rw [e7, e8, e6, e10]
            rw [← e9] at hP hD
            refine lv_iinc (v := (nI r) + Int32.ofInt (-1)) (lv' := [(1, .int ((nI r) + Int32.ofInt (-1))), (2, .int (nI 0)), (0, .ref h0)]) hx hb dX0_goOn_62 hl (k := 1) rfl rfl (by decide) rfl (fun ls hl => ?_)
            refine lv_goto (tgt := 7) hx hb dX0_goOn_65 (by decide) ?_
            exact ih (by omega) _ (by rw [Int32.sub_eq_add_neg]; rfl) H locs ls hP hD hS (lv_sub hl [0, 2] rfl)
          · obtain ⟨t1, rfl⟩ : ∃ t1, t = t1 + 1 := ⟨t - 1, by omega⟩
            refine lv_iload_n hx hb dX0_goOn_22 rfl (lv_at hl 1 rfl) ?_
            refine lv_bipush (v := nI 6) hx hb dX0_goOn_23 (by decide +kernel) ?_
            refine sq_imul hx hb dX0_goOn_25 ?_
            refine lv_iload_n hx hb dX0_goOn_26 rfl (lv_at hl 0 rfl) ?_
            refine sq_iadd hx hb dX0_goOn_27 ?_
            refine lv_istore_n (lv' := [(3, .int (nI ((r * 6) + (t1 + 1)))), (2, .int (nI (t1 + 1))), (1, .int (nI r)), (0, .ref h0)]) hx hb dX0_goOn_28 rfl hl (by decide) rfl (fun ls hl => ?_)
            refine lv_aload_n hx hb dX0_goOn_29 rfl (lv_at hl 3 rfl) ?_
            refine lv_iload_n hx hb dX0_goOn_30 rfl (lv_at hl 2 rfl) ?_
            refine lv_iload_n hx hb dX0_goOn_31 rfl (lv_at hl 0 rfl) ?_
            refine lv_aload_n hx hb dX0_goOn_32 rfl (lv_at hl 3 rfl) ?_
            refine va_get (D := (dC, dI)) (ci := 0) (v := .ref (q 6)) (C := RX0) (T := TX0) (N := 20) hx hb hts hin hown hK hP 0 rfl rfl 6 (by decide) k29 (fun _ h9 => h9) rfl dX0_goOn_33 ?_
            refine lv_iload_n hx hb dX0_goOn_36 rfl (lv_at hl 0 rfl) ?_
            refine lv_iconst (v := nI 1) hx hb dX0_goOn_37 (by decide +kernel) ?_
            refine sq_isub hx hb (by omega) dX0_goOn_38 ?_
            refine sq_iald hx hb hK hP 7 0 rfl rfl (i := (((r * 6) + (t1 + 1)) - 1)) (by omega) (by decide) dX0_goOn_39 ?_
            refine lv_aload_n hx hb dX0_goOn_40 rfl (lv_at hl 3 rfl) ?_
            refine va_get (D := (dC, dI)) (ci := 0) (v := .ref (q 10)) (C := RX0) (T := TX0) (N := 20) hx hb hts hin hown hK hP 0 rfl rfl 10 (by decide) k41 (fun _ h9 => h9) rfl dX0_goOn_41 ?_
            refine lv_iload_n hx hb dX0_goOn_44 rfl (lv_at hl 0 rfl) ?_
            refine lv_iconst (v := nI 1) hx hb dX0_goOn_45 (by decide +kernel) ?_
            refine sq_isub hx hb (by omega) dX0_goOn_46 ?_
            refine sq_zald hx hb hK hP 11 1 rfl rfl (i := (((r * 6) + (t1 + 1)) - 1)) (by omega) (by decide) dX0_goOn_47 ?_
            have x6 : (sq_G (sq_dG f0 r (t1 + 1 + 1)) (sq_gI a5 a1 a6) a6) (((r * 6) + (t1 + 1)) - 1) = a6 (r * 6 + (t1 + 1) - 1) := sq_G_old (sq_dG_left f0 r (t1 + 1) (by omega) (by omega))
            have x10 : (sq_G (sq_dG f0 r (t1 + 1 + 1)) (sq_gM a5 a3 a10) a10) (((r * 6) + (t1 + 1)) - 1) = a10 (r * 6 + (t1 + 1) - 1) := sq_G_old (sq_dG_left f0 r (t1 + 1) (by omega) (by omega))
            refine sq_callv (As := [.int (nI r), .int (nI ((r * 6) + (t1 + 1))), .int ((sq_G (sq_dG f0 r (t1 + 1 + 1)) (sq_gI a5 a1 a6) a6) (((r * 6) + (t1 + 1)) - 1)), .int ((sq_G (sq_dG f0 r (t1 + 1 + 1)) (sq_gM a5 a3 a10) a10) (((r * 6) + (t1 + 1)) - 1))]) (c_advance l dC dI h0 q cI cZ a0 a1 a2 a3 a4 a5 (sq_G (sq_dG f0 r (t1 + 1 + 1)) (sq_gI a5 a1 a6) a6) (sq_G (sq_dG f0 r (t1 + 1 + 1)) (sq_gS a5 a1 a3 a6 a10 a8 a9 a7) a7) (sq_G (sq_dG f0 r (t1 + 1 + 1)) (sq_gF a5 a3 a10 a8 a9) a8) a9 (sq_G (sq_dG f0 r (t1 + 1 + 1)) (sq_gM a5 a3 a10) a10) f0 f1 f2 f3 f4 f5 f6 f7 f8 r (r * 6 + (t1 + 1)) ((sq_G (sq_dG f0 r (t1 + 1 + 1)) (sq_gI a5 a1 a6) a6) (((r * 6) + (t1 + 1)) - 1)) ((sq_G (sq_dG f0 r (t1 + 1 + 1)) (sq_gM a5 a3 a10) a10) (((r * 6) + (t1 + 1)) - 1)) (by omega) (by omega) (by omega) (by rw [x10]; exact mk01 _)) ⟨hx, hb, hml, hown, hts⟩ (cwV 4 hts (sq_good gvX0_162) rfl rfl rfl (by decide +kernel) ⟨Nat.le_of_ble_eq_true rfl, Nat.le_of_ble_eq_true rfl⟩) hK hP hD hS hA rfl rfl rfl rfl hl.1 rfl (Nat.le_of_ble_eq_true rfl) dX0_goOn_48 ⟨Nat.zero_le _, Nat.zero_le _⟩ (fun H locs hP hD hS => ?_)
            have xI : (sq_G (sq_dG f0 r (t1 + 1 + 1)) (sq_gI a5 a1 a6) a6) (((r * 6) + (t1 + 1)) - 1) = sq_gI a5 a1 a6 (r * 6 + (t1 + 1)) := by rw [x6]; unfold sq_gI sq_nIn; rw [if_neg (by omega)]
            have xM : (sq_G (sq_dG f0 r (t1 + 1 + 1)) (sq_gM a5 a3 a10) a10) (((r * 6) + (t1 + 1)) - 1) = sq_gM a5 a3 a10 (r * 6 + (t1 + 1)) := by rw [x10]; unfold sq_gM sq_nIn; rw [if_neg (by omega)]
            have dS := sq_dG_step f0 r (t1 + 1) b1 (by omega) (by omega)
            have e8 : sq_advF (sq_G (sq_dG f0 r (t1 + 1 + 1)) (sq_gF a5 a3 a10 a8 a9) a8) a9 (r * 6 + (t1 + 1)) ((sq_G (sq_dG f0 r (t1 + 1 + 1)) (sq_gM a5 a3 a10) a10) (((r * 6) + (t1 + 1)) - 1)) = sq_G (sq_dG f0 r (t1 + 1)) (sq_gF a5 a3 a10 a8 a9) a8 := by rw [xM]; exact sq_stepF (sq_dG_at f0 r (t1 + 1) (by omega)) dS
            have e7 : sq_advS (sq_G (sq_dG f0 r (t1 + 1 + 1)) (sq_gS a5 a1 a3 a6 a10 a8 a9 a7) a7) (sq_advF (sq_G (sq_dG f0 r (t1 + 1 + 1)) (sq_gF a5 a3 a10 a8 a9) a8) a9 (r * 6 + (t1 + 1)) ((sq_G (sq_dG f0 r (t1 + 1 + 1)) (sq_gM a5 a3 a10) a10) (((r * 6) + (t1 + 1)) - 1))) r (r * 6 + (t1 + 1)) ((sq_G (sq_dG f0 r (t1 + 1 + 1)) (sq_gI a5 a1 a6) a6) (((r * 6) + (t1 + 1)) - 1)) = sq_G (sq_dG f0 r (t1 + 1)) (sq_gS a5 a1 a3 a6 a10 a8 a9 a7) a7 := by rw [e8]; exact sq_stepS (by omega) (fun h9 => sq_dG_up f0 r (t1 + 1) h9 (by omega)) dS (sq_G_new ((dS _).mpr (Or.inr rfl))) xI
            have e6 : upd (sq_G (sq_dG f0 r (t1 + 1 + 1)) (sq_gI a5 a1 a6) a6) (r * 6 + (t1 + 1)) ((sq_G (sq_dG f0 r (t1 + 1 + 1)) (sq_gI a5 a1 a6) a6) (((r * 6) + (t1 + 1)) - 1)) = sq_G (sq_dG f0 r (t1 + 1)) (sq_gI a5 a1 a6) a6 := sq_G_step xI dS
            have e10 : upd (sq_G (sq_dG f0 r (t1 + 1 + 1)) (sq_gM a5 a3 a10) a10) (r * 6 + (t1 + 1)) ((sq_G (sq_dG f0 r (t1 + 1 + 1)) (sq_gM a5 a3 a10) a10) (((r * 6) + (t1 + 1)) - 1)) = sq_G (sq_dG f0 r (t1 + 1)) (sq_gM a5 a3 a10) a10 := sq_G_step xM dS
            have e9 : (wX h0 q cI cZ a0 a1 a2 a3 a4 a5 (sq_G (sq_dG f0 r (t1 + 1)) (sq_gI a5 a1 a6) a6) (sq_G (sq_dG f0 r (t1 + 1)) (sq_gS a5 a1 a3 a6 a10 a8 a9 a7) a7) (sq_G (sq_dG f0 r (t1 + 1)) (sq_gF a5 a3 a10 a8 a9) a8) a9 (sq_G (sq_dG f0 r (t1 + 1)) (sq_gM a5 a3 a10) a10) f0 f1 f2 f3 f4 f5 f6 f7 f8) = (wX h0 q cI cZ a0 a1 a2 a3 a4 a5 (upd (sq_G (sq_dG f0 r (t1 + 1 + 1)) (sq_gI a5 a1 a6) a6) (r * 6 + (t1 + 1)) ((sq_G (sq_dG f0 r (t1 + 1 + 1)) (sq_gI a5 a1 a6) a6) (((r * 6) + (t1 + 1)) - 1))) (sq_advS (sq_G (sq_dG f0 r (t1 + 1 + 1)) (sq_gS a5 a1 a3 a6 a10 a8 a9 a7) a7) (sq_advF (sq_G (sq_dG f0 r (t1 + 1 + 1)) (sq_gF a5 a3 a10 a8 a9) a8) a9 (r * 6 + (t1 + 1)) ((sq_G (sq_dG f0 r (t1 + 1 + 1)) (sq_gM a5 a3 a10) a10) (((r * 6) + (t1 + 1)) - 1))) r (r * 6 + (t1 + 1)) ((sq_G (sq_dG f0 r (t1 + 1 + 1)) (sq_gI a5 a1 a6) a6) (((r * 6) + (t1 + 1)) - 1))) (sq_advF (sq_G (sq_dG f0 r (t1 + 1 + 1)) (sq_gF a5 a3 a10 a8 a9) a8) a9 (r * 6 + (t1 + 1)) ((sq_G (sq_dG f0 r (t1 + 1 + 1)) (sq_gM a5 a3 a10) a10) (((r * 6) + (t1 + 1)) - 1))) a9 (upd (sq_G (sq_dG f0 r (t1 + 1 + 1)) (sq_gM a5 a3 a10) a10) (r * 6 + (t1 + 1)) ((sq_G (sq_dG f0 r (t1 + 1 + 1)) (sq_gM a5 a3 a10) a10) (((r * 6) + (t1 + 1)) - 1))) f0 f1 f2 f3 f4 f5 f6 f7 f8) := by rw [e7, e8, e6, e10]
            rw [← e9] at hP hD
            refine lv_iinc (v := nI t1) (lv' := [(2, .int (nI t1)), (3, .int (nI ((r * 6) + (t1 + 1)))), (1, .int (nI r)), (0, .ref h0)]) hx hb dX0_goOn_51 hl (k := 1) rfl (sq_dec _) (by decide) rfl (fun ls hl => ?_)
            refine lv_goto (tgt := 18) hx hb dX0_goOn_54 (by decide) ?_
            exact ih2 t1 (by omega) (by omega) H locs ls hP hD hS (lv_sub hl [0, 2, 3] rfl)
      have e9 : (wX h0 q cI cZ a0 a1 a2 a3 a4 a5 (sq_G (sq_dG f0 r f0) (sq_gI a5 a1 a6) a6) (sq_G (sq_dG f0 r f0) (sq_gS a5 a1 a3 a6 a10 a8 a9 a7) a7) (sq_G (sq_dG f0 r f0) (sq_gF a5 a3 a10 a8 a9) a8) a9 (sq_G (sq_dG f0 r f0) (sq_gM a5 a3 a10) a10) f0 f1 f2 f3 f4 f5 f6 f7 f8) = (wX h0 q cI cZ a0 a1 a2 a3 a4 a5 (sq_G (sq_dG f0 r (f0 - 1 + 1)) (sq_gI a5 a1 a6) a6) (sq_G (sq_dG f0 r (f0 - 1 + 1)) (sq_gS a5 a1 a3 a6 a10 a8 a9 a7) a7) (sq_G (sq_dG f0 r (f0 - 1 + 1)) (sq_gF a5 a3 a10 a8 a9) a8) a9 (sq_G (sq_dG f0 r (f0 - 1 + 1)) (sq_gM a5 a3 a10) a10) f0 f1 f2 f3 f4 f5 f6 f7 f8) := by rw [show f0 - 1 + 1 = f0 by omega]
      rw [e9] at hP hD
      exact L2 (f0 - 1) (by omega) H locs ls hP hD hS hl
  have e9 : (wX h0 q cI cZ a0 a1 a2 a3 a4 a5 a6 a7 a8 a9 a10 f0 f1 f2 f3 f4 f5 f6 f7 f8) = (wX h0 q cI cZ a0 a1 a2 a3 a4 a5 (sq_G (sq_dG f0 f0 0) (sq_gI a5 a1 a6) a6) (sq_G (sq_dG f0 f0 0) (sq_gS a5 a1 a3 a6 a10 a8 a9 a7) a7) (sq_G (sq_dG f0 f0 0) (sq_gF a5 a3 a10 a8 a9) a8) a9 (sq_G (sq_dG f0 f0 0) (sq_gM a5 a3 a10) a10) f0 f1 f2 f3 f4 f5 f6 f7 f8) := by rw [sq_G_none (sq_dG_end f0), sq_G_none (sq_dG_end f0), sq_G_none (sq_dG_end f0), sq_G_none (sq_dG_end f0)]
  rw [e9] at hP hD
  exact L1 f0 (Nat.le_refl f0) _ (by rw [← pk_sub b0]; rfl) _ _ ls hP hD hS hl
def rm_keepResults : Room := { frames := 0, cells := 0, slots := 0, locals := 0 }
set_option maxHeartbeats 4000000 in
set_option maxRecDepth 100000 in
theorem c_keepResults (l : Launch) (dC : Nat → ClassId) (dI : Nat → Nat → Nat) (h0 : Nat) (q : Nat → Nat) (cI cZ : ClassId) (a0 a1 a2 a3 a4 a5 a6 a7 a8 a9 a10 : Nat → Int32) (f0 f1 f2 f3 f4 f5 f6 f7 f8 : Nat)  (b0 : 1 ≤ f0) (b1 : f0 ≤ 6) (b6 : f6 ≤ 200) (hok : sq_okA a5 f6) : sq_Mv l yX0_keepResults wsX0_keepResults rm_keepResults [.ref h0] (dC, dI) vwCl [(cI, .int), (cZ, .boolean)] (wX h0 q cI cZ a0 a1 a2 a3 a4 a5 a6 a7 a8 a9 a10 f0 f1 f2 f3 f4 f5 f6 f7 f8) (wX h0 q cI cZ a0 a1 (sq_keep f0 a5 a7 a2 f0) a3 a4 a5 a6 a7 a8 a9 a10 f0 f1 f2 f3 f4 f5 f6 f7 f8) := by
  refine sq_ofWv (cc := cX0_keepResults) (maxL := 4) (by decide) rfl (Nat.le_of_ble_eq_true rfl) ?_
  intro p e s m args below meth c A ls Q hx hb hts hown hml hK hP hD hS hA hl hend
  have hl : lv_has ls 4 [(0, .ref h0)] := hl
  have hin : ∀ w ∈ u_ws RX0 TX0 20, w ∈ wsX0_keepResults := fun w h => List.mem_cons_of_mem _ (inX0 w h)
  have k16 := hts _ (List.mem_cons_of_mem _ mfX0_16)
  have k26 := hts _ (List.mem_cons_of_mem _ mfX0_26)
  have k32 := hts _ (List.mem_cons_of_mem _ mfX0_32)
  have k124 := hts _ (List.mem_cons_of_mem _ mfX0_124)
  refine lv_aload_n hx hb dX0_keepResults_0 rfl (lv_at hl 0 rfl) ?_
  refine va_get (D := (dC, dI)) (ci := 0) (v := .int (nI f0)) (C := RX0) (T := TX0) (N := 20) hx hb hts hin hown hK hP 0 rfl rfl 11 (by decide) k124 (fun _ h9 => h9) rfl dX0_keepResults_1 ?_
  refine lv_iconst (v := nI 1) hx hb dX0_keepResults_4 (by decide +kernel) ?_
  refine sq_isub hx hb (by omega) dX0_keepResults_5 ?_
  refine lv_istore_n (lv' := [(1, .int (nI (f0 - 1))), (0, .ref h0)]) hx hb dX0_keepResults_6 rfl hl (by decide) rfl (fun ls hl => ?_)
  refine lv_iconst (v := nI 0) hx hb dX0_keepResults_7 (by decide +kernel) ?_
  refine lv_istore_n (lv' := [(2, .int (nI 0)), (1, .int (nI (f0 - 1))), (0, .ref h0)]) hx hb dX0_keepResults_8 rfl hl (by decide) rfl (fun ls hl => ?_)
  have L1 : ∀ j t : Nat, t + j = f0 → ∀ (H : Heap) (locs : List Loc) (ls : Array Slot), va_P (dC, dI) vwCl (wX h0 q cI cZ a0 a1 (sq_keep f0 a5 a7 a2 t) a3 a4 a5 a6 a7 a8 a9 a10 f0 f1 f2 f3 f4 f5 f6 f7 f8) H → va_D A (wX h0 q cI cZ a0 a1 (sq_keep f0 a5 a7 a2 t) a3 a4 a5 a6 a7 a8 a9 a10 f0 f1 f2 f3 f4 f5 f6 f7 f8) → va_S A s.heap H locs → lv_has ls 4 [(2, .int (nI t)), (1, .int (nI (f0 - 1))), (0, .ref h0)] → W p l e rm_keepResults s m args below meth c H locs 0 0 Q (F0 m 9 ls []) := by
    intro j
    induction j using Nat.strongRecOn with
    | _ j ih =>
      intro t ht H locs ls hP hD hS hl
      refine lv_iload_n hx hb dX0_keepResults_9 rfl (lv_at hl 0 rfl) ?_
      refine lv_aload_n hx hb dX0_keepResults_10 rfl (lv_at hl 2 rfl) ?_
      refine va_get (D := (dC, dI)) (ci := 0) (v := .int (nI f0)) (C := RX0) (T := TX0) (N := 20) hx hb hts hin hown hK hP 0 rfl rfl 11 (by decide) k124 (fun _ h9 => h9) rfl dX0_keepResults_11 ?_
      refine sq_icmp_ge (tgt := 59) hx hb (by omega) (by omega) dX0_keepResults_14 (by decide) (fun hc => ?_) (fun hc => ?_)
      · have et : t = f0 := by omega
        rw [et] at hP hD
        exact hend _ _ _ _ hP hD hS dX0_keepResults_59
      · refine lv_aload_n hx hb dX0_keepResults_17 rfl (lv_at hl 2 rfl) ?_
        refine va_get (D := (dC, dI)) (ci := 0) (v := .ref (q 5)) (C := RX0) (T := TX0) (N := 20) hx hb hts hin hown hK hP 0 rfl rfl 5 (by decide) k26 (fun _ h9 => h9) rfl dX0_keepResults_18 ?_
        refine lv_iload_n hx hb dX0_keepResults_21 rfl (lv_at hl 1 rfl) ?_
        refine lv_iload_n hx hb dX0_keepResults_22 rfl (lv_at hl 0 rfl) ?_
        refine sq_iadd hx hb dX0_keepResults_23 ?_
        refine sq_iald hx hb hK hP 6 0 rfl rfl (i := ((f0 - 1) + t)) (by omega) (by decide) dX0_keepResults_24 ?_
        refine lv_istore_n (lv' := [(3, .int (a5 ((f0 - 1) + t))), (2, .int (nI t)), (1, .int (nI (f0 - 1))), (0, .ref h0)]) hx hb dX0_keepResults_25 rfl hl (by decide) rfl (fun ls hl => ?_)
        refine lv_iload_n hx hb dX0_keepResults_26 rfl (lv_at hl 0 rfl) ?_
        refine lv_iconst (v := (-1)) hx hb dX0_keepResults_27 (by decide +kernel) ?_
        refine lv_icmp_eq (tgt := 53) hx hb dX0_keepResults_28 (by decide) (fun hd => ?_) (fun hd => ?_)
        · have eA : sq_keep f0 a5 a7 a2 t = sq_keep f0 a5 a7 a2 (t + 1) := by rw [show sq_keep f0 a5 a7 a2 (t + 1) = if a5 (f0 - 1 + t) = -1 then sq_keep f0 a5 a7 a2 t else upd (sq_keep f0 a5 a7 a2 t) (sq_vec (a5 (f0 - 1 + t)) * 6 + t) (a7 ((f0 - 1) * 6 + t)) from rfl, if_pos hd]
          rw [eA] at hP hD
          clear eA
          refine lv_iinc (v := nI (t + 1)) (lv' := [(2, .int (nI (t + 1))), (3, .int (a5 ((f0 - 1) + t))), (1, .int (nI (f0 - 1))), (0, .ref h0)]) hx hb dX0_keepResults_53 hl (k := 1) rfl (sq_inc _) (by decide) rfl (fun ls hl => ?_)
          refine lv_goto (tgt := 9) hx hb dX0_keepResults_56 (by decide) ?_
          exact ih (j - 1) (by omega) (t + 1) (by omega) H locs ls hP hD hS (lv_sub hl [0, 2, 3] rfl)
        · obtain ⟨v, hv, ev⟩ : ∃ v : Nat, v < f6 ∧ a5 (f0 - 1 + t) = nI v := (hok _ (by omega)).resolve_left hd
          rw [ev] at hl
          refine lv_aload_n hx hb dX0_keepResults_31 rfl (lv_at hl 3 rfl) ?_
          refine va_get (D := (dC, dI)) (ci := 0) (v := .ref (q 2)) (C := RX0) (T := TX0) (N := 20) hx hb hts hin hown hK hP 0 rfl rfl 2 (by decide) k16 (fun _ h9 => h9) rfl dX0_keepResults_32 ?_
          refine lv_iload_n hx hb dX0_keepResults_35 rfl (lv_at hl 0 rfl) ?_
          refine lv_bipush (v := nI 6) hx hb dX0_keepResults_36 (by decide +kernel) ?_
          refine sq_imul hx hb dX0_keepResults_38 ?_
          refine lv_iload_n hx hb dX0_keepResults_39 rfl (lv_at hl 1 rfl) ?_
          refine sq_iadd hx hb dX0_keepResults_40 ?_
          refine lv_aload_n hx hb dX0_keepResults_41 rfl (lv_at hl 3 rfl) ?_
          refine va_get (D := (dC, dI)) (ci := 0) (v := .ref (q 7)) (C := RX0) (T := TX0) (N := 20) hx hb hts hin hown hK hP 0 rfl rfl 7 (by decide) k32 (fun _ h9 => h9) rfl dX0_keepResults_42 ?_
          refine lv_iload_n hx hb dX0_keepResults_45 rfl (lv_at hl 2 rfl) ?_
          refine lv_bipush (v := nI 6) hx hb dX0_keepResults_46 (by decide +kernel) ?_
          refine sq_imul hx hb dX0_keepResults_48 ?_
          refine lv_iload_n hx hb dX0_keepResults_49 rfl (lv_at hl 1 rfl) ?_
          refine sq_iadd hx hb dX0_keepResults_50 ?_
          refine sq_iald hx hb hK hP 8 0 rfl rfl (i := (((f0 - 1) * 6) + t)) (by omega) (by decide) dX0_keepResults_51 ?_
          refine sq_iast hx hb hK hP hD hS 3 0 rfl rfl (i := ((v * 6) + t)) (by omega) (by decide) dX0_keepResults_52 (fun H locs hP hD hS => ?_)
          have hP : va_P (dC, dI) vwCl (wX h0 q cI cZ a0 a1 (upd (sq_keep f0 a5 a7 a2 t) ((v * 6) + t) (a7 (((f0 - 1) * 6) + t))) a3 a4 a5 a6 a7 a8 a9 a10 f0 f1 f2 f3 f4 f5 f6 f7 f8) H := hP
          have hD : va_D A (wX h0 q cI cZ a0 a1 (upd (sq_keep f0 a5 a7 a2 t) ((v * 6) + t) (a7 (((f0 - 1) * 6) + t))) a3 a4 a5 a6 a7 a8 a9 a10 f0 f1 f2 f3 f4 f5 f6 f7 f8) := hD
          have eA : upd (sq_keep f0 a5 a7 a2 t) ((v * 6) + t) (a7 (((f0 - 1) * 6) + t)) = sq_keep f0 a5 a7 a2 (t + 1) := by rw [show sq_keep f0 a5 a7 a2 (t + 1) = if a5 (f0 - 1 + t) = -1 then sq_keep f0 a5 a7 a2 t else upd (sq_keep f0 a5 a7 a2 t) (sq_vec (a5 (f0 - 1 + t)) * 6 + t) (a7 ((f0 - 1) * 6 + t)) from rfl, if_neg hd, ev, sq_vec_nI (by omega)]
          rw [eA] at hP hD
          clear eA
          refine lv_iinc (v := nI (t + 1)) (lv' := [(2, .int (nI (t + 1))), (3, .int (nI v)), (1, .int (nI (f0 - 1))), (0, .ref h0)]) hx hb dX0_keepResults_53 hl (k := 1) rfl (sq_inc _) (by decide) rfl (fun ls hl => ?_)
          refine lv_goto (tgt := 9) hx hb dX0_keepResults_56 (by decide) ?_
          exact ih (j - 1) (by omega) (t + 1) (by omega) H locs ls hP hD hS (lv_sub hl [0, 2, 3] rfl)
  exact L1 f0 0 (by omega) _ _ ls hP hD hS hl
