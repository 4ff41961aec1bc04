def rmm_goOn : Room := { frames := 1, cells := 0, slots := 0, locals := 21 }
set_option maxHeartbeats 4000000 in
set_option maxRecDepth 100000 in
theorem k_goOn (l : Launch) (dC : Nat → ClassId) (dI : Nat → Nat → Nat) (h0 : Nat) (q : Nat → Nat) (cI cZ : ClassId) (ms : SqS)  (hok : sq_mok ms) : sq_Mv l yX1_goOn wsX1_goOn rmm_goOn [.ref h0] (dC, dI) vwCl [(cI, .int), (cZ, .boolean)] (wM h0 q cI cZ (ms.1 0) (ms.1 1) (ms.1 2) (ms.1 3) (ms.1 4) (ms.1 5) (ms.1 6) (ms.1 7) (ms.1 8) (ms.1 9) (ms.1 10) (ms.1 11) (ms.2 0) (ms.2 1) (ms.2 2) (ms.2 3) (ms.2 4) (ms.2 5) (ms.2 6) (ms.2 7) (ms.2 8) (ms.2 9) (ms.2 10)) (wM h0 q cI cZ ((sq_mg ms).1 0) ((sq_mg ms).1 1) ((sq_mg ms).1 2) ((sq_mg ms).1 3) ((sq_mg ms).1 4) ((sq_mg ms).1 5) ((sq_mg ms).1 6) ((sq_mg ms).1 7) ((sq_mg ms).1 8) ((sq_mg ms).1 9) ((sq_mg ms).1 10) ((sq_mg ms).1 11) ((sq_mg ms).2 0) ((sq_mg ms).2 1) ((sq_mg ms).2 2) ((sq_mg ms).2 3) ((sq_mg ms).2 4) ((sq_mg ms).2 5) ((sq_mg ms).2 6) ((sq_mg ms).2 7) ((sq_mg ms).2 8) ((sq_mg ms).2 9) ((sq_mg ms).2 10)) := by
  refine sq_ofWv (cc := cX1_goOn) (maxL := 4) (by decide) rfl (Nat.le_of_ble_eq_true rfl) ?_
  intro p e s m args below meth c A ls Q hx hb hts hown hml hK hP hD hS hA hl hend
  have hl : lv_has ls 4 [(0, .ref h0)] := hl
  have hin : ∀ w ∈ u_ws RX1 TX1 23, w ∈ wsX1_goOn := fun w h => List.mem_cons_of_mem _ (inX1 w h)
  have k7 := hts _ (List.mem_cons_of_mem _ mfX1_7)
  have k17 := hts _ (List.mem_cons_of_mem _ mfX1_17)
  have k20 := hts _ (List.mem_cons_of_mem _ mfX1_20)
  have k27 := hts _ (List.mem_cons_of_mem _ mfX1_27)
  have k33 := hts _ (List.mem_cons_of_mem _ mfX1_33)
  have k36 := hts _ (List.mem_cons_of_mem _ mfX1_36)
  have k39 := hts _ (List.mem_cons_of_mem _ mfX1_39)
  have k42 := hts _ (List.mem_cons_of_mem _ mfX1_42)
  have k45 := hts _ (List.mem_cons_of_mem _ mfX1_45)
  have k48 := hts _ (List.mem_cons_of_mem _ mfX1_48)
  obtain ⟨⟨o1, o2⟩, o3, ⟨o4, o5⟩, ⟨o6, o7⟩, ⟨o8, o9, o10⟩, o11, o12, o13, o14, o15, o16⟩ := id hok
  have hag : ∀ k : Nat, (sq_mago (ms.2 2) (ms.1 5)) k = -1 ∨ ∃ v : Nat, v < ms.2 8 ∧ (sq_mago (ms.2 2) (ms.1 5)) k = nI v := fun k => by unfold sq_mago; split; exact o12 _ (Nat.mod_lt _ (by decide)); exact Or.inl rfl
  have LC : ∀ j t : Nat, t + j = ms.2 1 → ∀ (H : Heap) (locs : List Loc) (ls : Array Slot), va_P (dC, dI) vwCl (wM h0 q cI cZ (ms.1 0) (ms.1 1) (ms.1 2) (ms.1 3) (sq_keep (ms.2 1) (sq_mago (ms.2 2) (ms.1 5)) (sq_G (sq_dH (ms.2 1) (ms.2 1) (ms.2 1)) (sq_gS (sq_mago (ms.2 2) (ms.1 5)) (ms.1 1) (ms.1 2) (ms.1 6) (ms.1 10) (ms.1 8) (ms.1 9) (ms.1 7)) (ms.1 7)) (ms.1 4) t) (ms.1 5) (sq_G (sq_dH (ms.2 1) (ms.2 1) (ms.2 1)) (sq_gI (sq_mago (ms.2 2) (ms.1 5)) (ms.1 1) (ms.1 6)) (ms.1 6)) (sq_G (sq_dH (ms.2 1) (ms.2 1) (ms.2 1)) (sq_gS (sq_mago (ms.2 2) (ms.1 5)) (ms.1 1) (ms.1 2) (ms.1 6) (ms.1 10) (ms.1 8) (ms.1 9) (ms.1 7)) (ms.1 7)) (sq_G (sq_dH (ms.2 1) (ms.2 1) (ms.2 1)) (sq_gF (sq_mago (ms.2 2) (ms.1 5)) (ms.1 2) (ms.1 10) (ms.1 8) (ms.1 9)) (ms.1 8)) (ms.1 9) (sq_G (sq_dH (ms.2 1) (ms.2 1) (ms.2 1)) (sq_gM (sq_mago (ms.2 2) (ms.1 5)) (ms.1 2) (ms.1 10)) (ms.1 10)) (sq_G (sq_dH (ms.2 1) (ms.2 1) (ms.2 1)) (sq_nIn (ms.1 11) (sq_mreal (sq_mago (ms.2 2) (ms.1 5)))) (ms.1 11)) (ms.2 0) (ms.2 1) (ms.2 2) (ms.2 3) (ms.2 4) (ms.2 5) (ms.2 6) (ms.2 7) (ms.2 8) (ms.2 9) (ms.2 10)) H → va_D A (wM h0 q cI cZ (ms.1 0) (ms.1 1) (ms.1 2) (ms.1 3) (sq_keep (ms.2 1) (sq_mago (ms.2 2) (ms.1 5)) (sq_G (sq_dH (ms.2 1) (ms.2 1) (ms.2 1)) (sq_gS (sq_mago (ms.2 2) (ms.1 5)) (ms.1 1) (ms.1 2) (ms.1 6) (ms.1 10) (ms.1 8) (ms.1 9) (ms.1 7)) (ms.1 7)) (ms.1 4) t) (ms.1 5) (sq_G (sq_dH (ms.2 1) (ms.2 1) (ms.2 1)) (sq_gI (sq_mago (ms.2 2) (ms.1 5)) (ms.1 1) (ms.1 6)) (ms.1 6)) (sq_G (sq_dH (ms.2 1) (ms.2 1) (ms.2 1)) (sq_gS (sq_mago (ms.2 2) (ms.1 5)) (ms.1 1) (ms.1 2) (ms.1 6) (ms.1 10) (ms.1 8) (ms.1 9) (ms.1 7)) (ms.1 7)) (sq_G (sq_dH (ms.2 1) (ms.2 1) (ms.2 1)) (sq_gF (sq_mago (ms.2 2) (ms.1 5)) (ms.1 2) (ms.1 10) (ms.1 8) (ms.1 9)) (ms.1 8)) (ms.1 9) (sq_G (sq_dH (ms.2 1) (ms.2 1) (ms.2 1)) (sq_gM (sq_mago (ms.2 2) (ms.1 5)) (ms.1 2) (ms.1 10)) (ms.1 10)) (sq_G (sq_dH (ms.2 1) (ms.2 1) (ms.2 1)) (sq_nIn (ms.1 11) (sq_mreal (sq_mago (ms.2 2) (ms.1 5)))) (ms.1 11)) (ms.2 0) (ms.2 1) (ms.2 2) (ms.2 3) (ms.2 4) (ms.2 5) (ms.2 6) (ms.2 7) (ms.2 8) (ms.2 9) (ms.2 10)) → va_S A s.heap H locs → lv_has ls 4 [(1, .int (nI t)), (0, .ref h0)] → W p l e rmm_goOn s m args below meth c H locs 0 0 Q (F0 m 270 ls []) := by
    intro j
    induction j using Nat.strongRecOn with
    | _ j ih =>
      intro t ht H locs ls hP hD hS hl
      refine lv_iload_n hx hb dX1_goOn_270 rfl (lv_at hl 0 rfl) ?_
      refine lv_aload_n hx hb dX1_goOn_271 rfl (lv_at hl 1 rfl) ?_
      refine va_get (D := (dC, dI)) (ci := 1) (v := .int (nI (ms.2 1))) (C := RX1) (T := TX1) (N := 23) hx hb hts hin hown hK hP 0 rfl rfl 1 (by decide) k7 (fun _ h9 => h9) rfl dX1_goOn_272 ?_
      refine sq_icmp_ge (tgt := 329) hx hb (by omega) (by omega) dX1_goOn_275 (by decide) (fun hc => ?_) (fun hc => ?_)
      · rw [show t = ms.2 1 by omega] at hP hD
        exact hend _ _ _ _ hP hD hS dX1_goOn_329
      · refine lv_aload_n hx hb dX1_goOn_278 rfl (lv_at hl 1 rfl) ?_
        refine lv_aload_n hx hb dX1_goOn_279 rfl (lv_at hl 1 rfl) ?_
        refine va_get (D := (dC, dI)) (ci := 1) (v := .int (nI (ms.2 1))) (C := RX1) (T := TX1) (N := 23) hx hb hts hin hown hK hP 0 rfl rfl 1 (by decide) k7 (fun _ h9 => h9) rfl dX1_goOn_280 ?_
        refine lv_iconst (v := nI 1) hx hb dX1_goOn_283 (by decide +kernel) ?_
        refine sq_isub hx hb (by omega) dX1_goOn_284 ?_
        refine lv_iload_n hx hb dX1_goOn_285 rfl (lv_at hl 0 rfl) ?_
        refine sq_iadd hx hb dX1_goOn_286 ?_
        refine sq_calli (As := [.int (nI (((ms.2 1) - 1) + t))]) (k_enteredAgo l dC dI h0 q cI cZ (sq_mm (ms.1 0) (ms.1 1) (ms.1 2) (ms.1 3) (sq_keep (ms.2 1) (sq_mago (ms.2 2) (ms.1 5)) (sq_G (sq_dH (ms.2 1) (ms.2 1) (ms.2 1)) (sq_gS (sq_mago (ms.2 2) (ms.1 5)) (ms.1 1) (ms.1 2) (ms.1 6) (ms.1 10) (ms.1 8) (ms.1 9) (ms.1 7)) (ms.1 7)) (ms.1 4) t) (ms.1 5) (sq_G (sq_dH (ms.2 1) (ms.2 1) (ms.2 1)) (sq_gI (sq_mago (ms.2 2) (ms.1 5)) (ms.1 1) (ms.1 6)) (ms.1 6)) (sq_G (sq_dH (ms.2 1) (ms.2 1) (ms.2 1)) (sq_gS (sq_mago (ms.2 2) (ms.1 5)) (ms.1 1) (ms.1 2) (ms.1 6) (ms.1 10) (ms.1 8) (ms.1 9) (ms.1 7)) (ms.1 7)) (sq_G (sq_dH (ms.2 1) (ms.2 1) (ms.2 1)) (sq_gF (sq_mago (ms.2 2) (ms.1 5)) (ms.1 2) (ms.1 10) (ms.1 8) (ms.1 9)) (ms.1 8)) (ms.1 9) (sq_G (sq_dH (ms.2 1) (ms.2 1) (ms.2 1)) (sq_gM (sq_mago (ms.2 2) (ms.1 5)) (ms.1 2) (ms.1 10)) (ms.1 10)) (sq_G (sq_dH (ms.2 1) (ms.2 1) (ms.2 1)) (sq_nIn (ms.1 11) (sq_mreal (sq_mago (ms.2 2) (ms.1 5)))) (ms.1 11)) (ms.2 0) (ms.2 1) (ms.2 2) (ms.2 3) (ms.2 4) (ms.2 5) (ms.2 6) (ms.2 7) (ms.2 8) (ms.2 9) (ms.2 10)) (((ms.2 1) - 1) + t) (by omega) (show ms.2 2 < 2 ^ 31 by omega)) ⟨hx, hb, hml, hown, hts⟩ (cwV 1 hts (sq_good gvX1_97) rfl rfl rfl (by decide +kernel) ⟨Nat.le_of_ble_eq_true rfl, Nat.le_of_ble_eq_true rfl⟩) hK hP hD hS hA rfl rfl rfl rfl hl.1 rfl (Nat.le_of_ble_eq_true rfl) dX1_goOn_287 ⟨Nat.zero_le _, Nat.zero_le _⟩ (fun H locs hP hD hS => ?_)
        have hP : va_P (dC, dI) vwCl (wM h0 q cI cZ (ms.1 0) (ms.1 1) (ms.1 2) (ms.1 3) (sq_keep (ms.2 1) (sq_mago (ms.2 2) (ms.1 5)) (sq_G (sq_dH (ms.2 1) (ms.2 1) (ms.2 1)) (sq_gS (sq_mago (ms.2 2) (ms.1 5)) (ms.1 1) (ms.1 2) (ms.1 6) (ms.1 10) (ms.1 8) (ms.1 9) (ms.1 7)) (ms.1 7)) (ms.1 4) t) (ms.1 5) (sq_G (sq_dH (ms.2 1) (ms.2 1) (ms.2 1)) (sq_gI (sq_mago (ms.2 2) (ms.1 5)) (ms.1 1) (ms.1 6)) (ms.1 6)) (sq_G (sq_dH (ms.2 1) (ms.2 1) (ms.2 1)) (sq_gS (sq_mago (ms.2 2) (ms.1 5)) (ms.1 1) (ms.1 2) (ms.1 6) (ms.1 10) (ms.1 8) (ms.1 9) (ms.1 7)) (ms.1 7)) (sq_G (sq_dH (ms.2 1) (ms.2 1) (ms.2 1)) (sq_gF (sq_mago (ms.2 2) (ms.1 5)) (ms.1 2) (ms.1 10) (ms.1 8) (ms.1 9)) (ms.1 8)) (ms.1 9) (sq_G (sq_dH (ms.2 1) (ms.2 1) (ms.2 1)) (sq_gM (sq_mago (ms.2 2) (ms.1 5)) (ms.1 2) (ms.1 10)) (ms.1 10)) (sq_G (sq_dH (ms.2 1) (ms.2 1) (ms.2 1)) (sq_nIn (ms.1 11) (sq_mreal (sq_mago (ms.2 2) (ms.1 5)))) (ms.1 11)) (ms.2 0) (ms.2 1) (ms.2 2) (ms.2 3) (ms.2 4) (ms.2 5) (ms.2 6) (ms.2 7) (ms.2 8) (ms.2 9) (ms.2 10)) H := hP
        have hD : va_D A (wM h0 q cI cZ (ms.1 0) (ms.1 1) (ms.1 2) (ms.1 3) (sq_keep (ms.2 1) (sq_mago (ms.2 2) (ms.1 5)) (sq_G (sq_dH (ms.2 1) (ms.2 1) (ms.2 1)) (sq_gS (sq_mago (ms.2 2) (ms.1 5)) (ms.1 1) (ms.1 2) (ms.1 6) (ms.1 10) (ms.1 8) (ms.1 9) (ms.1 7)) (ms.1 7)) (ms.1 4) t) (ms.1 5) (sq_G (sq_dH (ms.2 1) (ms.2 1) (ms.2 1)) (sq_gI (sq_mago (ms.2 2) (ms.1 5)) (ms.1 1) (ms.1 6)) (ms.1 6)) (sq_G (sq_dH (ms.2 1) (ms.2 1) (ms.2 1)) (sq_gS (sq_mago (ms.2 2) (ms.1 5)) (ms.1 1) (ms.1 2) (ms.1 6) (ms.1 10) (ms.1 8) (ms.1 9) (ms.1 7)) (ms.1 7)) (sq_G (sq_dH (ms.2 1) (ms.2 1) (ms.2 1)) (sq_gF (sq_mago (ms.2 2) (ms.1 5)) (ms.1 2) (ms.1 10) (ms.1 8) (ms.1 9)) (ms.1 8)) (ms.1 9) (sq_G (sq_dH (ms.2 1) (ms.2 1) (ms.2 1)) (sq_gM (sq_mago (ms.2 2) (ms.1 5)) (ms.1 2) (ms.1 10)) (ms.1 10)) (sq_G (sq_dH (ms.2 1) (ms.2 1) (ms.2 1)) (sq_nIn (ms.1 11) (sq_mreal (sq_mago (ms.2 2) (ms.1 5)))) (ms.1 11)) (ms.2 0) (ms.2 1) (ms.2 2) (ms.2 3) (ms.2 4) (ms.2 5) (ms.2 6) (ms.2 7) (ms.2 8) (ms.2 9) (ms.2 10)) := hD
        rcases hag (ms.2 1 - 1 + t) with ev | ⟨v, hv, ev⟩
        · refine sq_top ev ?_
          refine lv_istore_n (lv' := [(2, .int (-1)), (1, .int (nI t)), (0, .ref h0)]) hx hb dX1_goOn_290 rfl hl (by decide) rfl (fun ls hl => ?_)
          refine lv_iload_n hx hb dX1_goOn_291 rfl (lv_at hl 0 rfl) ?_
          refine sq_if_m1 (tgt := 323) hx hb dX1_goOn_292 (by decide) ?_
          have eA : sq_keep (ms.2 1) (sq_mago (ms.2 2) (ms.1 5)) (sq_G (sq_dH (ms.2 1) (ms.2 1) (ms.2 1)) (sq_gS (sq_mago (ms.2 2) (ms.1 5)) (ms.1 1) (ms.1 2) (ms.1 6) (ms.1 10) (ms.1 8) (ms.1 9) (ms.1 7)) (ms.1 7)) (ms.1 4) t = sq_keep (ms.2 1) (sq_mago (ms.2 2) (ms.1 5)) (sq_G (sq_dH (ms.2 1) (ms.2 1) (ms.2 1)) (sq_gS (sq_mago (ms.2 2) (ms.1 5)) (ms.1 1) (ms.1 2) (ms.1 6) (ms.1 10) (ms.1 8) (ms.1 9) (ms.1 7)) (ms.1 7)) (ms.1 4) (t + 1) := by rw [show sq_keep (ms.2 1) (sq_mago (ms.2 2) (ms.1 5)) (sq_G (sq_dH (ms.2 1) (ms.2 1) (ms.2 1)) (sq_gS (sq_mago (ms.2 2) (ms.1 5)) (ms.1 1) (ms.1 2) (ms.1 6) (ms.1 10) (ms.1 8) (ms.1 9) (ms.1 7)) (ms.1 7)) (ms.1 4) (t + 1) = if (sq_mago (ms.2 2) (ms.1 5)) (ms.2 1 - 1 + t) = -1 then sq_keep (ms.2 1) (sq_mago (ms.2 2) (ms.1 5)) (sq_G (sq_dH (ms.2 1) (ms.2 1) (ms.2 1)) (sq_gS (sq_mago (ms.2 2) (ms.1 5)) (ms.1 1) (ms.1 2) (ms.1 6) (ms.1 10) (ms.1 8) (ms.1 9) (ms.1 7)) (ms.1 7)) (ms.1 4) t else upd (sq_keep (ms.2 1) (sq_mago (ms.2 2) (ms.1 5)) (sq_G (sq_dH (ms.2 1) (ms.2 1) (ms.2 1)) (sq_gS (sq_mago (ms.2 2) (ms.1 5)) (ms.1 1) (ms.1 2) (ms.1 6) (ms.1 10) (ms.1 8) (ms.1 9) (ms.1 7)) (ms.1 7)) (ms.1 4) t) (sq_vec ((sq_mago (ms.2 2) (ms.1 5)) (ms.2 1 - 1 + t)) * 6 + t) ((sq_G (sq_dH (ms.2 1) (ms.2 1) (ms.2 1)) (sq_gS (sq_mago (ms.2 2) (ms.1 5)) (ms.1 1) (ms.1 2) (ms.1 6) (ms.1 10) (ms.1 8) (ms.1 9) (ms.1 7)) (ms.1 7)) ((ms.2 1 - 1) * 6 + t)) from rfl, if_pos ev]
          rw [eA] at hP hD
          clear eA
          refine lv_iinc (v := nI (t + 1)) (lv' := [(1, .int (nI (t + 1))), (2, .int (-1)), (0, .ref h0)]) hx hb dX1_goOn_323 hl (k := 1) rfl (sq_inc _) (by decide) rfl (fun ls hl => ?_)
          refine lv_goto (tgt := 270) hx hb dX1_goOn_326 (by decide) ?_
          exact ih (j - 1) (by omega) (t + 1) (by omega) H locs ls hP hD hS (lv_sub hl [0, 2] rfl)
        · refine sq_top ev ?_
          refine lv_istore_n (lv' := [(2, .int (nI v)), (1, .int (nI t)), (0, .ref h0)]) hx hb dX1_goOn_290 rfl hl (by decide) rfl (fun ls hl => ?_)
          refine lv_iload_n hx hb dX1_goOn_291 rfl (lv_at hl 0 rfl) ?_
          refine sq_if_lt (tgt := 323) hx hb (by omega) dX1_goOn_292 (by decide) ?_
          refine lv_aload_n hx hb dX1_goOn_295 rfl (lv_at hl 2 rfl) ?_
          refine va_get (D := (dC, dI)) (ci := 1) (v := .ref (q 4)) (C := RX1) (T := TX1) (N := 23) hx hb hts hin hown hK hP 0 rfl rfl 15 (by decide) k27 (fun _ h9 => h9) rfl dX1_goOn_296 ?_
          refine lv_bipush (v := nI 6) hx hb dX1_goOn_299 (by decide +kernel) ?_
          refine lv_iload_n hx hb dX1_goOn_301 rfl (lv_at hl 0 rfl) ?_
          refine sq_imulc hx hb dX1_goOn_302 ?_
          refine lv_iload_n hx hb dX1_goOn_303 rfl (lv_at hl 1 rfl) ?_
          refine sq_iadd hx hb dX1_goOn_304 ?_
          refine lv_aload_n hx hb dX1_goOn_305 rfl (lv_at hl 2 rfl) ?_
          refine va_get (D := (dC, dI)) (ci := 1) (v := .ref (q 7)) (C := RX1) (T := TX1) (N := 23) hx hb hts hin hown hK hP 0 rfl rfl 18 (by decide) k36 (fun _ h9 => h9) rfl dX1_goOn_306 ?_
          refine lv_bipush (v := nI 6) hx hb dX1_goOn_309 (by decide +kernel) ?_
          refine lv_aload_n hx hb dX1_goOn_311 rfl (lv_at hl 2 rfl) ?_
          refine va_get (D := (dC, dI)) (ci := 1) (v := .int (nI (ms.2 1))) (C := RX1) (T := TX1) (N := 23) hx hb hts hin hown hK hP 0 rfl rfl 1 (by decide) k7 (fun _ h9 => h9) rfl dX1_goOn_312 ?_
          refine sq_imulc hx hb dX1_goOn_315 ?_
          refine lv_bipush (v := nI 6) hx hb dX1_goOn_316 (by decide +kernel) ?_
          refine sq_isub hx hb (by omega) dX1_goOn_318 ?_
          refine lv_iload_n hx hb dX1_goOn_319 rfl (lv_at hl 1 rfl) ?_
          refine sq_iadd hx hb dX1_goOn_320 ?_
          refine sq_top (congrArg nI (show (((ms.2 1) * 6) - 6) + t = (ms.2 1 - 1) * 6 + t by omega)) ?_
          refine sq_iald hx hb hK hP 8 0 rfl rfl (i := ((ms.2 1 - 1) * 6 + t)) (by omega) (by decide) dX1_goOn_321 ?_
          refine sq_iast hx hb hK hP hD hS 5 0 rfl rfl (i := ((v * 6) + t)) (by omega) (by decide) dX1_goOn_322 (fun H locs hP hD hS => ?_)
          have hP : va_P (dC, dI) vwCl (wM h0 q cI cZ (ms.1 0) (ms.1 1) (ms.1 2) (ms.1 3) (upd (sq_keep (ms.2 1) (sq_mago (ms.2 2) (ms.1 5)) (sq_G (sq_dH (ms.2 1) (ms.2 1) (ms.2 1)) (sq_gS (sq_mago (ms.2 2) (ms.1 5)) (ms.1 1) (ms.1 2) (ms.1 6) (ms.1 10) (ms.1 8) (ms.1 9) (ms.1 7)) (ms.1 7)) (ms.1 4) t) ((v * 6) + t) ((sq_G (sq_dH (ms.2 1) (ms.2 1) (ms.2 1)) (sq_gS (sq_mago (ms.2 2) (ms.1 5)) (ms.1 1) (ms.1 2) (ms.1 6) (ms.1 10) (ms.1 8) (ms.1 9) (ms.1 7)) (ms.1 7)) ((ms.2 1 - 1) * 6 + t))) (ms.1 5) (sq_G (sq_dH (ms.2 1) (ms.2 1) (ms.2 1)) (sq_gI (sq_mago (ms.2 2) (ms.1 5)) (ms.1 1) (ms.1 6)) (ms.1 6)) (sq_G (sq_dH (ms.2 1) (ms.2 1) (ms.2 1)) (sq_gS (sq_mago (ms.2 2) (ms.1 5)) (ms.1 1) (ms.1 2) (ms.1 6) (ms.1 10) (ms.1 8) (ms.1 9) (ms.1 7)) (ms.1 7)) (sq_G (sq_dH (ms.2 1) (ms.2 1) (ms.2 1)) (sq_gF (sq_mago (ms.2 2) (ms.1 5)) (ms.1 2) (ms.1 10) (ms.1 8) (ms.1 9)) (ms.1 8)) (ms.1 9) (sq_G (sq_dH (ms.2 1) (ms.2 1) (ms.2 1)) (sq_gM (sq_mago (ms.2 2) (ms.1 5)) (ms.1 2) (ms.1 10)) (ms.1 10)) (sq_G (sq_dH (ms.2 1) (ms.2 1) (ms.2 1)) (sq_nIn (ms.1 11) (sq_mreal (sq_mago (ms.2 2) (ms.1 5)))) (ms.1 11)) (ms.2 0) (ms.2 1) (ms.2 2) (ms.2 3) (ms.2 4) (ms.2 5) (ms.2 6) (ms.2 7) (ms.2 8) (ms.2 9) (ms.2 10)) H := hP
          have hD : va_D A (wM h0 q cI cZ (ms.1 0) (ms.1 1) (ms.1 2) (ms.1 3) (upd (sq_keep (ms.2 1) (sq_mago (ms.2 2) (ms.1 5)) (sq_G (sq_dH (ms.2 1) (ms.2 1) (ms.2 1)) (sq_gS (sq_mago (ms.2 2) (ms.1 5)) (ms.1 1) (ms.1 2) (ms.1 6) (ms.1 10) (ms.1 8) (ms.1 9) (ms.1 7)) (ms.1 7)) (ms.1 4) t) ((v * 6) + t) ((sq_G (sq_dH (ms.2 1) (ms.2 1) (ms.2 1)) (sq_gS (sq_mago (ms.2 2) (ms.1 5)) (ms.1 1) (ms.1 2) (ms.1 6) (ms.1 10) (ms.1 8) (ms.1 9) (ms.1 7)) (ms.1 7)) ((ms.2 1 - 1) * 6 + t))) (ms.1 5) (sq_G (sq_dH (ms.2 1) (ms.2 1) (ms.2 1)) (sq_gI (sq_mago (ms.2 2) (ms.1 5)) (ms.1 1) (ms.1 6)) (ms.1 6)) (sq_G (sq_dH (ms.2 1) (ms.2 1) (ms.2 1)) (sq_gS (sq_mago (ms.2 2) (ms.1 5)) (ms.1 1) (ms.1 2) (ms.1 6) (ms.1 10) (ms.1 8) (ms.1 9) (ms.1 7)) (ms.1 7)) (sq_G (sq_dH (ms.2 1) (ms.2 1) (ms.2 1)) (sq_gF (sq_mago (ms.2 2) (ms.1 5)) (ms.1 2) (ms.1 10) (ms.1 8) (ms.1 9)) (ms.1 8)) (ms.1 9) (sq_G (sq_dH (ms.2 1) (ms.2 1) (ms.2 1)) (sq_gM (sq_mago (ms.2 2) (ms.1 5)) (ms.1 2) (ms.1 10)) (ms.1 10)) (sq_G (sq_dH (ms.2 1) (ms.2 1) (ms.2 1)) (sq_nIn (ms.1 11) (sq_mreal (sq_mago (ms.2 2) (ms.1 5)))) (ms.1 11)) (ms.2 0) (ms.2 1) (ms.2 2) (ms.2 3) (ms.2 4) (ms.2 5) (ms.2 6) (ms.2 7) (ms.2 8) (ms.2 9) (ms.2 10)) := hD
          have eA : upd (sq_keep (ms.2 1) (sq_mago (ms.2 2) (ms.1 5)) (sq_G (sq_dH (ms.2 1) (ms.2 1) (ms.2 1)) (sq_gS (sq_mago (ms.2 2) (ms.1 5)) (ms.1 1) (ms.1 2) (ms.1 6) (ms.1 10) (ms.1 8) (ms.1 9) (ms.1 7)) (ms.1 7)) (ms.1 4) t) ((v * 6) + t) ((sq_G (sq_dH (ms.2 1) (ms.2 1) (ms.2 1)) (sq_gS (sq_mago (ms.2 2) (ms.1 5)) (ms.1 1) (ms.1 2) (ms.1 6) (ms.1 10) (ms.1 8) (ms.1 9) (ms.1 7)) (ms.1 7)) ((ms.2 1 - 1) * 6 + t)) = sq_keep (ms.2 1) (sq_mago (ms.2 2) (ms.1 5)) (sq_G (sq_dH (ms.2 1) (ms.2 1) (ms.2 1)) (sq_gS (sq_mago (ms.2 2) (ms.1 5)) (ms.1 1) (ms.1 2) (ms.1 6) (ms.1 10) (ms.1 8) (ms.1 9) (ms.1 7)) (ms.1 7)) (ms.1 4) (t + 1) := by rw [show sq_keep (ms.2 1) (sq_mago (ms.2 2) (ms.1 5)) (sq_G (sq_dH (ms.2 1) (ms.2 1) (ms.2 1)) (sq_gS (sq_mago (ms.2 2) (ms.1 5)) (ms.1 1) (ms.1 2) (ms.1 6) (ms.1 10) (ms.1 8) (ms.1 9) (ms.1 7)) (ms.1 7)) (ms.1 4) (t + 1) = if (sq_mago (ms.2 2) (ms.1 5)) (ms.2 1 - 1 + t) = -1 then sq_keep (ms.2 1) (sq_mago (ms.2 2) (ms.1 5)) (sq_G (sq_dH (ms.2 1) (ms.2 1) (ms.2 1)) (sq_gS (sq_mago (ms.2 2) (ms.1 5)) (ms.1 1) (ms.1 2) (ms.1 6) (ms.1 10) (ms.1 8) (ms.1 9) (ms.1 7)) (ms.1 7)) (ms.1 4) t else upd (sq_keep (ms.2 1) (sq_mago (ms.2 2) (ms.1 5)) (sq_G (sq_dH (ms.2 1) (ms.2 1) (ms.2 1)) (sq_gS (sq_mago (ms.2 2) (ms.1 5)) (ms.1 1) (ms.1 2) (ms.1 6) (ms.1 10) (ms.1 8) (ms.1 9) (ms.1 7)) (ms.1 7)) (ms.1 4) t) (sq_vec ((sq_mago (ms.2 2) (ms.1 5)) (ms.2 1 - 1 + t)) * 6 + t) ((sq_G (sq_dH (ms.2 1) (ms.2 1) (ms.2 1)) (sq_gS (sq_mago (ms.2 2) (ms.1 5)) (ms.1 1) (ms.1 2) (ms.1 6) (ms.1 10) (ms.1 8) (ms.1 9) (ms.1 7)) (ms.1 7)) ((ms.2 1 - 1) * 6 + t)) from rfl, if_neg (by rw [ev]; exact sq_m1_ne (by omega)), ev, sq_vec_nI (by omega)]
          rw [eA] at hP hD
          clear eA
          refine lv_iinc (v := nI (t + 1)) (lv' := [(1, .int (nI (t + 1))), (2, .int (nI v)), (0, .ref h0)]) hx hb dX1_goOn_323 hl (k := 1) rfl (sq_inc _) (by decide) rfl (fun ls hl => ?_)
          refine lv_goto (tgt := 270) hx hb dX1_goOn_326 (by decide) ?_
          exact ih (j - 1) (by omega) (t + 1) (by omega) H locs ls hP hD hS (lv_sub hl [0, 2] rfl)
  have LB : ∀ k : Nat, k ≤ ms.2 1 → ∀ (x1 : Int32), x1 = nI k - 1 → ∀ (H : Heap) (locs : List Loc) (ls : Array Slot), va_P (dC, dI) vwCl (wM h0 q cI cZ (ms.1 0) (ms.1 1) (ms.1 2) (ms.1 3) (ms.1 4) (ms.1 5) (sq_G (sq_dH (ms.2 1) (ms.2 1) (ms.2 1)) (sq_gI (sq_mago (ms.2 2) (ms.1 5)) (ms.1 1) (ms.1 6)) (ms.1 6)) (sq_G (sq_dL (ms.2 1) k (ms.2 1)) (sq_gS (sq_mago (ms.2 2) (ms.1 5)) (ms.1 1) (ms.1 2) (ms.1 6) (ms.1 10) (ms.1 8) (ms.1 9) (ms.1 7)) (ms.1 7)) (sq_G (sq_dL (ms.2 1) k (ms.2 1)) (sq_gF (sq_mago (ms.2 2) (ms.1 5)) (ms.1 2) (ms.1 10) (ms.1 8) (ms.1 9)) (ms.1 8)) (ms.1 9) (sq_G (sq_dH (ms.2 1) (ms.2 1) (ms.2 1)) (sq_gM (sq_mago (ms.2 2) (ms.1 5)) (ms.1 2) (ms.1 10)) (ms.1 10)) (sq_G (sq_dH (ms.2 1) (ms.2 1) (ms.2 1)) (sq_nIn (ms.1 11) (sq_mreal (sq_mago (ms.2 2) (ms.1 5)))) (ms.1 11)) (ms.2 0) (ms.2 1) (ms.2 2) (ms.2 3) (ms.2 4) (ms.2 5) (ms.2 6) (ms.2 7) (ms.2 8) (ms.2 9) (ms.2 10)) H → va_D A (wM h0 q cI cZ (ms.1 0) (ms.1 1) (ms.1 2) (ms.1 3) (ms.1 4) (ms.1 5) (sq_G (sq_dH (ms.2 1) (ms.2 1) (ms.2 1)) (sq_gI (sq_mago (ms.2 2) (ms.1 5)) (ms.1 1) (ms.1 6)) (ms.1 6)) (sq_G (sq_dL (ms.2 1) k (ms.2 1)) (sq_gS (sq_mago (ms.2 2) (ms.1 5)) (ms.1 1) (ms.1 2) (ms.1 6) (ms.1 10) (ms.1 8) (ms.1 9) (ms.1 7)) (ms.1 7)) (sq_G (sq_dL (ms.2 1) k (ms.2 1)) (sq_gF (sq_mago (ms.2 2) (ms.1 5)) (ms.1 2) (ms.1 10) (ms.1 8) (ms.1 9)) (ms.1 8)) (ms.1 9) (sq_G (sq_dH (ms.2 1) (ms.2 1) (ms.2 1)) (sq_gM (sq_mago (ms.2 2) (ms.1 5)) (ms.1 2) (ms.1 10)) (ms.1 10)) (sq_G (sq_dH (ms.2 1) (ms.2 1) (ms.2 1)) (sq_nIn (ms.1 11) (sq_mreal (sq_mago (ms.2 2) (ms.1 5)))) (ms.1 11)) (ms.2 0) (ms.2 1) (ms.2 2) (ms.2 3) (ms.2 4) (ms.2 5) (ms.2 6) (ms.2 7) (ms.2 8) (ms.2 9) (ms.2 10)) → va_S A s.heap H locs → lv_has ls 4 [(1, .int x1), (0, .ref h0)] → W p l e rmm_goOn s m args below meth c H locs 0 0 Q (F0 m 168 ls []) := by
    intro k
    induction k with
    | zero =>
      intro _ x1 e1 H locs ls hP hD hS hl
      refine lv_iload_n hx hb dX1_goOn_168 rfl (lv_at hl 0 rfl) ?_
      refine lv_if_lt (tgt := 268) hx hb dX1_goOn_169 (by decide) (fun _ => ?_) (fun hn => absurd (by rw [e1]; decide) hn)
      have eA : sq_G (sq_dL (ms.2 1) 0 (ms.2 1)) (sq_gF (sq_mago (ms.2 2) (ms.1 5)) (ms.1 2) (ms.1 10) (ms.1 8) (ms.1 9)) (ms.1 8) = sq_G (sq_dH (ms.2 1) (ms.2 1) (ms.2 1)) (sq_gF (sq_mago (ms.2 2) (ms.1 5)) (ms.1 2) (ms.1 10) (ms.1 8) (ms.1 9)) (ms.1 8) := (sq_G_eq (sq_dH_all (ms.2 1))).symm
      rw [eA] at hP hD
      clear eA
      have eA : sq_G (sq_dL (ms.2 1) 0 (ms.2 1)) (sq_gS (sq_mago (ms.2 2) (ms.1 5)) (ms.1 1) (ms.1 2) (ms.1 6) (ms.1 10) (ms.1 8) (ms.1 9) (ms.1 7)) (ms.1 7) = (sq_G (sq_dH (ms.2 1) (ms.2 1) (ms.2 1)) (sq_gS (sq_mago (ms.2 2) (ms.1 5)) (ms.1 1) (ms.1 2) (ms.1 6) (ms.1 10) (ms.1 8) (ms.1 9) (ms.1 7)) (ms.1 7)) := (sq_G_eq (sq_dH_all (ms.2 1))).symm
      rw [eA] at hP hD
      clear eA
      refine lv_iconst (v := nI 0) hx hb dX1_goOn_268 (by decide +kernel) ?_
      refine lv_istore_n (lv' := [(1, .int (nI 0)), (0, .ref h0)]) hx hb dX1_goOn_269 rfl hl (by decide) rfl (fun ls hl => ?_)
      exact LC (ms.2 1) 0 (by omega) H locs ls hP hD hS hl
    | succ r ih =>
      intro hr x1 e1 H locs ls hP hD hS hl
      have e2 : x1 = nI r := by rw [e1]; exact nI_pred r
      subst e2
      refine lv_iload_n hx hb dX1_goOn_168 rfl (lv_at hl 0 rfl) ?_
      refine sq_if_lt (tgt := 268) hx hb (by omega) dX1_goOn_169 (by decide) ?_
      have eA : sq_G (sq_dL (ms.2 1) (r + 1) (ms.2 1)) (sq_gF (sq_mago (ms.2 2) (ms.1 5)) (ms.1 2) (ms.1 10) (ms.1 8) (ms.1 9)) (ms.1 8) = sq_G (sq_dL (ms.2 1) r 0) (sq_gF (sq_mago (ms.2 2) (ms.1 5)) (ms.1 2) (ms.1 10) (ms.1 8) (ms.1 9)) (ms.1 8) := sq_G_eq (sq_dL_row (ms.2 1) r)
      rw [eA] at hP hD
      clear eA
      have eA : sq_G (sq_dL (ms.2 1) (r + 1) (ms.2 1)) (sq_gS (sq_mago (ms.2 2) (ms.1 5)) (ms.1 1) (ms.1 2) (ms.1 6) (ms.1 10) (ms.1 8) (ms.1 9) (ms.1 7)) (ms.1 7) = sq_G (sq_dL (ms.2 1) r 0) (sq_gS (sq_mago (ms.2 2) (ms.1 5)) (ms.1 1) (ms.1 2) (ms.1 6) (ms.1 10) (ms.1 8) (ms.1 9) (ms.1 7)) (ms.1 7) := sq_G_eq (sq_dL_row (ms.2 1) r)
      rw [eA] at hP hD
      clear eA
      refine lv_iconst (v := nI 0) hx hb dX1_goOn_172 (by decide +kernel) ?_
      refine lv_istore_n (lv' := [(2, .int (nI 0)), (1, .int (nI r)), (0, .ref h0)]) hx hb dX1_goOn_173 rfl hl (by decide) rfl (fun ls hl => ?_)
      have L2 : ∀ j t : Nat, t + j = ms.2 1 → ∀ (H : Heap) (locs : List Loc) (ls : Array Slot), va_P (dC, dI) vwCl (wM h0 q cI cZ (ms.1 0) (ms.1 1) (ms.1 2) (ms.1 3) (ms.1 4) (ms.1 5) (sq_G (sq_dH (ms.2 1) (ms.2 1) (ms.2 1)) (sq_gI (sq_mago (ms.2 2) (ms.1 5)) (ms.1 1) (ms.1 6)) (ms.1 6)) (sq_G (sq_dL (ms.2 1) r t) (sq_gS (sq_mago (ms.2 2) (ms.1 5)) (ms.1 1) (ms.1 2) (ms.1 6) (ms.1 10) (ms.1 8) (ms.1 9) (ms.1 7)) (ms.1 7)) (sq_G (sq_dL (ms.2 1) r t) (sq_gF (sq_mago (ms.2 2) (ms.1 5)) (ms.1 2) (ms.1 10) (ms.1 8) (ms.1 9)) (ms.1 8)) (ms.1 9) (sq_G (sq_dH (ms.2 1) (ms.2 1) (ms.2 1)) (sq_gM (sq_mago (ms.2 2) (ms.1 5)) (ms.1 2) (ms.1 10)) (ms.1 10)) (sq_G (sq_dH (ms.2 1) (ms.2 1) (ms.2 1)) (sq_nIn (ms.1 11) (sq_mreal (sq_mago (ms.2 2) (ms.1 5)))) (ms.1 11)) (ms.2 0) (ms.2 1) (ms.2 2) (ms.2 3) (ms.2 4) (ms.2 5) (ms.2 6) (ms.2 7) (ms.2 8) (ms.2 9) (ms.2 10)) H → va_D A (wM h0 q cI cZ (ms.1 0) (ms.1 1) (ms.1 2) (ms.1 3) (ms.1 4) (ms.1 5) (sq_G (sq_dH (ms.2 1) (ms.2 1) (ms.2 1)) (sq_gI (sq_mago (ms.2 2) (ms.1 5)) (ms.1 1) (ms.1 6)) (ms.1 6)) (sq_G (sq_dL (ms.2 1) r t) (sq_gS (sq_mago (ms.2 2) (ms.1 5)) (ms.1 1) (ms.1 2) (ms.1 6) (ms.1 10) (ms.1 8) (ms.1 9) (ms.1 7)) (ms.1 7)) (sq_G (sq_dL (ms.2 1) r t) (sq_gF (sq_mago (ms.2 2) (ms.1 5)) (ms.1 2) (ms.1 10) (ms.1 8) (ms.1 9)) (ms.1 8)) (ms.1 9) (sq_G (sq_dH (ms.2 1) (ms.2 1) (ms.2 1)) (sq_gM (sq_mago (ms.2 2) (ms.1 5)) (ms.1 2) (ms.1 10)) (ms.1 10)) (sq_G (sq_dH (ms.2 1) (ms.2 1) (ms.2 1)) (sq_nIn (ms.1 11) (sq_mreal (sq_mago (ms.2 2) (ms.1 5)))) (ms.1 11)) (ms.2 0) (ms.2 1) (ms.2 2) (ms.2 3) (ms.2 4) (ms.2 5) (ms.2 6) (ms.2 7) (ms.2 8) (ms.2 9) (ms.2 10)) → va_S A s.heap H locs → lv_has ls 4 [(2, .int (nI t)), (1, .int (nI r)), (0, .ref h0)] → W p l e rmm_goOn s m args below meth c H locs 0 0 Q (F0 m 174 ls []) := by
        intro j
        induction j using Nat.strongRecOn with
        | _ j ih2 =>
          intro t ht H locs ls hP hD hS hl
          refine lv_iload_n hx hb dX1_goOn_174 rfl (lv_at hl 0 rfl) ?_
          refine lv_aload_n hx hb dX1_goOn_175 rfl (lv_at hl 2 rfl) ?_
          refine va_get (D := (dC, dI)) (ci := 1) (v := .int (nI (ms.2 1))) (C := RX1) (T := TX1) (N := 23) hx hb hts hin hown hK hP 0 rfl rfl 1 (by decide) k7 (fun _ h9 => h9) rfl dX1_goOn_176 ?_
          refine sq_icmp_ge (tgt := 262) hx hb (by omega) (by omega) dX1_goOn_179 (by decide) (fun hd => ?_) (fun hd => ?_)
          · rw [show t = ms.2 1 by omega] at hP hD
            refine lv_iinc (v := (nI r) + Int32.ofInt (-1)) (lv' := [(1, .int ((nI r) + Int32.ofInt (-1))), (2, .int (nI t)), (0, .ref h0)]) hx hb dX1_goOn_262 hl (k := 1) rfl rfl (by decide) rfl (fun ls hl => ?_)
            refine lv_goto (tgt := 168) hx hb dX1_goOn_265 (by decide) ?_
            exact ih (by omega) _ (by rw [Int32.sub_eq_add_neg]; rfl) H locs ls hP hD hS (lv_sub hl [0, 2] rfl)
          · refine lv_bipush (v := nI 6) hx hb dX1_goOn_182 (by decide +kernel) ?_
            refine lv_iload_n hx hb dX1_goOn_184 rfl (lv_at hl 1 rfl) ?_
            refine sq_imulc hx hb dX1_goOn_185 ?_
            refine lv_iload_n hx hb dX1_goOn_186 rfl (lv_at hl 0 rfl) ?_
            refine sq_iadd hx hb dX1_goOn_187 ?_
            refine lv_istore_n (lv' := [(3, .int (nI ((r * 6) + t))), (2, .int (nI t)), (1, .int (nI r)), (0, .ref h0)]) hx hb dX1_goOn_188 rfl hl (by decide) rfl (fun ls hl => ?_)
            have dS := sq_dL_step (ms.2 1) r t o2 (by omega) (by omega)
            have xM : sq_G (sq_dH (ms.2 1) (ms.2 1) (ms.2 1)) (sq_gM (sq_mago (ms.2 2) (ms.1 5)) (ms.1 2) (ms.1 10)) (ms.1 10) (r * 6 + t) = (sq_gM (sq_mago (ms.2 2) (ms.1 5)) (ms.1 2) (ms.1 10)) (r * 6 + t) := sq_G_new (sq_dH_in o2 (by omega) (by omega))
            have xI : sq_G (sq_dH (ms.2 1) (ms.2 1) (ms.2 1)) (sq_gI (sq_mago (ms.2 2) (ms.1 5)) (ms.1 1) (ms.1 6)) (ms.1 6) (r * 6 + t) = (sq_gI (sq_mago (ms.2 2) (ms.1 5)) (ms.1 1) (ms.1 6)) (r * 6 + t) := sq_G_new (sq_dH_in o2 (by omega) (by omega))
            have T219 : ∀ (H : Heap) (locs : List Loc) (ls : Array Slot), va_P (dC, dI) vwCl (wM h0 q cI cZ (ms.1 0) (ms.1 1) (ms.1 2) (ms.1 3) (ms.1 4) (ms.1 5) (sq_G (sq_dH (ms.2 1) (ms.2 1) (ms.2 1)) (sq_gI (sq_mago (ms.2 2) (ms.1 5)) (ms.1 1) (ms.1 6)) (ms.1 6)) (sq_G (sq_dL (ms.2 1) r t) (sq_gS (sq_mago (ms.2 2) (ms.1 5)) (ms.1 1) (ms.1 2) (ms.1 6) (ms.1 10) (ms.1 8) (ms.1 9) (ms.1 7)) (ms.1 7)) (sq_G (sq_dL (ms.2 1) r (t + 1)) (sq_gF (sq_mago (ms.2 2) (ms.1 5)) (ms.1 2) (ms.1 10) (ms.1 8) (ms.1 9)) (ms.1 8)) (ms.1 9) (sq_G (sq_dH (ms.2 1) (ms.2 1) (ms.2 1)) (sq_gM (sq_mago (ms.2 2) (ms.1 5)) (ms.1 2) (ms.1 10)) (ms.1 10)) (sq_G (sq_dH (ms.2 1) (ms.2 1) (ms.2 1)) (sq_nIn (ms.1 11) (sq_mreal (sq_mago (ms.2 2) (ms.1 5)))) (ms.1 11)) (ms.2 0) (ms.2 1) (ms.2 2) (ms.2 3) (ms.2 4) (ms.2 5) (ms.2 6) (ms.2 7) (ms.2 8) (ms.2 9) (ms.2 10)) H → va_D A (wM h0 q cI cZ (ms.1 0) (ms.1 1) (ms.1 2) (ms.1 3) (ms.1 4) (ms.1 5) (sq_G (sq_dH (ms.2 1) (ms.2 1) (ms.2 1)) (sq_gI (sq_mago (ms.2 2) (ms.1 5)) (ms.1 1) (ms.1 6)) (ms.1 6)) (sq_G (sq_dL (ms.2 1) r t) (sq_gS (sq_mago (ms.2 2) (ms.1 5)) (ms.1 1) (ms.1 2) (ms.1 6) (ms.1 10) (ms.1 8) (ms.1 9) (ms.1 7)) (ms.1 7)) (sq_G (sq_dL (ms.2 1) r (t + 1)) (sq_gF (sq_mago (ms.2 2) (ms.1 5)) (ms.1 2) (ms.1 10) (ms.1 8) (ms.1 9)) (ms.1 8)) (ms.1 9) (sq_G (sq_dH (ms.2 1) (ms.2 1) (ms.2 1)) (sq_gM (sq_mago (ms.2 2) (ms.1 5)) (ms.1 2) (ms.1 10)) (ms.1 10)) (sq_G (sq_dH (ms.2 1) (ms.2 1) (ms.2 1)) (sq_nIn (ms.1 11) (sq_mreal (sq_mago (ms.2 2) (ms.1 5)))) (ms.1 11)) (ms.2 0) (ms.2 1) (ms.2 2) (ms.2 3) (ms.2 4) (ms.2 5) (ms.2 6) (ms.2 7) (ms.2 8) (ms.2 9) (ms.2 10)) → va_S A s.heap H locs → lv_has ls 4 [(3, .int (nI ((r * 6) + t))), (2, .int (nI t)), (1, .int (nI r)), (0, .ref h0)] → W p l e rmm_goOn s m args below meth c H locs 0 0 Q (F0 m 219 ls []) := by
              intro H locs ls hP hD hS hl
              refine lv_aload_n hx hb dX1_goOn_219 rfl (lv_at hl 3 rfl) ?_
              refine va_get (D := (dC, dI)) (ci := 1) (v := .ref (q 7)) (C := RX1) (T := TX1) (N := 23) hx hb hts hin hown hK hP 0 rfl rfl 18 (by decide) k36 (fun _ h9 => h9) rfl dX1_goOn_220 ?_
              refine lv_iload_n hx hb dX1_goOn_223 rfl (lv_at hl 0 rfl) ?_
              refine lv_iload_n hx hb dX1_goOn_224 rfl (lv_at hl 2 rfl) ?_
              refine sq_if_ne (tgt := 232) hx hb (by omega) dX1_goOn_225 (by decide) (fun he => ?_) (fun he => ?_)
              · refine lv_aload_n hx hb dX1_goOn_232 rfl (lv_at hl 3 rfl) ?_
                refine va_get (D := (dC, dI)) (ci := 1) (v := .ref (q 7)) (C := RX1) (T := TX1) (N := 23) hx hb hts hin hown hK hP 0 rfl rfl 18 (by decide) k36 (fun _ h9 => h9) rfl dX1_goOn_233 ?_
                refine lv_iload_n hx hb dX1_goOn_236 rfl (lv_at hl 0 rfl) ?_
                refine lv_bipush (v := nI 6) hx hb dX1_goOn_237 (by decide +kernel) ?_
                refine sq_isub hx hb (by omega) dX1_goOn_239 ?_
                refine sq_iald hx hb hK hP 8 0 rfl rfl (i := (((r * 6) + t) - 6)) (by omega) (by decide) dX1_goOn_240 ?_
                refine lv_aload_n hx hb dX1_goOn_241 rfl (lv_at hl 3 rfl) ?_
                refine va_get (D := (dC, dI)) (ci := 1) (v := .ref (q 8)) (C := RX1) (T := TX1) (N := 23) hx hb hts hin hown hK hP 0 rfl rfl 19 (by decide) k39 (fun _ h9 => h9) rfl dX1_goOn_242 ?_
                refine lv_iload_n hx hb dX1_goOn_245 rfl (lv_at hl 0 rfl) ?_
                refine sq_iald hx hb hK hP 9 0 rfl rfl (i := ((r * 6) + t)) (by omega) (by decide) dX1_goOn_246 ?_
                refine lv_aload_n hx hb dX1_goOn_247 rfl (lv_at hl 3 rfl) ?_
                refine va_get (D := (dC, dI)) (ci := 1) (v := .ref (q 6)) (C := RX1) (T := TX1) (N := 23) hx hb hts hin hown hK hP 0 rfl rfl 17 (by decide) k33 (fun _ h9 => h9) rfl dX1_goOn_248 ?_
                refine lv_iload_n hx hb dX1_goOn_251 rfl (lv_at hl 0 rfl) ?_
                refine sq_iald hx hb hK hP 7 0 rfl rfl (i := ((r * 6) + t)) (by omega) (by decide) dX1_goOn_252 ?_
                refine lv_imul hx hb dX1_goOn_253 ?_
                refine lv_iadd hx hb dX1_goOn_254 ?_
                refine sq_iast hx hb hK hP hD hS 8 0 rfl rfl (i := ((r * 6) + t)) (by omega) (by decide) dX1_goOn_255 (fun H locs hP hD hS => ?_)
                have hP : va_P (dC, dI) vwCl (wM h0 q cI cZ (ms.1 0) (ms.1 1) (ms.1 2) (ms.1 3) (ms.1 4) (ms.1 5) (sq_G (sq_dH (ms.2 1) (ms.2 1) (ms.2 1)) (sq_gI (sq_mago (ms.2 2) (ms.1 5)) (ms.1 1) (ms.1 6)) (ms.1 6)) (upd (sq_G (sq_dL (ms.2 1) r t) (sq_gS (sq_mago (ms.2 2) (ms.1 5)) (ms.1 1) (ms.1 2) (ms.1 6) (ms.1 10) (ms.1 8) (ms.1 9) (ms.1 7)) (ms.1 7)) ((r * 6) + t) (((sq_G (sq_dL (ms.2 1) r t) (sq_gS (sq_mago (ms.2 2) (ms.1 5)) (ms.1 1) (ms.1 2) (ms.1 6) (ms.1 10) (ms.1 8) (ms.1 9) (ms.1 7)) (ms.1 7)) (((r * 6) + t) - 6)) + (((sq_G (sq_dL (ms.2 1) r (t + 1)) (sq_gF (sq_mago (ms.2 2) (ms.1 5)) (ms.1 2) (ms.1 10) (ms.1 8) (ms.1 9)) (ms.1 8)) ((r * 6) + t)) * ((sq_G (sq_dH (ms.2 1) (ms.2 1) (ms.2 1)) (sq_gI (sq_mago (ms.2 2) (ms.1 5)) (ms.1 1) (ms.1 6)) (ms.1 6)) ((r * 6) + t))))) (sq_G (sq_dL (ms.2 1) r (t + 1)) (sq_gF (sq_mago (ms.2 2) (ms.1 5)) (ms.1 2) (ms.1 10) (ms.1 8) (ms.1 9)) (ms.1 8)) (ms.1 9) (sq_G (sq_dH (ms.2 1) (ms.2 1) (ms.2 1)) (sq_gM (sq_mago (ms.2 2) (ms.1 5)) (ms.1 2) (ms.1 10)) (ms.1 10)) (sq_G (sq_dH (ms.2 1) (ms.2 1) (ms.2 1)) (sq_nIn (ms.1 11) (sq_mreal (sq_mago (ms.2 2) (ms.1 5)))) (ms.1 11)) (ms.2 0) (ms.2 1) (ms.2 2) (ms.2 3) (ms.2 4) (ms.2 5) (ms.2 6) (ms.2 7) (ms.2 8) (ms.2 9) (ms.2 10)) H := hP
                have hD : va_D A (wM h0 q cI cZ (ms.1 0) (ms.1 1) (ms.1 2) (ms.1 3) (ms.1 4) (ms.1 5) (sq_G (sq_dH (ms.2 1) (ms.2 1) (ms.2 1)) (sq_gI (sq_mago (ms.2 2) (ms.1 5)) (ms.1 1) (ms.1 6)) (ms.1 6)) (upd (sq_G (sq_dL (ms.2 1) r t) (sq_gS (sq_mago (ms.2 2) (ms.1 5)) (ms.1 1) (ms.1 2) (ms.1 6) (ms.1 10) (ms.1 8) (ms.1 9) (ms.1 7)) (ms.1 7)) ((r * 6) + t) (((sq_G (sq_dL (ms.2 1) r t) (sq_gS (sq_mago (ms.2 2) (ms.1 5)) (ms.1 1) (ms.1 2) (ms.1 6) (ms.1 10) (ms.1 8) (ms.1 9) (ms.1 7)) (ms.1 7)) (((r * 6) + t) - 6)) + (((sq_G (sq_dL (ms.2 1) r (t + 1)) (sq_gF (sq_mago (ms.2 2) (ms.1 5)) (ms.1 2) (ms.1 10) (ms.1 8) (ms.1 9)) (ms.1 8)) ((r * 6) + t)) * ((sq_G (sq_dH (ms.2 1) (ms.2 1) (ms.2 1)) (sq_gI (sq_mago (ms.2 2) (ms.1 5)) (ms.1 1) (ms.1 6)) (ms.1 6)) ((r * 6) + t))))) (sq_G (sq_dL (ms.2 1) r (t + 1)) (sq_gF (sq_mago (ms.2 2) (ms.1 5)) (ms.1 2) (ms.1 10) (ms.1 8) (ms.1 9)) (ms.1 8)) (ms.1 9) (sq_G (sq_dH (ms.2 1) (ms.2 1) (ms.2 1)) (sq_gM (sq_mago (ms.2 2) (ms.1 5)) (ms.1 2) (ms.1 10)) (ms.1 10)) (sq_G (sq_dH (ms.2 1) (ms.2 1) (ms.2 1)) (sq_nIn (ms.1 11) (sq_mreal (sq_mago (ms.2 2) (ms.1 5)))) (ms.1 11)) (ms.2 0) (ms.2 1) (ms.2 2) (ms.2 3) (ms.2 4) (ms.2 5) (ms.2 6) (ms.2 7) (ms.2 8) (ms.2 9) (ms.2 10)) := hD
                have eA : upd (sq_G (sq_dL (ms.2 1) r t) (sq_gS (sq_mago (ms.2 2) (ms.1 5)) (ms.1 1) (ms.1 2) (ms.1 6) (ms.1 10) (ms.1 8) (ms.1 9) (ms.1 7)) (ms.1 7)) ((r * 6) + t) (((sq_G (sq_dL (ms.2 1) r t) (sq_gS (sq_mago (ms.2 2) (ms.1 5)) (ms.1 1) (ms.1 2) (ms.1 6) (ms.1 10) (ms.1 8) (ms.1 9) (ms.1 7)) (ms.1 7)) (((r * 6) + t) - 6)) + (((sq_G (sq_dL (ms.2 1) r (t + 1)) (sq_gF (sq_mago (ms.2 2) (ms.1 5)) (ms.1 2) (ms.1 10) (ms.1 8) (ms.1 9)) (ms.1 8)) ((r * 6) + t)) * ((sq_G (sq_dH (ms.2 1) (ms.2 1) (ms.2 1)) (sq_gI (sq_mago (ms.2 2) (ms.1 5)) (ms.1 1) (ms.1 6)) (ms.1 6)) ((r * 6) + t)))) = sq_G (sq_dL (ms.2 1) r (t + 1)) (sq_gS (sq_mago (ms.2 2) (ms.1 5)) (ms.1 1) (ms.1 2) (ms.1 6) (ms.1 10) (ms.1 8) (ms.1 9) (ms.1 7)) (ms.1 7) := sq_G_step (by rw [sq_G_old (sq_dL_up _ r t (by omega) (by omega))]; rw [xI, sq_G_new ((dS _).mpr (Or.inr rfl))]; unfold sq_gS sq_nSu; rw [if_neg (by omega)]) dS
                rw [eA] at hP hD
                clear eA
                refine lv_iinc (v := nI (t + 1)) (lv' := [(2, .int (nI (t + 1))), (3, .int (nI ((r * 6) + t))), (1, .int (nI r)), (0, .ref h0)]) hx hb dX1_goOn_256 hl (k := 1) rfl (sq_inc _) (by decide) rfl (fun ls hl => ?_)
                refine lv_goto (tgt := 174) hx hb dX1_goOn_259 (by decide) ?_
                exact ih2 (j - 1) (by omega) (t + 1) (by omega) H locs ls hP hD hS (lv_sub hl [0, 2, 3] rfl)
              · refine lv_iconst (v := nI 0) hx hb dX1_goOn_228 (by decide +kernel) ?_
                refine lv_goto (tgt := 241) hx hb dX1_goOn_229 (by decide) ?_
                refine lv_aload_n hx hb dX1_goOn_241 rfl (lv_at hl 3 rfl) ?_
                refine va_get (D := (dC, dI)) (ci := 1) (v := .ref (q 8)) (C := RX1) (T := TX1) (N := 23) hx hb hts hin hown hK hP 0 rfl rfl 19 (by decide) k39 (fun _ h9 => h9) rfl dX1_goOn_242 ?_
                refine lv_iload_n hx hb dX1_goOn_245 rfl (lv_at hl 0 rfl) ?_
                refine sq_iald hx hb hK hP 9 0 rfl rfl (i := ((r * 6) + t)) (by omega) (by decide) dX1_goOn_246 ?_
                refine lv_aload_n hx hb dX1_goOn_247 rfl (lv_at hl 3 rfl) ?_
                refine va_get (D := (dC, dI)) (ci := 1) (v := .ref (q 6)) (C := RX1) (T := TX1) (N := 23) hx hb hts hin hown hK hP 0 rfl rfl 17 (by decide) k33 (fun _ h9 => h9) rfl dX1_goOn_248 ?_
                refine lv_iload_n hx hb dX1_goOn_251 rfl (lv_at hl 0 rfl) ?_
                refine sq_iald hx hb hK hP 7 0 rfl rfl (i := ((r * 6) + t)) (by omega) (by decide) dX1_goOn_252 ?_
                refine lv_imul hx hb dX1_goOn_253 ?_
                refine lv_iadd hx hb dX1_goOn_254 ?_
                refine sq_iast hx hb hK hP hD hS 8 0 rfl rfl (i := ((r * 6) + t)) (by omega) (by decide) dX1_goOn_255 (fun H locs hP hD hS => ?_)
                have hP : va_P (dC, dI) vwCl (wM h0 q cI cZ (ms.1 0) (ms.1 1) (ms.1 2) (ms.1 3) (ms.1 4) (ms.1 5) (sq_G (sq_dH (ms.2 1) (ms.2 1) (ms.2 1)) (sq_gI (sq_mago (ms.2 2) (ms.1 5)) (ms.1 1) (ms.1 6)) (ms.1 6)) (upd (sq_G (sq_dL (ms.2 1) r t) (sq_gS (sq_mago (ms.2 2) (ms.1 5)) (ms.1 1) (ms.1 2) (ms.1 6) (ms.1 10) (ms.1 8) (ms.1 9) (ms.1 7)) (ms.1 7)) ((r * 6) + t) ((nI 0) + (((sq_G (sq_dL (ms.2 1) r (t + 1)) (sq_gF (sq_mago (ms.2 2) (ms.1 5)) (ms.1 2) (ms.1 10) (ms.1 8) (ms.1 9)) (ms.1 8)) ((r * 6) + t)) * ((sq_G (sq_dH (ms.2 1) (ms.2 1) (ms.2 1)) (sq_gI (sq_mago (ms.2 2) (ms.1 5)) (ms.1 1) (ms.1 6)) (ms.1 6)) ((r * 6) + t))))) (sq_G (sq_dL (ms.2 1) r (t + 1)) (sq_gF (sq_mago (ms.2 2) (ms.1 5)) (ms.1 2) (ms.1 10) (ms.1 8) (ms.1 9)) (ms.1 8)) (ms.1 9) (sq_G (sq_dH (ms.2 1) (ms.2 1) (ms.2 1)) (sq_gM (sq_mago (ms.2 2) (ms.1 5)) (ms.1 2) (ms.1 10)) (ms.1 10)) (sq_G (sq_dH (ms.2 1) (ms.2 1) (ms.2 1)) (sq_nIn (ms.1 11) (sq_mreal (sq_mago (ms.2 2) (ms.1 5)))) (ms.1 11)) (ms.2 0) (ms.2 1) (ms.2 2) (ms.2 3) (ms.2 4) (ms.2 5) (ms.2 6) (ms.2 7) (ms.2 8) (ms.2 9) (ms.2 10)) H := hP
                have hD : va_D A (wM h0 q cI cZ (ms.1 0) (ms.1 1) (ms.1 2) (ms.1 3) (ms.1 4) (ms.1 5) (sq_G (sq_dH (ms.2 1) (ms.2 1) (ms.2 1)) (sq_gI (sq_mago (ms.2 2) (ms.1 5)) (ms.1 1) (ms.1 6)) (ms.1 6)) (upd (sq_G (sq_dL (ms.2 1) r t) (sq_gS (sq_mago (ms.2 2) (ms.1 5)) (ms.1 1) (ms.1 2) (ms.1 6) (ms.1 10) (ms.1 8) (ms.1 9) (ms.1 7)) (ms.1 7)) ((r * 6) + t) ((nI 0) + (((sq_G (sq_dL (ms.2 1) r (t + 1)) (sq_gF (sq_mago (ms.2 2) (ms.1 5)) (ms.1 2) (ms.1 10) (ms.1 8) (ms.1 9)) (ms.1 8)) ((r * 6) + t)) * ((sq_G (sq_dH (ms.2 1) (ms.2 1) (ms.2 1)) (sq_gI (sq_mago (ms.2 2) (ms.1 5)) (ms.1 1) (ms.1 6)) (ms.1 6)) ((r * 6) + t))))) (sq_G (sq_dL (ms.2 1) r (t + 1)) (sq_gF (sq_mago (ms.2 2) (ms.1 5)) (ms.1 2) (ms.1 10) (ms.1 8) (ms.1 9)) (ms.1 8)) (ms.1 9) (sq_G (sq_dH (ms.2 1) (ms.2 1) (ms.2 1)) (sq_gM (sq_mago (ms.2 2) (ms.1 5)) (ms.1 2) (ms.1 10)) (ms.1 10)) (sq_G (sq_dH (ms.2 1) (ms.2 1) (ms.2 1)) (sq_nIn (ms.1 11) (sq_mreal (sq_mago (ms.2 2) (ms.1 5)))) (ms.1 11)) (ms.2 0) (ms.2 1) (ms.2 2) (ms.2 3) (ms.2 4) (ms.2 5) (ms.2 6) (ms.2 7) (ms.2 8) (ms.2 9) (ms.2 10)) := hD
                have eA : upd (sq_G (sq_dL (ms.2 1) r t) (sq_gS (sq_mago (ms.2 2) (ms.1 5)) (ms.1 1) (ms.1 2) (ms.1 6) (ms.1 10) (ms.1 8) (ms.1 9) (ms.1 7)) (ms.1 7)) ((r * 6) + t) ((nI 0) + (((sq_G (sq_dL (ms.2 1) r (t + 1)) (sq_gF (sq_mago (ms.2 2) (ms.1 5)) (ms.1 2) (ms.1 10) (ms.1 8) (ms.1 9)) (ms.1 8)) ((r * 6) + t)) * ((sq_G (sq_dH (ms.2 1) (ms.2 1) (ms.2 1)) (sq_gI (sq_mago (ms.2 2) (ms.1 5)) (ms.1 1) (ms.1 6)) (ms.1 6)) ((r * 6) + t)))) = sq_G (sq_dL (ms.2 1) r (t + 1)) (sq_gS (sq_mago (ms.2 2) (ms.1 5)) (ms.1 1) (ms.1 2) (ms.1 6) (ms.1 10) (ms.1 8) (ms.1 9) (ms.1 7)) (ms.1 7) := sq_G_step (by rw [xI, sq_G_new ((dS _).mpr (Or.inr rfl))]; unfold sq_gS sq_nSu; rw [if_pos (by omega)]; rfl) dS
                rw [eA] at hP hD
                clear eA
                refine lv_iinc (v := nI (t + 1)) (lv' := [(2, .int (nI (t + 1))), (3, .int (nI ((r * 6) + t))), (1, .int (nI r)), (0, .ref h0)]) hx hb dX1_goOn_256 hl (k := 1) rfl (sq_inc _) (by decide) rfl (fun ls hl => ?_)
                refine lv_goto (tgt := 174) hx hb dX1_goOn_259 (by decide) ?_
                exact ih2 (j - 1) (by omega) (t + 1) (by omega) H locs ls hP hD hS (lv_sub hl [0, 2, 3] rfl)
            refine lv_aload_n hx hb dX1_goOn_189 rfl (lv_at hl 3 rfl) ?_
            refine va_get (D := (dC, dI)) (ci := 1) (v := .ref (q 8)) (C := RX1) (T := TX1) (N := 23) hx hb hts hin hown hK hP 0 rfl rfl 19 (by decide) k39 (fun _ h9 => h9) rfl dX1_goOn_190 ?_
            refine lv_iload_n hx hb dX1_goOn_193 rfl (lv_at hl 0 rfl) ?_
            refine lv_aload_n hx hb dX1_goOn_194 rfl (lv_at hl 3 rfl) ?_
            refine va_get (D := (dC, dI)) (ci := 1) (v := .ref (q 10)) (C := RX1) (T := TX1) (N := 23) hx hb hts hin hown hK hP 0 rfl rfl 21 (by decide) k45 (fun _ h9 => h9) rfl dX1_goOn_195 ?_
            refine lv_iload_n hx hb dX1_goOn_198 rfl (lv_at hl 0 rfl) ?_
            refine sq_zald hx hb hK hP 11 1 rfl rfl (i := ((r * 6) + t)) (by omega) (by decide) dX1_goOn_199 ?_
            refine lv_if_eq (tgt := 212) hx hb dX1_goOn_200 (by decide) (fun hf => ?_) (fun hf => ?_)
            · refine lv_aload_n hx hb dX1_goOn_212 rfl (lv_at hl 3 rfl) ?_
              refine va_get (D := (dC, dI)) (ci := 1) (v := .ref (q 8)) (C := RX1) (T := TX1) (N := 23) hx hb hts hin hown hK hP 0 rfl rfl 19 (by decide) k39 (fun _ h9 => h9) rfl dX1_goOn_213 ?_
              refine lv_iload_n hx hb dX1_goOn_216 rfl (lv_at hl 0 rfl) ?_
              refine sq_iald hx hb hK hP 9 0 rfl rfl (i := ((r * 6) + t)) (by omega) (by decide) dX1_goOn_217 ?_
              refine sq_iast hx hb hK hP hD hS 9 0 rfl rfl (i := ((r * 6) + t)) (by omega) (by decide) dX1_goOn_218 (fun H locs hP hD hS => ?_)
              have hP : va_P (dC, dI) vwCl (wM h0 q cI cZ (ms.1 0) (ms.1 1) (ms.1 2) (ms.1 3) (ms.1 4) (ms.1 5) (sq_G (sq_dH (ms.2 1) (ms.2 1) (ms.2 1)) (sq_gI (sq_mago (ms.2 2) (ms.1 5)) (ms.1 1) (ms.1 6)) (ms.1 6)) (sq_G (sq_dL (ms.2 1) r t) (sq_gS (sq_mago (ms.2 2) (ms.1 5)) (ms.1 1) (ms.1 2) (ms.1 6) (ms.1 10) (ms.1 8) (ms.1 9) (ms.1 7)) (ms.1 7)) (upd (sq_G (sq_dL (ms.2 1) r t) (sq_gF (sq_mago (ms.2 2) (ms.1 5)) (ms.1 2) (ms.1 10) (ms.1 8) (ms.1 9)) (ms.1 8)) ((r * 6) + t) ((sq_G (sq_dL (ms.2 1) r t) (sq_gF (sq_mago (ms.2 2) (ms.1 5)) (ms.1 2) (ms.1 10) (ms.1 8) (ms.1 9)) (ms.1 8)) ((r * 6) + t))) (ms.1 9) (sq_G (sq_dH (ms.2 1) (ms.2 1) (ms.2 1)) (sq_gM (sq_mago (ms.2 2) (ms.1 5)) (ms.1 2) (ms.1 10)) (ms.1 10)) (sq_G (sq_dH (ms.2 1) (ms.2 1) (ms.2 1)) (sq_nIn (ms.1 11) (sq_mreal (sq_mago (ms.2 2) (ms.1 5)))) (ms.1 11)) (ms.2 0) (ms.2 1) (ms.2 2) (ms.2 3) (ms.2 4) (ms.2 5) (ms.2 6) (ms.2 7) (ms.2 8) (ms.2 9) (ms.2 10)) H := hP
              have hD : va_D A (wM h0 q cI cZ (ms.1 0) (ms.1 1) (ms.1 2) (ms.1 3) (ms.1 4) (ms.1 5) (sq_G (sq_dH (ms.2 1) (ms.2 1) (ms.2 1)) (sq_gI (sq_mago (ms.2 2) (ms.1 5)) (ms.1 1) (ms.1 6)) (ms.1 6)) (sq_G (sq_dL (ms.2 1) r t) (sq_gS (sq_mago (ms.2 2) (ms.1 5)) (ms.1 1) (ms.1 2) (ms.1 6) (ms.1 10) (ms.1 8) (ms.1 9) (ms.1 7)) (ms.1 7)) (upd (sq_G (sq_dL (ms.2 1) r t) (sq_gF (sq_mago (ms.2 2) (ms.1 5)) (ms.1 2) (ms.1 10) (ms.1 8) (ms.1 9)) (ms.1 8)) ((r * 6) + t) ((sq_G (sq_dL (ms.2 1) r t) (sq_gF (sq_mago (ms.2 2) (ms.1 5)) (ms.1 2) (ms.1 10) (ms.1 8) (ms.1 9)) (ms.1 8)) ((r * 6) + t))) (ms.1 9) (sq_G (sq_dH (ms.2 1) (ms.2 1) (ms.2 1)) (sq_gM (sq_mago (ms.2 2) (ms.1 5)) (ms.1 2) (ms.1 10)) (ms.1 10)) (sq_G (sq_dH (ms.2 1) (ms.2 1) (ms.2 1)) (sq_nIn (ms.1 11) (sq_mreal (sq_mago (ms.2 2) (ms.1 5)))) (ms.1 11)) (ms.2 0) (ms.2 1) (ms.2 2) (ms.2 3) (ms.2 4) (ms.2 5) (ms.2 6) (ms.2 7) (ms.2 8) (ms.2 9) (ms.2 10)) := hD
              have eA : upd (sq_G (sq_dL (ms.2 1) r t) (sq_gF (sq_mago (ms.2 2) (ms.1 5)) (ms.1 2) (ms.1 10) (ms.1 8) (ms.1 9)) (ms.1 8)) ((r * 6) + t) ((sq_G (sq_dL (ms.2 1) r t) (sq_gF (sq_mago (ms.2 2) (ms.1 5)) (ms.1 2) (ms.1 10) (ms.1 8) (ms.1 9)) (ms.1 8)) ((r * 6) + t)) = sq_G (sq_dL (ms.2 1) r (t + 1)) (sq_gF (sq_mago (ms.2 2) (ms.1 5)) (ms.1 2) (ms.1 10) (ms.1 8) (ms.1 9)) (ms.1 8) := sq_G_step (by rw [sq_G_old (sq_dL_at (ms.2 1) r t (by omega))]; unfold sq_gF sq_nFa; rw [← xM, if_pos hf]) dS
              rw [eA] at hP hD
              clear eA
              exact T219 H locs ls hP hD hS hl
            · refine lv_aload_n hx hb dX1_goOn_203 rfl (lv_at hl 3 rfl) ?_
              refine va_get (D := (dC, dI)) (ci := 1) (v := .ref (q 9)) (C := RX1) (T := TX1) (N := 23) hx hb hts hin hown hK hP 0 rfl rfl 20 (by decide) k42 (fun _ h9 => h9) rfl dX1_goOn_204 ?_
              refine lv_iload_n hx hb dX1_goOn_207 rfl (lv_at hl 0 rfl) ?_
              refine sq_iald hx hb hK hP 10 0 rfl rfl (i := ((r * 6) + t)) (by omega) (by decide) dX1_goOn_208 ?_
              refine lv_goto (tgt := 218) hx hb dX1_goOn_209 (by decide) ?_
              refine sq_iast hx hb hK hP hD hS 9 0 rfl rfl (i := ((r * 6) + t)) (by omega) (by decide) dX1_goOn_218 (fun H locs hP hD hS => ?_)
              have hP : va_P (dC, dI) vwCl (wM h0 q cI cZ (ms.1 0) (ms.1 1) (ms.1 2) (ms.1 3) (ms.1 4) (ms.1 5) (sq_G (sq_dH (ms.2 1) (ms.2 1) (ms.2 1)) (sq_gI (sq_mago (ms.2 2) (ms.1 5)) (ms.1 1) (ms.1 6)) (ms.1 6)) (sq_G (sq_dL (ms.2 1) r t) (sq_gS (sq_mago (ms.2 2) (ms.1 5)) (ms.1 1) (ms.1 2) (ms.1 6) (ms.1 10) (ms.1 8) (ms.1 9) (ms.1 7)) (ms.1 7)) (upd (sq_G (sq_dL (ms.2 1) r t) (sq_gF (sq_mago (ms.2 2) (ms.1 5)) (ms.1 2) (ms.1 10) (ms.1 8) (ms.1 9)) (ms.1 8)) ((r * 6) + t) ((ms.1 9) ((r * 6) + t))) (ms.1 9) (sq_G (sq_dH (ms.2 1) (ms.2 1) (ms.2 1)) (sq_gM (sq_mago (ms.2 2) (ms.1 5)) (ms.1 2) (ms.1 10)) (ms.1 10)) (sq_G (sq_dH (ms.2 1) (ms.2 1) (ms.2 1)) (sq_nIn (ms.1 11) (sq_mreal (sq_mago (ms.2 2) (ms.1 5)))) (ms.1 11)) (ms.2 0) (ms.2 1) (ms.2 2) (ms.2 3) (ms.2 4) (ms.2 5) (ms.2 6) (ms.2 7) (ms.2 8) (ms.2 9) (ms.2 10)) H := hP
              have hD : va_D A (wM h0 q cI cZ (ms.1 0) (ms.1 1) (ms.1 2) (ms.1 3) (ms.1 4) (ms.1 5) (sq_G (sq_dH (ms.2 1) (ms.2 1) (ms.2 1)) (sq_gI (sq_mago (ms.2 2) (ms.1 5)) (ms.1 1) (ms.1 6)) (ms.1 6)) (sq_G (sq_dL (ms.2 1) r t) (sq_gS (sq_mago (ms.2 2) (ms.1 5)) (ms.1 1) (ms.1 2) (ms.1 6) (ms.1 10) (ms.1 8) (ms.1 9) (ms.1 7)) (ms.1 7)) (upd (sq_G (sq_dL (ms.2 1) r t) (sq_gF (sq_mago (ms.2 2) (ms.1 5)) (ms.1 2) (ms.1 10) (ms.1 8) (ms.1 9)) (ms.1 8)) ((r * 6) + t) ((ms.1 9) ((r * 6) + t))) (ms.1 9) (sq_G (sq_dH (ms.2 1) (ms.2 1) (ms.2 1)) (sq_gM (sq_mago (ms.2 2) (ms.1 5)) (ms.1 2) (ms.1 10)) (ms.1 10)) (sq_G (sq_dH (ms.2 1) (ms.2 1) (ms.2 1)) (sq_nIn (ms.1 11) (sq_mreal (sq_mago (ms.2 2) (ms.1 5)))) (ms.1 11)) (ms.2 0) (ms.2 1) (ms.2 2) (ms.2 3) (ms.2 4) (ms.2 5) (ms.2 6) (ms.2 7) (ms.2 8) (ms.2 9) (ms.2 10)) := hD
              have eA : upd (sq_G (sq_dL (ms.2 1) r t) (sq_gF (sq_mago (ms.2 2) (ms.1 5)) (ms.1 2) (ms.1 10) (ms.1 8) (ms.1 9)) (ms.1 8)) ((r * 6) + t) ((ms.1 9) ((r * 6) + t)) = sq_G (sq_dL (ms.2 1) r (t + 1)) (sq_gF (sq_mago (ms.2 2) (ms.1 5)) (ms.1 2) (ms.1 10) (ms.1 8) (ms.1 9)) (ms.1 8) := sq_G_step (by unfold sq_gF sq_nFa; rw [← xM, if_neg hf]) dS
              rw [eA] at hP hD
              clear eA
              exact T219 H locs ls hP hD hS hl
      exact L2 (ms.2 1) 0 (by omega) H locs ls hP hD hS hl
  have LA : ∀ j r : Nat, r + j = ms.2 1 → ∀ (H : Heap) (locs : List Loc) (ls : Array Slot), va_P (dC, dI) vwCl (wM h0 q cI cZ (ms.1 0) (ms.1 1) (ms.1 2) (ms.1 3) (ms.1 4) (ms.1 5) (sq_G (sq_dH (ms.2 1) r (ms.2 1)) (sq_gI (sq_mago (ms.2 2) (ms.1 5)) (ms.1 1) (ms.1 6)) (ms.1 6)) (ms.1 7) (ms.1 8) (ms.1 9) (sq_G (sq_dH (ms.2 1) r (ms.2 1)) (sq_gM (sq_mago (ms.2 2) (ms.1 5)) (ms.1 2) (ms.1 10)) (ms.1 10)) (sq_G (sq_dH (ms.2 1) r (ms.2 1)) (sq_nIn (ms.1 11) (sq_mreal (sq_mago (ms.2 2) (ms.1 5)))) (ms.1 11)) (ms.2 0) (ms.2 1) (ms.2 2) (ms.2 3) (ms.2 4) (ms.2 5) (ms.2 6) (ms.2 7) (ms.2 8) (ms.2 9) (ms.2 10)) H → va_D A (wM h0 q cI cZ (ms.1 0) (ms.1 1) (ms.1 2) (ms.1 3) (ms.1 4) (ms.1 5) (sq_G (sq_dH (ms.2 1) r (ms.2 1)) (sq_gI (sq_mago (ms.2 2) (ms.1 5)) (ms.1 1) (ms.1 6)) (ms.1 6)) (ms.1 7) (ms.1 8) (ms.1 9) (sq_G (sq_dH (ms.2 1) r (ms.2 1)) (sq_gM (sq_mago (ms.2 2) (ms.1 5)) (ms.1 2) (ms.1 10)) (ms.1 10)) (sq_G (sq_dH (ms.2 1) r (ms.2 1)) (sq_nIn (ms.1 11) (sq_mreal (sq_mago (ms.2 2) (ms.1 5)))) (ms.1 11)) (ms.2 0) (ms.2 1) (ms.2 2) (ms.2 3) (ms.2 4) (ms.2 5) (ms.2 6) (ms.2 7) (ms.2 8) (ms.2 9) (ms.2 10)) → va_S A s.heap H locs → lv_has ls 4 [(1, .int (nI r)), (0, .ref h0)] → W p l e rmm_goOn s m args below meth c H locs 0 0 Q (F0 m 2 ls []) := by
    intro j
    induction j using Nat.strongRecOn with
    | _ j ih =>
      intro r hr H locs ls hP hD hS hl
      refine lv_iload_n hx hb dX1_goOn_2 rfl (lv_at hl 0 rfl) ?_
      refine lv_aload_n hx hb dX1_goOn_3 rfl (lv_at hl 1 rfl) ?_
      refine va_get (D := (dC, dI)) (ci := 1) (v := .int (nI (ms.2 1))) (C := RX1) (T := TX1) (N := 23) hx hb hts hin hown hK hP 0 rfl rfl 1 (by decide) k7 (fun _ h9 => h9) rfl dX1_goOn_4 ?_
      refine sq_icmp_ge (tgt := 161) hx hb (by omega) (by omega) dX1_goOn_7 (by decide) (fun hc => ?_) (fun hc => ?_)
      · rw [show r = ms.2 1 by omega] at hP hD
        refine lv_aload_n hx hb dX1_goOn_161 rfl (lv_at hl 1 rfl) ?_
        refine va_get (D := (dC, dI)) (ci := 1) (v := .int (nI (ms.2 1))) (C := RX1) (T := TX1) (N := 23) hx hb hts hin hown hK hP 0 rfl rfl 1 (by decide) k7 (fun _ h9 => h9) rfl dX1_goOn_162 ?_
        refine lv_iconst (v := nI 1) hx hb dX1_goOn_165 (by decide +kernel) ?_
        refine sq_isub hx hb (by omega) dX1_goOn_166 ?_
        refine lv_istore_n (lv' := [(1, .int (nI ((ms.2 1) - 1))), (0, .ref h0)]) hx hb dX1_goOn_167 rfl hl (by decide) rfl (fun ls hl => ?_)
        have e9 : (wM h0 q cI cZ (ms.1 0) (ms.1 1) (ms.1 2) (ms.1 3) (ms.1 4) (ms.1 5) (sq_G (sq_dH (ms.2 1) (ms.2 1) (ms.2 1)) (sq_gI (sq_mago (ms.2 2) (ms.1 5)) (ms.1 1) (ms.1 6)) (ms.1 6)) (sq_G (sq_dL (ms.2 1) (ms.2 1) (ms.2 1)) (sq_gS (sq_mago (ms.2 2) (ms.1 5)) (ms.1 1) (ms.1 2) (ms.1 6) (ms.1 10) (ms.1 8) (ms.1 9) (ms.1 7)) (ms.1 7)) (sq_G (sq_dL (ms.2 1) (ms.2 1) (ms.2 1)) (sq_gF (sq_mago (ms.2 2) (ms.1 5)) (ms.1 2) (ms.1 10) (ms.1 8) (ms.1 9)) (ms.1 8)) (ms.1 9) (sq_G (sq_dH (ms.2 1) (ms.2 1) (ms.2 1)) (sq_gM (sq_mago (ms.2 2) (ms.1 5)) (ms.1 2) (ms.1 10)) (ms.1 10)) (sq_G (sq_dH (ms.2 1) (ms.2 1) (ms.2 1)) (sq_nIn (ms.1 11) (sq_mreal (sq_mago (ms.2 2) (ms.1 5)))) (ms.1 11)) (ms.2 0) (ms.2 1) (ms.2 2) (ms.2 3) (ms.2 4) (ms.2 5) (ms.2 6) (ms.2 7) (ms.2 8) (ms.2 9) (ms.2 10)) = (wM h0 q cI cZ (ms.1 0) (ms.1 1) (ms.1 2) (ms.1 3) (ms.1 4) (ms.1 5) (sq_G (sq_dH (ms.2 1) (ms.2 1) (ms.2 1)) (sq_gI (sq_mago (ms.2 2) (ms.1 5)) (ms.1 1) (ms.1 6)) (ms.1 6)) (ms.1 7) (ms.1 8) (ms.1 9) (sq_G (sq_dH (ms.2 1) (ms.2 1) (ms.2 1)) (sq_gM (sq_mago (ms.2 2) (ms.1 5)) (ms.1 2) (ms.1 10)) (ms.1 10)) (sq_G (sq_dH (ms.2 1) (ms.2 1) (ms.2 1)) (sq_nIn (ms.1 11) (sq_mreal (sq_mago (ms.2 2) (ms.1 5)))) (ms.1 11)) (ms.2 0) (ms.2 1) (ms.2 2) (ms.2 3) (ms.2 4) (ms.2 5) (ms.2 6) (ms.2 7) (ms.2 8) (ms.2 9) (ms.2 10)) := by rw [sq_G_none (sq_dL_none (ms.2 1)), sq_G_none (sq_dL_none (ms.2 1))]
        rw [← e9] at hP hD
        exact LB (ms.2 1) (Nat.le_refl _) _ (by rw [← pk_sub o1]; rfl) H locs ls hP hD hS (lv_sub hl [0, 1] rfl)
      · refine lv_aload_n hx hb dX1_goOn_10 rfl (lv_at hl 1 rfl) ?_
        refine va_get (D := (dC, dI)) (ci := 1) (v := .int (nI (ms.2 1))) (C := RX1) (T := TX1) (N := 23) hx hb hts hin hown hK hP 0 rfl rfl 1 (by decide) k7 (fun _ h9 => h9) rfl dX1_goOn_11 ?_
        refine lv_iconst (v := nI 1) hx hb dX1_goOn_14 (by decide +kernel) ?_
        refine sq_isub hx hb (by omega) dX1_goOn_15 ?_
        refine lv_istore_n (lv' := [(2, .int (nI ((ms.2 1) - 1))), (1, .int (nI r)), (0, .ref h0)]) hx hb dX1_goOn_16 rfl hl (by decide) rfl (fun ls hl => ?_)
        have L2 : ∀ t : Nat, t < ms.2 1 → ∀ (H : Heap) (locs : List Loc) (ls : Array Slot), va_P (dC, dI) vwCl (wM h0 q cI cZ (ms.1 0) (ms.1 1) (ms.1 2) (ms.1 3) (ms.1 4) (ms.1 5) (sq_G (sq_dH (ms.2 1) r (t + 1)) (sq_gI (sq_mago (ms.2 2) (ms.1 5)) (ms.1 1) (ms.1 6)) (ms.1 6)) (ms.1 7) (ms.1 8) (ms.1 9) (sq_G (sq_dH (ms.2 1) r (t + 1)) (sq_gM (sq_mago (ms.2 2) (ms.1 5)) (ms.1 2) (ms.1 10)) (ms.1 10)) (sq_G (sq_dH (ms.2 1) r (t + 1)) (sq_nIn (ms.1 11) (sq_mreal (sq_mago (ms.2 2) (ms.1 5)))) (ms.1 11)) (ms.2 0) (ms.2 1) (ms.2 2) (ms.2 3) (ms.2 4) (ms.2 5) (ms.2 6) (ms.2 7) (ms.2 8) (ms.2 9) (ms.2 10)) H → va_D A (wM h0 q cI cZ (ms.1 0) (ms.1 1) (ms.1 2) (ms.1 3) (ms.1 4) (ms.1 5) (sq_G (sq_dH (ms.2 1) r (t + 1)) (sq_gI (sq_mago (ms.2 2) (ms.1 5)) (ms.1 1) (ms.1 6)) (ms.1 6)) (ms.1 7) (ms.1 8) (ms.1 9) (sq_G (sq_dH (ms.2 1) r (t + 1)) (sq_gM (sq_mago (ms.2 2) (ms.1 5)) (ms.1 2) (ms.1 10)) (ms.1 10)) (sq_G (sq_dH (ms.2 1) r (t + 1)) (sq_nIn (ms.1 11) (sq_mreal (sq_mago (ms.2 2) (ms.1 5)))) (ms.1 11)) (ms.2 0) (ms.2 1) (ms.2 2) (ms.2 3) (ms.2 4) (ms.2 5) (ms.2 6) (ms.2 7) (ms.2 8) (ms.2 9) (ms.2 10)) → va_S A s.heap H locs → lv_has ls 4 [(2, .int (nI t)), (1, .int (nI r)), (0, .ref h0)] → W p l e rmm_goOn s m args below meth c H locs 0 0 Q (F0 m 17 ls []) := by
          intro t
          induction t using Nat.strongRecOn with
          | _ t ih2 =>
            intro ht H locs ls hP hD hS hl
            refine lv_iload_n hx hb dX1_goOn_17 rfl (lv_at hl 0 rfl) ?_
            refine sq_if_le (tgt := 76) hx hb (by omega) dX1_goOn_18 (by decide) (fun hd => ?_) (fun hd => ?_)
            · subst hd
              refine lv_aload_n hx hb dX1_goOn_76 rfl (lv_at hl 2 rfl) ?_
              refine lv_iload_n hx hb dX1_goOn_77 rfl (lv_at hl 1 rfl) ?_
              refine sq_calli (As := [.int (nI r)]) (k_enteredAgo l dC dI h0 q cI cZ (sq_mm (ms.1 0) (ms.1 1) (ms.1 2) (ms.1 3) (ms.1 4) (ms.1 5) (sq_G (sq_dH (ms.2 1) r (0 + 1)) (sq_gI (sq_mago (ms.2 2) (ms.1 5)) (ms.1 1) (ms.1 6)) (ms.1 6)) (ms.1 7) (ms.1 8) (ms.1 9) (sq_G (sq_dH (ms.2 1) r (0 + 1)) (sq_gM (sq_mago (ms.2 2) (ms.1 5)) (ms.1 2) (ms.1 10)) (ms.1 10)) (sq_G (sq_dH (ms.2 1) r (0 + 1)) (sq_nIn (ms.1 11) (sq_mreal (sq_mago (ms.2 2) (ms.1 5)))) (ms.1 11)) (ms.2 0) (ms.2 1) (ms.2 2) (ms.2 3) (ms.2 4) (ms.2 5) (ms.2 6) (ms.2 7) (ms.2 8) (ms.2 9) (ms.2 10)) r (by omega) (show ms.2 2 < 2 ^ 31 by omega)) ⟨hx, hb, hml, hown, hts⟩ (cwV 1 hts (sq_good gvX1_97) rfl rfl rfl (by decide +kernel) ⟨Nat.le_of_ble_eq_true rfl, Nat.le_of_ble_eq_true rfl⟩) hK hP hD hS hA rfl rfl rfl rfl hl.1 rfl (Nat.le_of_ble_eq_true rfl) dX1_goOn_78 ⟨Nat.zero_le _, Nat.zero_le _⟩ (fun H locs hP hD hS => ?_)
              have hP : va_P (dC, dI) vwCl (wM h0 q cI cZ (ms.1 0) (ms.1 1) (ms.1 2) (ms.1 3) (ms.1 4) (ms.1 5) (sq_G (sq_dH (ms.2 1) r (0 + 1)) (sq_gI (sq_mago (ms.2 2) (ms.1 5)) (ms.1 1) (ms.1 6)) (ms.1 6)) (ms.1 7) (ms.1 8) (ms.1 9) (sq_G (sq_dH (ms.2 1) r (0 + 1)) (sq_gM (sq_mago (ms.2 2) (ms.1 5)) (ms.1 2) (ms.1 10)) (ms.1 10)) (sq_G (sq_dH (ms.2 1) r (0 + 1)) (sq_nIn (ms.1 11) (sq_mreal (sq_mago (ms.2 2) (ms.1 5)))) (ms.1 11)) (ms.2 0) (ms.2 1) (ms.2 2) (ms.2 3) (ms.2 4) (ms.2 5) (ms.2 6) (ms.2 7) (ms.2 8) (ms.2 9) (ms.2 10)) H := hP
              have hD : va_D A (wM h0 q cI cZ (ms.1 0) (ms.1 1) (ms.1 2) (ms.1 3) (ms.1 4) (ms.1 5) (sq_G (sq_dH (ms.2 1) r (0 + 1)) (sq_gI (sq_mago (ms.2 2) (ms.1 5)) (ms.1 1) (ms.1 6)) (ms.1 6)) (ms.1 7) (ms.1 8) (ms.1 9) (sq_G (sq_dH (ms.2 1) r (0 + 1)) (sq_gM (sq_mago (ms.2 2) (ms.1 5)) (ms.1 2) (ms.1 10)) (ms.1 10)) (sq_G (sq_dH (ms.2 1) r (0 + 1)) (sq_nIn (ms.1 11) (sq_mreal (sq_mago (ms.2 2) (ms.1 5)))) (ms.1 11)) (ms.2 0) (ms.2 1) (ms.2 2) (ms.2 3) (ms.2 4) (ms.2 5) (ms.2 6) (ms.2 7) (ms.2 8) (ms.2 9) (ms.2 10)) := hD
              have dS := sq_dH_step (ms.2 1) r 0 o2 (by omega) (by omega)
              rcases hag r with ev | ⟨v, hv, ev⟩
              · refine sq_top ev ?_
                refine lv_istore_n (lv' := [(2, .int (-1)), (1, .int (nI r)), (0, .ref h0)]) hx hb dX1_goOn_81 rfl hl (by decide) rfl (fun ls hl => ?_)
                refine lv_aload_n hx hb dX1_goOn_82 rfl (lv_at hl 2 rfl) ?_
                refine va_get (D := (dC, dI)) (ci := 1) (v := .ref (q 6)) (C := RX1) (T := TX1) (N := 23) hx hb hts hin hown hK hP 0 rfl rfl 17 (by decide) k33 (fun _ h9 => h9) rfl dX1_goOn_83 ?_
                refine lv_bipush (v := nI 6) hx hb dX1_goOn_86 (by decide +kernel) ?_
                refine lv_iload_n hx hb dX1_goOn_88 rfl (lv_at hl 1 rfl) ?_
                refine sq_imulc hx hb dX1_goOn_89 ?_
                refine lv_iload_n hx hb dX1_goOn_90 rfl (lv_at hl 0 rfl) ?_
                refine sq_if_gem1 (tgt := 98) hx hb dX1_goOn_91 (by decide) ?_
                refine lv_iconst (v := nI 0) hx hb dX1_goOn_94 (by decide +kernel) ?_
                refine lv_goto (tgt := 109) hx hb dX1_goOn_95 (by decide) ?_
                refine sq_iast hx hb hK hP hD hS 7 0 rfl rfl (i := (r * 6)) (by omega) (by decide) dX1_goOn_109 (fun H locs hP hD hS => ?_)
                have hP : va_P (dC, dI) vwCl (wM h0 q cI cZ (ms.1 0) (ms.1 1) (ms.1 2) (ms.1 3) (ms.1 4) (ms.1 5) (upd (sq_G (sq_dH (ms.2 1) r (0 + 1)) (sq_gI (sq_mago (ms.2 2) (ms.1 5)) (ms.1 1) (ms.1 6)) (ms.1 6)) (r * 6) (nI 0)) (ms.1 7) (ms.1 8) (ms.1 9) (sq_G (sq_dH (ms.2 1) r (0 + 1)) (sq_gM (sq_mago (ms.2 2) (ms.1 5)) (ms.1 2) (ms.1 10)) (ms.1 10)) (sq_G (sq_dH (ms.2 1) r (0 + 1)) (sq_nIn (ms.1 11) (sq_mreal (sq_mago (ms.2 2) (ms.1 5)))) (ms.1 11)) (ms.2 0) (ms.2 1) (ms.2 2) (ms.2 3) (ms.2 4) (ms.2 5) (ms.2 6) (ms.2 7) (ms.2 8) (ms.2 9) (ms.2 10)) H := hP
                have hD : va_D A (wM h0 q cI cZ (ms.1 0) (ms.1 1) (ms.1 2) (ms.1 3) (ms.1 4) (ms.1 5) (upd (sq_G (sq_dH (ms.2 1) r (0 + 1)) (sq_gI (sq_mago (ms.2 2) (ms.1 5)) (ms.1 1) (ms.1 6)) (ms.1 6)) (r * 6) (nI 0)) (ms.1 7) (ms.1 8) (ms.1 9) (sq_G (sq_dH (ms.2 1) r (0 + 1)) (sq_gM (sq_mago (ms.2 2) (ms.1 5)) (ms.1 2) (ms.1 10)) (ms.1 10)) (sq_G (sq_dH (ms.2 1) r (0 + 1)) (sq_nIn (ms.1 11) (sq_mreal (sq_mago (ms.2 2) (ms.1 5)))) (ms.1 11)) (ms.2 0) (ms.2 1) (ms.2 2) (ms.2 3) (ms.2 4) (ms.2 5) (ms.2 6) (ms.2 7) (ms.2 8) (ms.2 9) (ms.2 10)) := hD
                refine lv_aload_n hx hb dX1_goOn_110 rfl (lv_at hl 2 rfl) ?_
                refine va_get (D := (dC, dI)) (ci := 1) (v := .ref (q 10)) (C := RX1) (T := TX1) (N := 23) hx hb hts hin hown hK hP 0 rfl rfl 21 (by decide) k45 (fun _ h9 => h9) rfl dX1_goOn_111 ?_
                refine lv_bipush (v := nI 6) hx hb dX1_goOn_114 (by decide +kernel) ?_
                refine lv_iload_n hx hb dX1_goOn_116 rfl (lv_at hl 1 rfl) ?_
                refine sq_imulc hx hb dX1_goOn_117 ?_
                refine lv_iload_n hx hb dX1_goOn_118 rfl (lv_at hl 0 rfl) ?_
                refine sq_if_m1 (tgt := 135) hx hb dX1_goOn_119 (by decide) ?_
                refine lv_iconst (v := nI 0) hx hb dX1_goOn_135 (by decide +kernel) ?_
                refine sq_zast hx hb hK hP hD hS 11 1 rfl rfl (i := (r * 6)) (by omega) (by decide) (by decide) dX1_goOn_136 (fun H locs hP hD hS => ?_)
                have hP : va_P (dC, dI) vwCl (wM h0 q cI cZ (ms.1 0) (ms.1 1) (ms.1 2) (ms.1 3) (ms.1 4) (ms.1 5) (upd (sq_G (sq_dH (ms.2 1) r (0 + 1)) (sq_gI (sq_mago (ms.2 2) (ms.1 5)) (ms.1 1) (ms.1 6)) (ms.1 6)) (r * 6) (nI 0)) (ms.1 7) (ms.1 8) (ms.1 9) (upd (sq_G (sq_dH (ms.2 1) r (0 + 1)) (sq_gM (sq_mago (ms.2 2) (ms.1 5)) (ms.1 2) (ms.1 10)) (ms.1 10)) (r * 6) (nI 0)) (sq_G (sq_dH (ms.2 1) r (0 + 1)) (sq_nIn (ms.1 11) (sq_mreal (sq_mago (ms.2 2) (ms.1 5)))) (ms.1 11)) (ms.2 0) (ms.2 1) (ms.2 2) (ms.2 3) (ms.2 4) (ms.2 5) (ms.2 6) (ms.2 7) (ms.2 8) (ms.2 9) (ms.2 10)) H := hP
                have hD : va_D A (wM h0 q cI cZ (ms.1 0) (ms.1 1) (ms.1 2) (ms.1 3) (ms.1 4) (ms.1 5) (upd (sq_G (sq_dH (ms.2 1) r (0 + 1)) (sq_gI (sq_mago (ms.2 2) (ms.1 5)) (ms.1 1) (ms.1 6)) (ms.1 6)) (r * 6) (nI 0)) (ms.1 7) (ms.1 8) (ms.1 9) (upd (sq_G (sq_dH (ms.2 1) r (0 + 1)) (sq_gM (sq_mago (ms.2 2) (ms.1 5)) (ms.1 2) (ms.1 10)) (ms.1 10)) (r * 6) (nI 0)) (sq_G (sq_dH (ms.2 1) r (0 + 1)) (sq_nIn (ms.1 11) (sq_mreal (sq_mago (ms.2 2) (ms.1 5)))) (ms.1 11)) (ms.2 0) (ms.2 1) (ms.2 2) (ms.2 3) (ms.2 4) (ms.2 5) (ms.2 6) (ms.2 7) (ms.2 8) (ms.2 9) (ms.2 10)) := hD
                refine lv_aload_n hx hb dX1_goOn_137 rfl (lv_at hl 2 rfl) ?_
                refine va_get (D := (dC, dI)) (ci := 1) (v := .ref (q 11)) (C := RX1) (T := TX1) (N := 23) hx hb hts hin hown hK hP 0 rfl rfl 22 (by decide) k48 (fun _ h9 => h9) rfl dX1_goOn_138 ?_
                refine lv_bipush (v := nI 6) hx hb dX1_goOn_141 (by decide +kernel) ?_
                refine lv_iload_n hx hb dX1_goOn_143 rfl (lv_at hl 1 rfl) ?_
                refine sq_imulc hx hb dX1_goOn_144 ?_
                refine lv_iload_n hx hb dX1_goOn_145 rfl (lv_at hl 0 rfl) ?_
                refine sq_if_m1 (tgt := 153) hx hb dX1_goOn_146 (by decide) ?_
                refine lv_iconst (v := nI 0) hx hb dX1_goOn_153 (by decide +kernel) ?_
                refine sq_zast hx hb hK hP hD hS 12 1 rfl rfl (i := (r * 6)) (by omega) (by decide) (by decide) dX1_goOn_154 (fun H locs hP hD hS => ?_)
                have hP : va_P (dC, dI) vwCl (wM h0 q cI cZ (ms.1 0) (ms.1 1) (ms.1 2) (ms.1 3) (ms.1 4) (ms.1 5) (upd (sq_G (sq_dH (ms.2 1) r (0 + 1)) (sq_gI (sq_mago (ms.2 2) (ms.1 5)) (ms.1 1) (ms.1 6)) (ms.1 6)) (r * 6) (nI 0)) (ms.1 7) (ms.1 8) (ms.1 9) (upd (sq_G (sq_dH (ms.2 1) r (0 + 1)) (sq_gM (sq_mago (ms.2 2) (ms.1 5)) (ms.1 2) (ms.1 10)) (ms.1 10)) (r * 6) (nI 0)) (upd (sq_G (sq_dH (ms.2 1) r (0 + 1)) (sq_nIn (ms.1 11) (sq_mreal (sq_mago (ms.2 2) (ms.1 5)))) (ms.1 11)) (r * 6) (nI 0)) (ms.2 0) (ms.2 1) (ms.2 2) (ms.2 3) (ms.2 4) (ms.2 5) (ms.2 6) (ms.2 7) (ms.2 8) (ms.2 9) (ms.2 10)) H := hP
                have hD : va_D A (wM h0 q cI cZ (ms.1 0) (ms.1 1) (ms.1 2) (ms.1 3) (ms.1 4) (ms.1 5) (upd (sq_G (sq_dH (ms.2 1) r (0 + 1)) (sq_gI (sq_mago (ms.2 2) (ms.1 5)) (ms.1 1) (ms.1 6)) (ms.1 6)) (r * 6) (nI 0)) (ms.1 7) (ms.1 8) (ms.1 9) (upd (sq_G (sq_dH (ms.2 1) r (0 + 1)) (sq_gM (sq_mago (ms.2 2) (ms.1 5)) (ms.1 2) (ms.1 10)) (ms.1 10)) (r * 6) (nI 0)) (upd (sq_G (sq_dH (ms.2 1) r (0 + 1)) (sq_nIn (ms.1 11) (sq_mreal (sq_mago (ms.2 2) (ms.1 5)))) (ms.1 11)) (r * 6) (nI 0)) (ms.2 0) (ms.2 1) (ms.2 2) (ms.2 3) (ms.2 4) (ms.2 5) (ms.2 6) (ms.2 7) (ms.2 8) (ms.2 9) (ms.2 10)) := hD
                have eA : upd (sq_G (sq_dH (ms.2 1) r (0 + 1)) (sq_gI (sq_mago (ms.2 2) (ms.1 5)) (ms.1 1) (ms.1 6)) (ms.1 6)) (r * 6) (nI 0) = sq_G (sq_dH (ms.2 1) r 0) (sq_gI (sq_mago (ms.2 2) (ms.1 5)) (ms.1 1) (ms.1 6)) (ms.1 6) := sq_G_step (i := r * 6) (by unfold sq_gI sq_nIn; rw [if_pos (by omega), show r * 6 / 6 = r by omega]; unfold sq_fedI; rw [if_pos ev]; rfl) dS
                rw [eA] at hP hD
                clear eA
                have eA : upd (sq_G (sq_dH (ms.2 1) r (0 + 1)) (sq_gM (sq_mago (ms.2 2) (ms.1 5)) (ms.1 2) (ms.1 10)) (ms.1 10)) (r * 6) (nI 0) = sq_G (sq_dH (ms.2 1) r 0) (sq_gM (sq_mago (ms.2 2) (ms.1 5)) (ms.1 2) (ms.1 10)) (ms.1 10) := sq_G_step (i := r * 6) (by unfold sq_gM sq_nIn; rw [if_pos (by omega), show r * 6 / 6 = r by omega]; unfold sq_fedM; rw [if_pos ev]; rfl) dS
                rw [eA] at hP hD
                clear eA
                have eA : upd (sq_G (sq_dH (ms.2 1) r (0 + 1)) (sq_nIn (ms.1 11) (sq_mreal (sq_mago (ms.2 2) (ms.1 5)))) (ms.1 11)) (r * 6) (nI 0) = sq_G (sq_dH (ms.2 1) r 0) (sq_nIn (ms.1 11) (sq_mreal (sq_mago (ms.2 2) (ms.1 5)))) (ms.1 11) := sq_G_step (i := r * 6) (by unfold sq_nIn; rw [if_pos (by omega), show r * 6 / 6 = r by omega]; unfold sq_mreal; rw [if_pos ev]; rfl) dS
                rw [eA] at hP hD
                clear eA
                have eA : sq_G (sq_dH (ms.2 1) r 0) (sq_gI (sq_mago (ms.2 2) (ms.1 5)) (ms.1 1) (ms.1 6)) (ms.1 6) = sq_G (sq_dH (ms.2 1) (r + 1) (ms.2 1)) (sq_gI (sq_mago (ms.2 2) (ms.1 5)) (ms.1 1) (ms.1 6)) (ms.1 6) := sq_G_eq (sq_dH_row (ms.2 1) r)
                rw [eA] at hP hD
                clear eA
                have eA : sq_G (sq_dH (ms.2 1) r 0) (sq_gM (sq_mago (ms.2 2) (ms.1 5)) (ms.1 2) (ms.1 10)) (ms.1 10) = sq_G (sq_dH (ms.2 1) (r + 1) (ms.2 1)) (sq_gM (sq_mago (ms.2 2) (ms.1 5)) (ms.1 2) (ms.1 10)) (ms.1 10) := sq_G_eq (sq_dH_row (ms.2 1) r)
                rw [eA] at hP hD
                clear eA
                have eA : sq_G (sq_dH (ms.2 1) r 0) (sq_nIn (ms.1 11) (sq_mreal (sq_mago (ms.2 2) (ms.1 5)))) (ms.1 11) = sq_G (sq_dH (ms.2 1) (r + 1) (ms.2 1)) (sq_nIn (ms.1 11) (sq_mreal (sq_mago (ms.2 2) (ms.1 5)))) (ms.1 11) := sq_G_eq (sq_dH_row (ms.2 1) r)
                rw [eA] at hP hD
                clear eA
                refine lv_iinc (v := nI (r + 1)) (lv' := [(1, .int (nI (r + 1))), (2, .int (-1)), (0, .ref h0)]) hx hb dX1_goOn_155 hl (k := 1) rfl (sq_inc _) (by decide) rfl (fun ls hl => ?_)
                refine lv_goto (tgt := 2) hx hb dX1_goOn_158 (by decide) ?_
                exact ih (j - 1) (by omega) (r + 1) (by omega) H locs ls hP hD hS (lv_sub hl [0, 2] rfl)
              · have en : ¬ (sq_mago (ms.2 2) (ms.1 5)) r = -1 := by rw [ev]; exact sq_m1_ne (by omega)
                refine sq_top ev ?_
                refine lv_istore_n (lv' := [(2, .int (nI v)), (1, .int (nI r)), (0, .ref h0)]) hx hb dX1_goOn_81 rfl hl (by decide) rfl (fun ls hl => ?_)
                refine lv_aload_n hx hb dX1_goOn_82 rfl (lv_at hl 2 rfl) ?_
                refine va_get (D := (dC, dI)) (ci := 1) (v := .ref (q 6)) (C := RX1) (T := TX1) (N := 23) hx hb hts hin hown hK hP 0 rfl rfl 17 (by decide) k33 (fun _ h9 => h9) rfl dX1_goOn_83 ?_
                refine lv_bipush (v := nI 6) hx hb dX1_goOn_86 (by decide +kernel) ?_
                refine lv_iload_n hx hb dX1_goOn_88 rfl (lv_at hl 1 rfl) ?_
                refine sq_imulc hx hb dX1_goOn_89 ?_
                refine lv_iload_n hx hb dX1_goOn_90 rfl (lv_at hl 0 rfl) ?_
                refine sq_if_ge (tgt := 98) hx hb (by omega) dX1_goOn_91 (by decide) ?_
                refine lv_aload_n hx hb dX1_goOn_98 rfl (lv_at hl 2 rfl) ?_
                refine va_get (D := (dC, dI)) (ci := 1) (v := .ref (q 1)) (C := RX1) (T := TX1) (N := 23) hx hb hts hin hown hK hP 0 rfl rfl 12 (by decide) k17 (fun _ h9 => h9) rfl dX1_goOn_99 ?_
                refine lv_bipush (v := nI 6) hx hb dX1_goOn_102 (by decide +kernel) ?_
                refine lv_iload_n hx hb dX1_goOn_104 rfl (lv_at hl 0 rfl) ?_
                refine sq_imulc hx hb dX1_goOn_105 ?_
                refine lv_iload_n hx hb dX1_goOn_106 rfl (lv_at hl 1 rfl) ?_
                refine sq_iadd hx hb dX1_goOn_107 ?_
                refine sq_iald hx hb hK hP 2 0 rfl rfl (i := ((v * 6) + r)) (by omega) (by decide) dX1_goOn_108 ?_
                refine sq_iast hx hb hK hP hD hS 7 0 rfl rfl (i := (r * 6)) (by omega) (by decide) dX1_goOn_109 (fun H locs hP hD hS => ?_)
                have hP : va_P (dC, dI) vwCl (wM h0 q cI cZ (ms.1 0) (ms.1 1) (ms.1 2) (ms.1 3) (ms.1 4) (ms.1 5) (upd (sq_G (sq_dH (ms.2 1) r (0 + 1)) (sq_gI (sq_mago (ms.2 2) (ms.1 5)) (ms.1 1) (ms.1 6)) (ms.1 6)) (r * 6) ((ms.1 1) ((v * 6) + r))) (ms.1 7) (ms.1 8) (ms.1 9) (sq_G (sq_dH (ms.2 1) r (0 + 1)) (sq_gM (sq_mago (ms.2 2) (ms.1 5)) (ms.1 2) (ms.1 10)) (ms.1 10)) (sq_G (sq_dH (ms.2 1) r (0 + 1)) (sq_nIn (ms.1 11) (sq_mreal (sq_mago (ms.2 2) (ms.1 5)))) (ms.1 11)) (ms.2 0) (ms.2 1) (ms.2 2) (ms.2 3) (ms.2 4) (ms.2 5) (ms.2 6) (ms.2 7) (ms.2 8) (ms.2 9) (ms.2 10)) H := hP
                have hD : va_D A (wM h0 q cI cZ (ms.1 0) (ms.1 1) (ms.1 2) (ms.1 3) (ms.1 4) (ms.1 5) (upd (sq_G (sq_dH (ms.2 1) r (0 + 1)) (sq_gI (sq_mago (ms.2 2) (ms.1 5)) (ms.1 1) (ms.1 6)) (ms.1 6)) (r * 6) ((ms.1 1) ((v * 6) + r))) (ms.1 7) (ms.1 8) (ms.1 9) (sq_G (sq_dH (ms.2 1) r (0 + 1)) (sq_gM (sq_mago (ms.2 2) (ms.1 5)) (ms.1 2) (ms.1 10)) (ms.1 10)) (sq_G (sq_dH (ms.2 1) r (0 + 1)) (sq_nIn (ms.1 11) (sq_mreal (sq_mago (ms.2 2) (ms.1 5)))) (ms.1 11)) (ms.2 0) (ms.2 1) (ms.2 2) (ms.2 3) (ms.2 4) (ms.2 5) (ms.2 6) (ms.2 7) (ms.2 8) (ms.2 9) (ms.2 10)) := hD
                refine lv_aload_n hx hb dX1_goOn_110 rfl (lv_at hl 2 rfl) ?_
                refine va_get (D := (dC, dI)) (ci := 1) (v := .ref (q 10)) (C := RX1) (T := TX1) (N := 23) hx hb hts hin hown hK hP 0 rfl rfl 21 (by decide) k45 (fun _ h9 => h9) rfl dX1_goOn_111 ?_
                refine lv_bipush (v := nI 6) hx hb dX1_goOn_114 (by decide +kernel) ?_
                refine lv_iload_n hx hb dX1_goOn_116 rfl (lv_at hl 1 rfl) ?_
                refine sq_imulc hx hb dX1_goOn_117 ?_
                refine lv_iload_n hx hb dX1_goOn_118 rfl (lv_at hl 0 rfl) ?_
                refine sq_if_lt (tgt := 135) hx hb (by omega) dX1_goOn_119 (by decide) ?_
                refine lv_aload_n hx hb dX1_goOn_122 rfl (lv_at hl 2 rfl) ?_
                refine va_get (D := (dC, dI)) (ci := 1) (v := .ref (q 2)) (C := RX1) (T := TX1) (N := 23) hx hb hts hin hown hK hP 0 rfl rfl 13 (by decide) k20 (fun _ h9 => h9) rfl dX1_goOn_123 ?_
                refine lv_iload_n hx hb dX1_goOn_126 rfl (lv_at hl 0 rfl) ?_
                refine sq_zald hx hb hK hP 3 1 rfl rfl (i := v) (by omega) (by decide) dX1_goOn_127 ?_
                refine lv_if_eq (tgt := 135) hx hb dX1_goOn_128 (by decide) (fun hf => ?_) (fun hf => ?_)
                · refine lv_iconst (v := nI 0) hx hb dX1_goOn_135 (by decide +kernel) ?_
                  refine sq_zast hx hb hK hP hD hS 11 1 rfl rfl (i := (r * 6)) (by omega) (by decide) (by decide) dX1_goOn_136 (fun H locs hP hD hS => ?_)
                  have hP : va_P (dC, dI) vwCl (wM h0 q cI cZ (ms.1 0) (ms.1 1) (ms.1 2) (ms.1 3) (ms.1 4) (ms.1 5) (upd (sq_G (sq_dH (ms.2 1) r (0 + 1)) (sq_gI (sq_mago (ms.2 2) (ms.1 5)) (ms.1 1) (ms.1 6)) (ms.1 6)) (r * 6) ((ms.1 1) ((v * 6) + r))) (ms.1 7) (ms.1 8) (ms.1 9) (upd (sq_G (sq_dH (ms.2 1) r (0 + 1)) (sq_gM (sq_mago (ms.2 2) (ms.1 5)) (ms.1 2) (ms.1 10)) (ms.1 10)) (r * 6) (nI 0)) (sq_G (sq_dH (ms.2 1) r (0 + 1)) (sq_nIn (ms.1 11) (sq_mreal (sq_mago (ms.2 2) (ms.1 5)))) (ms.1 11)) (ms.2 0) (ms.2 1) (ms.2 2) (ms.2 3) (ms.2 4) (ms.2 5) (ms.2 6) (ms.2 7) (ms.2 8) (ms.2 9) (ms.2 10)) H := hP
                  have hD : va_D A (wM h0 q cI cZ (ms.1 0) (ms.1 1) (ms.1 2) (ms.1 3) (ms.1 4) (ms.1 5) (upd (sq_G (sq_dH (ms.2 1) r (0 + 1)) (sq_gI (sq_mago (ms.2 2) (ms.1 5)) (ms.1 1) (ms.1 6)) (ms.1 6)) (r * 6) ((ms.1 1) ((v * 6) + r))) (ms.1 7) (ms.1 8) (ms.1 9) (upd (sq_G (sq_dH (ms.2 1) r (0 + 1)) (sq_gM (sq_mago (ms.2 2) (ms.1 5)) (ms.1 2) (ms.1 10)) (ms.1 10)) (r * 6) (nI 0)) (sq_G (sq_dH (ms.2 1) r (0 + 1)) (sq_nIn (ms.1 11) (sq_mreal (sq_mago (ms.2 2) (ms.1 5)))) (ms.1 11)) (ms.2 0) (ms.2 1) (ms.2 2) (ms.2 3) (ms.2 4) (ms.2 5) (ms.2 6) (ms.2 7) (ms.2 8) (ms.2 9) (ms.2 10)) := hD
                  refine lv_aload_n hx hb dX1_goOn_137 rfl (lv_at hl 2 rfl) ?_
                  refine va_get (D := (dC, dI)) (ci := 1) (v := .ref (q 11)) (C := RX1) (T := TX1) (N := 23) hx hb hts hin hown hK hP 0 rfl rfl 22 (by decide) k48 (fun _ h9 => h9) rfl dX1_goOn_138 ?_
                  refine lv_bipush (v := nI 6) hx hb dX1_goOn_141 (by decide +kernel) ?_
                  refine lv_iload_n hx hb dX1_goOn_143 rfl (lv_at hl 1 rfl) ?_
                  refine sq_imulc hx hb dX1_goOn_144 ?_
                  refine lv_iload_n hx hb dX1_goOn_145 rfl (lv_at hl 0 rfl) ?_
                  refine sq_if_lt (tgt := 153) hx hb (by omega) dX1_goOn_146 (by decide) ?_
                  refine lv_iconst (v := nI 1) hx hb dX1_goOn_149 (by decide +kernel) ?_
                  refine lv_goto (tgt := 154) hx hb dX1_goOn_150 (by decide) ?_
                  refine sq_zast hx hb hK hP hD hS 12 1 rfl rfl (i := (r * 6)) (by omega) (by decide) (by decide) dX1_goOn_154 (fun H locs hP hD hS => ?_)
                  have hP : va_P (dC, dI) vwCl (wM h0 q cI cZ (ms.1 0) (ms.1 1) (ms.1 2) (ms.1 3) (ms.1 4) (ms.1 5) (upd (sq_G (sq_dH (ms.2 1) r (0 + 1)) (sq_gI (sq_mago (ms.2 2) (ms.1 5)) (ms.1 1) (ms.1 6)) (ms.1 6)) (r * 6) ((ms.1 1) ((v * 6) + r))) (ms.1 7) (ms.1 8) (ms.1 9) (upd (sq_G (sq_dH (ms.2 1) r (0 + 1)) (sq_gM (sq_mago (ms.2 2) (ms.1 5)) (ms.1 2) (ms.1 10)) (ms.1 10)) (r * 6) (nI 0)) (upd (sq_G (sq_dH (ms.2 1) r (0 + 1)) (sq_nIn (ms.1 11) (sq_mreal (sq_mago (ms.2 2) (ms.1 5)))) (ms.1 11)) (r * 6) (nI 1)) (ms.2 0) (ms.2 1) (ms.2 2) (ms.2 3) (ms.2 4) (ms.2 5) (ms.2 6) (ms.2 7) (ms.2 8) (ms.2 9) (ms.2 10)) H := hP
                  have hD : va_D A (wM h0 q cI cZ (ms.1 0) (ms.1 1) (ms.1 2) (ms.1 3) (ms.1 4) (ms.1 5) (upd (sq_G (sq_dH (ms.2 1) r (0 + 1)) (sq_gI (sq_mago (ms.2 2) (ms.1 5)) (ms.1 1) (ms.1 6)) (ms.1 6)) (r * 6) ((ms.1 1) ((v * 6) + r))) (ms.1 7) (ms.1 8) (ms.1 9) (upd (sq_G (sq_dH (ms.2 1) r (0 + 1)) (sq_gM (sq_mago (ms.2 2) (ms.1 5)) (ms.1 2) (ms.1 10)) (ms.1 10)) (r * 6) (nI 0)) (upd (sq_G (sq_dH (ms.2 1) r (0 + 1)) (sq_nIn (ms.1 11) (sq_mreal (sq_mago (ms.2 2) (ms.1 5)))) (ms.1 11)) (r * 6) (nI 1)) (ms.2 0) (ms.2 1) (ms.2 2) (ms.2 3) (ms.2 4) (ms.2 5) (ms.2 6) (ms.2 7) (ms.2 8) (ms.2 9) (ms.2 10)) := hD
                  have eA : upd (sq_G (sq_dH (ms.2 1) r (0 + 1)) (sq_gI (sq_mago (ms.2 2) (ms.1 5)) (ms.1 1) (ms.1 6)) (ms.1 6)) (r * 6) ((ms.1 1) ((v * 6) + r)) = sq_G (sq_dH (ms.2 1) r 0) (sq_gI (sq_mago (ms.2 2) (ms.1 5)) (ms.1 1) (ms.1 6)) (ms.1 6) := sq_G_step (i := r * 6) (by unfold sq_gI sq_nIn; rw [if_pos (by omega), show r * 6 / 6 = r by omega]; unfold sq_fedI; rw [if_neg en, ev, sq_vec_nI (by omega)]) dS
                  rw [eA] at hP hD
                  clear eA
                  have eA : upd (sq_G (sq_dH (ms.2 1) r (0 + 1)) (sq_gM (sq_mago (ms.2 2) (ms.1 5)) (ms.1 2) (ms.1 10)) (ms.1 10)) (r * 6) (nI 0) = sq_G (sq_dH (ms.2 1) r 0) (sq_gM (sq_mago (ms.2 2) (ms.1 5)) (ms.1 2) (ms.1 10)) (ms.1 10) := sq_G_step (i := r * 6) (by unfold sq_gM sq_nIn; rw [if_pos (by omega), show r * 6 / 6 = r by omega]; unfold sq_fedM; rw [if_neg en, ev, sq_vec_nI (by omega), hf]; rfl) dS
                  rw [eA] at hP hD
                  clear eA
                  have eA : upd (sq_G (sq_dH (ms.2 1) r (0 + 1)) (sq_nIn (ms.1 11) (sq_mreal (sq_mago (ms.2 2) (ms.1 5)))) (ms.1 11)) (r * 6) (nI 1) = sq_G (sq_dH (ms.2 1) r 0) (sq_nIn (ms.1 11) (sq_mreal (sq_mago (ms.2 2) (ms.1 5)))) (ms.1 11) := sq_G_step (i := r * 6) (by unfold sq_nIn; rw [if_pos (by omega), show r * 6 / 6 = r by omega]; unfold sq_mreal; rw [if_neg en]; rfl) dS
                  rw [eA] at hP hD
                  clear eA
                  have eA : sq_G (sq_dH (ms.2 1) r 0) (sq_gI (sq_mago (ms.2 2) (ms.1 5)) (ms.1 1) (ms.1 6)) (ms.1 6) = sq_G (sq_dH (ms.2 1) (r + 1) (ms.2 1)) (sq_gI (sq_mago (ms.2 2) (ms.1 5)) (ms.1 1) (ms.1 6)) (ms.1 6) := sq_G_eq (sq_dH_row (ms.2 1) r)
                  rw [eA] at hP hD
                  clear eA
                  have eA : sq_G (sq_dH (ms.2 1) r 0) (sq_gM (sq_mago (ms.2 2) (ms.1 5)) (ms.1 2) (ms.1 10)) (ms.1 10) = sq_G (sq_dH (ms.2 1) (r + 1) (ms.2 1)) (sq_gM (sq_mago (ms.2 2) (ms.1 5)) (ms.1 2) (ms.1 10)) (ms.1 10) := sq_G_eq (sq_dH_row (ms.2 1) r)
                  rw [eA] at hP hD
                  clear eA
                  have eA : sq_G (sq_dH (ms.2 1) r 0) (sq_nIn (ms.1 11) (sq_mreal (sq_mago (ms.2 2) (ms.1 5)))) (ms.1 11) = sq_G (sq_dH (ms.2 1) (r + 1) (ms.2 1)) (sq_nIn (ms.1 11) (sq_mreal (sq_mago (ms.2 2) (ms.1 5)))) (ms.1 11) := sq_G_eq (sq_dH_row (ms.2 1) r)
                  rw [eA] at hP hD
                  clear eA
                  refine lv_iinc (v := nI (r + 1)) (lv' := [(1, .int (nI (r + 1))), (2, .int (nI v)), (0, .ref h0)]) hx hb dX1_goOn_155 hl (k := 1) rfl (sq_inc _) (by decide) rfl (fun ls hl => ?_)
                  refine lv_goto (tgt := 2) hx hb dX1_goOn_158 (by decide) ?_
                  exact ih (j - 1) (by omega) (r + 1) (by omega) H locs ls hP hD hS (lv_sub hl [0, 2] rfl)
                · refine lv_iconst (v := nI 1) hx hb dX1_goOn_131 (by decide +kernel) ?_
                  refine lv_goto (tgt := 136) hx hb dX1_goOn_132 (by decide) ?_
                  refine sq_zast hx hb hK hP hD hS 11 1 rfl rfl (i := (r * 6)) (by omega) (by decide) (by decide) dX1_goOn_136 (fun H locs hP hD hS => ?_)
                  have hP : va_P (dC, dI) vwCl (wM h0 q cI cZ (ms.1 0) (ms.1 1) (ms.1 2) (ms.1 3) (ms.1 4) (ms.1 5) (upd (sq_G (sq_dH (ms.2 1) r (0 + 1)) (sq_gI (sq_mago (ms.2 2) (ms.1 5)) (ms.1 1) (ms.1 6)) (ms.1 6)) (r * 6) ((ms.1 1) ((v * 6) + r))) (ms.1 7) (ms.1 8) (ms.1 9) (upd (sq_G (sq_dH (ms.2 1) r (0 + 1)) (sq_gM (sq_mago (ms.2 2) (ms.1 5)) (ms.1 2) (ms.1 10)) (ms.1 10)) (r * 6) (nI 1)) (sq_G (sq_dH (ms.2 1) r (0 + 1)) (sq_nIn (ms.1 11) (sq_mreal (sq_mago (ms.2 2) (ms.1 5)))) (ms.1 11)) (ms.2 0) (ms.2 1) (ms.2 2) (ms.2 3) (ms.2 4) (ms.2 5) (ms.2 6) (ms.2 7) (ms.2 8) (ms.2 9) (ms.2 10)) H := hP
                  have hD : va_D A (wM h0 q cI cZ (ms.1 0) (ms.1 1) (ms.1 2) (ms.1 3) (ms.1 4) (ms.1 5) (upd (sq_G (sq_dH (ms.2 1) r (0 + 1)) (sq_gI (sq_mago (ms.2 2) (ms.1 5)) (ms.1 1) (ms.1 6)) (ms.1 6)) (r * 6) ((ms.1 1) ((v * 6) + r))) (ms.1 7) (ms.1 8) (ms.1 9) (upd (sq_G (sq_dH (ms.2 1) r (0 + 1)) (sq_gM (sq_mago (ms.2 2) (ms.1 5)) (ms.1 2) (ms.1 10)) (ms.1 10)) (r * 6) (nI 1)) (sq_G (sq_dH (ms.2 1) r (0 + 1)) (sq_nIn (ms.1 11) (sq_mreal (sq_mago (ms.2 2) (ms.1 5)))) (ms.1 11)) (ms.2 0) (ms.2 1) (ms.2 2) (ms.2 3) (ms.2 4) (ms.2 5) (ms.2 6) (ms.2 7) (ms.2 8) (ms.2 9) (ms.2 10)) := hD
                  refine lv_aload_n hx hb dX1_goOn_137 rfl (lv_at hl 2 rfl) ?_
                  refine va_get (D := (dC, dI)) (ci := 1) (v := .ref (q 11)) (C := RX1) (T := TX1) (N := 23) hx hb hts hin hown hK hP 0 rfl rfl 22 (by decide) k48 (fun _ h9 => h9) rfl dX1_goOn_138 ?_
                  refine lv_bipush (v := nI 6) hx hb dX1_goOn_141 (by decide +kernel) ?_
                  refine lv_iload_n hx hb dX1_goOn_143 rfl (lv_at hl 1 rfl) ?_
                  refine sq_imulc hx hb dX1_goOn_144 ?_
                  refine lv_iload_n hx hb dX1_goOn_145 rfl (lv_at hl 0 rfl) ?_
                  refine sq_if_lt (tgt := 153) hx hb (by omega) dX1_goOn_146 (by decide) ?_
                  refine lv_iconst (v := nI 1) hx hb dX1_goOn_149 (by decide +kernel) ?_
                  refine lv_goto (tgt := 154) hx hb dX1_goOn_150 (by decide) ?_
                  refine sq_zast hx hb hK hP hD hS 12 1 rfl rfl (i := (r * 6)) (by omega) (by decide) (by decide) dX1_goOn_154 (fun H locs hP hD hS => ?_)
                  have hP : va_P (dC, dI) vwCl (wM h0 q cI cZ (ms.1 0) (ms.1 1) (ms.1 2) (ms.1 3) (ms.1 4) (ms.1 5) (upd (sq_G (sq_dH (ms.2 1) r (0 + 1)) (sq_gI (sq_mago (ms.2 2) (ms.1 5)) (ms.1 1) (ms.1 6)) (ms.1 6)) (r * 6) ((ms.1 1) ((v * 6) + r))) (ms.1 7) (ms.1 8) (ms.1 9) (upd (sq_G (sq_dH (ms.2 1) r (0 + 1)) (sq_gM (sq_mago (ms.2 2) (ms.1 5)) (ms.1 2) (ms.1 10)) (ms.1 10)) (r * 6) (nI 1)) (upd (sq_G (sq_dH (ms.2 1) r (0 + 1)) (sq_nIn (ms.1 11) (sq_mreal (sq_mago (ms.2 2) (ms.1 5)))) (ms.1 11)) (r * 6) (nI 1)) (ms.2 0) (ms.2 1) (ms.2 2) (ms.2 3) (ms.2 4) (ms.2 5) (ms.2 6) (ms.2 7) (ms.2 8) (ms.2 9) (ms.2 10)) H := hP
                  have hD : va_D A (wM h0 q cI cZ (ms.1 0) (ms.1 1) (ms.1 2) (ms.1 3) (ms.1 4) (ms.1 5) (upd (sq_G (sq_dH (ms.2 1) r (0 + 1)) (sq_gI (sq_mago (ms.2 2) (ms.1 5)) (ms.1 1) (ms.1 6)) (ms.1 6)) (r * 6) ((ms.1 1) ((v * 6) + r))) (ms.1 7) (ms.1 8) (ms.1 9) (upd (sq_G (sq_dH (ms.2 1) r (0 + 1)) (sq_gM (sq_mago (ms.2 2) (ms.1 5)) (ms.1 2) (ms.1 10)) (ms.1 10)) (r * 6) (nI 1)) (upd (sq_G (sq_dH (ms.2 1) r (0 + 1)) (sq_nIn (ms.1 11) (sq_mreal (sq_mago (ms.2 2) (ms.1 5)))) (ms.1 11)) (r * 6) (nI 1)) (ms.2 0) (ms.2 1) (ms.2 2) (ms.2 3) (ms.2 4) (ms.2 5) (ms.2 6) (ms.2 7) (ms.2 8) (ms.2 9) (ms.2 10)) := hD
                  have eA : upd (sq_G (sq_dH (ms.2 1) r (0 + 1)) (sq_gI (sq_mago (ms.2 2) (ms.1 5)) (ms.1 1) (ms.1 6)) (ms.1 6)) (r * 6) ((ms.1 1) ((v * 6) + r)) = sq_G (sq_dH (ms.2 1) r 0) (sq_gI (sq_mago (ms.2 2) (ms.1 5)) (ms.1 1) (ms.1 6)) (ms.1 6) := sq_G_step (i := r * 6) (by unfold sq_gI sq_nIn; rw [if_pos (by omega), show r * 6 / 6 = r by omega]; unfold sq_fedI; rw [if_neg en, ev, sq_vec_nI (by omega)]) dS
                  rw [eA] at hP hD
                  clear eA
                  have eA : upd (sq_G (sq_dH (ms.2 1) r (0 + 1)) (sq_gM (sq_mago (ms.2 2) (ms.1 5)) (ms.1 2) (ms.1 10)) (ms.1 10)) (r * 6) (nI 1) = sq_G (sq_dH (ms.2 1) r 0) (sq_gM (sq_mago (ms.2 2) (ms.1 5)) (ms.1 2) (ms.1 10)) (ms.1 10) := sq_G_step (i := r * 6) (by unfold sq_gM sq_nIn; rw [if_pos (by omega), show r * 6 / 6 = r by omega]; unfold sq_fedM; rw [if_neg en, ev, sq_vec_nI (by omega), (o13 v).resolve_left hf]; rfl) dS
                  rw [eA] at hP hD
                  clear eA
                  have eA : upd (sq_G (sq_dH (ms.2 1) r (0 + 1)) (sq_nIn (ms.1 11) (sq_mreal (sq_mago (ms.2 2) (ms.1 5)))) (ms.1 11)) (r * 6) (nI 1) = sq_G (sq_dH (ms.2 1) r 0) (sq_nIn (ms.1 11) (sq_mreal (sq_mago (ms.2 2) (ms.1 5)))) (ms.1 11) := sq_G_step (i := r * 6) (by unfold sq_nIn; rw [if_pos (by omega), show r * 6 / 6 = r by omega]; unfold sq_mreal; rw [if_neg en]; rfl) dS
                  rw [eA] at hP hD
                  clear eA
                  have eA : sq_G (sq_dH (ms.2 1) r 0) (sq_gI (sq_mago (ms.2 2) (ms.1 5)) (ms.1 1) (ms.1 6)) (ms.1 6) = sq_G (sq_dH (ms.2 1) (r + 1) (ms.2 1)) (sq_gI (sq_mago (ms.2 2) (ms.1 5)) (ms.1 1) (ms.1 6)) (ms.1 6) := sq_G_eq (sq_dH_row (ms.2 1) r)
                  rw [eA] at hP hD
                  clear eA
                  have eA : sq_G (sq_dH (ms.2 1) r 0) (sq_gM (sq_mago (ms.2 2) (ms.1 5)) (ms.1 2) (ms.1 10)) (ms.1 10) = sq_G (sq_dH (ms.2 1) (r + 1) (ms.2 1)) (sq_gM (sq_mago (ms.2 2) (ms.1 5)) (ms.1 2) (ms.1 10)) (ms.1 10) := sq_G_eq (sq_dH_row (ms.2 1) r)
                  rw [eA] at hP hD
                  clear eA
                  have eA : sq_G (sq_dH (ms.2 1) r 0) (sq_nIn (ms.1 11) (sq_mreal (sq_mago (ms.2 2) (ms.1 5)))) (ms.1 11) = sq_G (sq_dH (ms.2 1) (r + 1) (ms.2 1)) (sq_nIn (ms.1 11) (sq_mreal (sq_mago (ms.2 2) (ms.1 5)))) (ms.1 11) := sq_G_eq (sq_dH_row (ms.2 1) r)
                  rw [eA] at hP hD
                  clear eA
                  refine lv_iinc (v := nI (r + 1)) (lv' := [(1, .int (nI (r + 1))), (2, .int (nI v)), (0, .ref h0)]) hx hb dX1_goOn_155 hl (k := 1) rfl (sq_inc _) (by decide) rfl (fun ls hl => ?_)
                  refine lv_goto (tgt := 2) hx hb dX1_goOn_158 (by decide) ?_
                  exact ih (j - 1) (by omega) (r + 1) (by omega) H locs ls hP hD hS (lv_sub hl [0, 2] rfl)
            · obtain ⟨t1, rfl⟩ : ∃ t1, t = t1 + 1 := ⟨t - 1, by omega⟩
              have dS := sq_dH_step (ms.2 1) r (t1 + 1) o2 (by omega) (by omega)
              have dl := sq_dH_left (ms.2 1) r (t1 + 1) (by omega) (by omega)
              have n10 : vp_nar .boolean (sq_G (sq_dH (ms.2 1) r (t1 + 1 + 1)) (sq_gM (sq_mago (ms.2 2) (ms.1 5)) (ms.1 2) (ms.1 10)) (ms.1 10) (r * 6 + (t1 + 1) - 1)) = sq_G (sq_dH (ms.2 1) r (t1 + 1 + 1)) (sq_gM (sq_mago (ms.2 2) (ms.1 5)) (ms.1 2) (ms.1 10)) (ms.1 10) (r * 6 + (t1 + 1) - 1) := by rw [sq_G_old dl]; rcases o14 (r * 6 + (t1 + 1) - 1) with e | e <;> rw [e] <;> decide
              have n11 : vp_nar .boolean (sq_G (sq_dH (ms.2 1) r (t1 + 1 + 1)) (sq_nIn (ms.1 11) (sq_mreal (sq_mago (ms.2 2) (ms.1 5)))) (ms.1 11) (r * 6 + (t1 + 1) - 1)) = sq_G (sq_dH (ms.2 1) r (t1 + 1 + 1)) (sq_nIn (ms.1 11) (sq_mreal (sq_mago (ms.2 2) (ms.1 5)))) (ms.1 11) (r * 6 + (t1 + 1) - 1) := by rw [sq_G_old dl]; rcases o15 (r * 6 + (t1 + 1) - 1) with e | e <;> rw [e] <;> decide
              refine lv_bipush (v := nI 6) hx hb dX1_goOn_21 (by decide +kernel) ?_
              refine lv_iload_n hx hb dX1_goOn_23 rfl (lv_at hl 1 rfl) ?_
              refine sq_imulc hx hb dX1_goOn_24 ?_
              refine lv_iload_n hx hb dX1_goOn_25 rfl (lv_at hl 0 rfl) ?_
              refine sq_iadd hx hb dX1_goOn_26 ?_
              refine lv_istore_n (lv' := [(3, .int (nI ((r * 6) + (t1 + 1)))), (2, .int (nI (t1 + 1))), (1, .int (nI r)), (0, .ref h0)]) hx hb dX1_goOn_27 rfl hl (by decide) rfl (fun ls hl => ?_)
              refine lv_aload_n hx hb dX1_goOn_28 rfl (lv_at hl 3 rfl) ?_
              refine va_get (D := (dC, dI)) (ci := 1) (v := .ref (q 6)) (C := RX1) (T := TX1) (N := 23) hx hb hts hin hown hK hP 0 rfl rfl 17 (by decide) k33 (fun _ h9 => h9) rfl dX1_goOn_29 ?_
              refine lv_iload_n hx hb dX1_goOn_32 rfl (lv_at hl 0 rfl) ?_
              refine lv_aload_n hx hb dX1_goOn_33 rfl (lv_at hl 3 rfl) ?_
              refine va_get (D := (dC, dI)) (ci := 1) (v := .ref (q 6)) (C := RX1) (T := TX1) (N := 23) hx hb hts hin hown hK hP 0 rfl rfl 17 (by decide) k33 (fun _ h9 => h9) rfl dX1_goOn_34 ?_
              refine lv_iload_n hx hb dX1_goOn_37 rfl (lv_at hl 0 rfl) ?_
              refine lv_iconst (v := nI 1) hx hb dX1_goOn_38 (by decide +kernel) ?_
              refine sq_isub hx hb (by omega) dX1_goOn_39 ?_
              refine sq_iald hx hb hK hP 7 0 rfl rfl (i := (((r * 6) + (t1 + 1)) - 1)) (by omega) (by decide) dX1_goOn_40 ?_
              refine sq_iast hx hb hK hP hD hS 7 0 rfl rfl (i := ((r * 6) + (t1 + 1))) (by omega) (by decide) dX1_goOn_41 (fun H locs hP hD hS => ?_)
              have hP : va_P (dC, dI) vwCl (wM h0 q cI cZ (ms.1 0) (ms.1 1) (ms.1 2) (ms.1 3) (ms.1 4) (ms.1 5) (upd (sq_G (sq_dH (ms.2 1) r (t1 + 1 + 1)) (sq_gI (sq_mago (ms.2 2) (ms.1 5)) (ms.1 1) (ms.1 6)) (ms.1 6)) ((r * 6) + (t1 + 1)) ((sq_G (sq_dH (ms.2 1) r (t1 + 1 + 1)) (sq_gI (sq_mago (ms.2 2) (ms.1 5)) (ms.1 1) (ms.1 6)) (ms.1 6)) (((r * 6) + (t1 + 1)) - 1))) (ms.1 7) (ms.1 8) (ms.1 9) (sq_G (sq_dH (ms.2 1) r (t1 + 1 + 1)) (sq_gM (sq_mago (ms.2 2) (ms.1 5)) (ms.1 2) (ms.1 10)) (ms.1 10)) (sq_G (sq_dH (ms.2 1) r (t1 + 1 + 1)) (sq_nIn (ms.1 11) (sq_mreal (sq_mago (ms.2 2) (ms.1 5)))) (ms.1 11)) (ms.2 0) (ms.2 1) (ms.2 2) (ms.2 3) (ms.2 4) (ms.2 5) (ms.2 6) (ms.2 7) (ms.2 8) (ms.2 9) (ms.2 10)) H := hP
              have hD : va_D A (wM h0 q cI cZ (ms.1 0) (ms.1 1) (ms.1 2) (ms.1 3) (ms.1 4) (ms.1 5) (upd (sq_G (sq_dH (ms.2 1) r (t1 + 1 + 1)) (sq_gI (sq_mago (ms.2 2) (ms.1 5)) (ms.1 1) (ms.1 6)) (ms.1 6)) ((r * 6) + (t1 + 1)) ((sq_G (sq_dH (ms.2 1) r (t1 + 1 + 1)) (sq_gI (sq_mago (ms.2 2) (ms.1 5)) (ms.1 1) (ms.1 6)) (ms.1 6)) (((r * 6) + (t1 + 1)) - 1))) (ms.1 7) (ms.1 8) (ms.1 9) (sq_G (sq_dH (ms.2 1) r (t1 + 1 + 1)) (sq_gM (sq_mago (ms.2 2) (ms.1 5)) (ms.1 2) (ms.1 10)) (ms.1 10)) (sq_G (sq_dH (ms.2 1) r (t1 + 1 + 1)) (sq_nIn (ms.1 11) (sq_mreal (sq_mago (ms.2 2) (ms.1 5)))) (ms.1 11)) (ms.2 0) (ms.2 1) (ms.2 2) (ms.2 3) (ms.2 4) (ms.2 5) (ms.2 6) (ms.2 7) (ms.2 8) (ms.2 9) (ms.2 10)) := hD
              have eA : upd (sq_G (sq_dH (ms.2 1) r (t1 + 1 + 1)) (sq_gI (sq_mago (ms.2 2) (ms.1 5)) (ms.1 1) (ms.1 6)) (ms.1 6)) ((r * 6) + (t1 + 1)) ((sq_G (sq_dH (ms.2 1) r (t1 + 1 + 1)) (sq_gI (sq_mago (ms.2 2) (ms.1 5)) (ms.1 1) (ms.1 6)) (ms.1 6)) (((r * 6) + (t1 + 1)) - 1)) = sq_G (sq_dH (ms.2 1) r (t1 + 1)) (sq_gI (sq_mago (ms.2 2) (ms.1 5)) (ms.1 1) (ms.1 6)) (ms.1 6) := sq_G_step (by rw [sq_G_old dl]; unfold sq_gI sq_nIn; rw [if_neg (by omega)]) dS
              rw [eA] at hP hD
              clear eA
              refine lv_aload_n hx hb dX1_goOn_42 rfl (lv_at hl 3 rfl) ?_
              refine va_get (D := (dC, dI)) (ci := 1) (v := .ref (q 10)) (C := RX1) (T := TX1) (N := 23) hx hb hts hin hown hK hP 0 rfl rfl 21 (by decide) k45 (fun _ h9 => h9) rfl dX1_goOn_43 ?_
              refine lv_iload_n hx hb dX1_goOn_46 rfl (lv_at hl 0 rfl) ?_
              refine lv_aload_n hx hb dX1_goOn_47 rfl (lv_at hl 3 rfl) ?_
              refine va_get (D := (dC, dI)) (ci := 1) (v := .ref (q 10)) (C := RX1) (T := TX1) (N := 23) hx hb hts hin hown hK hP 0 rfl rfl 21 (by decide) k45 (fun _ h9 => h9) rfl dX1_goOn_48 ?_
              refine lv_iload_n hx hb dX1_goOn_51 rfl (lv_at hl 0 rfl) ?_
              refine lv_iconst (v := nI 1) hx hb dX1_goOn_52 (by decide +kernel) ?_
              refine sq_isub hx hb (by omega) dX1_goOn_53 ?_
              refine sq_zald hx hb hK hP 11 1 rfl rfl (i := (((r * 6) + (t1 + 1)) - 1)) (by omega) (by decide) dX1_goOn_54 ?_
              refine sq_zast hx hb hK hP hD hS 11 1 rfl rfl (i := ((r * 6) + (t1 + 1))) (by omega) (by decide) n10 dX1_goOn_55 (fun H locs hP hD hS => ?_)
              have hP : va_P (dC, dI) vwCl (wM h0 q cI cZ (ms.1 0) (ms.1 1) (ms.1 2) (ms.1 3) (ms.1 4) (ms.1 5) (sq_G (sq_dH (ms.2 1) r (t1 + 1)) (sq_gI (sq_mago (ms.2 2) (ms.1 5)) (ms.1 1) (ms.1 6)) (ms.1 6)) (ms.1 7) (ms.1 8) (ms.1 9) (upd (sq_G (sq_dH (ms.2 1) r (t1 + 1 + 1)) (sq_gM (sq_mago (ms.2 2) (ms.1 5)) (ms.1 2) (ms.1 10)) (ms.1 10)) ((r * 6) + (t1 + 1)) ((sq_G (sq_dH (ms.2 1) r (t1 + 1 + 1)) (sq_gM (sq_mago (ms.2 2) (ms.1 5)) (ms.1 2) (ms.1 10)) (ms.1 10)) (((r * 6) + (t1 + 1)) - 1))) (sq_G (sq_dH (ms.2 1) r (t1 + 1 + 1)) (sq_nIn (ms.1 11) (sq_mreal (sq_mago (ms.2 2) (ms.1 5)))) (ms.1 11)) (ms.2 0) (ms.2 1) (ms.2 2) (ms.2 3) (ms.2 4) (ms.2 5) (ms.2 6) (ms.2 7) (ms.2 8) (ms.2 9) (ms.2 10)) H := hP
              have hD : va_D A (wM h0 q cI cZ (ms.1 0) (ms.1 1) (ms.1 2) (ms.1 3) (ms.1 4) (ms.1 5) (sq_G (sq_dH (ms.2 1) r (t1 + 1)) (sq_gI (sq_mago (ms.2 2) (ms.1 5)) (ms.1 1) (ms.1 6)) (ms.1 6)) (ms.1 7) (ms.1 8) (ms.1 9) (upd (sq_G (sq_dH (ms.2 1) r (t1 + 1 + 1)) (sq_gM (sq_mago (ms.2 2) (ms.1 5)) (ms.1 2) (ms.1 10)) (ms.1 10)) ((r * 6) + (t1 + 1)) ((sq_G (sq_dH (ms.2 1) r (t1 + 1 + 1)) (sq_gM (sq_mago (ms.2 2) (ms.1 5)) (ms.1 2) (ms.1 10)) (ms.1 10)) (((r * 6) + (t1 + 1)) - 1))) (sq_G (sq_dH (ms.2 1) r (t1 + 1 + 1)) (sq_nIn (ms.1 11) (sq_mreal (sq_mago (ms.2 2) (ms.1 5)))) (ms.1 11)) (ms.2 0) (ms.2 1) (ms.2 2) (ms.2 3) (ms.2 4) (ms.2 5) (ms.2 6) (ms.2 7) (ms.2 8) (ms.2 9) (ms.2 10)) := hD
              have eA : upd (sq_G (sq_dH (ms.2 1) r (t1 + 1 + 1)) (sq_gM (sq_mago (ms.2 2) (ms.1 5)) (ms.1 2) (ms.1 10)) (ms.1 10)) ((r * 6) + (t1 + 1)) ((sq_G (sq_dH (ms.2 1) r (t1 + 1 + 1)) (sq_gM (sq_mago (ms.2 2) (ms.1 5)) (ms.1 2) (ms.1 10)) (ms.1 10)) (((r * 6) + (t1 + 1)) - 1)) = sq_G (sq_dH (ms.2 1) r (t1 + 1)) (sq_gM (sq_mago (ms.2 2) (ms.1 5)) (ms.1 2) (ms.1 10)) (ms.1 10) := sq_G_step (by rw [sq_G_old dl]; unfold sq_gM sq_nIn; rw [if_neg (by omega)]) dS
              rw [eA] at hP hD
              clear eA
              refine lv_aload_n hx hb dX1_goOn_56 rfl (lv_at hl 3 rfl) ?_
              refine va_get (D := (dC, dI)) (ci := 1) (v := .ref (q 11)) (C := RX1) (T := TX1) (N := 23) hx hb hts hin hown hK hP 0 rfl rfl 22 (by decide) k48 (fun _ h9 => h9) rfl dX1_goOn_57 ?_
              refine lv_iload_n hx hb dX1_goOn_60 rfl (lv_at hl 0 rfl) ?_
              refine lv_aload_n hx hb dX1_goOn_61 rfl (lv_at hl 3 rfl) ?_
              refine va_get (D := (dC, dI)) (ci := 1) (v := .ref (q 11)) (C := RX1) (T := TX1) (N := 23) hx hb hts hin hown hK hP 0 rfl rfl 22 (by decide) k48 (fun _ h9 => h9) rfl dX1_goOn_62 ?_
              refine lv_iload_n hx hb dX1_goOn_65 rfl (lv_at hl 0 rfl) ?_
              refine lv_iconst (v := nI 1) hx hb dX1_goOn_66 (by decide +kernel) ?_
              refine sq_isub hx hb (by omega) dX1_goOn_67 ?_
              refine sq_zald hx hb hK hP 12 1 rfl rfl (i := (((r * 6) + (t1 + 1)) - 1)) (by omega) (by decide) dX1_goOn_68 ?_
              refine sq_zast hx hb hK hP hD hS 12 1 rfl rfl (i := ((r * 6) + (t1 + 1))) (by omega) (by decide) n11 dX1_goOn_69 (fun H locs hP hD hS => ?_)
              have hP : va_P (dC, dI) vwCl (wM h0 q cI cZ (ms.1 0) (ms.1 1) (ms.1 2) (ms.1 3) (ms.1 4) (ms.1 5) (sq_G (sq_dH (ms.2 1) r (t1 + 1)) (sq_gI (sq_mago (ms.2 2) (ms.1 5)) (ms.1 1) (ms.1 6)) (ms.1 6)) (ms.1 7) (ms.1 8) (ms.1 9) (sq_G (sq_dH (ms.2 1) r (t1 + 1)) (sq_gM (sq_mago (ms.2 2) (ms.1 5)) (ms.1 2) (ms.1 10)) (ms.1 10)) (upd (sq_G (sq_dH (ms.2 1) r (t1 + 1 + 1)) (sq_nIn (ms.1 11) (sq_mreal (sq_mago (ms.2 2) (ms.1 5)))) (ms.1 11)) ((r * 6) + (t1 + 1)) ((sq_G (sq_dH (ms.2 1) r (t1 + 1 + 1)) (sq_nIn (ms.1 11) (sq_mreal (sq_mago (ms.2 2) (ms.1 5)))) (ms.1 11)) (((r * 6) + (t1 + 1)) - 1))) (ms.2 0) (ms.2 1) (ms.2 2) (ms.2 3) (ms.2 4) (ms.2 5) (ms.2 6) (ms.2 7) (ms.2 8) (ms.2 9) (ms.2 10)) H := hP
              have hD : va_D A (wM h0 q cI cZ (ms.1 0) (ms.1 1) (ms.1 2) (ms.1 3) (ms.1 4) (ms.1 5) (sq_G (sq_dH (ms.2 1) r (t1 + 1)) (sq_gI (sq_mago (ms.2 2) (ms.1 5)) (ms.1 1) (ms.1 6)) (ms.1 6)) (ms.1 7) (ms.1 8) (ms.1 9) (sq_G (sq_dH (ms.2 1) r (t1 + 1)) (sq_gM (sq_mago (ms.2 2) (ms.1 5)) (ms.1 2) (ms.1 10)) (ms.1 10)) (upd (sq_G (sq_dH (ms.2 1) r (t1 + 1 + 1)) (sq_nIn (ms.1 11) (sq_mreal (sq_mago (ms.2 2) (ms.1 5)))) (ms.1 11)) ((r * 6) + (t1 + 1)) ((sq_G (sq_dH (ms.2 1) r (t1 + 1 + 1)) (sq_nIn (ms.1 11) (sq_mreal (sq_mago (ms.2 2) (ms.1 5)))) (ms.1 11)) (((r * 6) + (t1 + 1)) - 1))) (ms.2 0) (ms.2 1) (ms.2 2) (ms.2 3) (ms.2 4) (ms.2 5) (ms.2 6) (ms.2 7) (ms.2 8) (ms.2 9) (ms.2 10)) := hD
              have eA : upd (sq_G (sq_dH (ms.2 1) r (t1 + 1 + 1)) (sq_nIn (ms.1 11) (sq_mreal (sq_mago (ms.2 2) (ms.1 5)))) (ms.1 11)) ((r * 6) + (t1 + 1)) ((sq_G (sq_dH (ms.2 1) r (t1 + 1 + 1)) (sq_nIn (ms.1 11) (sq_mreal (sq_mago (ms.2 2) (ms.1 5)))) (ms.1 11)) (((r * 6) + (t1 + 1)) - 1)) = sq_G (sq_dH (ms.2 1) r (t1 + 1)) (sq_nIn (ms.1 11) (sq_mreal (sq_mago (ms.2 2) (ms.1 5)))) (ms.1 11) := sq_G_step (by rw [sq_G_old dl]; unfold sq_nIn; rw [if_neg (by omega)]) dS
              rw [eA] at hP hD
              clear eA
              refine lv_iinc (v := nI t1) (lv' := [(2, .int (nI t1)), (3, .int (nI ((r * 6) + (t1 + 1)))), (1, .int (nI r)), (0, .ref h0)]) hx hb dX1_goOn_70 hl (k := 1) rfl (sq_dec _) (by decide) rfl (fun ls hl => ?_)
              refine lv_goto (tgt := 17) hx hb dX1_goOn_73 (by decide) ?_
              exact ih2 t1 (by omega) (by omega) H locs ls hP hD hS (lv_sub hl [0, 2, 3] rfl)
        have e9 : (wM h0 q cI cZ (ms.1 0) (ms.1 1) (ms.1 2) (ms.1 3) (ms.1 4) (ms.1 5) (sq_G (sq_dH (ms.2 1) r (ms.2 1)) (sq_gI (sq_mago (ms.2 2) (ms.1 5)) (ms.1 1) (ms.1 6)) (ms.1 6)) (ms.1 7) (ms.1 8) (ms.1 9) (sq_G (sq_dH (ms.2 1) r (ms.2 1)) (sq_gM (sq_mago (ms.2 2) (ms.1 5)) (ms.1 2) (ms.1 10)) (ms.1 10)) (sq_G (sq_dH (ms.2 1) r (ms.2 1)) (sq_nIn (ms.1 11) (sq_mreal (sq_mago (ms.2 2) (ms.1 5)))) (ms.1 11)) (ms.2 0) (ms.2 1) (ms.2 2) (ms.2 3) (ms.2 4) (ms.2 5) (ms.2 6) (ms.2 7) (ms.2 8) (ms.2 9) (ms.2 10)) = (wM h0 q cI cZ (ms.1 0) (ms.1 1) (ms.1 2) (ms.1 3) (ms.1 4) (ms.1 5) (sq_G (sq_dH (ms.2 1) r (ms.2 1 - 1 + 1)) (sq_gI (sq_mago (ms.2 2) (ms.1 5)) (ms.1 1) (ms.1 6)) (ms.1 6)) (ms.1 7) (ms.1 8) (ms.1 9) (sq_G (sq_dH (ms.2 1) r (ms.2 1 - 1 + 1)) (sq_gM (sq_mago (ms.2 2) (ms.1 5)) (ms.1 2) (ms.1 10)) (ms.1 10)) (sq_G (sq_dH (ms.2 1) r (ms.2 1 - 1 + 1)) (sq_nIn (ms.1 11) (sq_mreal (sq_mago (ms.2 2) (ms.1 5)))) (ms.1 11)) (ms.2 0) (ms.2 1) (ms.2 2) (ms.2 3) (ms.2 4) (ms.2 5) (ms.2 6) (ms.2 7) (ms.2 8) (ms.2 9) (ms.2 10)) := by rw [show ms.2 1 - 1 + 1 = ms.2 1 by omega]
        rw [e9] at hP hD
        exact L2 (ms.2 1 - 1) (by omega) H locs ls hP hD hS hl
  refine lv_iconst (v := nI 0) hx hb dX1_goOn_0 (by decide +kernel) ?_
  refine lv_istore_n (lv' := [(1, .int (nI 0)), (0, .ref h0)]) hx hb dX1_goOn_1 rfl hl (by decide) rfl (fun ls hl => ?_)
  have e9 : (wM h0 q cI cZ (ms.1 0) (ms.1 1) (ms.1 2) (ms.1 3) (ms.1 4) (ms.1 5) (sq_G (sq_dH (ms.2 1) 0 (ms.2 1)) (sq_gI (sq_mago (ms.2 2) (ms.1 5)) (ms.1 1) (ms.1 6)) (ms.1 6)) (ms.1 7) (ms.1 8) (ms.1 9) (sq_G (sq_dH (ms.2 1) 0 (ms.2 1)) (sq_gM (sq_mago (ms.2 2) (ms.1 5)) (ms.1 2) (ms.1 10)) (ms.1 10)) (sq_G (sq_dH (ms.2 1) 0 (ms.2 1)) (sq_nIn (ms.1 11) (sq_mreal (sq_mago (ms.2 2) (ms.1 5)))) (ms.1 11)) (ms.2 0) (ms.2 1) (ms.2 2) (ms.2 3) (ms.2 4) (ms.2 5) (ms.2 6) (ms.2 7) (ms.2 8) (ms.2 9) (ms.2 10)) = (wM h0 q cI cZ (ms.1 0) (ms.1 1) (ms.1 2) (ms.1 3) (ms.1 4) (ms.1 5) (ms.1 6) (ms.1 7) (ms.1 8) (ms.1 9) (ms.1 10) (ms.1 11) (ms.2 0) (ms.2 1) (ms.2 2) (ms.2 3) (ms.2 4) (ms.2 5) (ms.2 6) (ms.2 7) (ms.2 8) (ms.2 9) (ms.2 10)) := by rw [sq_G_none (sq_dH_top (ms.2 1)), sq_G_none (sq_dH_top (ms.2 1)), sq_G_none (sq_dH_top (ms.2 1))]
  rw [← e9] at hP hD
  exact LA (ms.2 1) 0 (by omega) _ _ ls hP hD hS hl
