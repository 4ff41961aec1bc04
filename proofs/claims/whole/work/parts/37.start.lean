set_option maxHeartbeats 2000000 in
set_option maxRecDepth 100000 in
/-- what throws rest on, at the start -/
theorem sq_Z_start {s : State} {b : Nat} (hts : ∀ w ∈ lw_tbl, w.before #[Value.ref b] s = true) (hgv : (Jvm.Cond.and given_1 narrow_1).before #[Value.ref b] s = true) : ∃ S : Nat → Nat, sq_Z sq_cC sq_cD RX0 sq_cS sq_cN S (fun q : Nat => s.heap.size ≤ q) s s.heap := by
  have hs := flat_of_before _ hgv
  have hA : ∀ a : Nat, a < s.heap.size → ¬ (fun q : Nat => s.heap.size ≤ q) a := fun a h => Nat.not_le.mpr h
  obtain ⟨a50, -, -, -, e50, -⟩ := Cond.exactly_spec (args := #[Value.ref b]) (first := s) (o := none) (s := s) (idx := []) (t := .string RX0 50) (cls := "java/lang/String") (hs _ (by decide +kernel))
  have r50 : vk_R RX0 50 "the side is not 1 .. 6" a50 s := vk_R.of (hts (.stringRef RX0 50 "the side is not 1 .. 6") (List.mem_append_right _ (List.mem_append_left _ (List.mem_of_getElem? (i := 139) rfl)))) e50
  obtain ⟨a61, -, -, -, e61, -⟩ := Cond.exactly_spec (args := #[Value.ref b]) (first := s) (o := none) (s := s) (idx := []) (t := .string RX0 61) (cls := "java/lang/String") (hs _ (by decide +kernel))
  have r61 : vk_R RX0 61 "there are 120 rows" a61 s := vk_R.of (hts (.stringRef RX0 61 "there are 120 rows") (List.mem_append_right _ (List.mem_append_left _ (List.mem_of_getElem? (i := 183) rfl)))) e61
  obtain ⟨a67, -, -, -, e67, -⟩ := Cond.exactly_spec (args := #[Value.ref b]) (first := s) (o := none) (s := s) (idx := []) (t := .string RX0 67) (cls := "java/lang/String") (hs _ (by decide +kernel))
  have r67 : vk_R RX0 67 "there are 200 vectors" a67 s := vk_R.of (hts (.stringRef RX0 67 "there are 200 vectors") (List.mem_append_right _ (List.mem_append_left _ (List.mem_of_getElem? (i := 197) rfl)))) e67
  obtain ⟨a73, -, -, -, e73, -⟩ := Cond.exactly_spec (args := #[Value.ref b]) (first := s) (o := none) (s := s) (idx := []) (t := .string RX0 73) (cls := "java/lang/String") (hs _ (by decide +kernel))
  have r73 : vk_R RX0 73 "n is below 0 or too many cycles" a73 s := vk_R.of (hts (.stringRef RX0 73 "n is below 0 or too many cycles") (List.mem_append_right _ (List.mem_append_left _ (List.mem_of_getElem? (i := 206) rfl)))) e73
  obtain ⟨a88, -, -, -, e88, -⟩ := Cond.exactly_spec (args := #[Value.ref b]) (first := s) (o := none) (s := s) (idx := []) (t := .string RX0 88) (cls := "java/lang/String") (hs _ (by decide +kernel))
  have r88 : vk_R RX0 88 "there is no such cell" a88 s := vk_R.of (hts (.stringRef RX0 88 "there is no such cell") (List.mem_append_right _ (List.mem_append_right _ (List.mem_append_left _ (List.mem_of_getElem? (i := 44) rfl))))) e88
  obtain ⟨a91, -, -, -, e91, -⟩ := Cond.exactly_spec (args := #[Value.ref b]) (first := s) (o := none) (s := s) (idx := []) (t := .string RX0 91) (cls := "java/lang/String") (hs _ (by decide +kernel))
  have r91 : vk_R RX0 91 "what is not 0 .. 4" a91 s := vk_R.of (hts (.stringRef RX0 91 "what is not 0 .. 4") (List.mem_append_right _ (List.mem_append_right _ (List.mem_append_left _ (List.mem_of_getElem? (i := 51) rfl))))) e91
  obtain ⟨a96, -, -, -, e96, -⟩ := Cond.exactly_spec (args := #[Value.ref b]) (first := s) (o := none) (s := s) (idx := []) (t := .string RX0 96) (cls := "java/lang/String") (hs _ (by decide +kernel))
  have r96 : vk_R RX0 96 "there is no such vector" a96 s := vk_R.of (hts (.stringRef RX0 96 "there is no such vector") (List.mem_append_right _ (List.mem_append_right _ (List.mem_append_left _ (List.mem_of_getElem? (i := 63) rfl))))) e96
  obtain ⟨a101, -, -, -, e101, -⟩ := Cond.exactly_spec (args := #[Value.ref b]) (first := s) (o := none) (s := s) (idx := []) (t := .string RX0 101) (cls := "java/lang/String") (hs _ (by decide +kernel))
  have r101 : vk_R RX0 101 "there is no such vector or column" a101 s := vk_R.of (hts (.stringRef RX0 101 "there is no such vector or column") (List.mem_append_right _ (List.mem_append_right _ (List.mem_append_left _ (List.mem_of_getElem? (i := 72) rfl))))) e101
  obtain ⟨a109, -, -, -, e109, -⟩ := Cond.exactly_spec (args := #[Value.ref b]) (first := s) (o := none) (s := s) (idx := []) (t := .string RX0 109) (cls := "java/lang/String") (hs _ (by decide +kernel))
  have r109 : vk_R RX0 109 "the vector has no result yet" a109 s := vk_R.of (hts (.stringRef RX0 109 "the vector has no result yet") (List.mem_append_right _ (List.mem_append_right _ (List.mem_append_left _ (List.mem_of_getElem? (i := 82) rfl))))) e109
  obtain ⟨a127, -, -, -, e127, -⟩ := Cond.exactly_spec (args := #[Value.ref b]) (first := s) (o := none) (s := s) (idx := []) (t := .string RX0 127) (cls := "java/lang/String") (hs _ (by decide +kernel))
  have r127 : vk_R RX0 127 "what is not 0 .. 6" a127 s := vk_R.of (hts (.stringRef RX0 127 "what is not 0 .. 6") (List.mem_append_right _ (List.mem_append_right _ (List.mem_append_left _ (List.mem_of_getElem? (i := 96) rfl))))) e127
  refine ⟨fun k => if k = 50 then a50 else if k = 61 then a61 else if k = 67 then a67 else if k = 73 then a73 else if k = 88 then a88 else if k = 91 then a91 else if k = 96 then a96 else if k = 101 then a101 else if k = 109 then a109 else if k = 127 then a127 else 0, ?_, ?_, ?_, ?_, ?_, ?_⟩
  · exact vx_Zqof (hts (.laysStatic "java/lang/Throwable" "UNASSIGNED_STACK" "[Ljava/lang/StackTraceElement;") (List.mem_append_right _ (List.mem_append_left _ (List.mem_of_getElem? (i := 124) rfl)))) (hts (.initialized "java/lang/Throwable") (List.mem_append_right _ (List.mem_append_left _ (List.mem_of_getElem? (i := 4) rfl)))) (hs (.isRef (.static "java/lang/Throwable" "UNASSIGNED_STACK" "[Ljava/lang/StackTraceElement;")) (by decide +kernel)) hA
  · exact vx_Zqof (hts (.laysStatic "java/lang/Throwable" "SUPPRESSED_SENTINEL" "Ljava/util/List;") (List.mem_append_right _ (List.mem_append_left _ (List.mem_of_getElem? (i := 126) rfl)))) (hts (.initialized "java/lang/Throwable") (List.mem_append_right _ (List.mem_append_left _ (List.mem_of_getElem? (i := 4) rfl)))) (hs (.isRef (.static "java/lang/Throwable" "SUPPRESSED_SENTINEL" "Ljava/util/List;")) (by decide +kernel)) hA
  · intro x hx
    simp only [sq_cC, List.mem_cons, List.not_mem_nil, or_false] at hx
    rcases hx with rfl | rfl | rfl | rfl
    · exact va_Nw.of rfl (hts (.castable "java/lang/IllegalArgumentException" "java/lang/IllegalArgumentException") (List.mem_append_right _ (List.mem_append_left _ (List.mem_of_getElem? (i := 99) rfl))))
    · exact va_Nw.of rfl (hts (.castable "java/lang/UnsupportedOperationException" "java/lang/UnsupportedOperationException") (List.mem_append_right _ (List.mem_append_left _ (List.mem_of_getElem? (i := 176) rfl))))
    · exact va_Nw.of rfl (hts (.castable "java/lang/IndexOutOfBoundsException" "java/lang/IndexOutOfBoundsException") (List.mem_append_right _ (List.mem_append_right _ (List.mem_append_left _ (List.mem_of_getElem? (i := 37) rfl)))))
    · exact va_Nw.of rfl (hts (.castable "java/util/NoSuchElementException" "java/util/NoSuchElementException") (List.mem_append_right _ (List.mem_append_right _ (List.mem_append_left _ (List.mem_of_getElem? (i := 75) rfl)))))
  · intro x hx
    simp only [sq_cD, List.mem_cons, List.not_mem_nil, or_false] at hx
    rcases hx with rfl | rfl | rfl
    · exact va_Nw.of rfl (hts (.declares ⟨"java/lang/RuntimeException", "<init>", "(Ljava/lang/String;)V"⟩) (List.mem_append_right _ (List.mem_append_left _ (List.mem_of_getElem? (i := 101) rfl))))
    · exact va_Nw.of rfl (hts (.declares ⟨"java/lang/Exception", "<init>", "(Ljava/lang/String;)V"⟩) (List.mem_append_right _ (List.mem_append_left _ (List.mem_of_getElem? (i := 103) rfl))))
    · exact va_Nw.of rfl (hts (.declares ⟨"java/lang/Throwable", "<init>", "(Ljava/lang/String;)V"⟩) (List.mem_append_right _ (List.mem_append_left _ (List.mem_of_getElem? (i := 105) rfl))))
  · intro x hx
    simp only [sq_cS, List.mem_cons, List.not_mem_nil, or_false] at hx
    rcases hx with rfl | rfl | rfl | rfl | rfl | rfl | rfl | rfl | rfl | rfl
    · exact r50
    · exact r61
    · exact r67
    · exact r73
    · exact r88
    · exact r91
    · exact r96
    · exact r101
    · exact r109
    · exact r127
  · intro x hx
    simp only [sq_cN, List.mem_cons, List.not_mem_nil, or_false] at hx
    rcases hx with rfl | rfl
    · exact va_Nc.of (hs (.not (.castable "java/lang/IllegalArgumentException" "java/lang/IndexOutOfBoundsException")) (by decide +kernel))
    · exact va_Nc.of (hs (.not (.castable "java/util/NoSuchElementException" "java/lang/IndexOutOfBoundsException")) (by decide +kernel))
set_option maxHeartbeats 2000000 in
set_option maxRecDepth 100000 in
/-- the law's loop: between calls the class and the reference stand beside each other -/
theorem law_loop {p : Program} {l : Launch} {e : Env} {s : State} {m : MethodId} {below : List Frame} {meth : Method} {c : Code} {dC : Nat → ClassId} {dI : Nat → Nat → Nat} {b L : Nat} {xs : Nat → Int32} (hl9 : l.stackTraces = false) (hL : L ≤ 4096) (C0 : lw_At p s m meth c b L xs) {S : Nat → Nat} (hZ : sq_Z sq_cC sq_cD RX0 sq_cS sq_cN S (fun q : Nat => s.heap.size ≤ q) s s.heap) {h0 m0 o : Nat} {q qm : Nat → Nat} {cI cZ cL : ClassId} (hK : va_K (dC, dI) vwCl [(cI, .int), (cZ, .boolean), (cL, .long)] s) : ∀ (k j : Nat), 8 * j + k = L → ∀ (st ms : SqS) (g : Nat → Int64) (H : Heap) (locs : List Loc) (ls : Array Slot), sq_Inv st ms → va_P (dC, dI) vwCl (wL h0 m0 o q qm cI cZ cL st ms g) H → va_D (fun q : Nat => s.heap.size ≤ q) (wL h0 m0 o q qm cI cZ cL st ms g) → va_S (fun q : Nat => s.heap.size ≤ q) s.heap H locs → lv_has ls 7 [(4, .int (nI (8 * j))), (0, .ref b), (1, .ref h0), (2, .ref m0), (3, .ref o)] → W p l e room_1 s m #[Value.ref b] below meth c H locs (26 + j) (7507 + 6 * j) (lw_Z below #[Value.ref b] s) (F0 m 23 ls []) := by
  obtain ⟨hx, hb, hr, hml, hown, hts, hX, hbl, hlocks, hgv⟩ := id C0
  have hbA : ¬ (fun q : Nat => s.heap.size ≤ q) b := Nat.not_le.mpr hbl
  intro k
  induction k using Nat.strongRecOn with
  | _ k ih =>
    intro j hj st ms g H locs ls hI hP hD hS hl
    refine lv_iload hx hb dL_law_23 (lv_at hl 0 rfl) ?_
    refine lv_aload_n hx hb dL_law_25 rfl (lv_at hl 1 rfl) ?_
    refine va_slen hx hb hX hbl hbA hS dL_law_26 ?_
    refine sq_top (show Int32.ofNat L = nI L from rfl) ?_
    refine lv_bipush (v := nI 8) hx hb dL_law_27 (by decide +kernel) ?_
    refine lv_isub hx hb dL_law_29 ?_
    refine lv_icmp_gt (tgt := 712) hx hb dL_law_30 (by decide) (fun hc => ?_) (fun hc => ?_)
    · refine lv_iconst (v := 1) hx hb dL_law_712 (by decide) ?_
      refine va_forget (fun q hq => hS.2.2 q hq) ?_
      refine W.widen (k := 1060) (n := 15759) (by omega) (by omega) ?_
      exact lw_ret hx hb hr hlocks dL_law_713
    · have h8 : 8 * j + 8 ≤ L := by
        rw [Int32.lt_iff_toInt_lt, pk_sub_toInt (by omega) (by omega), nI_toInt (by omega)] at hc
        omega
      refine lv_aload_n hx hb dL_law_33 rfl (lv_at hl 1 rfl) ?_
      refine lv_iload hx hb dL_law_34 (lv_at hl 0 rfl) ?_
      refine sq_sld hx hb hX hbl hbA hS (i := 8 * j) (by omega) (by omega) dL_law_36 ?_
      refine lv_bipush (v := nI 7) hx hb dL_law_37 (by decide +kernel) ?_
      refine lv_iand hx hb dL_law_39 ?_
      have hnext : ∀ (st ms : SqS) (g : Nat → Int64) (H : Heap) (locs : List Loc) (ls : Array Slot), sq_Inv st ms → va_P (dC, dI) vwCl (wL h0 m0 o q qm cI cZ cL st ms g) H → va_D (fun q : Nat => s.heap.size ≤ q) (wL h0 m0 o q qm cI cZ cL st ms g) → va_S (fun q : Nat => s.heap.size ≤ q) s.heap H locs → lv_has ls 7 [(4, .int (nI (8 * j))), (0, .ref b), (1, .ref h0), (2, .ref m0), (3, .ref o)] → W p l e room_1 s m #[Value.ref b] below meth c H locs (26 + j + 1) (7507 + 6 * j + 6) (lw_Z below #[Value.ref b] s) (F0 m 706 ls []) := by
        intro st ms g H locs ls hI hP hD hS hl
        refine lv_iinc (v := nI (8 * (j + 1))) (lv' := [(4, .int (nI (8 * (j + 1)))), (0, .ref b), (1, .ref h0), (2, .ref m0), (3, .ref o)]) hx hb dL_law_706 hl (k := 0) rfl (by rw [show Int32.ofInt 8 = nI 8 from by decide +kernel, nI_add]; exact congrArg nI (by omega)) (by decide) rfl (fun ls hl => ?_)
        refine lv_goto (tgt := 23) hx hb dL_law_709 (by decide) ?_
        refine W.widen (k := 26 + (j + 1)) (n := 7507 + 6 * (j + 1)) (by omega) (by omega) ?_
        exact ih (k - 8) (by omega) (j + 1) (by omega) st ms g H locs ls hI hP hD hS hl
      obtain ⟨d, hd, ed⟩ := pk_andE (xs (8 * j)) (m := nI 7) 3 (by decide +kernel)
      refine sq_top ed ?_
      rcases (show d = 0 ∨ d = 1 ∨ d = 2 ∨ d = 3 ∨ d = 4 ∨ d = 5 ∨ d = 6 ∨ d = 7 by omega) with rfl | rfl | rfl | rfl | rfl | rfl | rfl | rfl
      · refine lv_tableIn (tgt := 88) hx hb dL_law_40 (by decide) (by decide) rfl (by decide) ?_
        exact law_0 hl9 hL C0 hZ hK (8 * j) (26 + j) (7507 + 6 * j) h8 (by omega) (by omega) hnext st ms g H locs ls hI hP hD hS hl
      · refine lv_tableIn (tgt := 124) hx hb dL_law_40 (by decide) (by decide) rfl (by decide) ?_
        exact law_1 hl9 hL C0 hZ hK (8 * j) (26 + j) (7507 + 6 * j) h8 (by omega) (by omega) hnext st ms g H locs ls hI hP hD hS hl
      · refine lv_tableIn (tgt := 242) hx hb dL_law_40 (by decide) (by decide) rfl (by decide) ?_
        by_cases hz : xs (8 * j + 1) = 0
        · exact law_2f hl9 hL C0 hZ hK (8 * j) (26 + j) (7507 + 6 * j) h8 (by omega) (by omega) hz hnext st ms g H locs ls hI hP hD hS hl
        · exact law_2t hl9 hL C0 hZ hK (8 * j) (26 + j) (7507 + 6 * j) h8 (by omega) (by omega) hz hnext st ms g H locs ls hI hP hD hS hl
      · refine lv_tableIn (tgt := 390) hx hb dL_law_40 (by decide) (by decide) rfl (by decide) ?_
        exact law_3 hl9 hL C0 hZ hK (8 * j) (26 + j) (7507 + 6 * j) h8 (by omega) (by omega) hnext st ms g H locs ls hI hP hD hS hl
      · refine lv_tableIn (tgt := 446) hx hb dL_law_40 (by decide) (by decide) rfl (by decide) ?_
        exact law_4 hl9 hL C0 hZ hK (8 * j) (26 + j) (7507 + 6 * j) h8 (by omega) (by omega) hnext st ms g H locs ls hI hP hD hS hl
      · refine lv_tableIn (tgt := 526) hx hb dL_law_40 (by decide) (by decide) rfl (by decide) ?_
        exact law_5 hl9 hL C0 hZ hK (8 * j) (26 + j) (7507 + 6 * j) h8 (by omega) (by omega) hnext st ms g H locs ls hI hP hD hS hl
      · refine lv_tableIn (tgt := 582) hx hb dL_law_40 (by decide) (by decide) rfl (by decide) ?_
        exact law_6 hl9 hL C0 hZ hK (8 * j) (26 + j) (7507 + 6 * j) h8 (by omega) (by omega) hnext st ms g H locs ls hI hP hD hS hl
      · refine lv_tableIn (tgt := 650) hx hb dL_law_40 (by decide) (by decide) rfl (by decide) ?_
        exact law_7 hl9 hL C0 hZ hK (8 * j) (26 + j) (7507 + 6 * j) h8 (by omega) (by omega) hnext st ms g H locs ls hI hP hD hS hl
set_option maxHeartbeats 2000000 in
set_option maxRecDepth 100000 in
/-- THE LAW, from its entry -/
theorem whole_start {p : Program} {e : Env} {s : State} {m : MethodId} {below : List Frame} {meth : Method} {c : Code} (l : Launch) (hl9 : l.stackTraces = false) {b L : Nat} {xs : Nat → Int32} (hL : L ≤ 4096) (C0 : lw_At p s m meth c b L xs) : W p l e room_1 s m #[Value.ref b] below meth c s.heap [] 0 0 (lw_Z below #[Value.ref b] s) (entryFrame m ([Value.ref b] : List Value).toArray 7) := by
  obtain ⟨hx, hb, hr, hml, hown, hts, hX, hbl, hlocks, hgv⟩ := id C0
  have hown : s.vm.findClass RL = some m.cls := hown
  obtain ⟨S, hZ⟩ := sq_Z_start hts hgv
  have hA : ∀ q : Nat, s.heap.size ≤ q → (fun q : Nat => s.heap.size ≤ q) q := fun _ h => h
  have i0 : ∀ w ∈ u_ws RX0 TX0 20, w ∈ lw_tbl := fun w h => (sq_goodW (inX0 w h)).1
  have i1 : ∀ w ∈ u_ws RX1 TX1 23, w ∈ lw_tbl := fun w h => (sq_goodW (inX1 w h)).1
  obtain ⟨c0, iS0, hKn0⟩ := u_known (C := RX0) (T := TX0) (N := 20) (n := 20) hts i0 (hts _ (sq_goodW mq_X0).1)
  obtain ⟨c1, iS1, hKn1⟩ := u_known (C := RX1) (T := TX1) (N := 23) (n := 23) hts i1 (hts _ (sq_goodW mq_X1).1)
  obtain ⟨dC, dI, hKc⟩ : ∃ (dC : Nat → ClassId) (dI : Nat → Nat → Nat), ∀ (k : Nat) (q : vw_C), vwCl[k]? = some q → u_Kn s q.1 q.2.1 q.2.2 (dC k) (dI k) := by
    refine ⟨fun k => if k = 0 then c0 else c1, fun k => if k = 0 then iS0 else iS1, ?_⟩
    intro k q hq
    match k, hq with
    | 0, hq => cases hq; exact hKn0
    | 1, hq => cases hq; exact hKn1
    | k + 2, hq => simp [vwCl] at hq
  have hS : va_S (fun q : Nat => s.heap.size ≤ q) s.heap s.heap [] := va_S.rf
  have hK : va_K (dC, dI) vwCl [] s := ⟨hKc, fun k q h => by simp at h⟩
  have hP : va_P (dC, dI) vwCl [] s.heap := fun k q h => by simp at h
  have hD : va_D (fun q : Nat => s.heap.size ≤ q) [] := ⟨fun i j p q h => by simp at h, fun k q h => by simp at h⟩
  have hl := lv_entry ([.ref b]) (n := 7) (Nat.le_of_ble_eq_true rfl)
  rw [lg_entry_eq]
  generalize (lg_sl ([.ref b]) ++ List.replicate (7 - (lg_sl ([.ref b])).length) Slot.unset).toArray = ls at hl ⊢
  have hl : lv_has ls 7 [(0, .ref b)] := hl
  refine va_new (ci := 0) (fs := [.null, .null, .null, .null, .null, .null, .null, .null, .null, .null, .null, .int (nI 0), .int (nI 0), .int (nI 0), .int (nI 0), .int (nI 0), .int (nI 0), .int (nI 0), .int (nI 0), .int (nI 0)]) (C := RX0) (T := TX0) (N := 20) hx hb hts i0 tyX0 tyX0_ok hown (hts _ (sq_goodW mkL_8).1) (hts _ (sq_goodW mq_X0).1) (hts _ (sq_goodW mt_X0).1) hK hP hD hS hA rfl (fun j hj => by rcases (show j = 0 ∨ j = 1 ∨ j = 2 ∨ j = 3 ∨ j = 4 ∨ j = 5 ∨ j = 6 ∨ j = 7 ∨ j = 8 ∨ j = 9 ∨ j = 10 ∨ j = 11 ∨ j = 12 ∨ j = 13 ∨ j = 14 ∨ j = 15 ∨ j = 16 ∨ j = 17 ∨ j = 18 ∨ j = 19 by omega) with rfl | rfl | rfl | rfl | rfl | rfl | rfl | rfl | rfl | rfl | rfl | rfl | rfl | rfl | rfl | rfl | rfl | rfl | rfl | rfl <;> rfl) (by show _ ≤ 1060; omega) (by show _ ≤ 15759; omega) dL_law_0 (fun h0 H hP hD hS => ?_)
  have hP : va_P (dC, dI) vwCl [(h0, .inr (0, [.null, .null, .null, .null, .null, .null, .null, .null, .null, .null, .null, .int (nI 0), .int (nI 0), .int (nI 0), .int (nI 0), .int (nI 0), .int (nI 0), .int (nI 0), .int (nI 0), .int (nI 0)]))] H := hP
  have hD : va_D (fun q : Nat => s.heap.size ≤ q) [(h0, .inr (0, [.null, .null, .null, .null, .null, .null, .null, .null, .null, .null, .null, .int (nI 0), .int (nI 0), .int (nI 0), .int (nI 0), .int (nI 0), .int (nI 0), .int (nI 0), .int (nI 0), .int (nI 0)]))] := hD
  refine W.widen (k := 1) (n := 20) (by omega) (by omega) ?_
  refine lv_dup hx hb dL_law_3 rfl ?_
  have hFc := va_free (wc := [(h0, .inr (0, [.null, .null, .null, .null, .null, .null, .null, .null, .null, .null, .null, .int (nI 0), .int (nI 0), .int (nI 0), .int (nI 0), .int (nI 0), .int (nI 0), .int (nI 0), .int (nI 0), .int (nI 0)]))]) hD hS hA [0] rfl
  refine va_callv (va_runI (As := []) (rest := [.ref h0]) ⟨hx, hb, hml, hown, hts⟩ (c_init l dC dI h0 H.size) (cwI 0 hts (sq_goodL (sq_c mcX0_init sq_id)) rfl rfl rfl (hts _ (sq_goodW mt_X0).1) (hts _ (sq_goodW mlL_47).1) (hts _ (sq_goodW miX0_init).1) rfl (by decide +kernel) ⟨Nat.le_of_ble_eq_true rfl, Nat.le_of_ble_eq_true rfl⟩) ⟨sq_blind, fun U hU hW => ⟨rfl, by rw [hU], by rw [hU]; exact hP, va_K.moved hW.alike hK, hD.weaken (fun _ _ _ _ => trivial)⟩⟩ rfl rfl hl.1 rfl (lv_room (Nat.le_of_ble_eq_true rfl)) dL_law_4 ⟨by show _ ≤ 1060; omega, by show _ ≤ 15759; omega⟩) hS (fun q _ h => hFc q h) hFc (fun u t H1 locs ht hvm hw hB hz1 hk1 hS => ?_)
  obtain ⟨q, cI, cZ⟩ := u
  obtain ⟨hP1, hK1, hD1⟩ := hB
  rw [ht] at hP1
  have hK : va_K (dC, dI) vwCl [(cI, .int), (cZ, .boolean)] s := va_K.moved hvm.symm hK1
  obtain ⟨hP, hD⟩ := va_join (wr := []) (w1 := (wX h0 q cI cZ ((sq_clr sq_z0 1).1 0) ((sq_clr sq_z0 1).1 1) ((sq_clr sq_z0 1).1 2) ((sq_clr sq_z0 1).1 3) ((sq_clr sq_z0 1).1 4) ((sq_clr sq_z0 1).1 5) ((sq_clr sq_z0 1).1 6) ((sq_clr sq_z0 1).1 7) ((sq_clr sq_z0 1).1 8) ((sq_clr sq_z0 1).1 9) ((sq_clr sq_z0 1).1 10) ((sq_clr sq_z0 1).2 0) ((sq_clr sq_z0 1).2 1) ((sq_clr sq_z0 1).2 2) ((sq_clr sq_z0 1).2 3) ((sq_clr sq_z0 1).2 4) ((sq_clr sq_z0 1).2 5) ((sq_clr sq_z0 1).2 6) ((sq_clr sq_z0 1).2 7) ((sq_clr sq_z0 1).2 8))) hP hD [0] [] rfl rfl (by decide) (by decide) hk1 hFc hP1 hD1
  generalize H1 = H at hP hS ⊢
  have hP : va_P (dC, dI) vwCl (wX h0 q cI cZ ((sq_clr sq_z0 1).1 0) ((sq_clr sq_z0 1).1 1) ((sq_clr sq_z0 1).1 2) ((sq_clr sq_z0 1).1 3) ((sq_clr sq_z0 1).1 4) ((sq_clr sq_z0 1).1 5) ((sq_clr sq_z0 1).1 6) ((sq_clr sq_z0 1).1 7) ((sq_clr sq_z0 1).1 8) ((sq_clr sq_z0 1).1 9) ((sq_clr sq_z0 1).1 10) ((sq_clr sq_z0 1).2 0) ((sq_clr sq_z0 1).2 1) ((sq_clr sq_z0 1).2 2) ((sq_clr sq_z0 1).2 3) ((sq_clr sq_z0 1).2 4) ((sq_clr sq_z0 1).2 5) ((sq_clr sq_z0 1).2 6) ((sq_clr sq_z0 1).2 7) ((sq_clr sq_z0 1).2 8)) H := hP
  have hD : va_D (fun q : Nat => s.heap.size ≤ q) (wX h0 q cI cZ ((sq_clr sq_z0 1).1 0) ((sq_clr sq_z0 1).1 1) ((sq_clr sq_z0 1).1 2) ((sq_clr sq_z0 1).1 3) ((sq_clr sq_z0 1).1 4) ((sq_clr sq_z0 1).1 5) ((sq_clr sq_z0 1).1 6) ((sq_clr sq_z0 1).1 7) ((sq_clr sq_z0 1).1 8) ((sq_clr sq_z0 1).1 9) ((sq_clr sq_z0 1).1 10) ((sq_clr sq_z0 1).2 0) ((sq_clr sq_z0 1).2 1) ((sq_clr sq_z0 1).2 2) ((sq_clr sq_z0 1).2 3) ((sq_clr sq_z0 1).2 4) ((sq_clr sq_z0 1).2 5) ((sq_clr sq_z0 1).2 6) ((sq_clr sq_z0 1).2 7) ((sq_clr sq_z0 1).2 8)) := hD
  refine W.widen (k := 12) (n := 3731) (by omega) (by omega) ?_
  refine lv_astore_n (lv' := [(1, .ref h0), (0, .ref b)]) hx hb dL_law_7 rfl hl (by decide) rfl (fun ls hl => ?_)
  refine va_new (ci := 1) (fs := [.int (nI 0), .int (nI 0), .int (nI 0), .int (nI 0), .int (nI 0), .int (nI 0), .int (nI 0), .null, .int (nI 0), .int (nI 0), .int (nI 0), .int (nI 0), .null, .null, .null, .null, .null, .null, .null, .null, .null, .null, .null]) (C := RX1) (T := TX1) (N := 23) hx hb hts i1 tyX1 tyX1_ok hown (hts _ (sq_goodW mkL_48).1) (hts _ (sq_goodW mq_X1).1) (hts _ (sq_goodW mt_X1).1) hK hP hD hS hA rfl (fun j hj => by rcases (show j = 0 ∨ j = 1 ∨ j = 2 ∨ j = 3 ∨ j = 4 ∨ j = 5 ∨ j = 6 ∨ j = 7 ∨ j = 8 ∨ j = 9 ∨ j = 10 ∨ j = 11 ∨ j = 12 ∨ j = 13 ∨ j = 14 ∨ j = 15 ∨ j = 16 ∨ j = 17 ∨ j = 18 ∨ j = 19 ∨ j = 20 ∨ j = 21 ∨ j = 22 by omega) with rfl | rfl | rfl | rfl | rfl | rfl | rfl | rfl | rfl | rfl | rfl | rfl | rfl | rfl | rfl | rfl | rfl | rfl | rfl | rfl | rfl | rfl | rfl <;> rfl) (by show _ ≤ 1060; omega) (by show _ ≤ 15759; omega) dL_law_8 (fun m0 H hP hD hS => ?_)
  have hP : va_P (dC, dI) vwCl ((wX h0 q cI cZ ((sq_clr sq_z0 1).1 0) ((sq_clr sq_z0 1).1 1) ((sq_clr sq_z0 1).1 2) ((sq_clr sq_z0 1).1 3) ((sq_clr sq_z0 1).1 4) ((sq_clr sq_z0 1).1 5) ((sq_clr sq_z0 1).1 6) ((sq_clr sq_z0 1).1 7) ((sq_clr sq_z0 1).1 8) ((sq_clr sq_z0 1).1 9) ((sq_clr sq_z0 1).1 10) ((sq_clr sq_z0 1).2 0) ((sq_clr sq_z0 1).2 1) ((sq_clr sq_z0 1).2 2) ((sq_clr sq_z0 1).2 3) ((sq_clr sq_z0 1).2 4) ((sq_clr sq_z0 1).2 5) ((sq_clr sq_z0 1).2 6) ((sq_clr sq_z0 1).2 7) ((sq_clr sq_z0 1).2 8)) ++ [(m0, .inr (1, [.int (nI 0), .int (nI 0), .int (nI 0), .int (nI 0), .int (nI 0), .int (nI 0), .int (nI 0), .null, .int (nI 0), .int (nI 0), .int (nI 0), .int (nI 0), .null, .null, .null, .null, .null, .null, .null, .null, .null, .null, .null]))]) H := hP
  have hD : va_D (fun q : Nat => s.heap.size ≤ q) ((wX h0 q cI cZ ((sq_clr sq_z0 1).1 0) ((sq_clr sq_z0 1).1 1) ((sq_clr sq_z0 1).1 2) ((sq_clr sq_z0 1).1 3) ((sq_clr sq_z0 1).1 4) ((sq_clr sq_z0 1).1 5) ((sq_clr sq_z0 1).1 6) ((sq_clr sq_z0 1).1 7) ((sq_clr sq_z0 1).1 8) ((sq_clr sq_z0 1).1 9) ((sq_clr sq_z0 1).1 10) ((sq_clr sq_z0 1).2 0) ((sq_clr sq_z0 1).2 1) ((sq_clr sq_z0 1).2 2) ((sq_clr sq_z0 1).2 3) ((sq_clr sq_z0 1).2 4) ((sq_clr sq_z0 1).2 5) ((sq_clr sq_z0 1).2 6) ((sq_clr sq_z0 1).2 7) ((sq_clr sq_z0 1).2 8)) ++ [(m0, .inr (1, [.int (nI 0), .int (nI 0), .int (nI 0), .int (nI 0), .int (nI 0), .int (nI 0), .int (nI 0), .null, .int (nI 0), .int (nI 0), .int (nI 0), .int (nI 0), .null, .null, .null, .null, .null, .null, .null, .null, .null, .null, .null]))]) := hD
  refine W.widen (k := 13) (n := 3754) (by omega) (by omega) ?_
  refine lv_dup hx hb dL_law_11 rfl ?_
  have hPc := hP.sub (ws' := [(m0, .inr (1, [.int (nI 0), .int (nI 0), .int (nI 0), .int (nI 0), .int (nI 0), .int (nI 0), .int (nI 0), .null, .int (nI 0), .int (nI 0), .int (nI 0), .int (nI 0), .null, .null, .null, .null, .null, .null, .null, .null, .null, .null, .null]))]) [12] rfl
  have hDc := hD.sub (ws' := [(m0, .inr (1, [.int (nI 0), .int (nI 0), .int (nI 0), .int (nI 0), .int (nI 0), .int (nI 0), .int (nI 0), .null, .int (nI 0), .int (nI 0), .int (nI 0), .int (nI 0), .null, .null, .null, .null, .null, .null, .null, .null, .null, .null, .null]))]) [12] (by decide) rfl
  have hKc2 : va_K (dC, dI) vwCl [] s := hK.sub [] rfl
  have hFc := va_free (wc := [(m0, .inr (1, [.int (nI 0), .int (nI 0), .int (nI 0), .int (nI 0), .int (nI 0), .int (nI 0), .int (nI 0), .null, .int (nI 0), .int (nI 0), .int (nI 0), .int (nI 0), .null, .null, .null, .null, .null, .null, .null, .null, .null, .null, .null]))]) hD hS hA [12] rfl
  refine va_callv (va_runI (As := []) (rest := [.ref m0]) ⟨hx, hb, hml, hown, hts⟩ (k_init l dC dI m0 H.size) (cwI 0 hts (sq_goodL (sq_c mcX1_init sq_id)) rfl rfl rfl (hts _ (sq_goodW mt_X1).1) (hts _ (sq_goodW mlL_50).1) (hts _ (sq_goodW miX1_init).1) rfl (by decide +kernel) ⟨Nat.le_of_ble_eq_true rfl, Nat.le_of_ble_eq_true rfl⟩) ⟨sq_blind, fun U hU hW => ⟨rfl, by rw [hU], by rw [hU]; exact hPc, va_K.moved hW.alike hKc2, hDc.weaken (fun _ _ _ _ => trivial)⟩⟩ rfl rfl hl.1 rfl (lv_room (Nat.le_of_ble_eq_true rfl)) dL_law_12 ⟨by show _ ≤ 1060; omega, by show _ ≤ 15759; omega⟩) hS (fun q _ h => hFc q h) hFc (fun u t H2 locs ht2 hvm2 hw2 hB2 hz2 hk2 hS => ?_)
  obtain ⟨qm, cI2, cZ2⟩ := u
  obtain ⟨hP3, hK3, hD3⟩ := hB2
  rw [ht2] at hP3
  have hK2 : va_K (dC, dI) vwCl [(cI2, .int), (cZ2, .boolean)] s := va_K.moved hvm2.symm hK3
  have e1 : cI2 = cI := Option.some.inj (Eq.trans (Eq.symm (show s.vm.findClass _ = some cI2 from (hK2.2 0 _ rfl).2)) (show s.vm.findClass _ = some cI from (hK.2 0 _ rfl).2))
  have e2 : cZ2 = cZ := Option.some.inj (Eq.trans (Eq.symm (show s.vm.findClass _ = some cZ2 from (hK2.2 1 _ rfl).2)) (show s.vm.findClass _ = some cZ from (hK.2 1 _ rfl).2))
  have hP3 : va_P (dC, dI) vwCl (wM m0 qm cI2 cZ2 ((sq_mclr sq_y0 1).1 0) ((sq_mclr sq_y0 1).1 1) ((sq_mclr sq_y0 1).1 2) ((sq_mclr sq_y0 1).1 3) ((sq_mclr sq_y0 1).1 4) ((sq_mclr sq_y0 1).1 5) ((sq_mclr sq_y0 1).1 6) ((sq_mclr sq_y0 1).1 7) ((sq_mclr sq_y0 1).1 8) ((sq_mclr sq_y0 1).1 9) ((sq_mclr sq_y0 1).1 10) ((sq_mclr sq_y0 1).1 11) ((sq_mclr sq_y0 1).2 0) ((sq_mclr sq_y0 1).2 1) ((sq_mclr sq_y0 1).2 2) ((sq_mclr sq_y0 1).2 3) ((sq_mclr sq_y0 1).2 4) ((sq_mclr sq_y0 1).2 5) ((sq_mclr sq_y0 1).2 6) ((sq_mclr sq_y0 1).2 7) ((sq_mclr sq_y0 1).2 8) ((sq_mclr sq_y0 1).2 9) ((sq_mclr sq_y0 1).2 10)) H2 := hP3
  rw [e1, e2] at hP3 hD3
  obtain ⟨hP, hD⟩ := va_join (wr := (wX h0 q cI cZ ((sq_clr sq_z0 1).1 0) ((sq_clr sq_z0 1).1 1) ((sq_clr sq_z0 1).1 2) ((sq_clr sq_z0 1).1 3) ((sq_clr sq_z0 1).1 4) ((sq_clr sq_z0 1).1 5) ((sq_clr sq_z0 1).1 6) ((sq_clr sq_z0 1).1 7) ((sq_clr sq_z0 1).1 8) ((sq_clr sq_z0 1).1 9) ((sq_clr sq_z0 1).1 10) ((sq_clr sq_z0 1).2 0) ((sq_clr sq_z0 1).2 1) ((sq_clr sq_z0 1).2 2) ((sq_clr sq_z0 1).2 3) ((sq_clr sq_z0 1).2 4) ((sq_clr sq_z0 1).2 5) ((sq_clr sq_z0 1).2 6) ((sq_clr sq_z0 1).2 7) ((sq_clr sq_z0 1).2 8))) (w1 := (wM m0 qm cI cZ ((sq_mclr sq_y0 1).1 0) ((sq_mclr sq_y0 1).1 1) ((sq_mclr sq_y0 1).1 2) ((sq_mclr sq_y0 1).1 3) ((sq_mclr sq_y0 1).1 4) ((sq_mclr sq_y0 1).1 5) ((sq_mclr sq_y0 1).1 6) ((sq_mclr sq_y0 1).1 7) ((sq_mclr sq_y0 1).1 8) ((sq_mclr sq_y0 1).1 9) ((sq_mclr sq_y0 1).1 10) ((sq_mclr sq_y0 1).1 11) ((sq_mclr sq_y0 1).2 0) ((sq_mclr sq_y0 1).2 1) ((sq_mclr sq_y0 1).2 2) ((sq_mclr sq_y0 1).2 3) ((sq_mclr sq_y0 1).2 4) ((sq_mclr sq_y0 1).2 5) ((sq_mclr sq_y0 1).2 6) ((sq_mclr sq_y0 1).2 7) ((sq_mclr sq_y0 1).2 8) ((sq_mclr sq_y0 1).2 9) ((sq_mclr sq_y0 1).2 10))) hP hD [12] [0, 1, 2, 3, 4, 5, 6, 7, 8, 9, 10, 11] rfl rfl (by decide) (by decide) hk2 hFc hP3 hD3
  generalize H2 = H at hP hS ⊢
  refine W.widen (k := 25) (n := 7506) (by omega) (by omega) ?_
  refine lv_astore_n (lv' := [(2, .ref m0), (1, .ref h0), (0, .ref b)]) hx hb dL_law_15 rfl hl (by decide) rfl (fun ls hl => ?_)
  refine lv_iconst (v := nI 1) hx hb dL_law_16 (by decide +kernel) ?_
  refine va_newa (atype := .long) (a0 := (1, .inr (.inl (fun _ => 0)))) (N' := 1) hx hb (hts _ (sq_goodW ma_long).1) rfl hK hP hD hS hA (fun _ => rfl) (nI_pos (by omega)) (nI_clamp (by omega)) (by show _ * 8 ≤ _; omega) (by show _ ≤ 1060; omega) (by show _ ≤ 15759; omega) dL_law_17 (fun o cL H hK hP hD hS => ?_)
  refine lv_astore_n (lv' := [(3, .ref o), (2, .ref m0), (1, .ref h0), (0, .ref b)]) hx hb dL_law_19 rfl hl (by decide) rfl (fun ls hl => ?_)
  refine lv_iconst (v := nI 0) hx hb dL_law_20 (by decide +kernel) ?_
  refine lv_istore (lv' := [(4, .int (nI 0)), (3, .ref o), (2, .ref m0), (1, .ref h0), (0, .ref b)]) hx hb dL_law_21 hl (by decide) rfl (fun ls hl => ?_)
  have hP : va_P (dC, dI) vwCl (wL h0 m0 o q qm cI cZ cL (sq_clr sq_z0 1) (sq_mclr sq_y0 1) (fun _ => 0)) H := hP
  have hD : va_D (fun q : Nat => s.heap.size ≤ q) (wL h0 m0 o q qm cI cZ cL (sq_clr sq_z0 1) (sq_mclr sq_y0 1) (fun _ => 0)) := hD
  have hK : va_K (dC, dI) vwCl [(cI, .int), (cZ, .boolean), (cL, .long)] s := hK
  refine W.widen (k := 26 + 0) (n := 7507 + 6 * 0) (by omega) (by omega) ?_
  exact law_loop hl9 hL C0 hZ hK L 0 (by omega) _ _ _ H locs ls (sq_Inv_clr ⟨by decide, by decide⟩ (fun _ => Or.inl rfl) (fun _ => Or.inl rfl) (fun _ => Or.inl rfl) (fun _ => Or.inl rfl) (fun _ => Or.inl rfl)) hP hD hS (lv_sub hl [0, 4, 3, 2, 1] rfl)
