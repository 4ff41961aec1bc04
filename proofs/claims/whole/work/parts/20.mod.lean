section SqMRows
variable {p : Program} {l : Launch} {e : Env} {R : Room} {s : State} {m : MethodId} {args : Array Value} {below : List Frame} {meth : Method} {c : Code} {H : Heap} {locs : List Loc} {cells slots : Nat} {Q : State → Prop} {cc : ByteArray} {pc : Nat} {ls : Array Slot} {rest : List Value}
theorem sq_imulc (hx : p.tables.exec = Jvm.exec) (hb : c.code = cc) {a b : Nat} (hd : decode cc pc = .ok (.imul, 1)) (k : W p l e R s m args below meth c H locs cells slots Q (F0 m (pc + 1) ls (.int (nI (b * a)) :: rest))) : W p l e R s m args below meth c H locs cells slots Q (F0 m pc ls (.int (nI b) :: .int (nI a) :: rest)) :=
  lv_imul hx hb hd (by rw [pk_mul, Nat.mul_comm]; exact k)
theorem sq_irem (hx : p.tables.exec = Jvm.exec) (hb : c.code = cc) {a b : Nat} (ha : a < 2 ^ 31) (h0 : 0 < b) (hbb : b < 2 ^ 31) (hd : decode cc pc = .ok (.irem, 1)) (k : W p l e R s m args below meth c H locs cells slots Q (F0 m (pc + 1) ls (.int (nI (a % b)) :: rest))) : W p l e R s m args below meth c H locs cells slots Q (F0 m pc ls (.int (nI b) :: .int (nI a) :: rest)) :=
  lv_irem hx hb hd (nI_ne0 h0 hbb) (by rw [pk_rem ha h0 hbb]; exact k)
variable {D : va_G} {cl : List vw_C} {ws w' : va_W} {tys : List (ClassId × FieldType)} {A : Nat → Prop}
variable {y : MethodName} {bytes : ByteArray} {maxL nL n index : Nat} {ret : Option FieldType} {wsy : List Cond} {rm : Room} {Ts : List Cond} {own : String} {As st0 : List Value}
theorem sq_if_ge (hx : p.tables.exec = Jvm.exec) (hb : c.code = cc) {a : Nat} {off : Int} {tgt : Nat} (ha : a < 2 ^ 31) (hd : decode cc pc = .ok (.ifCond .ge off, 3)) (ht : (pc : Int) + off = (tgt : Int))
    (kt : W p l e R s m args below meth c H locs cells slots Q (F0 m tgt ls rest)) : W p l e R s m args below meth c H locs cells slots Q (F0 m pc ls (.int (nI a) :: rest)) :=
  lv_if_ge hx hb hd ht (fun _ => kt) (fun h => absurd (nI_pos' ha) h)
theorem sq_if_gem1 (hx : p.tables.exec = Jvm.exec) (hb : c.code = cc) {off : Int} {tgt : Nat} (hd : decode cc pc = .ok (.ifCond .ge off, 3)) (ht : (pc : Int) + off = (tgt : Int))
    (kf : W p l e R s m args below meth c H locs cells slots Q (F0 m (pc + 3) ls rest)) : W p l e R s m args below meth c H locs cells slots Q (F0 m pc ls (.int (-1) :: rest)) :=
  lv_if_ge hx hb hd ht (fun h => absurd h (by decide)) (fun _ => kf)
theorem sq_callsi {r : Int32} (hM : sq_Mi l y wsy rm As D cl tys ws w' r) (S : CallFix p m c cc nL s args Ts own) (cw : CallB R s args own index y bytes maxL ret wsy rm 0 0 n ∧ (Cond.static y).before args s = true)
    (hK : va_K D cl tys s) (hP : va_P D cl ws H) (hD : va_D A ws) (hS : va_S A s.heap H locs) (hA : ∀ q : Nat, s.heap.size ≤ q → A q)
    (hn : As.length = n) (hsz : ls.size = nL) (hst : st0 = As.reverse ++ rest) (hW : (rest.map fun v => v.category).sum ≤ 8) (hdg : decode cc pc = .ok (.invokestatic index, 3)) (hf : cells ≤ R.cells ∧ slots ≤ R.slots)
    (kk : ∀ (H1 : Heap) (locs1 : List Loc), va_P D cl w' H1 → va_D A w' → va_S A s.heap H1 locs1 → W p l e R s m args below meth c H1 locs1 cells slots Q (F0 m (pc + 3) ls (.int r :: rest))) : W p l e R s m args below meth c H locs cells slots Q (F0 m pc ls st0) := by
  have hFc := va_free (wc := ws) hD hS hA (List.range ws.length) (sq_allC ws)
  refine va_calli (va_runS (As := As) (rest := rest) S (hM H.size) cw ⟨sq_blind, fun U hU hW => ⟨rfl, by rw [hU], by rw [hU]; exact hP, va_K.moved hW.alike hK, hD.weaken (fun _ _ _ _ => trivial)⟩⟩ rfl hn hsz hst (lv_room hW) hdg ⟨hf.1, hf.2⟩) hS (fun q _ h => hFc q h) hFc (fun r1 u t H1 locs ht hvm hw hB hz1 hk1 hS => ?_)
  obtain ⟨hP1, hK1, hD1⟩ := hB
  rw [ht] at hP1
  obtain ⟨hP2, hD2⟩ := va_join (wr := []) (w1 := w') hP hD (List.range ws.length) [] (sq_allC ws) rfl (by decide) (fun i h => by cases h) hk1 hFc hP1 hD1
  rw [hw]
  exact kk H1 locs hP2 hD2 hS
end SqMRows
/-- the cells of the reference -/
def wM (h0 : Nat) (q : Nat → Nat) (cI cZ : ClassId) (b0 b1 b2 b3 b4 b5 b6 b7 b8 b9 b10 b11 : Nat → Int32) (g0 g1 g2 g3 g4 g5 g6 g7 g8 g9 g10 : Nat) : va_W :=
  [(h0, .inr (1, [.int (nI g0), .int (nI g1), .int (nI g2), .int (nI g3), .int (nI g4), .int (nI g5), .int (nI g6), .ref (q 0), .int (nI g7), .int (nI g8), .int (nI g9), .int (nI g10), .ref (q 1), .ref (q 2), .ref (q 3), .ref (q 4), .ref (q 5), .ref (q 6), .ref (q 7), .ref (q 8), .ref (q 9), .ref (q 10), .ref (q 11)])), (q 0, .inl (cI, 720, .inl b0)), (q 1, .inl (cI, 1200, .inl b1)), (q 2, .inl (cZ, 200, .inl b2)), (q 3, .inl (cI, 200, .inl b3)), (q 4, .inl (cI, 1200, .inl b4)), (q 5, .inl (cI, 16, .inl b5)), (q 6, .inl (cI, 36, .inl b6)), (q 7, .inl (cI, 36, .inl b7)), (q 8, .inl (cI, 36, .inl b8)), (q 9, .inl (cI, 36, .inl b9)), (q 10, .inl (cZ, 36, .inl b10)), (q 11, .inl (cZ, 36, .inl b11))]
def sq_mm (b0 b1 b2 b3 b4 b5 b6 b7 b8 b9 b10 b11 : Nat → Int32) (g0 g1 g2 g3 g4 g5 g6 g7 g8 g9 g10 : Nat) : SqS := (fun k => match k with
  | 0 => b0
  | 1 => b1
  | 2 => b2
  | 3 => b3
  | 4 => b4
  | 5 => b5
  | 6 => b6
  | 7 => b7
  | 8 => b8
  | 9 => b9
  | 10 => b10
  | _ => b11, fun k => match k with
  | 0 => g0
  | 1 => g1
  | 2 => g2
  | 3 => g3
  | 4 => g4
  | 5 => g5
  | 6 => g6
  | 7 => g7
  | 8 => g8
  | 9 => g9
  | _ => g10)
def sq_rf (p t : Bool) : Nat := if p = true then 1 else if t = true then 2 else 0
theorem sq_rf_le (p t : Bool) : sq_rf p t ≤ 2 := by cases p <;> cases t <;> decide
def sq_mt (ms : SqS) (k : Nat) : SqS := sq_mm (ms.1 0) (ms.1 1) (ms.1 2) (ms.1 3) (ms.1 4) (ms.1 5) (ms.1 6) (ms.1 7) (ms.1 8) (ms.1 9) (ms.1 10) (ms.1 11) (k) (ms.2 1) (ms.2 2) (ms.2 3) (ms.2 4) (ms.2 5) (ms.2 6) (ms.2 7) (ms.2 8) (ms.2 9) (ms.2 10)
def sq_mclr (ms : SqS) (n : Nat) : SqS := sq_mm (ms.1 0) (ms.1 1) (ms.1 2) (ms.1 3) (ms.1 4) (sq_G (sq_dR 16) (fun _ => -1) (ms.1 5)) (sq_G (sq_dR 36) (fun _ => nI 0) (ms.1 6)) (sq_G (sq_dR 36) (fun _ => nI 0) (ms.1 7)) (sq_G (sq_dR 36) (fun _ => nI 0) (ms.1 8)) (sq_G (sq_dR 36) (fun _ => nI 0) (ms.1 9)) (sq_G (sq_dR 36) (fun _ => nI 0) (ms.1 10)) (sq_G (sq_dR 36) (fun _ => nI 0) (ms.1 11)) (ms.2 0) (n) (0) (0) (0) (0) (0) (0) (0) (0) (ms.2 10)
def sq_mw (ms : SqS) (x1 x2 x3 x4 x5 x6 : Int32) : SqS := sq_mm (sq_p6 (ms.1 0) (ms.2 3 * 6) x1 x2 x3 x4 x5 x6) (ms.1 1) (ms.1 2) (ms.1 3) (ms.1 4) (ms.1 5) (ms.1 6) (ms.1 7) (ms.1 8) (ms.1 9) (ms.1 10) (ms.1 11) (ms.2 0) (ms.2 1) (ms.2 2) (ms.2 3 + 1) (ms.2 4) (ms.2 5) (ms.2 6) (ms.2 7) (ms.2 8) (ms.2 9) (ms.2 10)
def sq_mv (ms : SqS) (b x1 x2 x3 x4 x5 x6 : Int32) : SqS := sq_mm (ms.1 0) (sq_p6 (ms.1 1) (ms.2 7 * 6) x1 x2 x3 x4 x5 x6) (upd (ms.1 2) (ms.2 7) b) (upd (ms.1 3) (ms.2 7) (-1)) (ms.1 4) (ms.1 5) (ms.1 6) (ms.1 7) (ms.1 8) (ms.1 9) (ms.1 10) (ms.1 11) (ms.2 0) (ms.2 1) (ms.2 2) (ms.2 3) (ms.2 4) (ms.2 5) (ms.2 6) (ms.2 7 + 1) (ms.2 8) (ms.2 9) (ms.2 10)
def sq_m1 (ms : SqS) : SqS := sq_mm (ms.1 0) (ms.1 1) (ms.1 2) (ms.1 3) (ms.1 4) (ms.1 5) (ms.1 6) (ms.1 7) (ms.1 8) (ms.1 9) (ms.1 10) (ms.1 11) (ms.2 0) (ms.2 1) (ms.2 2 + 1) (ms.2 3) (ms.2 4) (ms.2 5) (ms.2 6) (ms.2 7) (ms.2 8) (ms.2 9) (ms.2 10)
def sq_mcV (ms : SqS) : Bool := decide ((ms.2 8) < (ms.2 7) ∧ ((ms.1 2) (ms.2 8) = 0 ∨ ¬ (ms.2 6) = 0))
def sq_me (ms : SqS) : SqS := if sq_mcV ms = true then sq_mm (ms.1 0) (ms.1 1) (ms.1 2) (upd (ms.1 3) (ms.2 8) (nI (ms.2 2))) (ms.1 4) (upd (upd (ms.1 5) ((ms.2 2) % 16) (-1)) ((ms.2 2) % 16) (nI (ms.2 8))) (ms.1 6) (ms.1 7) (ms.1 8) (ms.1 9) (ms.1 10) (ms.1 11) (ms.2 0) (ms.2 1) (ms.2 2) (ms.2 3) (ms.2 4) (ms.2 5) (if (ms.1 2) (ms.2 8) = 0 then (ms.2 6) else 0) (ms.2 7) ((ms.2 8) + 1) (if (ms.1 2) (ms.2 8) = 0 then (ms.2 9) else (ms.2 9) + 1) (if (ms.1 2) (ms.2 8) = 0 then (ms.2 10) else (ms.2 2)) else sq_mm (ms.1 0) (ms.1 1) (ms.1 2) (ms.1 3) (ms.1 4) (upd (ms.1 5) ((ms.2 2) % 16) (-1)) (ms.1 6) (ms.1 7) (ms.1 8) (ms.1 9) (ms.1 10) (ms.1 11) (ms.2 0) (ms.2 1) (ms.2 2) (ms.2 3) (ms.2 4) (ms.2 5) (ms.2 6) (ms.2 7) (ms.2 8) (ms.2 9) (ms.2 10)
def sq_mcR (ms : SqS) : Bool := decide ((ms.2 4) < (ms.2 3) ∧ (ms.2 6) = 0 ∧ ((ms.2 9) = 0 ∨ 2 * (ms.2 1) - 2 < (ms.2 2) - (ms.2 10)))
def sq_ml (ms : SqS) : SqS := if sq_mcR ms = true then sq_mm (ms.1 0) (ms.1 1) (ms.1 2) (ms.1 3) (ms.1 4) (ms.1 5) (ms.1 6) (ms.1 7) (ms.1 8) (sq_G (sq_dR (ms.2 1)) (fun j => (ms.1 0) ((ms.2 4) * 6 + j)) (sq_G (sq_dL (ms.2 1) 0 0) (sq_dn6 (ms.1 9)) (ms.1 9))) (ms.1 10) (ms.1 11) (ms.2 0) (ms.2 1) (ms.2 2) (ms.2 3) ((ms.2 4) + 1) (if (ms.2 5) + 1 = (ms.2 1) then 0 else (ms.2 5) + 1) (if (ms.2 5) + 1 = (ms.2 1) then 1 else (ms.2 6)) (ms.2 7) (ms.2 8) (ms.2 9) (ms.2 10) else ms
/-- the vector that entered so many cycles ago, in the reference -/
def sq_mago (t : Nat) (rec : Nat → Int32) : Nat → Int32 := fun k => if k < t then rec ((t - k) % 16) else -1
def sq_mreal (ago : Nat → Int32) : Nat → Int32 := fun r => if ago r = -1 then 0 else 1
/-- the reference's order through the cells -/
def sq_dH (n r c : Nat) : Nat → Bool := fun j => decide (j / 6 < n ∧ j % 6 < n ∧ (j / 6 < r ∨ (j / 6 = r ∧ c ≤ j % 6)))
theorem sq_dH_step (n r c : Nat) (hn : n ≤ 6) (hr : r < n) (hc : c < n) : ∀ j, sq_dH n r c j = true ↔ (sq_dH n r (c + 1) j = true ∨ j = r * 6 + c) := by
  intro j; simp only [sq_dH, decide_eq_true_eq]; omega
theorem sq_dH_row (n r : Nat) : ∀ j, sq_dH n (r + 1) n j = true ↔ sq_dH n r 0 j = true := by
  intro j; simp only [sq_dH, decide_eq_true_eq]; omega
theorem sq_dH_top (n : Nat) : ∀ j, ¬ sq_dH n 0 n j = true := by
  intro j; simp only [sq_dH, decide_eq_true_eq]; omega
theorem sq_dH_left (n r c : Nat) (hc : 0 < c) (h6 : c < 6) : ¬ sq_dH n r (c + 1) (r * 6 + c - 1) = true := by
  simp only [sq_dH, decide_eq_true_eq]; omega
theorem sq_dH_all (n : Nat) : ∀ j, sq_dL n 0 n j = true ↔ sq_dH n n n j = true := by
  intro j; simp only [sq_dH, sq_dL, decide_eq_true_eq]; omega
theorem sq_dL_none (n : Nat) : ∀ j, ¬ sq_dL n n n j = true := by
  intro j; simp only [sq_dL, decide_eq_true_eq]; omega
theorem sq_dL_end (n : Nat) : ∀ j, ¬ sq_dL n n 0 j = true := by
  intro j; simp only [sq_dL, decide_eq_true_eq]; omega
theorem sq_dL_at (n r c : Nat) (h6 : c < 6) : ¬ sq_dL n r c (r * 6 + c) = true := by
  simp only [sq_dL, decide_eq_true_eq]; omega
theorem sq_dL_up (n r c : Nat) (hr : 0 < r) (h6 : c < 6) : ¬ sq_dL n r c (r * 6 + c - 6) = true := by
  simp only [sq_dL, decide_eq_true_eq]; omega
theorem sq_dH_in {n r c : Nat} (hn : n ≤ 6) (hr : r < n) (hc : c < n) : sq_dH n n n (r * 6 + c) = true := by
  simp only [sq_dH, decide_eq_true_eq]; omega
def sq_mg (ms : SqS) : SqS := sq_mm (ms.1 0) (ms.1 1) (ms.1 2) (ms.1 3) (sq_keep (ms.2 1) (sq_mago (ms.2 2) (ms.1 5)) (sq_G (sq_dH (ms.2 1) (ms.2 1) (ms.2 1)) (sq_gS (sq_mago (ms.2 2) (ms.1 5)) (ms.1 1) (ms.1 2) (ms.1 6) (ms.1 10) (ms.1 8) (ms.1 9) (ms.1 7)) (ms.1 7)) (ms.1 4) (ms.2 1)) (ms.1 5) (sq_G (sq_dH (ms.2 1) (ms.2 1) (ms.2 1)) (sq_gI (sq_mago (ms.2 2) (ms.1 5)) (ms.1 1) (ms.1 6)) (ms.1 6)) (sq_G (sq_dH (ms.2 1) (ms.2 1) (ms.2 1)) (sq_gS (sq_mago (ms.2 2) (ms.1 5)) (ms.1 1) (ms.1 2) (ms.1 6) (ms.1 10) (ms.1 8) (ms.1 9) (ms.1 7)) (ms.1 7)) (sq_G (sq_dH (ms.2 1) (ms.2 1) (ms.2 1)) (sq_gF (sq_mago (ms.2 2) (ms.1 5)) (ms.1 2) (ms.1 10) (ms.1 8) (ms.1 9)) (ms.1 8)) (ms.1 9) (sq_G (sq_dH (ms.2 1) (ms.2 1) (ms.2 1)) (sq_gM (sq_mago (ms.2 2) (ms.1 5)) (ms.1 2) (ms.1 10)) (ms.1 10)) (sq_G (sq_dH (ms.2 1) (ms.2 1) (ms.2 1)) (sq_nIn (ms.1 11) (sq_mreal (sq_mago (ms.2 2) (ms.1 5)))) (ms.1 11)) (ms.2 0) (ms.2 1) (ms.2 2) (ms.2 3) (ms.2 4) (ms.2 5) (ms.2 6) (ms.2 7) (ms.2 8) (ms.2 9) (ms.2 10)
def sq_mrun (ms : SqS) : SqS := sq_mg (sq_ml (sq_me (sq_m1 ms)))
def sq_mloop : Nat → SqS → SqS
  | 0, ms => ms
  | n + 1, ms => sq_mloop n (sq_mrun ms)
/-- what the reference's numbers keep to -/
def sq_mok (ms : SqS) : Prop := (1 ≤ ms.2 1 ∧ ms.2 1 ≤ 6) ∧ ms.2 2 ≤ 100000 ∧ (ms.2 3 ≤ 120 ∧ ms.2 4 ≤ ms.2 3) ∧ (ms.2 5 < ms.2 1 ∧ ms.2 6 ≤ 1) ∧ (ms.2 7 ≤ 200 ∧ ms.2 8 ≤ ms.2 7 ∧ ms.2 9 ≤ ms.2 8) ∧ (¬ ms.2 9 = 0 → ms.2 10 ≤ ms.2 2) ∧ (∀ i, i < 16 → ms.1 5 i = -1 ∨ ∃ v : Nat, v < ms.2 8 ∧ ms.1 5 i = nI v) ∧ sq_01 (ms.1 2) ∧ sq_01 (ms.1 10) ∧ sq_01 (ms.1 11) ∧ (∀ v, v < ms.2 7 → ms.1 3 v = -1 ∨ ∃ e : Nat, e ≤ ms.2 2 ∧ ms.1 3 v = nI e)
