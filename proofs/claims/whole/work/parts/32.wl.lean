section SqSub
variable {p : Program} {l : Launch} {e : Env} {R : Room} {s : State} {m : MethodId} {args : Array Value} {below : List Frame} {meth : Method} {c : Code} {H : Heap} {locs : List Loc} {cells slots : Nat} {Q : State → Prop} {cc : ByteArray} {pc : Nat} {ls : Array Slot} {rest : List Value}
variable {D : va_G} {cl : List vw_C} {ws w' wr W0 : va_W} {tys : List (ClassId × FieldType)} {A : Nat → Prop}
variable {y : MethodName} {bytes : ByteArray} {maxL nL n index ci h0 : Nat} {ret : Option FieldType} {wsy : List Cond} {rm : Room} {Ts : List Cond} {own C : String} {As st0 : List Value} {fs : List Value} {q : vw_C}
variable {cC : List (String × String)} {cD : List MethodName} {zown : String} {cS : List (Nat × String)} {cN : List (String × String)} {S : Nat → Nat} {k : Nat} {En : Nat → String} {r : Int32}
/-- calls on some of the cells -/
theorem sq_callvS (hM : sq_Mv l y wsy rm (.ref h0 :: As) D cl tys ws w') (F : CallFix p m c cc nL s args Ts own) (cw : CallW R s args own C index y bytes maxL ret wsy rm 0 0 n)
    (hK : va_K D cl tys s) (hP : va_P D cl W0 H) (hD : va_D A W0) (hS : va_S A s.heap H locs) (hA : ∀ q : Nat, s.heap.size ≤ q → A q)
    (isC isR : List Nat) (hC : isC.map (fun i => W0[i]?) = ws.map some) (hC2 : isC.filterMap (fun i => W0[i]?) = ws) (hR : isR.map (fun i => W0[i]?) = wr.map some) (hnC : va_nd isC = true) (hnR : va_nd isR = true) (hdis : ∀ i ∈ isR, i ∉ isC)
    (he : ws[0]? = some (h0, .inr (ci, fs))) (hc : cl[ci]? = some q) (hCn : q.1 = C)
    (hn : As.length = n) (hsz : ls.size = nL) (hst : st0 = As.reverse ++ .ref h0 :: rest) (hW : (rest.map fun v => v.category).sum ≤ 8) (hdg : decode cc pc = .ok (.invokevirtual index, 3)) (hf : cells ≤ R.cells ∧ slots ≤ R.slots)
    (kk : ∀ (H1 : Heap) (locs1 : List Loc), va_P D cl (wr ++ w') H1 → va_D A (wr ++ w') → va_S A s.heap H1 locs1 → W p l e R s m args below meth c H1 locs1 cells slots Q (F0 m (pc + 3) ls rest)) : W p l e R s m args below meth c H locs cells slots Q (F0 m pc ls st0) := by
  have hPc := hP.sub (ws' := ws) isC hC2
  have hDc := hD.sub (ws' := ws) isC hnC hC
  have hFc := va_free (wc := ws) hD hS hA isC hC
  refine va_callv (va_runV (As := As) (rest := rest) F (hM H.size) cw ⟨sq_blind, by rw [← hCn]; exact va_recv hK hPc hc he, fun U hU hW => ⟨rfl, by rw [hU], by rw [hU]; exact hPc, va_K.moved hW.alike hK, hDc.weaken (fun _ _ _ _ => trivial)⟩⟩ rfl hn hsz hst (lv_room hW) hdg ⟨hf.1, hf.2⟩) hS (fun q _ h => hFc q h) hFc (fun u t H1 locs ht hvm hw hB hz1 hk1 hS => ?_)
  obtain ⟨hP1, hK1, hD1⟩ := hB
  rw [ht] at hP1
  obtain ⟨hP2, hD2⟩ := va_join (wr := wr) (w1 := w') hP hD isC isR hC hR hnR hdis hk1 hFc hP1 hD1
  exact kk H1 locs hP2 hD2 hS
theorem sq_calliS (hM : sq_Mi l y wsy rm (.ref h0 :: As) D cl tys ws w' r) (F : CallFix p m c cc nL s args Ts own) (cw : CallW R s args own C index y bytes maxL ret wsy rm 0 0 n)
    (hK : va_K D cl tys s) (hP : va_P D cl W0 H) (hD : va_D A W0) (hS : va_S A s.heap H locs) (hA : ∀ q : Nat, s.heap.size ≤ q → A q)
    (isC isR : List Nat) (hC : isC.map (fun i => W0[i]?) = ws.map some) (hC2 : isC.filterMap (fun i => W0[i]?) = ws) (hR : isR.map (fun i => W0[i]?) = wr.map some) (hnC : va_nd isC = true) (hnR : va_nd isR = true) (hdis : ∀ i ∈ isR, i ∉ isC)
    (he : ws[0]? = some (h0, .inr (ci, fs))) (hc : cl[ci]? = some q) (hCn : q.1 = C)
    (hn : As.length = n) (hsz : ls.size = nL) (hst : st0 = As.reverse ++ .ref h0 :: rest) (hW : (rest.map fun v => v.category).sum ≤ 8) (hdg : decode cc pc = .ok (.invokevirtual index, 3)) (hf : cells ≤ R.cells ∧ slots ≤ R.slots)
    (kk : ∀ (H1 : Heap) (locs1 : List Loc), va_P D cl (wr ++ w') H1 → va_D A (wr ++ w') → va_S A s.heap H1 locs1 → W p l e R s m args below meth c H1 locs1 cells slots Q (F0 m (pc + 3) ls (.int r :: rest))) : W p l e R s m args below meth c H locs cells slots Q (F0 m pc ls st0) := by
  have hPc := hP.sub (ws' := ws) isC hC2
  have hDc := hD.sub (ws' := ws) isC hnC hC
  have hFc := va_free (wc := ws) hD hS hA isC hC
  refine va_calli (va_runV (As := As) (rest := rest) F (hM H.size) cw ⟨sq_blind, by rw [← hCn]; exact va_recv hK hPc hc he, fun U hU hW => ⟨rfl, by rw [hU], by rw [hU]; exact hPc, va_K.moved hW.alike hK, hDc.weaken (fun _ _ _ _ => trivial)⟩⟩ rfl hn hsz hst (lv_room hW) hdg ⟨hf.1, hf.2⟩) hS (fun q _ h => hFc q h) hFc (fun r1 u t H1 locs ht hvm hw hB hz1 hk1 hS => ?_)
  obtain ⟨hP1, hK1, hD1⟩ := hB
  rw [ht] at hP1
  obtain ⟨hP2, hD2⟩ := va_join (wr := wr) (w1 := w') hP hD isC isR hC hR hnR hdis hk1 hFc hP1 hD1
  rw [hw]
  exact kk H1 locs hP2 hD2 hS
/-- calls that may throw -/
theorem sq_callXi (hM : sq_Xi cC cD zown cS cN S l y wsy rm (.ref h0 :: As) D cl tys ws w' k En r) (F : CallFix p m c cc nL s args Ts own) (cw : CallW R s args own C index y bytes maxL ret wsy rm 1 6 n)
    (hK : va_K D cl tys s) (hP : va_P D cl W0 H) (hD : va_D A W0) (hS : va_S A s.heap H locs) (hA : ∀ q : Nat, s.heap.size ≤ q → A q) (hZ : sq_Z cC cD zown cS cN S A s s.heap)
    (isC isR : List Nat) (hC : isC.map (fun i => W0[i]?) = ws.map some) (hC2 : isC.filterMap (fun i => W0[i]?) = ws) (hR : isR.map (fun i => W0[i]?) = wr.map some) (hnC : va_nd isC = true) (hnR : va_nd isR = true) (hdis : ∀ i ∈ isR, i ∉ isC)
    (he : ws[0]? = some (h0, .inr (ci, fs))) (hc : cl[ci]? = some q) (hCn : q.1 = C)
    (hn : As.length = n) (hsz : ls.size = nL) (hst : st0 = As.reverse ++ .ref h0 :: rest) (hW : (rest.map fun v => v.category).sum ≤ 8) (hdg : decode cc pc = .ok (.invokevirtual index, 3)) (hf : cells + 1 ≤ R.cells ∧ slots + 6 ≤ R.slots)
    (kx : ∀ (ce : Cell) (q9 : Addr) (H1 : Heap) (locs1 : List Loc), ¬ k = 0 → va_P D cl (wr ++ ws) H1 → va_D A (wr ++ ws) → va_S A s.heap H1 locs1 → H1[q9]? = some ce → ce.vm = .none → s.vm.findClass (En k) = some ce.cls → vx_W p l e R s m args below meth c H1 locs1 (cells + 1) (slots + 6) Q (F0 m pc ls rest) q9)
    (kk : ∀ (H1 : Heap) (locs1 : List Loc), k = 0 → va_P D cl (wr ++ w') H1 → va_D A (wr ++ w') → va_S A s.heap H1 locs1 → W p l e R s m args below meth c H1 locs1 (cells + 1) (slots + 6) Q (F0 m (pc + 3) ls (.int r :: rest))) : W p l e R s m args below meth c H locs cells slots Q (F0 m pc ls st0) := by
  have hPc := hP.sub (ws' := ws) isC hC2
  have hDc := hD.sub (ws' := ws) isC hnC hC
  have hFc := va_free (wc := ws) hD hS hA isC hC
  refine vx_calli (vx_runV (As := As) (rest := rest) F (hM H.size) cw ⟨sq_blindZ, by rw [← hCn]; exact va_recv hK hPc hc he, fun U hU hW => ⟨rfl, ⟨by rw [hU], by rw [hU]; exact hPc, va_K.moved hW.alike hK, hDc.weaken (fun _ _ _ _ => trivial)⟩, hZ.go hS hU hW hFc⟩⟩ rfl hn hsz hst (lv_room hW) hdg hf) hS (fun q _ h => hFc q h) hFc (fun q _ h => hFc q h) (fun E ce q9 u t H1 locs ht hvm hw hB hz1 hk1 hS hce hcv hcl => ?_) (fun r1 u t H1 locs ht hvm hw hB hz1 hk1 hS => ?_)
  · obtain ⟨rfl, hP1, hK1, hD1⟩ := hB
    rw [ht] at hP1
    obtain ⟨hP2, hD2⟩ := va_join (wr := wr) (w1 := ws) hP hD isC isR hC hR hnR hdis hk1 hFc hP1 hD1
    exact kx ce q9 H1 locs hw hP2 hD2 hS hce hcv hcl
  · obtain ⟨hP1, hK1, hD1⟩ := hB
    rw [ht] at hP1
    obtain ⟨hP2, hD2⟩ := va_join (wr := wr) (w1 := w') hP hD isC isR hC hR hnR hdis hk1 hFc hP1 hD1
    rw [hw.2]
    exact kk H1 locs hw.1 hP2 hD2 hS
theorem sq_callXv (hM : sq_Xv cC cD zown cS cN S l y wsy rm (.ref h0 :: As) D cl tys ws w' k En) (F : CallFix p m c cc nL s args Ts own) (cw : CallW R s args own C index y bytes maxL ret wsy rm 1 6 n)
    (hK : va_K D cl tys s) (hP : va_P D cl W0 H) (hD : va_D A W0) (hS : va_S A s.heap H locs) (hA : ∀ q : Nat, s.heap.size ≤ q → A q) (hZ : sq_Z cC cD zown cS cN S A s s.heap)
    (isC isR : List Nat) (hC : isC.map (fun i => W0[i]?) = ws.map some) (hC2 : isC.filterMap (fun i => W0[i]?) = ws) (hR : isR.map (fun i => W0[i]?) = wr.map some) (hnC : va_nd isC = true) (hnR : va_nd isR = true) (hdis : ∀ i ∈ isR, i ∉ isC)
    (he : ws[0]? = some (h0, .inr (ci, fs))) (hc : cl[ci]? = some q) (hCn : q.1 = C)
    (hn : As.length = n) (hsz : ls.size = nL) (hst : st0 = As.reverse ++ .ref h0 :: rest) (hW : (rest.map fun v => v.category).sum ≤ 8) (hdg : decode cc pc = .ok (.invokevirtual index, 3)) (hf : cells + 1 ≤ R.cells ∧ slots + 6 ≤ R.slots)
    (kx : ∀ (ce : Cell) (q9 : Addr) (H1 : Heap) (locs1 : List Loc), ¬ k = 0 → va_P D cl (wr ++ ws) H1 → va_D A (wr ++ ws) → va_S A s.heap H1 locs1 → H1[q9]? = some ce → ce.vm = .none → s.vm.findClass (En k) = some ce.cls → vx_W p l e R s m args below meth c H1 locs1 (cells + 1) (slots + 6) Q (F0 m pc ls rest) q9)
    (kk : ∀ (H1 : Heap) (locs1 : List Loc), k = 0 → va_P D cl (wr ++ w') H1 → va_D A (wr ++ w') → va_S A s.heap H1 locs1 → W p l e R s m args below meth c H1 locs1 (cells + 1) (slots + 6) Q (F0 m (pc + 3) ls rest)) : W p l e R s m args below meth c H locs cells slots Q (F0 m pc ls st0) := by
  have hPc := hP.sub (ws' := ws) isC hC2
  have hDc := hD.sub (ws' := ws) isC hnC hC
  have hFc := va_free (wc := ws) hD hS hA isC hC
  refine vx_callv (vx_runV (As := As) (rest := rest) F (hM H.size) cw ⟨sq_blindZ, by rw [← hCn]; exact va_recv hK hPc hc he, fun U hU hW => ⟨rfl, ⟨by rw [hU], by rw [hU]; exact hPc, va_K.moved hW.alike hK, hDc.weaken (fun _ _ _ _ => trivial)⟩, hZ.go hS hU hW hFc⟩⟩ rfl hn hsz hst (lv_room hW) hdg hf) hS (fun q _ h => hFc q h) hFc (fun q _ h => hFc q h) (fun E ce q9 u t H1 locs ht hvm hw hB hz1 hk1 hS hce hcv hcl => ?_) (fun u t H1 locs ht hvm hw hB hz1 hk1 hS => ?_)
  · obtain ⟨rfl, hP1, hK1, hD1⟩ := hB
    rw [ht] at hP1
    obtain ⟨hP2, hD2⟩ := va_join (wr := wr) (w1 := ws) hP hD isC isR hC hR hnR hdis hk1 hFc hP1 hD1
    exact kx ce q9 H1 locs hw hP2 hD2 hS hce hcv hcl
  · obtain ⟨hP1, hK1, hD1⟩ := hB
    rw [ht] at hP1
    obtain ⟨hP2, hD2⟩ := va_join (wr := wr) (w1 := w') hP hD isC isR hC hR hnR hdis hk1 hFc hP1 hD1
    exact kk H1 locs hw hP2 hD2 hS
/-- the law's own methods: a call that catches -/
def sq_Wi (cC : List (String × String)) (cD : List MethodName) (own : String) (cS : List (Nat × String)) (cN : List (String × String)) (S : Nat → Nat) (l : Launch) (y : MethodName) (wsy : List Cond) (rm : Room) (av : List Value) (D : va_G) (cl : List vw_C) (tys : List (ClassId × FieldType)) (ws w' : va_W) (r : Int32) : Prop :=
  ∀ sz : Nat, Met l y wsy rm (va_Pc av (sq_UZ cC cD own cS cN S D cl ws tys sz)) (va_Qi (fun x (_ : Unit) => x = r) (fun _ => sq_B D cl w' tys (va_A ws sz)) (va_A ws sz)) 1 6 (va_A ws sz)
theorem sq_ofWW {y : MethodName} {wsy wsy' : List Cond} {rm : Room} {av : List Value} {hh : List (Nat × Nat × Nat × Nat)} {cc : ByteArray} {maxL : Nat} (hy : plainName y.cls = true) (hw : wsy = Cond.codeWith y cc maxL (some .int) hh :: wsy') (hlen : (lg_sl av).length ≤ maxL)
    (body : ∀ (p : Program) (e : Env) (s : State) (m : MethodId) (args : Array Value) (below : List Frame) (meth : Method) (c : Code) (A : Nat → Prop) (ls : Array Slot) (Q : State → Prop), p.tables.exec = Jvm.exec → c.code = cc → (∀ w ∈ wsy, w.before args s = true) → s.vm.findClass y.cls = some m.cls → c.maxLocals = maxL → va_K D cl tys s → va_P D cl ws s.heap → va_D A ws → va_S A s.heap s.heap [] → (∀ q : Nat, s.heap.size ≤ q → A q) → lv_has ls maxL (lv_args 0 av) →
      sq_Z cC cD zown cS cN S A s s.heap → c.exceptionTable.toList = tableOf hh →
      (∀ (H : Heap) (locs : List Loc) (ls : Array Slot) (pc : Nat) (x : Int32), x = r → va_P D cl w' H → va_D A w' → va_S A s.heap H locs → decode cc pc = .ok (.ireturn, 1) → W p l e rm s m args below meth c H locs 1 6 Q (F0 m pc ls [.int x])) →
      W p l e rm s m args below meth c s.heap [] 0 0 Q (F0 m 0 ls [])) : sq_Wi cC cD zown cS cN S l y wsy rm av D cl tys ws w' r := by
  intro sz
  refine va_MetW (cc := cc) (maxL := maxL) (ret := some .int) (hh := hh) hy hw ?_
  intro p e s m args below meth c s₁ B hml hv
  obtain ⟨rfl, ⟨hsz, hP, hK, hD0⟩, hZ⟩ := hv
  subst hsz
  have hD := hD0.self (sz := s.heap.size)
  have hA : ∀ q : Nat, s.heap.size ≤ q → va_A ws s.heap.size q := fun q h => Or.inr h
  have hl := lv_entry av (n := maxL) hlen
  have hts := atoms_spec (ws := wsy) B.pre
  have hTab : c.exceptionTable.toList = tableOf hh := vx_table (x := y) B (hts _ (by rw [hw]; exact List.mem_cons_self))
  rw [lg_entry_eq]
  refine body p e s m _ below meth c _ _ _ B.exec B.bytes hts (findClass_of_methodNamed B.named) hml hK hP hD va_S.rf hA hl hZ hTab (fun H locs ls pc x hx hP hD hS hd => ?_)
  exact W.iret B.exec B.bytes B.returns (fun t ht hW => ⟨⟨x, (), rfl, hx, by rw [ht]; exact hP, va_K.moved hW.alike hK, hD⟩, hS.F ht⟩) hS.2.2 hd B.notSynchronized
theorem sq_callW {hh : List (Nat × Nat × Nat × Nat)} {ret : Option FieldType} (hM : sq_Wi cC cD zown cS cN S l y wsy rm As D cl tys ws w' r) (F : CallFix p m c cc nL s args Ts own) (cw : vx_CSW R s args own index y bytes maxL ret hh wsy rm 1 6 n)
    (hK : va_K D cl tys s) (hP : va_P D cl W0 H) (hD : va_D A W0) (hS : va_S A s.heap H locs) (hA : ∀ q : Nat, s.heap.size ≤ q → A q) (hZ : sq_Z cC cD zown cS cN S A s s.heap)
    (isC isR : List Nat) (hC : isC.map (fun i => W0[i]?) = ws.map some) (hC2 : isC.filterMap (fun i => W0[i]?) = ws) (hR : isR.map (fun i => W0[i]?) = wr.map some) (hnC : va_nd isC = true) (hnR : va_nd isR = true) (hdis : ∀ i ∈ isR, i ∉ isC)
    (hn : As.length = n) (hsz : ls.size = nL) (hst : st0 = As.reverse ++ rest) (hW : (rest.map fun v => v.category).sum ≤ 8) (hdg : decode cc pc = .ok (.invokestatic index, 3)) (hf : cells + 1 ≤ R.cells ∧ slots + 6 ≤ R.slots)
    (kk : ∀ (H1 : Heap) (locs1 : List Loc), va_P D cl (wr ++ w') H1 → va_D A (wr ++ w') → va_S A s.heap H1 locs1 → W p l e R s m args below meth c H1 locs1 (cells + 1) (slots + 6) Q (F0 m (pc + 3) ls (.int r :: rest))) : W p l e R s m args below meth c H locs cells slots Q (F0 m pc ls st0) := by
  have hPc := hP.sub (ws' := ws) isC hC2
  have hDc := hD.sub (ws' := ws) isC hnC hC
  have hFc := va_free (wc := ws) hD hS hA isC hC
  refine va_calli (vx_runSW (As := As) (rest := rest) F (hM H.size) cw ⟨sq_blindZ, fun U hU hW => ⟨rfl, ⟨by rw [hU], by rw [hU]; exact hPc, va_K.moved hW.alike hK, hDc.weaken (fun _ _ _ _ => trivial)⟩, hZ.go hS hU hW hFc⟩⟩ rfl hn hsz hst (lv_room hW) hdg hf) hS (fun q _ h => hFc q h) hFc (fun r1 u t H1 locs ht hvm hw hB hz1 hk1 hS => ?_)
  obtain ⟨hP1, hK1, hD1⟩ := hB
  rw [ht] at hP1
  obtain ⟨hP2, hD2⟩ := va_join (wr := wr) (w1 := w') hP hD isC isR hC hR hnR hdis hk1 hFc hP1 hD1
  rw [hw]
  exact kk H1 locs hP2 hD2 hS
end SqSub
def sq_o (k : Nat) (g : Nat → Int64) (r : Int32) : Nat → Int64 := if k = 0 then vp_updL g 0 r.toInt64 else g
theorem sq_kL_12 {st : SqS} {x y w : Int32} (h : ¬ sq_kL st x y w = 0) : sq_kL st x y w = 1 ∨ sq_kL st x y w = 2 := by
  unfold sq_kL at h ⊢
  by_cases a : ¬ (sq_in (st.2 0) x ∧ sq_in (st.2 0) y)
  · rw [if_pos a]; exact Or.inl rfl
  · rw [if_neg a] at h ⊢
    by_cases b : w < 0 ∨ nI 4 < w
    · rw [if_pos b]; exact Or.inr rfl
    · rw [if_neg b] at h; exact absurd rfl h
theorem sq_kR_12 {st : SqS} {v w : Int32} (h : ¬ sq_kR st v w = 0) : sq_kR st v w = 1 ∨ sq_kR st v w = 2 := by
  unfold sq_kR at h ⊢
  by_cases a : ¬ (sq_in (st.2 5) v ∧ sq_in (st.2 0) w)
  · rw [if_pos a]; exact Or.inl rfl
  · rw [if_neg a] at h ⊢
    by_cases b : sq_vec v < st.2 6 ∧ 2 * st.2 0 - 2 ≤ st.2 1 - sq_vec (st.1 4 (sq_vec v))
    · rw [if_pos b] at h; exact absurd rfl h
    · rw [if_neg b]; exact Or.inr rfl
