/-! what a throw rests on: carried from the law's start to every call -/
def sq_Z (cC : List (String × String)) (cD : List MethodName) (own : String) (cS : List (Nat × String)) (cN : List (String × String)) (S : Nat → Nat) (A : Nat → Prop) (U : State) (H : Heap) : Prop :=
  vx_Zq Bundle.tN "UNASSIGNED_STACK" Bundle.steD A U H ∧ vx_Zq Bundle.tN "SUPPRESSED_SENTINEL" Bundle.listD A U H ∧ (∀ x ∈ cC, va_Nw (.castable x.1 x.2) U) ∧ (∀ x ∈ cD, va_Nw (.declares x) U) ∧ (∀ x ∈ cS, vk_R own x.1 x.2 (S x.1) U) ∧ (∀ x ∈ cN, va_Nc x.1 x.2 U)
section SqThr
variable {cC : List (String × String)} {cD : List MethodName} {zown : String} {cS : List (Nat × String)} {cN : List (String × String)} {S : Nat → Nat}
theorem sq_Z.go {A A' : Nat → Prop} {s U : State} {H : Heap} {locs : List Loc} (h : sq_Z cC cD zown cS cN S A s s.heap) (hS : va_S A s.heap H locs) (hU : U.heap = H) (hW : s.WarmedH U.vm) (hA : ∀ q, A' q → A q) : sq_Z cC cD zown cS cN S A' U U.heap := by
  obtain ⟨h1, h2, h3, h4, h5, h6⟩ := h
  rw [hU]
  exact ⟨((vx_Zq.moved hW.alike h1).kept hS.2.1).narrow hA, ((vx_Zq.moved hW.alike h2).kept hS.2.1).narrow hA, fun x hx => va_Nw.warmC hW (h3 x hx), fun x hx => va_Nw.warmD hW (h4 x hx), fun x hx => vk_R.warm hW (h5 x hx), fun x hx => va_Nc.moved hW.alike (h6 x hx)⟩
theorem sq_Z.call {A : Nat → Prop} {U : State} {g : JFrame} {mk : MethodId} {a : Array Value} (h : sq_Z cC cD zown cS cN S A U U.heap) : sq_Z cC cD zown cS cN S A (U.calling g mk a) (U.calling g mk a).heap := by
  obtain ⟨h1, h2, h3, h4, h5, h6⟩ := h
  exact ⟨vx_Zq.moved (u := U) (U := U.calling g mk a) (Vm.Alike.refl U.vm) h1, vx_Zq.moved (u := U) (U := U.calling g mk a) (Vm.Alike.refl U.vm) h2, fun x hx => va_Nw.same rfl rfl (h3 x hx), fun x hx => va_Nw.same rfl rfl (h4 x hx), fun x hx => vk_R.same rfl (h5 x hx), fun x hx => va_Nc.moved (u := U) (U := U.calling g mk a) (Vm.Alike.refl U.vm) (h6 x hx)⟩
/-- the start of a method that may throw -/
def sq_UZ (cC : List (String × String)) (cD : List MethodName) (own : String) (cS : List (Nat × String)) (cN : List (String × String)) (S : Nat → Nat) (D : va_G) (cl : List vw_C) (ws : va_W) (tys : List (ClassId × FieldType)) (sz : Nat) : State → Prop := fun U => sq_U D cl ws tys sz U ∧ sq_Z cC cD own cS cN S (va_A ws sz) U U.heap
theorem sq_blindZ {D : va_G} {cl : List vw_C} {ws : va_W} {tys : List (ClassId × FieldType)} {sz : Nat} {av : List Value} : FrameBlind (va_Pc av (sq_UZ cC cD zown cS cN S D cl ws tys sz)) := fun a U g mk q => by
  obtain ⟨q0, ⟨q1, qP, qK, qD⟩, qZ⟩ := q
  exact ⟨q0, ⟨q1, qP, va_K.moved (u := U) (U := U.calling g mk a) (Vm.Alike.refl U.vm) qK, qD⟩, qZ.call⟩
/-- its end: k = 0, it returns r; else it throws, of the kind En k, and nothing has changed -/
def sq_QX (D : va_G) (cl : List vw_C) (tys : List (ClassId × FieldType)) (ws w' : va_W) (k : Nat) (En : Nat → String) (A : Nat → Prop) : String → State → State → Prop := vx_X (fun _ : Unit => ¬ k = 0) (fun E _ t => E = En k ∧ sq_B D cl ws tys A t) A
def sq_Xv (cC : List (String × String)) (cD : List MethodName) (own : String) (cS : List (Nat × String)) (cN : List (String × String)) (S : Nat → Nat) (l : Launch) (y : MethodName) (wsy : List Cond) (rm : Room) (av : List Value) (D : va_G) (cl : List vw_C) (tys : List (ClassId × FieldType)) (ws w' : va_W) (k : Nat) (En : Nat → String) : Prop :=
  ∀ sz : Nat, vx_Met l y wsy rm (va_Pc av (sq_UZ cC cD own cS cN S D cl ws tys sz)) (va_Qv (fun _ : Unit => k = 0) (fun _ => sq_B D cl w' tys (va_A ws sz)) (va_A ws sz)) (vx_X (fun _ : Unit => ¬ k = 0) (fun E _ t => E = En k ∧ sq_B D cl ws tys (va_A ws sz) t) (va_A ws sz)) 1 6 (va_A ws sz)
def sq_Xi (cC : List (String × String)) (cD : List MethodName) (own : String) (cS : List (Nat × String)) (cN : List (String × String)) (S : Nat → Nat) (l : Launch) (y : MethodName) (wsy : List Cond) (rm : Room) (av : List Value) (D : va_G) (cl : List vw_C) (tys : List (ClassId × FieldType)) (ws w' : va_W) (k : Nat) (En : Nat → String) (r : Int32) : Prop :=
  ∀ sz : Nat, vx_Met l y wsy rm (va_Pc av (sq_UZ cC cD own cS cN S D cl ws tys sz)) (va_Qi (fun x (_ : Unit) => k = 0 ∧ x = r) (fun _ => sq_B D cl w' tys (va_A ws sz)) (va_A ws sz)) (vx_X (fun _ : Unit => ¬ k = 0) (fun E _ t => E = En k ∧ sq_B D cl ws tys (va_A ws sz) t) (va_A ws sz)) 1 6 (va_A ws sz)
theorem sq_ofXv {l : Launch} {y : MethodName} {wsy wsy' : List Cond} {rm : Room} {av : List Value} {D : va_G} {cl : List vw_C} {tys : List (ClassId × FieldType)} {ws w' : va_W} {k : Nat} {En : Nat → String} {cc : ByteArray} {maxL : Nat} (hy : plainName y.cls = true) (hw : wsy = Cond.code y cc maxL none :: wsy') (hlen : (lg_sl av).length ≤ maxL)
    (body : ∀ (p : Program) (e : Env) (s : State) (m : MethodId) (args : Array Value) (below : List Frame) (meth : Method) (c : Code) (A : Nat → Prop) (ls : Array Slot) (Q : State → Prop), p.tables.exec = Jvm.exec → c.code = cc → (∀ w ∈ wsy, w.before args s = true) → s.vm.findClass y.cls = some m.cls → c.maxLocals = maxL → va_K D cl tys s → va_P D cl ws s.heap → va_D A ws → va_S A s.heap s.heap [] → (∀ q : Nat, s.heap.size ≤ q → A q) → lv_has ls maxL (lv_args 0 av) →
      sq_Z cC cD zown cS cN S A s s.heap → meth.locks = false → (∀ x ∈ c.exceptionTable.toList, False) →
      (∀ (H : Heap) (locs : List Loc) (ls : Array Slot) (pc : Nat), k = 0 → va_P D cl w' H → va_D A w' → va_S A s.heap H locs → decode cc pc = .ok (.return_, 1) → W p l e rm s m args below meth c H locs 0 0 Q (F0 m pc ls [])) →
      (Q = vx_MQ below (va_Qv (fun _ : Unit => k = 0) (fun _ => sq_B D cl w' tys A) A) (vx_X (fun _ : Unit => ¬ k = 0) (fun E _ t => E = En k ∧ sq_B D cl ws tys A t) A) args s 1 6 A) →
      W p l e rm s m args below meth c s.heap [] 0 0 Q (F0 m 0 ls [])) : sq_Xv cC cD zown cS cN S l y wsy rm av D cl tys ws w' k En := by
  intro sz
  refine vx_ofW (cc := cc) (maxL := maxL) (ret := none) hy hw ?_
  intro p e s m args below meth c s₁ B hml hEx hv
  obtain ⟨rfl, ⟨hsz, hP, hK, hD0⟩, hZ⟩ := hv
  subst hsz
  have hD := hD0.self (sz := s.heap.size)
  have hA : ∀ q : Nat, s.heap.size ≤ q → va_A ws s.heap.size q := fun q h => Or.inr h
  have hl := lv_entry av (n := maxL) hlen
  rw [lg_entry_eq]
  refine body p e s m _ below meth c _ _ _ B.exec B.bytes (atoms_spec (ws := wsy) B.pre) (findClass_of_methodNamed B.named) hml hK hP hD va_S.rf hA hl hZ B.notSynchronized hEx (fun H locs ls pc hk hP hD hS hd => ?_) rfl
  refine vx_ret (W.widen (k := 1) (n := 6) (Nat.zero_le _) (Nat.zero_le _) ?_)
  exact W.vret B.exec B.bytes B.returns (fun t ht hW => ⟨⟨(), rfl, hk, by rw [ht]; exact hP, va_K.moved hW.alike hK, hD⟩, hS.F ht⟩) hS.2.2 hd B.notSynchronized
theorem sq_ofXi {l : Launch} {y : MethodName} {wsy wsy' : List Cond} {rm : Room} {av : List Value} {D : va_G} {cl : List vw_C} {tys : List (ClassId × FieldType)} {ws w' : va_W} {k : Nat} {En : Nat → String} {r : Int32} {cc : ByteArray} {maxL : Nat} (hy : plainName y.cls = true) (hw : wsy = Cond.code y cc maxL (some .int) :: wsy') (hlen : (lg_sl av).length ≤ maxL)
    (body : ∀ (p : Program) (e : Env) (s : State) (m : MethodId) (args : Array Value) (below : List Frame) (meth : Method) (c : Code) (A : Nat → Prop) (ls : Array Slot) (Q : State → Prop), p.tables.exec = Jvm.exec → c.code = cc → (∀ w ∈ wsy, w.before args s = true) → s.vm.findClass y.cls = some m.cls → c.maxLocals = maxL → va_K D cl tys s → va_P D cl ws s.heap → va_D A ws → va_S A s.heap s.heap [] → (∀ q : Nat, s.heap.size ≤ q → A q) → lv_has ls maxL (lv_args 0 av) →
      sq_Z cC cD zown cS cN S A s s.heap → meth.locks = false → (∀ x ∈ c.exceptionTable.toList, False) →
      (∀ (H : Heap) (locs : List Loc) (ls : Array Slot) (pc : Nat) (x : Int32), k = 0 → x = r → va_P D cl w' H → va_D A w' → va_S A s.heap H locs → decode cc pc = .ok (.ireturn, 1) → W p l e rm s m args below meth c H locs 0 0 Q (F0 m pc ls [.int x])) →
      (Q = vx_MQ below (va_Qi (fun x (_ : Unit) => k = 0 ∧ x = r) (fun _ => sq_B D cl w' tys A) A) (vx_X (fun _ : Unit => ¬ k = 0) (fun E _ t => E = En k ∧ sq_B D cl ws tys A t) A) args s 1 6 A) →
      W p l e rm s m args below meth c s.heap [] 0 0 Q (F0 m 0 ls [])) : sq_Xi cC cD zown cS cN S l y wsy rm av D cl tys ws w' k En r := by
  intro sz
  refine vx_ofW (cc := cc) (maxL := maxL) (ret := some .int) hy hw ?_
  intro p e s m args below meth c s₁ B hml hEx hv
  obtain ⟨rfl, ⟨hsz, hP, hK, hD0⟩, hZ⟩ := hv
  subst hsz
  have hD := hD0.self (sz := s.heap.size)
  have hA : ∀ q : Nat, s.heap.size ≤ q → va_A ws s.heap.size q := fun q h => Or.inr h
  have hl := lv_entry av (n := maxL) hlen
  rw [lg_entry_eq]
  refine body p e s m _ below meth c _ _ _ B.exec B.bytes (atoms_spec (ws := wsy) B.pre) (findClass_of_methodNamed B.named) hml hK hP hD va_S.rf hA hl hZ B.notSynchronized hEx (fun H locs ls pc x hk hx hP hD hS hd => ?_) rfl
  refine vx_ret (W.widen (k := 1) (n := 6) (Nat.zero_le _) (Nat.zero_le _) ?_)
  exact W.iret B.exec B.bytes B.returns (fun t ht hW => ⟨⟨x, (), rfl, ⟨hk, hx⟩, by rw [ht]; exact hP, va_K.moved hW.alike hK, hD⟩, hS.F ht⟩) hS.2.2 hd B.notSynchronized
/-- 'throw new E("text")' where nothing has been written -/
theorem sq_thr {p : Program} {l : Launch} {e : Env} {R : Room} {s : State} {m : MethodId} {args : Array Value} {below : List Frame} {meth : Method} {c : Code} {H : Heap} {locs : List Loc} {cc : ByteArray} {pc : Nat} {ls : Array Slot} {D : va_G} {cl : List vw_C} {ws : va_W} {tys : List (ClassId × FieldType)} {A : Nat → Prop} {k : Nat} {En : Nat → String} {Q : State → Prop} {Qc : Array Value → State → Outcome → State → Prop}
    (hQ : Q = vx_MQ below Qc (vx_X (fun _ : Unit => ¬ k = 0) (fun E _ t => E = En k ∧ sq_B D cl ws tys A t) A) args s 1 6 A)
    (hx : p.tables.exec = Jvm.exec) (hb : c.code = cc) (hl : l.stackTraces = false) {own cls text : String} {names : List String} {ik is ic sa : Nat}
    (hown : s.vm.findClass own = some m.cls) (hcls : Bundle.fit cls = true) (hnames : ∀ n ∈ names, Bundle.fit n = true) (hk : (Cond.classLink own ik cls).before args s = true) (hini : (Cond.initialized cls).before args s = true) (hstr : vk_R own is text sa s) (hat : ∀ w ∈ vx_atS own ic cls names, w.before args s = true)
    (hgood : ∀ w ∈ Cond.classLink own ik cls :: Cond.initialized cls :: vx_atS own ic cls names, vx_ot w = true)
    (hZ : sq_Z cC cD zown cS cN S A s s.heap) (hS : va_S A s.heap H locs) (hsize : ls.size = c.maxLocals)
    (d0 : decode cc pc = .ok (.new ik, 3)) (d3 : decode cc (pc + 3) = .ok (.dup, 1)) (d4 : decode cc (pc + 4) = .ok (.ldc is, 2)) (d6 : decode cc (pc + 6) = .ok (.invokespecial ic, 3)) (d9 : decode cc (pc + 9) = .ok (.athrow, 1))
    (hEx : ∀ x ∈ c.exceptionTable.toList, False) (hRf : names.length + 3 < R.frames) (hRl : 13 * (names.length + 1) + 43 ≤ R.locals) (hRc : 1 ≤ R.cells) (hRs : 6 ≤ R.slots) (hlocks : meth.locks = false)
    (hP : va_P D cl ws H) (hK : va_K D cl tys s) (hD : va_D A ws) (hk0 : ¬ k = 0) (hE : cls = En k) : W p l e R s m args below meth c H locs 0 0 Q (F0 m pc ls []) := by
  rw [hQ]
  exact vx_throwS (cls := cls) (names := names) hx hb hl hown hcls hnames hk hini hstr hat hgood hZ.1 hZ.2.1 hS hsize d0 d3 d4 d6 d9 (fun x hx => (hEx x hx).elim) hRf (by simpa using hRl) (by simpa using hRc) (by simpa using hRs) hlocks
    (fun t ha hsz hk => ⟨(), hk0, ⟨hE, hP.kept (fun k q hq => hk q.1 (hP k q hq).lt), va_K.moved ha hK, hD⟩, Nat.le_trans hS.1 hsz, fun q h1 h2 => (hk q (Nat.lt_of_lt_of_le h1 hS.1)).trans (hS.2.1 q h1 h2)⟩) hS.2.2 (Nat.le_refl _) (Nat.le_refl _)
end SqThr
