-- ===== PART A: goes FIRST, ahead of the names: the tables' words, and 'selects' of the private methods out of them =====
/-- a private method of a class that the tables say can be made, by its rows of tables_1 -/
def lw_okq (q : MethodName × Nat) : Prop := (q.1.cls ≠ "java/lang/invoke/MethodHandle" ∧ q.1.cls ≠ "java/lang/invoke/VarHandle") ∧ Cond.instantiable q.1.cls q.2 ∈ tables_1 ∧ Cond.privateMethod q.1 ∈ tables_1 ∧ Cond.instanceMethod q.1 ∈ tables_1
theorem lw_p0 : lw_okq (⟨"SquareStream", "clearTo", "(I)V"⟩, 20) := ⟨⟨by decide +kernel, by decide +kernel⟩, List.mem_of_getElem? (i := 12) (by decide +kernel), List.mem_of_getElem? (i := 20) (by decide +kernel), List.mem_of_getElem? (i := 21) (by decide +kernel)⟩
theorem lw_p1 : lw_okq (⟨"java/lang/Throwable", "fillInStackTrace", "(I)Ljava/lang/Throwable;"⟩, 6) := ⟨⟨by decide +kernel, by decide +kernel⟩, List.mem_of_getElem? (i := 137) (by decide +kernel), List.mem_of_getElem? (i := 135) (by decide +kernel), List.mem_of_getElem? (i := 136) (by decide +kernel)⟩
theorem lw_p2 : lw_okq (⟨"SquareStream", "isAtRest", "()Z"⟩, 20) := ⟨⟨by decide +kernel, by decide +kernel⟩, List.mem_of_getElem? (i := 12) (by decide +kernel), List.mem_of_getElem? (i := 208) (by decide +kernel), List.mem_of_getElem? (i := 209) (by decide +kernel)⟩
theorem lw_p3 : lw_okq (⟨"SquareStream", "canVectorEnter", "()Z"⟩, 20) := ⟨⟨by decide +kernel, by decide +kernel⟩, List.mem_of_getElem? (i := 12) (by decide +kernel), List.mem_of_getElem? (i := 212) (by decide +kernel), List.mem_of_getElem? (i := 213) (by decide +kernel)⟩
theorem lw_p4 : lw_okq (⟨"SquareStream", "isSetComplete", "()Z"⟩, 20) := ⟨⟨by decide +kernel, by decide +kernel⟩, List.mem_of_getElem? (i := 12) (by decide +kernel), List.mem_of_getElem? (i := 216) (by decide +kernel), List.mem_of_getElem? (i := 217) (by decide +kernel)⟩
theorem lw_p5 : lw_okq (⟨"SquareStream", "canRowComeIn", "(I)Z"⟩, 20) := ⟨⟨by decide +kernel, by decide +kernel⟩, List.mem_of_getElem? (i := 12) (by decide +kernel), List.mem_of_getElem? (i := 220) (by decide +kernel), List.mem_of_getElem? (i := 221) (by decide +kernel)⟩
theorem lw_p6 : lw_okq (⟨"SquareStream", "crossing", "()I"⟩, 20) := ⟨⟨by decide +kernel, by decide +kernel⟩, List.mem_of_getElem? (i := 12) (by decide +kernel), List.mem_of_getElem? (i := 224) (by decide +kernel), List.mem_of_getElem? (i := 225) (by decide +kernel)⟩
theorem lw_p7 : lw_okq (⟨"SquareStream", "countReachedCells", "()I"⟩, 20) := ⟨⟨by decide +kernel, by decide +kernel⟩, List.mem_of_getElem? (i := 12) (by decide +kernel), List.mem_of_getElem? (i := 228) (by decide +kernel), List.mem_of_getElem? (i := 229) (by decide +kernel)⟩
theorem lw_p8 : lw_okq (⟨"SquareStream", "runCycle", "()V"⟩, 20) := ⟨⟨by decide +kernel, by decide +kernel⟩, List.mem_of_getElem? (i := 12) (by decide +kernel), List.mem_of_getElem? (i := 232) (by decide +kernel), List.mem_of_getElem? (i := 233) (by decide +kernel)⟩
theorem lw_p9 : lw_okq (⟨"SquareStream", "ageEntries", "()V"⟩, 20) := ⟨⟨by decide +kernel, by decide +kernel⟩, List.mem_of_getElem? (i := 12) (by decide +kernel), List.mem_of_getElem? (i := 236) (by decide +kernel), List.mem_of_getElem? (i := 237) (by decide +kernel)⟩
theorem lw_p10 : lw_okq (⟨"SquareStream", "enterVector", "()V"⟩, 20) := ⟨⟨by decide +kernel, by decide +kernel⟩, List.mem_of_getElem? (i := 12) (by decide +kernel), List.mem_of_getElem? (i := 240) (by decide +kernel), List.mem_of_getElem? (i := 241) (by decide +kernel)⟩
theorem lw_p11 : lw_okq (⟨"SquareStream", "letRowIn", "()V"⟩, 20) := ⟨⟨by decide +kernel, by decide +kernel⟩, List.mem_of_getElem? (i := 12) (by decide +kernel), List.mem_of_getElem? (i := 244) (by decide +kernel), List.mem_of_getElem? (i := 245) (by decide +kernel)⟩
theorem lw_p12 : lw_okq (⟨"SquareStream", "goOn", "()V"⟩, 20) := ⟨⟨by decide +kernel, by decide +kernel⟩, List.mem_of_getElem? (i := 12) (by decide +kernel), List.mem_of_getElem? (i := 248) (by decide +kernel), List.mem_of_getElem? (i := 249) (by decide +kernel)⟩
theorem lw_p13 : lw_okq (⟨"SquareStream", "advance", "(IIIZ)V"⟩, 20) := ⟨⟨by decide +kernel, by decide +kernel⟩, List.mem_of_getElem? (i := 12) (by decide +kernel), List.mem_of_getElem? (i := 252) (by decide +kernel), List.mem_of_getElem? (i := 253) (by decide +kernel)⟩
theorem lw_p14 : lw_okq (⟨"SquareStream", "feed", "(I)V"⟩, 20) := ⟨⟨by decide +kernel, by decide +kernel⟩, List.mem_of_getElem? (i := 12) (by decide +kernel), List.mem_of_getElem? (i := 256) (by decide +kernel), List.mem_of_getElem? (i := 257) (by decide +kernel)⟩
theorem lw_p15 : lw_okq (⟨"SquareStream", "keepResults", "()V"⟩, 20) := ⟨⟨by decide +kernel, by decide +kernel⟩, List.mem_of_getElem? (i := 12) (by decide +kernel), List.mem_of_getElem? (i := 260) (by decide +kernel), List.mem_of_getElem? (i := 261) (by decide +kernel)⟩
def lw_privs_1 : List (MethodName × Nat) := [(⟨"SquareStream", "clearTo", "(I)V"⟩, 20), (⟨"java/lang/Throwable", "fillInStackTrace", "(I)Ljava/lang/Throwable;"⟩, 6), (⟨"SquareStream", "isAtRest", "()Z"⟩, 20), (⟨"SquareStream", "canVectorEnter", "()Z"⟩, 20), (⟨"SquareStream", "isSetComplete", "()Z"⟩, 20), (⟨"SquareStream", "canRowComeIn", "(I)Z"⟩, 20), (⟨"SquareStream", "crossing", "()I"⟩, 20), (⟨"SquareStream", "countReachedCells", "()I"⟩, 20), (⟨"SquareStream", "runCycle", "()V"⟩, 20), (⟨"SquareStream", "ageEntries", "()V"⟩, 20), (⟨"SquareStream", "enterVector", "()V"⟩, 20), (⟨"SquareStream", "letRowIn", "()V"⟩, 20), (⟨"SquareStream", "goOn", "()V"⟩, 20), (⟨"SquareStream", "advance", "(IIIZ)V"⟩, 20), (⟨"SquareStream", "feed", "(I)V"⟩, 20), (⟨"SquareStream", "keepResults", "()V"⟩, 20)]
theorem lw_r1 : ∀ q ∈ lw_privs_1, lw_okq q := List.forall_mem_cons.mpr ⟨lw_p0, List.forall_mem_cons.mpr ⟨lw_p1, List.forall_mem_cons.mpr ⟨lw_p2, List.forall_mem_cons.mpr ⟨lw_p3, List.forall_mem_cons.mpr ⟨lw_p4, List.forall_mem_cons.mpr ⟨lw_p5, List.forall_mem_cons.mpr ⟨lw_p6, List.forall_mem_cons.mpr ⟨lw_p7, List.forall_mem_cons.mpr ⟨lw_p8, List.forall_mem_cons.mpr ⟨lw_p9, List.forall_mem_cons.mpr ⟨lw_p10, List.forall_mem_cons.mpr ⟨lw_p11, List.forall_mem_cons.mpr ⟨lw_p12, List.forall_mem_cons.mpr ⟨lw_p13, List.forall_mem_cons.mpr ⟨lw_p14, List.forall_mem_cons.mpr ⟨lw_p15, fun _ h => absurd h List.not_mem_nil⟩⟩⟩⟩⟩⟩⟩⟩⟩⟩⟩⟩⟩⟩⟩⟩
theorem lw_p16 : lw_okq (⟨"SquareStream", "isInSquare", "(I)Z"⟩, 20) := ⟨⟨by decide +kernel, by decide +kernel⟩, List.mem_of_getElem? (i := 12) (by decide +kernel), List.mem_of_getElem? (i := 272) (by decide +kernel), List.mem_of_getElem? (i := 273) (by decide +kernel)⟩
theorem lw_p17 : lw_okq (⟨"SquareStream", "isVector", "(I)Z"⟩, 20) := ⟨⟨by decide +kernel, by decide +kernel⟩, List.mem_of_getElem? (i := 12) (by decide +kernel), List.mem_of_getElem? (i := 300) (by decide +kernel), List.mem_of_getElem? (i := 301) (by decide +kernel)⟩
theorem lw_p18 : lw_okq (⟨"SquareStreamModel", "clear", "()V"⟩, 23) := ⟨⟨by decide +kernel, by decide +kernel⟩, List.mem_of_getElem? (i := 338) (by decide +kernel), List.mem_of_getElem? (i := 344) (by decide +kernel), List.mem_of_getElem? (i := 345) (by decide +kernel)⟩
theorem lw_p19 : lw_okq (⟨"SquareStreamModel", "refuse", "(ZZ)Z"⟩, 23) := ⟨⟨by decide +kernel, by decide +kernel⟩, List.mem_of_getElem? (i := 338) (by decide +kernel), List.mem_of_getElem? (i := 429) (by decide +kernel), List.mem_of_getElem? (i := 430) (by decide +kernel)⟩
theorem lw_p20 : lw_okq (⟨"SquareStreamModel", "enter", "()V"⟩, 23) := ⟨⟨by decide +kernel, by decide +kernel⟩, List.mem_of_getElem? (i := 338) (by decide +kernel), List.mem_of_getElem? (i := 449) (by decide +kernel), List.mem_of_getElem? (i := 450) (by decide +kernel)⟩
theorem lw_p21 : lw_okq (⟨"SquareStreamModel", "letIn", "()V"⟩, 23) := ⟨⟨by decide +kernel, by decide +kernel⟩, List.mem_of_getElem? (i := 338) (by decide +kernel), List.mem_of_getElem? (i := 453) (by decide +kernel), List.mem_of_getElem? (i := 454) (by decide +kernel)⟩
theorem lw_p22 : lw_okq (⟨"SquareStreamModel", "goOn", "()V"⟩, 23) := ⟨⟨by decide +kernel, by decide +kernel⟩, List.mem_of_getElem? (i := 338) (by decide +kernel), List.mem_of_getElem? (i := 457) (by decide +kernel), List.mem_of_getElem? (i := 458) (by decide +kernel)⟩
theorem lw_p23 : lw_okq (⟨"SquareStreamModel", "enteredAgo", "(I)I"⟩, 23) := ⟨⟨by decide +kernel, by decide +kernel⟩, List.mem_of_getElem? (i := 338) (by decide +kernel), List.mem_of_getElem? (i := 461) (by decide +kernel), List.mem_of_getElem? (i := 462) (by decide +kernel)⟩
def lw_privs_2 : List (MethodName × Nat) := [(⟨"SquareStream", "isInSquare", "(I)Z"⟩, 20), (⟨"SquareStream", "isVector", "(I)Z"⟩, 20), (⟨"SquareStreamModel", "clear", "()V"⟩, 23), (⟨"SquareStreamModel", "refuse", "(ZZ)Z"⟩, 23), (⟨"SquareStreamModel", "enter", "()V"⟩, 23), (⟨"SquareStreamModel", "letIn", "()V"⟩, 23), (⟨"SquareStreamModel", "goOn", "()V"⟩, 23), (⟨"SquareStreamModel", "enteredAgo", "(I)I"⟩, 23)]
theorem lw_r2 : ∀ q ∈ lw_privs_2, lw_okq q := List.forall_mem_cons.mpr ⟨lw_p16, List.forall_mem_cons.mpr ⟨lw_p17, List.forall_mem_cons.mpr ⟨lw_p18, List.forall_mem_cons.mpr ⟨lw_p19, List.forall_mem_cons.mpr ⟨lw_p20, List.forall_mem_cons.mpr ⟨lw_p21, List.forall_mem_cons.mpr ⟨lw_p22, List.forall_mem_cons.mpr ⟨lw_p23, fun _ h => absurd h List.not_mem_nil⟩⟩⟩⟩⟩⟩⟩⟩
def lw_privs : List (MethodName × Nat) := lw_privs_1 ++ (lw_privs_2)
def lw_tbl : List Cond := k2_sels lw_privs ++ tables_1
theorem lw_privs_ok : ∀ q ∈ lw_privs, lw_okq q := by
  show ∀ q ∈ lw_privs_1 ++ (lw_privs_2), lw_okq q
  exact List.forall_mem_append.mpr ⟨lw_r1, lw_r2⟩
/-! ===== BEGIN words of one list among another's, by their places ===== -/
theorem goodIn_r {big : List Cond} (ws : List Cond) (ps : List Nat) (hp : ws = ps.filterMap (fun i => big[i]?)) (h : ws.all goodWord = true) : GoodIn big ws := by
  intro w hw
  have h1 := List.all_eq_true.mp h w hw
  rw [hp] at hw
  obtain ⟨i, -, hi⟩ := List.mem_filterMap.mp hw
  have hm : w ∈ big := by first | exact List.mem_of_getElem? hi | exact List.getElem?_mem hi
  exact ⟨hm, good_of_word h1⟩
theorem goodIn_app {big a b : List Cond} (ha : GoodIn big a) (hb : GoodIn big b) : GoodIn big (a ++ b) := fun w h => (List.mem_append.mp h).elim (ha w) (hb w)
theorem goodIn_ca {big a b : List Cond} {c : Cond} (ha : GoodIn big (c :: a)) (hb : GoodIn big b) : GoodIn big (c :: (a ++ b)) := fun w h => (List.mem_cons.mp h).elim (fun e => ha w (List.mem_cons.mpr (Or.inl e))) (fun h => (List.mem_append.mp h).elim (fun h => ha w (List.mem_cons.mpr (Or.inr h))) (hb w))
theorem goodIn_sub {big ws : List Cond} (hm : ∀ w ∈ ws, w ∈ big) (h : ws.all goodWord = true) : GoodIn big ws := fun w hw => ⟨hm w hw, good_of_word (List.all_eq_true.mp h w hw)⟩
/-! ===== END ===== -/

/-! ===== BEGIN exceptions that leave a method, and their catching by the caller (launches without stack traces) ===== -/
section VXA
/-! The laws vx_back, vx_callV, vx_callS, vx_callSW, vx_throw0, vx_throwS follow proofs of the library, with one case more: JvmDerived/Free/Laws.lean (Back.of_free), Shelf42/LK1.lean (callV, callS), Shelf/KitTraced.lean (throwNew0V, throwNewS). -/
/-- where a method has thrown q: the class by its name, the cell, what was written, the world -/
def vx_T (XC : String → State → State → Prop) (st : State) (q : Addr) (t : State) (mc ms : Nat) (free : Addr → Prop) : Prop :=
  ∃ (E : String) (ce : Cell) (L : List Loc), XC E st t ∧ t.heap[q]? = some ce ∧ ce.vm = .none ∧ st.vm.findClass E = some ce.cls ∧ st.WarmedH t.vm ∧ st.sameButNew ({ t with vm := st.vm } : State) L mc ms ∧ ∀ z ∈ L, free z.base
def vx_Q (Qc : Array Value → State → Outcome → State → Prop) (XC : String → State → State → Prop) (mc ms : Nat) (free : Addr → Prop) : Array Value → State → Outcome → State → Prop := fun a st o t =>
  (Qc a st o t ∧ ∃ L, FrameEnd st o t L mc ms ∧ ∀ q ∈ L, free q.base) ∨ ∃ q, o = .threw q ∧ vx_T XC st q t mc ms free
/-- a callee that returns or throws -/
def vx_Met (l : Launch) (y : MethodName) (ws : List Cond) (rm : Room) (Pc : Array Value → State → Prop) (Qc : Array Value → State → Outcome → State → Prop) (XC : String → State → State → Prop) (mc ms : Nat) (free : Addr → Prop) : Prop :=
  MetFree l y (headSpec ws rm) Pc (fun _ _ _ _ _ => True) (vx_Q Qc XC mc ms free)
def vx_Post (XC : String → State → State → Prop) (mc ms : Nat) (free : Addr → Prop) : Pt → Array Value → Addr → Pt → Prop := fun A a q B =>
  ∃ (g : JFrame) (mk : MethodId) (t : State) (L : List Loc) (E : String) (ce : Cell), B.U.heap = t.heap ∧ B.U.vm = t.vm ∧ XC E (A.U.calling g mk a) t ∧ t.heap[q]? = some ce ∧ ce.vm = .none ∧ A.U.vm.findClass E = some ce.cls ∧ B.locs = A.locs ++ L ∧ (∀ z ∈ L, free z.base) ∧ B.cells = A.cells + mc ∧ B.slots = A.slots + ms
def vx_Back (l : Launch) (R : Room) (p : Program) (e : Env) (below : List Frame) (s : State) (sargs : Array Value) (y : MethodName) (len W9 : Nat)
    (Pre : Pt → Array Value → Prop) (Post : Pt → Array Value → Option Value → Pt → Prop) (PostX : Pt → Array Value → Addr → Pt → Prop) : Prop :=
  ∀ (m : MethodId) (meth : Method) (c : Code) (A : Pt) (g : JFrame) (ig : Instr) (mk : MethodId) (a : Array Value),
    Stand p l e R s m sargs below meth c A.U A.locs A.cells A.slots → g.method = m → g.locals.size = c.maxLocals → decode c.code g.pc = .ok (ig, len) →
    2 * g.monitorRoom + (g.stack.map fun v => v.category).sum ≤ W9 → A.U.methodNamed? y = some mk → Pre A a →
    (∃ (v : Option Value) (B : Pt), Stand p l e R s m sargs below meth c B.U B.locs B.cells B.slots ∧ Post A a v B ∧
      Steps p.tables e below (doInvoke e (A.U.setTop g) [] mk a).1 (B.U.setTop { g with pc := g.pc + len, stack := v.toList ++ g.stack })) ∨
    (∃ (q : Addr) (B : Pt), Stand p l e R s m sargs below meth c B.U B.locs B.cells B.slots ∧ PostX A a q B ∧
      Steps p.tables e below (doInvoke e (A.U.setTop g) [] mk a).1 ((B.U.setTop g).pushFrame (.throwing q)))
section Payer
variable {l : Launch} {R : Room} {p : Program} {e : Env} {below : List Frame} {s : State} {sargs : Array Value} {y : MethodName} {len W9 : Nat}
theorem vx_back {ws : List Cond} {rm : Room} {Pc : Array Value → State → Prop} {Qc : Array Value → State → Outcome → State → Prop} {XC : String → State → State → Prop} {mc ms : Nat} {free : Addr → Prop} {bytes : ByteArray} {maxL : Nat} {ret : Option FieldType}
    (hM : vx_Met l y ws rm Pc Qc XC mc ms free) (hblind : FrameBlind Pc) (hrc : rm.cells = mc) (hrs : rm.slots = ms)
    (hframes : rm.frames + 1 ≤ R.frames) (hlocals : W9 + (maxL + 11) + rm.locals ≤ R.locals)
    (hws : ∀ w ∈ ws, ∀ a' U, s.WarmedH U.vm → w.before a' U = true) (hcode : Cond.code y bytes maxL ret ∈ ws) (hinit : ∀ a' U, s.WarmedH U.vm → (Cond.initialized y.cls).before a' U = true) :
    vx_Back l R p e below s sargs y len W9 (PreOf R mc ms Pc) (PostOf Qc mc ms free) (vx_Post XC mc ms free) := by
  intro m meth c A g ig mk a X hg hsize hdg hW hn hp
  have h1 : (headSpec ws rm).pre.before a A.U = true := atoms_intro fun w hw => hws w hw _ _ X.warmed
  have h2 : (Cond.code y bytes maxL ret).before a A.U = true := hws _ hcode _ _ X.warmed
  have h3 : (Cond.initialized y.cls).before a A.U = true := hinit _ _ X.warmed
  have h4 : A.cells + (headSpec ws rm).room.cells ≤ R.cells := by rw [show (headSpec ws rm).room.cells = mc from hrc]; exact hp.1
  have h5 : A.slots + (headSpec ws rm).room.slots ≤ R.slots := by rw [show (headSpec ws rm).room.slots = ms from hrs]; exact hp.2.1
  have hPc : Pc a (A.U.calling g mk a) := hblind _ _ _ _ hp.2.2
  obtain ⟨U, Ls, c0, s0⟩ := A
  dsimp only [Pt.U, Pt.locs, Pt.cells, Pt.slots] at h1 h2 h3 h4 h5 X hn hPc ⊢
  obtain ⟨methY, cY, hmY, hcY, -, hlY, -, -, -, -⟩ := Cond.code_spec hn h2
  obtain ⟨kY, hkY, -⟩ := className_of_methodNamed hn
  have hinitY : kY.init = .initialized := Cond.initialized_spec (findClass_of_methodNamed hn) hkY h3
  have h : At U g.method c below := by rw [hg]; exact X.here
  have hlocals9 : W9 + (maxL + 11) + (headSpec ws rm).room.locals ≤ R.locals := hlocals
  have happ : (headSpec ws rm).appliesLoose y e.platform (U.calling g mk a) = true :=
    Spec.appliesLoose_calling (g := g) h hdg hn hkY hinitY
      (X.room_calling (g := g) (R' := (headSpec ws rm).room) hsize hmY hcY hframes (by rw [hlY]; omega) h4 h5) h1
  obtain ⟨mid, hmid⟩ := h.above
  have hfr : (U.setTop g).frames = (.java g :: mid) ++ below := by rw [State.frames_setTop' g h.top, hmid]; rfl
  obtain ⟨o, s₂, hsteps, -, hend, hq⟩ := Steps.callFree hM p X.admits X.cas X.clock (acts := []) hfr happ hPc trivial
  have hq' : vx_Q Qc XC mc ms free a (U.calling g mk a) o s₂ := hq
  rw [State.frames_setTop' g h.top] at hend
  obtain ⟨g₀, hg0⟩ := Option.isSome_iff_exists.mp h.top
  obtain ⟨r, hr⟩ := State.topJava?_eq_some.mp hg0
  have hr' : (({ U with heap := s₂.heap, slotsUsed := s₂.slotsUsed } : State).setVm s₂.vm).frames = .java g₀ :: r := hr
  rcases hq' with ⟨hqc, L, hfe, hL⟩ | ⟨q, rfl, E, ce, L, hx, hce, hcv, hcl, hW₂, hsm, hL⟩
  · obtain ⟨⟨v, rfl⟩, hW₂, e2, q2, q3, q4, q5, q6⟩ := id hfe
    have e3 : s₂ = ({ (U.calling g mk a).setFrames s₂.frames with heap := s₂.heap, slotsUsed := s₂.slotsUsed } : State).setVm s₂.vm := by
      have : s₂ = ({ s₂ with vm := (U.calling g mk a).vm } : State).setVm s₂.vm := rfl
      rw [e2] at this
      exact this
    obtain ⟨c₂, i₂, len₂, hc₂, hd₂, hf₂⟩ := hend
    have hW' : U.WarmedH s₂.vm := hW₂
    have hcc : c₂ = c := by
      have h1 : s₂.code? g.method = U.code? g.method := by
        rw [State.code?_eq, State.code?_eq, hW'.alike.method?]
      exact Option.some.inj (hc₂.symm.trans (h1.trans h.code))
    subst hcc
    have hlen : len₂ = len := by rw [hdg] at hd₂; cases hd₂; rfl
    subst hlen
    have hs₂ : s₂ = (({ U with heap := s₂.heap, slotsUsed := s₂.slotsUsed } : State).setVm s₂.vm).setTop { g with pc := g.pc + len₂, stack := v.toList ++ g.stack } := by
      refine e3.trans ?_
      rw [hf₂, State.calling_eq h.top, State.setFrames_setFrames, State.setTop_of_frames _ hr', hr]
      rfl
    have hsame : U.sameButNew ({ U with heap := s₂.heap, slotsUsed := s₂.slotsUsed } : State) L mc ms := by
      refine ⟨?_, q2, q3, q4, q5, q6⟩
      obtain ⟨t, ht, -⟩ := State.frames_cons hr
      show ({ U with heap := s₂.heap, slotsUsed := s₂.slotsUsed } : State) = { U.setFrames U.frames with heap := s₂.heap, slotsUsed := s₂.slotsUsed }
      rw [State.setFrames_self ht]
    subst hg
    refine Or.inl ⟨v, ⟨(({ U with heap := s₂.heap, slotsUsed := s₂.slotsUsed } : State).setVm s₂.vm), Ls ++ L, c0 + mc, s0 + ms⟩,
      ⟨X.admits, X.cas, X.clock, X.frames, X.room, X.hears, X.method, X.code, (X.here.setHeapUsed s₂.heap s₂.slotsUsed).setVm hW'.alike, X.tail, State.WarmedH.trans X.warmed hW', X.limits, X.bytes, X.same.trans (hsame.setVm s.vm)⟩,
      ⟨g, mk, s₂, L, rfl, rfl, hqc, rfl, hL, rfl, rfl⟩, ?_⟩
    show Steps p.tables e below _ ((({ U with heap := s₂.heap, slotsUsed := s₂.slotsUsed } : State).setVm s₂.vm).setTop { g with pc := g.pc + len₂, stack := v.toList ++ g.stack })
    rw [← hs₂]
    exact hsteps
  · obtain ⟨e2, q2, q3, q4, q5, q6⟩ := id hsm
    have e3 : s₂ = ({ (U.calling g mk a).setFrames s₂.frames with heap := s₂.heap, slotsUsed := s₂.slotsUsed } : State).setVm s₂.vm := by
      have : s₂ = ({ s₂ with vm := (U.calling g mk a).vm } : State).setVm s₂.vm := rfl
      rw [e2] at this
      exact this
    have hf₂ : s₂.frames = .throwing q :: .java g :: U.frames.tail := hend
    have hW' : U.WarmedH s₂.vm := hW₂
    have hs₂ : s₂ = ((({ U with heap := s₂.heap, slotsUsed := s₂.slotsUsed } : State).setVm s₂.vm).setTop g).pushFrame (.throwing q) := by
      refine e3.trans ?_
      rw [hf₂, State.calling_eq h.top, State.setFrames_setFrames, State.pushFrame, State.frames_setTop _ hr', State.setTop_of_frames _ hr', State.setFrames_setFrames, hr]
      rfl
    have hsame : U.sameButNew ({ U with heap := s₂.heap, slotsUsed := s₂.slotsUsed } : State) L mc ms := by
      refine ⟨?_, q2, q3, q4, q5, q6⟩
      obtain ⟨t, ht, -⟩ := State.frames_cons hr
      show ({ U with heap := s₂.heap, slotsUsed := s₂.slotsUsed } : State) = { U.setFrames U.frames with heap := s₂.heap, slotsUsed := s₂.slotsUsed }
      rw [State.setFrames_self ht]
    subst hg
    refine Or.inr ⟨q, ⟨(({ U with heap := s₂.heap, slotsUsed := s₂.slotsUsed } : State).setVm s₂.vm), Ls ++ L, c0 + mc, s0 + ms⟩,
      ⟨X.admits, X.cas, X.clock, X.frames, X.room, X.hears, X.method, X.code, (X.here.setHeapUsed s₂.heap s₂.slotsUsed).setVm hW'.alike, X.tail, State.WarmedH.trans X.warmed hW', X.limits, X.bytes, X.same.trans (hsame.setVm s.vm)⟩,
      ⟨g, mk, s₂, L, E, ce, rfl, rfl, hx, hce, hcv, hcl, rfl, hL, rfl, rfl⟩, ?_⟩
    show Steps p.tables e below _ (((({ U with heap := s₂.heap, slotsUsed := s₂.slotsUsed } : State).setVm s₂.vm).setTop g).pushFrame (.throwing q))
    rw [← hs₂]
    exact hsteps
end Payer
section Calls
variable {p : Program} {l : Launch} {e : Env} {R : Room} {s : State} {m : MethodId} {args : Array Value} {below : List Frame} {meth : Method} {c : Code} {T : State} {locs : List Loc} {cells slots : Nat}
theorem vx_callV (X : Stand p l e R s m args below meth c T locs cells slots) (hexec : p.tables.exec = Jvm.exec) {own C : String} {index : Nat} {y : MethodName} {bytes : ByteArray} {maxL : Nat} {ret : Option FieldType}
    (hown : s.vm.findClass own = some m.cls) (hlink : (Cond.methodLink own index y).before args s = true) (hinst : (Cond.instanceMethod y).before args s = true) (hsel : (Cond.selects C y y).before args s = true)
    (hcode : (Cond.code y bytes maxL ret).before args s = true) (hy : y.cls ≠ "java/lang/invoke/MethodHandle" ∧ y.cls ≠ "java/lang/invoke/VarHandle")
    {W9 : Nat} {Pre : Pt → Array Value → Prop} {Post : Pt → Array Value → Option Value → Pt → Prop} {PostX : Pt → Array Value → Addr → Pt → Prop} (hK : vx_Back l R p e below s args y 3 W9 Pre Post PostX)
    {b : Addr} {cellB : Cell} (hcell : T.heap[b]? = some cellB) (hobj : cellB.vm.isStatics = false) (hcls : s.vm.findClass C = some cellB.cls)
    {g : JFrame} (hg : g.method = m) (hsize : g.locals.size = c.maxLocals) {argsL rest : List Value} (hlen : ∀ sig, parseMethodDescriptor y.desc = some sig → argsL.length = sig.parameters.length)
    (hstack : g.stack = argsL.reverse ++ .ref b :: rest) (hW : 2 * g.monitorRoom + (rest.map fun v => v.category).sum ≤ W9) (hdg : decode c.code g.pc = .ok (.invokevirtual index, 3))
    (hpre : ∀ vm₁, s.WarmedH vm₁ → Pre ⟨T.setVm vm₁, locs, cells, slots⟩ (Value.ref b :: argsL).toArray) :
    (∃ (v : Option Value) (vm₁ : Vm) (B : Pt), s.WarmedH vm₁ ∧ Stand p l e R s m args below meth c B.U B.locs B.cells B.slots ∧ Post ⟨T.setVm vm₁, locs, cells, slots⟩ (Value.ref b :: argsL).toArray v B ∧
      ∀ target, Steps p.tables e below (B.U.setTop { g with pc := g.pc + 3, stack := v.toList ++ rest }) target → Steps p.tables e below (T.setTop g) target) ∨
    (∃ (q : Addr) (vm₁ : Vm) (B : Pt), s.WarmedH vm₁ ∧ Stand p l e R s m args below meth c B.U B.locs B.cells B.slots ∧ PostX ⟨T.setVm vm₁, locs, cells, slots⟩ (Value.ref b :: argsL).toArray q B ∧
      Steps p.tables e below (T.setTop g) ((B.U.setTop { g with stack := rest }).pushFrame (.throwing q))) := by
  obtain ⟨mk, methM, hnamed, hmethM, hstM, habM⟩ := Cond.instanceMethod_spec hinst
  obtain ⟨methM', cM, hmethM', -, -, -, -, -, -, hsigM⟩ := Cond.code_spec hnamed hcode
  cases hmethM.symm.trans hmethM'
  obtain ⟨c2, r2, m2, q1, q2, q3, q4, kP, hkP, hkPi⟩ := Cond.selects_spec hsel
  cases hcls.symm.trans q1
  cases (State.methodFound?_of_named hnamed hy).symm.trans q2
  cases hnamed.symm.trans q3
  have hselP : selectMethod e.platform s.vm cellB.cls mk = .method mk := by rw [Launch.admits_selectMethod X.admits]; exact q4
  obtain ⟨vm₁, X₁, hstep₁⟩ := X.invokevirtual hexec hown hlink hnamed hmethM hstM hkP hkPi hy (a := b) (cell := cellB) hcell
    (fun z h => by rw [h] at hobj; cases hobj) hselP hmethM habM hkP hkPi (g := g) hg (argsL := argsL) (rest := rest) (hlen _ hsigM) hstack hdg
  rcases hK m meth c ⟨T.setVm vm₁, locs, cells, slots⟩ { g with stack := rest } (.invokevirtual index) mk (Value.ref b :: argsL).toArray X₁ hg hsize hdg hW (X₁.named hnamed) (hpre vm₁ X₁.warmed) with ⟨v, B, X', hpost, hsteps⟩ | ⟨q, B, X', hpost, hsteps⟩
  · exact Or.inl ⟨v, vm₁, B, X₁.warmed, X', hpost, fun target h => hstep₁ _ fun acts => by rw [doInvoke_state]; exact hsteps.trans h⟩
  · exact Or.inr ⟨q, vm₁, B, X₁.warmed, X', hpost, hstep₁ _ fun acts => by rw [doInvoke_state]; exact hsteps⟩
theorem vx_callS (X : Stand p l e R s m args below meth c T locs cells slots) (hexec : p.tables.exec = Jvm.exec) {own : String} {index : Nat} {y : MethodName} {bytes : ByteArray} {maxL : Nat} {ret : Option FieldType}
    (hown : s.vm.findClass own = some m.cls) (hlink : (Cond.methodLink own index y).before args s = true) (hstat : (Cond.static y).before args s = true) (hinit : (Cond.initialized y.cls).before args s = true)
    (hcode : (Cond.code y bytes maxL ret).before args s = true) (hy : y.cls ≠ "java/lang/invoke/MethodHandle" ∧ y.cls ≠ "java/lang/invoke/VarHandle")
    {W9 : Nat} {Pre : Pt → Array Value → Prop} {Post : Pt → Array Value → Option Value → Pt → Prop} {PostX : Pt → Array Value → Addr → Pt → Prop} (hK : vx_Back l R p e below s args y 3 W9 Pre Post PostX)
    {g : JFrame} (hg : g.method = m) (hsize : g.locals.size = c.maxLocals) {argsL rest : List Value} (hlen : ∀ sig, parseMethodDescriptor y.desc = some sig → argsL.length = sig.parameters.length)
    (hstack : g.stack = argsL.reverse ++ rest) (hW : 2 * g.monitorRoom + (rest.map fun v => v.category).sum ≤ W9) (hdg : decode c.code g.pc = .ok (.invokestatic index, 3))
    (hpre : ∀ vm₁, s.WarmedH vm₁ → Pre ⟨T.setVm vm₁, locs, cells, slots⟩ argsL.toArray) :
    (∃ (v : Option Value) (vm₁ : Vm) (B : Pt), s.WarmedH vm₁ ∧ Stand p l e R s m args below meth c B.U B.locs B.cells B.slots ∧ Post ⟨T.setVm vm₁, locs, cells, slots⟩ argsL.toArray v B ∧
      ∀ target, Steps p.tables e below (B.U.setTop { g with pc := g.pc + 3, stack := v.toList ++ rest }) target → Steps p.tables e below (T.setTop g) target) ∨
    (∃ (q : Addr) (vm₁ : Vm) (B : Pt), s.WarmedH vm₁ ∧ Stand p l e R s m args below meth c B.U B.locs B.cells B.slots ∧ PostX ⟨T.setVm vm₁, locs, cells, slots⟩ argsL.toArray q B ∧
      Steps p.tables e below (T.setTop g) ((B.U.setTop { g with stack := rest }).pushFrame (.throwing q))) := by
  obtain ⟨mk, hnamed⟩ := Cond.code_named hcode
  obtain ⟨methM, cM, hmethM, -, -, -, -, -, -, hsigM⟩ := Cond.code_spec hnamed hcode
  have hstatic : methM.isStatic = true := Cond.static_spec hnamed hmethM hstat
  obtain ⟨kP, hkP, -⟩ := className_of_methodNamed hnamed
  have hinitP : kP.init = .initialized := Cond.initialized_spec (findClass_of_methodNamed hnamed) hkP hinit
  obtain ⟨vm₁, X₁, hstep₁⟩ := X.invokestatic hexec hown hlink hnamed hmethM hstatic hkP hinitP hy (g := g) hg (argsL := argsL) (rest := rest) (hlen _ hsigM) hstack hdg
  rcases hK m meth c ⟨T.setVm vm₁, locs, cells, slots⟩ { g with stack := rest } (.invokestatic index) mk argsL.toArray X₁ hg hsize hdg hW (X₁.named hnamed) (hpre vm₁ X₁.warmed) with ⟨v, B, X', hpost, hsteps⟩ | ⟨q, B, X', hpost, hsteps⟩
  · exact Or.inl ⟨v, vm₁, B, X₁.warmed, X', hpost, fun target h => hstep₁ _ fun acts => by rw [doInvoke_state]; exact hsteps.trans h⟩
  · exact Or.inr ⟨q, vm₁, B, X₁.warmed, X', hpost, hstep₁ _ fun acts => by rw [doInvoke_state]; exact hsteps⟩
end Calls
theorem vx_cls {s : State} {T : State} {vm₁ : Vm} {E : String} {k : ClassId} (hW : s.WarmedH vm₁) (h : (T.setVm vm₁).vm.findClass E = some k) : s.vm.findClass E = some k := by
  have h1 : vm₁.findClass E = some k := h
  rw [hW.alike.findClass] at h1
  exact h1
/-- the method's frame g, with q thrown over it -/
def vx_W (p : Program) (l : Launch) (e : Env) (R : Room) (s : State) (m : MethodId) (args : Array Value) (below : List Frame) (meth : Method) (c : Code) (H : Heap) (locs : List Loc) (cells slots : Nat) (Q : State → Prop) (g : JFrame) (q : Addr) : Prop :=
  ∀ T : State, T.heap = H → Stand p l e R s m args below meth c T locs cells slots → ∃ t, Steps p.tables e below ((T.setTop g).pushFrame (.throwing q)) t ∧ Q t
def vx_Run (p : Program) (l : Launch) (e : Env) (R : Room) (s : State) (m : MethodId) (args : Array Value) (below : List Frame) (meth : Method) (c : Code) (H : Heap) (locs : List Loc) (cells slots mc ms : Nat) (g : JFrame) (rest : List Value) (Qa : State → Outcome → State → Prop) (XC : String → State → State → Prop) (free : Addr → Prop) : Prop :=
  ∀ T : State, T.heap = H → Stand p l e R s m args below meth c T locs cells slots →
    (∃ (v : Option Value) (st₀ t T' : State) (L : List Loc), st₀.heap = H ∧ Stand p l e R s m args below meth c T' (locs ++ L) (cells + mc) (slots + ms) ∧ (∀ q ∈ L, free q.base) ∧ T'.heap = t.heap ∧ T'.vm = t.vm ∧ Qa st₀ (.returned v) t ∧
      Goes p e below T g T' { g with pc := g.pc + 3, stack := v.toList ++ rest }) ∨
    (∃ (q : Addr) (st₀ t T' : State) (L : List Loc) (E : String) (ce : Cell), st₀.heap = H ∧ Stand p l e R s m args below meth c T' (locs ++ L) (cells + mc) (slots + ms) ∧ (∀ z ∈ L, free z.base) ∧ T'.heap = t.heap ∧ T'.vm = t.vm ∧ XC E st₀ t ∧ t.heap[q]? = some ce ∧ ce.vm = .none ∧ s.vm.findClass E = some ce.cls ∧
      Steps p.tables e below (T.setTop g) ((T'.setTop { g with stack := rest }).pushFrame (.throwing q)))
def vx_X {S : Type} (px : S → Prop) (B : String → S → State → Prop) (A : Nat → Prop) : String → State → State → Prop := fun E st t => ∃ u : S, px u ∧ B E u t ∧ va_F A st t
section Runs
variable {p : Program} {l : Launch} {e : Env} {R : Room} {s : State} {m : MethodId} {args : Array Value} {below : List Frame} {meth : Method} {c : Code} {H : Heap} {locs : List Loc} {cells slots : Nat}
variable {y : MethodName} {bytes cc : ByteArray} {maxL nL mc ms n index : Nat} {ret : Option FieldType} {ws : List Cond} {rm : Room} {Pc : Array Value → State → Prop} {Qc : Array Value → State → Outcome → State → Prop} {XC : String → State → State → Prop} {free : Addr → Prop} {Ts : List Cond} {own C : String} {b : Addr} {As rest : List Value} {g : JFrame}
theorem vx_callBack (cb : CallB R s args own index y bytes maxL ret ws rm mc ms n) (hM : vx_Met l y ws rm Pc Qc XC mc ms free) (hbl : FrameBlind Pc) : vx_Back l R p e below s args y 3 8 (PreOf R mc ms Pc) (PostOf Qc mc ms free) (vx_Post XC mc ms free) := by
  obtain ⟨hrc, hrs, hfr, hlo, hws, hcw, -, hini, -⟩ := cb
  exact vx_back (bytes := bytes) (maxL := maxL) (ret := ret) hM hbl hrc hrs hfr hlo hws hcw (fun a' U hW => word_at hW (Or.inl (by first | rfl | simp [Cond.onTables, Cond.keeps, Cond.steady])) hini)
theorem vx_runV (S : CallFix p m c cc nL s args Ts own) (hM : vx_Met l y ws rm Pc Qc XC mc ms free) (cw : CallW R s args own C index y bytes maxL ret ws rm mc ms n) (hp : PreV s H C b Pc As)
    (hg : g.method = m) (hn : As.length = n) (hsize : g.locals.size = nL) (hstack : g.stack = As.reverse ++ .ref b :: rest) (hW : 2 * g.monitorRoom + (rest.map fun v => v.category).sum ≤ 8) (hdg : decode cc g.pc = .ok (.invokevirtual index, 3)) (hf : cells + mc ≤ R.cells ∧ slots + ms ≤ R.slots) :
    vx_Run p l e R s m args below meth c H locs cells slots mc ms g rest (Qc (Value.ref b :: As).toArray) XC free := by
  have hK : vx_Back l R p e below s args y 3 8 (PreOf R mc ms Pc) (PostOf Qc mc ms free) (vx_Post XC mc ms free) := vx_callBack cw.1 hM hp.1
  obtain ⟨⟨-, -, -, -, -, -, hcode, -, hy, hlen, hl⟩, hin, hse⟩ := cw
  obtain ⟨hx, hb, hml, ho, -⟩ := S
  obtain ⟨-, ⟨cellB, hcB, hoB, hclB⟩, hPc⟩ := hp
  intro T hT X
  rcases vx_callV X hx (C := C) (bytes := bytes) (maxL := maxL) (ret := ret) ho hl hin hse hcode hy hK (by rw [hT]; exact hcB) hoB hclB hg (hsize.trans hml.symm) (argsL := As) (rest := rest) (fun sig h => hn.trans (hlen sig h)) hstack hW (by rw [hb]; exact hdg)
    (fun vm₁ hW₁ => ⟨hf.1, hf.2, hPc (T.setVm vm₁) hT hW₁⟩) with ⟨v, vm₁, ⟨U', l2, c2, s2⟩, hW₁, X', ⟨g', mk, t, L, e1, e2, hq, h1, hL, h2, h3⟩, st⟩ | ⟨q, vm₁, ⟨U', l2, c2, s2⟩, hW₁, X', ⟨g', mk, t, L, E, ce, e1, e2, hq, hce, hcv, hcl, h1, hL, h2, h3⟩, st⟩
  · dsimp only [Pt.U, Pt.locs, Pt.cells, Pt.slots] at X' e1 e2 h1 h2 h3 st
    subst h1; subst h2; subst h3
    exact Or.inl ⟨v, (T.setVm vm₁).calling g' mk (Value.ref b :: As).toArray, t, U', L, hT, X', hL, e1, e2, hq, st⟩
  · dsimp only [Pt.U, Pt.locs, Pt.cells, Pt.slots] at X' e1 e2 h1 h2 h3 st hcl
    subst h1; subst h2; subst h3
    exact Or.inr ⟨q, (T.setVm vm₁).calling g' mk (Value.ref b :: As).toArray, t, U', L, E, ce, hT, X', hL, e1, e2, hq, hce, hcv, vx_cls hW₁ hcl, st⟩
theorem vx_runS (S : CallFix p m c cc nL s args Ts own) (hM : vx_Met l y ws rm Pc Qc XC mc ms free) (cw : CallB R s args own index y bytes maxL ret ws rm mc ms n ∧ (Cond.static y).before args s = true) (hp : PreS s H Pc As)
    (hg : g.method = m) (hn : As.length = n) (hsize : g.locals.size = nL) (hstack : g.stack = As.reverse ++ rest) (hW : 2 * g.monitorRoom + (rest.map fun v => v.category).sum ≤ 8) (hdg : decode cc g.pc = .ok (.invokestatic index, 3)) (hf : cells + mc ≤ R.cells ∧ slots + ms ≤ R.slots) :
    vx_Run p l e R s m args below meth c H locs cells slots mc ms g rest (Qc As.toArray) XC free := by
  have hK : vx_Back l R p e below s args y 3 8 (PreOf R mc ms Pc) (PostOf Qc mc ms free) (vx_Post XC mc ms free) := vx_callBack cw.1 hM hp.1
  obtain ⟨⟨-, -, -, -, -, -, hcode, hini, hy, hlen, hl⟩, hstt⟩ := cw
  obtain ⟨hx, hb, hml, ho, -⟩ := S
  intro T hT X
  rcases vx_callS X hx (bytes := bytes) (maxL := maxL) (ret := ret) ho hl hstt hini hcode hy hK hg (hsize.trans hml.symm) (argsL := As) (rest := rest) (fun sig h => hn.trans (hlen sig h)) hstack hW (by rw [hb]; exact hdg)
    (fun vm₁ hW₁ => ⟨hf.1, hf.2, hp.2 (T.setVm vm₁) hT hW₁⟩) with ⟨v, vm₁, ⟨U', l2, c2, s2⟩, hW₁, X', ⟨g', mk, t, L, e1, e2, hq, h1, hL, h2, h3⟩, st⟩ | ⟨q, vm₁, ⟨U', l2, c2, s2⟩, hW₁, X', ⟨g', mk, t, L, E, ce, e1, e2, hq, hce, hcv, hcl, h1, hL, h2, h3⟩, st⟩
  · dsimp only [Pt.U, Pt.locs, Pt.cells, Pt.slots] at X' e1 e2 h1 h2 h3 st
    subst h1; subst h2; subst h3
    exact Or.inl ⟨v, (T.setVm vm₁).calling g' mk As.toArray, t, U', L, hT, X', hL, e1, e2, hq, st⟩
  · dsimp only [Pt.U, Pt.locs, Pt.cells, Pt.slots] at X' e1 e2 h1 h2 h3 st hcl
    subst h1; subst h2; subst h3
    exact Or.inr ⟨q, (T.setVm vm₁).calling g' mk As.toArray, t, U', L, E, ce, hT, X', hL, e1, e2, hq, hce, hcv, vx_cls hW₁ hcl, st⟩
end Runs
section Rows
variable {p : Program} {l : Launch} {e : Env} {R : Room} {s : State} {m : MethodId} {args : Array Value} {below : List Frame} {meth : Method} {c : Code} {H : Heap} {locs : List Loc} {cells slots : Nat} {Q : State → Prop}
variable {mc ms : Nat} {free : Addr → Prop} {A0 A1 : Nat → Prop} {H0 : Heap} {a : Array Value} {pc : Nat} {ls : Array Slot} {st0 rest : List Value}
theorem vx_keep {st₀ t T' : State} {L : List Loc} (h0 : st₀.heap = H) (e1 : T'.heap = t.heap) (hS : va_S A0 H0 H locs) (hA : ∀ q, q < H.size → A1 q → A0 q) (hf : ∀ q, free q → A0 q) (hL : ∀ q ∈ L, free q.base) (hF : va_F A1 st₀ t) :
    H.size ≤ T'.heap.size ∧ (∀ q : Nat, q < H.size → ¬ A1 q → T'.heap[q]? = H[q]?) ∧ va_S A0 H0 T'.heap (locs ++ L) := by
  obtain ⟨hz, hk⟩ := hF
  rw [h0] at hz hk
  exact ⟨by rw [e1]; exact hz, fun q h1 h2 => by rw [e1]; exact hk q h1 h2,
    ⟨Nat.le_trans hS.1 (by rw [e1]; exact hz), fun q h1 h2 => by rw [e1, hk q (Nat.lt_of_lt_of_le h1 hS.1) (fun z => h2 (hA q (Nat.lt_of_lt_of_le h1 hS.1) z))]; exact hS.2.1 q h1 h2, fun q hq => by
      rcases List.mem_append.mp hq with h | h
      · exact hS.2.2 q h
      · exact hf _ (hL q h)⟩⟩
theorem vx_calli {S SX : Type} {post : Int32 → S → Prop} {px : SX → Prop} {B : S → State → Prop} {BX : String → SX → State → Prop} {AX : Nat → Prop} (hr : vx_Run p l e R s m args below meth c H locs cells slots mc ms (F0 m pc ls st0) rest (va_Qi post B A1 a) (vx_X px BX AX) free) (hS : va_S A0 H0 H locs) (hA : ∀ q, q < H.size → A1 q → A0 q) (hf : ∀ q, free q → A0 q) (hAX : ∀ q, q < H.size → AX q → A0 q)
    (kx : ∀ (E : String) (ce : Cell) (q9 : Addr) (u : SX) (t : State) (H1 : Heap) (locs1 : List Loc), t.heap = H1 → s.vm.Alike t.vm → px u → BX E u t → H.size ≤ H1.size → (∀ q : Nat, q < H.size → ¬ AX q → H1[q]? = H[q]?) → va_S A0 H0 H1 locs1 → H1[q9]? = some ce → ce.vm = .none → s.vm.findClass E = some ce.cls → vx_W p l e R s m args below meth c H1 locs1 (cells + mc) (slots + ms) Q (F0 m pc ls rest) q9)
    (kk : ∀ (r : Int32) (u : S) (t : State) (H1 : Heap) (locs1 : List Loc), t.heap = H1 → s.vm.Alike t.vm → post r u → B u t → H.size ≤ H1.size → (∀ q : Nat, q < H.size → ¬ A1 q → H1[q]? = H[q]?) → va_S A0 H0 H1 locs1 → W p l e R s m args below meth c H1 locs1 (cells + mc) (slots + ms) Q (F0 m (pc + 3) ls (.int r :: rest))) : W p l e R s m args below meth c H locs cells slots Q (F0 m pc ls st0) := by
  intro T hT X
  rcases hr T hT X with ⟨v, st₀, t, T', L, h0, X', hL, e1, e2, ⟨⟨r, u, hv, hp, hb⟩, hF⟩, st⟩ | ⟨q, st₀, t, T', L, E, ce, h0, X', hL, e1, e2, ⟨u, hp, hb, hF⟩, hce, hcv, hcl, st⟩
  · cases hv
    obtain ⟨k1, k2, k3⟩ := vx_keep h0 e1 hS hA hf hL hF
    obtain ⟨t2, a1, b1⟩ := kk r u t T'.heap (locs ++ L) e1.symm (by rw [← e2]; exact X'.warmed.alike) hp hb k1 k2 k3 T' rfl X'
    exact ⟨t2, st t2 a1, b1⟩
  · obtain ⟨k1, k2, k3⟩ := vx_keep h0 e1 hS hAX hf hL hF
    obtain ⟨t2, a1, b1⟩ := kx E ce q u t T'.heap (locs ++ L) e1.symm (by rw [← e2]; exact X'.warmed.alike) hp hb k1 k2 k3 (by rw [e1]; exact hce) hcv hcl T' rfl X'
    exact ⟨t2, st.trans a1, b1⟩
theorem vx_calll {S SX : Type} {post : Int64 → S → Prop} {px : SX → Prop} {B : S → State → Prop} {BX : String → SX → State → Prop} {AX : Nat → Prop} (hr : vx_Run p l e R s m args below meth c H locs cells slots mc ms (F0 m pc ls st0) rest (va_Ql post B A1 a) (vx_X px BX AX) free) (hS : va_S A0 H0 H locs) (hA : ∀ q, q < H.size → A1 q → A0 q) (hf : ∀ q, free q → A0 q) (hAX : ∀ q, q < H.size → AX q → A0 q)
    (kx : ∀ (E : String) (ce : Cell) (q9 : Addr) (u : SX) (t : State) (H1 : Heap) (locs1 : List Loc), t.heap = H1 → s.vm.Alike t.vm → px u → BX E u t → H.size ≤ H1.size → (∀ q : Nat, q < H.size → ¬ AX q → H1[q]? = H[q]?) → va_S A0 H0 H1 locs1 → H1[q9]? = some ce → ce.vm = .none → s.vm.findClass E = some ce.cls → vx_W p l e R s m args below meth c H1 locs1 (cells + mc) (slots + ms) Q (F0 m pc ls rest) q9)
    (kk : ∀ (r : Int64) (u : S) (t : State) (H1 : Heap) (locs1 : List Loc), t.heap = H1 → s.vm.Alike t.vm → post r u → B u t → H.size ≤ H1.size → (∀ q : Nat, q < H.size → ¬ A1 q → H1[q]? = H[q]?) → va_S A0 H0 H1 locs1 → W p l e R s m args below meth c H1 locs1 (cells + mc) (slots + ms) Q (F0 m (pc + 3) ls (.long r :: rest))) : W p l e R s m args below meth c H locs cells slots Q (F0 m pc ls st0) := by
  intro T hT X
  rcases hr T hT X with ⟨v, st₀, t, T', L, h0, X', hL, e1, e2, ⟨⟨r, u, hv, hp, hb⟩, hF⟩, st⟩ | ⟨q, st₀, t, T', L, E, ce, h0, X', hL, e1, e2, ⟨u, hp, hb, hF⟩, hce, hcv, hcl, st⟩
  · cases hv
    obtain ⟨k1, k2, k3⟩ := vx_keep h0 e1 hS hA hf hL hF
    obtain ⟨t2, a1, b1⟩ := kk r u t T'.heap (locs ++ L) e1.symm (by rw [← e2]; exact X'.warmed.alike) hp hb k1 k2 k3 T' rfl X'
    exact ⟨t2, st t2 a1, b1⟩
  · obtain ⟨k1, k2, k3⟩ := vx_keep h0 e1 hS hAX hf hL hF
    obtain ⟨t2, a1, b1⟩ := kx E ce q u t T'.heap (locs ++ L) e1.symm (by rw [← e2]; exact X'.warmed.alike) hp hb k1 k2 k3 (by rw [e1]; exact hce) hcv hcl T' rfl X'
    exact ⟨t2, st.trans a1, b1⟩
theorem vx_callf {S SX : Type} {post : UInt32 → S → Prop} {px : SX → Prop} {B : S → State → Prop} {BX : String → SX → State → Prop} {AX : Nat → Prop} (hr : vx_Run p l e R s m args below meth c H locs cells slots mc ms (F0 m pc ls st0) rest (va_Qf post B A1 a) (vx_X px BX AX) free) (hS : va_S A0 H0 H locs) (hA : ∀ q, q < H.size → A1 q → A0 q) (hf : ∀ q, free q → A0 q) (hAX : ∀ q, q < H.size → AX q → A0 q)
    (kx : ∀ (E : String) (ce : Cell) (q9 : Addr) (u : SX) (t : State) (H1 : Heap) (locs1 : List Loc), t.heap = H1 → s.vm.Alike t.vm → px u → BX E u t → H.size ≤ H1.size → (∀ q : Nat, q < H.size → ¬ AX q → H1[q]? = H[q]?) → va_S A0 H0 H1 locs1 → H1[q9]? = some ce → ce.vm = .none → s.vm.findClass E = some ce.cls → vx_W p l e R s m args below meth c H1 locs1 (cells + mc) (slots + ms) Q (F0 m pc ls rest) q9)
    (kk : ∀ (r : UInt32) (u : S) (t : State) (H1 : Heap) (locs1 : List Loc), t.heap = H1 → s.vm.Alike t.vm → post r u → B u t → H.size ≤ H1.size → (∀ q : Nat, q < H.size → ¬ A1 q → H1[q]? = H[q]?) → va_S A0 H0 H1 locs1 → W p l e R s m args below meth c H1 locs1 (cells + mc) (slots + ms) Q (F0 m (pc + 3) ls (.float r :: rest))) : W p l e R s m args below meth c H locs cells slots Q (F0 m pc ls st0) := by
  intro T hT X
  rcases hr T hT X with ⟨v, st₀, t, T', L, h0, X', hL, e1, e2, ⟨⟨r, u, hv, hp, hb⟩, hF⟩, st⟩ | ⟨q, st₀, t, T', L, E, ce, h0, X', hL, e1, e2, ⟨u, hp, hb, hF⟩, hce, hcv, hcl, st⟩
  · cases hv
    obtain ⟨k1, k2, k3⟩ := vx_keep h0 e1 hS hA hf hL hF
    obtain ⟨t2, a1, b1⟩ := kk r u t T'.heap (locs ++ L) e1.symm (by rw [← e2]; exact X'.warmed.alike) hp hb k1 k2 k3 T' rfl X'
    exact ⟨t2, st t2 a1, b1⟩
  · obtain ⟨k1, k2, k3⟩ := vx_keep h0 e1 hS hAX hf hL hF
    obtain ⟨t2, a1, b1⟩ := kx E ce q u t T'.heap (locs ++ L) e1.symm (by rw [← e2]; exact X'.warmed.alike) hp hb k1 k2 k3 (by rw [e1]; exact hce) hcv hcl T' rfl X'
    exact ⟨t2, st.trans a1, b1⟩
theorem vx_calld {S SX : Type} {post : UInt64 → S → Prop} {px : SX → Prop} {B : S → State → Prop} {BX : String → SX → State → Prop} {AX : Nat → Prop} (hr : vx_Run p l e R s m args below meth c H locs cells slots mc ms (F0 m pc ls st0) rest (va_Qd post B A1 a) (vx_X px BX AX) free) (hS : va_S A0 H0 H locs) (hA : ∀ q, q < H.size → A1 q → A0 q) (hf : ∀ q, free q → A0 q) (hAX : ∀ q, q < H.size → AX q → A0 q)
    (kx : ∀ (E : String) (ce : Cell) (q9 : Addr) (u : SX) (t : State) (H1 : Heap) (locs1 : List Loc), t.heap = H1 → s.vm.Alike t.vm → px u → BX E u t → H.size ≤ H1.size → (∀ q : Nat, q < H.size → ¬ AX q → H1[q]? = H[q]?) → va_S A0 H0 H1 locs1 → H1[q9]? = some ce → ce.vm = .none → s.vm.findClass E = some ce.cls → vx_W p l e R s m args below meth c H1 locs1 (cells + mc) (slots + ms) Q (F0 m pc ls rest) q9)
    (kk : ∀ (r : UInt64) (u : S) (t : State) (H1 : Heap) (locs1 : List Loc), t.heap = H1 → s.vm.Alike t.vm → post r u → B u t → H.size ≤ H1.size → (∀ q : Nat, q < H.size → ¬ A1 q → H1[q]? = H[q]?) → va_S A0 H0 H1 locs1 → W p l e R s m args below meth c H1 locs1 (cells + mc) (slots + ms) Q (F0 m (pc + 3) ls (.double r :: rest))) : W p l e R s m args below meth c H locs cells slots Q (F0 m pc ls st0) := by
  intro T hT X
  rcases hr T hT X with ⟨v, st₀, t, T', L, h0, X', hL, e1, e2, ⟨⟨r, u, hv, hp, hb⟩, hF⟩, st⟩ | ⟨q, st₀, t, T', L, E, ce, h0, X', hL, e1, e2, ⟨u, hp, hb, hF⟩, hce, hcv, hcl, st⟩
  · cases hv
    obtain ⟨k1, k2, k3⟩ := vx_keep h0 e1 hS hA hf hL hF
    obtain ⟨t2, a1, b1⟩ := kk r u t T'.heap (locs ++ L) e1.symm (by rw [← e2]; exact X'.warmed.alike) hp hb k1 k2 k3 T' rfl X'
    exact ⟨t2, st t2 a1, b1⟩
  · obtain ⟨k1, k2, k3⟩ := vx_keep h0 e1 hS hAX hf hL hF
    obtain ⟨t2, a1, b1⟩ := kx E ce q u t T'.heap (locs ++ L) e1.symm (by rw [← e2]; exact X'.warmed.alike) hp hb k1 k2 k3 (by rw [e1]; exact hce) hcv hcl T' rfl X'
    exact ⟨t2, st.trans a1, b1⟩
theorem vx_callv {S SX : Type} {post : S → Prop} {px : SX → Prop} {B : S → State → Prop} {BX : String → SX → State → Prop} {AX : Nat → Prop} (hr : vx_Run p l e R s m args below meth c H locs cells slots mc ms (F0 m pc ls st0) rest (va_Qv post B A1 a) (vx_X px BX AX) free) (hS : va_S A0 H0 H locs) (hA : ∀ q, q < H.size → A1 q → A0 q) (hf : ∀ q, free q → A0 q) (hAX : ∀ q, q < H.size → AX q → A0 q)
    (kx : ∀ (E : String) (ce : Cell) (q9 : Addr) (u : SX) (t : State) (H1 : Heap) (locs1 : List Loc), t.heap = H1 → s.vm.Alike t.vm → px u → BX E u t → H.size ≤ H1.size → (∀ q : Nat, q < H.size → ¬ AX q → H1[q]? = H[q]?) → va_S A0 H0 H1 locs1 → H1[q9]? = some ce → ce.vm = .none → s.vm.findClass E = some ce.cls → vx_W p l e R s m args below meth c H1 locs1 (cells + mc) (slots + ms) Q (F0 m pc ls rest) q9)
    (kk : ∀ (u : S) (t : State) (H1 : Heap) (locs1 : List Loc), t.heap = H1 → s.vm.Alike t.vm → post u → B u t → H.size ≤ H1.size → (∀ q : Nat, q < H.size → ¬ A1 q → H1[q]? = H[q]?) → va_S A0 H0 H1 locs1 → W p l e R s m args below meth c H1 locs1 (cells + mc) (slots + ms) Q (F0 m (pc + 3) ls (rest))) : W p l e R s m args below meth c H locs cells slots Q (F0 m pc ls st0) := by
  intro T hT X
  rcases hr T hT X with ⟨v, st₀, t, T', L, h0, X', hL, e1, e2, ⟨⟨u, hv, hp, hb⟩, hF⟩, st⟩ | ⟨q, st₀, t, T', L, E, ce, h0, X', hL, e1, e2, ⟨u, hp, hb, hF⟩, hce, hcv, hcl, st⟩
  · cases hv
    obtain ⟨k1, k2, k3⟩ := vx_keep h0 e1 hS hA hf hL hF
    obtain ⟨t2, a1, b1⟩ := kk u t T'.heap (locs ++ L) e1.symm (by rw [← e2]; exact X'.warmed.alike) hp hb k1 k2 k3 T' rfl X'
    exact ⟨t2, st t2 a1, b1⟩
  · obtain ⟨k1, k2, k3⟩ := vx_keep h0 e1 hS hAX hf hL hF
    obtain ⟨t2, a1, b1⟩ := kx E ce q u t T'.heap (locs ++ L) e1.symm (by rw [← e2]; exact X'.warmed.alike) hp hb k1 k2 k3 (by rw [e1]; exact hce) hcv hcl T' rfl X'
    exact ⟨t2, st.trans a1, b1⟩
/-- caught by the row x of this method's table; the rows ahead don't take it -/
theorem vx_catch {own name : String} {E : String} {ce : Cell} {q : Addr} (hown : s.vm.findClass own = some m.cls) (pre : List ExceptionTableEntry) (x : ExceptionTableEntry) (suf : List ExceptionTableEntry) (hsplit : c.exceptionTable.toList = pre ++ x :: suf)
    (hpass : ∀ z ∈ pre, covers z pc = false ∨ (z.catchType ≠ 0 ∧ ∃ nm : String, (Cond.classLink own z.catchType nm).before args s = true ∧ va_Nc E nm s)) (hx : covers x pc = true) (h0 : x.catchType ≠ 0)
    (hlink : (Cond.classLink own x.catchType name).before args s = true) (hcast : (Cond.castable E name).before args s = true) (hcell : H[q]? = some ce) (hv : ce.vm = .none) (hcl : s.vm.findClass E = some ce.cls)
    (kk : W p l e R s m args below meth c H locs cells slots Q (F0 m x.handlerPc ls [.ref q])) : vx_W p l e R s m args below meth c H locs cells slots Q (F0 m pc ls rest) q := by
  intro T hT X
  have hpl : e.platform.magicAccessors = ({} : Platform).magicAccessors := by rw [X.admits.platform]
  obtain ⟨c3, c4, hc3, hc4, hasg⟩ := Cond.castable_spec hcast
  cases Option.some.inj (hc3.symm.trans hcl)
  obtain ⟨c5, hc5, hcl5⟩ := Cond.classLink_spec hown hlink e.platform hpl
  cases Option.some.inj (hc4.symm.trans hc5)
  obtain ⟨vm', X', st⟩ := X.thenCaughtThrough q (g := F0 m pc ls rest) rfl (Steps.refl _) (by rw [hT]; exact hcell) (by rw [hv]; rfl) (by obtain ⟨k9, h9, -⟩ := Vm.findClass_spec hcl; exact ⟨k9, h9⟩) pre x suf hsplit
    (fun z hz => by
      rcases hpass z hz with h | ⟨hz0, nm, hl1, hn1⟩
      · exact Or.inl h
      · obtain ⟨c6, hc6, hcl6⟩ := Cond.classLink_spec hown hl1 e.platform hpl
        obtain ⟨a8, b8, h1, h2, h3⟩ := hn1
        cases Option.some.inj (h1.symm.trans hcl)
        cases Option.some.inj (h2.symm.trans hc6)
        exact Or.inr ⟨hz0, _, hcl6, h3⟩) hx (Or.inr ⟨h0, c4, hcl5, hasg⟩)
  obtain ⟨t, a1, b1⟩ := kk (T.setVm vm') hT X'
  exact ⟨t, st.trans a1, b1⟩
end Rows
section Ends
variable {p : Program} {l : Launch} {e : Env} {R : Room} {s : State} {m : MethodId} {args : Array Value} {below : List Frame} {meth : Method} {c : Code} {H : Heap} {locs : List Loc} {cells slots : Nat} {Q : State → Prop}
variable {mc ms : Nat} {free : Addr → Prop} {A0 A1 : Nat → Prop} {H0 : Heap} {a : Array Value} {ls : Array Slot} {st0 rest : List Value}
variable {Qc : Array Value → State → Outcome → State → Prop} {XC : String → State → State → Prop}
/-- what a body that may throw owes at its end -/
def vx_MQ (below : List Frame) (Qc : Array Value → State → Outcome → State → Prop) (XC : String → State → State → Prop) (a : Array Value) (s : State) (mc ms : Nat) (free : Addr → Prop) : State → Prop := fun t =>
  ∃ o, t.status = .running ∧ Ended t below o ∧ vx_Q Qc XC mc ms free a s o t
theorem vx_ret {g : JFrame} {mc ms : Nat} (k : W p l e R s m args below meth c H locs cells slots (MQ below Qc args s mc ms free) g) : W p l e R s m args below meth c H locs cells slots (vx_MQ below Qc XC args s mc ms free) g := by
  intro T hT X
  obtain ⟨t, a1, o, b1, b2, b3, b4⟩ := k T hT X
  exact ⟨t, a1, o, b1, b2, Or.inl ⟨b3, b4⟩⟩
/-- not caught here: it goes on to the caller -/
theorem vx_widen {g : JFrame} {q : Addr} {k n : Nat} (h1 : cells ≤ k) (h2 : slots ≤ n) (kk : vx_W p l e R s m args below meth c H locs k n Q g q) : vx_W p l e R s m args below meth c H locs cells slots Q g q := fun T hT X => kk T hT (stand_widen X h1 h2)
theorem vx_out {pc : Nat} {E : String} {ce : Cell} {q : Addr} {mc ms : Nat} (hout : ∀ x ∈ c.exceptionTable.toList, covers x pc = false) (hlocks : meth.locks = false) (hcell : H[q]? = some ce) (hv : ce.vm = .none) (hcl : s.vm.findClass E = some ce.cls)
    (hx : ∀ t : State, t.heap = H → s.vm.Alike t.vm → XC E s t) (hf : ∀ z ∈ locs, free z.base) (hc : cells ≤ mc) (hs : slots ≤ ms) :
    vx_W p l e R s m args below meth c H locs cells slots (vx_MQ below Qc XC args s mc ms free) (F0 m pc ls rest) q := by
  intro T hT X
  obtain ⟨st1, hrun, hend, hW, hsm⟩ := X.leaveThrown q (g := F0 m pc ls rest) rfl rfl rfl hout hlocks
  have hcell9 : (T.setFrames (.throwing q :: below)).heap[q]? = some ce := by
    show T.heap[q]? = some ce
    rw [hT]; exact hcell
  exact ⟨_, st1, .threw q, hrun, hend, Or.inr ⟨q, rfl, E, ce, locs, hx _ hT hW.alike, hcell9, hv, hcl, hW, hsm.mono hc hs, hf⟩⟩
theorem vx_frame {U : State} {k n : Nat} (h : s.sameButNew ({ U with vm := s.vm } : State) locs k n) : s.heap.size ≤ U.heap.size ∧ ∀ q : Nat, q < s.heap.size → (∀ z ∈ locs, z.base ≠ q) → U.heap[q]? = s.heap[q]? := by
  obtain ⟨-, h2, -, -, -, h6⟩ := h
  refine ⟨h2, fun q hq hz => ?_⟩
  obtain ⟨c9, e1, e2, e3, e4⟩ := h6 q _ (Array.getElem?_eq_getElem hq)
  have hs : c9.slots = (s.heap[q]).slots := Array.ext_getElem? fun i => e4 i fun hm => hz _ hm rfl
  have h9 : c9 = s.heap[q] := by
    rw [hs] at e2
    exact e2
  have e5 : U.heap[q]? = some c9 := e1
  rw [e5, h9, Array.getElem?_eq_getElem hq]
/-- the words of a throw but the four that speak of the heap -/
def vx_no (w : Cond) : Bool := decide (w ≠ .isRef (.static Bundle.tN "UNASSIGNED_STACK" Bundle.steD)) && decide (w ≠ .isRef (.static Bundle.tN "SUPPRESSED_SENTINEL" Bundle.listD)) && decide (w ≠ .laysStatic Bundle.tN "UNASSIGNED_STACK" Bundle.steD) && decide (w ≠ .laysStatic Bundle.tN "SUPPRESSED_SENTINEL" Bundle.listD)
def vx_at0 (own : String) (ic : Nat) (X : String) (names : List String) : List Cond := (Bundle.ownAtoms0 own ic X names).filter vx_no
def vx_atS (own : String) (ic : Nat) (X : String) (names : List String) : List Cond := (Bundle.ownAtoms own ic X names).filter vx_no
/-- a word that the tables alone decide, or a good one -/
def vx_ot (w : Cond) : Bool := w.onTables || goodWord w
theorem vx_ot_at {args a' : Array Value} {s U : State} {w : Cond} (hW : s.WarmedH U.vm) (hvm : s.vm = U.vm) (hg : vx_ot w = true) (h : w.before args s = true) : w.before a' U = true := by
  simp only [vx_ot, Bool.or_eq_true] at hg
  rcases hg with hg | hg
  · exact va_tabs hg hvm h
  · exact word_at hW (good_of_word hg) h
/-- a list's words: the good ones out of the method's own list, the others by premises of their own -/
theorem vx_hat {args : Array Value} {s : State} {L B : List Cond} (h1 : ∀ w ∈ L.filter goodWord, w.before args s = true) (h2 : ∀ w ∈ L.filter (fun w => !goodWord w), w ∈ B) (h3 : ∀ w ∈ B, w.before args s = true) : ∀ w ∈ L, w.before args s = true := by
  intro w hw
  by_cases g : goodWord w = true
  · exact h1 w (List.mem_filter.mpr ⟨hw, g⟩)
  · refine h3 w (h2 w (List.mem_filter.mpr ⟨hw, ?_⟩))
    show (!goodWord w) = true
    cases hgw : goodWord w
    · rfl
    · exact absurd hgw g
theorem vx_c {args : Array Value} {s : State} {w : Cond} {B : List Cond} (h : w.before args s = true) (t : ∀ w ∈ B, w.before args s = true) : ∀ w' ∈ w :: B, w'.before args s = true := fun w' h' => (List.mem_cons.mp h').elim (fun e => by rw [e]; exact h) (t w')
theorem vx_n {args : Array Value} {s : State} : ∀ w ∈ ([] : List Cond), w.before args s = true := fun _ h => nomatch h
theorem vx_own {args : Array Value} {s : State} {L : List Cond} (h1 : ∀ w ∈ L.filter vx_no, w.before args s = true)
    (hU : (Cond.isRef (.static Bundle.tN "UNASSIGNED_STACK" Bundle.steD)).before args s = true) (hN : (Cond.isRef (.static Bundle.tN "SUPPRESSED_SENTINEL" Bundle.listD)).before args s = true)
    (lU : (Cond.laysStatic Bundle.tN "UNASSIGNED_STACK" Bundle.steD).before args s = true) (lN : (Cond.laysStatic Bundle.tN "SUPPRESSED_SENTINEL" Bundle.listD).before args s = true) : ∀ w ∈ L, w.before args s = true := by
  intro w hw
  by_cases e1 : w = .isRef (.static Bundle.tN "UNASSIGNED_STACK" Bundle.steD)
  · rw [e1]; exact hU
  · by_cases e2 : w = .isRef (.static Bundle.tN "SUPPRESSED_SENTINEL" Bundle.listD)
    · rw [e2]; exact hN
    · by_cases e3 : w = .laysStatic Bundle.tN "UNASSIGNED_STACK" Bundle.steD
      · rw [e3]; exact lU
      · by_cases e4 : w = .laysStatic Bundle.tN "SUPPRESSED_SENTINEL" Bundle.listD
        · rw [e4]; exact lN
        · exact h1 w (List.mem_filter.mpr ⟨hw, by unfold vx_no; rw [decide_eq_true e1, decide_eq_true e2, decide_eq_true e3, decide_eq_true e4]; rfl⟩)
/-- where a static field lies, its class's statics cell in H -/
def vx_L (C n d : String) (A : Nat → Prop) (U : State) (H : Heap) : Prop := ∃ (c : ClassId) (k : Class) (i : Nat) (f : Field) (a : Nat) (cell : Cell), U.vm.findClass C = some c ∧ U.fieldFound? C n d = some (c, k, i, f) ∧ f.isStatic = true ∧ k.statics = some a ∧ H[a]? = some cell ∧ cell.vm.isStatics = true ∧ cell.cls = c ∧ f.slot < cell.slots.size ∧ k.staticTypes[f.slot]? = some f.type ∧ ¬ A a
theorem vx_L.moved {C n d : String} {A : Nat → Prop} {u U : State} {H : Heap} (hvm : u.vm.Alike U.vm) (h : vx_L C n d A u H) : vx_L C n d A U H := by
  obtain ⟨c, k, i, f, a, cell, h1, h2, h3, h4, h5, h6, h7, h8, h9, h10⟩ := h
  obtain ⟨k', hi', he⟩ := State.fieldFound?_setVm hvm h2
  exact ⟨c, k', i, f, a, cell, by rw [hvm.findClass]; exact h1, hi', h3, by rw [he]; exact h4, h5, h6, h7, h8, by rw [he]; exact h9, h10⟩
theorem vx_L.kept {C n d : String} {A : Nat → Prop} {U : State} {H H1 : Heap} (h : vx_L C n d A U H) (hq : ∀ a : Nat, a < H.size → ¬ A a → H1[a]? = H[a]?) : vx_L C n d A U H1 := by
  obtain ⟨c, k, i, f, a, cell, h1, h2, h3, h4, h5, h6, h7, h8, h9, h10⟩ := h
  exact ⟨c, k, i, f, a, cell, h1, h2, h3, h4, by rw [hq a (Array.getElem?_eq_some_iff.mp h5).1 h10]; exact h5, h6, h7, h8, h9, h10⟩
theorem vx_L.narrow {C n d : String} {A B : Nat → Prop} {U : State} {H : Heap} (h : vx_L C n d A U H) (hAB : ∀ q, B q → A q) : vx_L C n d B U H := by
  obtain ⟨c, k, i, f, a, cell, h1, h2, h3, h4, h5, h6, h7, h8, h9, h10⟩ := h
  exact ⟨c, k, i, f, a, cell, h1, h2, h3, h4, h5, h6, h7, h8, h9, fun z => h10 (hAB _ z)⟩
theorem vx_L.word {C n d : String} {A : Nat → Prop} {s : State} {args : Array Value} (h : vx_L C n d A s s.heap) : (Cond.laysStatic C n d).before args s = true := by
  obtain ⟨c, k, i, f, a, cell, h1, h2, h3, h4, h5, h6, h7, h8, h9, -⟩ := h
  show (Cond.laysStatic C n d).holds args s none s [] = true
  exact Cond.laysStatic_of h1 h2 h3 h4 h5 h6 h7 h8 h9
/-- .. and what it holds: null or some reference -/
def vx_Zq (C n d : String) (A : Nat → Prop) (U : State) (H : Heap) : Prop := va_Zq C n d A U H ∧ vx_L C n d A U H
theorem vx_Zq.moved {C n d : String} {A : Nat → Prop} {u U : State} {H : Heap} (hvm : u.vm.Alike U.vm) (h : vx_Zq C n d A u H) : vx_Zq C n d A U H := ⟨va_Zq.moved hvm h.1, vx_L.moved hvm h.2⟩
theorem vx_Zq.kept {C n d : String} {A : Nat → Prop} {U : State} {H H1 : Heap} (h : vx_Zq C n d A U H) (hq : ∀ a : Nat, a < H.size → ¬ A a → H1[a]? = H[a]?) : vx_Zq C n d A U H1 := ⟨va_Zq.kept h.1 hq, vx_L.kept h.2 hq⟩
theorem vx_Zq.narrow {C n d : String} {A B : Nat → Prop} {U : State} {H : Heap} (h : vx_Zq C n d A U H) (hAB : ∀ q, B q → A q) : vx_Zq C n d B U H := ⟨va_Zq.narrow h.1 hAB, vx_L.narrow h.2 hAB⟩
theorem vx_Zqof {args : Array Value} {s : State} {C n d : String} {A : Nat → Prop} (hl : (Cond.laysStatic C n d).before args s = true) (hini : (Cond.initialized C).before args s = true) (h : (Cond.isRef (.static C n d)).before args s = true) (hA : ∀ a : Nat, a < s.heap.size → ¬ A a) : vx_Zq C n d A s s.heap := by
  refine ⟨va_Zqof hl hini h hA, ?_⟩
  obtain ⟨c, k, i, f, a, cell, h1, h2, h3, h4, h5, h6, h7, h8, h9⟩ := Cond.laysStatic_spec hl
  exact ⟨c, k, i, f, a, cell, h1, h2, h3, h4, h5, h6, h7, h8, h9, hA a (Array.getElem?_eq_some_iff.mp h5).1⟩
theorem vx_isRef {C n d : String} {v : Value} {A : Nat → Prop} {s : State} {args : Array Value} (h : va_Z C n d v A s s.heap) (hv : v.isRef = true) : (Cond.isRef (.static C n d)).before args s = true := by
  obtain ⟨cf, kf, fi, f, a, cell, h1, h2, h3, h4, h5, h6, h7, -⟩ := h
  have he : (Term.static C n d).eval args s none [] s = some v := by
    simp [Term.eval, State.fieldNamed?, h1, h2, h4, h5, h6, h7]
  simp only [Cond.before, Cond.holds, Cond.value, he]
  cases v <;> simp_all [Value.isRef]
theorem vx_isRefq {C n d : String} {A : Nat → Prop} {s : State} {args : Array Value} (h : va_Zq C n d A s s.heap) : (Cond.isRef (.static C n d)).before args s = true := by
  rcases h with h | ⟨t, h⟩
  · exact vx_isRef h rfl
  · exact vx_isRef h rfl
/-- the same frame, seen from here: as if the method were called anew in this heap -/
theorem vx_rebase {T : State} (X : Stand p l e R s m args below meth c T locs cells slots) {R' : Room} (hf : R'.frames ≤ R.frames) (hl : R'.locals ≤ R.locals) (hc : cells + R'.cells ≤ R.cells) (hs : slots + R'.slots ≤ R.slots) :
    Stand p l e R' ((T.setVm s.vm).setFrames (.invoking m args :: below)) m args below meth c T [] 0 0 := by
  have htop : (T.setVm s.vm).topJava?.isSome := X.here.top
  have hF : ((T.setVm s.vm).setFrames (.invoking m args :: below)).frames = .invoking m args :: below := State.frames_setFrames _ (State.cur_lt_of_top htop)
  obtain ⟨g₀, hg0⟩ := Option.isSome_iff_exists.mp htop
  obtain ⟨r, hr⟩ := State.topJava?_eq_some.mp hg0
  have hl9 : e.platform.stackLimits (T.setVm s.vm).me = e.platform.stackLimits s.me := X.limits
  have hb9 : (T.setVm s.vm).me.stackBytes = s.me.stackBytes := X.bytes
  refine ⟨X.admits, X.cas, X.clock, hF, ?_, X.hears, X.method, X.code, X.here, X.tail, X.warmed, ?_, ?_, ?_⟩
  · have h := X.room
    have hU : ((T.setVm s.vm).setFrames (.invoking m args :: below)).localsInUse = s.localsInUse := by
      rw [State.localsInUse_invoking hF (meth := meth) (c := c) X.method X.code, State.localsInUse_invoking X.frames X.method X.code]
    simp only [State.hasRoom, Bool.and_eq_true, decide_eq_true_eq] at h ⊢
    obtain ⟨⟨⟨⟨h1, h2, h3, h4, h5, h6⟩, h7⟩, h8⟩, h9⟩ := h
    rw [X.frames, List.length_cons] at h2 h3
    have q1 := X.heapSize
    have q2 := X.used
    simp only [hF, hU, List.length_cons, State.stackLimits_setFrames, State.stackBytes_setFrames, hl9, hb9]
    refine ⟨⟨⟨⟨by omega, by omega, by omega, by omega, by omega, h6⟩, ?_⟩, ?_⟩, X.book⟩
    · show T.heap.size + R'.cells ≤ e.platform.maxCells
      omega
    · show T.slotsUsed + R'.slots ≤ e.platform.maxSlots
      omega
  · rw [State.stackLimits_setFrames]; rfl
  · rw [State.stackBytes_setFrames]; rfl
  · refine ⟨?_, Nat.le_refl _, Nat.le_refl _, ?_, ?_, fun a c9 h9 => ⟨c9, h9, rfl, rfl, fun _ _ => rfl⟩⟩
    · obtain ⟨t, ht, -⟩ := State.frames_cons hr
      show T.setVm s.vm = { ((T.setVm s.vm).setFrames (.invoking m args :: below)).setFrames (T.setVm s.vm).frames with heap := T.heap, slotsUsed := T.slotsUsed }
      rw [State.setFrames_setFrames, State.setFrames_self ht]
      rfl
    · show T.slotsUsed = T.slotsUsed + ((T.heap.toList.drop T.heap.size).map (·.slots.size)).sum
      rw [List.drop_eq_nil_of_le (Nat.le_of_eq Array.length_toList)]
      rfl
    · show ((T.heap.toList.drop T.heap.size).map (·.slots.size)).sum ≤ 0
      rw [List.drop_eq_nil_of_le (Nat.le_of_eq Array.length_toList)]
      exact Nat.le_refl _
/-- 'throw new E()': new; dup; invokespecial; athrow -/
theorem vx_throw0 {cc : ByteArray} {pc : Nat} (hexec : p.tables.exec = Jvm.exec) (hb : c.code = cc) (hl : l.stackTraces = false) {own cls : String} {names : List String} {ik ic mc ms : Nat} {A : Nat → Prop}
    (hown : s.vm.findClass own = some m.cls) (hcls : Bundle.fit cls = true) (hnames : ∀ n ∈ names, Bundle.fit n = true)
    (hk : (Cond.classLink own ik cls).before args s = true) (hini : (Cond.initialized cls).before args s = true) (hat : ∀ w ∈ vx_at0 own ic cls names, w.before args s = true)
    (hgood : ∀ w ∈ Cond.classLink own ik cls :: Cond.initialized cls :: vx_at0 own ic cls names, vx_ot w = true)
    (hU : vx_Zq Bundle.tN "UNASSIGNED_STACK" Bundle.steD A s s.heap) (hN : vx_Zq Bundle.tN "SUPPRESSED_SENTINEL" Bundle.listD A s s.heap) (hS : va_S A s.heap H locs) (hsize : ls.size = c.maxLocals)
    (d0 : decode cc pc = .ok (.new ik, 3)) (d3 : decode cc (pc + 3) = .ok (.dup, 1)) (d4 : decode cc (pc + 4) = .ok (.invokespecial ic, 3)) (d7 : decode cc (pc + 7) = .ok (.athrow, 1))
    (hout : ∀ x ∈ c.exceptionTable.toList, covers x (pc + 7) = false)
    (hRframes : names.length + 3 < R.frames) (hRlocals : (rest.map fun v => v.category).sum + (13 * (names.length + 1) + 42) ≤ R.locals) (hRcells : cells + 1 ≤ R.cells) (hRslots : slots + 6 ≤ R.slots) (hlocks : meth.locks = false)
    (hx : ∀ t : State, s.vm.Alike t.vm → H.size ≤ t.heap.size → (∀ q : Nat, q < H.size → t.heap[q]? = H[q]?) → XC cls s t)
    (hf : ∀ z ∈ locs, free z.base) (hc : cells + 1 ≤ mc) (hs : slots + 6 ≤ ms) :
    W p l e R s m args below meth c H locs cells slots (vx_MQ below Qc XC args s mc ms free) (F0 m pc ls rest) := by
  intro T hT X
  have htr : e.platform.stackTraces = false := (show e.platform.stackTraces = l.stackTraces by rw [X.admits.platform]).trans hl
  have Y := vx_rebase X (R' := { frames := R.frames, locals := R.locals, cells := 1, slots := 6 }) (Nat.le_refl _) (Nat.le_refl _) hRcells hRslots
  obtain ⟨s', hA⟩ : ∃ z, z = (T.setVm s.vm).setFrames (.invoking m args :: below) := ⟨_, rfl⟩
  rw [← hA] at Y
  have hvm : s'.vm = s.vm := by rw [hA]; rfl
  have hhp : s'.heap = H := by rw [hA]; exact hT
  have hW0 : s.WarmedH s'.vm := by rw [hvm]; exact State.WarmedH.refl s
  have hat' : ∀ w ∈ vx_at0 own ic cls names, w.before args s' = true := fun w hw => vx_ot_at hW0 hvm.symm (hgood w (List.mem_cons_of_mem _ (List.mem_cons_of_mem _ hw))) (hat w hw)
  have hk' : (Cond.classLink own ik cls).before args s' = true := vx_ot_at hW0 hvm.symm (hgood _ List.mem_cons_self) hk
  have hini' : (Cond.initialized cls).before args s' = true := vx_ot_at hW0 hvm.symm (hgood _ (List.mem_cons_of_mem _ List.mem_cons_self)) hini
  have hU' : vx_Zq Bundle.tN "UNASSIGNED_STACK" Bundle.steD A s' s'.heap := by rw [hhp]; exact vx_Zq.moved hW0.alike (hU.kept hS.2.1)
  have hN' : vx_Zq Bundle.tN "SUPPRESSED_SENTINEL" Bundle.listD A s' s'.heap := by rw [hhp]; exact vx_Zq.moved hW0.alike (hN.kept hS.2.1)
  have h : ∀ w ∈ Bundle.ownAtoms0 own ic cls names, w.before args s' = true := vx_own hat' (vx_isRefq hU'.1) (vx_isRefq hN'.1) hU'.2.word hN'.2.word
  have hown' : s'.vm.findClass own = some m.cls := by rw [hvm]; exact hown
  have hins : (Cond.instantiable cls 6).before args s' = true := h _ (by simp [Bundle.ownAtoms0])
  obtain ⟨vm₁, cX, kX, hfX, hkX, -, -, X₁, st1⟩ := Y.newCold hexec (own := own) (C := cls) (index := ik) (n := 6) hown' hk' hins hini'
    (g := F0 m pc ls rest) rfl (by rw [hb]; exact d0) (Nat.le_refl _) (Nat.le_refl _)
  generalize hT1 : (T.setVm vm₁).pushCell { cls := cX, slots := kX.instanceTypes.map defaultValue, vm := .none } = T1 at X₁ st1
  have hcat : (Value.ref T.heap.size).category = 1 := rfl
  have hcellA : T1.heap[T.heap.size]? = some (freshCell cX kX) := by rw [← hT1]; exact State.heap_pushCell_size _ _
  have d3' : decode c.code (pc + 3) = .ok (.dup, 1) := by rw [hb]; exact d3
  obtain ⟨U, hsteps, hrun, hend, hW, hsame, ce, hce, hO⟩ := X₁.ctorThrow0 hexec htr (own := own) (cls := cls) (names := names) (ic := ic) hown' hcls hnames h (fun x hx => nomatch hx) hfX hkX hcellA (by rw [hhp, hT]; exact Nat.le_refl _)
    (g := { method := m, pc := pc + 4, locals := ls, stack := .ref T.heap.size :: .ref T.heap.size :: rest, locked := none }) rfl hsize rfl rfl (rest := rest) rfl
    (by rw [hb]; exact d4) (by rw [hb]; exact d7) hout hRframes (by simp only [List.map_cons, List.sum_cons, hcat]; omega) hlocks
  obtain ⟨f1, f2⟩ := vx_frame hsame
  rw [hhp] at f1 f2
  have hWs : s.WarmedH U.vm := State.WarmedH.trans hW0 hW
  have hcl : s.vm.findClass cls = some ce.cls := by
    have h9 := hO.cls
    rw [hvm] at h9
    exact h9
  have hall : s.sameButNew ({ U with vm := s.vm } : State) locs mc ms := by
    subst hA
    obtain ⟨e1, e2⟩ := hsame
    rw [State.setFrames_setFrames] at e1
    have h2 : (T.setVm s.vm).sameButNew ({ U with vm := s.vm } : State) [] (0 + 1) (0 + 6) := ⟨e1, e2⟩
    have h3 := X.same.trans h2
    rw [List.append_nil] at h3
    exact h3.mono hc hs
  refine ⟨U, ?_, .threw T.heap.size, hrun, hend, Or.inr ⟨T.heap.size, rfl, cls, ce, locs, hx U hWs.alike f1 (fun q hq => f2 q hq (fun z hz => nomatch hz)), hce, hO.vm, hcl, hWs, hall, hf⟩⟩
  refine st1 _ ?_
  show Steps p.tables e below (T1.setTop { method := m, pc := pc + 3, locals := ls, stack := .ref T.heap.size :: rest, locked := none }) _
  jvm_step X₁.here [X₁.here.top, hexec, d3', Value.category]
  exact hsteps
/-- 'throw new E("text")': new; dup; ldc; invokespecial; athrow -/
theorem vx_throwS {cc : ByteArray} {pc : Nat} (hexec : p.tables.exec = Jvm.exec) (hb : c.code = cc) (hl : l.stackTraces = false) {own cls text : String} {names : List String} {ik is ic mc ms sa : Nat} {A : Nat → Prop}
    (hown : s.vm.findClass own = some m.cls) (hcls : Bundle.fit cls = true) (hnames : ∀ n ∈ names, Bundle.fit n = true)
    (hk : (Cond.classLink own ik cls).before args s = true) (hini : (Cond.initialized cls).before args s = true) (hstr : vk_R own is text sa s) (hat : ∀ w ∈ vx_atS own ic cls names, w.before args s = true)
    (hgood : ∀ w ∈ Cond.classLink own ik cls :: Cond.initialized cls :: vx_atS own ic cls names, vx_ot w = true)
    (hU : vx_Zq Bundle.tN "UNASSIGNED_STACK" Bundle.steD A s s.heap) (hN : vx_Zq Bundle.tN "SUPPRESSED_SENTINEL" Bundle.listD A s s.heap) (hS : va_S A s.heap H locs) (hsize : ls.size = c.maxLocals)
    (d0 : decode cc pc = .ok (.new ik, 3)) (d3 : decode cc (pc + 3) = .ok (.dup, 1)) (d4 : decode cc (pc + 4) = .ok (.ldc is, 2)) (d6 : decode cc (pc + 6) = .ok (.invokespecial ic, 3)) (d9 : decode cc (pc + 9) = .ok (.athrow, 1))
    (hout : ∀ x ∈ c.exceptionTable.toList, covers x (pc + 9) = false)
    (hRframes : names.length + 3 < R.frames) (hRlocals : (rest.map fun v => v.category).sum + (13 * (names.length + 1) + 43) ≤ R.locals) (hRcells : cells + 1 ≤ R.cells) (hRslots : slots + 6 ≤ R.slots) (hlocks : meth.locks = false)
    (hx : ∀ t : State, s.vm.Alike t.vm → H.size ≤ t.heap.size → (∀ q : Nat, q < H.size → t.heap[q]? = H[q]?) → XC cls s t)
    (hf : ∀ z ∈ locs, free z.base) (hc : cells + 1 ≤ mc) (hs : slots + 6 ≤ ms) :
    W p l e R s m args below meth c H locs cells slots (vx_MQ below Qc XC args s mc ms free) (F0 m pc ls rest) := by
  intro T hT X
  have htr : e.platform.stackTraces = false := (show e.platform.stackTraces = l.stackTraces by rw [X.admits.platform]).trans hl
  have Y := vx_rebase X (R' := { frames := R.frames, locals := R.locals, cells := 1, slots := 6 }) (Nat.le_refl _) (Nat.le_refl _) hRcells hRslots
  obtain ⟨s', hA⟩ : ∃ z, z = (T.setVm s.vm).setFrames (.invoking m args :: below) := ⟨_, rfl⟩
  rw [← hA] at Y
  have hvm : s'.vm = s.vm := by rw [hA]; rfl
  have hhp : s'.heap = H := by rw [hA]; exact hT
  have hW0 : s.WarmedH s'.vm := by rw [hvm]; exact State.WarmedH.refl s
  have hat' : ∀ w ∈ vx_atS own ic cls names, w.before args s' = true := fun w hw => vx_ot_at hW0 hvm.symm (hgood w (List.mem_cons_of_mem _ (List.mem_cons_of_mem _ hw))) (hat w hw)
  have hk' : (Cond.classLink own ik cls).before args s' = true := vx_ot_at hW0 hvm.symm (hgood _ List.mem_cons_self) hk
  have hini' : (Cond.initialized cls).before args s' = true := vx_ot_at hW0 hvm.symm (hgood _ (List.mem_cons_of_mem _ List.mem_cons_self)) hini
  have hU' : vx_Zq Bundle.tN "UNASSIGNED_STACK" Bundle.steD A s' s'.heap := by rw [hhp]; exact vx_Zq.moved hW0.alike (hU.kept hS.2.1)
  have hN' : vx_Zq Bundle.tN "SUPPRESSED_SENTINEL" Bundle.listD A s' s'.heap := by rw [hhp]; exact vx_Zq.moved hW0.alike (hN.kept hS.2.1)
  have h : ∀ w ∈ Bundle.ownAtoms own ic cls names, w.before args s' = true := vx_own hat' (vx_isRefq hU'.1) (vx_isRefq hN'.1) hU'.2.word hN'.2.word
  have hown' : s'.vm.findClass own = some m.cls := by rw [hvm]; exact hown
  have hins : (Cond.instantiable cls 6).before args s' = true := h _ (by simp [Bundle.ownAtoms])
  obtain ⟨vm₁, cX, kX, hfX, hkX, -, -, X₁, st1⟩ := Y.newCold hexec (own := own) (C := cls) (index := ik) (n := 6) hown' hk' hins hini'
    (g := F0 m pc ls rest) rfl (by rw [hb]; exact d0) (Nat.le_refl _) (Nat.le_refl _)
  generalize hT1 : (T.setVm vm₁).pushCell { cls := cX, slots := kX.instanceTypes.map defaultValue, vm := .none } = T1 at X₁ st1
  have hcat : (Value.ref T.heap.size).category = 1 := rfl
  have hcellA : T1.heap[T.heap.size]? = some (freshCell cX kX) := by rw [← hT1]; exact State.heap_pushCell_size _ _
  have d3' : decode c.code (pc + 3) = .ok (.dup, 1) := by rw [hb]; exact d3
  have d4' : decode c.code (pc + 4) = .ok (.ldc is, 2) := by rw [hb]; exact d4
  have hstr' : vk_R own is text sa s' := vk_R.warm hW0 hstr
  obtain ⟨U, hsteps, hrun, hend, hW, hsame, ce, hce, hO⟩ := X₁.ctorThrowS hexec htr (own := own) (cls := cls) (names := names) (ic := ic) hown' hcls hnames h (fun x hx => nomatch hx) hfX hkX hcellA (by rw [hhp, hT]; exact Nat.le_refl _) (msg := .ref sa) rfl
    (g := { method := m, pc := pc + 6, locals := ls, stack := .ref sa :: .ref T.heap.size :: .ref T.heap.size :: rest, locked := none }) rfl hsize rfl rfl (rest := rest) rfl
    (by rw [hb]; exact d6) (by rw [hb]; exact d9) hout hRframes (by simp only [List.map_cons, List.sum_cons, hcat]; omega) hlocks
  obtain ⟨f1, f2⟩ := vx_frame hsame
  rw [hhp] at f1 f2
  have hWs : s.WarmedH U.vm := State.WarmedH.trans hW0 hW
  have hcl : s.vm.findClass cls = some ce.cls := by
    have h9 := hO.cls
    rw [hvm] at h9
    exact h9
  have hall : s.sameButNew ({ U with vm := s.vm } : State) locs mc ms := by
    subst hA
    obtain ⟨e1, e2⟩ := hsame
    rw [State.setFrames_setFrames] at e1
    have h2 : (T.setVm s.vm).sameButNew ({ U with vm := s.vm } : State) [] (0 + 1) (0 + 6) := ⟨e1, e2⟩
    have h3 := X.same.trans h2
    rw [List.append_nil] at h3
    exact h3.mono hc hs
  refine ⟨U, ?_, .threw T.heap.size, hrun, hend, Or.inr ⟨T.heap.size, rfl, cls, ce, locs, hx U hWs.alike f1 (fun q hq => f2 q hq (fun z hz => nomatch hz)), hce, hO.vm, hcl, hWs, hall, hf⟩⟩
  refine st1 _ ?_
  show Steps p.tables e below (T1.setTop { method := m, pc := pc + 3, locals := ls, stack := .ref T.heap.size :: rest, locked := none }) _
  jvm_step X₁.here [X₁.here.top, hexec, d3', Value.category]
  exact X₁.ldcString hexec (own := own) (text := text) (index := is) (a := sa) hown' hstr'.1 hstr'.2
    (g := { method := m, pc := pc + 4, locals := ls, stack := .ref T.heap.size :: .ref T.heap.size :: rest, locked := none }) rfl d4' _ hsteps
/-- 'throw new E("text")', the text by a wide index -/
theorem vx_throwSW {cc : ByteArray} {pc : Nat} (hexec : p.tables.exec = Jvm.exec) (hb : c.code = cc) (hl : l.stackTraces = false) {own cls text : String} {names : List String} {ik is ic mc ms sa : Nat} {A : Nat → Prop}
    (hown : s.vm.findClass own = some m.cls) (hcls : Bundle.fit cls = true) (hnames : ∀ n ∈ names, Bundle.fit n = true)
    (hk : (Cond.classLink own ik cls).before args s = true) (hini : (Cond.initialized cls).before args s = true) (hstr : vk_R own is text sa s) (hat : ∀ w ∈ vx_atS own ic cls names, w.before args s = true)
    (hgood : ∀ w ∈ Cond.classLink own ik cls :: Cond.initialized cls :: vx_atS own ic cls names, vx_ot w = true)
    (hU : vx_Zq Bundle.tN "UNASSIGNED_STACK" Bundle.steD A s s.heap) (hN : vx_Zq Bundle.tN "SUPPRESSED_SENTINEL" Bundle.listD A s s.heap) (hS : va_S A s.heap H locs) (hsize : ls.size = c.maxLocals)
    (d0 : decode cc pc = .ok (.new ik, 3)) (d3 : decode cc (pc + 3) = .ok (.dup, 1)) (d4 : decode cc (pc + 4) = .ok (.ldc_w is, 3)) (d7 : decode cc (pc + 7) = .ok (.invokespecial ic, 3)) (d10 : decode cc (pc + 10) = .ok (.athrow, 1))
    (hout : ∀ x ∈ c.exceptionTable.toList, covers x (pc + 10) = false)
    (hRframes : names.length + 3 < R.frames) (hRlocals : (rest.map fun v => v.category).sum + (13 * (names.length + 1) + 43) ≤ R.locals) (hRcells : cells + 1 ≤ R.cells) (hRslots : slots + 6 ≤ R.slots) (hlocks : meth.locks = false)
    (hx : ∀ t : State, s.vm.Alike t.vm → H.size ≤ t.heap.size → (∀ q : Nat, q < H.size → t.heap[q]? = H[q]?) → XC cls s t)
    (hf : ∀ z ∈ locs, free z.base) (hc : cells + 1 ≤ mc) (hs : slots + 6 ≤ ms) :
    W p l e R s m args below meth c H locs cells slots (vx_MQ below Qc XC args s mc ms free) (F0 m pc ls rest) := by
  intro T hT X
  have htr : e.platform.stackTraces = false := (show e.platform.stackTraces = l.stackTraces by rw [X.admits.platform]).trans hl
  have Y := vx_rebase X (R' := { frames := R.frames, locals := R.locals, cells := 1, slots := 6 }) (Nat.le_refl _) (Nat.le_refl _) hRcells hRslots
  obtain ⟨s', hA⟩ : ∃ z, z = (T.setVm s.vm).setFrames (.invoking m args :: below) := ⟨_, rfl⟩
  rw [← hA] at Y
  have hvm : s'.vm = s.vm := by rw [hA]; rfl
  have hhp : s'.heap = H := by rw [hA]; exact hT
  have hW0 : s.WarmedH s'.vm := by rw [hvm]; exact State.WarmedH.refl s
  have hat' : ∀ w ∈ vx_atS own ic cls names, w.before args s' = true := fun w hw => vx_ot_at hW0 hvm.symm (hgood w (List.mem_cons_of_mem _ (List.mem_cons_of_mem _ hw))) (hat w hw)
  have hk' : (Cond.classLink own ik cls).before args s' = true := vx_ot_at hW0 hvm.symm (hgood _ List.mem_cons_self) hk
  have hini' : (Cond.initialized cls).before args s' = true := vx_ot_at hW0 hvm.symm (hgood _ (List.mem_cons_of_mem _ List.mem_cons_self)) hini
  have hU' : vx_Zq Bundle.tN "UNASSIGNED_STACK" Bundle.steD A s' s'.heap := by rw [hhp]; exact vx_Zq.moved hW0.alike (hU.kept hS.2.1)
  have hN' : vx_Zq Bundle.tN "SUPPRESSED_SENTINEL" Bundle.listD A s' s'.heap := by rw [hhp]; exact vx_Zq.moved hW0.alike (hN.kept hS.2.1)
  have h : ∀ w ∈ Bundle.ownAtoms own ic cls names, w.before args s' = true := vx_own hat' (vx_isRefq hU'.1) (vx_isRefq hN'.1) hU'.2.word hN'.2.word
  have hown' : s'.vm.findClass own = some m.cls := by rw [hvm]; exact hown
  have hins : (Cond.instantiable cls 6).before args s' = true := h _ (by simp [Bundle.ownAtoms])
  obtain ⟨vm₁, cX, kX, hfX, hkX, -, -, X₁, st1⟩ := Y.newCold hexec (own := own) (C := cls) (index := ik) (n := 6) hown' hk' hins hini'
    (g := F0 m pc ls rest) rfl (by rw [hb]; exact d0) (Nat.le_refl _) (Nat.le_refl _)
  generalize hT1 : (T.setVm vm₁).pushCell { cls := cX, slots := kX.instanceTypes.map defaultValue, vm := .none } = T1 at X₁ st1
  have hcat : (Value.ref T.heap.size).category = 1 := rfl
  have hcellA : T1.heap[T.heap.size]? = some (freshCell cX kX) := by rw [← hT1]; exact State.heap_pushCell_size _ _
  have d3' : decode c.code (pc + 3) = .ok (.dup, 1) := by rw [hb]; exact d3
  have d4' : decode c.code (pc + 4) = .ok (.ldc_w is, 3) := by rw [hb]; exact d4
  have hstr' : vk_R own is text sa s' := vk_R.warm hW0 hstr
  obtain ⟨U, hsteps, hrun, hend, hW, hsame, ce, hce, hO⟩ := X₁.ctorThrowS hexec htr (own := own) (cls := cls) (names := names) (ic := ic) hown' hcls hnames h (fun x hx => nomatch hx) hfX hkX hcellA (by rw [hhp, hT]; exact Nat.le_refl _) (msg := .ref sa) rfl
    (g := { method := m, pc := pc + 7, locals := ls, stack := .ref sa :: .ref T.heap.size :: .ref T.heap.size :: rest, locked := none }) rfl hsize rfl rfl (rest := rest) rfl
    (by rw [hb]; exact d7) (by rw [hb]; exact d10) hout hRframes (by simp only [List.map_cons, List.sum_cons, hcat]; omega) hlocks
  obtain ⟨f1, f2⟩ := vx_frame hsame
  rw [hhp] at f1 f2
  have hWs : s.WarmedH U.vm := State.WarmedH.trans hW0 hW
  have hcl : s.vm.findClass cls = some ce.cls := by
    have h9 := hO.cls
    rw [hvm] at h9
    exact h9
  have hall : s.sameButNew ({ U with vm := s.vm } : State) locs mc ms := by
    subst hA
    obtain ⟨e1, e2⟩ := hsame
    rw [State.setFrames_setFrames] at e1
    have h2 : (T.setVm s.vm).sameButNew ({ U with vm := s.vm } : State) [] (0 + 1) (0 + 6) := ⟨e1, e2⟩
    have h3 := X.same.trans h2
    rw [List.append_nil] at h3
    exact h3.mono hc hs
  refine ⟨U, ?_, .threw T.heap.size, hrun, hend, Or.inr ⟨T.heap.size, rfl, cls, ce, locs, hx U hWs.alike f1 (fun q hq => f2 q hq (fun z hz => nomatch hz)), hce, hO.vm, hcl, hWs, hall, hf⟩⟩
  refine st1 _ ?_
  show Steps p.tables e below (T1.setTop { method := m, pc := pc + 3, locals := ls, stack := .ref T.heap.size :: rest, locked := none }) _
  jvm_step X₁.here [X₁.here.top, hexec, d3', Value.category]
  exact X₁.ldcStringW hexec (own := own) (text := text) (index := is) (a := sa) hown' hstr'.1 hstr'.2
    (g := { method := m, pc := pc + 4, locals := ls, stack := .ref T.heap.size :: .ref T.heap.size :: rest, locked := none }) rfl d4' _ hsteps
end Ends
section Bodies
variable {l : Launch}
theorem vx_ofW {y : MethodName} {ws ws' : List Cond} {rm : Room} {Pc : Array Value → State → Prop} {Qc : Array Value → State → Outcome → State → Prop} {XC : String → State → State → Prop} {mc ms : Nat} {free : Addr → Prop} {cc : ByteArray} {maxL : Nat} {ret : Option FieldType}
    (hy : plainName y.cls = true) (hw : ws = Cond.code y cc maxL ret :: ws')
    (body : ∀ p e s m args below meth c s₁, BodyLoose p l y (headSpec ws rm) cc maxL ret e s m args below meth c s₁ → c.maxLocals = maxL → (∀ x ∈ c.exceptionTable.toList, False) → Pc args s →
      W p l e (headSpec ws rm).room s m args below meth c s.heap [] 0 0 (vx_MQ below Qc XC args s mc ms free) (entryFrame m args maxL)) : vx_Met l y ws rm Pc Qc XC mc ms free := by
  refine MetFree.of_bodyS (code := cc) (maxLocals := maxL) (ret := ret) hy ?_ ?_
  · intro args s m h hn
    obtain ⟨meth, c, h1, h2, h3, h4, h5, h6, -, -⟩ := Cond.code_spec hn (atoms_spec (ws := ws) h _ (by rw [hw]; exact List.mem_cons_self))
    exact ⟨meth, c, h1, h2, h3, h4, h5, h6⟩
  · intro p e s m args below meth c s₁ B hml hP _
    have hh0 : s₁.heap = s.heap := by rw [B.state]; rfl
    have ht : ∀ x ∈ c.exceptionTable.toList, False := by
      obtain ⟨meth9, c9, h1, h2, -, -, -, -, h7, -⟩ := Cond.code_spec B.named (atoms_spec (ws := ws) B.pre _ (by rw [hw]; exact List.mem_cons_self))
      cases Option.some.inj (h1.symm.trans B.method)
      cases Option.some.inj (h2.symm.trans (Stand.of_body B).code)
      intro x hx
      rw [Array.isEmpty_iff.mp h7] at hx
      cases hx
    obtain ⟨t, a1, o, b1, b2, b3⟩ := body p e s m args below meth c s₁ B hml ht hP s₁ hh0 (Stand.of_body B)
    exact ⟨t, o, a1, b1, b2, b3⟩
/-- the table of a body with handlers -/
theorem vx_table {p : Program} {x y : MethodName} {S : Spec} {cc bytes : ByteArray} {maxL maxL' : Nat} {ret ret' : Option FieldType} {e : Env} {s s₁ : State} {m : MethodId} {args : Array Value} {below : List Frame} {meth : Method} {c : Code} {hh : List (Nat × Nat × Nat × Nat)}
    (B : BodyLoose p l y S cc maxL ret e s m args below meth c s₁) (h : (Cond.codeWith y bytes maxL' ret' hh).before args s = true) : c.exceptionTable.toList = tableOf hh := by
  obtain ⟨m9, meth9, c9, hn9, h1, h2, -, -, h6, -⟩ := Cond.codeWith_spec h
  cases Option.some.inj (hn9.symm.trans B.named)
  cases Option.some.inj (h1.symm.trans B.method)
  cases Option.some.inj (h2.symm.trans (Stand.of_body B).code)
  rw [← h6, table_eq]
end Bodies
end VXA
/-! ===== END ===== -/
/-! ===== BEGIN a static call of a method with an exception table ===== -/
section VXS
variable {p : Program} {l : Launch} {e : Env} {R : Room} {s : State} {m : MethodId} {args : Array Value} {below : List Frame} {meth : Method} {c : Code} {T : State} {H : Heap} {locs : List Loc} {cells slots : Nat}
abbrev vx_CSW (R : Room) (s : State) (args : Array Value) (own : String) (index : Nat) (y : MethodName) (bytes : ByteArray) (maxL : Nat) (ret : Option FieldType) (hh : List (Nat × Nat × Nat × Nat)) (ws : List Cond) (rm : Room) (mc ms n : Nat) : Prop :=
  (rm.cells = mc ∧ rm.slots = ms ∧ rm.frames + 1 ≤ R.frames ∧ 8 + (maxL + 11) + rm.locals ≤ R.locals ∧ (∀ w ∈ ws, ∀ (a' : Array Value) (U : State), s.WarmedH U.vm → w.before a' U = true) ∧ Cond.codeWith y bytes maxL ret hh ∈ ws) ∧
  (Cond.codeWith y bytes maxL ret hh).before args s = true ∧ (Cond.initialized y.cls).before args s = true ∧ (y.cls ≠ "java/lang/invoke/MethodHandle" ∧ y.cls ≠ "java/lang/invoke/VarHandle") ∧
  (∀ sig, parseMethodDescriptor y.desc = some sig → n = sig.parameters.length) ∧ (Cond.methodLink own index y).before args s = true ∧ (Cond.static y).before args s = true
theorem vx_cwSW {own : String} {index maxL mc ms : Nat} {y : MethodName} {bytes : ByteArray} {ret : Option FieldType} {hh : List (Nat × Nat × Nat × Nat)} {Ts ws ws' : List Cond} {rm : Room} (n : Nat) (ht : ∀ w ∈ Ts, w.before args s = true) (hT : GoodIn Ts (va_wsS own index y ws)) (hw : ws = Cond.codeWith y bytes maxL ret hh :: ws') (hrc : rm.cells = mc) (hrs : rm.slots = ms)
    (hd : y.cls ≠ "java/lang/invoke/MethodHandle" ∧ y.cls ≠ "java/lang/invoke/VarHandle" ∧ (parseMethodDescriptor y.desc).map (fun d => d.parameters.length) = some n) (hR : rm.frames + 1 ≤ R.frames ∧ 8 + (maxL + 11) + rm.locals ≤ R.locals) :
    vx_CSW R s args own index y bytes maxL ret hh ws rm mc ms n := by
  have ok : ∀ w ∈ va_wsS own index y ws, w.before args s = true := fun w h => ht w (hT w h).1
  have hG : GoodIn Ts ws := fun w h => hT w (by unfold va_wsS; exact List.mem_append_right _ h)
  have hc : Cond.codeWith y bytes maxL ret hh ∈ ws := by rw [hw]; exact List.mem_cons_self
  refine ⟨⟨hrc, hrs, hR.1, hR.2, pay_in ht hG, hc⟩, ht _ (hG _ hc).1, ok _ (by simp [va_wsS]), ⟨hd.1, hd.2.1⟩, fun sig h => ?_, ok _ (by simp [va_wsS]), ok _ (by simp [va_wsS])⟩
  have h2 := hd.2.2
  rw [h] at h2
  exact (Option.some.inj h2).symm
theorem vx_callSW (X : Stand p l e R s m args below meth c T locs cells slots) (hexec : p.tables.exec = Jvm.exec) {own : String} {index : Nat} {y : MethodName} {bytes : ByteArray} {maxL : Nat} {ret : Option FieldType} {hh : List (Nat × Nat × Nat × Nat)}
    (hown : s.vm.findClass own = some m.cls) (hlink : (Cond.methodLink own index y).before args s = true) (hstat : (Cond.static y).before args s = true) (hinit : (Cond.initialized y.cls).before args s = true)
    (hcode : (Cond.codeWith y bytes maxL ret hh).before args s = true) (hy : y.cls ≠ "java/lang/invoke/MethodHandle" ∧ y.cls ≠ "java/lang/invoke/VarHandle")
    {W9 : Nat} {Pre : Pt → Array Value → Prop} {Post : Pt → Array Value → Option Value → Pt → Prop} (hK : Back l R p e below s args y 3 W9 Pre Post)
    {g : JFrame} (hg : g.method = m) (hsize : g.locals.size = c.maxLocals) {argsL rest : List Value} (hlen : ∀ sig, parseMethodDescriptor y.desc = some sig → argsL.length = sig.parameters.length)
    (hstack : g.stack = argsL.reverse ++ rest) (hW : 2 * g.monitorRoom + (rest.map fun v => v.category).sum ≤ W9) (hdg : decode c.code g.pc = .ok (.invokestatic index, 3))
    (hpre : ∀ vm₁, s.WarmedH vm₁ → Pre ⟨T.setVm vm₁, locs, cells, slots⟩ argsL.toArray) :
    ∃ (v : Option Value) (vm₁ : Vm) (B : Pt), s.WarmedH vm₁ ∧ Stand p l e R s m args below meth c B.U B.locs B.cells B.slots ∧ Post ⟨T.setVm vm₁, locs, cells, slots⟩ argsL.toArray v B ∧
      ∀ target, Steps p.tables e below (B.U.setTop { g with pc := g.pc + 3, stack := v.toList ++ rest }) target → Steps p.tables e below (T.setTop g) target := by
  obtain ⟨mk, methM, cM, hnamed, hmethM, -, -, -, -, -, -, hsigM⟩ := Cond.codeWith_spec hcode
  have hstatic : methM.isStatic = true := Cond.static_spec hnamed hmethM hstat
  obtain ⟨kP, hkP, -⟩ := className_of_methodNamed hnamed
  have hinitP : kP.init = .initialized := Cond.initialized_spec (findClass_of_methodNamed hnamed) hkP hinit
  obtain ⟨vm₁, X₁, hstep₁⟩ := X.invokestatic hexec hown hlink hnamed hmethM hstatic hkP hinitP hy (g := g) hg (argsL := argsL) (rest := rest) (hlen _ hsigM) hstack hdg
  obtain ⟨v, B, X', hpost, hsteps⟩ := hK m meth c ⟨T.setVm vm₁, locs, cells, slots⟩ { g with stack := rest } (.invokestatic index) mk argsL.toArray X₁ hg hsize hdg hW (X₁.named hnamed) (hpre vm₁ X₁.warmed)
  exact ⟨v, vm₁, B, X₁.warmed, X', hpost, fun target h => hstep₁ _ fun acts => by rw [doInvoke_state]; exact hsteps.trans h⟩
theorem vx_runSW {y : MethodName} {bytes cc : ByteArray} {maxL nL mc ms n index : Nat} {ret : Option FieldType} {hh : List (Nat × Nat × Nat × Nat)} {ws : List Cond} {rm : Room} {Pc : Array Value → State → Prop} {Qc : Array Value → State → Outcome → State → Prop} {free : Addr → Prop} {Ts : List Cond} {own : String} {As rest : List Value} {g : JFrame}
    (S : CallFix p m c cc nL s args Ts own) (hM : Met l y ws rm Pc Qc mc ms free) (cw : vx_CSW R s args own index y bytes maxL ret hh ws rm mc ms n) (hp : PreS s H Pc As)
    (hg : g.method = m) (hn : As.length = n) (hsize : g.locals.size = nL) (hstack : g.stack = As.reverse ++ rest) (hW : 2 * g.monitorRoom + (rest.map fun v => v.category).sum ≤ 8) (hdg : decode cc g.pc = .ok (.invokestatic index, 3)) (hf : cells + mc ≤ R.cells ∧ slots + ms ≤ R.slots) :
    va_Run p l e R s m args below meth c H locs cells slots mc ms g rest (Qc As.toArray) (free) := by
  obtain ⟨⟨hrc, hrs, hfr, hlo, hws, hcw⟩, hcode, hini, hy, hlen, hl, hstt⟩ := cw
  have hK : Back l R p e below s args y 3 8 (PreOf R mc ms Pc) (PostOf Qc mc ms free) := va_backW (hh := hh) (bytes := bytes) (maxL := maxL) (ret := ret) hM hp.1 hrc hrs hfr hlo hws hcw (fun a' U hW => word_at hW (Or.inl (by first | rfl | simp [Cond.onTables, Cond.keeps, Cond.steady])) hini)
  obtain ⟨hx, hb, hml, ho, -⟩ := S
  intro T hT X
  obtain ⟨v, vm₁, ⟨U', l2, c2, s2⟩, hW₁, X', ⟨g', mk, t, L, e1, e2, hq, h1, hL, h2, h3⟩, st⟩ := vx_callSW X hx (hh := hh) (bytes := bytes) (maxL := maxL) (ret := ret) ho hl hstt hini hcode hy hK hg (hsize.trans hml.symm) (argsL := As) (rest := rest) (fun sig h => hn.trans (hlen sig h)) hstack hW (by rw [hb]; exact hdg)
    (fun vm₁ hW₁ => ⟨hf.1, hf.2, hp.2 (T.setVm vm₁) hT hW₁⟩)
  dsimp only [Pt.U, Pt.locs, Pt.cells, Pt.slots] at X' e1 e2 h1 h2 h3 st
  subst h1; subst h2; subst h3
  exact ⟨v, (T.setVm vm₁).calling g' mk As.toArray, t, U', L, hT, X', hL, e1, e2, hq, st⟩
/-- not caught here, past rows that name other classes: it goes on to the caller -/
theorem vx_outP {p : Program} {l : Launch} {e : Env} {R : Room} {s : State} {m : MethodId} {args : Array Value} {below : List Frame} {meth : Method} {c : Code} {H : Heap} {locs : List Loc} {cells slots : Nat} {free : Addr → Prop} {ls : Array Slot} {rest : List Value} {Qc : Array Value → State → Outcome → State → Prop} {XC : String → State → State → Prop}
    {pc : Nat} {own E : String} {ce : Cell} {q : Addr} {mc ms : Nat} (hown : s.vm.findClass own = some m.cls) (hlocks : meth.locks = false)
    (hpass : ∀ z ∈ c.exceptionTable.toList, covers z pc = false ∨ (z.catchType ≠ 0 ∧ ∃ nm : String, (Cond.classLink own z.catchType nm).before args s = true ∧ va_Nc E nm s)) (hcell : H[q]? = some ce) (hv : ce.vm = .none) (hcl : s.vm.findClass E = some ce.cls)
    (hx : ∀ t : State, t.heap = H → s.vm.Alike t.vm → XC E s t) (hf : ∀ z ∈ locs, free z.base) (hc : cells ≤ mc) (hs : slots ≤ ms) :
    vx_W p l e R s m args below meth c H locs cells slots (vx_MQ below Qc XC args s mc ms free) (F0 m pc ls rest) q := by
  intro T hT X
  have hpl : e.platform.magicAccessors = ({} : Platform).magicAccessors := by rw [X.admits.platform]
  obtain ⟨vm', hW', X', st⟩ := X.outThrough hlocks q (g := F0 m pc ls rest) rfl rfl rfl (cell := ce) (by rw [hT]; exact hcell) (by rw [hv]; rfl)
    (by obtain ⟨k9, h9, -⟩ := Vm.findClass_spec hcl; exact ⟨k9, h9⟩) (fun z hz => by
      rcases hpass z hz with h | ⟨hz0, nm, hl1, hn1⟩
      · exact Or.inl h
      · obtain ⟨c6, hc6, hcl6⟩ := Cond.classLink_spec hown hl1 e.platform hpl
        obtain ⟨a8, b8, h1, h2, h3⟩ := hn1
        cases Option.some.inj (h1.symm.trans hcl)
        cases Option.some.inj (h2.symm.trans hc6)
        exact Or.inr ⟨hz0, _, hcl6, h3⟩)
  obtain ⟨g₀, hfr⟩ := X'.frames_eq
  have hcell9 : ((T.setVm vm').setFrames (.throwing q :: below)).heap[q]? = some ce := by
    show T.heap[q]? = some ce
    rw [hT]; exact hcell
  have hend : Ended ((T.setVm vm').setFrames (.throwing q :: below)) below (.threw q) := State.frames_setFrames _ (State.cur_lt_of_frames hfr)
  refine ⟨(T.setVm vm').setFrames (.throwing q :: below), ?_, .threw q, X'.here.running, hend, Or.inr ⟨q, rfl, E, ce, locs, hx _ hT (X'.ends _).1.alike, hcell9, hv, hcl, (X'.ends _).1, (X'.ends _).2.mono hc hs, hf⟩⟩
  rw [X.pushThrowing_eq]
  exact st
/-- a thing of a world lies in the heap -/
theorem vx_lt {D : va_G} {cl : List vw_C} {ws : va_W} {H1 : Heap} (h : va_P D cl ws H1) {k : Nat} {q : Nat × va_E} (hk : ws[k]? = some q) : q.1 < H1.size := (h k q hk).lt
end VXS
/-! ===== END ===== -/
/-! ===== BEGIN methods with a table of their own: called by a name, returning or throwing ===== -/
section VXH
/-! vx_backW, vx_callVX, vx_callSX, vx_callVW, vx_runVW, vx_runVX, vx_runSX, vx_ofWH follow the same proofs as their sisters above (Free/Laws.lean, Shelf42/LK1.lean); vx_outP calls Shelf42/NT130.lean (outThrough). -/
section
variable {l : Launch} {R : Room} {p : Program} {e : Env} {below : List Frame} {s : State} {sargs : Array Value} {y : MethodName} {len W9 : Nat}
theorem vx_backW {ws : List Cond} {rm : Room} {Pc : Array Value → State → Prop} {Qc : Array Value → State → Outcome → State → Prop} {XC : String → State → State → Prop} {mc ms : Nat} {free : Addr → Prop} {bytes : ByteArray} {maxL : Nat} {ret : Option FieldType} {hh : List (Nat × Nat × Nat × Nat)}
    (hM : vx_Met l y ws rm Pc Qc XC mc ms free) (hblind : FrameBlind Pc) (hrc : rm.cells = mc) (hrs : rm.slots = ms)
    (hframes : rm.frames + 1 ≤ R.frames) (hlocals : W9 + (maxL + 11) + rm.locals ≤ R.locals)
    (hws : ∀ w ∈ ws, ∀ a' U, s.WarmedH U.vm → w.before a' U = true) (hcode : Cond.codeWith y bytes maxL ret hh ∈ ws) (hinit : ∀ a' U, s.WarmedH U.vm → (Cond.initialized y.cls).before a' U = true) :
    vx_Back l R p e below s sargs y len W9 (PreOf R mc ms Pc) (PostOf Qc mc ms free) (vx_Post XC mc ms free) := by
  intro m meth c A g ig mk a X hg hsize hdg hW hn hp
  have h1 : (headSpec ws rm).pre.before a A.U = true := atoms_intro fun w hw => hws w hw _ _ X.warmed
  have h2 : (Cond.codeWith y bytes maxL ret hh).before a A.U = true := hws _ hcode _ _ X.warmed
  have h3 : (Cond.initialized y.cls).before a A.U = true := hinit _ _ X.warmed
  have h4 : A.cells + (headSpec ws rm).room.cells ≤ R.cells := by rw [show (headSpec ws rm).room.cells = mc from hrc]; exact hp.1
  have h5 : A.slots + (headSpec ws rm).room.slots ≤ R.slots := by rw [show (headSpec ws rm).room.slots = ms from hrs]; exact hp.2.1
  have hPc : Pc a (A.U.calling g mk a) := hblind _ _ _ _ hp.2.2
  obtain ⟨U, Ls, c0, s0⟩ := A
  dsimp only [Pt.U, Pt.locs, Pt.cells, Pt.slots] at h1 h2 h3 h4 h5 X hn hPc ⊢
  obtain ⟨m9, methY, cY, hn9, hmY, hcY, -, hlY, -⟩ := Cond.codeWith_spec h2
  cases Option.some.inj (hn9.symm.trans hn)
  obtain ⟨kY, hkY, -⟩ := className_of_methodNamed hn
  have hinitY : kY.init = .initialized := Cond.initialized_spec (findClass_of_methodNamed hn) hkY h3
  have h : At U g.method c below := by rw [hg]; exact X.here
  have hlocals9 : W9 + (maxL + 11) + (headSpec ws rm).room.locals ≤ R.locals := hlocals
  have happ : (headSpec ws rm).appliesLoose y e.platform (U.calling g mk a) = true :=
    Spec.appliesLoose_calling (g := g) h hdg hn hkY hinitY
      (X.room_calling (g := g) (R' := (headSpec ws rm).room) hsize hmY hcY hframes (by rw [hlY]; omega) h4 h5) h1
  obtain ⟨mid, hmid⟩ := h.above
  have hfr : (U.setTop g).frames = (.java g :: mid) ++ below := by rw [State.frames_setTop' g h.top, hmid]; rfl
  obtain ⟨o, s₂, hsteps, -, hend, hq⟩ := Steps.callFree hM p X.admits X.cas X.clock (acts := []) hfr happ hPc trivial
  have hq' : vx_Q Qc XC mc ms free a (U.calling g mk a) o s₂ := hq
  rw [State.frames_setTop' g h.top] at hend
  obtain ⟨g₀, hg0⟩ := Option.isSome_iff_exists.mp h.top
  obtain ⟨r, hr⟩ := State.topJava?_eq_some.mp hg0
  have hr' : (({ U with heap := s₂.heap, slotsUsed := s₂.slotsUsed } : State).setVm s₂.vm).frames = .java g₀ :: r := hr
  rcases hq' with ⟨hqc, L, hfe, hL⟩ | ⟨q, rfl, E, ce, L, hx, hce, hcv, hcl, hW₂, hsm, hL⟩
  · obtain ⟨⟨v, rfl⟩, hW₂, e2, q2, q3, q4, q5, q6⟩ := id hfe
    have e3 : s₂ = ({ (U.calling g mk a).setFrames s₂.frames with heap := s₂.heap, slotsUsed := s₂.slotsUsed } : State).setVm s₂.vm := by
      have : s₂ = ({ s₂ with vm := (U.calling g mk a).vm } : State).setVm s₂.vm := rfl
      rw [e2] at this
      exact this
    obtain ⟨c₂, i₂, len₂, hc₂, hd₂, hf₂⟩ := hend
    have hW' : U.WarmedH s₂.vm := hW₂
    have hcc : c₂ = c := by
      have h1 : s₂.code? g.method = U.code? g.method := by
        rw [State.code?_eq, State.code?_eq, hW'.alike.method?]
      exact Option.some.inj (hc₂.symm.trans (h1.trans h.code))
    subst hcc
    have hlen : len₂ = len := by rw [hdg] at hd₂; cases hd₂; rfl
    subst hlen
    have hs₂ : s₂ = (({ U with heap := s₂.heap, slotsUsed := s₂.slotsUsed } : State).setVm s₂.vm).setTop { g with pc := g.pc + len₂, stack := v.toList ++ g.stack } := by
      refine e3.trans ?_
      rw [hf₂, State.calling_eq h.top, State.setFrames_setFrames, State.setTop_of_frames _ hr', hr]
      rfl
    have hsame : U.sameButNew ({ U with heap := s₂.heap, slotsUsed := s₂.slotsUsed } : State) L mc ms := by
      refine ⟨?_, q2, q3, q4, q5, q6⟩
      obtain ⟨t, ht, -⟩ := State.frames_cons hr
      show ({ U with heap := s₂.heap, slotsUsed := s₂.slotsUsed } : State) = { U.setFrames U.frames with heap := s₂.heap, slotsUsed := s₂.slotsUsed }
      rw [State.setFrames_self ht]
    subst hg
    refine Or.inl ⟨v, ⟨(({ U with heap := s₂.heap, slotsUsed := s₂.slotsUsed } : State).setVm s₂.vm), Ls ++ L, c0 + mc, s0 + ms⟩,
      ⟨X.admits, X.cas, X.clock, X.frames, X.room, X.hears, X.method, X.code, (X.here.setHeapUsed s₂.heap s₂.slotsUsed).setVm hW'.alike, X.tail, State.WarmedH.trans X.warmed hW', X.limits, X.bytes, X.same.trans (hsame.setVm s.vm)⟩,
      ⟨g, mk, s₂, L, rfl, rfl, hqc, rfl, hL, rfl, rfl⟩, ?_⟩
    show Steps p.tables e below _ ((({ U with heap := s₂.heap, slotsUsed := s₂.slotsUsed } : State).setVm s₂.vm).setTop { g with pc := g.pc + len₂, stack := v.toList ++ g.stack })
    rw [← hs₂]
    exact hsteps
  · obtain ⟨e2, q2, q3, q4, q5, q6⟩ := id hsm
    have e3 : s₂ = ({ (U.calling g mk a).setFrames s₂.frames with heap := s₂.heap, slotsUsed := s₂.slotsUsed } : State).setVm s₂.vm := by
      have : s₂ = ({ s₂ with vm := (U.calling g mk a).vm } : State).setVm s₂.vm := rfl
      rw [e2] at this
      exact this
    have hf₂ : s₂.frames = .throwing q :: .java g :: U.frames.tail := hend
    have hW' : U.WarmedH s₂.vm := hW₂
    have hs₂ : s₂ = ((({ U with heap := s₂.heap, slotsUsed := s₂.slotsUsed } : State).setVm s₂.vm).setTop g).pushFrame (.throwing q) := by
      refine e3.trans ?_
      rw [hf₂, State.calling_eq h.top, State.setFrames_setFrames, State.pushFrame, State.frames_setTop _ hr', State.setTop_of_frames _ hr', State.setFrames_setFrames, hr]
      rfl
    have hsame : U.sameButNew ({ U with heap := s₂.heap, slotsUsed := s₂.slotsUsed } : State) L mc ms := by
      refine ⟨?_, q2, q3, q4, q5, q6⟩
      obtain ⟨t, ht, -⟩ := State.frames_cons hr
      show ({ U with heap := s₂.heap, slotsUsed := s₂.slotsUsed } : State) = { U.setFrames U.frames with heap := s₂.heap, slotsUsed := s₂.slotsUsed }
      rw [State.setFrames_self ht]
    subst hg
    refine Or.inr ⟨q, ⟨(({ U with heap := s₂.heap, slotsUsed := s₂.slotsUsed } : State).setVm s₂.vm), Ls ++ L, c0 + mc, s0 + ms⟩,
      ⟨X.admits, X.cas, X.clock, X.frames, X.room, X.hears, X.method, X.code, (X.here.setHeapUsed s₂.heap s₂.slotsUsed).setVm hW'.alike, X.tail, State.WarmedH.trans X.warmed hW', X.limits, X.bytes, X.same.trans (hsame.setVm s.vm)⟩,
      ⟨g, mk, s₂, L, E, ce, rfl, rfl, hx, hce, hcv, hcl, rfl, hL, rfl, rfl⟩, ?_⟩
    show Steps p.tables e below _ (((({ U with heap := s₂.heap, slotsUsed := s₂.slotsUsed } : State).setVm s₂.vm).setTop g).pushFrame (.throwing q))
    rw [← hs₂]
    exact hsteps
end
variable {p : Program} {l : Launch} {e : Env} {R : Room} {s : State} {m : MethodId} {args : Array Value} {below : List Frame} {meth : Method} {c : Code} {T : State} {H : Heap} {locs : List Loc} {cells slots : Nat}
theorem vx_callVX (X : Stand p l e R s m args below meth c T locs cells slots) (hexec : p.tables.exec = Jvm.exec) {own C : String} {index : Nat} {y : MethodName} {bytes : ByteArray} {maxL : Nat} {ret : Option FieldType} {hh : List (Nat × Nat × Nat × Nat)}
    (hown : s.vm.findClass own = some m.cls) (hlink : (Cond.methodLink own index y).before args s = true) (hinst : (Cond.instanceMethod y).before args s = true) (hsel : (Cond.selects C y y).before args s = true)
    (hcode : (Cond.codeWith y bytes maxL ret hh).before args s = true) (hy : y.cls ≠ "java/lang/invoke/MethodHandle" ∧ y.cls ≠ "java/lang/invoke/VarHandle")
    {W9 : Nat} {Pre : Pt → Array Value → Prop} {Post : Pt → Array Value → Option Value → Pt → Prop} {PostX : Pt → Array Value → Addr → Pt → Prop} (hK : vx_Back l R p e below s args y 3 W9 Pre Post PostX)
    {b : Addr} {cellB : Cell} (hcell : T.heap[b]? = some cellB) (hobj : cellB.vm.isStatics = false) (hcls : s.vm.findClass C = some cellB.cls)
    {g : JFrame} (hg : g.method = m) (hsize : g.locals.size = c.maxLocals) {argsL rest : List Value} (hlen : ∀ sig, parseMethodDescriptor y.desc = some sig → argsL.length = sig.parameters.length)
    (hstack : g.stack = argsL.reverse ++ .ref b :: rest) (hW : 2 * g.monitorRoom + (rest.map fun v => v.category).sum ≤ W9) (hdg : decode c.code g.pc = .ok (.invokevirtual index, 3))
    (hpre : ∀ vm₁, s.WarmedH vm₁ → Pre ⟨T.setVm vm₁, locs, cells, slots⟩ (Value.ref b :: argsL).toArray) :
    (∃ (v : Option Value) (vm₁ : Vm) (B : Pt), s.WarmedH vm₁ ∧ Stand p l e R s m args below meth c B.U B.locs B.cells B.slots ∧ Post ⟨T.setVm vm₁, locs, cells, slots⟩ (Value.ref b :: argsL).toArray v B ∧
      ∀ target, Steps p.tables e below (B.U.setTop { g with pc := g.pc + 3, stack := v.toList ++ rest }) target → Steps p.tables e below (T.setTop g) target) ∨
    (∃ (q : Addr) (vm₁ : Vm) (B : Pt), s.WarmedH vm₁ ∧ Stand p l e R s m args below meth c B.U B.locs B.cells B.slots ∧ PostX ⟨T.setVm vm₁, locs, cells, slots⟩ (Value.ref b :: argsL).toArray q B ∧
      Steps p.tables e below (T.setTop g) ((B.U.setTop { g with stack := rest }).pushFrame (.throwing q))) := by
  obtain ⟨mk, methM, hnamed, hmethM, hstM, habM⟩ := Cond.instanceMethod_spec hinst
  obtain ⟨m8, methM', cM, hn8, hmethM', -, -, -, -, -, -, hsigM⟩ := Cond.codeWith_spec hcode
  cases Option.some.inj (hn8.symm.trans hnamed)
  cases hmethM.symm.trans hmethM'
  obtain ⟨c2, r2, m2, q1, q2, q3, q4, kP, hkP, hkPi⟩ := Cond.selects_spec hsel
  cases hcls.symm.trans q1
  cases (State.methodFound?_of_named hnamed hy).symm.trans q2
  cases hnamed.symm.trans q3
  have hselP : selectMethod e.platform s.vm cellB.cls mk = .method mk := by rw [Launch.admits_selectMethod X.admits]; exact q4
  obtain ⟨vm₁, X₁, hstep₁⟩ := X.invokevirtual hexec hown hlink hnamed hmethM hstM hkP hkPi hy (a := b) (cell := cellB) hcell
    (fun z h => by rw [h] at hobj; cases hobj) hselP hmethM habM hkP hkPi (g := g) hg (argsL := argsL) (rest := rest) (hlen _ hsigM) hstack hdg
  rcases hK m meth c ⟨T.setVm vm₁, locs, cells, slots⟩ { g with stack := rest } (.invokevirtual index) mk (Value.ref b :: argsL).toArray X₁ hg hsize hdg hW (X₁.named hnamed) (hpre vm₁ X₁.warmed) with ⟨v, B, X', hpost, hsteps⟩ | ⟨q, B, X', hpost, hsteps⟩
  · exact Or.inl ⟨v, vm₁, B, X₁.warmed, X', hpost, fun target h => hstep₁ _ fun acts => by rw [doInvoke_state]; exact hsteps.trans h⟩
  · exact Or.inr ⟨q, vm₁, B, X₁.warmed, X', hpost, hstep₁ _ fun acts => by rw [doInvoke_state]; exact hsteps⟩
theorem vx_callSX (X : Stand p l e R s m args below meth c T locs cells slots) (hexec : p.tables.exec = Jvm.exec) {own : String} {index : Nat} {y : MethodName} {bytes : ByteArray} {maxL : Nat} {ret : Option FieldType} {hh : List (Nat × Nat × Nat × Nat)}
    (hown : s.vm.findClass own = some m.cls) (hlink : (Cond.methodLink own index y).before args s = true) (hstat : (Cond.static y).before args s = true) (hinit : (Cond.initialized y.cls).before args s = true)
    (hcode : (Cond.codeWith y bytes maxL ret hh).before args s = true) (hy : y.cls ≠ "java/lang/invoke/MethodHandle" ∧ y.cls ≠ "java/lang/invoke/VarHandle")
    {W9 : Nat} {Pre : Pt → Array Value → Prop} {Post : Pt → Array Value → Option Value → Pt → Prop} {PostX : Pt → Array Value → Addr → Pt → Prop} (hK : vx_Back l R p e below s args y 3 W9 Pre Post PostX)
    {g : JFrame} (hg : g.method = m) (hsize : g.locals.size = c.maxLocals) {argsL rest : List Value} (hlen : ∀ sig, parseMethodDescriptor y.desc = some sig → argsL.length = sig.parameters.length)
    (hstack : g.stack = argsL.reverse ++ rest) (hW : 2 * g.monitorRoom + (rest.map fun v => v.category).sum ≤ W9) (hdg : decode c.code g.pc = .ok (.invokestatic index, 3))
    (hpre : ∀ vm₁, s.WarmedH vm₁ → Pre ⟨T.setVm vm₁, locs, cells, slots⟩ argsL.toArray) :
    (∃ (v : Option Value) (vm₁ : Vm) (B : Pt), s.WarmedH vm₁ ∧ Stand p l e R s m args below meth c B.U B.locs B.cells B.slots ∧ Post ⟨T.setVm vm₁, locs, cells, slots⟩ argsL.toArray v B ∧
      ∀ target, Steps p.tables e below (B.U.setTop { g with pc := g.pc + 3, stack := v.toList ++ rest }) target → Steps p.tables e below (T.setTop g) target) ∨
    (∃ (q : Addr) (vm₁ : Vm) (B : Pt), s.WarmedH vm₁ ∧ Stand p l e R s m args below meth c B.U B.locs B.cells B.slots ∧ PostX ⟨T.setVm vm₁, locs, cells, slots⟩ argsL.toArray q B ∧
      Steps p.tables e below (T.setTop g) ((B.U.setTop { g with stack := rest }).pushFrame (.throwing q))) := by
  obtain ⟨mk, methM, cM, hnamed, hmethM, -, -, -, -, -, -, hsigM⟩ := Cond.codeWith_spec hcode
  have hstatic : methM.isStatic = true := Cond.static_spec hnamed hmethM hstat
  obtain ⟨kP, hkP, -⟩ := className_of_methodNamed hnamed
  have hinitP : kP.init = .initialized := Cond.initialized_spec (findClass_of_methodNamed hnamed) hkP hinit
  obtain ⟨vm₁, X₁, hstep₁⟩ := X.invokestatic hexec hown hlink hnamed hmethM hstatic hkP hinitP hy (g := g) hg (argsL := argsL) (rest := rest) (hlen _ hsigM) hstack hdg
  rcases hK m meth c ⟨T.setVm vm₁, locs, cells, slots⟩ { g with stack := rest } (.invokestatic index) mk argsL.toArray X₁ hg hsize hdg hW (X₁.named hnamed) (hpre vm₁ X₁.warmed) with ⟨v, B, X', hpost, hsteps⟩ | ⟨q, B, X', hpost, hsteps⟩
  · exact Or.inl ⟨v, vm₁, B, X₁.warmed, X', hpost, fun target h => hstep₁ _ fun acts => by rw [doInvoke_state]; exact hsteps.trans h⟩
  · exact Or.inr ⟨q, vm₁, B, X₁.warmed, X', hpost, hstep₁ _ fun acts => by rw [doInvoke_state]; exact hsteps⟩
theorem vx_callVW (X : Stand p l e R s m args below meth c T locs cells slots) (hexec : p.tables.exec = Jvm.exec) {own C : String} {index : Nat} {y : MethodName} {bytes : ByteArray} {maxL : Nat} {ret : Option FieldType} {hh : List (Nat × Nat × Nat × Nat)}
    (hown : s.vm.findClass own = some m.cls) (hlink : (Cond.methodLink own index y).before args s = true) (hinst : (Cond.instanceMethod y).before args s = true) (hsel : (Cond.selects C y y).before args s = true)
    (hcode : (Cond.codeWith y bytes maxL ret hh).before args s = true) (hy : y.cls ≠ "java/lang/invoke/MethodHandle" ∧ y.cls ≠ "java/lang/invoke/VarHandle")
    {W9 : Nat} {Pre : Pt → Array Value → Prop} {Post : Pt → Array Value → Option Value → Pt → Prop} (hK : Back l R p e below s args y 3 W9 Pre Post)
    {b : Addr} {cellB : Cell} (hcell : T.heap[b]? = some cellB) (hobj : cellB.vm.isStatics = false) (hcls : s.vm.findClass C = some cellB.cls)
    {g : JFrame} (hg : g.method = m) (hsize : g.locals.size = c.maxLocals) {argsL rest : List Value} (hlen : ∀ sig, parseMethodDescriptor y.desc = some sig → argsL.length = sig.parameters.length)
    (hstack : g.stack = argsL.reverse ++ .ref b :: rest) (hW : 2 * g.monitorRoom + (rest.map fun v => v.category).sum ≤ W9) (hdg : decode c.code g.pc = .ok (.invokevirtual index, 3))
    (hpre : ∀ vm₁, s.WarmedH vm₁ → Pre ⟨T.setVm vm₁, locs, cells, slots⟩ (Value.ref b :: argsL).toArray) :
    ∃ (v : Option Value) (vm₁ : Vm) (B : Pt), s.WarmedH vm₁ ∧ Stand p l e R s m args below meth c B.U B.locs B.cells B.slots ∧ Post ⟨T.setVm vm₁, locs, cells, slots⟩ (Value.ref b :: argsL).toArray v B ∧
      ∀ target, Steps p.tables e below (B.U.setTop { g with pc := g.pc + 3, stack := v.toList ++ rest }) target → Steps p.tables e below (T.setTop g) target := by
  obtain ⟨mk, methM, hnamed, hmethM, hstM, habM⟩ := Cond.instanceMethod_spec hinst
  obtain ⟨m8, methM', cM, hn8, hmethM', -, -, -, -, -, -, hsigM⟩ := Cond.codeWith_spec hcode
  cases Option.some.inj (hn8.symm.trans hnamed)
  cases hmethM.symm.trans hmethM'
  obtain ⟨c2, r2, m2, q1, q2, q3, q4, kP, hkP, hkPi⟩ := Cond.selects_spec hsel
  cases hcls.symm.trans q1
  cases (State.methodFound?_of_named hnamed hy).symm.trans q2
  cases hnamed.symm.trans q3
  have hselP : selectMethod e.platform s.vm cellB.cls mk = .method mk := by rw [Launch.admits_selectMethod X.admits]; exact q4
  obtain ⟨vm₁, X₁, hstep₁⟩ := X.invokevirtual hexec hown hlink hnamed hmethM hstM hkP hkPi hy (a := b) (cell := cellB) hcell
    (fun z h => by rw [h] at hobj; cases hobj) hselP hmethM habM hkP hkPi (g := g) hg (argsL := argsL) (rest := rest) (hlen _ hsigM) hstack hdg
  obtain ⟨v, B, X', hpost, hsteps⟩ := hK m meth c ⟨T.setVm vm₁, locs, cells, slots⟩ { g with stack := rest } (.invokevirtual index) mk (Value.ref b :: argsL).toArray X₁ hg hsize hdg hW (X₁.named hnamed) (hpre vm₁ X₁.warmed)
  exact ⟨v, vm₁, B, X₁.warmed, X', hpost, fun target h => hstep₁ _ fun acts => by rw [doInvoke_state]; exact hsteps.trans h⟩
abbrev vx_CVW (R : Room) (s : State) (args : Array Value) (own C : String) (index : Nat) (y : MethodName) (bytes : ByteArray) (maxL : Nat) (ret : Option FieldType) (hh : List (Nat × Nat × Nat × Nat)) (ws : List Cond) (rm : Room) (mc ms n : Nat) : Prop :=
  (rm.cells = mc ∧ rm.slots = ms ∧ rm.frames + 1 ≤ R.frames ∧ 8 + (maxL + 11) + rm.locals ≤ R.locals ∧ (∀ w ∈ ws, ∀ (a' : Array Value) (U : State), s.WarmedH U.vm → w.before a' U = true) ∧ Cond.codeWith y bytes maxL ret hh ∈ ws) ∧
  (Cond.codeWith y bytes maxL ret hh).before args s = true ∧ (Cond.initialized y.cls).before args s = true ∧ (y.cls ≠ "java/lang/invoke/MethodHandle" ∧ y.cls ≠ "java/lang/invoke/VarHandle") ∧
  (∀ sig, parseMethodDescriptor y.desc = some sig → n = sig.parameters.length) ∧ (Cond.methodLink own index y).before args s = true ∧ (Cond.instanceMethod y).before args s = true ∧ (Cond.selects C y y).before args s = true
theorem vx_cwVW {own C : String} {index maxL mc ms : Nat} {y : MethodName} {bytes : ByteArray} {ret : Option FieldType} {hh : List (Nat × Nat × Nat × Nat)} {Ts ws ws' : List Cond} {rm : Room} (n : Nat) (ht : ∀ w ∈ Ts, w.before args s = true) (hT : GoodIn Ts (wsV own index C y ws)) (hw : ws = Cond.codeWith y bytes maxL ret hh :: ws') (hrc : rm.cells = mc) (hrs : rm.slots = ms)
    (hd : y.cls = C ∧ y.cls ≠ "java/lang/invoke/MethodHandle" ∧ y.cls ≠ "java/lang/invoke/VarHandle" ∧ (parseMethodDescriptor y.desc).map (fun d => d.parameters.length) = some n) (hR : rm.frames + 1 ≤ R.frames ∧ 8 + (maxL + 11) + rm.locals ≤ R.locals) :
    vx_CVW R s args own C index y bytes maxL ret hh ws rm mc ms n := by
  obtain ⟨hC, hd⟩ := hd
  subst hC
  have ok : ∀ w ∈ wsV own index y.cls y ws, w.before args s = true := fun w h => ht w (hT w h).1
  have hG : GoodIn Ts ws := fun w h => hT w (by unfold wsV; exact List.mem_append_right _ h)
  have hc : Cond.codeWith y bytes maxL ret hh ∈ ws := by rw [hw]; exact List.mem_cons_self
  refine ⟨⟨hrc, hrs, hR.1, hR.2, pay_in ht hG, hc⟩, ht _ (hG _ hc).1, ok _ (by simp [wsV]), ⟨hd.1, hd.2.1⟩, fun sig h => ?_, ok _ (by simp [wsV]), ok _ (by simp [wsV]), ok _ (by simp [wsV])⟩
  have h2 := hd.2.2
  rw [h] at h2
  exact (Option.some.inj h2).symm
theorem vx_runVW {y : MethodName} {bytes cc : ByteArray} {maxL nL mc ms n index : Nat} {ret : Option FieldType} {hh : List (Nat × Nat × Nat × Nat)} {ws : List Cond} {rm : Room} {Pc : Array Value → State → Prop} {Qc : Array Value → State → Outcome → State → Prop} {free : Addr → Prop} {Ts : List Cond} {own C : String} {b : Addr} {As rest : List Value} {g : JFrame}
    (S : CallFix p m c cc nL s args Ts own) (hM : Met l y ws rm Pc Qc mc ms free) (cw : vx_CVW R s args own C index y bytes maxL ret hh ws rm mc ms n) (hp : PreV s H C b Pc As)
    (hg : g.method = m) (hn : As.length = n) (hsize : g.locals.size = nL) (hstack : g.stack = As.reverse ++ .ref b :: rest) (hW : 2 * g.monitorRoom + (rest.map fun v => v.category).sum ≤ 8) (hdg : decode cc g.pc = .ok (.invokevirtual index, 3)) (hf : cells + mc ≤ R.cells ∧ slots + ms ≤ R.slots) :
    va_Run p l e R s m args below meth c H locs cells slots mc ms g rest (Qc (Value.ref b :: As).toArray) free := by
  obtain ⟨⟨hrc, hrs, hfr, hlo, hws, hcw⟩, hcode, hini, hy, hlen, hl, hin, hse⟩ := cw
  have hK : Back l R p e below s args y 3 8 (PreOf R mc ms Pc) (PostOf Qc mc ms free) := va_backW (hh := hh) (bytes := bytes) (maxL := maxL) (ret := ret) hM hp.1 hrc hrs hfr hlo hws hcw (fun a' U hW => word_at hW (Or.inl (by first | rfl | simp [Cond.onTables, Cond.keeps, Cond.steady])) hini)
  obtain ⟨hx, hb, hml, ho, -⟩ := S
  obtain ⟨-, ⟨cellB, hcB, hoB, hclB⟩, hPc⟩ := hp
  intro T hT X
  obtain ⟨v, vm₁, ⟨U', l2, c2, s2⟩, hW₁, X', ⟨g', mk, t, L, e1, e2, hq, h1, hL, h2, h3⟩, st⟩ := vx_callVW X hx (C := C) (hh := hh) (bytes := bytes) (maxL := maxL) (ret := ret) ho hl hin hse hcode hy hK (by rw [hT]; exact hcB) hoB hclB hg (hsize.trans hml.symm) (argsL := As) (rest := rest) (fun sig h => hn.trans (hlen sig h)) hstack hW (by rw [hb]; exact hdg)
    (fun vm₁ hW₁ => ⟨hf.1, hf.2, hPc (T.setVm vm₁) hT hW₁⟩)
  dsimp only [Pt.U, Pt.locs, Pt.cells, Pt.slots] at X' e1 e2 h1 h2 h3 st
  subst h1; subst h2; subst h3
  exact ⟨v, (T.setVm vm₁).calling g' mk (Value.ref b :: As).toArray, t, U', L, hT, X', hL, e1, e2, hq, st⟩
section
variable {y : MethodName} {bytes cc : ByteArray} {maxL nL mc ms n index : Nat} {ret : Option FieldType} {ws : List Cond} {rm : Room} {Pc : Array Value → State → Prop} {Qc : Array Value → State → Outcome → State → Prop} {XC : String → State → State → Prop} {free : Addr → Prop} {Ts : List Cond} {own C : String} {b : Addr} {As rest : List Value} {g : JFrame}
theorem vx_runVX {hh : List (Nat × Nat × Nat × Nat)} (S : CallFix p m c cc nL s args Ts own) (hM : vx_Met l y ws rm Pc Qc XC mc ms free) (cw : vx_CVW R s args own C index y bytes maxL ret hh ws rm mc ms n) (hp : PreV s H C b Pc As)
    (hg : g.method = m) (hn : As.length = n) (hsize : g.locals.size = nL) (hstack : g.stack = As.reverse ++ .ref b :: rest) (hW : 2 * g.monitorRoom + (rest.map fun v => v.category).sum ≤ 8) (hdg : decode cc g.pc = .ok (.invokevirtual index, 3)) (hf : cells + mc ≤ R.cells ∧ slots + ms ≤ R.slots) :
    vx_Run p l e R s m args below meth c H locs cells slots mc ms g rest (Qc (Value.ref b :: As).toArray) XC free := by
  obtain ⟨⟨hrc, hrs, hfr, hlo, hws, hcw⟩, hcode, hini, hy, hlen, hl, hin, hse⟩ := cw
  have hK : vx_Back l R p e below s args y 3 8 (PreOf R mc ms Pc) (PostOf Qc mc ms free) (vx_Post XC mc ms free) := vx_backW (hh := hh) (bytes := bytes) (maxL := maxL) (ret := ret) hM hp.1 hrc hrs hfr hlo hws hcw (fun a' U hW => word_at hW (Or.inl (by first | rfl | simp [Cond.onTables, Cond.keeps, Cond.steady])) hini)
  obtain ⟨hx, hb, hml, ho, -⟩ := S
  obtain ⟨-, ⟨cellB, hcB, hoB, hclB⟩, hPc⟩ := hp
  intro T hT X
  rcases vx_callVX X hx (C := C) (hh := hh) (bytes := bytes) (maxL := maxL) (ret := ret) ho hl hin hse hcode hy hK (by rw [hT]; exact hcB) hoB hclB hg (hsize.trans hml.symm) (argsL := As) (rest := rest) (fun sig h => hn.trans (hlen sig h)) hstack hW (by rw [hb]; exact hdg)
    (fun vm₁ hW₁ => ⟨hf.1, hf.2, hPc (T.setVm vm₁) hT hW₁⟩) with ⟨v, vm₁, ⟨U', l2, c2, s2⟩, hW₁, X', ⟨g', mk, t, L, e1, e2, hq, h1, hL, h2, h3⟩, st⟩ | ⟨q, vm₁, ⟨U', l2, c2, s2⟩, hW₁, X', ⟨g', mk, t, L, E, ce, e1, e2, hq, hce, hcv, hcl, h1, hL, h2, h3⟩, st⟩
  · dsimp only [Pt.U, Pt.locs, Pt.cells, Pt.slots] at X' e1 e2 h1 h2 h3 st
    subst h1; subst h2; subst h3
    exact Or.inl ⟨v, (T.setVm vm₁).calling g' mk (Value.ref b :: As).toArray, t, U', L, hT, X', hL, e1, e2, hq, st⟩
  · dsimp only [Pt.U, Pt.locs, Pt.cells, Pt.slots] at X' e1 e2 h1 h2 h3 st hcl
    subst h1; subst h2; subst h3
    exact Or.inr ⟨q, (T.setVm vm₁).calling g' mk (Value.ref b :: As).toArray, t, U', L, E, ce, hT, X', hL, e1, e2, hq, hce, hcv, vx_cls hW₁ hcl, st⟩
theorem vx_runSX {hh : List (Nat × Nat × Nat × Nat)} (S : CallFix p m c cc nL s args Ts own) (hM : vx_Met l y ws rm Pc Qc XC mc ms free) (cw : vx_CSW R s args own index y bytes maxL ret hh ws rm mc ms n) (hp : PreS s H Pc As)
    (hg : g.method = m) (hn : As.length = n) (hsize : g.locals.size = nL) (hstack : g.stack = As.reverse ++ rest) (hW : 2 * g.monitorRoom + (rest.map fun v => v.category).sum ≤ 8) (hdg : decode cc g.pc = .ok (.invokestatic index, 3)) (hf : cells + mc ≤ R.cells ∧ slots + ms ≤ R.slots) :
    vx_Run p l e R s m args below meth c H locs cells slots mc ms g rest (Qc As.toArray) XC free := by
  obtain ⟨⟨hrc, hrs, hfr, hlo, hws, hcw⟩, hcode, hini, hy, hlen, hl, hstt⟩ := cw
  have hK : vx_Back l R p e below s args y 3 8 (PreOf R mc ms Pc) (PostOf Qc mc ms free) (vx_Post XC mc ms free) := vx_backW (hh := hh) (bytes := bytes) (maxL := maxL) (ret := ret) hM hp.1 hrc hrs hfr hlo hws hcw (fun a' U hW => word_at hW (Or.inl (by first | rfl | simp [Cond.onTables, Cond.keeps, Cond.steady])) hini)
  obtain ⟨hx, hb, hml, ho, -⟩ := S
  intro T hT X
  rcases vx_callSX X hx (hh := hh) (bytes := bytes) (maxL := maxL) (ret := ret) ho hl hstt hini hcode hy hK hg (hsize.trans hml.symm) (argsL := As) (rest := rest) (fun sig h => hn.trans (hlen sig h)) hstack hW (by rw [hb]; exact hdg)
    (fun vm₁ hW₁ => ⟨hf.1, hf.2, hp.2 (T.setVm vm₁) hT hW₁⟩) with ⟨v, vm₁, ⟨U', l2, c2, s2⟩, hW₁, X', ⟨g', mk, t, L, e1, e2, hq, h1, hL, h2, h3⟩, st⟩ | ⟨q, vm₁, ⟨U', l2, c2, s2⟩, hW₁, X', ⟨g', mk, t, L, E, ce, e1, e2, hq, hce, hcv, hcl, h1, hL, h2, h3⟩, st⟩
  · dsimp only [Pt.U, Pt.locs, Pt.cells, Pt.slots] at X' e1 e2 h1 h2 h3 st
    subst h1; subst h2; subst h3
    exact Or.inl ⟨v, (T.setVm vm₁).calling g' mk As.toArray, t, U', L, hT, X', hL, e1, e2, hq, st⟩
  · dsimp only [Pt.U, Pt.locs, Pt.cells, Pt.slots] at X' e1 e2 h1 h2 h3 st hcl
    subst h1; subst h2; subst h3
    exact Or.inr ⟨q, (T.setVm vm₁).calling g' mk As.toArray, t, U', L, E, ce, hT, X', hL, e1, e2, hq, hce, hcv, vx_cls hW₁ hcl, st⟩
end
end VXH
theorem vx_ofWH {l : Launch} {y : MethodName} {ws ws' : List Cond} {rm : Room} {Pc : Array Value → State → Prop} {Qc : Array Value → State → Outcome → State → Prop} {XC : String → State → State → Prop} {mc ms : Nat} {free : Addr → Prop} {cc : ByteArray} {maxL : Nat} {ret : Option FieldType} {hh : List (Nat × Nat × Nat × Nat)}
    (hy : plainName y.cls = true) (hw : ws = Cond.codeWith y cc maxL ret hh :: ws')
    (body : ∀ p e s m args below meth c s₁, BodyLoose p l y (headSpec ws rm) cc maxL ret e s m args below meth c s₁ → c.maxLocals = maxL → Pc args s →
      W p l e (headSpec ws rm).room s m args below meth c s.heap [] 0 0 (vx_MQ below Qc XC args s mc ms free) (entryFrame m args maxL)) : vx_Met l y ws rm Pc Qc XC mc ms free := by
  refine MetFree.of_bodyS (code := cc) (maxLocals := maxL) (ret := ret) hy ?_ ?_
  · intro args s m h hn
    obtain ⟨m9, meth, c, hn9, h1, h2, h3, h4, -, h5, h6, -⟩ := Cond.codeWith_spec (atoms_spec (ws := ws) h _ (by rw [hw]; exact List.mem_cons_self))
    cases hn.symm.trans hn9
    exact ⟨meth, c, h1, h2, h3, h4, h5, h6⟩
  · intro p e s m args below meth c s₁ B hml hP _
    have hh0 : s₁.heap = s.heap := by rw [B.state]; rfl
    obtain ⟨t, a1, o, b1, b2, b3⟩ := body p e s m args below meth c s₁ B hml hP s₁ hh0 (Stand.of_body B)
    exact ⟨t, o, a1, b1, b2, b3⟩
/-! ===== END ===== -/

def RX0 : String := "SquareStream"
def RX1 : String := "SquareStreamModel"
def RJ : String := "java/util/Arrays"
def RL : String := "SquareStreamLaw"
def TX0 : u_T := fun k => match k with
  | 0 => ("SquareStream", "rowInts", "[I", true)
  | 1 => ("SquareStream", "vectorInts", "[I", true)
  | 2 => ("SquareStream", "resultInts", "[I", true)
  | 3 => ("SquareStream", "isFresh", "[Z", true)
  | 4 => ("SquareStream", "entryCycles", "[I", true)
  | 5 => ("SquareStream", "enteredAgo", "[I", true)
  | 6 => ("SquareStream", "inputs", "[I", true)
  | 7 => ("SquareStream", "sums", "[I", true)
  | 8 => ("SquareStream", "factors", "[I", true)
  | 9 => ("SquareStream", "nexts", "[I", true)
  | 10 => ("SquareStream", "marks", "[Z", true)
  | 11 => ("SquareStream", "side", "I", false)
  | 12 => ("SquareStream", "cycles", "I", false)
  | 13 => ("SquareStream", "rowsCome", "I", false)
  | 14 => ("SquareStream", "rowsIn", "I", false)
  | 15 => ("SquareStream", "rowsOfSet", "I", false)
  | 16 => ("SquareStream", "vectorsCome", "I", false)
  | 17 => ("SquareStream", "vectorsIn", "I", false)
  | 18 => ("SquareStream", "freshIn", "I", false)
  | _ => ("SquareStream", "latestFreshCycle", "I", false)
def tyX0 : Nat → FieldType := fun k => match k with
  | 0 => .array .int
  | 1 => .array .int
  | 2 => .array .int
  | 3 => .array .boolean
  | 4 => .array .int
  | 5 => .array .int
  | 6 => .array .int
  | 7 => .array .int
  | 8 => .array .int
  | 9 => .array .int
  | 10 => .array .boolean
  | 11 => .int
  | 12 => .int
  | 13 => .int
  | 14 => .int
  | 15 => .int
  | 16 => .int
  | 17 => .int
  | 18 => .int
  | _ => .int
theorem nmX0 : ∀ a, a < 20 → ∀ b, b < 20 → a ≠ b → (TX0 a).2.1 ≠ (TX0 b).2.1 := by decide +kernel
theorem tyX0_ok : ∀ k, k < 20 → parseFieldDescriptor (TX0 k).2.2.1 = some (tyX0 k) := by decide +kernel
def TX1 : u_T := fun k => match k with
  | 0 => ("SquareStreamModel", "thrown", "I", false)
  | 1 => ("SquareStreamModel", "side", "I", false)
  | 2 => ("SquareStreamModel", "cycles", "I", false)
  | 3 => ("SquareStreamModel", "rows", "I", false)
  | 4 => ("SquareStreamModel", "let", "I", false)
  | 5 => ("SquareStreamModel", "ofSet", "I", false)
  | 6 => ("SquareStreamModel", "complete", "Z", false)
  | 7 => ("SquareStreamModel", "row", "[I", true)
  | 8 => ("SquareStreamModel", "vectors", "I", false)
  | 9 => ("SquareStreamModel", "gone", "I", false)
  | 10 => ("SquareStreamModel", "freshOnes", "I", false)
  | 11 => ("SquareStreamModel", "latest", "I", false)
  | 12 => ("SquareStreamModel", "element", "[I", true)
  | 13 => ("SquareStreamModel", "fresh", "[Z", true)
  | 14 => ("SquareStreamModel", "at", "[I", true)
  | 15 => ("SquareStreamModel", "results", "[I", true)
  | 16 => ("SquareStreamModel", "recent", "[I", true)
  | 17 => ("SquareStreamModel", "input", "[I", true)
  | 18 => ("SquareStreamModel", "sum", "[I", true)
  | 19 => ("SquareStreamModel", "weight", "[I", true)
  | 20 => ("SquareStreamModel", "next", "[I", true)
  | 21 => ("SquareStreamModel", "mark", "[Z", true)
  | _ => ("SquareStreamModel", "real", "[Z", true)
def tyX1 : Nat → FieldType := fun k => match k with
  | 0 => .int
  | 1 => .int
  | 2 => .int
  | 3 => .int
  | 4 => .int
  | 5 => .int
  | 6 => .boolean
  | 7 => .array .int
  | 8 => .int
  | 9 => .int
  | 10 => .int
  | 11 => .int
  | 12 => .array .int
  | 13 => .array .boolean
  | 14 => .array .int
  | 15 => .array .int
  | 16 => .array .int
  | 17 => .array .int
  | 18 => .array .int
  | 19 => .array .int
  | 20 => .array .int
  | 21 => .array .boolean
  | _ => .array .boolean
theorem nmX1 : ∀ a, a < 23 → ∀ b, b < 23 → a ≠ b → (TX1 a).2.1 ≠ (TX1 b).2.1 := by decide +kernel
theorem tyX1_ok : ∀ k, k < 23 → parseFieldDescriptor (TX1 k).2.2.1 = some (tyX1 k) := by decide +kernel
abbrev vwCl : List vw_C := [(RX0, TX0, 20), (RX1, TX1, 23)]
/-- all words of the tables that a call may carry -/
def sq_W : List Cond := lw_tbl.filter goodWord
theorem sq_inT {w : Cond} (h : w ∈ lw_tbl) (g : goodWord w = true) : w ∈ sq_W := List.mem_filter.mpr ⟨h, g⟩
theorem sq_in1 {w : Cond} (k : Nat) (h : tables_1_1[k]? = some w) (g : goodWord w = true) : w ∈ sq_W := sq_inT (List.mem_append_right _ (List.mem_append_left _ (List.mem_of_getElem? h))) g
theorem sq_in2 {w : Cond} (k : Nat) (h : tables_1_2[k]? = some w) (g : goodWord w = true) : w ∈ sq_W := sq_inT (List.mem_append_right _ (List.mem_append_right _ (List.mem_append_left _ (List.mem_of_getElem? h)))) g
theorem sq_in3 {w : Cond} (k : Nat) (h : tables_1_3[k]? = some w) (g : goodWord w = true) : w ∈ sq_W := sq_inT (List.mem_append_right _ (List.mem_append_right _ (List.mem_append_right _ (List.mem_of_getElem? h)))) g
theorem sq_in0 {w : Cond} (k : Nat) (h : (k2_sels lw_privs)[k]? = some w) (g : goodWord w = true) : w ∈ sq_W := sq_inT (List.mem_append_left _ (List.mem_of_getElem? h)) g
theorem sq_goodW {w : Cond} (h : w ∈ sq_W) : w ∈ lw_tbl ∧ ((w.onTables && w.keeps) = true ∨ ∃ ty, w = .arrayClass ty) := ⟨(List.mem_filter.mp h).1, good_of_word (List.mem_filter.mp h).2⟩
theorem sq_good {c : Cond} {ws : List Cond} (h : ∀ w ∈ ws, w ∈ sq_W) : GoodIn (c :: sq_W) ws := fun w hw => ⟨List.mem_cons_of_mem _ (h w hw), (sq_goodW (h w hw)).2⟩
theorem sq_goodL {ws : List Cond} (h : ∀ w ∈ ws, w ∈ sq_W) : GoodIn lw_tbl ws := fun w hw => sq_goodW (h w hw)
theorem sq_c {w : Cond} {ws : List Cond} (h : w ∈ sq_W) (t : ∀ w ∈ ws, w ∈ sq_W) : ∀ w' ∈ w :: ws, w' ∈ sq_W := fun w' h' => (List.mem_cons.mp h').elim (fun e => by rw [e]; exact h) (t w')
theorem sq_id : ∀ w ∈ sq_W, w ∈ sq_W := fun _ h => h
abbrev cX0_init : ByteArray := prog_1_method_1_code
def yX0_init : MethodName := ⟨RX0, "<init>", "()V"⟩
def wsX0_init : List Cond := .code yX0_init cX0_init 1 none :: sq_W
theorem mcX0_init : Cond.code yX0_init cX0_init 1 none ∈ sq_W := sq_in1 15 rfl rfl
abbrev cX0_clearTo : ByteArray := prog_1_method_10_code
def yX0_clearTo : MethodName := ⟨RX0, "clearTo", "(I)V"⟩
def wsX0_clearTo : List Cond := .code yX0_clearTo cX0_clearTo 3 none :: sq_W
theorem mcX0_clearTo : Cond.code yX0_clearTo cX0_clearTo 3 none ∈ sq_W := sq_in1 22 rfl rfl
abbrev cJ_fill : ByteArray := prog_11_method_103_code
def yJ_fill : MethodName := ⟨RJ, "fill", "([II)V"⟩
def wsJ_fill : List Cond := .code yJ_fill cJ_fill 4 none :: sq_W
theorem mcJ_fill : Cond.code yJ_fill cJ_fill 4 none ∈ sq_W := sq_in1 25 rfl rfl
abbrev cL_begin : ByteArray := method_3_code
def yL_begin : MethodName := ⟨RL, "begin", "(LSquareStream;I)I"⟩
def wsL_begin : List Cond := .codeWith yL_begin cL_begin 3 (some .int) [(0, 5, 8, 13)] :: sq_W
theorem mcL_begin : Cond.codeWith yL_begin cL_begin 3 (some .int) [(0, 5, 8, 13)] ∈ sq_W := sq_in1 91 rfl rfl
abbrev cX0_begin : ByteArray := prog_1_method_2_code
def yX0_begin : MethodName := ⟨RX0, "begin", "(I)V"⟩
def wsX0_begin : List Cond := .code yX0_begin cX0_begin 2 none :: sq_W
theorem mcX0_begin : Cond.code yX0_begin cX0_begin 2 none ∈ sq_W := sq_in1 96 rfl rfl
abbrev cL_weights : ByteArray := method_4_code
def yL_weights : MethodName := ⟨RL, "weights", "(LSquareStream;IIIIII[J)I"⟩
def wsL_weights : List Cond := .codeWith yL_weights cL_weights 9 (some .int) [(0, 18, 21, 19)] :: sq_W
theorem mcL_weights : Cond.codeWith yL_weights cL_weights 9 (some .int) [(0, 18, 21, 19)] ∈ sq_W := sq_in1 168 rfl rfl
abbrev cX0_weights : ByteArray := prog_1_method_3_code
def yX0_weights : MethodName := ⟨RX0, "weights", "(IIIIII)I"⟩
def wsX0_weights : List Cond := .code yX0_weights cX0_weights 9 (some .int) :: sq_W
theorem mcX0_weights : Cond.code yX0_weights cX0_weights 9 (some .int) ∈ sq_W := sq_in1 173 rfl rfl
abbrev cL_vector : ByteArray := method_5_code
def yL_vector : MethodName := ⟨RL, "vector", "(LSquareStream;ZIIIIII[J)I"⟩
def wsL_vector : List Cond := .codeWith yL_vector cL_vector 10 (some .int) [(0, 20, 23, 19)] :: sq_W
theorem mcL_vector : Cond.codeWith yL_vector cL_vector 10 (some .int) [(0, 20, 23, 19)] ∈ sq_W := sq_in1 192 rfl rfl
abbrev cX0_vector : ByteArray := prog_1_method_4_code
def yX0_vector : MethodName := ⟨RX0, "vector", "(ZIIIIII)I"⟩
def wsX0_vector : List Cond := .code yX0_vector cX0_vector 10 (some .int) :: sq_W
theorem mcX0_vector : Cond.code yX0_vector cX0_vector 10 (some .int) ∈ sq_W := sq_in1 196 rfl rfl
abbrev cL_cycle : ByteArray := method_6_code
def yL_cycle : MethodName := ⟨RL, "cycle", "(LSquareStream;I[J)I"⟩
def wsL_cycle : List Cond := .codeWith yL_cycle cL_cycle 4 (some .int) [(0, 9, 12, 13)] :: sq_W
theorem mcL_cycle : Cond.codeWith yL_cycle cL_cycle 4 (some .int) [(0, 9, 12, 13)] ∈ sq_W := sq_in1 200 rfl rfl
abbrev cX0_cycle : ByteArray := prog_1_method_5_code
def yX0_cycle : MethodName := ⟨RX0, "cycle", "(I)I"⟩
def wsX0_cycle : List Cond := .code yX0_cycle cX0_cycle 4 (some .int) :: sq_W
theorem mcX0_cycle : Cond.code yX0_cycle cX0_cycle 4 (some .int) ∈ sq_W := sq_in1 204 rfl rfl
abbrev cX0_isAtRest : ByteArray := prog_1_method_14_code
def yX0_isAtRest : MethodName := ⟨RX0, "isAtRest", "()Z"⟩
def wsX0_isAtRest : List Cond := .code yX0_isAtRest cX0_isAtRest 1 (some .boolean) :: sq_W
theorem mcX0_isAtRest : Cond.code yX0_isAtRest cX0_isAtRest 1 (some .boolean) ∈ sq_W := sq_in1 210 rfl rfl
abbrev cX0_canVectorEnter : ByteArray := prog_1_method_16_code
def yX0_canVectorEnter : MethodName := ⟨RX0, "canVectorEnter", "()Z"⟩
def wsX0_canVectorEnter : List Cond := .code yX0_canVectorEnter cX0_canVectorEnter 1 (some .boolean) :: sq_W
theorem mcX0_canVectorEnter : Cond.code yX0_canVectorEnter cX0_canVectorEnter 1 (some .boolean) ∈ sq_W := sq_in1 214 rfl rfl
abbrev cX0_isSetComplete : ByteArray := prog_1_method_15_code
def yX0_isSetComplete : MethodName := ⟨RX0, "isSetComplete", "()Z"⟩
def wsX0_isSetComplete : List Cond := .code yX0_isSetComplete cX0_isSetComplete 1 (some .boolean) :: sq_W
theorem mcX0_isSetComplete : Cond.code yX0_isSetComplete cX0_isSetComplete 1 (some .boolean) ∈ sq_W := sq_in1 218 rfl rfl
abbrev cX0_canRowComeIn : ByteArray := prog_1_method_17_code
def yX0_canRowComeIn : MethodName := ⟨RX0, "canRowComeIn", "(I)Z"⟩
def wsX0_canRowComeIn : List Cond := .code yX0_canRowComeIn cX0_canRowComeIn 2 (some .boolean) :: sq_W
theorem mcX0_canRowComeIn : Cond.code yX0_canRowComeIn cX0_canRowComeIn 2 (some .boolean) ∈ sq_W := sq_in1 222 rfl rfl
abbrev cX0_crossing : ByteArray := prog_1_method_13_code
def yX0_crossing : MethodName := ⟨RX0, "crossing", "()I"⟩
def wsX0_crossing : List Cond := .code yX0_crossing cX0_crossing 1 (some .int) :: sq_W
theorem mcX0_crossing : Cond.code yX0_crossing cX0_crossing 1 (some .int) ∈ sq_W := sq_in1 226 rfl rfl
abbrev cX0_countReachedCells : ByteArray := prog_1_method_18_code
def yX0_countReachedCells : MethodName := ⟨RX0, "countReachedCells", "()I"⟩
def wsX0_countReachedCells : List Cond := .code yX0_countReachedCells cX0_countReachedCells 4 (some .int) :: sq_W
theorem mcX0_countReachedCells : Cond.code yX0_countReachedCells cX0_countReachedCells 4 (some .int) ∈ sq_W := sq_in1 230 rfl rfl
abbrev cX0_runCycle : ByteArray := prog_1_method_19_code
def yX0_runCycle : MethodName := ⟨RX0, "runCycle", "()V"⟩
def wsX0_runCycle : List Cond := .code yX0_runCycle cX0_runCycle 1 none :: sq_W
theorem mcX0_runCycle : Cond.code yX0_runCycle cX0_runCycle 1 none ∈ sq_W := sq_in1 234 rfl rfl
abbrev cX0_ageEntries : ByteArray := prog_1_method_20_code
def yX0_ageEntries : MethodName := ⟨RX0, "ageEntries", "()V"⟩
def wsX0_ageEntries : List Cond := .code yX0_ageEntries cX0_ageEntries 2 none :: sq_W
theorem mcX0_ageEntries : Cond.code yX0_ageEntries cX0_ageEntries 2 none ∈ sq_W := sq_in1 238 rfl rfl
abbrev cX0_enterVector : ByteArray := prog_1_method_21_code
def yX0_enterVector : MethodName := ⟨RX0, "enterVector", "()V"⟩
def wsX0_enterVector : List Cond := .code yX0_enterVector cX0_enterVector 2 none :: sq_W
theorem mcX0_enterVector : Cond.code yX0_enterVector cX0_enterVector 2 none ∈ sq_W := sq_in2 2 rfl rfl
abbrev cX0_letRowIn : ByteArray := prog_1_method_22_code
def yX0_letRowIn : MethodName := ⟨RX0, "letRowIn", "()V"⟩
def wsX0_letRowIn : List Cond := .code yX0_letRowIn cX0_letRowIn 3 none :: sq_W
theorem mcX0_letRowIn : Cond.code yX0_letRowIn cX0_letRowIn 3 none ∈ sq_W := sq_in2 6 rfl rfl
abbrev cX0_goOn : ByteArray := prog_1_method_23_code
def yX0_goOn : MethodName := ⟨RX0, "goOn", "()V"⟩
def wsX0_goOn : List Cond := .code yX0_goOn cX0_goOn 4 none :: sq_W
theorem mcX0_goOn : Cond.code yX0_goOn cX0_goOn 4 none ∈ sq_W := sq_in2 10 rfl rfl
abbrev cX0_advance : ByteArray := prog_1_method_25_code
def yX0_advance : MethodName := ⟨RX0, "advance", "(IIIZ)V"⟩
def wsX0_advance : List Cond := .code yX0_advance cX0_advance 6 none :: sq_W
theorem mcX0_advance : Cond.code yX0_advance cX0_advance 6 none ∈ sq_W := sq_in2 14 rfl rfl
abbrev cX0_feed : ByteArray := prog_1_method_24_code
def yX0_feed : MethodName := ⟨RX0, "feed", "(I)V"⟩
def wsX0_feed : List Cond := .code yX0_feed cX0_feed 3 none :: sq_W
theorem mcX0_feed : Cond.code yX0_feed cX0_feed 3 none ∈ sq_W := sq_in2 18 rfl rfl
abbrev cX0_keepResults : ByteArray := prog_1_method_26_code
def yX0_keepResults : MethodName := ⟨RX0, "keepResults", "()V"⟩
def wsX0_keepResults : List Cond := .code yX0_keepResults cX0_keepResults 4 none :: sq_W
theorem mcX0_keepResults : Cond.code yX0_keepResults cX0_keepResults 4 none ∈ sq_W := sq_in2 22 rfl rfl
abbrev cL_cell : ByteArray := method_7_code
def yL_cell : MethodName := ⟨RL, "cell", "(LSquareStream;III[J)I"⟩
def wsL_cell : List Cond := .codeWith yL_cell cL_cell 6 (some .int) [(0, 12, 15, 33), (0, 12, 19, 13)] :: sq_W
theorem mcL_cell : Cond.codeWith yL_cell cL_cell 6 (some .int) [(0, 12, 15, 33), (0, 12, 19, 13)] ∈ sq_W := sq_in2 25 rfl rfl
abbrev cX0_cell : ByteArray := prog_1_method_6_code
def yX0_cell : MethodName := ⟨RX0, "cell", "(III)I"⟩
def wsX0_cell : List Cond := .code yX0_cell cX0_cell 5 (some .int) :: sq_W
theorem mcX0_cell : Cond.code yX0_cell cX0_cell 5 (some .int) ∈ sq_W := sq_in2 30 rfl rfl
abbrev cX0_isInSquare : ByteArray := prog_1_method_11_code
def yX0_isInSquare : MethodName := ⟨RX0, "isInSquare", "(I)Z"⟩
def wsX0_isInSquare : List Cond := .code yX0_isInSquare cX0_isInSquare 2 (some .boolean) :: sq_W
theorem mcX0_isInSquare : Cond.code yX0_isInSquare cX0_isInSquare 2 (some .boolean) ∈ sq_W := sq_in2 34 rfl rfl
abbrev cL_entered : ByteArray := method_8_code
def yL_entered : MethodName := ⟨RL, "entered", "(LSquareStream;I[J)I"⟩
def wsL_entered : List Cond := .codeWith yL_entered cL_entered 4 (some .int) [(0, 9, 12, 33)] :: sq_W
theorem mcL_entered : Cond.codeWith yL_entered cL_entered 4 (some .int) [(0, 9, 12, 33)] ∈ sq_W := sq_in2 54 rfl rfl
abbrev cX0_entered : ByteArray := prog_1_method_7_code
def yX0_entered : MethodName := ⟨RX0, "entered", "(I)I"⟩
def wsX0_entered : List Cond := .code yX0_entered cX0_entered 2 (some .int) :: sq_W
theorem mcX0_entered : Cond.code yX0_entered cX0_entered 2 (some .int) ∈ sq_W := sq_in2 58 rfl rfl
abbrev cX0_isVector : ByteArray := prog_1_method_12_code
def yX0_isVector : MethodName := ⟨RX0, "isVector", "(I)Z"⟩
def wsX0_isVector : List Cond := .code yX0_isVector cX0_isVector 2 (some .boolean) :: sq_W
theorem mcX0_isVector : Cond.code yX0_isVector cX0_isVector 2 (some .boolean) ∈ sq_W := sq_in2 62 rfl rfl
abbrev cL_result : ByteArray := method_9_code
def yL_result : MethodName := ⟨RL, "result", "(LSquareStream;II[J)I"⟩
def wsL_result : List Cond := .codeWith yL_result cL_result 5 (some .int) [(0, 10, 13, 33), (0, 10, 17, 42)] :: sq_W
theorem mcL_result : Cond.codeWith yL_result cL_result 5 (some .int) [(0, 10, 13, 33), (0, 10, 17, 42)] ∈ sq_W := sq_in2 66 rfl rfl
abbrev cX0_result : ByteArray := prog_1_method_8_code
def yX0_result : MethodName := ⟨RX0, "result", "(II)I"⟩
def wsX0_result : List Cond := .code yX0_result cX0_result 3 (some .int) :: sq_W
theorem mcX0_result : Cond.code yX0_result cX0_result 3 (some .int) ∈ sq_W := sq_in2 71 rfl rfl
abbrev cL_about : ByteArray := method_10_code
def yL_about : MethodName := ⟨RL, "about", "(LSquareStream;I[J)I"⟩
def wsL_about : List Cond := .codeWith yL_about cL_about 4 (some .int) [(0, 9, 12, 13)] :: sq_W
theorem mcL_about : Cond.codeWith yL_about cL_about 4 (some .int) [(0, 9, 12, 13)] ∈ sq_W := sq_in2 91 rfl rfl
abbrev cX0_about : ByteArray := prog_1_method_9_code
def yX0_about : MethodName := ⟨RX0, "about", "(I)I"⟩
def wsX0_about : List Cond := .code yX0_about cX0_about 2 (some .int) :: sq_W
theorem mcX0_about : Cond.code yX0_about cX0_about 2 (some .int) ∈ sq_W := sq_in2 95 rfl rfl
abbrev cX1_init : ByteArray := prog_3_method_1_code
def yX1_init : MethodName := ⟨RX1, "<init>", "()V"⟩
def wsX1_init : List Cond := .code yX1_init cX1_init 1 none :: sq_W
theorem mcX1_init : Cond.code yX1_init cX1_init 1 none ∈ sq_W := sq_in2 101 rfl rfl
abbrev cX1_clear : ByteArray := prog_3_method_5_code
def yX1_clear : MethodName := ⟨RX1, "clear", "()V"⟩
def wsX1_clear : List Cond := .code yX1_clear cX1_clear 2 none :: sq_W
theorem mcX1_clear : Cond.code yX1_clear cX1_clear 2 none ∈ sq_W := sq_in2 106 rfl rfl
abbrev cX1_thrown : ByteArray := prog_3_method_2_code
def yX1_thrown : MethodName := ⟨RX1, "thrown", "()I"⟩
def wsX1_thrown : List Cond := .code yX1_thrown cX1_thrown 1 (some .int) :: sq_W
theorem mcX1_thrown : Cond.code yX1_thrown cX1_thrown 1 (some .int) ∈ sq_W := sq_in2 180 rfl rfl
abbrev cX1_begin : ByteArray := prog_3_method_6_code
def yX1_begin : MethodName := ⟨RX1, "begin", "(I)V"⟩
def wsX1_begin : List Cond := .code yX1_begin cX1_begin 2 none :: sq_W
theorem mcX1_begin : Cond.code yX1_begin cX1_begin 2 none ∈ sq_W := sq_in2 184 rfl rfl
abbrev cX1_in_ : ByteArray := prog_3_method_4_code
def yX1_in_ : MethodName := ⟨RX1, "in", "(III)Z"⟩
def wsX1_in_ : List Cond := .code yX1_in_ cX1_in_ 3 (some .boolean) :: sq_W
theorem mcX1_in_ : Cond.code yX1_in_ cX1_in_ 3 (some .boolean) ∈ sq_W := sq_in2 187 rfl rfl
abbrev cX1_refuse : ByteArray := prog_3_method_3_code
def yX1_refuse : MethodName := ⟨RX1, "refuse", "(ZZ)Z"⟩
def wsX1_refuse : List Cond := .code yX1_refuse cX1_refuse 3 (some .boolean) :: sq_W
theorem mcX1_refuse : Cond.code yX1_refuse cX1_refuse 3 (some .boolean) ∈ sq_W := sq_in2 191 rfl rfl
abbrev cX1_weights : ByteArray := prog_3_method_8_code
def yX1_weights : MethodName := ⟨RX1, "weights", "(IIIIII)I"⟩
def wsX1_weights : List Cond := .code yX1_weights cX1_weights 7 (some .int) :: sq_W
theorem mcX1_weights : Cond.code yX1_weights cX1_weights 7 (some .int) ∈ sq_W := sq_in2 195 rfl rfl
abbrev cX1_six : ByteArray := prog_3_method_7_code
def yX1_six : MethodName := ⟨RX1, "six", "([IIIIIIII)V"⟩
def wsX1_six : List Cond := .code yX1_six cX1_six 8 none :: sq_W
theorem mcX1_six : Cond.code yX1_six cX1_six 8 none ∈ sq_W := sq_in2 198 rfl rfl
abbrev cX1_vector : ByteArray := prog_3_method_9_code
def yX1_vector : MethodName := ⟨RX1, "vector", "(ZIIIIII)I"⟩
def wsX1_vector : List Cond := .code yX1_vector cX1_vector 8 (some .int) :: sq_W
theorem mcX1_vector : Cond.code yX1_vector cX1_vector 8 (some .int) ∈ sq_W := sq_in2 202 rfl rfl
abbrev cX1_cycle : ByteArray := prog_3_method_14_code
def yX1_cycle : MethodName := ⟨RX1, "cycle", "(I)I"⟩
def wsX1_cycle : List Cond := .code yX1_cycle cX1_cycle 3 (some .int) :: sq_W
theorem mcX1_cycle : Cond.code yX1_cycle cX1_cycle 3 (some .int) ∈ sq_W := sq_in2 206 rfl rfl
abbrev cX1_enter : ByteArray := prog_3_method_10_code
def yX1_enter : MethodName := ⟨RX1, "enter", "()V"⟩
def wsX1_enter : List Cond := .code yX1_enter cX1_enter 2 none :: sq_W
theorem mcX1_enter : Cond.code yX1_enter cX1_enter 2 none ∈ sq_W := sq_in2 211 rfl rfl
abbrev cX1_letIn : ByteArray := prog_3_method_11_code
def yX1_letIn : MethodName := ⟨RX1, "letIn", "()V"⟩
def wsX1_letIn : List Cond := .code yX1_letIn cX1_letIn 4 none :: sq_W
theorem mcX1_letIn : Cond.code yX1_letIn cX1_letIn 4 none ∈ sq_W := sq_in2 215 rfl rfl
abbrev cX1_goOn : ByteArray := prog_3_method_13_code
def yX1_goOn : MethodName := ⟨RX1, "goOn", "()V"⟩
def wsX1_goOn : List Cond := .code yX1_goOn cX1_goOn 4 none :: sq_W
theorem mcX1_goOn : Cond.code yX1_goOn cX1_goOn 4 none ∈ sq_W := sq_in2 219 rfl rfl
abbrev cX1_enteredAgo : ByteArray := prog_3_method_12_code
def yX1_enteredAgo : MethodName := ⟨RX1, "enteredAgo", "(I)I"⟩
def wsX1_enteredAgo : List Cond := .code yX1_enteredAgo cX1_enteredAgo 2 (some .int) :: sq_W
theorem mcX1_enteredAgo : Cond.code yX1_enteredAgo cX1_enteredAgo 2 (some .int) ∈ sq_W := sq_in2 223 rfl rfl
abbrev cX1_cell : ByteArray := prog_3_method_15_code
def yX1_cell : MethodName := ⟨RX1, "cell", "(III)I"⟩
def wsX1_cell : List Cond := .code yX1_cell cX1_cell 6 (some .int) :: sq_W
theorem mcX1_cell : Cond.code yX1_cell cX1_cell 6 (some .int) ∈ sq_W := sq_in2 227 rfl rfl
abbrev cX1_entered : ByteArray := prog_3_method_16_code
def yX1_entered : MethodName := ⟨RX1, "entered", "(I)I"⟩
def wsX1_entered : List Cond := .code yX1_entered cX1_entered 2 (some .int) :: sq_W
theorem mcX1_entered : Cond.code yX1_entered cX1_entered 2 (some .int) ∈ sq_W := sq_in2 231 rfl rfl
abbrev cX1_result : ByteArray := prog_3_method_17_code
def yX1_result : MethodName := ⟨RX1, "result", "(II)I"⟩
def wsX1_result : List Cond := .code yX1_result cX1_result 5 (some .int) :: sq_W
theorem mcX1_result : Cond.code yX1_result cX1_result 5 (some .int) ∈ sq_W := sq_in2 235 rfl rfl
abbrev cX1_about : ByteArray := prog_3_method_18_code
def yX1_about : MethodName := ⟨RX1, "about", "(I)I"⟩
def wsX1_about : List Cond := .code yX1_about cX1_about 4 (some .int) :: sq_W
theorem mcX1_about : Cond.code yX1_about cX1_about 4 (some .int) ∈ sq_W := sq_in2 239 rfl rfl
abbrev cL_law : ByteArray := code
def yL_law : MethodName := ⟨RL, "law", "([I)Z"⟩
theorem mt_L : Cond.initialized RL ∈ sq_W := sq_in1 0 rfl rfl
theorem mt_X0 : Cond.initialized RX0 ∈ sq_W := sq_in1 1 rfl rfl
theorem mt_J : Cond.initialized RJ ∈ sq_W := sq_in1 2 rfl rfl
theorem mt_X1 : Cond.initialized RX1 ∈ sq_W := sq_in1 3 rfl rfl
theorem mt_Throwable : Cond.initialized "java/lang/Throwable" ∈ sq_W := sq_in1 4 rfl rfl
theorem mt_Exception : Cond.initialized "java/lang/Exception" ∈ sq_W := sq_in1 5 rfl rfl
theorem mt_RuntimeException : Cond.initialized "java/lang/RuntimeException" ∈ sq_W := sq_in1 6 rfl rfl
theorem mt_IllegalArgumentException : Cond.initialized "java/lang/IllegalArgumentException" ∈ sq_W := sq_in1 7 rfl rfl
theorem mt_UnsupportedOperationException : Cond.initialized "java/lang/UnsupportedOperationException" ∈ sq_W := sq_in1 8 rfl rfl
theorem mt_IndexOutOfBoundsException : Cond.initialized "java/lang/IndexOutOfBoundsException" ∈ sq_W := sq_in1 9 rfl rfl
theorem mt_NoSuchElementException : Cond.initialized "java/util/NoSuchElementException" ∈ sq_W := sq_in1 10 rfl rfl
theorem mkL_8 : Cond.classLink RL 8 RX0 ∈ sq_W := sq_in1 11 rfl rfl
theorem mq_X0 : Cond.instantiable RX0 20 ∈ sq_W := sq_in1 12 rfl rfl
theorem mlL_47 : Cond.methodLink RL 47 yX0_init ∈ sq_W := sq_in1 13 rfl rfl
theorem miX0_init : Cond.instanceMethod yX0_init ∈ sq_W := sq_in1 14 rfl rfl
theorem moX0_3 : Cond.methodLink RX0 3 objectInit ∈ sq_W := sq_in1 16 rfl rfl
theorem mo_inst : Cond.instanceMethod objectInit ∈ sq_W := sq_in1 17 rfl rfl
theorem mo_code : Cond.code objectInit ⟨#[0xb1]⟩ 1 none ∈ sq_W := sq_in1 18 rfl rfl
theorem mlX0_44 : Cond.methodLink RX0 44 yX0_clearTo ∈ sq_W := sq_in1 19 rfl rfl
theorem miX0_clearTo : Cond.instanceMethod yX0_clearTo ∈ sq_W := sq_in1 21 rfl rfl
theorem mlX0_135 : Cond.methodLink RX0 135 yJ_fill ∈ sq_W := sq_in1 23 rfl rfl
theorem msJ_fill : Cond.static yJ_fill ∈ sq_W := sq_in1 24 rfl rfl
theorem mfX0_9 : Cond.fieldLink RX0 9 "SquareStream" "rowInts" "[I" ∈ sq_W := sq_in1 26 rfl rfl
theorem mfX0_13 : Cond.fieldLink RX0 13 "SquareStream" "vectorInts" "[I" ∈ sq_W := sq_in1 27 rfl rfl
theorem mfX0_16 : Cond.fieldLink RX0 16 "SquareStream" "resultInts" "[I" ∈ sq_W := sq_in1 28 rfl rfl
theorem mfX0_19 : Cond.fieldLink RX0 19 "SquareStream" "isFresh" "[Z" ∈ sq_W := sq_in1 29 rfl rfl
theorem mfX0_23 : Cond.fieldLink RX0 23 "SquareStream" "entryCycles" "[I" ∈ sq_W := sq_in1 30 rfl rfl
theorem mfX0_26 : Cond.fieldLink RX0 26 "SquareStream" "enteredAgo" "[I" ∈ sq_W := sq_in1 31 rfl rfl
theorem mfX0_29 : Cond.fieldLink RX0 29 "SquareStream" "inputs" "[I" ∈ sq_W := sq_in1 32 rfl rfl
theorem mfX0_32 : Cond.fieldLink RX0 32 "SquareStream" "sums" "[I" ∈ sq_W := sq_in1 33 rfl rfl
theorem mfX0_35 : Cond.fieldLink RX0 35 "SquareStream" "factors" "[I" ∈ sq_W := sq_in1 34 rfl rfl
theorem mfX0_38 : Cond.fieldLink RX0 38 "SquareStream" "nexts" "[I" ∈ sq_W := sq_in1 35 rfl rfl
theorem mfX0_41 : Cond.fieldLink RX0 41 "SquareStream" "marks" "[Z" ∈ sq_W := sq_in1 36 rfl rfl
theorem mfX0_124 : Cond.fieldLink RX0 124 "SquareStream" "side" "I" ∈ sq_W := sq_in1 37 rfl rfl
theorem mfX0_70 : Cond.fieldLink RX0 70 "SquareStream" "cycles" "I" ∈ sq_W := sq_in1 38 rfl rfl
theorem mfX0_55 : Cond.fieldLink RX0 55 "SquareStream" "rowsCome" "I" ∈ sq_W := sq_in1 39 rfl rfl
theorem mfX0_112 : Cond.fieldLink RX0 112 "SquareStream" "rowsIn" "I" ∈ sq_W := sq_in1 40 rfl rfl
theorem mfX0_129 : Cond.fieldLink RX0 129 "SquareStream" "rowsOfSet" "I" ∈ sq_W := sq_in1 41 rfl rfl
theorem mfX0_64 : Cond.fieldLink RX0 64 "SquareStream" "vectorsCome" "I" ∈ sq_W := sq_in1 42 rfl rfl
theorem mfX0_98 : Cond.fieldLink RX0 98 "SquareStream" "vectorsIn" "I" ∈ sq_W := sq_in1 43 rfl rfl
theorem mfX0_115 : Cond.fieldLink RX0 115 "SquareStream" "freshIn" "I" ∈ sq_W := sq_in1 44 rfl rfl
theorem mfX0_132 : Cond.fieldLink RX0 132 "SquareStream" "latestFreshCycle" "I" ∈ sq_W := sq_in1 45 rfl rfl
theorem ma_int : Cond.arrayClass .int ∈ sq_W := sq_in1 87 rfl rfl
theorem ma_boolean : Cond.arrayClass .boolean ∈ sq_W := sq_in1 88 rfl rfl
theorem mlL_51 : Cond.methodLink RL 51 yL_begin ∈ sq_W := sq_in1 89 rfl rfl
theorem msL_begin : Cond.static yL_begin ∈ sq_W := sq_in1 90 rfl rfl
theorem mkL_13 : Cond.classLink RL 13 "java/lang/IllegalArgumentException" ∈ sq_W := sq_in1 92 rfl rfl
theorem mlL_7 : Cond.methodLink RL 7 yX0_begin ∈ sq_W := sq_in1 93 rfl rfl
theorem miX0_begin : Cond.instanceMethod yX0_begin ∈ sq_W := sq_in1 94 rfl rfl
theorem mvX0_begin : Cond.selects RX0 yX0_begin yX0_begin ∈ sq_W := sq_in1 95 rfl rfl
theorem mkX0_48 : Cond.classLink RX0 48 "java/lang/IllegalArgumentException" ∈ sq_W := sq_in1 97 rfl rfl
theorem ma_byte : Cond.arrayClass .byte ∈ sq_W := sq_in1 165 rfl rfl
theorem mlL_61 : Cond.methodLink RL 61 yL_weights ∈ sq_W := sq_in1 166 rfl rfl
theorem msL_weights : Cond.static yL_weights ∈ sq_W := sq_in1 167 rfl rfl
theorem mkL_19 : Cond.classLink RL 19 "java/lang/UnsupportedOperationException" ∈ sq_W := sq_in1 169 rfl rfl
theorem mlL_15 : Cond.methodLink RL 15 yX0_weights ∈ sq_W := sq_in1 170 rfl rfl
theorem miX0_weights : Cond.instanceMethod yX0_weights ∈ sq_W := sq_in1 171 rfl rfl
theorem mvX0_weights : Cond.selects RX0 yX0_weights yX0_weights ∈ sq_W := sq_in1 172 rfl rfl
theorem mkX0_59 : Cond.classLink RX0 59 "java/lang/UnsupportedOperationException" ∈ sq_W := sq_in1 174 rfl rfl
theorem mlL_65 : Cond.methodLink RL 65 yL_vector ∈ sq_W := sq_in1 190 rfl rfl
theorem msL_vector : Cond.static yL_vector ∈ sq_W := sq_in1 191 rfl rfl
theorem mlL_21 : Cond.methodLink RL 21 yX0_vector ∈ sq_W := sq_in1 193 rfl rfl
theorem miX0_vector : Cond.instanceMethod yX0_vector ∈ sq_W := sq_in1 194 rfl rfl
theorem mvX0_vector : Cond.selects RX0 yX0_vector yX0_vector ∈ sq_W := sq_in1 195 rfl rfl
theorem mlL_69 : Cond.methodLink RL 69 yL_cycle ∈ sq_W := sq_in1 198 rfl rfl
theorem msL_cycle : Cond.static yL_cycle ∈ sq_W := sq_in1 199 rfl rfl
theorem mlL_25 : Cond.methodLink RL 25 yX0_cycle ∈ sq_W := sq_in1 201 rfl rfl
theorem miX0_cycle : Cond.instanceMethod yX0_cycle ∈ sq_W := sq_in1 202 rfl rfl
theorem mvX0_cycle : Cond.selects RX0 yX0_cycle yX0_cycle ∈ sq_W := sq_in1 203 rfl rfl
theorem mnX0_69 : Cond.constant RX0 69 100000 ∈ sq_W := sq_in1 205 rfl rfl
theorem mlX0_75 : Cond.methodLink RX0 75 yX0_isAtRest ∈ sq_W := sq_in1 207 rfl rfl
theorem miX0_isAtRest : Cond.instanceMethod yX0_isAtRest ∈ sq_W := sq_in1 209 rfl rfl
theorem mlX0_141 : Cond.methodLink RX0 141 yX0_canVectorEnter ∈ sq_W := sq_in1 211 rfl rfl
theorem miX0_canVectorEnter : Cond.instanceMethod yX0_canVectorEnter ∈ sq_W := sq_in1 213 rfl rfl
theorem mlX0_118 : Cond.methodLink RX0 118 yX0_isSetComplete ∈ sq_W := sq_in1 215 rfl rfl
theorem miX0_isSetComplete : Cond.instanceMethod yX0_isSetComplete ∈ sq_W := sq_in1 217 rfl rfl
theorem mlX0_144 : Cond.methodLink RX0 144 yX0_canRowComeIn ∈ sq_W := sq_in1 219 rfl rfl
theorem miX0_canRowComeIn : Cond.instanceMethod yX0_canRowComeIn ∈ sq_W := sq_in1 221 rfl rfl
theorem mlX0_103 : Cond.methodLink RX0 103 yX0_crossing ∈ sq_W := sq_in1 223 rfl rfl
theorem miX0_crossing : Cond.instanceMethod yX0_crossing ∈ sq_W := sq_in1 225 rfl rfl
theorem mlX0_121 : Cond.methodLink RX0 121 yX0_countReachedCells ∈ sq_W := sq_in1 227 rfl rfl
theorem miX0_countReachedCells : Cond.instanceMethod yX0_countReachedCells ∈ sq_W := sq_in1 229 rfl rfl
theorem mlX0_79 : Cond.methodLink RX0 79 yX0_runCycle ∈ sq_W := sq_in1 231 rfl rfl
theorem miX0_runCycle : Cond.instanceMethod yX0_runCycle ∈ sq_W := sq_in1 233 rfl rfl
theorem mlX0_147 : Cond.methodLink RX0 147 yX0_ageEntries ∈ sq_W := sq_in1 235 rfl rfl
theorem miX0_ageEntries : Cond.instanceMethod yX0_ageEntries ∈ sq_W := sq_in1 237 rfl rfl
theorem mlX0_150 : Cond.methodLink RX0 150 yX0_enterVector ∈ sq_W := sq_in1 239 rfl rfl
theorem miX0_enterVector : Cond.instanceMethod yX0_enterVector ∈ sq_W := sq_in2 1 rfl rfl
theorem mlX0_153 : Cond.methodLink RX0 153 yX0_letRowIn ∈ sq_W := sq_in2 3 rfl rfl
theorem miX0_letRowIn : Cond.instanceMethod yX0_letRowIn ∈ sq_W := sq_in2 5 rfl rfl
theorem mlX0_156 : Cond.methodLink RX0 156 yX0_goOn ∈ sq_W := sq_in2 7 rfl rfl
theorem miX0_goOn : Cond.instanceMethod yX0_goOn ∈ sq_W := sq_in2 9 rfl rfl
theorem mlX0_162 : Cond.methodLink RX0 162 yX0_advance ∈ sq_W := sq_in2 11 rfl rfl
theorem miX0_advance : Cond.instanceMethod yX0_advance ∈ sq_W := sq_in2 13 rfl rfl
theorem mlX0_166 : Cond.methodLink RX0 166 yX0_feed ∈ sq_W := sq_in2 15 rfl rfl
theorem miX0_feed : Cond.instanceMethod yX0_feed ∈ sq_W := sq_in2 17 rfl rfl
theorem mlX0_159 : Cond.methodLink RX0 159 yX0_keepResults ∈ sq_W := sq_in2 19 rfl rfl
theorem miX0_keepResults : Cond.instanceMethod yX0_keepResults ∈ sq_W := sq_in2 21 rfl rfl
theorem mlL_73 : Cond.methodLink RL 73 yL_cell ∈ sq_W := sq_in2 23 rfl rfl
theorem msL_cell : Cond.static yL_cell ∈ sq_W := sq_in2 24 rfl rfl
theorem mkL_33 : Cond.classLink RL 33 "java/lang/IndexOutOfBoundsException" ∈ sq_W := sq_in2 26 rfl rfl
theorem mlL_29 : Cond.methodLink RL 29 yX0_cell ∈ sq_W := sq_in2 27 rfl rfl
theorem miX0_cell : Cond.instanceMethod yX0_cell ∈ sq_W := sq_in2 28 rfl rfl
theorem mvX0_cell : Cond.selects RX0 yX0_cell yX0_cell ∈ sq_W := sq_in2 29 rfl rfl
theorem mlX0_82 : Cond.methodLink RX0 82 yX0_isInSquare ∈ sq_W := sq_in2 31 rfl rfl
theorem miX0_isInSquare : Cond.instanceMethod yX0_isInSquare ∈ sq_W := sq_in2 33 rfl rfl
theorem mkX0_86 : Cond.classLink RX0 86 "java/lang/IndexOutOfBoundsException" ∈ sq_W := sq_in2 35 rfl rfl
theorem mlL_77 : Cond.methodLink RL 77 yL_entered ∈ sq_W := sq_in2 52 rfl rfl
theorem msL_entered : Cond.static yL_entered ∈ sq_W := sq_in2 53 rfl rfl
theorem mlL_35 : Cond.methodLink RL 35 yX0_entered ∈ sq_W := sq_in2 55 rfl rfl
theorem miX0_entered : Cond.instanceMethod yX0_entered ∈ sq_W := sq_in2 56 rfl rfl
theorem mvX0_entered : Cond.selects RX0 yX0_entered yX0_entered ∈ sq_W := sq_in2 57 rfl rfl
theorem mlX0_93 : Cond.methodLink RX0 93 yX0_isVector ∈ sq_W := sq_in2 59 rfl rfl
theorem miX0_isVector : Cond.instanceMethod yX0_isVector ∈ sq_W := sq_in2 61 rfl rfl
theorem mlL_80 : Cond.methodLink RL 80 yL_result ∈ sq_W := sq_in2 64 rfl rfl
theorem msL_result : Cond.static yL_result ∈ sq_W := sq_in2 65 rfl rfl
theorem mkL_42 : Cond.classLink RL 42 "java/util/NoSuchElementException" ∈ sq_W := sq_in2 67 rfl rfl
theorem mlL_38 : Cond.methodLink RL 38 yX0_result ∈ sq_W := sq_in2 68 rfl rfl
theorem miX0_result : Cond.instanceMethod yX0_result ∈ sq_W := sq_in2 69 rfl rfl
theorem mvX0_result : Cond.selects RX0 yX0_result yX0_result ∈ sq_W := sq_in2 70 rfl rfl
theorem mkX0_107 : Cond.classLink RX0 107 "java/util/NoSuchElementException" ∈ sq_W := sq_in2 73 rfl rfl
theorem mlL_84 : Cond.methodLink RL 84 yL_about ∈ sq_W := sq_in2 89 rfl rfl
theorem msL_about : Cond.static yL_about ∈ sq_W := sq_in2 90 rfl rfl
theorem mlL_44 : Cond.methodLink RL 44 yX0_about ∈ sq_W := sq_in2 92 rfl rfl
theorem miX0_about : Cond.instanceMethod yX0_about ∈ sq_W := sq_in2 93 rfl rfl
theorem mvX0_about : Cond.selects RX0 yX0_about yX0_about ∈ sq_W := sq_in2 94 rfl rfl
theorem mkL_48 : Cond.classLink RL 48 RX1 ∈ sq_W := sq_in2 97 rfl rfl
theorem mq_X1 : Cond.instantiable RX1 23 ∈ sq_W := sq_in2 98 rfl rfl
theorem mlL_50 : Cond.methodLink RL 50 yX1_init ∈ sq_W := sq_in2 99 rfl rfl
theorem miX1_init : Cond.instanceMethod yX1_init ∈ sq_W := sq_in2 100 rfl rfl
theorem moX1_1 : Cond.methodLink RX1 1 objectInit ∈ sq_W := sq_in2 102 rfl rfl
theorem mlX1_51 : Cond.methodLink RX1 51 yX1_clear ∈ sq_W := sq_in2 103 rfl rfl
theorem miX1_clear : Cond.instanceMethod yX1_clear ∈ sq_W := sq_in2 105 rfl rfl
theorem mfX1_54 : Cond.fieldLink RX1 54 "SquareStreamModel" "thrown" "I" ∈ sq_W := sq_in2 107 rfl rfl
theorem mfX1_7 : Cond.fieldLink RX1 7 "SquareStreamModel" "side" "I" ∈ sq_W := sq_in2 108 rfl rfl
theorem mfX1_57 : Cond.fieldLink RX1 57 "SquareStreamModel" "cycles" "I" ∈ sq_W := sq_in2 109 rfl rfl
theorem mfX1_60 : Cond.fieldLink RX1 60 "SquareStreamModel" "rows" "I" ∈ sq_W := sq_in2 110 rfl rfl
theorem mfX1_63 : Cond.fieldLink RX1 63 "SquareStreamModel" "let" "I" ∈ sq_W := sq_in2 111 rfl rfl
theorem mfX1_66 : Cond.fieldLink RX1 66 "SquareStreamModel" "ofSet" "I" ∈ sq_W := sq_in2 112 rfl rfl
theorem mfX1_69 : Cond.fieldLink RX1 69 "SquareStreamModel" "complete" "Z" ∈ sq_W := sq_in2 113 rfl rfl
theorem mfX1_13 : Cond.fieldLink RX1 13 "SquareStreamModel" "row" "[I" ∈ sq_W := sq_in2 114 rfl rfl
theorem mfX1_73 : Cond.fieldLink RX1 73 "SquareStreamModel" "vectors" "I" ∈ sq_W := sq_in2 115 rfl rfl
theorem mfX1_76 : Cond.fieldLink RX1 76 "SquareStreamModel" "gone" "I" ∈ sq_W := sq_in2 116 rfl rfl
theorem mfX1_79 : Cond.fieldLink RX1 79 "SquareStreamModel" "freshOnes" "I" ∈ sq_W := sq_in2 117 rfl rfl
theorem mfX1_94 : Cond.fieldLink RX1 94 "SquareStreamModel" "latest" "I" ∈ sq_W := sq_in2 118 rfl rfl
theorem mfX1_17 : Cond.fieldLink RX1 17 "SquareStreamModel" "element" "[I" ∈ sq_W := sq_in2 119 rfl rfl
theorem mfX1_20 : Cond.fieldLink RX1 20 "SquareStreamModel" "fresh" "[Z" ∈ sq_W := sq_in2 120 rfl rfl
theorem mfX1_24 : Cond.fieldLink RX1 24 "SquareStreamModel" "at" "[I" ∈ sq_W := sq_in2 121 rfl rfl
theorem mfX1_27 : Cond.fieldLink RX1 27 "SquareStreamModel" "results" "[I" ∈ sq_W := sq_in2 122 rfl rfl
theorem mfX1_30 : Cond.fieldLink RX1 30 "SquareStreamModel" "recent" "[I" ∈ sq_W := sq_in2 123 rfl rfl
theorem mfX1_33 : Cond.fieldLink RX1 33 "SquareStreamModel" "input" "[I" ∈ sq_W := sq_in2 124 rfl rfl
theorem mfX1_36 : Cond.fieldLink RX1 36 "SquareStreamModel" "sum" "[I" ∈ sq_W := sq_in2 125 rfl rfl
theorem mfX1_39 : Cond.fieldLink RX1 39 "SquareStreamModel" "weight" "[I" ∈ sq_W := sq_in2 126 rfl rfl
theorem mfX1_42 : Cond.fieldLink RX1 42 "SquareStreamModel" "next" "[I" ∈ sq_W := sq_in2 127 rfl rfl
theorem mfX1_45 : Cond.fieldLink RX1 45 "SquareStreamModel" "mark" "[Z" ∈ sq_W := sq_in2 128 rfl rfl
theorem mfX1_48 : Cond.fieldLink RX1 48 "SquareStreamModel" "real" "[Z" ∈ sq_W := sq_in2 129 rfl rfl
theorem mlL_57 : Cond.methodLink RL 57 yX1_thrown ∈ sq_W := sq_in2 177 rfl rfl
theorem miX1_thrown : Cond.instanceMethod yX1_thrown ∈ sq_W := sq_in2 178 rfl rfl
theorem mvX1_thrown : Cond.selects RX1 yX1_thrown yX1_thrown ∈ sq_W := sq_in2 179 rfl rfl
theorem mlL_56 : Cond.methodLink RL 56 yX1_begin ∈ sq_W := sq_in2 181 rfl rfl
theorem miX1_begin : Cond.instanceMethod yX1_begin ∈ sq_W := sq_in2 182 rfl rfl
theorem mvX1_begin : Cond.selects RX1 yX1_begin yX1_begin ∈ sq_W := sq_in2 183 rfl rfl
theorem mlX1_82 : Cond.methodLink RX1 82 yX1_in_ ∈ sq_W := sq_in2 185 rfl rfl
theorem msX1_in_ : Cond.static yX1_in_ ∈ sq_W := sq_in2 186 rfl rfl
theorem mlX1_86 : Cond.methodLink RX1 86 yX1_refuse ∈ sq_W := sq_in2 188 rfl rfl
theorem miX1_refuse : Cond.instanceMethod yX1_refuse ∈ sq_W := sq_in2 190 rfl rfl
theorem mlL_64 : Cond.methodLink RL 64 yX1_weights ∈ sq_W := sq_in2 192 rfl rfl
theorem miX1_weights : Cond.instanceMethod yX1_weights ∈ sq_W := sq_in2 193 rfl rfl
theorem mvX1_weights : Cond.selects RX1 yX1_weights yX1_weights ∈ sq_W := sq_in2 194 rfl rfl
theorem mlX1_90 : Cond.methodLink RX1 90 yX1_six ∈ sq_W := sq_in2 196 rfl rfl
theorem msX1_six : Cond.static yX1_six ∈ sq_W := sq_in2 197 rfl rfl
theorem mlL_68 : Cond.methodLink RL 68 yX1_vector ∈ sq_W := sq_in2 199 rfl rfl
theorem miX1_vector : Cond.instanceMethod yX1_vector ∈ sq_W := sq_in2 200 rfl rfl
theorem mvX1_vector : Cond.selects RX1 yX1_vector yX1_vector ∈ sq_W := sq_in2 201 rfl rfl
theorem mlL_72 : Cond.methodLink RL 72 yX1_cycle ∈ sq_W := sq_in2 203 rfl rfl
theorem miX1_cycle : Cond.instanceMethod yX1_cycle ∈ sq_W := sq_in2 204 rfl rfl
theorem mvX1_cycle : Cond.selects RX1 yX1_cycle yX1_cycle ∈ sq_W := sq_in2 205 rfl rfl
theorem mnX1_101 : Cond.constant RX1 101 100000 ∈ sq_W := sq_in2 207 rfl rfl
theorem mlX1_102 : Cond.methodLink RX1 102 yX1_enter ∈ sq_W := sq_in2 208 rfl rfl
theorem miX1_enter : Cond.instanceMethod yX1_enter ∈ sq_W := sq_in2 210 rfl rfl
theorem mlX1_105 : Cond.methodLink RX1 105 yX1_letIn ∈ sq_W := sq_in2 212 rfl rfl
theorem miX1_letIn : Cond.instanceMethod yX1_letIn ∈ sq_W := sq_in2 214 rfl rfl
theorem mlX1_108 : Cond.methodLink RX1 108 yX1_goOn ∈ sq_W := sq_in2 216 rfl rfl
theorem miX1_goOn : Cond.instanceMethod yX1_goOn ∈ sq_W := sq_in2 218 rfl rfl
theorem mlX1_97 : Cond.methodLink RX1 97 yX1_enteredAgo ∈ sq_W := sq_in2 220 rfl rfl
theorem miX1_enteredAgo : Cond.instanceMethod yX1_enteredAgo ∈ sq_W := sq_in2 222 rfl rfl
theorem mlL_76 : Cond.methodLink RL 76 yX1_cell ∈ sq_W := sq_in2 224 rfl rfl
theorem miX1_cell : Cond.instanceMethod yX1_cell ∈ sq_W := sq_in2 225 rfl rfl
theorem mvX1_cell : Cond.selects RX1 yX1_cell yX1_cell ∈ sq_W := sq_in2 226 rfl rfl
theorem mlL_79 : Cond.methodLink RL 79 yX1_entered ∈ sq_W := sq_in2 228 rfl rfl
theorem miX1_entered : Cond.instanceMethod yX1_entered ∈ sq_W := sq_in2 229 rfl rfl
theorem mvX1_entered : Cond.selects RX1 yX1_entered yX1_entered ∈ sq_W := sq_in2 230 rfl rfl
theorem mlL_83 : Cond.methodLink RL 83 yX1_result ∈ sq_W := sq_in2 232 rfl rfl
theorem miX1_result : Cond.instanceMethod yX1_result ∈ sq_W := sq_in2 233 rfl rfl
theorem mvX1_result : Cond.selects RX1 yX1_result yX1_result ∈ sq_W := sq_in2 234 rfl rfl
theorem mlL_86 : Cond.methodLink RL 86 yX1_about ∈ sq_W := sq_in2 236 rfl rfl
theorem miX1_about : Cond.instanceMethod yX1_about ∈ sq_W := sq_in2 237 rfl rfl
theorem mvX1_about : Cond.selects RX1 yX1_about yX1_about ∈ sq_W := sq_in2 238 rfl rfl
theorem ma_long : Cond.arrayClass .long ∈ sq_W := sq_in3 0 rfl rfl
theorem mvX0_clearTo : Cond.selects RX0 yX0_clearTo yX0_clearTo ∈ sq_W := sq_in0 0 rfl rfl
theorem mvX0_isAtRest : Cond.selects RX0 yX0_isAtRest yX0_isAtRest ∈ sq_W := sq_in0 2 rfl rfl
theorem mvX0_canVectorEnter : Cond.selects RX0 yX0_canVectorEnter yX0_canVectorEnter ∈ sq_W := sq_in0 3 rfl rfl
theorem mvX0_isSetComplete : Cond.selects RX0 yX0_isSetComplete yX0_isSetComplete ∈ sq_W := sq_in0 4 rfl rfl
theorem mvX0_canRowComeIn : Cond.selects RX0 yX0_canRowComeIn yX0_canRowComeIn ∈ sq_W := sq_in0 5 rfl rfl
theorem mvX0_crossing : Cond.selects RX0 yX0_crossing yX0_crossing ∈ sq_W := sq_in0 6 rfl rfl
theorem mvX0_countReachedCells : Cond.selects RX0 yX0_countReachedCells yX0_countReachedCells ∈ sq_W := sq_in0 7 rfl rfl
theorem mvX0_runCycle : Cond.selects RX0 yX0_runCycle yX0_runCycle ∈ sq_W := sq_in0 8 rfl rfl
theorem mvX0_ageEntries : Cond.selects RX0 yX0_ageEntries yX0_ageEntries ∈ sq_W := sq_in0 9 rfl rfl
theorem mvX0_enterVector : Cond.selects RX0 yX0_enterVector yX0_enterVector ∈ sq_W := sq_in0 10 rfl rfl
theorem mvX0_letRowIn : Cond.selects RX0 yX0_letRowIn yX0_letRowIn ∈ sq_W := sq_in0 11 rfl rfl
theorem mvX0_goOn : Cond.selects RX0 yX0_goOn yX0_goOn ∈ sq_W := sq_in0 12 rfl rfl
theorem mvX0_advance : Cond.selects RX0 yX0_advance yX0_advance ∈ sq_W := sq_in0 13 rfl rfl
theorem mvX0_feed : Cond.selects RX0 yX0_feed yX0_feed ∈ sq_W := sq_in0 14 rfl rfl
theorem mvX0_keepResults : Cond.selects RX0 yX0_keepResults yX0_keepResults ∈ sq_W := sq_in0 15 rfl rfl
theorem mvX0_isInSquare : Cond.selects RX0 yX0_isInSquare yX0_isInSquare ∈ sq_W := sq_in0 16 rfl rfl
theorem mvX0_isVector : Cond.selects RX0 yX0_isVector yX0_isVector ∈ sq_W := sq_in0 17 rfl rfl
theorem mvX1_clear : Cond.selects RX1 yX1_clear yX1_clear ∈ sq_W := sq_in0 18 rfl rfl
theorem mvX1_refuse : Cond.selects RX1 yX1_refuse yX1_refuse ∈ sq_W := sq_in0 19 rfl rfl
theorem mvX1_enter : Cond.selects RX1 yX1_enter yX1_enter ∈ sq_W := sq_in0 20 rfl rfl
theorem mvX1_letIn : Cond.selects RX1 yX1_letIn yX1_letIn ∈ sq_W := sq_in0 21 rfl rfl
theorem mvX1_goOn : Cond.selects RX1 yX1_goOn yX1_goOn ∈ sq_W := sq_in0 22 rfl rfl
theorem mvX1_enteredAgo : Cond.selects RX1 yX1_enteredAgo yX1_enteredAgo ∈ sq_W := sq_in0 23 rfl rfl
theorem gvX0_44 : ∀ w ∈ wsV RX0 44 RX0 yX0_clearTo wsX0_clearTo, w ∈ sq_W := sq_c mlX0_44 (sq_c miX0_clearTo (sq_c mvX0_clearTo (sq_c mt_X0 (sq_c mcX0_clearTo sq_id))))
theorem gsX0_135 : ∀ w ∈ va_wsS RX0 135 yJ_fill wsJ_fill, w ∈ sq_W := sq_c mlX0_135 (sq_c msJ_fill (sq_c mt_J (sq_c mcJ_fill sq_id)))
theorem gsL_51 : ∀ w ∈ va_wsS RL 51 yL_begin wsL_begin, w ∈ sq_W := sq_c mlL_51 (sq_c msL_begin (sq_c mt_L (sq_c mcL_begin sq_id)))
theorem gvL_7 : ∀ w ∈ wsV RL 7 RX0 yX0_begin wsX0_begin, w ∈ sq_W := sq_c mlL_7 (sq_c miX0_begin (sq_c mvX0_begin (sq_c mt_X0 (sq_c mcX0_begin sq_id))))
theorem gsL_61 : ∀ w ∈ va_wsS RL 61 yL_weights wsL_weights, w ∈ sq_W := sq_c mlL_61 (sq_c msL_weights (sq_c mt_L (sq_c mcL_weights sq_id)))
theorem gvL_15 : ∀ w ∈ wsV RL 15 RX0 yX0_weights wsX0_weights, w ∈ sq_W := sq_c mlL_15 (sq_c miX0_weights (sq_c mvX0_weights (sq_c mt_X0 (sq_c mcX0_weights sq_id))))
theorem gsL_65 : ∀ w ∈ va_wsS RL 65 yL_vector wsL_vector, w ∈ sq_W := sq_c mlL_65 (sq_c msL_vector (sq_c mt_L (sq_c mcL_vector sq_id)))
theorem gvL_21 : ∀ w ∈ wsV RL 21 RX0 yX0_vector wsX0_vector, w ∈ sq_W := sq_c mlL_21 (sq_c miX0_vector (sq_c mvX0_vector (sq_c mt_X0 (sq_c mcX0_vector sq_id))))
theorem gsL_69 : ∀ w ∈ va_wsS RL 69 yL_cycle wsL_cycle, w ∈ sq_W := sq_c mlL_69 (sq_c msL_cycle (sq_c mt_L (sq_c mcL_cycle sq_id)))
theorem gvL_25 : ∀ w ∈ wsV RL 25 RX0 yX0_cycle wsX0_cycle, w ∈ sq_W := sq_c mlL_25 (sq_c miX0_cycle (sq_c mvX0_cycle (sq_c mt_X0 (sq_c mcX0_cycle sq_id))))
theorem gvX0_75 : ∀ w ∈ wsV RX0 75 RX0 yX0_isAtRest wsX0_isAtRest, w ∈ sq_W := sq_c mlX0_75 (sq_c miX0_isAtRest (sq_c mvX0_isAtRest (sq_c mt_X0 (sq_c mcX0_isAtRest sq_id))))
theorem gvX0_141 : ∀ w ∈ wsV RX0 141 RX0 yX0_canVectorEnter wsX0_canVectorEnter, w ∈ sq_W := sq_c mlX0_141 (sq_c miX0_canVectorEnter (sq_c mvX0_canVectorEnter (sq_c mt_X0 (sq_c mcX0_canVectorEnter sq_id))))
theorem gvX0_118 : ∀ w ∈ wsV RX0 118 RX0 yX0_isSetComplete wsX0_isSetComplete, w ∈ sq_W := sq_c mlX0_118 (sq_c miX0_isSetComplete (sq_c mvX0_isSetComplete (sq_c mt_X0 (sq_c mcX0_isSetComplete sq_id))))
theorem gvX0_144 : ∀ w ∈ wsV RX0 144 RX0 yX0_canRowComeIn wsX0_canRowComeIn, w ∈ sq_W := sq_c mlX0_144 (sq_c miX0_canRowComeIn (sq_c mvX0_canRowComeIn (sq_c mt_X0 (sq_c mcX0_canRowComeIn sq_id))))
theorem gvX0_103 : ∀ w ∈ wsV RX0 103 RX0 yX0_crossing wsX0_crossing, w ∈ sq_W := sq_c mlX0_103 (sq_c miX0_crossing (sq_c mvX0_crossing (sq_c mt_X0 (sq_c mcX0_crossing sq_id))))
theorem gvX0_121 : ∀ w ∈ wsV RX0 121 RX0 yX0_countReachedCells wsX0_countReachedCells, w ∈ sq_W := sq_c mlX0_121 (sq_c miX0_countReachedCells (sq_c mvX0_countReachedCells (sq_c mt_X0 (sq_c mcX0_countReachedCells sq_id))))
theorem gvX0_79 : ∀ w ∈ wsV RX0 79 RX0 yX0_runCycle wsX0_runCycle, w ∈ sq_W := sq_c mlX0_79 (sq_c miX0_runCycle (sq_c mvX0_runCycle (sq_c mt_X0 (sq_c mcX0_runCycle sq_id))))
theorem gvX0_147 : ∀ w ∈ wsV RX0 147 RX0 yX0_ageEntries wsX0_ageEntries, w ∈ sq_W := sq_c mlX0_147 (sq_c miX0_ageEntries (sq_c mvX0_ageEntries (sq_c mt_X0 (sq_c mcX0_ageEntries sq_id))))
theorem gvX0_150 : ∀ w ∈ wsV RX0 150 RX0 yX0_enterVector wsX0_enterVector, w ∈ sq_W := sq_c mlX0_150 (sq_c miX0_enterVector (sq_c mvX0_enterVector (sq_c mt_X0 (sq_c mcX0_enterVector sq_id))))
theorem gvX0_153 : ∀ w ∈ wsV RX0 153 RX0 yX0_letRowIn wsX0_letRowIn, w ∈ sq_W := sq_c mlX0_153 (sq_c miX0_letRowIn (sq_c mvX0_letRowIn (sq_c mt_X0 (sq_c mcX0_letRowIn sq_id))))
theorem gvX0_156 : ∀ w ∈ wsV RX0 156 RX0 yX0_goOn wsX0_goOn, w ∈ sq_W := sq_c mlX0_156 (sq_c miX0_goOn (sq_c mvX0_goOn (sq_c mt_X0 (sq_c mcX0_goOn sq_id))))
theorem gvX0_162 : ∀ w ∈ wsV RX0 162 RX0 yX0_advance wsX0_advance, w ∈ sq_W := sq_c mlX0_162 (sq_c miX0_advance (sq_c mvX0_advance (sq_c mt_X0 (sq_c mcX0_advance sq_id))))
theorem gvX0_166 : ∀ w ∈ wsV RX0 166 RX0 yX0_feed wsX0_feed, w ∈ sq_W := sq_c mlX0_166 (sq_c miX0_feed (sq_c mvX0_feed (sq_c mt_X0 (sq_c mcX0_feed sq_id))))
theorem gvX0_159 : ∀ w ∈ wsV RX0 159 RX0 yX0_keepResults wsX0_keepResults, w ∈ sq_W := sq_c mlX0_159 (sq_c miX0_keepResults (sq_c mvX0_keepResults (sq_c mt_X0 (sq_c mcX0_keepResults sq_id))))
theorem gsL_73 : ∀ w ∈ va_wsS RL 73 yL_cell wsL_cell, w ∈ sq_W := sq_c mlL_73 (sq_c msL_cell (sq_c mt_L (sq_c mcL_cell sq_id)))
theorem gvL_29 : ∀ w ∈ wsV RL 29 RX0 yX0_cell wsX0_cell, w ∈ sq_W := sq_c mlL_29 (sq_c miX0_cell (sq_c mvX0_cell (sq_c mt_X0 (sq_c mcX0_cell sq_id))))
theorem gvX0_82 : ∀ w ∈ wsV RX0 82 RX0 yX0_isInSquare wsX0_isInSquare, w ∈ sq_W := sq_c mlX0_82 (sq_c miX0_isInSquare (sq_c mvX0_isInSquare (sq_c mt_X0 (sq_c mcX0_isInSquare sq_id))))
theorem gsL_77 : ∀ w ∈ va_wsS RL 77 yL_entered wsL_entered, w ∈ sq_W := sq_c mlL_77 (sq_c msL_entered (sq_c mt_L (sq_c mcL_entered sq_id)))
theorem gvL_35 : ∀ w ∈ wsV RL 35 RX0 yX0_entered wsX0_entered, w ∈ sq_W := sq_c mlL_35 (sq_c miX0_entered (sq_c mvX0_entered (sq_c mt_X0 (sq_c mcX0_entered sq_id))))
theorem gvX0_93 : ∀ w ∈ wsV RX0 93 RX0 yX0_isVector wsX0_isVector, w ∈ sq_W := sq_c mlX0_93 (sq_c miX0_isVector (sq_c mvX0_isVector (sq_c mt_X0 (sq_c mcX0_isVector sq_id))))
theorem gsL_80 : ∀ w ∈ va_wsS RL 80 yL_result wsL_result, w ∈ sq_W := sq_c mlL_80 (sq_c msL_result (sq_c mt_L (sq_c mcL_result sq_id)))
theorem gvL_38 : ∀ w ∈ wsV RL 38 RX0 yX0_result wsX0_result, w ∈ sq_W := sq_c mlL_38 (sq_c miX0_result (sq_c mvX0_result (sq_c mt_X0 (sq_c mcX0_result sq_id))))
theorem gsL_84 : ∀ w ∈ va_wsS RL 84 yL_about wsL_about, w ∈ sq_W := sq_c mlL_84 (sq_c msL_about (sq_c mt_L (sq_c mcL_about sq_id)))
theorem gvL_44 : ∀ w ∈ wsV RL 44 RX0 yX0_about wsX0_about, w ∈ sq_W := sq_c mlL_44 (sq_c miX0_about (sq_c mvX0_about (sq_c mt_X0 (sq_c mcX0_about sq_id))))
theorem gvX1_51 : ∀ w ∈ wsV RX1 51 RX1 yX1_clear wsX1_clear, w ∈ sq_W := sq_c mlX1_51 (sq_c miX1_clear (sq_c mvX1_clear (sq_c mt_X1 (sq_c mcX1_clear sq_id))))
theorem gvL_57 : ∀ w ∈ wsV RL 57 RX1 yX1_thrown wsX1_thrown, w ∈ sq_W := sq_c mlL_57 (sq_c miX1_thrown (sq_c mvX1_thrown (sq_c mt_X1 (sq_c mcX1_thrown sq_id))))
theorem gvL_56 : ∀ w ∈ wsV RL 56 RX1 yX1_begin wsX1_begin, w ∈ sq_W := sq_c mlL_56 (sq_c miX1_begin (sq_c mvX1_begin (sq_c mt_X1 (sq_c mcX1_begin sq_id))))
theorem gsX1_82 : ∀ w ∈ va_wsS RX1 82 yX1_in_ wsX1_in_, w ∈ sq_W := sq_c mlX1_82 (sq_c msX1_in_ (sq_c mt_X1 (sq_c mcX1_in_ sq_id)))
theorem gvX1_86 : ∀ w ∈ wsV RX1 86 RX1 yX1_refuse wsX1_refuse, w ∈ sq_W := sq_c mlX1_86 (sq_c miX1_refuse (sq_c mvX1_refuse (sq_c mt_X1 (sq_c mcX1_refuse sq_id))))
theorem gvL_64 : ∀ w ∈ wsV RL 64 RX1 yX1_weights wsX1_weights, w ∈ sq_W := sq_c mlL_64 (sq_c miX1_weights (sq_c mvX1_weights (sq_c mt_X1 (sq_c mcX1_weights sq_id))))
theorem gsX1_90 : ∀ w ∈ va_wsS RX1 90 yX1_six wsX1_six, w ∈ sq_W := sq_c mlX1_90 (sq_c msX1_six (sq_c mt_X1 (sq_c mcX1_six sq_id)))
theorem gvL_68 : ∀ w ∈ wsV RL 68 RX1 yX1_vector wsX1_vector, w ∈ sq_W := sq_c mlL_68 (sq_c miX1_vector (sq_c mvX1_vector (sq_c mt_X1 (sq_c mcX1_vector sq_id))))
theorem gvL_72 : ∀ w ∈ wsV RL 72 RX1 yX1_cycle wsX1_cycle, w ∈ sq_W := sq_c mlL_72 (sq_c miX1_cycle (sq_c mvX1_cycle (sq_c mt_X1 (sq_c mcX1_cycle sq_id))))
theorem gvX1_102 : ∀ w ∈ wsV RX1 102 RX1 yX1_enter wsX1_enter, w ∈ sq_W := sq_c mlX1_102 (sq_c miX1_enter (sq_c mvX1_enter (sq_c mt_X1 (sq_c mcX1_enter sq_id))))
theorem gvX1_105 : ∀ w ∈ wsV RX1 105 RX1 yX1_letIn wsX1_letIn, w ∈ sq_W := sq_c mlX1_105 (sq_c miX1_letIn (sq_c mvX1_letIn (sq_c mt_X1 (sq_c mcX1_letIn sq_id))))
theorem gvX1_108 : ∀ w ∈ wsV RX1 108 RX1 yX1_goOn wsX1_goOn, w ∈ sq_W := sq_c mlX1_108 (sq_c miX1_goOn (sq_c mvX1_goOn (sq_c mt_X1 (sq_c mcX1_goOn sq_id))))
theorem gvX1_97 : ∀ w ∈ wsV RX1 97 RX1 yX1_enteredAgo wsX1_enteredAgo, w ∈ sq_W := sq_c mlX1_97 (sq_c miX1_enteredAgo (sq_c mvX1_enteredAgo (sq_c mt_X1 (sq_c mcX1_enteredAgo sq_id))))
theorem gvL_76 : ∀ w ∈ wsV RL 76 RX1 yX1_cell wsX1_cell, w ∈ sq_W := sq_c mlL_76 (sq_c miX1_cell (sq_c mvX1_cell (sq_c mt_X1 (sq_c mcX1_cell sq_id))))
theorem gvL_79 : ∀ w ∈ wsV RL 79 RX1 yX1_entered wsX1_entered, w ∈ sq_W := sq_c mlL_79 (sq_c miX1_entered (sq_c mvX1_entered (sq_c mt_X1 (sq_c mcX1_entered sq_id))))
theorem gvL_83 : ∀ w ∈ wsV RL 83 RX1 yX1_result wsX1_result, w ∈ sq_W := sq_c mlL_83 (sq_c miX1_result (sq_c mvX1_result (sq_c mt_X1 (sq_c mcX1_result sq_id))))
theorem gvL_86 : ∀ w ∈ wsV RL 86 RX1 yX1_about wsX1_about, w ∈ sq_W := sq_c mlL_86 (sq_c miX1_about (sq_c mvX1_about (sq_c mt_X1 (sq_c mcX1_about sq_id))))
theorem inX0 : ∀ w ∈ u_ws RX0 TX0 20, w ∈ sq_W := by
  show ∀ w ∈ [u_lay RX0 TX0 0, u_lay RX0 TX0 1, u_lay RX0 TX0 2, u_lay RX0 TX0 3, u_lay RX0 TX0 4, u_lay RX0 TX0 5, u_lay RX0 TX0 6, u_lay RX0 TX0 7, u_lay RX0 TX0 8, u_lay RX0 TX0 9, u_lay RX0 TX0 10, u_lay RX0 TX0 11, u_lay RX0 TX0 12, u_lay RX0 TX0 13, u_lay RX0 TX0 14, u_lay RX0 TX0 15, u_lay RX0 TX0 16, u_lay RX0 TX0 17, u_lay RX0 TX0 18, u_lay RX0 TX0 19], w ∈ sq_W
  exact sq_c (sq_in1 46 rfl rfl) (sq_c (sq_in1 48 rfl rfl) (sq_c (sq_in1 50 rfl rfl) (sq_c (sq_in1 52 rfl rfl) (sq_c (sq_in1 54 rfl rfl) (sq_c (sq_in1 56 rfl rfl) (sq_c (sq_in1 58 rfl rfl) (sq_c (sq_in1 60 rfl rfl) (sq_c (sq_in1 62 rfl rfl) (sq_c (sq_in1 64 rfl rfl) (sq_c (sq_in1 66 rfl rfl) (sq_c (sq_in1 68 rfl rfl) (sq_c (sq_in1 70 rfl rfl) (sq_c (sq_in1 72 rfl rfl) (sq_c (sq_in1 74 rfl rfl) (sq_c (sq_in1 76 rfl rfl) (sq_c (sq_in1 78 rfl rfl) (sq_c (sq_in1 80 rfl rfl) (sq_c (sq_in1 82 rfl rfl) (sq_c (sq_in1 84 rfl rfl) (fun _ h => absurd h List.not_mem_nil))))))))))))))))))))
theorem inX1 : ∀ w ∈ u_ws RX1 TX1 23, w ∈ sq_W := by
  show ∀ w ∈ [u_lay RX1 TX1 0, u_lay RX1 TX1 1, u_lay RX1 TX1 2, u_lay RX1 TX1 3, u_lay RX1 TX1 4, u_lay RX1 TX1 5, u_lay RX1 TX1 6, u_lay RX1 TX1 7, u_lay RX1 TX1 8, u_lay RX1 TX1 9, u_lay RX1 TX1 10, u_lay RX1 TX1 11, u_lay RX1 TX1 12, u_lay RX1 TX1 13, u_lay RX1 TX1 14, u_lay RX1 TX1 15, u_lay RX1 TX1 16, u_lay RX1 TX1 17, u_lay RX1 TX1 18, u_lay RX1 TX1 19, u_lay RX1 TX1 20, u_lay RX1 TX1 21, u_lay RX1 TX1 22], w ∈ sq_W
  exact sq_c (sq_in2 130 rfl rfl) (sq_c (sq_in2 132 rfl rfl) (sq_c (sq_in2 134 rfl rfl) (sq_c (sq_in2 136 rfl rfl) (sq_c (sq_in2 138 rfl rfl) (sq_c (sq_in2 140 rfl rfl) (sq_c (sq_in2 142 rfl rfl) (sq_c (sq_in2 144 rfl rfl) (sq_c (sq_in2 146 rfl rfl) (sq_c (sq_in2 148 rfl rfl) (sq_c (sq_in2 150 rfl rfl) (sq_c (sq_in2 152 rfl rfl) (sq_c (sq_in2 154 rfl rfl) (sq_c (sq_in2 156 rfl rfl) (sq_c (sq_in2 158 rfl rfl) (sq_c (sq_in2 160 rfl rfl) (sq_c (sq_in2 162 rfl rfl) (sq_c (sq_in2 164 rfl rfl) (sq_c (sq_in2 166 rfl rfl) (sq_c (sq_in2 168 rfl rfl) (sq_c (sq_in2 170 rfl rfl) (sq_c (sq_in2 172 rfl rfl) (sq_c (sq_in2 174 rfl rfl) (fun _ h => absurd h List.not_mem_nil)))))))))))))))))))))))
