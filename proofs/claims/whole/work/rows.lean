section
-- ===== PART A: goes FIRST, ahead of the names: the tables' words, and 'selects' of the private methods out of them =====
/-- a private method of a class that the tables say can be made, by its rows of tables_1 -/
def lw_okq (q : MethodName × Nat) : Prop := (q.1.cls ≠ "java/lang/invoke/MethodHandle" ∧ q.1.cls ≠ "java/lang/invoke/VarHandle") ∧ Cond.instantiable q.1.cls q.2 ∈ tables_1 ∧ Cond.privateMethod q.1 ∈ tables_1 ∧ Cond.instanceMethod q.1 ∈ tables_1
theorem lw_p0 : lw_okq (⟨"SquareStream", "clearTo", "(I)V"⟩, 20) := ⟨⟨by decide +kernel, by decide +kernel⟩, List.mem_of_getElem? (i := 12) (by decide +kernel), List.mem_of_getElem? (i := 20) (by decide +kernel), List.mem_of_getElem? (i := 21) (by decide +kernel)⟩
theorem lw_p1 : lw_okq (⟨"java/lang/Throwable", "fillInStackTrace", "(I)Ljava/lang/Throwable;"⟩, 6) := ⟨⟨by decide +kernel, by decide +kernel⟩, List.mem_of_getElem? (i := 137) (by decide +kernel), List.mem_of_getElem? (i := 135) (by decide +kernel), List.mem_of_getElem? (i := 136) (by decide +kernel)⟩
theorem lw_p2 : lw_okq (⟨"SquareStream", "isAtRest", "()Z"⟩, 20) := ⟨⟨by decide +kernel, by decide +kernel⟩, List.mem_of_getElem? (i := 12) (by decide +kernel), List.mem_of_getElem? (i := 208) (by decide +kernel), List.mem_of_getElem? (i := 209) (by decide +kernel)⟩
theorem lw_p3 : lw_okq (⟨"SquareStream", "canVectorEnter", "()Z"⟩, 20) := ⟨⟨by decide +kernel, by decide +kernel⟩, List.mem_of_getElem? (i := 12) (by decide +kernel), List.mem_of_getElem? (i := 212) (by decide +kernel), List.mem_of_getElem? (i := 213) (by decide +kernel)⟩
theorem lw_p4 : lw_okq (⟨"SquareStream", "isSetComplete", "()Z"⟩, 20) := ⟨⟨by decide +kernel, by decide +kernel⟩, List.mem_of_getElem? (i := 12) (by decide +kernel), List.mem_of_getElem? (i := 216) (by decide +kernel), List.mem_of_getElem? (i := 217) (by decide +kernel)⟩
theorem lw_p5 : lw_okq (⟨"SquareStream", "canRowComeIn", "(I)Z"⟩, 20) := ⟨⟨by decide +kernel, by decide +kernel⟩, List.mem_of_getElem? (i := 12) (by decide +kernel), List.mem_of_getElem? (i := 220) (by decide +kernel), List.mem_of_getElem? (i := 221) (by decide +kernel)⟩
theorem lw_p6 : lw_okq (⟨"SquareStream", "crossing", "()I"⟩, 20) := ⟨⟨by decide +kernel, by decide +kernel⟩, List.mem_of_getElem? (i := 12) (by decide +kernel), List.mem_of_getElem? (i := 224) (by decide +kernel), List.mem_of_getElem? (i := 225) (by decide +kernel)⟩
theorem lw_p7 : lw_okq (⟨"SquareStream", "countReachedCells", "()I"⟩, 20) := ⟨⟨by decide +kernel, by decide +kernel⟩, List.mem_of_getElem? (i := 12) (by decide +kernel), List.mem_of_getElem? (i := 228) (by decide +kernel), List.mem_of_getElem? (i := 229) (by decide +kernel)⟩
theorem lw_p8 : lw_okq (⟨"SquareStream", "runCycle", "()V"⟩, 20) := ⟨⟨by decide +kernel, by decide +kernel⟩, List.mem_of_getElem? (i := 12) (by decide +kernel), List.mem_of_getElem? (i := 232) (by decide +kernel), List.mem_of_getElem? (i := 233) (by decide +kernel)⟩
theorem lw_p9 : lw_okq (⟨"SquareStream", "ageEntries", "()V"⟩, 20) := ⟨⟨by decide +kernel, by decide +kernel⟩, List.mem_of_getElem? (i := 12) (by decide +kernel), List.mem_of_getElem? (i := 236) (by decide +kernel), List.mem_of_getElem? (i := 237) (by decide +kernel)⟩
theorem lw_p10 : lw_okq (⟨"SquareStream", "enterVector", "()V"⟩, 20) := ⟨⟨by decide +kernel, by decide +kernel⟩, List.mem_of_getElem? (i := 12) (by decide +kernel), List.mem_of_getElem? (i := 240) (by decide +kernel), List.mem_of_getElem? (i := 241) (by decide +kernel)⟩
theorem lw_p11 : lw_okq (⟨"SquareStream", "letRowIn", "()V"⟩, 20) := ⟨⟨by decide +kernel, by decide +kernel⟩, List.mem_of_getElem? (i := 12) (by decide +kernel), List.mem_of_getElem? (i := 244) (by decide +kernel), List.mem_of_getElem? (i := 245) (by decide +kernel)⟩
theorem lw_p12 : lw_okq (⟨"SquareStream", "goOn", "()V"⟩, 20) := ⟨⟨by decide +kernel, by decide +kernel⟩, List.mem_of_getElem? (i := 12) (by decide +kernel), List.mem_of_getElem? (i := 248) (by decide +kernel), List.mem_of_getElem? (i := 249) (by decide +kernel)⟩
theorem lw_p13 : lw_okq (⟨"SquareStream", "advance", "(IIIZ)V"⟩, 20) := ⟨⟨by decide +kernel, by decide +kernel⟩, List.mem_of_getElem? (i := 12) (by decide +kernel), List.mem_of_getElem? (i := 252) (by decide +kernel), List.mem_of_getElem? (i := 253) (by decide +kernel)⟩
theorem lw_p14 : lw_okq (⟨"SquareStream", "feed", "(I)V"⟩, 20) := ⟨⟨by decide +kernel, by decide +kernel⟩, List.mem_of_getElem? (i := 12) (by decide +kernel), List.mem_of_getElem? (i := 256) (by decide +kernel), List.mem_of_getElem? (i := 257) (by decide +kernel)⟩
theorem lw_p15 : lw_okq (⟨"SquareStream", "keepResults", "()V"⟩, 20) := ⟨⟨by decide +kernel, by decide +kernel⟩, List.mem_of_getElem? (i := 12) (by decide +kernel), List.mem_of_getElem? (i := 260) (by decide +kernel), List.mem_of_getElem? (i := 261) (by decide +kernel)⟩
def lw_privs_1 : List (MethodName × Nat) := [(⟨"SquareStream", "clearTo", "(I)V"⟩, 20), (⟨"java/lang/Throwable", "fillInStackTrace", "(I)Ljava/lang/Throwable;"⟩, 6), (⟨"SquareStream", "isAtRest", "()Z"⟩, 20), (⟨"SquareStream", "canVectorEnter", "()Z"⟩, 20), (⟨"SquareStream", "isSetComplete", "()Z"⟩, 20), (⟨"SquareStream", "canRowComeIn", "(I)Z"⟩, 20), (⟨"SquareStream", "crossing", "()I"⟩, 20), (⟨"SquareStream", "countReachedCells", "()I"⟩, 20), (⟨"SquareStream", "runCycle", "()V"⟩, 20), (⟨"SquareStream", "ageEntries", "()V"⟩, 20), (⟨"SquareStream", "enterVector", "()V"⟩, 20), (⟨"SquareStream", "letRowIn", "()V"⟩, 20), (⟨"SquareStream", "goOn", "()V"⟩, 20), (⟨"SquareStream", "advance", "(IIIZ)V"⟩, 20), (⟨"SquareStream", "feed", "(I)V"⟩, 20), (⟨"SquareStream", "keepResults", "()V"⟩, 20)]
theorem lw_r1 : ∀ q ∈ lw_privs_1, lw_okq q := List.forall_mem_cons.mpr ⟨lw_p0, List.forall_mem_cons.mpr ⟨lw_p1, List.forall_mem_cons.mpr ⟨lw_p2, List.forall_mem_cons.mpr ⟨lw_p3, List.forall_mem_cons.mpr ⟨lw_p4, List.forall_mem_cons.mpr ⟨lw_p5, List.forall_mem_cons.mpr ⟨lw_p6, List.forall_mem_cons.mpr ⟨lw_p7, List.forall_mem_cons.mpr ⟨lw_p8, List.forall_mem_cons.mpr ⟨lw_p9, List.forall_mem_cons.mpr ⟨lw_p10, List.forall_mem_cons.mpr ⟨lw_p11, List.forall_mem_cons.mpr ⟨lw_p12, List.forall_mem_cons.mpr ⟨lw_p13, List.forall_mem_cons.mpr ⟨lw_p14, List.forall_mem_cons.mpr ⟨lw_p15, fun _ h => absurd h List.not_mem_nil⟩⟩⟩⟩⟩⟩⟩⟩⟩⟩⟩⟩⟩⟩⟩⟩
theorem lw_p16 : lw_okq (⟨"SquareStream", "isInSquare", "(I)Z"⟩, 20) := ⟨⟨by decide +kernel, by decide +kernel⟩, List.mem_of_getElem? (i := 12) (by decide +kernel), List.mem_of_getElem? (i := 272) (by decide +kernel), List.mem_of_getElem? (i := 273) (by decide +kernel)⟩
theorem lw_p17 : lw_okq (⟨"SquareStream", "isVector", "(I)Z"⟩, 20) := ⟨⟨by decide +kernel, by decide +kernel⟩, List.mem_of_getElem? (i := 12) (by decide +kernel), List.mem_of_getElem? (i := 300) (by decide +kernel), List.mem_of_getElem? (i := 301) (by decide +kernel)⟩
theorem lw_p18 : lw_okq (⟨"SquareStreamModel", "clear", "()V"⟩, 23) := ⟨⟨by decide +kernel, by decide +kernel⟩, List.mem_of_getElem? (i := 338) (by decide +kernel), List.mem_of_getElem? (i := 344) (by decide +kernel), List.mem_of_getElem? (i := 345) (by decide +kernel)⟩
theorem lw_p19 : lw_okq (⟨"SquareStreamModel", "refuse", "(ZZ)Z"⟩, 23) := ⟨⟨by decide +kernel, by decide +kernel⟩, List.mem_of_getElem? (i := 338) (by decide +kernel), List.mem_of_getElem? (i := 429) (by decide +kernel), List.mem_of_getElem? (i := 430) (by decide +kernel)⟩
theorem lw_p20 : lw_okq (⟨"SquareStreamModel", "enter", "()V"⟩, 23) := ⟨⟨by decide +kernel, by decide +kernel⟩, List.mem_of_getElem? (i := 338) (by decide +kernel), List.mem_of_getElem? (i := 449) (by decide +kernel), List.mem_of_getElem? (i := 450) (by decide +kernel)⟩
theorem lw_p21 : lw_okq (⟨"SquareStreamModel", "letIn", "()V"⟩, 23) := ⟨⟨by decide +kernel, by decide +kernel⟩, List.mem_of_getElem? (i := 338) (by decide +kernel), List.mem_of_getElem? (i := 453) (by decide +kernel), List.mem_of_getElem? (i := 454) (by decide +kernel)⟩
theorem lw_p22 : lw_okq (⟨"SquareStreamModel", "goOn", "()V"⟩, 23) := ⟨⟨by decide +kernel, by decide +kernel⟩, List.mem_of_getElem? (i := 338) (by decide +kernel), List.mem_of_getElem? (i := 457) (by decide +kernel), List.mem_of_getElem? (i := 458) (by decide +kernel)⟩
theorem lw_p23 : lw_okq (⟨"SquareStreamModel", "enteredAgo", "(I)I"⟩, 23) := ⟨⟨by decide +kernel, by decide +kernel⟩, List.mem_of_getElem? (i := 338) (by decide +kernel), List.mem_of_getElem? (i := 461) (by decide +kernel), List.mem_of_getElem? (i := 462) (by decide +kernel)⟩
def lw_privs_2 : List (MethodName × Nat) := [(⟨"SquareStream", "isInSquare", "(I)Z"⟩, 20), (⟨"SquareStream", "isVector", "(I)Z"⟩, 20), (⟨"SquareStreamModel", "clear", "()V"⟩, 23), (⟨"SquareStreamModel", "refuse", "(ZZ)Z"⟩, 23), (⟨"SquareStreamModel", "enter", "()V"⟩, 23), (⟨"SquareStreamModel", "letIn", "()V"⟩, 23), (⟨"SquareStreamModel", "goOn", "()V"⟩, 23), (⟨"SquareStreamModel", "enteredAgo", "(I)I"⟩, 23)]
theorem lw_r2 : ∀ q ∈ lw_privs_2, lw_okq q := List.forall_mem_cons.mpr ⟨lw_p16, List.forall_mem_cons.mpr ⟨lw_p17, List.forall_mem_cons.mpr ⟨lw_p18, List.forall_mem_cons.mpr ⟨lw_p19, List.forall_mem_cons.mpr ⟨lw_p20, List.forall_mem_cons.mpr ⟨lw_p21, List.forall_mem_cons.mpr ⟨lw_p22, List.forall_mem_cons.mpr ⟨lw_p23, fun _ h => absurd h List.not_mem_nil⟩⟩⟩⟩⟩⟩⟩⟩
def lw_privs : List (MethodName × Nat) := lw_privs_1 ++ (lw_privs_2)
def lw_tbl : List Cond := k2_sels lw_privs ++ tables_1
theorem lw_privs_ok : ∀ q ∈ lw_privs, lw_okq q := by
  show ∀ q ∈ lw_privs_1 ++ (lw_privs_2), lw_okq q
  exact List.forall_mem_append.mpr ⟨lw_r1, lw_r2⟩
/-! ===== BEGIN words of one list among another's, by their places ===== -/
theorem goodIn_r {big : List Cond} (ws : List Cond) (ps : List Nat) (hp : ws = ps.filterMap (fun i => big[i]?)) (h : ws.all goodWord = true) : GoodIn big ws := by
  intro w hw
  have h1 := List.all_eq_true.mp h w hw
  rw [hp] at hw
  obtain ⟨i, -, hi⟩ := List.mem_filterMap.mp hw
  have hm : w ∈ big := by first | exact List.mem_of_getElem? hi | exact List.getElem?_mem hi
  exact ⟨hm, good_of_word h1⟩
theorem goodIn_app {big a b : List Cond} (ha : GoodIn big a) (hb : GoodIn big b) : GoodIn big (a ++ b) := fun w h => (List.mem_append.mp h).elim (ha w) (hb w)
theorem goodIn_ca {big a b : List Cond} {c : Cond} (ha : GoodIn big (c :: a)) (hb : GoodIn big b) : GoodIn big (c :: (a ++ b)) := fun w h => (List.mem_cons.mp h).elim (fun e => ha w (List.mem_cons.mpr (Or.inl e))) (fun h => (List.mem_append.mp h).elim (fun h => ha w (List.mem_cons.mpr (Or.inr h))) (hb w))
theorem goodIn_sub {big ws : List Cond} (hm : ∀ w ∈ ws, w ∈ big) (h : ws.all goodWord = true) : GoodIn big ws := fun w hw => ⟨hm w hw, good_of_word (List.all_eq_true.mp h w hw)⟩
/-! ===== END ===== -/

/-! ===== BEGIN exceptions that leave a method, and their catching by the caller (launches without stack traces) ===== -/
section VXA
/-! The laws vx_back, vx_callV, vx_callS, vx_callSW, vx_throw0, vx_throwS follow proofs of the library, with one case more: JvmDerived/Free/Laws.lean (Back.of_free), Shelf42/LK1.lean (callV, callS), Shelf/KitTraced.lean (throwNew0V, throwNewS). -/
/-- where a method has thrown q: the class by its name, the cell, what was written, the world -/
def vx_T (XC : String → State → State → Prop) (st : State) (q : Addr) (t : State) (mc ms : Nat) (free : Addr → Prop) : Prop :=
  ∃ (E : String) (ce : Cell) (L : List Loc), XC E st t ∧ t.heap[q]? = some ce ∧ ce.vm = .none ∧ st.vm.findClass E = some ce.cls ∧ st.WarmedH t.vm ∧ st.sameButNew ({ t with vm := st.vm } : State) L mc ms ∧ ∀ z ∈ L, free z.base
def vx_Q (Qc : Array Value → State → Outcome → State → Prop) (XC : String → State → State → Prop) (mc ms : Nat) (free : Addr → Prop) : Array Value → State → Outcome → State → Prop := fun a st o t =>
  (Qc a st o t ∧ ∃ L, FrameEnd st o t L mc ms ∧ ∀ q ∈ L, free q.base) ∨ ∃ q, o = .threw q ∧ vx_T XC st q t mc ms free
/-- a callee that returns or throws -/
def vx_Met (l : Launch) (y : MethodName) (ws : List Cond) (rm : Room) (Pc : Array Value → State → Prop) (Qc : Array Value → State → Outcome → State → Prop) (XC : String → State → State → Prop) (mc ms : Nat) (free : Addr → Prop) : Prop :=
  MetFree l y (headSpec ws rm) Pc (fun _ _ _ _ _ => True) (vx_Q Qc XC mc ms free)
def vx_Post (XC : String → State → State → Prop) (mc ms : Nat) (free : Addr → Prop) : Pt → Array Value → Addr → Pt → Prop := fun A a q B =>
  ∃ (g : JFrame) (mk : MethodId) (t : State) (L : List Loc) (E : String) (ce : Cell), B.U.heap = t.heap ∧ B.U.vm = t.vm ∧ XC E (A.U.calling g mk a) t ∧ t.heap[q]? = some ce ∧ ce.vm = .none ∧ A.U.vm.findClass E = some ce.cls ∧ B.locs = A.locs ++ L ∧ (∀ z ∈ L, free z.base) ∧ B.cells = A.cells + mc ∧ B.slots = A.slots + ms
def vx_Back (l : Launch) (R : Room) (p : Program) (e : Env) (below : List Frame) (s : State) (sargs : Array Value) (y : MethodName) (len W9 : Nat)
    (Pre : Pt → Array Value → Prop) (Post : Pt → Array Value → Option Value → Pt → Prop) (PostX : Pt → Array Value → Addr → Pt → Prop) : Prop :=
  ∀ (m : MethodId) (meth : Method) (c : Code) (A : Pt) (g : JFrame) (ig : Instr) (mk : MethodId) (a : Array Value),
    Stand p l e R s m sargs below meth c A.U A.locs A.cells A.slots → g.method = m → g.locals.size = c.maxLocals → decode c.code g.pc = .ok (ig, len) →
    2 * g.monitorRoom + (g.stack.map fun v => v.category).sum ≤ W9 → A.U.methodNamed? y = some mk → Pre A a →
    (∃ (v : Option Value) (B : Pt), Stand p l e R s m sargs below meth c B.U B.locs B.cells B.slots ∧ Post A a v B ∧
      Steps p.tables e below (doInvoke e (A.U.setTop g) [] mk a).1 (B.U.setTop { g with pc := g.pc + len, stack := v.toList ++ g.stack })) ∨
    (∃ (q : Addr) (B : Pt), Stand p l e R s m sargs below meth c B.U B.locs B.cells B.slots ∧ PostX A a q B ∧
      Steps p.tables e below (doInvoke e (A.U.setTop g) [] mk a).1 ((B.U.setTop g).pushFrame (.throwing q)))
section Payer
variable {l : Launch} {R : Room} {p : Program} {e : Env} {below : List Frame} {s : State} {sargs : Array Value} {y : MethodName} {len W9 : Nat}
theorem vx_back {ws : List Cond} {rm : Room} {Pc : Array Value → State → Prop} {Qc : Array Value → State → Outcome → State → Prop} {XC : String → State → State → Prop} {mc ms : Nat} {free : Addr → Prop} {bytes : ByteArray} {maxL : Nat} {ret : Option FieldType}
    (hM : vx_Met l y ws rm Pc Qc XC mc ms free) (hblind : FrameBlind Pc) (hrc : rm.cells = mc) (hrs : rm.slots = ms)
    (hframes : rm.frames + 1 ≤ R.frames) (hlocals : W9 + (maxL + 11) + rm.locals ≤ R.locals)
    (hws : ∀ w ∈ ws, ∀ a' U, s.WarmedH U.vm → w.before a' U = true) (hcode : Cond.code y bytes maxL ret ∈ ws) (hinit : ∀ a' U, s.WarmedH U.vm → (Cond.initialized y.cls).before a' U = true) :
    vx_Back l R p e below s sargs y len W9 (PreOf R mc ms Pc) (PostOf Qc mc ms free) (vx_Post XC mc ms free) := by
  intro m meth c A g ig mk a X hg hsize hdg hW hn hp
  have h1 : (headSpec ws rm).pre.before a A.U = true := atoms_intro fun w hw => hws w hw _ _ X.warmed
  have h2 : (Cond.code y bytes maxL ret).before a A.U = true := hws _ hcode _ _ X.warmed
  have h3 : (Cond.initialized y.cls).before a A.U = true := hinit _ _ X.warmed
  have h4 : A.cells + (headSpec ws rm).room.cells ≤ R.cells := by rw [show (headSpec ws rm).room.cells = mc from hrc]; exact hp.1
  have h5 : A.slots + (headSpec ws rm).room.slots ≤ R.slots := by rw [show (headSpec ws rm).room.slots = ms from hrs]; exact hp.2.1
  have hPc : Pc a (A.U.calling g mk a) := hblind _ _ _ _ hp.2.2
  obtain ⟨U, Ls, c0, s0⟩ := A
  dsimp only [Pt.U, Pt.locs, Pt.cells, Pt.slots] at h1 h2 h3 h4 h5 X hn hPc ⊢
  obtain ⟨methY, cY, hmY, hcY, -, hlY, -, -, -, -⟩ := Cond.code_spec hn h2
  obtain ⟨kY, hkY, -⟩ := className_of_methodNamed hn
  have hinitY : kY.init = .initialized := Cond.initialized_spec (findClass_of_methodNamed hn) hkY h3
  have h : At U g.method c below := by rw [hg]; exact X.here
  have hlocals9 : W9 + (maxL + 11) + (headSpec ws rm).room.locals ≤ R.locals := hlocals
  have happ : (headSpec ws rm).appliesLoose y e.platform (U.calling g mk a) = true :=
    Spec.appliesLoose_calling (g := g) h hdg hn hkY hinitY
      (X.room_calling (g := g) (R' := (headSpec ws rm).room) hsize hmY hcY hframes (by rw [hlY]; omega) h4 h5) h1
  obtain ⟨mid, hmid⟩ := h.above
  have hfr : (U.setTop g).frames = (.java g :: mid) ++ below := by rw [State.frames_setTop' g h.top, hmid]; rfl
  obtain ⟨o, s₂, hsteps, -, hend, hq⟩ := Steps.callFree hM p X.admits X.cas X.clock (acts := []) hfr happ hPc trivial
  have hq' : vx_Q Qc XC mc ms free a (U.calling g mk a) o s₂ := hq
  rw [State.frames_setTop' g h.top] at hend
  obtain ⟨g₀, hg0⟩ := Option.isSome_iff_exists.mp h.top
  obtain ⟨r, hr⟩ := State.topJava?_eq_some.mp hg0
  have hr' : (({ U with heap := s₂.heap, slotsUsed := s₂.slotsUsed } : State).setVm s₂.vm).frames = .java g₀ :: r := hr
  rcases hq' with ⟨hqc, L, hfe, hL⟩ | ⟨q, rfl, E, ce, L, hx, hce, hcv, hcl, hW₂, hsm, hL⟩
  · obtain ⟨⟨v, rfl⟩, hW₂, e2, q2, q3, q4, q5, q6⟩ := id hfe
    have e3 : s₂ = ({ (U.calling g mk a).setFrames s₂.frames with heap := s₂.heap, slotsUsed := s₂.slotsUsed } : State).setVm s₂.vm := by
      have : s₂ = ({ s₂ with vm := (U.calling g mk a).vm } : State).setVm s₂.vm := rfl
      rw [e2] at this
      exact this
    obtain ⟨c₂, i₂, len₂, hc₂, hd₂, hf₂⟩ := hend
    have hW' : U.WarmedH s₂.vm := hW₂
    have hcc : c₂ = c := by
      have h1 : s₂.code? g.method = U.code? g.method := by
        rw [State.code?_eq, State.code?_eq, hW'.alike.method?]
      exact Option.some.inj (hc₂.symm.trans (h1.trans h.code))
    subst hcc
    have hlen : len₂ = len := by rw [hdg] at hd₂; cases hd₂; rfl
    subst hlen
    have hs₂ : s₂ = (({ U with heap := s₂.heap, slotsUsed := s₂.slotsUsed } : State).setVm s₂.vm).setTop { g with pc := g.pc + len₂, stack := v.toList ++ g.stack } := by
      refine e3.trans ?_
      rw [hf₂, State.calling_eq h.top, State.setFrames_setFrames, State.setTop_of_frames _ hr', hr]
      rfl
    have hsame : U.sameButNew ({ U with heap := s₂.heap, slotsUsed := s₂.slotsUsed } : State) L mc ms := by
      refine ⟨?_, q2, q3, q4, q5, q6⟩
      obtain ⟨t, ht, -⟩ := State.frames_cons hr
      show ({ U with heap := s₂.heap, slotsUsed := s₂.slotsUsed } : State) = { U.setFrames U.frames with heap := s₂.heap, slotsUsed := s₂.slotsUsed }
      rw [State.setFrames_self ht]
    subst hg
    refine Or.inl ⟨v, ⟨(({ U with heap := s₂.heap, slotsUsed := s₂.slotsUsed } : State).setVm s₂.vm), Ls ++ L, c0 + mc, s0 + ms⟩,
      ⟨X.admits, X.cas, X.clock, X.frames, X.room, X.hears, X.method, X.code, (X.here.setHeapUsed s₂.heap s₂.slotsUsed).setVm hW'.alike, X.tail, State.WarmedH.trans X.warmed hW', X.limits, X.bytes, X.same.trans (hsame.setVm s.vm)⟩,
      ⟨g, mk, s₂, L, rfl, rfl, hqc, rfl, hL, rfl, rfl⟩, ?_⟩
    show Steps p.tables e below _ ((({ U with heap := s₂.heap, slotsUsed := s₂.slotsUsed } : State).setVm s₂.vm).setTop { g with pc := g.pc + len₂, stack := v.toList ++ g.stack })
    rw [← hs₂]
    exact hsteps
  · obtain ⟨e2, q2, q3, q4, q5, q6⟩ := id hsm
    have e3 : s₂ = ({ (U.calling g mk a).setFrames s₂.frames with heap := s₂.heap, slotsUsed := s₂.slotsUsed } : State).setVm s₂.vm := by
      have : s₂ = ({ s₂ with vm := (U.calling g mk a).vm } : State).setVm s₂.vm := rfl
      rw [e2] at this
      exact this
    have hf₂ : s₂.frames = .throwing q :: .java g :: U.frames.tail := hend
    have hW' : U.WarmedH s₂.vm := hW₂
    have hs₂ : s₂ = ((({ U with heap := s₂.heap, slotsUsed := s₂.slotsUsed } : State).setVm s₂.vm).setTop g).pushFrame (.throwing q) := by
      refine e3.trans ?_
      rw [hf₂, State.calling_eq h.top, State.setFrames_setFrames, State.pushFrame, State.frames_setTop _ hr', State.setTop_of_frames _ hr', State.setFrames_setFrames, hr]
      rfl
    have hsame : U.sameButNew ({ U with heap := s₂.heap, slotsUsed := s₂.slotsUsed } : State) L mc ms := by
      refine ⟨?_, q2, q3, q4, q5, q6⟩
      obtain ⟨t, ht, -⟩ := State.frames_cons hr
      show ({ U with heap := s₂.heap, slotsUsed := s₂.slotsUsed } : State) = { U.setFrames U.frames with heap := s₂.heap, slotsUsed := s₂.slotsUsed }
      rw [State.setFrames_self ht]
    subst hg
    refine Or.inr ⟨q, ⟨(({ U with heap := s₂.heap, slotsUsed := s₂.slotsUsed } : State).setVm s₂.vm), Ls ++ L, c0 + mc, s0 + ms⟩,
      ⟨X.admits, X.cas, X.clock, X.frames, X.room, X.hears, X.method, X.code, (X.here.setHeapUsed s₂.heap s₂.slotsUsed).setVm hW'.alike, X.tail, State.WarmedH.trans X.warmed hW', X.limits, X.bytes, X.same.trans (hsame.setVm s.vm)⟩,
      ⟨g, mk, s₂, L, E, ce, rfl, rfl, hx, hce, hcv, hcl, rfl, hL, rfl, rfl⟩, ?_⟩
    show Steps p.tables e below _ (((({ U with heap := s₂.heap, slotsUsed := s₂.slotsUsed } : State).setVm s₂.vm).setTop g).pushFrame (.throwing q))
    rw [← hs₂]
    exact hsteps
end Payer
section Calls
variable {p : Program} {l : Launch} {e : Env} {R : Room} {s : State} {m : MethodId} {args : Array Value} {below : List Frame} {meth : Method} {c : Code} {T : State} {locs : List Loc} {cells slots : Nat}
theorem vx_callV (X : Stand p l e R s m args below meth c T locs cells slots) (hexec : p.tables.exec = Jvm.exec) {own C : String} {index : Nat} {y : MethodName} {bytes : ByteArray} {maxL : Nat} {ret : Option FieldType}
    (hown : s.vm.findClass own = some m.cls) (hlink : (Cond.methodLink own index y).before args s = true) (hinst : (Cond.instanceMethod y).before args s = true) (hsel : (Cond.selects C y y).before args s = true)
    (hcode : (Cond.code y bytes maxL ret).before args s = true) (hy : y.cls ≠ "java/lang/invoke/MethodHandle" ∧ y.cls ≠ "java/lang/invoke/VarHandle")
    {W9 : Nat} {Pre : Pt → Array Value → Prop} {Post : Pt → Array Value → Option Value → Pt → Prop} {PostX : Pt → Array Value → Addr → Pt → Prop} (hK : vx_Back l R p e below s args y 3 W9 Pre Post PostX)
    {b : Addr} {cellB : Cell} (hcell : T.heap[b]? = some cellB) (hobj : cellB.vm.isStatics = false) (hcls : s.vm.findClass C = some cellB.cls)
    {g : JFrame} (hg : g.method = m) (hsize : g.locals.size = c.maxLocals) {argsL rest : List Value} (hlen : ∀ sig, parseMethodDescriptor y.desc = some sig → argsL.length = sig.parameters.length)
    (hstack : g.stack = argsL.reverse ++ .ref b :: rest) (hW : 2 * g.monitorRoom + (rest.map fun v => v.category).sum ≤ W9) (hdg : decode c.code g.pc = .ok (.invokevirtual index, 3))
    (hpre : ∀ vm₁, s.WarmedH vm₁ → Pre ⟨T.setVm vm₁, locs, cells, slots⟩ (Value.ref b :: argsL).toArray) :
    (∃ (v : Option Value) (vm₁ : Vm) (B : Pt), s.WarmedH vm₁ ∧ Stand p l e R s m args below meth c B.U B.locs B.cells B.slots ∧ Post ⟨T.setVm vm₁, locs, cells, slots⟩ (Value.ref b :: argsL).toArray v B ∧
      ∀ target, Steps p.tables e below (B.U.setTop { g with pc := g.pc + 3, stack := v.toList ++ rest }) target → Steps p.tables e below (T.setTop g) target) ∨
    (∃ (q : Addr) (vm₁ : Vm) (B : Pt), s.WarmedH vm₁ ∧ Stand p l e R s m args below meth c B.U B.locs B.cells B.slots ∧ PostX ⟨T.setVm vm₁, locs, cells, slots⟩ (Value.ref b :: argsL).toArray q B ∧
      Steps p.tables e below (T.setTop g) ((B.U.setTop { g with stack := rest }).pushFrame (.throwing q))) := by
  obtain ⟨mk, methM, hnamed, hmethM, hstM, habM⟩ := Cond.instanceMethod_spec hinst
  obtain ⟨methM', cM, hmethM', -, -, -, -, -, -, hsigM⟩ := Cond.code_spec hnamed hcode
  cases hmethM.symm.trans hmethM'
  obtain ⟨c2, r2, m2, q1, q2, q3, q4, kP, hkP, hkPi⟩ := Cond.selects_spec hsel
  cases hcls.symm.trans q1
  cases (State.methodFound?_of_named hnamed hy).symm.trans q2
  cases hnamed.symm.trans q3
  have hselP : selectMethod e.platform s.vm cellB.cls mk = .method mk := by rw [Launch.admits_selectMethod X.admits]; exact q4
  obtain ⟨vm₁, X₁, hstep₁⟩ := X.invokevirtual hexec hown hlink hnamed hmethM hstM hkP hkPi hy (a := b) (cell := cellB) hcell
    (fun z h => by rw [h] at hobj; cases hobj) hselP hmethM habM hkP hkPi (g := g) hg (argsL := argsL) (rest := rest) (hlen _ hsigM) hstack hdg
  rcases hK m meth c ⟨T.setVm vm₁, locs, cells, slots⟩ { g with stack := rest } (.invokevirtual index) mk (Value.ref b :: argsL).toArray X₁ hg hsize hdg hW (X₁.named hnamed) (hpre vm₁ X₁.warmed) with ⟨v, B, X', hpost, hsteps⟩ | ⟨q, B, X', hpost, hsteps⟩
  · exact Or.inl ⟨v, vm₁, B, X₁.warmed, X', hpost, fun target h => hstep₁ _ fun acts => by rw [doInvoke_state]; exact hsteps.trans h⟩
  · exact Or.inr ⟨q, vm₁, B, X₁.warmed, X', hpost, hstep₁ _ fun acts => by rw [doInvoke_state]; exact hsteps⟩
theorem vx_callS (X : Stand p l e R s m args below meth c T locs cells slots) (hexec : p.tables.exec = Jvm.exec) {own : String} {index : Nat} {y : MethodName} {bytes : ByteArray} {maxL : Nat} {ret : Option FieldType}
    (hown : s.vm.findClass own = some m.cls) (hlink : (Cond.methodLink own index y).before args s = true) (hstat : (Cond.static y).before args s = true) (hinit : (Cond.initialized y.cls).before args s = true)
    (hcode : (Cond.code y bytes maxL ret).before args s = true) (hy : y.cls ≠ "java/lang/invoke/MethodHandle" ∧ y.cls ≠ "java/lang/invoke/VarHandle")
    {W9 : Nat} {Pre : Pt → Array Value → Prop} {Post : Pt → Array Value → Option Value → Pt → Prop} {PostX : Pt → Array Value → Addr → Pt → Prop} (hK : vx_Back l R p e below s args y 3 W9 Pre Post PostX)
    {g : JFrame} (hg : g.method = m) (hsize : g.locals.size = c.maxLocals) {argsL rest : List Value} (hlen : ∀ sig, parseMethodDescriptor y.desc = some sig → argsL.length = sig.parameters.length)
    (hstack : g.stack = argsL.reverse ++ rest) (hW : 2 * g.monitorRoom + (rest.map fun v => v.category).sum ≤ W9) (hdg : decode c.code g.pc = .ok (.invokestatic index, 3))
    (hpre : ∀ vm₁, s.WarmedH vm₁ → Pre ⟨T.setVm vm₁, locs, cells, slots⟩ argsL.toArray) :
    (∃ (v : Option Value) (vm₁ : Vm) (B : Pt), s.WarmedH vm₁ ∧ Stand p l e R s m args below meth c B.U B.locs B.cells B.slots ∧ Post ⟨T.setVm vm₁, locs, cells, slots⟩ argsL.toArray v B ∧
      ∀ target, Steps p.tables e below (B.U.setTop { g with pc := g.pc + 3, stack := v.toList ++ rest }) target → Steps p.tables e below (T.setTop g) target) ∨
    (∃ (q : Addr) (vm₁ : Vm) (B : Pt), s.WarmedH vm₁ ∧ Stand p l e R s m args below meth c B.U B.locs B.cells B.slots ∧ PostX ⟨T.setVm vm₁, locs, cells, slots⟩ argsL.toArray q B ∧
      Steps p.tables e below (T.setTop g) ((B.U.setTop { g with stack := rest }).pushFrame (.throwing q))) := by
  obtain ⟨mk, hnamed⟩ := Cond.code_named hcode
  obtain ⟨methM, cM, hmethM, -, -, -, -, -, -, hsigM⟩ := Cond.code_spec hnamed hcode
  have hstatic : methM.isStatic = true := Cond.static_spec hnamed hmethM hstat
  obtain ⟨kP, hkP, -⟩ := className_of_methodNamed hnamed
  have hinitP : kP.init = .initialized := Cond.initialized_spec (findClass_of_methodNamed hnamed) hkP hinit
  obtain ⟨vm₁, X₁, hstep₁⟩ := X.invokestatic hexec hown hlink hnamed hmethM hstatic hkP hinitP hy (g := g) hg (argsL := argsL) (rest := rest) (hlen _ hsigM) hstack hdg
  rcases hK m meth c ⟨T.setVm vm₁, locs, cells, slots⟩ { g with stack := rest } (.invokestatic index) mk argsL.toArray X₁ hg hsize hdg hW (X₁.named hnamed) (hpre vm₁ X₁.warmed) with ⟨v, B, X', hpost, hsteps⟩ | ⟨q, B, X', hpost, hsteps⟩
  · exact Or.inl ⟨v, vm₁, B, X₁.warmed, X', hpost, fun target h => hstep₁ _ fun acts => by rw [doInvoke_state]; exact hsteps.trans h⟩
  · exact Or.inr ⟨q, vm₁, B, X₁.warmed, X', hpost, hstep₁ _ fun acts => by rw [doInvoke_state]; exact hsteps⟩
end Calls
theorem vx_cls {s : State} {T : State} {vm₁ : Vm} {E : String} {k : ClassId} (hW : s.WarmedH vm₁) (h : (T.setVm vm₁).vm.findClass E = some k) : s.vm.findClass E = some k := by
  have h1 : vm₁.findClass E = some k := h
  rw [hW.alike.findClass] at h1
  exact h1
/-- the method's frame g, with q thrown over it -/
def vx_W (p : Program) (l : Launch) (e : Env) (R : Room) (s : State) (m : MethodId) (args : Array Value) (below : List Frame) (meth : Method) (c : Code) (H : Heap) (locs : List Loc) (cells slots : Nat) (Q : State → Prop) (g : JFrame) (q : Addr) : Prop :=
  ∀ T : State, T.heap = H → Stand p l e R s m args below meth c T locs cells slots → ∃ t, Steps p.tables e below ((T.setTop g).pushFrame (.throwing q)) t ∧ Q t
def vx_Run (p : Program) (l : Launch) (e : Env) (R : Room) (s : State) (m : MethodId) (args : Array Value) (below : List Frame) (meth : Method) (c : Code) (H : Heap) (locs : List Loc) (cells slots mc ms : Nat) (g : JFrame) (rest : List Value) (Qa : State → Outcome → State → Prop) (XC : String → State → State → Prop) (free : Addr → Prop) : Prop :=
  ∀ T : State, T.heap = H → Stand p l e R s m args below meth c T locs cells slots →
    (∃ (v : Option Value) (st₀ t T' : State) (L : List Loc), st₀.heap = H ∧ Stand p l e R s m args below meth c T' (locs ++ L) (cells + mc) (slots + ms) ∧ (∀ q ∈ L, free q.base) ∧ T'.heap = t.heap ∧ T'.vm = t.vm ∧ Qa st₀ (.returned v) t ∧
      Goes p e below T g T' { g with pc := g.pc + 3, stack := v.toList ++ rest }) ∨
    (∃ (q : Addr) (st₀ t T' : State) (L : List Loc) (E : String) (ce : Cell), st₀.heap = H ∧ Stand p l e R s m args below meth c T' (locs ++ L) (cells + mc) (slots + ms) ∧ (∀ z ∈ L, free z.base) ∧ T'.heap = t.heap ∧ T'.vm = t.vm ∧ XC E st₀ t ∧ t.heap[q]? = some ce ∧ ce.vm = .none ∧ s.vm.findClass E = some ce.cls ∧
      Steps p.tables e below (T.setTop g) ((T'.setTop { g with stack := rest }).pushFrame (.throwing q)))
def vx_X {S : Type} (px : S → Prop) (B : String → S → State → Prop) (A : Nat → Prop) : String → State → State → Prop := fun E st t => ∃ u : S, px u ∧ B E u t ∧ va_F A st t
section Runs
variable {p : Program} {l : Launch} {e : Env} {R : Room} {s : State} {m : MethodId} {args : Array Value} {below : List Frame} {meth : Method} {c : Code} {H : Heap} {locs : List Loc} {cells slots : Nat}
variable {y : MethodName} {bytes cc : ByteArray} {maxL nL mc ms n index : Nat} {ret : Option FieldType} {ws : List Cond} {rm : Room} {Pc : Array Value → State → Prop} {Qc : Array Value → State → Outcome → State → Prop} {XC : String → State → State → Prop} {free : Addr → Prop} {Ts : List Cond} {own C : String} {b : Addr} {As rest : List Value} {g : JFrame}
theorem vx_callBack (cb : CallB R s args own index y bytes maxL ret ws rm mc ms n) (hM : vx_Met l y ws rm Pc Qc XC mc ms free) (hbl : FrameBlind Pc) : vx_Back l R p e below s args y 3 8 (PreOf R mc ms Pc) (PostOf Qc mc ms free) (vx_Post XC mc ms free) := by
  obtain ⟨hrc, hrs, hfr, hlo, hws, hcw, -, hini, -⟩ := cb
  exact vx_back (bytes := bytes) (maxL := maxL) (ret := ret) hM hbl hrc hrs hfr hlo hws hcw (fun a' U hW => word_at hW (Or.inl (by first | rfl | simp [Cond.onTables, Cond.keeps, Cond.steady])) hini)
theorem vx_runV (S : CallFix p m c cc nL s args Ts own) (hM : vx_Met l y ws rm Pc Qc XC mc ms free) (cw : CallW R s args own C index y bytes maxL ret ws rm mc ms n) (hp : PreV s H C b Pc As)
    (hg : g.method = m) (hn : As.length = n) (hsize : g.locals.size = nL) (hstack : g.stack = As.reverse ++ .ref b :: rest) (hW : 2 * g.monitorRoom + (rest.map fun v => v.category).sum ≤ 8) (hdg : decode cc g.pc = .ok (.invokevirtual index, 3)) (hf : cells + mc ≤ R.cells ∧ slots + ms ≤ R.slots) :
    vx_Run p l e R s m args below meth c H locs cells slots mc ms g rest (Qc (Value.ref b :: As).toArray) XC free := by
  have hK : vx_Back l R p e below s args y 3 8 (PreOf R mc ms Pc) (PostOf Qc mc ms free) (vx_Post XC mc ms free) := vx_callBack cw.1 hM hp.1
  obtain ⟨⟨-, -, -, -, -, -, hcode, -, hy, hlen, hl⟩, hin, hse⟩ := cw
  obtain ⟨hx, hb, hml, ho, -⟩ := S
  obtain ⟨-, ⟨cellB, hcB, hoB, hclB⟩, hPc⟩ := hp
  intro T hT X
  rcases vx_callV X hx (C := C) (bytes := bytes) (maxL := maxL) (ret := ret) ho hl hin hse hcode hy hK (by rw [hT]; exact hcB) hoB hclB hg (hsize.trans hml.symm) (argsL := As) (rest := rest) (fun sig h => hn.trans (hlen sig h)) hstack hW (by rw [hb]; exact hdg)
    (fun vm₁ hW₁ => ⟨hf.1, hf.2, hPc (T.setVm vm₁) hT hW₁⟩) with ⟨v, vm₁, ⟨U', l2, c2, s2⟩, hW₁, X', ⟨g', mk, t, L, e1, e2, hq, h1, hL, h2, h3⟩, st⟩ | ⟨q, vm₁, ⟨U', l2, c2, s2⟩, hW₁, X', ⟨g', mk, t, L, E, ce, e1, e2, hq, hce, hcv, hcl, h1, hL, h2, h3⟩, st⟩
  · dsimp only [Pt.U, Pt.locs, Pt.cells, Pt.slots] at X' e1 e2 h1 h2 h3 st
    subst h1; subst h2; subst h3
    exact Or.inl ⟨v, (T.setVm vm₁).calling g' mk (Value.ref b :: As).toArray, t, U', L, hT, X', hL, e1, e2, hq, st⟩
  · dsimp only [Pt.U, Pt.locs, Pt.cells, Pt.slots] at X' e1 e2 h1 h2 h3 st hcl
    subst h1; subst h2; subst h3
    exact Or.inr ⟨q, (T.setVm vm₁).calling g' mk (Value.ref b :: As).toArray, t, U', L, E, ce, hT, X', hL, e1, e2, hq, hce, hcv, vx_cls hW₁ hcl, st⟩
theorem vx_runS (S : CallFix p m c cc nL s args Ts own) (hM : vx_Met l y ws rm Pc Qc XC mc ms free) (cw : CallB R s args own index y bytes maxL ret ws rm mc ms n ∧ (Cond.static y).before args s = true) (hp : PreS s H Pc As)
    (hg : g.method = m) (hn : As.length = n) (hsize : g.locals.size = nL) (hstack : g.stack = As.reverse ++ rest) (hW : 2 * g.monitorRoom + (rest.map fun v => v.category).sum ≤ 8) (hdg : decode cc g.pc = .ok (.invokestatic index, 3)) (hf : cells + mc ≤ R.cells ∧ slots + ms ≤ R.slots) :
    vx_Run p l e R s m args below meth c H locs cells slots mc ms g rest (Qc As.toArray) XC free := by
  have hK : vx_Back l R p e below s args y 3 8 (PreOf R mc ms Pc) (PostOf Qc mc ms free) (vx_Post XC mc ms free) := vx_callBack cw.1 hM hp.1
  obtain ⟨⟨-, -, -, -, -, -, hcode, hini, hy, hlen, hl⟩, hstt⟩ := cw
  obtain ⟨hx, hb, hml, ho, -⟩ := S
  intro T hT X
  rcases vx_callS X hx (bytes := bytes) (maxL := maxL) (ret := ret) ho hl hstt hini hcode hy hK hg (hsize.trans hml.symm) (argsL := As) (rest := rest) (fun sig h => hn.trans (hlen sig h)) hstack hW (by rw [hb]; exact hdg)
    (fun vm₁ hW₁ => ⟨hf.1, hf.2, hp.2 (T.setVm vm₁) hT hW₁⟩) with ⟨v, vm₁, ⟨U', l2, c2, s2⟩, hW₁, X', ⟨g', mk, t, L, e1, e2, hq, h1, hL, h2, h3⟩, st⟩ | ⟨q, vm₁, ⟨U', l2, c2, s2⟩, hW₁, X', ⟨g', mk, t, L, E, ce, e1, e2, hq, hce, hcv, hcl, h1, hL, h2, h3⟩, st⟩
  · dsimp only [Pt.U, Pt.locs, Pt.cells, Pt.slots] at X' e1 e2 h1 h2 h3 st
    subst h1; subst h2; subst h3
    exact Or.inl ⟨v, (T.setVm vm₁).calling g' mk As.toArray, t, U', L, hT, X', hL, e1, e2, hq, st⟩
  · dsimp only [Pt.U, Pt.locs, Pt.cells, Pt.slots] at X' e1 e2 h1 h2 h3 st hcl
    subst h1; subst h2; subst h3
    exact Or.inr ⟨q, (T.setVm vm₁).calling g' mk As.toArray, t, U', L, E, ce, hT, X', hL, e1, e2, hq, hce, hcv, vx_cls hW₁ hcl, st⟩
end Runs
section Rows
variable {p : Program} {l : Launch} {e : Env} {R : Room} {s : State} {m : MethodId} {args : Array Value} {below : List Frame} {meth : Method} {c : Code} {H : Heap} {locs : List Loc} {cells slots : Nat} {Q : State → Prop}
variable {mc ms : Nat} {free : Addr → Prop} {A0 A1 : Nat → Prop} {H0 : Heap} {a : Array Value} {pc : Nat} {ls : Array Slot} {st0 rest : List Value}
theorem vx_keep {st₀ t T' : State} {L : List Loc} (h0 : st₀.heap = H) (e1 : T'.heap = t.heap) (hS : va_S A0 H0 H locs) (hA : ∀ q, q < H.size → A1 q → A0 q) (hf : ∀ q, free q → A0 q) (hL : ∀ q ∈ L, free q.base) (hF : va_F A1 st₀ t) :
    H.size ≤ T'.heap.size ∧ (∀ q : Nat, q < H.size → ¬ A1 q → T'.heap[q]? = H[q]?) ∧ va_S A0 H0 T'.heap (locs ++ L) := by
  obtain ⟨hz, hk⟩ := hF
  rw [h0] at hz hk
  exact ⟨by rw [e1]; exact hz, fun q h1 h2 => by rw [e1]; exact hk q h1 h2,
    ⟨Nat.le_trans hS.1 (by rw [e1]; exact hz), fun q h1 h2 => by rw [e1, hk q (Nat.lt_of_lt_of_le h1 hS.1) (fun z => h2 (hA q (Nat.lt_of_lt_of_le h1 hS.1) z))]; exact hS.2.1 q h1 h2, fun q hq => by
      rcases List.mem_append.mp hq with h | h
      · exact hS.2.2 q h
      · exact hf _ (hL q h)⟩⟩
theorem vx_calli {S SX : Type} {post : Int32 → S → Prop} {px : SX → Prop} {B : S → State → Prop} {BX : String → SX → State → Prop} {AX : Nat → Prop} (hr : vx_Run p l e R s m args below meth c H locs cells slots mc ms (F0 m pc ls st0) rest (va_Qi post B A1 a) (vx_X px BX AX) free) (hS : va_S A0 H0 H locs) (hA : ∀ q, q < H.size → A1 q → A0 q) (hf : ∀ q, free q → A0 q) (hAX : ∀ q, q < H.size → AX q → A0 q)
    (kx : ∀ (E : String) (ce : Cell) (q9 : Addr) (u : SX) (t : State) (H1 : Heap) (locs1 : List Loc), t.heap = H1 → s.vm.Alike t.vm → px u → BX E u t → H.size ≤ H1.size → (∀ q : Nat, q < H.size → ¬ AX q → H1[q]? = H[q]?) → va_S A0 H0 H1 locs1 → H1[q9]? = some ce → ce.vm = .none → s.vm.findClass E = some ce.cls → vx_W p l e R s m args below meth c H1 locs1 (cells + mc) (slots + ms) Q (F0 m pc ls rest) q9)
    (kk : ∀ (r : Int32) (u : S) (t : State) (H1 : Heap) (locs1 : List Loc), t.heap = H1 → s.vm.Alike t.vm → post r u → B u t → H.size ≤ H1.size → (∀ q : Nat, q < H.size → ¬ A1 q → H1[q]? = H[q]?) → va_S A0 H0 H1 locs1 → W p l e R s m args below meth c H1 locs1 (cells + mc) (slots + ms) Q (F0 m (pc + 3) ls (.int r :: rest))) : W p l e R s m args below meth c H locs cells slots Q (F0 m pc ls st0) := by
  intro T hT X
  rcases hr T hT X with ⟨v, st₀, t, T', L, h0, X', hL, e1, e2, ⟨⟨r, u, hv, hp, hb⟩, hF⟩, st⟩ | ⟨q, st₀, t, T', L, E, ce, h0, X', hL, e1, e2, ⟨u, hp, hb, hF⟩, hce, hcv, hcl, st⟩
  · cases hv
    obtain ⟨k1, k2, k3⟩ := vx_keep h0 e1 hS hA hf hL hF
    obtain ⟨t2, a1, b1⟩ := kk r u t T'.heap (locs ++ L) e1.symm (by rw [← e2]; exact X'.warmed.alike) hp hb k1 k2 k3 T' rfl X'
    exact ⟨t2, st t2 a1, b1⟩
  · obtain ⟨k1, k2, k3⟩ := vx_keep h0 e1 hS hAX hf hL hF
    obtain ⟨t2, a1, b1⟩ := kx E ce q u t T'.heap (locs ++ L) e1.symm (by rw [← e2]; exact X'.warmed.alike) hp hb k1 k2 k3 (by rw [e1]; exact hce) hcv hcl T' rfl X'
    exact ⟨t2, st.trans a1, b1⟩
theorem vx_calll {S SX : Type} {post : Int64 → S → Prop} {px : SX → Prop} {B : S → State → Prop} {BX : String → SX → State → Prop} {AX : Nat → Prop} (hr : vx_Run p l e R s m args below meth c H locs cells slots mc ms (F0 m pc ls st0) rest (va_Ql post B A1 a) (vx_X px BX AX) free) (hS : va_S A0 H0 H locs) (hA : ∀ q, q < H.size → A1 q → A0 q) (hf : ∀ q, free q → A0 q) (hAX : ∀ q, q < H.size → AX q → A0 q)
    (kx : ∀ (E : String) (ce : Cell) (q9 : Addr) (u : SX) (t : State) (H1 : Heap) (locs1 : List Loc), t.heap = H1 → s.vm.Alike t.vm → px u → BX E u t → H.size ≤ H1.size → (∀ q : Nat, q < H.size → ¬ AX q → H1[q]? = H[q]?) → va_S A0 H0 H1 locs1 → H1[q9]? = some ce → ce.vm = .none → s.vm.findClass E = some ce.cls → vx_W p l e R s m args below meth c H1 locs1 (cells + mc) (slots + ms) Q (F0 m pc ls rest) q9)
    (kk : ∀ (r : Int64) (u : S) (t : State) (H1 : Heap) (locs1 : List Loc), t.heap = H1 → s.vm.Alike t.vm → post r u → B u t → H.size ≤ H1.size → (∀ q : Nat, q < H.size → ¬ A1 q → H1[q]? = H[q]?) → va_S A0 H0 H1 locs1 → W p l e R s m args below meth c H1 locs1 (cells + mc) (slots + ms) Q (F0 m (pc + 3) ls (.long r :: rest))) : W p l e R s m args below meth c H locs cells slots Q (F0 m pc ls st0) := by
  intro T hT X
  rcases hr T hT X with ⟨v, st₀, t, T', L, h0, X', hL, e1, e2, ⟨⟨r, u, hv, hp, hb⟩, hF⟩, st⟩ | ⟨q, st₀, t, T', L, E, ce, h0, X', hL, e1, e2, ⟨u, hp, hb, hF⟩, hce, hcv, hcl, st⟩
  · cases hv
    obtain ⟨k1, k2, k3⟩ := vx_keep h0 e1 hS hA hf hL hF
    obtain ⟨t2, a1, b1⟩ := kk r u t T'.heap (locs ++ L) e1.symm (by rw [← e2]; exact X'.warmed.alike) hp hb k1 k2 k3 T' rfl X'
    exact ⟨t2, st t2 a1, b1⟩
  · obtain ⟨k1, k2, k3⟩ := vx_keep h0 e1 hS hAX hf hL hF
    obtain ⟨t2, a1, b1⟩ := kx E ce q u t T'.heap (locs ++ L) e1.symm (by rw [← e2]; exact X'.warmed.alike) hp hb k1 k2 k3 (by rw [e1]; exact hce) hcv hcl T' rfl X'
    exact ⟨t2, st.trans a1, b1⟩
theorem vx_callf {S SX : Type} {post : UInt32 → S → Prop} {px : SX → Prop} {B : S → State → Prop} {BX : String → SX → State → Prop} {AX : Nat → Prop} (hr : vx_Run p l e R s m args below meth c H locs cells slots mc ms (F0 m pc ls st0) rest (va_Qf post B A1 a) (vx_X px BX AX) free) (hS : va_S A0 H0 H locs) (hA : ∀ q, q < H.size → A1 q → A0 q) (hf : ∀ q, free q → A0 q) (hAX : ∀ q, q < H.size → AX q → A0 q)
    (kx : ∀ (E : String) (ce : Cell) (q9 : Addr) (u : SX) (t : State) (H1 : Heap) (locs1 : List Loc), t.heap = H1 → s.vm.Alike t.vm → px u → BX E u t → H.size ≤ H1.size → (∀ q : Nat, q < H.size → ¬ AX q → H1[q]? = H[q]?) → va_S A0 H0 H1 locs1 → H1[q9]? = some ce → ce.vm = .none → s.vm.findClass E = some ce.cls → vx_W p l e R s m args below meth c H1 locs1 (cells + mc) (slots + ms) Q (F0 m pc ls rest) q9)
    (kk : ∀ (r : UInt32) (u : S) (t : State) (H1 : Heap) (locs1 : List Loc), t.heap = H1 → s.vm.Alike t.vm → post r u → B u t → H.size ≤ H1.size → (∀ q : Nat, q < H.size → ¬ A1 q → H1[q]? = H[q]?) → va_S A0 H0 H1 locs1 → W p l e R s m args below meth c H1 locs1 (cells + mc) (slots + ms) Q (F0 m (pc + 3) ls (.float r :: rest))) : W p l e R s m args below meth c H locs cells slots Q (F0 m pc ls st0) := by
  intro T hT X
  rcases hr T hT X with ⟨v, st₀, t, T', L, h0, X', hL, e1, e2, ⟨⟨r, u, hv, hp, hb⟩, hF⟩, st⟩ | ⟨q, st₀, t, T', L, E, ce, h0, X', hL, e1, e2, ⟨u, hp, hb, hF⟩, hce, hcv, hcl, st⟩
  · cases hv
    obtain ⟨k1, k2, k3⟩ := vx_keep h0 e1 hS hA hf hL hF
    obtain ⟨t2, a1, b1⟩ := kk r u t T'.heap (locs ++ L) e1.symm (by rw [← e2]; exact X'.warmed.alike) hp hb k1 k2 k3 T' rfl X'
    exact ⟨t2, st t2 a1, b1⟩
  · obtain ⟨k1, k2, k3⟩ := vx_keep h0 e1 hS hAX hf hL hF
    obtain ⟨t2, a1, b1⟩ := kx E ce q u t T'.heap (locs ++ L) e1.symm (by rw [← e2]; exact X'.warmed.alike) hp hb k1 k2 k3 (by rw [e1]; exact hce) hcv hcl T' rfl X'
    exact ⟨t2, st.trans a1, b1⟩
theorem vx_calld {S SX : Type} {post : UInt64 → S → Prop} {px : SX → Prop} {B : S → State → Prop} {BX : String → SX → State → Prop} {AX : Nat → Prop} (hr : vx_Run p l e R s m args below meth c H locs cells slots mc ms (F0 m pc ls st0) rest (va_Qd post B A1 a) (vx_X px BX AX) free) (hS : va_S A0 H0 H locs) (hA : ∀ q, q < H.size → A1 q → A0 q) (hf : ∀ q, free q → A0 q) (hAX : ∀ q, q < H.size → AX q → A0 q)
    (kx : ∀ (E : String) (ce : Cell) (q9 : Addr) (u : SX) (t : State) (H1 : Heap) (locs1 : List Loc), t.heap = H1 → s.vm.Alike t.vm → px u → BX E u t → H.size ≤ H1.size → (∀ q : Nat, q < H.size → ¬ AX q → H1[q]? = H[q]?) → va_S A0 H0 H1 locs1 → H1[q9]? = some ce → ce.vm = .none → s.vm.findClass E = some ce.cls → vx_W p l e R s m args below meth c H1 locs1 (cells + mc) (slots + ms) Q (F0 m pc ls rest) q9)
    (kk : ∀ (r : UInt64) (u : S) (t : State) (H1 : Heap) (locs1 : List Loc), t.heap = H1 → s.vm.Alike t.vm → post r u → B u t → H.size ≤ H1.size → (∀ q : Nat, q < H.size → ¬ A1 q → H1[q]? = H[q]?) → va_S A0 H0 H1 locs1 → W p l e R s m args below meth c H1 locs1 (cells + mc) (slots + ms) Q (F0 m (pc + 3) ls (.double r :: rest))) : W p l e R s m args below meth c H locs cells slots Q (F0 m pc ls st0) := by
  intro T hT X
  rcases hr T hT X with ⟨v, st₀, t, T', L, h0, X', hL, e1, e2, ⟨⟨r, u, hv, hp, hb⟩, hF⟩, st⟩ | ⟨q, st₀, t, T', L, E, ce, h0, X', hL, e1, e2, ⟨u, hp, hb, hF⟩, hce, hcv, hcl, st⟩
  · cases hv
    obtain ⟨k1, k2, k3⟩ := vx_keep h0 e1 hS hA hf hL hF
    obtain ⟨t2, a1, b1⟩ := kk r u t T'.heap (locs ++ L) e1.symm (by rw [← e2]; exact X'.warmed.alike) hp hb k1 k2 k3 T' rfl X'
    exact ⟨t2, st t2 a1, b1⟩
  · obtain ⟨k1, k2, k3⟩ := vx_keep h0 e1 hS hAX hf hL hF
    obtain ⟨t2, a1, b1⟩ := kx E ce q u t T'.heap (locs ++ L) e1.symm (by rw [← e2]; exact X'.warmed.alike) hp hb k1 k2 k3 (by rw [e1]; exact hce) hcv hcl T' rfl X'
    exact ⟨t2, st.trans a1, b1⟩
theorem vx_callv {S SX : Type} {post : S → Prop} {px : SX → Prop} {B : S → State → Prop} {BX : String → SX → State → Prop} {AX : Nat → Prop} (hr : vx_Run p l e R s m args below meth c H locs cells slots mc ms (F0 m pc ls st0) rest (va_Qv post B A1 a) (vx_X px BX AX) free) (hS : va_S A0 H0 H locs) (hA : ∀ q, q < H.size → A1 q → A0 q) (hf : ∀ q, free q → A0 q) (hAX : ∀ q, q < H.size → AX q → A0 q)
    (kx : ∀ (E : String) (ce : Cell) (q9 : Addr) (u : SX) (t : State) (H1 : Heap) (locs1 : List Loc), t.heap = H1 → s.vm.Alike t.vm → px u → BX E u t → H.size ≤ H1.size → (∀ q : Nat, q < H.size → ¬ AX q → H1[q]? = H[q]?) → va_S A0 H0 H1 locs1 → H1[q9]? = some ce → ce.vm = .none → s.vm.findClass E = some ce.cls → vx_W p l e R s m args below meth c H1 locs1 (cells + mc) (slots + ms) Q (F0 m pc ls rest) q9)
    (kk : ∀ (u : S) (t : State) (H1 : Heap) (locs1 : List Loc), t.heap = H1 → s.vm.Alike t.vm → post u → B u t → H.size ≤ H1.size → (∀ q : Nat, q < H.size → ¬ A1 q → H1[q]? = H[q]?) → va_S A0 H0 H1 locs1 → W p l e R s m args below meth c H1 locs1 (cells + mc) (slots + ms) Q (F0 m (pc + 3) ls (rest))) : W p l e R s m args below meth c H locs cells slots Q (F0 m pc ls st0) := by
  intro T hT X
  rcases hr T hT X with ⟨v, st₀, t, T', L, h0, X', hL, e1, e2, ⟨⟨u, hv, hp, hb⟩, hF⟩, st⟩ | ⟨q, st₀, t, T', L, E, ce, h0, X', hL, e1, e2, ⟨u, hp, hb, hF⟩, hce, hcv, hcl, st⟩
  · cases hv
    obtain ⟨k1, k2, k3⟩ := vx_keep h0 e1 hS hA hf hL hF
    obtain ⟨t2, a1, b1⟩ := kk u t T'.heap (locs ++ L) e1.symm (by rw [← e2]; exact X'.warmed.alike) hp hb k1 k2 k3 T' rfl X'
    exact ⟨t2, st t2 a1, b1⟩
  · obtain ⟨k1, k2, k3⟩ := vx_keep h0 e1 hS hAX hf hL hF
    obtain ⟨t2, a1, b1⟩ := kx E ce q u t T'.heap (locs ++ L) e1.symm (by rw [← e2]; exact X'.warmed.alike) hp hb k1 k2 k3 (by rw [e1]; exact hce) hcv hcl T' rfl X'
    exact ⟨t2, st.trans a1, b1⟩
/-- caught by the row x of this method's table; the rows ahead don't take it -/
theorem vx_catch {own name : String} {E : String} {ce : Cell} {q : Addr} (hown : s.vm.findClass own = some m.cls) (pre : List ExceptionTableEntry) (x : ExceptionTableEntry) (suf : List ExceptionTableEntry) (hsplit : c.exceptionTable.toList = pre ++ x :: suf)
    (hpass : ∀ z ∈ pre, covers z pc = false ∨ (z.catchType ≠ 0 ∧ ∃ nm : String, (Cond.classLink own z.catchType nm).before args s = true ∧ va_Nc E nm s)) (hx : covers x pc = true) (h0 : x.catchType ≠ 0)
    (hlink : (Cond.classLink own x.catchType name).before args s = true) (hcast : (Cond.castable E name).before args s = true) (hcell : H[q]? = some ce) (hv : ce.vm = .none) (hcl : s.vm.findClass E = some ce.cls)
    (kk : W p l e R s m args below meth c H locs cells slots Q (F0 m x.handlerPc ls [.ref q])) : vx_W p l e R s m args below meth c H locs cells slots Q (F0 m pc ls rest) q := by
  intro T hT X
  have hpl : e.platform.magicAccessors = ({} : Platform).magicAccessors := by rw [X.admits.platform]
  obtain ⟨c3, c4, hc3, hc4, hasg⟩ := Cond.castable_spec hcast
  cases Option.some.inj (hc3.symm.trans hcl)
  obtain ⟨c5, hc5, hcl5⟩ := Cond.classLink_spec hown hlink e.platform hpl
  cases Option.some.inj (hc4.symm.trans hc5)
  obtain ⟨vm', X', st⟩ := X.thenCaughtThrough q (g := F0 m pc ls rest) rfl (Steps.refl _) (by rw [hT]; exact hcell) (by rw [hv]; rfl) (by obtain ⟨k9, h9, -⟩ := Vm.findClass_spec hcl; exact ⟨k9, h9⟩) pre x suf hsplit
    (fun z hz => by
      rcases hpass z hz with h | ⟨hz0, nm, hl1, hn1⟩
      · exact Or.inl h
      · obtain ⟨c6, hc6, hcl6⟩ := Cond.classLink_spec hown hl1 e.platform hpl
        obtain ⟨a8, b8, h1, h2, h3⟩ := hn1
        cases Option.some.inj (h1.symm.trans hcl)
        cases Option.some.inj (h2.symm.trans hc6)
        exact Or.inr ⟨hz0, _, hcl6, h3⟩) hx (Or.inr ⟨h0, c4, hcl5, hasg⟩)
  obtain ⟨t, a1, b1⟩ := kk (T.setVm vm') hT X'
  exact ⟨t, st.trans a1, b1⟩
end Rows
section Ends
variable {p : Program} {l : Launch} {e : Env} {R : Room} {s : State} {m : MethodId} {args : Array Value} {below : List Frame} {meth : Method} {c : Code} {H : Heap} {locs : List Loc} {cells slots : Nat} {Q : State → Prop}
variable {mc ms : Nat} {free : Addr → Prop} {A0 A1 : Nat → Prop} {H0 : Heap} {a : Array Value} {ls : Array Slot} {st0 rest : List Value}
variable {Qc : Array Value → State → Outcome → State → Prop} {XC : String → State → State → Prop}
/-- what a body that may throw owes at its end -/
def vx_MQ (below : List Frame) (Qc : Array Value → State → Outcome → State → Prop) (XC : String → State → State → Prop) (a : Array Value) (s : State) (mc ms : Nat) (free : Addr → Prop) : State → Prop := fun t =>
  ∃ o, t.status = .running ∧ Ended t below o ∧ vx_Q Qc XC mc ms free a s o t
theorem vx_ret {g : JFrame} {mc ms : Nat} (k : W p l e R s m args below meth c H locs cells slots (MQ below Qc args s mc ms free) g) : W p l e R s m args below meth c H locs cells slots (vx_MQ below Qc XC args s mc ms free) g := by
  intro T hT X
  obtain ⟨t, a1, o, b1, b2, b3, b4⟩ := k T hT X
  exact ⟨t, a1, o, b1, b2, Or.inl ⟨b3, b4⟩⟩
/-- not caught here: it goes on to the caller -/
theorem vx_widen {g : JFrame} {q : Addr} {k n : Nat} (h1 : cells ≤ k) (h2 : slots ≤ n) (kk : vx_W p l e R s m args below meth c H locs k n Q g q) : vx_W p l e R s m args below meth c H locs cells slots Q g q := fun T hT X => kk T hT (stand_widen X h1 h2)
theorem vx_out {pc : Nat} {E : String} {ce : Cell} {q : Addr} {mc ms : Nat} (hout : ∀ x ∈ c.exceptionTable.toList, covers x pc = false) (hlocks : meth.locks = false) (hcell : H[q]? = some ce) (hv : ce.vm = .none) (hcl : s.vm.findClass E = some ce.cls)
    (hx : ∀ t : State, t.heap = H → s.vm.Alike t.vm → XC E s t) (hf : ∀ z ∈ locs, free z.base) (hc : cells ≤ mc) (hs : slots ≤ ms) :
    vx_W p l e R s m args below meth c H locs cells slots (vx_MQ below Qc XC args s mc ms free) (F0 m pc ls rest) q := by
  intro T hT X
  obtain ⟨st1, hrun, hend, hW, hsm⟩ := X.leaveThrown q (g := F0 m pc ls rest) rfl rfl rfl hout hlocks
  have hcell9 : (T.setFrames (.throwing q :: below)).heap[q]? = some ce := by
    show T.heap[q]? = some ce
    rw [hT]; exact hcell
  exact ⟨_, st1, .threw q, hrun, hend, Or.inr ⟨q, rfl, E, ce, locs, hx _ hT hW.alike, hcell9, hv, hcl, hW, hsm.mono hc hs, hf⟩⟩
theorem vx_frame {U : State} {k n : Nat} (h : s.sameButNew ({ U with vm := s.vm } : State) locs k n) : s.heap.size ≤ U.heap.size ∧ ∀ q : Nat, q < s.heap.size → (∀ z ∈ locs, z.base ≠ q) → U.heap[q]? = s.heap[q]? := by
  obtain ⟨-, h2, -, -, -, h6⟩ := h
  refine ⟨h2, fun q hq hz => ?_⟩
  obtain ⟨c9, e1, e2, e3, e4⟩ := h6 q _ (Array.getElem?_eq_getElem hq)
  have hs : c9.slots = (s.heap[q]).slots := Array.ext_getElem? fun i => e4 i fun hm => hz _ hm rfl
  have h9 : c9 = s.heap[q] := by
    rw [hs] at e2
    exact e2
  have e5 : U.heap[q]? = some c9 := e1
  rw [e5, h9, Array.getElem?_eq_getElem hq]
/-- the words of a throw but the four that speak of the heap -/
def vx_no (w : Cond) : Bool := decide (w ≠ .isRef (.static Bundle.tN "UNASSIGNED_STACK" Bundle.steD)) && decide (w ≠ .isRef (.static Bundle.tN "SUPPRESSED_SENTINEL" Bundle.listD)) && decide (w ≠ .laysStatic Bundle.tN "UNASSIGNED_STACK" Bundle.steD) && decide (w ≠ .laysStatic Bundle.tN "SUPPRESSED_SENTINEL" Bundle.listD)
def vx_at0 (own : String) (ic : Nat) (X : String) (names : List String) : List Cond := (Bundle.ownAtoms0 own ic X names).filter vx_no
def vx_atS (own : String) (ic : Nat) (X : String) (names : List String) : List Cond := (Bundle.ownAtoms own ic X names).filter vx_no
/-- a word that the tables alone decide, or a good one -/
def vx_ot (w : Cond) : Bool := w.onTables || goodWord w
theorem vx_ot_at {args a' : Array Value} {s U : State} {w : Cond} (hW : s.WarmedH U.vm) (hvm : s.vm = U.vm) (hg : vx_ot w = true) (h : w.before args s = true) : w.before a' U = true := by
  simp only [vx_ot, Bool.or_eq_true] at hg
  rcases hg with hg | hg
  · exact va_tabs hg hvm h
  · exact word_at hW (good_of_word hg) h
/-- a list's words: the good ones out of the method's own list, the others by premises of their own -/
theorem vx_hat {args : Array Value} {s : State} {L B : List Cond} (h1 : ∀ w ∈ L.filter goodWord, w.before args s = true) (h2 : ∀ w ∈ L.filter (fun w => !goodWord w), w ∈ B) (h3 : ∀ w ∈ B, w.before args s = true) : ∀ w ∈ L, w.before args s = true := by
  intro w hw
  by_cases g : goodWord w = true
  · exact h1 w (List.mem_filter.mpr ⟨hw, g⟩)
  · refine h3 w (h2 w (List.mem_filter.mpr ⟨hw, ?_⟩))
    show (!goodWord w) = true
    cases hgw : goodWord w
    · rfl
    · exact absurd hgw g
theorem vx_c {args : Array Value} {s : State} {w : Cond} {B : List Cond} (h : w.before args s = true) (t : ∀ w ∈ B, w.before args s = true) : ∀ w' ∈ w :: B, w'.before args s = true := fun w' h' => (List.mem_cons.mp h').elim (fun e => by rw [e]; exact h) (t w')
theorem vx_n {args : Array Value} {s : State} : ∀ w ∈ ([] : List Cond), w.before args s = true := fun _ h => nomatch h
theorem vx_own {args : Array Value} {s : State} {L : List Cond} (h1 : ∀ w ∈ L.filter vx_no, w.before args s = true)
    (hU : (Cond.isRef (.static Bundle.tN "UNASSIGNED_STACK" Bundle.steD)).before args s = true) (hN : (Cond.isRef (.static Bundle.tN "SUPPRESSED_SENTINEL" Bundle.listD)).before args s = true)
    (lU : (Cond.laysStatic Bundle.tN "UNASSIGNED_STACK" Bundle.steD).before args s = true) (lN : (Cond.laysStatic Bundle.tN "SUPPRESSED_SENTINEL" Bundle.listD).before args s = true) : ∀ w ∈ L, w.before args s = true := by
  intro w hw
  by_cases e1 : w = .isRef (.static Bundle.tN "UNASSIGNED_STACK" Bundle.steD)
  · rw [e1]; exact hU
  · by_cases e2 : w = .isRef (.static Bundle.tN "SUPPRESSED_SENTINEL" Bundle.listD)
    · rw [e2]; exact hN
    · by_cases e3 : w = .laysStatic Bundle.tN "UNASSIGNED_STACK" Bundle.steD
      · rw [e3]; exact lU
      · by_cases e4 : w = .laysStatic Bundle.tN "SUPPRESSED_SENTINEL" Bundle.listD
        · rw [e4]; exact lN
        · exact h1 w (List.mem_filter.mpr ⟨hw, by unfold vx_no; rw [decide_eq_true e1, decide_eq_true e2, decide_eq_true e3, decide_eq_true e4]; rfl⟩)
/-- where a static field lies, its class's statics cell in H -/
def vx_L (C n d : String) (A : Nat → Prop) (U : State) (H : Heap) : Prop := ∃ (c : ClassId) (k : Class) (i : Nat) (f : Field) (a : Nat) (cell : Cell), U.vm.findClass C = some c ∧ U.fieldFound? C n d = some (c, k, i, f) ∧ f.isStatic = true ∧ k.statics = some a ∧ H[a]? = some cell ∧ cell.vm.isStatics = true ∧ cell.cls = c ∧ f.slot < cell.slots.size ∧ k.staticTypes[f.slot]? = some f.type ∧ ¬ A a
theorem vx_L.moved {C n d : String} {A : Nat → Prop} {u U : State} {H : Heap} (hvm : u.vm.Alike U.vm) (h : vx_L C n d A u H) : vx_L C n d A U H := by
  obtain ⟨c, k, i, f, a, cell, h1, h2, h3, h4, h5, h6, h7, h8, h9, h10⟩ := h
  obtain ⟨k', hi', he⟩ := State.fieldFound?_setVm hvm h2
  exact ⟨c, k', i, f, a, cell, by rw [hvm.findClass]; exact h1, hi', h3, by rw [he]; exact h4, h5, h6, h7, h8, by rw [he]; exact h9, h10⟩
theorem vx_L.kept {C n d : String} {A : Nat → Prop} {U : State} {H H1 : Heap} (h : vx_L C n d A U H) (hq : ∀ a : Nat, a < H.size → ¬ A a → H1[a]? = H[a]?) : vx_L C n d A U H1 := by
  obtain ⟨c, k, i, f, a, cell, h1, h2, h3, h4, h5, h6, h7, h8, h9, h10⟩ := h
  exact ⟨c, k, i, f, a, cell, h1, h2, h3, h4, by rw [hq a (Array.getElem?_eq_some_iff.mp h5).1 h10]; exact h5, h6, h7, h8, h9, h10⟩
theorem vx_L.narrow {C n d : String} {A B : Nat → Prop} {U : State} {H : Heap} (h : vx_L C n d A U H) (hAB : ∀ q, B q → A q) : vx_L C n d B U H := by
  obtain ⟨c, k, i, f, a, cell, h1, h2, h3, h4, h5, h6, h7, h8, h9, h10⟩ := h
  exact ⟨c, k, i, f, a, cell, h1, h2, h3, h4, h5, h6, h7, h8, h9, fun z => h10 (hAB _ z)⟩
theorem vx_L.word {C n d : String} {A : Nat → Prop} {s : State} {args : Array Value} (h : vx_L C n d A s s.heap) : (Cond.laysStatic C n d).before args s = true := by
  obtain ⟨c, k, i, f, a, cell, h1, h2, h3, h4, h5, h6, h7, h8, h9, -⟩ := h
  show (Cond.laysStatic C n d).holds args s none s [] = true
  exact Cond.laysStatic_of h1 h2 h3 h4 h5 h6 h7 h8 h9
/-- .. and what it holds: null or some reference -/
def vx_Zq (C n d : String) (A : Nat → Prop) (U : State) (H : Heap) : Prop := va_Zq C n d A U H ∧ vx_L C n d A U H
theorem vx_Zq.moved {C n d : String} {A : Nat → Prop} {u U : State} {H : Heap} (hvm : u.vm.Alike U.vm) (h : vx_Zq C n d A u H) : vx_Zq C n d A U H := ⟨va_Zq.moved hvm h.1, vx_L.moved hvm h.2⟩
theorem vx_Zq.kept {C n d : String} {A : Nat → Prop} {U : State} {H H1 : Heap} (h : vx_Zq C n d A U H) (hq : ∀ a : Nat, a < H.size → ¬ A a → H1[a]? = H[a]?) : vx_Zq C n d A U H1 := ⟨va_Zq.kept h.1 hq, vx_L.kept h.2 hq⟩
theorem vx_Zq.narrow {C n d : String} {A B : Nat → Prop} {U : State} {H : Heap} (h : vx_Zq C n d A U H) (hAB : ∀ q, B q → A q) : vx_Zq C n d B U H := ⟨va_Zq.narrow h.1 hAB, vx_L.narrow h.2 hAB⟩
theorem vx_Zqof {args : Array Value} {s : State} {C n d : String} {A : Nat → Prop} (hl : (Cond.laysStatic C n d).before args s = true) (hini : (Cond.initialized C).before args s = true) (h : (Cond.isRef (.static C n d)).before args s = true) (hA : ∀ a : Nat, a < s.heap.size → ¬ A a) : vx_Zq C n d A s s.heap := by
  refine ⟨va_Zqof hl hini h hA, ?_⟩
  obtain ⟨c, k, i, f, a, cell, h1, h2, h3, h4, h5, h6, h7, h8, h9⟩ := Cond.laysStatic_spec hl
  exact ⟨c, k, i, f, a, cell, h1, h2, h3, h4, h5, h6, h7, h8, h9, hA a (Array.getElem?_eq_some_iff.mp h5).1⟩
theorem vx_isRef {C n d : String} {v : Value} {A : Nat → Prop} {s : State} {args : Array Value} (h : va_Z C n d v A s s.heap) (hv : v.isRef = true) : (Cond.isRef (.static C n d)).before args s = true := by
  obtain ⟨cf, kf, fi, f, a, cell, h1, h2, h3, h4, h5, h6, h7, -⟩ := h
  have he : (Term.static C n d).eval args s none [] s = some v := by
    simp [Term.eval, State.fieldNamed?, h1, h2, h4, h5, h6, h7]
  simp only [Cond.before, Cond.holds, Cond.value, he]
  cases v <;> simp_all [Value.isRef]
theorem vx_isRefq {C n d : String} {A : Nat → Prop} {s : State} {args : Array Value} (h : va_Zq C n d A s s.heap) : (Cond.isRef (.static C n d)).before args s = true := by
  rcases h with h | ⟨t, h⟩
  · exact vx_isRef h rfl
  · exact vx_isRef h rfl
/-- the same frame, seen from here: as if the method were called anew in this heap -/
theorem vx_rebase {T : State} (X : Stand p l e R s m args below meth c T locs cells slots) {R' : Room} (hf : R'.frames ≤ R.frames) (hl : R'.locals ≤ R.locals) (hc : cells + R'.cells ≤ R.cells) (hs : slots + R'.slots ≤ R.slots) :
    Stand p l e R' ((T.setVm s.vm).setFrames (.invoking m args :: below)) m args below meth c T [] 0 0 := by
  have htop : (T.setVm s.vm).topJava?.isSome := X.here.top
  have hF : ((T.setVm s.vm).setFrames (.invoking m args :: below)).frames = .invoking m args :: below := State.frames_setFrames _ (State.cur_lt_of_top htop)
  obtain ⟨g₀, hg0⟩ := Option.isSome_iff_exists.mp htop
  obtain ⟨r, hr⟩ := State.topJava?_eq_some.mp hg0
  have hl9 : e.platform.stackLimits (T.setVm s.vm).me = e.platform.stackLimits s.me := X.limits
  have hb9 : (T.setVm s.vm).me.stackBytes = s.me.stackBytes := X.bytes
  refine ⟨X.admits, X.cas, X.clock, hF, ?_, X.hears, X.method, X.code, X.here, X.tail, X.warmed, ?_, ?_, ?_⟩
  · have h := X.room
    have hU : ((T.setVm s.vm).setFrames (.invoking m args :: below)).localsInUse = s.localsInUse := by
      rw [State.localsInUse_invoking hF (meth := meth) (c := c) X.method X.code, State.localsInUse_invoking X.frames X.method X.code]
    simp only [State.hasRoom, Bool.and_eq_true, decide_eq_true_eq] at h ⊢
    obtain ⟨⟨⟨⟨h1, h2, h3, h4, h5, h6⟩, h7⟩, h8⟩, h9⟩ := h
    rw [X.frames, List.length_cons] at h2 h3
    have q1 := X.heapSize
    have q2 := X.used
    simp only [hF, hU, List.length_cons, State.stackLimits_setFrames, State.stackBytes_setFrames, hl9, hb9]
    refine ⟨⟨⟨⟨by omega, by omega, by omega, by omega, by omega, h6⟩, ?_⟩, ?_⟩, X.book⟩
    · show T.heap.size + R'.cells ≤ e.platform.maxCells
      omega
    · show T.slotsUsed + R'.slots ≤ e.platform.maxSlots
      omega
  · rw [State.stackLimits_setFrames]; rfl
  · rw [State.stackBytes_setFrames]; rfl
  · refine ⟨?_, Nat.le_refl _, Nat.le_refl _, ?_, ?_, fun a c9 h9 => ⟨c9, h9, rfl, rfl, fun _ _ => rfl⟩⟩
    · obtain ⟨t, ht, -⟩ := State.frames_cons hr
      show T.setVm s.vm = { ((T.setVm s.vm).setFrames (.invoking m args :: below)).setFrames (T.setVm s.vm).frames with heap := T.heap, slotsUsed := T.slotsUsed }
      rw [State.setFrames_setFrames, State.setFrames_self ht]
      rfl
    · show T.slotsUsed = T.slotsUsed + ((T.heap.toList.drop T.heap.size).map (·.slots.size)).sum
      rw [List.drop_eq_nil_of_le (Nat.le_of_eq Array.length_toList)]
      rfl
    · show ((T.heap.toList.drop T.heap.size).map (·.slots.size)).sum ≤ 0
      rw [List.drop_eq_nil_of_le (Nat.le_of_eq Array.length_toList)]
      exact Nat.le_refl _
/-- 'throw new E()': new; dup; invokespecial; athrow -/
theorem vx_throw0 {cc : ByteArray} {pc : Nat} (hexec : p.tables.exec = Jvm.exec) (hb : c.code = cc) (hl : l.stackTraces = false) {own cls : String} {names : List String} {ik ic mc ms : Nat} {A : Nat → Prop}
    (hown : s.vm.findClass own = some m.cls) (hcls : Bundle.fit cls = true) (hnames : ∀ n ∈ names, Bundle.fit n = true)
    (hk : (Cond.classLink own ik cls).before args s = true) (hini : (Cond.initialized cls).before args s = true) (hat : ∀ w ∈ vx_at0 own ic cls names, w.before args s = true)
    (hgood : ∀ w ∈ Cond.classLink own ik cls :: Cond.initialized cls :: vx_at0 own ic cls names, vx_ot w = true)
    (hU : vx_Zq Bundle.tN "UNASSIGNED_STACK" Bundle.steD A s s.heap) (hN : vx_Zq Bundle.tN "SUPPRESSED_SENTINEL" Bundle.listD A s s.heap) (hS : va_S A s.heap H locs) (hsize : ls.size = c.maxLocals)
    (d0 : decode cc pc = .ok (.new ik, 3)) (d3 : decode cc (pc + 3) = .ok (.dup, 1)) (d4 : decode cc (pc + 4) = .ok (.invokespecial ic, 3)) (d7 : decode cc (pc + 7) = .ok (.athrow, 1))
    (hout : ∀ x ∈ c.exceptionTable.toList, covers x (pc + 7) = false)
    (hRframes : names.length + 3 < R.frames) (hRlocals : (rest.map fun v => v.category).sum + (13 * (names.length + 1) + 42) ≤ R.locals) (hRcells : cells + 1 ≤ R.cells) (hRslots : slots + 6 ≤ R.slots) (hlocks : meth.locks = false)
    (hx : ∀ t : State, s.vm.Alike t.vm → H.size ≤ t.heap.size → (∀ q : Nat, q < H.size → t.heap[q]? = H[q]?) → XC cls s t)
    (hf : ∀ z ∈ locs, free z.base) (hc : cells + 1 ≤ mc) (hs : slots + 6 ≤ ms) :
    W p l e R s m args below meth c H locs cells slots (vx_MQ below Qc XC args s mc ms free) (F0 m pc ls rest) := by
  intro T hT X
  have htr : e.platform.stackTraces = false := (show e.platform.stackTraces = l.stackTraces by rw [X.admits.platform]).trans hl
  have Y := vx_rebase X (R' := { frames := R.frames, locals := R.locals, cells := 1, slots := 6 }) (Nat.le_refl _) (Nat.le_refl _) hRcells hRslots
  obtain ⟨s', hA⟩ : ∃ z, z = (T.setVm s.vm).setFrames (.invoking m args :: below) := ⟨_, rfl⟩
  rw [← hA] at Y
  have hvm : s'.vm = s.vm := by rw [hA]; rfl
  have hhp : s'.heap = H := by rw [hA]; exact hT
  have hW0 : s.WarmedH s'.vm := by rw [hvm]; exact State.WarmedH.refl s
  have hat' : ∀ w ∈ vx_at0 own ic cls names, w.before args s' = true := fun w hw => vx_ot_at hW0 hvm.symm (hgood w (List.mem_cons_of_mem _ (List.mem_cons_of_mem _ hw))) (hat w hw)
  have hk' : (Cond.classLink own ik cls).before args s' = true := vx_ot_at hW0 hvm.symm (hgood _ List.mem_cons_self) hk
  have hini' : (Cond.initialized cls).before args s' = true := vx_ot_at hW0 hvm.symm (hgood _ (List.mem_cons_of_mem _ List.mem_cons_self)) hini
  have hU' : vx_Zq Bundle.tN "UNASSIGNED_STACK" Bundle.steD A s' s'.heap := by rw [hhp]; exact vx_Zq.moved hW0.alike (hU.kept hS.2.1)
  have hN' : vx_Zq Bundle.tN "SUPPRESSED_SENTINEL" Bundle.listD A s' s'.heap := by rw [hhp]; exact vx_Zq.moved hW0.alike (hN.kept hS.2.1)
  have h : ∀ w ∈ Bundle.ownAtoms0 own ic cls names, w.before args s' = true := vx_own hat' (vx_isRefq hU'.1) (vx_isRefq hN'.1) hU'.2.word hN'.2.word
  have hown' : s'.vm.findClass own = some m.cls := by rw [hvm]; exact hown
  have hins : (Cond.instantiable cls 6).before args s' = true := h _ (by simp [Bundle.ownAtoms0])
  obtain ⟨vm₁, cX, kX, hfX, hkX, -, -, X₁, st1⟩ := Y.newCold hexec (own := own) (C := cls) (index := ik) (n := 6) hown' hk' hins hini'
    (g := F0 m pc ls rest) rfl (by rw [hb]; exact d0) (Nat.le_refl _) (Nat.le_refl _)
  generalize hT1 : (T.setVm vm₁).pushCell { cls := cX, slots := kX.instanceTypes.map defaultValue, vm := .none } = T1 at X₁ st1
  have hcat : (Value.ref T.heap.size).category = 1 := rfl
  have hcellA : T1.heap[T.heap.size]? = some (freshCell cX kX) := by rw [← hT1]; exact State.heap_pushCell_size _ _
  have d3' : decode c.code (pc + 3) = .ok (.dup, 1) := by rw [hb]; exact d3
  obtain ⟨U, hsteps, hrun, hend, hW, hsame, ce, hce, hO⟩ := X₁.ctorThrow0 hexec htr (own := own) (cls := cls) (names := names) (ic := ic) hown' hcls hnames h (fun x hx => nomatch hx) hfX hkX hcellA (by rw [hhp, hT]; exact Nat.le_refl _)
    (g := { method := m, pc := pc + 4, locals := ls, stack := .ref T.heap.size :: .ref T.heap.size :: rest, locked := none }) rfl hsize rfl rfl (rest := rest) rfl
    (by rw [hb]; exact d4) (by rw [hb]; exact d7) hout hRframes (by simp only [List.map_cons, List.sum_cons, hcat]; omega) hlocks
  obtain ⟨f1, f2⟩ := vx_frame hsame
  rw [hhp] at f1 f2
  have hWs : s.WarmedH U.vm := State.WarmedH.trans hW0 hW
  have hcl : s.vm.findClass cls = some ce.cls := by
    have h9 := hO.cls
    rw [hvm] at h9
    exact h9
  have hall : s.sameButNew ({ U with vm := s.vm } : State) locs mc ms := by
    subst hA
    obtain ⟨e1, e2⟩ := hsame
    rw [State.setFrames_setFrames] at e1
    have h2 : (T.setVm s.vm).sameButNew ({ U with vm := s.vm } : State) [] (0 + 1) (0 + 6) := ⟨e1, e2⟩
    have h3 := X.same.trans h2
    rw [List.append_nil] at h3
    exact h3.mono hc hs
  refine ⟨U, ?_, .threw T.heap.size, hrun, hend, Or.inr ⟨T.heap.size, rfl, cls, ce, locs, hx U hWs.alike f1 (fun q hq => f2 q hq (fun z hz => nomatch hz)), hce, hO.vm, hcl, hWs, hall, hf⟩⟩
  refine st1 _ ?_
  show Steps p.tables e below (T1.setTop { method := m, pc := pc + 3, locals := ls, stack := .ref T.heap.size :: rest, locked := none }) _
  jvm_step X₁.here [X₁.here.top, hexec, d3', Value.category]
  exact hsteps
/-- 'throw new E("text")': new; dup; ldc; invokespecial; athrow -/
theorem vx_throwS {cc : ByteArray} {pc : Nat} (hexec : p.tables.exec = Jvm.exec) (hb : c.code = cc) (hl : l.stackTraces = false) {own cls text : String} {names : List String} {ik is ic mc ms sa : Nat} {A : Nat → Prop}
    (hown : s.vm.findClass own = some m.cls) (hcls : Bundle.fit cls = true) (hnames : ∀ n ∈ names, Bundle.fit n = true)
    (hk : (Cond.classLink own ik cls).before args s = true) (hini : (Cond.initialized cls).before args s = true) (hstr : vk_R own is text sa s) (hat : ∀ w ∈ vx_atS own ic cls names, w.before args s = true)
    (hgood : ∀ w ∈ Cond.classLink own ik cls :: Cond.initialized cls :: vx_atS own ic cls names, vx_ot w = true)
    (hU : vx_Zq Bundle.tN "UNASSIGNED_STACK" Bundle.steD A s s.heap) (hN : vx_Zq Bundle.tN "SUPPRESSED_SENTINEL" Bundle.listD A s s.heap) (hS : va_S A s.heap H locs) (hsize : ls.size = c.maxLocals)
    (d0 : decode cc pc = .ok (.new ik, 3)) (d3 : decode cc (pc + 3) = .ok (.dup, 1)) (d4 : decode cc (pc + 4) = .ok (.ldc is, 2)) (d6 : decode cc (pc + 6) = .ok (.invokespecial ic, 3)) (d9 : decode cc (pc + 9) = .ok (.athrow, 1))
    (hout : ∀ x ∈ c.exceptionTable.toList, covers x (pc + 9) = false)
    (hRframes : names.length + 3 < R.frames) (hRlocals : (rest.map fun v => v.category).sum + (13 * (names.length + 1) + 43) ≤ R.locals) (hRcells : cells + 1 ≤ R.cells) (hRslots : slots + 6 ≤ R.slots) (hlocks : meth.locks = false)
    (hx : ∀ t : State, s.vm.Alike t.vm → H.size ≤ t.heap.size → (∀ q : Nat, q < H.size → t.heap[q]? = H[q]?) → XC cls s t)
    (hf : ∀ z ∈ locs, free z.base) (hc : cells + 1 ≤ mc) (hs : slots + 6 ≤ ms) :
    W p l e R s m args below meth c H locs cells slots (vx_MQ below Qc XC args s mc ms free) (F0 m pc ls rest) := by
  intro T hT X
  have htr : e.platform.stackTraces = false := (show e.platform.stackTraces = l.stackTraces by rw [X.admits.platform]).trans hl
  have Y := vx_rebase X (R' := { frames := R.frames, locals := R.locals, cells := 1, slots := 6 }) (Nat.le_refl _) (Nat.le_refl _) hRcells hRslots
  obtain ⟨s', hA⟩ : ∃ z, z = (T.setVm s.vm).setFrames (.invoking m args :: below) := ⟨_, rfl⟩
  rw [← hA] at Y
  have hvm : s'.vm = s.vm := by rw [hA]; rfl
  have hhp : s'.heap = H := by rw [hA]; exact hT
  have hW0 : s.WarmedH s'.vm := by rw [hvm]; exact State.WarmedH.refl s
  have hat' : ∀ w ∈ vx_atS own ic cls names, w.before args s' = true := fun w hw => vx_ot_at hW0 hvm.symm (hgood w (List.mem_cons_of_mem _ (List.mem_cons_of_mem _ hw))) (hat w hw)
  have hk' : (Cond.classLink own ik cls).before args s' = true := vx_ot_at hW0 hvm.symm (hgood _ List.mem_cons_self) hk
  have hini' : (Cond.initialized cls).before args s' = true := vx_ot_at hW0 hvm.symm (hgood _ (List.mem_cons_of_mem _ List.mem_cons_self)) hini
  have hU' : vx_Zq Bundle.tN "UNASSIGNED_STACK" Bundle.steD A s' s'.heap := by rw [hhp]; exact vx_Zq.moved hW0.alike (hU.kept hS.2.1)
  have hN' : vx_Zq Bundle.tN "SUPPRESSED_SENTINEL" Bundle.listD A s' s'.heap := by rw [hhp]; exact vx_Zq.moved hW0.alike (hN.kept hS.2.1)
  have h : ∀ w ∈ Bundle.ownAtoms own ic cls names, w.before args s' = true := vx_own hat' (vx_isRefq hU'.1) (vx_isRefq hN'.1) hU'.2.word hN'.2.word
  have hown' : s'.vm.findClass own = some m.cls := by rw [hvm]; exact hown
  have hins : (Cond.instantiable cls 6).before args s' = true := h _ (by simp [Bundle.ownAtoms])
  obtain ⟨vm₁, cX, kX, hfX, hkX, -, -, X₁, st1⟩ := Y.newCold hexec (own := own) (C := cls) (index := ik) (n := 6) hown' hk' hins hini'
    (g := F0 m pc ls rest) rfl (by rw [hb]; exact d0) (Nat.le_refl _) (Nat.le_refl _)
  generalize hT1 : (T.setVm vm₁).pushCell { cls := cX, slots := kX.instanceTypes.map defaultValue, vm := .none } = T1 at X₁ st1
  have hcat : (Value.ref T.heap.size).category = 1 := rfl
  have hcellA : T1.heap[T.heap.size]? = some (freshCell cX kX) := by rw [← hT1]; exact State.heap_pushCell_size _ _
  have d3' : decode c.code (pc + 3) = .ok (.dup, 1) := by rw [hb]; exact d3
  have d4' : decode c.code (pc + 4) = .ok (.ldc is, 2) := by rw [hb]; exact d4
  have hstr' : vk_R own is text sa s' := vk_R.warm hW0 hstr
  obtain ⟨U, hsteps, hrun, hend, hW, hsame, ce, hce, hO⟩ := X₁.ctorThrowS hexec htr (own := own) (cls := cls) (names := names) (ic := ic) hown' hcls hnames h (fun x hx => nomatch hx) hfX hkX hcellA (by rw [hhp, hT]; exact Nat.le_refl _) (msg := .ref sa) rfl
    (g := { method := m, pc := pc + 6, locals := ls, stack := .ref sa :: .ref T.heap.size :: .ref T.heap.size :: rest, locked := none }) rfl hsize rfl rfl (rest := rest) rfl
    (by rw [hb]; exact d6) (by rw [hb]; exact d9) hout hRframes (by simp only [List.map_cons, List.sum_cons, hcat]; omega) hlocks
  obtain ⟨f1, f2⟩ := vx_frame hsame
  rw [hhp] at f1 f2
  have hWs : s.WarmedH U.vm := State.WarmedH.trans hW0 hW
  have hcl : s.vm.findClass cls = some ce.cls := by
    have h9 := hO.cls
    rw [hvm] at h9
    exact h9
  have hall : s.sameButNew ({ U with vm := s.vm } : State) locs mc ms := by
    subst hA
    obtain ⟨e1, e2⟩ := hsame
    rw [State.setFrames_setFrames] at e1
    have h2 : (T.setVm s.vm).sameButNew ({ U with vm := s.vm } : State) [] (0 + 1) (0 + 6) := ⟨e1, e2⟩
    have h3 := X.same.trans h2
    rw [List.append_nil] at h3
    exact h3.mono hc hs
  refine ⟨U, ?_, .threw T.heap.size, hrun, hend, Or.inr ⟨T.heap.size, rfl, cls, ce, locs, hx U hWs.alike f1 (fun q hq => f2 q hq (fun z hz => nomatch hz)), hce, hO.vm, hcl, hWs, hall, hf⟩⟩
  refine st1 _ ?_
  show Steps p.tables e below (T1.setTop { method := m, pc := pc + 3, locals := ls, stack := .ref T.heap.size :: rest, locked := none }) _
  jvm_step X₁.here [X₁.here.top, hexec, d3', Value.category]
  exact X₁.ldcString hexec (own := own) (text := text) (index := is) (a := sa) hown' hstr'.1 hstr'.2
    (g := { method := m, pc := pc + 4, locals := ls, stack := .ref T.heap.size :: .ref T.heap.size :: rest, locked := none }) rfl d4' _ hsteps
/-- 'throw new E("text")', the text by a wide index -/
theorem vx_throwSW {cc : ByteArray} {pc : Nat} (hexec : p.tables.exec = Jvm.exec) (hb : c.code = cc) (hl : l.stackTraces = false) {own cls text : String} {names : List String} {ik is ic mc ms sa : Nat} {A : Nat → Prop}
    (hown : s.vm.findClass own = some m.cls) (hcls : Bundle.fit cls = true) (hnames : ∀ n ∈ names, Bundle.fit n = true)
    (hk : (Cond.classLink own ik cls).before args s = true) (hini : (Cond.initialized cls).before args s = true) (hstr : vk_R own is text sa s) (hat : ∀ w ∈ vx_atS own ic cls names, w.before args s = true)
    (hgood : ∀ w ∈ Cond.classLink own ik cls :: Cond.initialized cls :: vx_atS own ic cls names, vx_ot w = true)
    (hU : vx_Zq Bundle.tN "UNASSIGNED_STACK" Bundle.steD A s s.heap) (hN : vx_Zq Bundle.tN "SUPPRESSED_SENTINEL" Bundle.listD A s s.heap) (hS : va_S A s.heap H locs) (hsize : ls.size = c.maxLocals)
    (d0 : decode cc pc = .ok (.new ik, 3)) (d3 : decode cc (pc + 3) = .ok (.dup, 1)) (d4 : decode cc (pc + 4) = .ok (.ldc_w is, 3)) (d7 : decode cc (pc + 7) = .ok (.invokespecial ic, 3)) (d10 : decode cc (pc + 10) = .ok (.athrow, 1))
    (hout : ∀ x ∈ c.exceptionTable.toList, covers x (pc + 10) = false)
    (hRframes : names.length + 3 < R.frames) (hRlocals : (rest.map fun v => v.category).sum + (13 * (names.length + 1) + 43) ≤ R.locals) (hRcells : cells + 1 ≤ R.cells) (hRslots : slots + 6 ≤ R.slots) (hlocks : meth.locks = false)
    (hx : ∀ t : State, s.vm.Alike t.vm → H.size ≤ t.heap.size → (∀ q : Nat, q < H.size → t.heap[q]? = H[q]?) → XC cls s t)
    (hf : ∀ z ∈ locs, free z.base) (hc : cells + 1 ≤ mc) (hs : slots + 6 ≤ ms) :
    W p l e R s m args below meth c H locs cells slots (vx_MQ below Qc XC args s mc ms free) (F0 m pc ls rest) := by
  intro T hT X
  have htr : e.platform.stackTraces = false := (show e.platform.stackTraces = l.stackTraces by rw [X.admits.platform]).trans hl
  have Y := vx_rebase X (R' := { frames := R.frames, locals := R.locals, cells := 1, slots := 6 }) (Nat.le_refl _) (Nat.le_refl _) hRcells hRslots
  obtain ⟨s', hA⟩ : ∃ z, z = (T.setVm s.vm).setFrames (.invoking m args :: below) := ⟨_, rfl⟩
  rw [← hA] at Y
  have hvm : s'.vm = s.vm := by rw [hA]; rfl
  have hhp : s'.heap = H := by rw [hA]; exact hT
  have hW0 : s.WarmedH s'.vm := by rw [hvm]; exact State.WarmedH.refl s
  have hat' : ∀ w ∈ vx_atS own ic cls names, w.before args s' = true := fun w hw => vx_ot_at hW0 hvm.symm (hgood w (List.mem_cons_of_mem _ (List.mem_cons_of_mem _ hw))) (hat w hw)
  have hk' : (Cond.classLink own ik cls).before args s' = true := vx_ot_at hW0 hvm.symm (hgood _ List.mem_cons_self) hk
  have hini' : (Cond.initialized cls).before args s' = true := vx_ot_at hW0 hvm.symm (hgood _ (List.mem_cons_of_mem _ List.mem_cons_self)) hini
  have hU' : vx_Zq Bundle.tN "UNASSIGNED_STACK" Bundle.steD A s' s'.heap := by rw [hhp]; exact vx_Zq.moved hW0.alike (hU.kept hS.2.1)
  have hN' : vx_Zq Bundle.tN "SUPPRESSED_SENTINEL" Bundle.listD A s' s'.heap := by rw [hhp]; exact vx_Zq.moved hW0.alike (hN.kept hS.2.1)
  have h : ∀ w ∈ Bundle.ownAtoms own ic cls names, w.before args s' = true := vx_own hat' (vx_isRefq hU'.1) (vx_isRefq hN'.1) hU'.2.word hN'.2.word
  have hown' : s'.vm.findClass own = some m.cls := by rw [hvm]; exact hown
  have hins : (Cond.instantiable cls 6).before args s' = true := h _ (by simp [Bundle.ownAtoms])
  obtain ⟨vm₁, cX, kX, hfX, hkX, -, -, X₁, st1⟩ := Y.newCold hexec (own := own) (C := cls) (index := ik) (n := 6) hown' hk' hins hini'
    (g := F0 m pc ls rest) rfl (by rw [hb]; exact d0) (Nat.le_refl _) (Nat.le_refl _)
  generalize hT1 : (T.setVm vm₁).pushCell { cls := cX, slots := kX.instanceTypes.map defaultValue, vm := .none } = T1 at X₁ st1
  have hcat : (Value.ref T.heap.size).category = 1 := rfl
  have hcellA : T1.heap[T.heap.size]? = some (freshCell cX kX) := by rw [← hT1]; exact State.heap_pushCell_size _ _
  have d3' : decode c.code (pc + 3) = .ok (.dup, 1) := by rw [hb]; exact d3
  have d4' : decode c.code (pc + 4) = .ok (.ldc_w is, 3) := by rw [hb]; exact d4
  have hstr' : vk_R own is text sa s' := vk_R.warm hW0 hstr
  obtain ⟨U, hsteps, hrun, hend, hW, hsame, ce, hce, hO⟩ := X₁.ctorThrowS hexec htr (own := own) (cls := cls) (names := names) (ic := ic) hown' hcls hnames h (fun x hx => nomatch hx) hfX hkX hcellA (by rw [hhp, hT]; exact Nat.le_refl _) (msg := .ref sa) rfl
    (g := { method := m, pc := pc + 7, locals := ls, stack := .ref sa :: .ref T.heap.size :: .ref T.heap.size :: rest, locked := none }) rfl hsize rfl rfl (rest := rest) rfl
    (by rw [hb]; exact d7) (by rw [hb]; exact d10) hout hRframes (by simp only [List.map_cons, List.sum_cons, hcat]; omega) hlocks
  obtain ⟨f1, f2⟩ := vx_frame hsame
  rw [hhp] at f1 f2
  have hWs : s.WarmedH U.vm := State.WarmedH.trans hW0 hW
  have hcl : s.vm.findClass cls = some ce.cls := by
    have h9 := hO.cls
    rw [hvm] at h9
    exact h9
  have hall : s.sameButNew ({ U with vm := s.vm } : State) locs mc ms := by
    subst hA
    obtain ⟨e1, e2⟩ := hsame
    rw [State.setFrames_setFrames] at e1
    have h2 : (T.setVm s.vm).sameButNew ({ U with vm := s.vm } : State) [] (0 + 1) (0 + 6) := ⟨e1, e2⟩
    have h3 := X.same.trans h2
    rw [List.append_nil] at h3
    exact h3.mono hc hs
  refine ⟨U, ?_, .threw T.heap.size, hrun, hend, Or.inr ⟨T.heap.size, rfl, cls, ce, locs, hx U hWs.alike f1 (fun q hq => f2 q hq (fun z hz => nomatch hz)), hce, hO.vm, hcl, hWs, hall, hf⟩⟩
  refine st1 _ ?_
  show Steps p.tables e below (T1.setTop { method := m, pc := pc + 3, locals := ls, stack := .ref T.heap.size :: rest, locked := none }) _
  jvm_step X₁.here [X₁.here.top, hexec, d3', Value.category]
  exact X₁.ldcStringW hexec (own := own) (text := text) (index := is) (a := sa) hown' hstr'.1 hstr'.2
    (g := { method := m, pc := pc + 4, locals := ls, stack := .ref T.heap.size :: .ref T.heap.size :: rest, locked := none }) rfl d4' _ hsteps
end Ends
section Bodies
variable {l : Launch}
theorem vx_ofW {y : MethodName} {ws ws' : List Cond} {rm : Room} {Pc : Array Value → State → Prop} {Qc : Array Value → State → Outcome → State → Prop} {XC : String → State → State → Prop} {mc ms : Nat} {free : Addr → Prop} {cc : ByteArray} {maxL : Nat} {ret : Option FieldType}
    (hy : plainName y.cls = true) (hw : ws = Cond.code y cc maxL ret :: ws')
    (body : ∀ p e s m args below meth c s₁, BodyLoose p l y (headSpec ws rm) cc maxL ret e s m args below meth c s₁ → c.maxLocals = maxL → (∀ x ∈ c.exceptionTable.toList, False) → Pc args s →
      W p l e (headSpec ws rm).room s m args below meth c s.heap [] 0 0 (vx_MQ below Qc XC args s mc ms free) (entryFrame m args maxL)) : vx_Met l y ws rm Pc Qc XC mc ms free := by
  refine MetFree.of_bodyS (code := cc) (maxLocals := maxL) (ret := ret) hy ?_ ?_
  · intro args s m h hn
    obtain ⟨meth, c, h1, h2, h3, h4, h5, h6, -, -⟩ := Cond.code_spec hn (atoms_spec (ws := ws) h _ (by rw [hw]; exact List.mem_cons_self))
    exact ⟨meth, c, h1, h2, h3, h4, h5, h6⟩
  · intro p e s m args below meth c s₁ B hml hP _
    have hh0 : s₁.heap = s.heap := by rw [B.state]; rfl
    have ht : ∀ x ∈ c.exceptionTable.toList, False := by
      obtain ⟨meth9, c9, h1, h2, -, -, -, -, h7, -⟩ := Cond.code_spec B.named (atoms_spec (ws := ws) B.pre _ (by rw [hw]; exact List.mem_cons_self))
      cases Option.some.inj (h1.symm.trans B.method)
      cases Option.some.inj (h2.symm.trans (Stand.of_body B).code)
      intro x hx
      rw [Array.isEmpty_iff.mp h7] at hx
      cases hx
    obtain ⟨t, a1, o, b1, b2, b3⟩ := body p e s m args below meth c s₁ B hml ht hP s₁ hh0 (Stand.of_body B)
    exact ⟨t, o, a1, b1, b2, b3⟩
/-- the table of a body with handlers -/
theorem vx_table {p : Program} {x y : MethodName} {S : Spec} {cc bytes : ByteArray} {maxL maxL' : Nat} {ret ret' : Option FieldType} {e : Env} {s s₁ : State} {m : MethodId} {args : Array Value} {below : List Frame} {meth : Method} {c : Code} {hh : List (Nat × Nat × Nat × Nat)}
    (B : BodyLoose p l y S cc maxL ret e s m args below meth c s₁) (h : (Cond.codeWith y bytes maxL' ret' hh).before args s = true) : c.exceptionTable.toList = tableOf hh := by
  obtain ⟨m9, meth9, c9, hn9, h1, h2, -, -, h6, -⟩ := Cond.codeWith_spec h
  cases Option.some.inj (hn9.symm.trans B.named)
  cases Option.some.inj (h1.symm.trans B.method)
  cases Option.some.inj (h2.symm.trans (Stand.of_body B).code)
  rw [← h6, table_eq]
end Bodies
end VXA
/-! ===== END ===== -/
/-! ===== BEGIN a static call of a method with an exception table ===== -/
section VXS
variable {p : Program} {l : Launch} {e : Env} {R : Room} {s : State} {m : MethodId} {args : Array Value} {below : List Frame} {meth : Method} {c : Code} {T : State} {H : Heap} {locs : List Loc} {cells slots : Nat}
abbrev vx_CSW (R : Room) (s : State) (args : Array Value) (own : String) (index : Nat) (y : MethodName) (bytes : ByteArray) (maxL : Nat) (ret : Option FieldType) (hh : List (Nat × Nat × Nat × Nat)) (ws : List Cond) (rm : Room) (mc ms n : Nat) : Prop :=
  (rm.cells = mc ∧ rm.slots = ms ∧ rm.frames + 1 ≤ R.frames ∧ 8 + (maxL + 11) + rm.locals ≤ R.locals ∧ (∀ w ∈ ws, ∀ (a' : Array Value) (U : State), s.WarmedH U.vm → w.before a' U = true) ∧ Cond.codeWith y bytes maxL ret hh ∈ ws) ∧
  (Cond.codeWith y bytes maxL ret hh).before args s = true ∧ (Cond.initialized y.cls).before args s = true ∧ (y.cls ≠ "java/lang/invoke/MethodHandle" ∧ y.cls ≠ "java/lang/invoke/VarHandle") ∧
  (∀ sig, parseMethodDescriptor y.desc = some sig → n = sig.parameters.length) ∧ (Cond.methodLink own index y).before args s = true ∧ (Cond.static y).before args s = true
theorem vx_cwSW {own : String} {index maxL mc ms : Nat} {y : MethodName} {bytes : ByteArray} {ret : Option FieldType} {hh : List (Nat × Nat × Nat × Nat)} {Ts ws ws' : List Cond} {rm : Room} (n : Nat) (ht : ∀ w ∈ Ts, w.before args s = true) (hT : GoodIn Ts (va_wsS own index y ws)) (hw : ws = Cond.codeWith y bytes maxL ret hh :: ws') (hrc : rm.cells = mc) (hrs : rm.slots = ms)
    (hd : y.cls ≠ "java/lang/invoke/MethodHandle" ∧ y.cls ≠ "java/lang/invoke/VarHandle" ∧ (parseMethodDescriptor y.desc).map (fun d => d.parameters.length) = some n) (hR : rm.frames + 1 ≤ R.frames ∧ 8 + (maxL + 11) + rm.locals ≤ R.locals) :
    vx_CSW R s args own index y bytes maxL ret hh ws rm mc ms n := by
  have ok : ∀ w ∈ va_wsS own index y ws, w.before args s = true := fun w h => ht w (hT w h).1
  have hG : GoodIn Ts ws := fun w h => hT w (by unfold va_wsS; exact List.mem_append_right _ h)
  have hc : Cond.codeWith y bytes maxL ret hh ∈ ws := by rw [hw]; exact List.mem_cons_self
  refine ⟨⟨hrc, hrs, hR.1, hR.2, pay_in ht hG, hc⟩, ht _ (hG _ hc).1, ok _ (by simp [va_wsS]), ⟨hd.1, hd.2.1⟩, fun sig h => ?_, ok _ (by simp [va_wsS]), ok _ (by simp [va_wsS])⟩
  have h2 := hd.2.2
  rw [h] at h2
  exact (Option.some.inj h2).symm
theorem vx_callSW (X : Stand p l e R s m args below meth c T locs cells slots) (hexec : p.tables.exec = Jvm.exec) {own : String} {index : Nat} {y : MethodName} {bytes : ByteArray} {maxL : Nat} {ret : Option FieldType} {hh : List (Nat × Nat × Nat × Nat)}
    (hown : s.vm.findClass own = some m.cls) (hlink : (Cond.methodLink own index y).before args s = true) (hstat : (Cond.static y).before args s = true) (hinit : (Cond.initialized y.cls).before args s = true)
    (hcode : (Cond.codeWith y bytes maxL ret hh).before args s = true) (hy : y.cls ≠ "java/lang/invoke/MethodHandle" ∧ y.cls ≠ "java/lang/invoke/VarHandle")
    {W9 : Nat} {Pre : Pt → Array Value → Prop} {Post : Pt → Array Value → Option Value → Pt → Prop} (hK : Back l R p e below s args y 3 W9 Pre Post)
    {g : JFrame} (hg : g.method = m) (hsize : g.locals.size = c.maxLocals) {argsL rest : List Value} (hlen : ∀ sig, parseMethodDescriptor y.desc = some sig → argsL.length = sig.parameters.length)
    (hstack : g.stack = argsL.reverse ++ rest) (hW : 2 * g.monitorRoom + (rest.map fun v => v.category).sum ≤ W9) (hdg : decode c.code g.pc = .ok (.invokestatic index, 3))
    (hpre : ∀ vm₁, s.WarmedH vm₁ → Pre ⟨T.setVm vm₁, locs, cells, slots⟩ argsL.toArray) :
    ∃ (v : Option Value) (vm₁ : Vm) (B : Pt), s.WarmedH vm₁ ∧ Stand p l e R s m args below meth c B.U B.locs B.cells B.slots ∧ Post ⟨T.setVm vm₁, locs, cells, slots⟩ argsL.toArray v B ∧
      ∀ target, Steps p.tables e below (B.U.setTop { g with pc := g.pc + 3, stack := v.toList ++ rest }) target → Steps p.tables e below (T.setTop g) target := by
  obtain ⟨mk, methM, cM, hnamed, hmethM, -, -, -, -, -, -, hsigM⟩ := Cond.codeWith_spec hcode
  have hstatic : methM.isStatic = true := Cond.static_spec hnamed hmethM hstat
  obtain ⟨kP, hkP, -⟩ := className_of_methodNamed hnamed
  have hinitP : kP.init = .initialized := Cond.initialized_spec (findClass_of_methodNamed hnamed) hkP hinit
  obtain ⟨vm₁, X₁, hstep₁⟩ := X.invokestatic hexec hown hlink hnamed hmethM hstatic hkP hinitP hy (g := g) hg (argsL := argsL) (rest := rest) (hlen _ hsigM) hstack hdg
  obtain ⟨v, B, X', hpost, hsteps⟩ := hK m meth c ⟨T.setVm vm₁, locs, cells, slots⟩ { g with stack := rest } (.invokestatic index) mk argsL.toArray X₁ hg hsize hdg hW (X₁.named hnamed) (hpre vm₁ X₁.warmed)
  exact ⟨v, vm₁, B, X₁.warmed, X', hpost, fun target h => hstep₁ _ fun acts => by rw [doInvoke_state]; exact hsteps.trans h⟩
theorem vx_runSW {y : MethodName} {bytes cc : ByteArray} {maxL nL mc ms n index : Nat} {ret : Option FieldType} {hh : List (Nat × Nat × Nat × Nat)} {ws : List Cond} {rm : Room} {Pc : Array Value → State → Prop} {Qc : Array Value → State → Outcome → State → Prop} {free : Addr → Prop} {Ts : List Cond} {own : String} {As rest : List Value} {g : JFrame}
    (S : CallFix p m c cc nL s args Ts own) (hM : Met l y ws rm Pc Qc mc ms free) (cw : vx_CSW R s args own index y bytes maxL ret hh ws rm mc ms n) (hp : PreS s H Pc As)
    (hg : g.method = m) (hn : As.length = n) (hsize : g.locals.size = nL) (hstack : g.stack = As.reverse ++ rest) (hW : 2 * g.monitorRoom + (rest.map fun v => v.category).sum ≤ 8) (hdg : decode cc g.pc = .ok (.invokestatic index, 3)) (hf : cells + mc ≤ R.cells ∧ slots + ms ≤ R.slots) :
    va_Run p l e R s m args below meth c H locs cells slots mc ms g rest (Qc As.toArray) (free) := by
  obtain ⟨⟨hrc, hrs, hfr, hlo, hws, hcw⟩, hcode, hini, hy, hlen, hl, hstt⟩ := cw
  have hK : Back l R p e below s args y 3 8 (PreOf R mc ms Pc) (PostOf Qc mc ms free) := va_backW (hh := hh) (bytes := bytes) (maxL := maxL) (ret := ret) hM hp.1 hrc hrs hfr hlo hws hcw (fun a' U hW => word_at hW (Or.inl (by first | rfl | simp [Cond.onTables, Cond.keeps, Cond.steady])) hini)
  obtain ⟨hx, hb, hml, ho, -⟩ := S
  intro T hT X
  obtain ⟨v, vm₁, ⟨U', l2, c2, s2⟩, hW₁, X', ⟨g', mk, t, L, e1, e2, hq, h1, hL, h2, h3⟩, st⟩ := vx_callSW X hx (hh := hh) (bytes := bytes) (maxL := maxL) (ret := ret) ho hl hstt hini hcode hy hK hg (hsize.trans hml.symm) (argsL := As) (rest := rest) (fun sig h => hn.trans (hlen sig h)) hstack hW (by rw [hb]; exact hdg)
    (fun vm₁ hW₁ => ⟨hf.1, hf.2, hp.2 (T.setVm vm₁) hT hW₁⟩)
  dsimp only [Pt.U, Pt.locs, Pt.cells, Pt.slots] at X' e1 e2 h1 h2 h3 st
  subst h1; subst h2; subst h3
  exact ⟨v, (T.setVm vm₁).calling g' mk As.toArray, t, U', L, hT, X', hL, e1, e2, hq, st⟩
/-- not caught here, past rows that name other classes: it goes on to the caller -/
theorem vx_outP {p : Program} {l : Launch} {e : Env} {R : Room} {s : State} {m : MethodId} {args : Array Value} {below : List Frame} {meth : Method} {c : Code} {H : Heap} {locs : List Loc} {cells slots : Nat} {free : Addr → Prop} {ls : Array Slot} {rest : List Value} {Qc : Array Value → State → Outcome → State → Prop} {XC : String → State → State → Prop}
    {pc : Nat} {own E : String} {ce : Cell} {q : Addr} {mc ms : Nat} (hown : s.vm.findClass own = some m.cls) (hlocks : meth.locks = false)
    (hpass : ∀ z ∈ c.exceptionTable.toList, covers z pc = false ∨ (z.catchType ≠ 0 ∧ ∃ nm : String, (Cond.classLink own z.catchType nm).before args s = true ∧ va_Nc E nm s)) (hcell : H[q]? = some ce) (hv : ce.vm = .none) (hcl : s.vm.findClass E = some ce.cls)
    (hx : ∀ t : State, t.heap = H → s.vm.Alike t.vm → XC E s t) (hf : ∀ z ∈ locs, free z.base) (hc : cells ≤ mc) (hs : slots ≤ ms) :
    vx_W p l e R s m args below meth c H locs cells slots (vx_MQ below Qc XC args s mc ms free) (F0 m pc ls rest) q := by
  intro T hT X
  have hpl : e.platform.magicAccessors = ({} : Platform).magicAccessors := by rw [X.admits.platform]
  obtain ⟨vm', hW', X', st⟩ := X.outThrough hlocks q (g := F0 m pc ls rest) rfl rfl rfl (cell := ce) (by rw [hT]; exact hcell) (by rw [hv]; rfl)
    (by obtain ⟨k9, h9, -⟩ := Vm.findClass_spec hcl; exact ⟨k9, h9⟩) (fun z hz => by
      rcases hpass z hz with h | ⟨hz0, nm, hl1, hn1⟩
      · exact Or.inl h
      · obtain ⟨c6, hc6, hcl6⟩ := Cond.classLink_spec hown hl1 e.platform hpl
        obtain ⟨a8, b8, h1, h2, h3⟩ := hn1
        cases Option.some.inj (h1.symm.trans hcl)
        cases Option.some.inj (h2.symm.trans hc6)
        exact Or.inr ⟨hz0, _, hcl6, h3⟩)
  obtain ⟨g₀, hfr⟩ := X'.frames_eq
  have hcell9 : ((T.setVm vm').setFrames (.throwing q :: below)).heap[q]? = some ce := by
    show T.heap[q]? = some ce
    rw [hT]; exact hcell
  have hend : Ended ((T.setVm vm').setFrames (.throwing q :: below)) below (.threw q) := State.frames_setFrames _ (State.cur_lt_of_frames hfr)
  refine ⟨(T.setVm vm').setFrames (.throwing q :: below), ?_, .threw q, X'.here.running, hend, Or.inr ⟨q, rfl, E, ce, locs, hx _ hT (X'.ends _).1.alike, hcell9, hv, hcl, (X'.ends _).1, (X'.ends _).2.mono hc hs, hf⟩⟩
  rw [X.pushThrowing_eq]
  exact st
/-- a thing of a world lies in the heap -/
theorem vx_lt {D : va_G} {cl : List vw_C} {ws : va_W} {H1 : Heap} (h : va_P D cl ws H1) {k : Nat} {q : Nat × va_E} (hk : ws[k]? = some q) : q.1 < H1.size := (h k q hk).lt
end VXS
/-! ===== END ===== -/
/-! ===== BEGIN methods with a table of their own: called by a name, returning or throwing ===== -/
section VXH
/-! vx_backW, vx_callVX, vx_callSX, vx_callVW, vx_runVW, vx_runVX, vx_runSX, vx_ofWH follow the same proofs as their sisters above (Free/Laws.lean, Shelf42/LK1.lean); vx_outP calls Shelf42/NT130.lean (outThrough). -/
section
variable {l : Launch} {R : Room} {p : Program} {e : Env} {below : List Frame} {s : State} {sargs : Array Value} {y : MethodName} {len W9 : Nat}
theorem vx_backW {ws : List Cond} {rm : Room} {Pc : Array Value → State → Prop} {Qc : Array Value → State → Outcome → State → Prop} {XC : String → State → State → Prop} {mc ms : Nat} {free : Addr → Prop} {bytes : ByteArray} {maxL : Nat} {ret : Option FieldType} {hh : List (Nat × Nat × Nat × Nat)}
    (hM : vx_Met l y ws rm Pc Qc XC mc ms free) (hblind : FrameBlind Pc) (hrc : rm.cells = mc) (hrs : rm.slots = ms)
    (hframes : rm.frames + 1 ≤ R.frames) (hlocals : W9 + (maxL + 11) + rm.locals ≤ R.locals)
    (hws : ∀ w ∈ ws, ∀ a' U, s.WarmedH U.vm → w.before a' U = true) (hcode : Cond.codeWith y bytes maxL ret hh ∈ ws) (hinit : ∀ a' U, s.WarmedH U.vm → (Cond.initialized y.cls).before a' U = true) :
    vx_Back l R p e below s sargs y len W9 (PreOf R mc ms Pc) (PostOf Qc mc ms free) (vx_Post XC mc ms free) := by
  intro m meth c A g ig mk a X hg hsize hdg hW hn hp
  have h1 : (headSpec ws rm).pre.before a A.U = true := atoms_intro fun w hw => hws w hw _ _ X.warmed
  have h2 : (Cond.codeWith y bytes maxL ret hh).before a A.U = true := hws _ hcode _ _ X.warmed
  have h3 : (Cond.initialized y.cls).before a A.U = true := hinit _ _ X.warmed
  have h4 : A.cells + (headSpec ws rm).room.cells ≤ R.cells := by rw [show (headSpec ws rm).room.cells = mc from hrc]; exact hp.1
  have h5 : A.slots + (headSpec ws rm).room.slots ≤ R.slots := by rw [show (headSpec ws rm).room.slots = ms from hrs]; exact hp.2.1
  have hPc : Pc a (A.U.calling g mk a) := hblind _ _ _ _ hp.2.2
  obtain ⟨U, Ls, c0, s0⟩ := A
  dsimp only [Pt.U, Pt.locs, Pt.cells, Pt.slots] at h1 h2 h3 h4 h5 X hn hPc ⊢
  obtain ⟨m9, methY, cY, hn9, hmY, hcY, -, hlY, -⟩ := Cond.codeWith_spec h2
  cases Option.some.inj (hn9.symm.trans hn)
  obtain ⟨kY, hkY, -⟩ := className_of_methodNamed hn
  have hinitY : kY.init = .initialized := Cond.initialized_spec (findClass_of_methodNamed hn) hkY h3
  have h : At U g.method c below := by rw [hg]; exact X.here
  have hlocals9 : W9 + (maxL + 11) + (headSpec ws rm).room.locals ≤ R.locals := hlocals
  have happ : (headSpec ws rm).appliesLoose y e.platform (U.calling g mk a) = true :=
    Spec.appliesLoose_calling (g := g) h hdg hn hkY hinitY
      (X.room_calling (g := g) (R' := (headSpec ws rm).room) hsize hmY hcY hframes (by rw [hlY]; omega) h4 h5) h1
  obtain ⟨mid, hmid⟩ := h.above
  have hfr : (U.setTop g).frames = (.java g :: mid) ++ below := by rw [State.frames_setTop' g h.top, hmid]; rfl
  obtain ⟨o, s₂, hsteps, -, hend, hq⟩ := Steps.callFree hM p X.admits X.cas X.clock (acts := []) hfr happ hPc trivial
  have hq' : vx_Q Qc XC mc ms free a (U.calling g mk a) o s₂ := hq
  rw [State.frames_setTop' g h.top] at hend
  obtain ⟨g₀, hg0⟩ := Option.isSome_iff_exists.mp h.top
  obtain ⟨r, hr⟩ := State.topJava?_eq_some.mp hg0
  have hr' : (({ U with heap := s₂.heap, slotsUsed := s₂.slotsUsed } : State).setVm s₂.vm).frames = .java g₀ :: r := hr
  rcases hq' with ⟨hqc, L, hfe, hL⟩ | ⟨q, rfl, E, ce, L, hx, hce, hcv, hcl, hW₂, hsm, hL⟩
  · obtain ⟨⟨v, rfl⟩, hW₂, e2, q2, q3, q4, q5, q6⟩ := id hfe
    have e3 : s₂ = ({ (U.calling g mk a).setFrames s₂.frames with heap := s₂.heap, slotsUsed := s₂.slotsUsed } : State).setVm s₂.vm := by
      have : s₂ = ({ s₂ with vm := (U.calling g mk a).vm } : State).setVm s₂.vm := rfl
      rw [e2] at this
      exact this
    obtain ⟨c₂, i₂, len₂, hc₂, hd₂, hf₂⟩ := hend
    have hW' : U.WarmedH s₂.vm := hW₂
    have hcc : c₂ = c := by
      have h1 : s₂.code? g.method = U.code? g.method := by
        rw [State.code?_eq, State.code?_eq, hW'.alike.method?]
      exact Option.some.inj (hc₂.symm.trans (h1.trans h.code))
    subst hcc
    have hlen : len₂ = len := by rw [hdg] at hd₂; cases hd₂; rfl
    subst hlen
    have hs₂ : s₂ = (({ U with heap := s₂.heap, slotsUsed := s₂.slotsUsed } : State).setVm s₂.vm).setTop { g with pc := g.pc + len₂, stack := v.toList ++ g.stack } := by
      refine e3.trans ?_
      rw [hf₂, State.calling_eq h.top, State.setFrames_setFrames, State.setTop_of_frames _ hr', hr]
      rfl
    have hsame : U.sameButNew ({ U with heap := s₂.heap, slotsUsed := s₂.slotsUsed } : State) L mc ms := by
      refine ⟨?_, q2, q3, q4, q5, q6⟩
      obtain ⟨t, ht, -⟩ := State.frames_cons hr
      show ({ U with heap := s₂.heap, slotsUsed := s₂.slotsUsed } : State) = { U.setFrames U.frames with heap := s₂.heap, slotsUsed := s₂.slotsUsed }
      rw [State.setFrames_self ht]
    subst hg
    refine Or.inl ⟨v, ⟨(({ U with heap := s₂.heap, slotsUsed := s₂.slotsUsed } : State).setVm s₂.vm), Ls ++ L, c0 + mc, s0 + ms⟩,
      ⟨X.admits, X.cas, X.clock, X.frames, X.room, X.hears, X.method, X.code, (X.here.setHeapUsed s₂.heap s₂.slotsUsed).setVm hW'.alike, X.tail, State.WarmedH.trans X.warmed hW', X.limits, X.bytes, X.same.trans (hsame.setVm s.vm)⟩,
      ⟨g, mk, s₂, L, rfl, rfl, hqc, rfl, hL, rfl, rfl⟩, ?_⟩
    show Steps p.tables e below _ ((({ U with heap := s₂.heap, slotsUsed := s₂.slotsUsed } : State).setVm s₂.vm).setTop { g with pc := g.pc + len₂, stack := v.toList ++ g.stack })
    rw [← hs₂]
    exact hsteps
  · obtain ⟨e2, q2, q3, q4, q5, q6⟩ := id hsm
    have e3 : s₂ = ({ (U.calling g mk a).setFrames s₂.frames with heap := s₂.heap, slotsUsed := s₂.slotsUsed } : State).setVm s₂.vm := by
      have : s₂ = ({ s₂ with vm := (U.calling g mk a).vm } : State).setVm s₂.vm := rfl
      rw [e2] at this
      exact this
    have hf₂ : s₂.frames = .throwing q :: .java g :: U.frames.tail := hend
    have hW' : U.WarmedH s₂.vm := hW₂
    have hs₂ : s₂ = ((({ U with heap := s₂.heap, slotsUsed := s₂.slotsUsed } : State).setVm s₂.vm).setTop g).pushFrame (.throwing q) := by
      refine e3.trans ?_
      rw [hf₂, State.calling_eq h.top, State.setFrames_setFrames, State.pushFrame, State.frames_setTop _ hr', State.setTop_of_frames _ hr', State.setFrames_setFrames, hr]
      rfl
    have hsame : U.sameButNew ({ U with heap := s₂.heap, slotsUsed := s₂.slotsUsed } : State) L mc ms := by
      refine ⟨?_, q2, q3, q4, q5, q6⟩
      obtain ⟨t, ht, -⟩ := State.frames_cons hr
      show ({ U with heap := s₂.heap, slotsUsed := s₂.slotsUsed } : State) = { U.setFrames U.frames with heap := s₂.heap, slotsUsed := s₂.slotsUsed }
      rw [State.setFrames_self ht]
    subst hg
    refine Or.inr ⟨q, ⟨(({ U with heap := s₂.heap, slotsUsed := s₂.slotsUsed } : State).setVm s₂.vm), Ls ++ L, c0 + mc, s0 + ms⟩,
      ⟨X.admits, X.cas, X.clock, X.frames, X.room, X.hears, X.method, X.code, (X.here.setHeapUsed s₂.heap s₂.slotsUsed).setVm hW'.alike, X.tail, State.WarmedH.trans X.warmed hW', X.limits, X.bytes, X.same.trans (hsame.setVm s.vm)⟩,
      ⟨g, mk, s₂, L, E, ce, rfl, rfl, hx, hce, hcv, hcl, rfl, hL, rfl, rfl⟩, ?_⟩
    show Steps p.tables e below _ (((({ U with heap := s₂.heap, slotsUsed := s₂.slotsUsed } : State).setVm s₂.vm).setTop g).pushFrame (.throwing q))
    rw [← hs₂]
    exact hsteps
end
variable {p : Program} {l : Launch} {e : Env} {R : Room} {s : State} {m : MethodId} {args : Array Value} {below : List Frame} {meth : Method} {c : Code} {T : State} {H : Heap} {locs : List Loc} {cells slots : Nat}
theorem vx_callVX (X : Stand p l e R s m args below meth c T locs cells slots) (hexec : p.tables.exec = Jvm.exec) {own C : String} {index : Nat} {y : MethodName} {bytes : ByteArray} {maxL : Nat} {ret : Option FieldType} {hh : List (Nat × Nat × Nat × Nat)}
    (hown : s.vm.findClass own = some m.cls) (hlink : (Cond.methodLink own index y).before args s = true) (hinst : (Cond.instanceMethod y).before args s = true) (hsel : (Cond.selects C y y).before args s = true)
    (hcode : (Cond.codeWith y bytes maxL ret hh).before args s = true) (hy : y.cls ≠ "java/lang/invoke/MethodHandle" ∧ y.cls ≠ "java/lang/invoke/VarHandle")
    {W9 : Nat} {Pre : Pt → Array Value → Prop} {Post : Pt → Array Value → Option Value → Pt → Prop} {PostX : Pt → Array Value → Addr → Pt → Prop} (hK : vx_Back l R p e below s args y 3 W9 Pre Post PostX)
    {b : Addr} {cellB : Cell} (hcell : T.heap[b]? = some cellB) (hobj : cellB.vm.isStatics = false) (hcls : s.vm.findClass C = some cellB.cls)
    {g : JFrame} (hg : g.method = m) (hsize : g.locals.size = c.maxLocals) {argsL rest : List Value} (hlen : ∀ sig, parseMethodDescriptor y.desc = some sig → argsL.length = sig.parameters.length)
    (hstack : g.stack = argsL.reverse ++ .ref b :: rest) (hW : 2 * g.monitorRoom + (rest.map fun v => v.category).sum ≤ W9) (hdg : decode c.code g.pc = .ok (.invokevirtual index, 3))
    (hpre : ∀ vm₁, s.WarmedH vm₁ → Pre ⟨T.setVm vm₁, locs, cells, slots⟩ (Value.ref b :: argsL).toArray) :
    (∃ (v : Option Value) (vm₁ : Vm) (B : Pt), s.WarmedH vm₁ ∧ Stand p l e R s m args below meth c B.U B.locs B.cells B.slots ∧ Post ⟨T.setVm vm₁, locs, cells, slots⟩ (Value.ref b :: argsL).toArray v B ∧
      ∀ target, Steps p.tables e below (B.U.setTop { g with pc := g.pc + 3, stack := v.toList ++ rest }) target → Steps p.tables e below (T.setTop g) target) ∨
    (∃ (q : Addr) (vm₁ : Vm) (B : Pt), s.WarmedH vm₁ ∧ Stand p l e R s m args below meth c B.U B.locs B.cells B.slots ∧ PostX ⟨T.setVm vm₁, locs, cells, slots⟩ (Value.ref b :: argsL).toArray q B ∧
      Steps p.tables e below (T.setTop g) ((B.U.setTop { g with stack := rest }).pushFrame (.throwing q))) := by
  obtain ⟨mk, methM, hnamed, hmethM, hstM, habM⟩ := Cond.instanceMethod_spec hinst
  obtain ⟨m8, methM', cM, hn8, hmethM', -, -, -, -, -, -, hsigM⟩ := Cond.codeWith_spec hcode
  cases Option.some.inj (hn8.symm.trans hnamed)
  cases hmethM.symm.trans hmethM'
  obtain ⟨c2, r2, m2, q1, q2, q3, q4, kP, hkP, hkPi⟩ := Cond.selects_spec hsel
  cases hcls.symm.trans q1
  cases (State.methodFound?_of_named hnamed hy).symm.trans q2
  cases hnamed.symm.trans q3
  have hselP : selectMethod e.platform s.vm cellB.cls mk = .method mk := by rw [Launch.admits_selectMethod X.admits]; exact q4
  obtain ⟨vm₁, X₁, hstep₁⟩ := X.invokevirtual hexec hown hlink hnamed hmethM hstM hkP hkPi hy (a := b) (cell := cellB) hcell
    (fun z h => by rw [h] at hobj; cases hobj) hselP hmethM habM hkP hkPi (g := g) hg (argsL := argsL) (rest := rest) (hlen _ hsigM) hstack hdg
  rcases hK m meth c ⟨T.setVm vm₁, locs, cells, slots⟩ { g with stack := rest } (.invokevirtual index) mk (Value.ref b :: argsL).toArray X₁ hg hsize hdg hW (X₁.named hnamed) (hpre vm₁ X₁.warmed) with ⟨v, B, X', hpost, hsteps⟩ | ⟨q, B, X', hpost, hsteps⟩
  · exact Or.inl ⟨v, vm₁, B, X₁.warmed, X', hpost, fun target h => hstep₁ _ fun acts => by rw [doInvoke_state]; exact hsteps.trans h⟩
  · exact Or.inr ⟨q, vm₁, B, X₁.warmed, X', hpost, hstep₁ _ fun acts => by rw [doInvoke_state]; exact hsteps⟩
theorem vx_callSX (X : Stand p l e R s m args below meth c T locs cells slots) (hexec : p.tables.exec = Jvm.exec) {own : String} {index : Nat} {y : MethodName} {bytes : ByteArray} {maxL : Nat} {ret : Option FieldType} {hh : List (Nat × Nat × Nat × Nat)}
    (hown : s.vm.findClass own = some m.cls) (hlink : (Cond.methodLink own index y).before args s = true) (hstat : (Cond.static y).before args s = true) (hinit : (Cond.initialized y.cls).before args s = true)
    (hcode : (Cond.codeWith y bytes maxL ret hh).before args s = true) (hy : y.cls ≠ "java/lang/invoke/MethodHandle" ∧ y.cls ≠ "java/lang/invoke/VarHandle")
    {W9 : Nat} {Pre : Pt → Array Value → Prop} {Post : Pt → Array Value → Option Value → Pt → Prop} {PostX : Pt → Array Value → Addr → Pt → Prop} (hK : vx_Back l R p e below s args y 3 W9 Pre Post PostX)
    {g : JFrame} (hg : g.method = m) (hsize : g.locals.size = c.maxLocals) {argsL rest : List Value} (hlen : ∀ sig, parseMethodDescriptor y.desc = some sig → argsL.length = sig.parameters.length)
    (hstack : g.stack = argsL.reverse ++ rest) (hW : 2 * g.monitorRoom + (rest.map fun v => v.category).sum ≤ W9) (hdg : decode c.code g.pc = .ok (.invokestatic index, 3))
    (hpre : ∀ vm₁, s.WarmedH vm₁ → Pre ⟨T.setVm vm₁, locs, cells, slots⟩ argsL.toArray) :
    (∃ (v : Option Value) (vm₁ : Vm) (B : Pt), s.WarmedH vm₁ ∧ Stand p l e R s m args below meth c B.U B.locs B.cells B.slots ∧ Post ⟨T.setVm vm₁, locs, cells, slots⟩ argsL.toArray v B ∧
      ∀ target, Steps p.tables e below (B.U.setTop { g with pc := g.pc + 3, stack := v.toList ++ rest }) target → Steps p.tables e below (T.setTop g) target) ∨
    (∃ (q : Addr) (vm₁ : Vm) (B : Pt), s.WarmedH vm₁ ∧ Stand p l e R s m args below meth c B.U B.locs B.cells B.slots ∧ PostX ⟨T.setVm vm₁, locs, cells, slots⟩ argsL.toArray q B ∧
      Steps p.tables e below (T.setTop g) ((B.U.setTop { g with stack := rest }).pushFrame (.throwing q))) := by
  obtain ⟨mk, methM, cM, hnamed, hmethM, -, -, -, -, -, -, hsigM⟩ := Cond.codeWith_spec hcode
  have hstatic : methM.isStatic = true := Cond.static_spec hnamed hmethM hstat
  obtain ⟨kP, hkP, -⟩ := className_of_methodNamed hnamed
  have hinitP : kP.init = .initialized := Cond.initialized_spec (findClass_of_methodNamed hnamed) hkP hinit
  obtain ⟨vm₁, X₁, hstep₁⟩ := X.invokestatic hexec hown hlink hnamed hmethM hstatic hkP hinitP hy (g := g) hg (argsL := argsL) (rest := rest) (hlen _ hsigM) hstack hdg
  rcases hK m meth c ⟨T.setVm vm₁, locs, cells, slots⟩ { g with stack := rest } (.invokestatic index) mk argsL.toArray X₁ hg hsize hdg hW (X₁.named hnamed) (hpre vm₁ X₁.warmed) with ⟨v, B, X', hpost, hsteps⟩ | ⟨q, B, X', hpost, hsteps⟩
  · exact Or.inl ⟨v, vm₁, B, X₁.warmed, X', hpost, fun target h => hstep₁ _ fun acts => by rw [doInvoke_state]; exact hsteps.trans h⟩
  · exact Or.inr ⟨q, vm₁, B, X₁.warmed, X', hpost, hstep₁ _ fun acts => by rw [doInvoke_state]; exact hsteps⟩
theorem vx_callVW (X : Stand p l e R s m args below meth c T locs cells slots) (hexec : p.tables.exec = Jvm.exec) {own C : String} {index : Nat} {y : MethodName} {bytes : ByteArray} {maxL : Nat} {ret : Option FieldType} {hh : List (Nat × Nat × Nat × Nat)}
    (hown : s.vm.findClass own = some m.cls) (hlink : (Cond.methodLink own index y).before args s = true) (hinst : (Cond.instanceMethod y).before args s = true) (hsel : (Cond.selects C y y).before args s = true)
    (hcode : (Cond.codeWith y bytes maxL ret hh).before args s = true) (hy : y.cls ≠ "java/lang/invoke/MethodHandle" ∧ y.cls ≠ "java/lang/invoke/VarHandle")
    {W9 : Nat} {Pre : Pt → Array Value → Prop} {Post : Pt → Array Value → Option Value → Pt → Prop} (hK : Back l R p e below s args y 3 W9 Pre Post)
    {b : Addr} {cellB : Cell} (hcell : T.heap[b]? = some cellB) (hobj : cellB.vm.isStatics = false) (hcls : s.vm.findClass C = some cellB.cls)
    {g : JFrame} (hg : g.method = m) (hsize : g.locals.size = c.maxLocals) {argsL rest : List Value} (hlen : ∀ sig, parseMethodDescriptor y.desc = some sig → argsL.length = sig.parameters.length)
    (hstack : g.stack = argsL.reverse ++ .ref b :: rest) (hW : 2 * g.monitorRoom + (rest.map fun v => v.category).sum ≤ W9) (hdg : decode c.code g.pc = .ok (.invokevirtual index, 3))
    (hpre : ∀ vm₁, s.WarmedH vm₁ → Pre ⟨T.setVm vm₁, locs, cells, slots⟩ (Value.ref b :: argsL).toArray) :
    ∃ (v : Option Value) (vm₁ : Vm) (B : Pt), s.WarmedH vm₁ ∧ Stand p l e R s m args below meth c B.U B.locs B.cells B.slots ∧ Post ⟨T.setVm vm₁, locs, cells, slots⟩ (Value.ref b :: argsL).toArray v B ∧
      ∀ target, Steps p.tables e below (B.U.setTop { g with pc := g.pc + 3, stack := v.toList ++ rest }) target → Steps p.tables e below (T.setTop g) target := by
  obtain ⟨mk, methM, hnamed, hmethM, hstM, habM⟩ := Cond.instanceMethod_spec hinst
  obtain ⟨m8, methM', cM, hn8, hmethM', -, -, -, -, -, -, hsigM⟩ := Cond.codeWith_spec hcode
  cases Option.some.inj (hn8.symm.trans hnamed)
  cases hmethM.symm.trans hmethM'
  obtain ⟨c2, r2, m2, q1, q2, q3, q4, kP, hkP, hkPi⟩ := Cond.selects_spec hsel
  cases hcls.symm.trans q1
  cases (State.methodFound?_of_named hnamed hy).symm.trans q2
  cases hnamed.symm.trans q3
  have hselP : selectMethod e.platform s.vm cellB.cls mk = .method mk := by rw [Launch.admits_selectMethod X.admits]; exact q4
  obtain ⟨vm₁, X₁, hstep₁⟩ := X.invokevirtual hexec hown hlink hnamed hmethM hstM hkP hkPi hy (a := b) (cell := cellB) hcell
    (fun z h => by rw [h] at hobj; cases hobj) hselP hmethM habM hkP hkPi (g := g) hg (argsL := argsL) (rest := rest) (hlen _ hsigM) hstack hdg
  obtain ⟨v, B, X', hpost, hsteps⟩ := hK m meth c ⟨T.setVm vm₁, locs, cells, slots⟩ { g with stack := rest } (.invokevirtual index) mk (Value.ref b :: argsL).toArray X₁ hg hsize hdg hW (X₁.named hnamed) (hpre vm₁ X₁.warmed)
  exact ⟨v, vm₁, B, X₁.warmed, X', hpost, fun target h => hstep₁ _ fun acts => by rw [doInvoke_state]; exact hsteps.trans h⟩
abbrev vx_CVW (R : Room) (s : State) (args : Array Value) (own C : String) (index : Nat) (y : MethodName) (bytes : ByteArray) (maxL : Nat) (ret : Option FieldType) (hh : List (Nat × Nat × Nat × Nat)) (ws : List Cond) (rm : Room) (mc ms n : Nat) : Prop :=
  (rm.cells = mc ∧ rm.slots = ms ∧ rm.frames + 1 ≤ R.frames ∧ 8 + (maxL + 11) + rm.locals ≤ R.locals ∧ (∀ w ∈ ws, ∀ (a' : Array Value) (U : State), s.WarmedH U.vm → w.before a' U = true) ∧ Cond.codeWith y bytes maxL ret hh ∈ ws) ∧
  (Cond.codeWith y bytes maxL ret hh).before args s = true ∧ (Cond.initialized y.cls).before args s = true ∧ (y.cls ≠ "java/lang/invoke/MethodHandle" ∧ y.cls ≠ "java/lang/invoke/VarHandle") ∧
  (∀ sig, parseMethodDescriptor y.desc = some sig → n = sig.parameters.length) ∧ (Cond.methodLink own index y).before args s = true ∧ (Cond.instanceMethod y).before args s = true ∧ (Cond.selects C y y).before args s = true
theorem vx_cwVW {own C : String} {index maxL mc ms : Nat} {y : MethodName} {bytes : ByteArray} {ret : Option FieldType} {hh : List (Nat × Nat × Nat × Nat)} {Ts ws ws' : List Cond} {rm : Room} (n : Nat) (ht : ∀ w ∈ Ts, w.before args s = true) (hT : GoodIn Ts (wsV own index C y ws)) (hw : ws = Cond.codeWith y bytes maxL ret hh :: ws') (hrc : rm.cells = mc) (hrs : rm.slots = ms)
    (hd : y.cls = C ∧ y.cls ≠ "java/lang/invoke/MethodHandle" ∧ y.cls ≠ "java/lang/invoke/VarHandle" ∧ (parseMethodDescriptor y.desc).map (fun d => d.parameters.length) = some n) (hR : rm.frames + 1 ≤ R.frames ∧ 8 + (maxL + 11) + rm.locals ≤ R.locals) :
    vx_CVW R s args own C index y bytes maxL ret hh ws rm mc ms n := by
  obtain ⟨hC, hd⟩ := hd
  subst hC
  have ok : ∀ w ∈ wsV own index y.cls y ws, w.before args s = true := fun w h => ht w (hT w h).1
  have hG : GoodIn Ts ws := fun w h => hT w (by unfold wsV; exact List.mem_append_right _ h)
  have hc : Cond.codeWith y bytes maxL ret hh ∈ ws := by rw [hw]; exact List.mem_cons_self
  refine ⟨⟨hrc, hrs, hR.1, hR.2, pay_in ht hG, hc⟩, ht _ (hG _ hc).1, ok _ (by simp [wsV]), ⟨hd.1, hd.2.1⟩, fun sig h => ?_, ok _ (by simp [wsV]), ok _ (by simp [wsV]), ok _ (by simp [wsV])⟩
  have h2 := hd.2.2
  rw [h] at h2
  exact (Option.some.inj h2).symm
theorem vx_runVW {y : MethodName} {bytes cc : ByteArray} {maxL nL mc ms n index : Nat} {ret : Option FieldType} {hh : List (Nat × Nat × Nat × Nat)} {ws : List Cond} {rm : Room} {Pc : Array Value → State → Prop} {Qc : Array Value → State → Outcome → State → Prop} {free : Addr → Prop} {Ts : List Cond} {own C : String} {b : Addr} {As rest : List Value} {g : JFrame}
    (S : CallFix p m c cc nL s args Ts own) (hM : Met l y ws rm Pc Qc mc ms free) (cw : vx_CVW R s args own C index y bytes maxL ret hh ws rm mc ms n) (hp : PreV s H C b Pc As)
    (hg : g.method = m) (hn : As.length = n) (hsize : g.locals.size = nL) (hstack : g.stack = As.reverse ++ .ref b :: rest) (hW : 2 * g.monitorRoom + (rest.map fun v => v.category).sum ≤ 8) (hdg : decode cc g.pc = .ok (.invokevirtual index, 3)) (hf : cells + mc ≤ R.cells ∧ slots + ms ≤ R.slots) :
    va_Run p l e R s m args below meth c H locs cells slots mc ms g rest (Qc (Value.ref b :: As).toArray) free := by
  obtain ⟨⟨hrc, hrs, hfr, hlo, hws, hcw⟩, hcode, hini, hy, hlen, hl, hin, hse⟩ := cw
  have hK : Back l R p e below s args y 3 8 (PreOf R mc ms Pc) (PostOf Qc mc ms free) := va_backW (hh := hh) (bytes := bytes) (maxL := maxL) (ret := ret) hM hp.1 hrc hrs hfr hlo hws hcw (fun a' U hW => word_at hW (Or.inl (by first | rfl | simp [Cond.onTables, Cond.keeps, Cond.steady])) hini)
  obtain ⟨hx, hb, hml, ho, -⟩ := S
  obtain ⟨-, ⟨cellB, hcB, hoB, hclB⟩, hPc⟩ := hp
  intro T hT X
  obtain ⟨v, vm₁, ⟨U', l2, c2, s2⟩, hW₁, X', ⟨g', mk, t, L, e1, e2, hq, h1, hL, h2, h3⟩, st⟩ := vx_callVW X hx (C := C) (hh := hh) (bytes := bytes) (maxL := maxL) (ret := ret) ho hl hin hse hcode hy hK (by rw [hT]; exact hcB) hoB hclB hg (hsize.trans hml.symm) (argsL := As) (rest := rest) (fun sig h => hn.trans (hlen sig h)) hstack hW (by rw [hb]; exact hdg)
    (fun vm₁ hW₁ => ⟨hf.1, hf.2, hPc (T.setVm vm₁) hT hW₁⟩)
  dsimp only [Pt.U, Pt.locs, Pt.cells, Pt.slots] at X' e1 e2 h1 h2 h3 st
  subst h1; subst h2; subst h3
  exact ⟨v, (T.setVm vm₁).calling g' mk (Value.ref b :: As).toArray, t, U', L, hT, X', hL, e1, e2, hq, st⟩
section
variable {y : MethodName} {bytes cc : ByteArray} {maxL nL mc ms n index : Nat} {ret : Option FieldType} {ws : List Cond} {rm : Room} {Pc : Array Value → State → Prop} {Qc : Array Value → State → Outcome → State → Prop} {XC : String → State → State → Prop} {free : Addr → Prop} {Ts : List Cond} {own C : String} {b : Addr} {As rest : List Value} {g : JFrame}
theorem vx_runVX {hh : List (Nat × Nat × Nat × Nat)} (S : CallFix p m c cc nL s args Ts own) (hM : vx_Met l y ws rm Pc Qc XC mc ms free) (cw : vx_CVW R s args own C index y bytes maxL ret hh ws rm mc ms n) (hp : PreV s H C b Pc As)
    (hg : g.method = m) (hn : As.length = n) (hsize : g.locals.size = nL) (hstack : g.stack = As.reverse ++ .ref b :: rest) (hW : 2 * g.monitorRoom + (rest.map fun v => v.category).sum ≤ 8) (hdg : decode cc g.pc = .ok (.invokevirtual index, 3)) (hf : cells + mc ≤ R.cells ∧ slots + ms ≤ R.slots) :
    vx_Run p l e R s m args below meth c H locs cells slots mc ms g rest (Qc (Value.ref b :: As).toArray) XC free := by
  obtain ⟨⟨hrc, hrs, hfr, hlo, hws, hcw⟩, hcode, hini, hy, hlen, hl, hin, hse⟩ := cw
  have hK : vx_Back l R p e below s args y 3 8 (PreOf R mc ms Pc) (PostOf Qc mc ms free) (vx_Post XC mc ms free) := vx_backW (hh := hh) (bytes := bytes) (maxL := maxL) (ret := ret) hM hp.1 hrc hrs hfr hlo hws hcw (fun a' U hW => word_at hW (Or.inl (by first | rfl | simp [Cond.onTables, Cond.keeps, Cond.steady])) hini)
  obtain ⟨hx, hb, hml, ho, -⟩ := S
  obtain ⟨-, ⟨cellB, hcB, hoB, hclB⟩, hPc⟩ := hp
  intro T hT X
  rcases vx_callVX X hx (C := C) (hh := hh) (bytes := bytes) (maxL := maxL) (ret := ret) ho hl hin hse hcode hy hK (by rw [hT]; exact hcB) hoB hclB hg (hsize.trans hml.symm) (argsL := As) (rest := rest) (fun sig h => hn.trans (hlen sig h)) hstack hW (by rw [hb]; exact hdg)
    (fun vm₁ hW₁ => ⟨hf.1, hf.2, hPc (T.setVm vm₁) hT hW₁⟩) with ⟨v, vm₁, ⟨U', l2, c2, s2⟩, hW₁, X', ⟨g', mk, t, L, e1, e2, hq, h1, hL, h2, h3⟩, st⟩ | ⟨q, vm₁, ⟨U', l2, c2, s2⟩, hW₁, X', ⟨g', mk, t, L, E, ce, e1, e2, hq, hce, hcv, hcl, h1, hL, h2, h3⟩, st⟩
  · dsimp only [Pt.U, Pt.locs, Pt.cells, Pt.slots] at X' e1 e2 h1 h2 h3 st
    subst h1; subst h2; subst h3
    exact Or.inl ⟨v, (T.setVm vm₁).calling g' mk (Value.ref b :: As).toArray, t, U', L, hT, X', hL, e1, e2, hq, st⟩
  · dsimp only [Pt.U, Pt.locs, Pt.cells, Pt.slots] at X' e1 e2 h1 h2 h3 st hcl
    subst h1; subst h2; subst h3
    exact Or.inr ⟨q, (T.setVm vm₁).calling g' mk (Value.ref b :: As).toArray, t, U', L, E, ce, hT, X', hL, e1, e2, hq, hce, hcv, vx_cls hW₁ hcl, st⟩
theorem vx_runSX {hh : List (Nat × Nat × Nat × Nat)} (S : CallFix p m c cc nL s args Ts own) (hM : vx_Met l y ws rm Pc Qc XC mc ms free) (cw : vx_CSW R s args own index y bytes maxL ret hh ws rm mc ms n) (hp : PreS s H Pc As)
    (hg : g.method = m) (hn : As.length = n) (hsize : g.locals.size = nL) (hstack : g.stack = As.reverse ++ rest) (hW : 2 * g.monitorRoom + (rest.map fun v => v.category).sum ≤ 8) (hdg : decode cc g.pc = .ok (.invokestatic index, 3)) (hf : cells + mc ≤ R.cells ∧ slots + ms ≤ R.slots) :
    vx_Run p l e R s m args below meth c H locs cells slots mc ms g rest (Qc As.toArray) XC free := by
  obtain ⟨⟨hrc, hrs, hfr, hlo, hws, hcw⟩, hcode, hini, hy, hlen, hl, hstt⟩ := cw
  have hK : vx_Back l R p e below s args y 3 8 (PreOf R mc ms Pc) (PostOf Qc mc ms free) (vx_Post XC mc ms free) := vx_backW (hh := hh) (bytes := bytes) (maxL := maxL) (ret := ret) hM hp.1 hrc hrs hfr hlo hws hcw (fun a' U hW => word_at hW (Or.inl (by first | rfl | simp [Cond.onTables, Cond.keeps, Cond.steady])) hini)
  obtain ⟨hx, hb, hml, ho, -⟩ := S
  intro T hT X
  rcases vx_callSX X hx (hh := hh) (bytes := bytes) (maxL := maxL) (ret := ret) ho hl hstt hini hcode hy hK hg (hsize.trans hml.symm) (argsL := As) (rest := rest) (fun sig h => hn.trans (hlen sig h)) hstack hW (by rw [hb]; exact hdg)
    (fun vm₁ hW₁ => ⟨hf.1, hf.2, hp.2 (T.setVm vm₁) hT hW₁⟩) with ⟨v, vm₁, ⟨U', l2, c2, s2⟩, hW₁, X', ⟨g', mk, t, L, e1, e2, hq, h1, hL, h2, h3⟩, st⟩ | ⟨q, vm₁, ⟨U', l2, c2, s2⟩, hW₁, X', ⟨g', mk, t, L, E, ce, e1, e2, hq, hce, hcv, hcl, h1, hL, h2, h3⟩, st⟩
  · dsimp only [Pt.U, Pt.locs, Pt.cells, Pt.slots] at X' e1 e2 h1 h2 h3 st
    subst h1; subst h2; subst h3
    exact Or.inl ⟨v, (T.setVm vm₁).calling g' mk As.toArray, t, U', L, hT, X', hL, e1, e2, hq, st⟩
  · dsimp only [Pt.U, Pt.locs, Pt.cells, Pt.slots] at X' e1 e2 h1 h2 h3 st hcl
    subst h1; subst h2; subst h3
    exact Or.inr ⟨q, (T.setVm vm₁).calling g' mk As.toArray, t, U', L, E, ce, hT, X', hL, e1, e2, hq, hce, hcv, vx_cls hW₁ hcl, st⟩
end
end VXH
theorem vx_ofWH {l : Launch} {y : MethodName} {ws ws' : List Cond} {rm : Room} {Pc : Array Value → State → Prop} {Qc : Array Value → State → Outcome → State → Prop} {XC : String → State → State → Prop} {mc ms : Nat} {free : Addr → Prop} {cc : ByteArray} {maxL : Nat} {ret : Option FieldType} {hh : List (Nat × Nat × Nat × Nat)}
    (hy : plainName y.cls = true) (hw : ws = Cond.codeWith y cc maxL ret hh :: ws')
    (body : ∀ p e s m args below meth c s₁, BodyLoose p l y (headSpec ws rm) cc maxL ret e s m args below meth c s₁ → c.maxLocals = maxL → Pc args s →
      W p l e (headSpec ws rm).room s m args below meth c s.heap [] 0 0 (vx_MQ below Qc XC args s mc ms free) (entryFrame m args maxL)) : vx_Met l y ws rm Pc Qc XC mc ms free := by
  refine MetFree.of_bodyS (code := cc) (maxLocals := maxL) (ret := ret) hy ?_ ?_
  · intro args s m h hn
    obtain ⟨m9, meth, c, hn9, h1, h2, h3, h4, -, h5, h6, -⟩ := Cond.codeWith_spec (atoms_spec (ws := ws) h _ (by rw [hw]; exact List.mem_cons_self))
    cases hn.symm.trans hn9
    exact ⟨meth, c, h1, h2, h3, h4, h5, h6⟩
  · intro p e s m args below meth c s₁ B hml hP _
    have hh0 : s₁.heap = s.heap := by rw [B.state]; rfl
    obtain ⟨t, a1, o, b1, b2, b3⟩ := body p e s m args below meth c s₁ B hml hP s₁ hh0 (Stand.of_body B)
    exact ⟨t, o, a1, b1, b2, b3⟩
/-! ===== END ===== -/

def RX0 : String := "SquareStream"
def RX1 : String := "SquareStreamModel"
def RJ : String := "java/util/Arrays"
def RL : String := "SquareStreamLaw"
def TX0 : u_T := fun k => match k with
  | 0 => ("SquareStream", "rowInts", "[I", true)
  | 1 => ("SquareStream", "vectorInts", "[I", true)
  | 2 => ("SquareStream", "resultInts", "[I", true)
  | 3 => ("SquareStream", "isFresh", "[Z", true)
  | 4 => ("SquareStream", "entryCycles", "[I", true)
  | 5 => ("SquareStream", "enteredAgo", "[I", true)
  | 6 => ("SquareStream", "inputs", "[I", true)
  | 7 => ("SquareStream", "sums", "[I", true)
  | 8 => ("SquareStream", "factors", "[I", true)
  | 9 => ("SquareStream", "nexts", "[I", true)
  | 10 => ("SquareStream", "marks", "[Z", true)
  | 11 => ("SquareStream", "side", "I", false)
  | 12 => ("SquareStream", "cycles", "I", false)
  | 13 => ("SquareStream", "rowsCome", "I", false)
  | 14 => ("SquareStream", "rowsIn", "I", false)
  | 15 => ("SquareStream", "rowsOfSet", "I", false)
  | 16 => ("SquareStream", "vectorsCome", "I", false)
  | 17 => ("SquareStream", "vectorsIn", "I", false)
  | 18 => ("SquareStream", "freshIn", "I", false)
  | _ => ("SquareStream", "latestFreshCycle", "I", false)
def tyX0 : Nat → FieldType := fun k => match k with
  | 0 => .array .int
  | 1 => .array .int
  | 2 => .array .int
  | 3 => .array .boolean
  | 4 => .array .int
  | 5 => .array .int
  | 6 => .array .int
  | 7 => .array .int
  | 8 => .array .int
  | 9 => .array .int
  | 10 => .array .boolean
  | 11 => .int
  | 12 => .int
  | 13 => .int
  | 14 => .int
  | 15 => .int
  | 16 => .int
  | 17 => .int
  | 18 => .int
  | _ => .int
theorem nmX0 : ∀ a, a < 20 → ∀ b, b < 20 → a ≠ b → (TX0 a).2.1 ≠ (TX0 b).2.1 := by decide +kernel
theorem tyX0_ok : ∀ k, k < 20 → parseFieldDescriptor (TX0 k).2.2.1 = some (tyX0 k) := by decide +kernel
def TX1 : u_T := fun k => match k with
  | 0 => ("SquareStreamModel", "thrown", "I", false)
  | 1 => ("SquareStreamModel", "side", "I", false)
  | 2 => ("SquareStreamModel", "cycles", "I", false)
  | 3 => ("SquareStreamModel", "rows", "I", false)
  | 4 => ("SquareStreamModel", "let", "I", false)
  | 5 => ("SquareStreamModel", "ofSet", "I", false)
  | 6 => ("SquareStreamModel", "complete", "Z", false)
  | 7 => ("SquareStreamModel", "row", "[I", true)
  | 8 => ("SquareStreamModel", "vectors", "I", false)
  | 9 => ("SquareStreamModel", "gone", "I", false)
  | 10 => ("SquareStreamModel", "freshOnes", "I", false)
  | 11 => ("SquareStreamModel", "latest", "I", false)
  | 12 => ("SquareStreamModel", "element", "[I", true)
  | 13 => ("SquareStreamModel", "fresh", "[Z", true)
  | 14 => ("SquareStreamModel", "at", "[I", true)
  | 15 => ("SquareStreamModel", "results", "[I", true)
  | 16 => ("SquareStreamModel", "recent", "[I", true)
  | 17 => ("SquareStreamModel", "input", "[I", true)
  | 18 => ("SquareStreamModel", "sum", "[I", true)
  | 19 => ("SquareStreamModel", "weight", "[I", true)
  | 20 => ("SquareStreamModel", "next", "[I", true)
  | 21 => ("SquareStreamModel", "mark", "[Z", true)
  | _ => ("SquareStreamModel", "real", "[Z", true)
def tyX1 : Nat → FieldType := fun k => match k with
  | 0 => .int
  | 1 => .int
  | 2 => .int
  | 3 => .int
  | 4 => .int
  | 5 => .int
  | 6 => .boolean
  | 7 => .array .int
  | 8 => .int
  | 9 => .int
  | 10 => .int
  | 11 => .int
  | 12 => .array .int
  | 13 => .array .boolean
  | 14 => .array .int
  | 15 => .array .int
  | 16 => .array .int
  | 17 => .array .int
  | 18 => .array .int
  | 19 => .array .int
  | 20 => .array .int
  | 21 => .array .boolean
  | _ => .array .boolean
theorem nmX1 : ∀ a, a < 23 → ∀ b, b < 23 → a ≠ b → (TX1 a).2.1 ≠ (TX1 b).2.1 := by decide +kernel
theorem tyX1_ok : ∀ k, k < 23 → parseFieldDescriptor (TX1 k).2.2.1 = some (tyX1 k) := by decide +kernel
abbrev vwCl : List vw_C := [(RX0, TX0, 20), (RX1, TX1, 23)]
/-- all words of the tables that a call may carry -/
def sq_W : List Cond := lw_tbl.filter goodWord
theorem sq_inT {w : Cond} (h : w ∈ lw_tbl) (g : goodWord w = true) : w ∈ sq_W := List.mem_filter.mpr ⟨h, g⟩
theorem sq_in1 {w : Cond} (k : Nat) (h : tables_1_1[k]? = some w) (g : goodWord w = true) : w ∈ sq_W := sq_inT (List.mem_append_right _ (List.mem_append_left _ (List.mem_of_getElem? h))) g
theorem sq_in2 {w : Cond} (k : Nat) (h : tables_1_2[k]? = some w) (g : goodWord w = true) : w ∈ sq_W := sq_inT (List.mem_append_right _ (List.mem_append_right _ (List.mem_append_left _ (List.mem_of_getElem? h)))) g
theorem sq_in3 {w : Cond} (k : Nat) (h : tables_1_3[k]? = some w) (g : goodWord w = true) : w ∈ sq_W := sq_inT (List.mem_append_right _ (List.mem_append_right _ (List.mem_append_right _ (List.mem_of_getElem? h)))) g
theorem sq_in0 {w : Cond} (k : Nat) (h : (k2_sels lw_privs)[k]? = some w) (g : goodWord w = true) : w ∈ sq_W := sq_inT (List.mem_append_left _ (List.mem_of_getElem? h)) g
theorem sq_goodW {w : Cond} (h : w ∈ sq_W) : w ∈ lw_tbl ∧ ((w.onTables && w.keeps) = true ∨ ∃ ty, w = .arrayClass ty) := ⟨(List.mem_filter.mp h).1, good_of_word (List.mem_filter.mp h).2⟩
theorem sq_good {c : Cond} {ws : List Cond} (h : ∀ w ∈ ws, w ∈ sq_W) : GoodIn (c :: sq_W) ws := fun w hw => ⟨List.mem_cons_of_mem _ (h w hw), (sq_goodW (h w hw)).2⟩
theorem sq_goodL {ws : List Cond} (h : ∀ w ∈ ws, w ∈ sq_W) : GoodIn lw_tbl ws := fun w hw => sq_goodW (h w hw)
theorem sq_c {w : Cond} {ws : List Cond} (h : w ∈ sq_W) (t : ∀ w ∈ ws, w ∈ sq_W) : ∀ w' ∈ w :: ws, w' ∈ sq_W := fun w' h' => (List.mem_cons.mp h').elim (fun e => by rw [e]; exact h) (t w')
theorem sq_id : ∀ w ∈ sq_W, w ∈ sq_W := fun _ h => h
abbrev cX0_init : ByteArray := prog_1_method_1_code
def yX0_init : MethodName := ⟨RX0, "<init>", "()V"⟩
def wsX0_init : List Cond := .code yX0_init cX0_init 1 none :: sq_W
theorem mcX0_init : Cond.code yX0_init cX0_init 1 none ∈ sq_W := sq_in1 15 rfl rfl
abbrev cX0_clearTo : ByteArray := prog_1_method_10_code
def yX0_clearTo : MethodName := ⟨RX0, "clearTo", "(I)V"⟩
def wsX0_clearTo : List Cond := .code yX0_clearTo cX0_clearTo 3 none :: sq_W
theorem mcX0_clearTo : Cond.code yX0_clearTo cX0_clearTo 3 none ∈ sq_W := sq_in1 22 rfl rfl
abbrev cJ_fill : ByteArray := prog_11_method_103_code
def yJ_fill : MethodName := ⟨RJ, "fill", "([II)V"⟩
def wsJ_fill : List Cond := .code yJ_fill cJ_fill 4 none :: sq_W
theorem mcJ_fill : Cond.code yJ_fill cJ_fill 4 none ∈ sq_W := sq_in1 25 rfl rfl
abbrev cL_begin : ByteArray := method_3_code
def yL_begin : MethodName := ⟨RL, "begin", "(LSquareStream;I)I"⟩
def wsL_begin : List Cond := .codeWith yL_begin cL_begin 3 (some .int) [(0, 5, 8, 13)] :: sq_W
theorem mcL_begin : Cond.codeWith yL_begin cL_begin 3 (some .int) [(0, 5, 8, 13)] ∈ sq_W := sq_in1 91 rfl rfl
abbrev cX0_begin : ByteArray := prog_1_method_2_code
def yX0_begin : MethodName := ⟨RX0, "begin", "(I)V"⟩
def wsX0_begin : List Cond := .code yX0_begin cX0_begin 2 none :: sq_W
theorem mcX0_begin : Cond.code yX0_begin cX0_begin 2 none ∈ sq_W := sq_in1 96 rfl rfl
abbrev cL_weights : ByteArray := method_4_code
def yL_weights : MethodName := ⟨RL, "weights", "(LSquareStream;IIIIII[J)I"⟩
def wsL_weights : List Cond := .codeWith yL_weights cL_weights 9 (some .int) [(0, 18, 21, 19)] :: sq_W
theorem mcL_weights : Cond.codeWith yL_weights cL_weights 9 (some .int) [(0, 18, 21, 19)] ∈ sq_W := sq_in1 168 rfl rfl
abbrev cX0_weights : ByteArray := prog_1_method_3_code
def yX0_weights : MethodName := ⟨RX0, "weights", "(IIIIII)I"⟩
def wsX0_weights : List Cond := .code yX0_weights cX0_weights 9 (some .int) :: sq_W
theorem mcX0_weights : Cond.code yX0_weights cX0_weights 9 (some .int) ∈ sq_W := sq_in1 173 rfl rfl
abbrev cL_vector : ByteArray := method_5_code
def yL_vector : MethodName := ⟨RL, "vector", "(LSquareStream;ZIIIIII[J)I"⟩
def wsL_vector : List Cond := .codeWith yL_vector cL_vector 10 (some .int) [(0, 20, 23, 19)] :: sq_W
theorem mcL_vector : Cond.codeWith yL_vector cL_vector 10 (some .int) [(0, 20, 23, 19)] ∈ sq_W := sq_in1 192 rfl rfl
abbrev cX0_vector : ByteArray := prog_1_method_4_code
def yX0_vector : MethodName := ⟨RX0, "vector", "(ZIIIIII)I"⟩
def wsX0_vector : List Cond := .code yX0_vector cX0_vector 10 (some .int) :: sq_W
theorem mcX0_vector : Cond.code yX0_vector cX0_vector 10 (some .int) ∈ sq_W := sq_in1 196 rfl rfl
abbrev cL_cycle : ByteArray := method_6_code
def yL_cycle : MethodName := ⟨RL, "cycle", "(LSquareStream;I[J)I"⟩
def wsL_cycle : List Cond := .codeWith yL_cycle cL_cycle 4 (some .int) [(0, 9, 12, 13)] :: sq_W
theorem mcL_cycle : Cond.codeWith yL_cycle cL_cycle 4 (some .int) [(0, 9, 12, 13)] ∈ sq_W := sq_in1 200 rfl rfl
abbrev cX0_cycle : ByteArray := prog_1_method_5_code
def yX0_cycle : MethodName := ⟨RX0, "cycle", "(I)I"⟩
def wsX0_cycle : List Cond := .code yX0_cycle cX0_cycle 4 (some .int) :: sq_W
theorem mcX0_cycle : Cond.code yX0_cycle cX0_cycle 4 (some .int) ∈ sq_W := sq_in1 204 rfl rfl
abbrev cX0_isAtRest : ByteArray := prog_1_method_14_code
def yX0_isAtRest : MethodName := ⟨RX0, "isAtRest", "()Z"⟩
def wsX0_isAtRest : List Cond := .code yX0_isAtRest cX0_isAtRest 1 (some .boolean) :: sq_W
theorem mcX0_isAtRest : Cond.code yX0_isAtRest cX0_isAtRest 1 (some .boolean) ∈ sq_W := sq_in1 210 rfl rfl
abbrev cX0_canVectorEnter : ByteArray := prog_1_method_16_code
def yX0_canVectorEnter : MethodName := ⟨RX0, "canVectorEnter", "()Z"⟩
def wsX0_canVectorEnter : List Cond := .code yX0_canVectorEnter cX0_canVectorEnter 1 (some .boolean) :: sq_W
theorem mcX0_canVectorEnter : Cond.code yX0_canVectorEnter cX0_canVectorEnter 1 (some .boolean) ∈ sq_W := sq_in1 214 rfl rfl
abbrev cX0_isSetComplete : ByteArray := prog_1_method_15_code
def yX0_isSetComplete : MethodName := ⟨RX0, "isSetComplete", "()Z"⟩
def wsX0_isSetComplete : List Cond := .code yX0_isSetComplete cX0_isSetComplete 1 (some .boolean) :: sq_W
theorem mcX0_isSetComplete : Cond.code yX0_isSetComplete cX0_isSetComplete 1 (some .boolean) ∈ sq_W := sq_in1 218 rfl rfl
abbrev cX0_canRowComeIn : ByteArray := prog_1_method_17_code
def yX0_canRowComeIn : MethodName := ⟨RX0, "canRowComeIn", "(I)Z"⟩
def wsX0_canRowComeIn : List Cond := .code yX0_canRowComeIn cX0_canRowComeIn 2 (some .boolean) :: sq_W
theorem mcX0_canRowComeIn : Cond.code yX0_canRowComeIn cX0_canRowComeIn 2 (some .boolean) ∈ sq_W := sq_in1 222 rfl rfl
abbrev cX0_crossing : ByteArray := prog_1_method_13_code
def yX0_crossing : MethodName := ⟨RX0, "crossing", "()I"⟩
def wsX0_crossing : List Cond := .code yX0_crossing cX0_crossing 1 (some .int) :: sq_W
theorem mcX0_crossing : Cond.code yX0_crossing cX0_crossing 1 (some .int) ∈ sq_W := sq_in1 226 rfl rfl
abbrev cX0_countReachedCells : ByteArray := prog_1_method_18_code
def yX0_countReachedCells : MethodName := ⟨RX0, "countReachedCells", "()I"⟩
def wsX0_countReachedCells : List Cond := .code yX0_countReachedCells cX0_countReachedCells 4 (some .int) :: sq_W
theorem mcX0_countReachedCells : Cond.code yX0_countReachedCells cX0_countReachedCells 4 (some .int) ∈ sq_W := sq_in1 230 rfl rfl
abbrev cX0_runCycle : ByteArray := prog_1_method_19_code
def yX0_runCycle : MethodName := ⟨RX0, "runCycle", "()V"⟩
def wsX0_runCycle : List Cond := .code yX0_runCycle cX0_runCycle 1 none :: sq_W
theorem mcX0_runCycle : Cond.code yX0_runCycle cX0_runCycle 1 none ∈ sq_W := sq_in1 234 rfl rfl
abbrev cX0_ageEntries : ByteArray := prog_1_method_20_code
def yX0_ageEntries : MethodName := ⟨RX0, "ageEntries", "()V"⟩
def wsX0_ageEntries : List Cond := .code yX0_ageEntries cX0_ageEntries 2 none :: sq_W
theorem mcX0_ageEntries : Cond.code yX0_ageEntries cX0_ageEntries 2 none ∈ sq_W := sq_in1 238 rfl rfl
abbrev cX0_enterVector : ByteArray := prog_1_method_21_code
def yX0_enterVector : MethodName := ⟨RX0, "enterVector", "()V"⟩
def wsX0_enterVector : List Cond := .code yX0_enterVector cX0_enterVector 2 none :: sq_W
theorem mcX0_enterVector : Cond.code yX0_enterVector cX0_enterVector 2 none ∈ sq_W := sq_in2 2 rfl rfl
abbrev cX0_letRowIn : ByteArray := prog_1_method_22_code
def yX0_letRowIn : MethodName := ⟨RX0, "letRowIn", "()V"⟩
def wsX0_letRowIn : List Cond := .code yX0_letRowIn cX0_letRowIn 3 none :: sq_W
theorem mcX0_letRowIn : Cond.code yX0_letRowIn cX0_letRowIn 3 none ∈ sq_W := sq_in2 6 rfl rfl
abbrev cX0_goOn : ByteArray := prog_1_method_23_code
def yX0_goOn : MethodName := ⟨RX0, "goOn", "()V"⟩
def wsX0_goOn : List Cond := .code yX0_goOn cX0_goOn 4 none :: sq_W
theorem mcX0_goOn : Cond.code yX0_goOn cX0_goOn 4 none ∈ sq_W := sq_in2 10 rfl rfl
abbrev cX0_advance : ByteArray := prog_1_method_25_code
def yX0_advance : MethodName := ⟨RX0, "advance", "(IIIZ)V"⟩
def wsX0_advance : List Cond := .code yX0_advance cX0_advance 6 none :: sq_W
theorem mcX0_advance : Cond.code yX0_advance cX0_advance 6 none ∈ sq_W := sq_in2 14 rfl rfl
abbrev cX0_feed : ByteArray := prog_1_method_24_code
def yX0_feed : MethodName := ⟨RX0, "feed", "(I)V"⟩
def wsX0_feed : List Cond := .code yX0_feed cX0_feed 3 none :: sq_W
theorem mcX0_feed : Cond.code yX0_feed cX0_feed 3 none ∈ sq_W := sq_in2 18 rfl rfl
abbrev cX0_keepResults : ByteArray := prog_1_method_26_code
def yX0_keepResults : MethodName := ⟨RX0, "keepResults", "()V"⟩
def wsX0_keepResults : List Cond := .code yX0_keepResults cX0_keepResults 4 none :: sq_W
theorem mcX0_keepResults : Cond.code yX0_keepResults cX0_keepResults 4 none ∈ sq_W := sq_in2 22 rfl rfl
abbrev cL_cell : ByteArray := method_7_code
def yL_cell : MethodName := ⟨RL, "cell", "(LSquareStream;III[J)I"⟩
def wsL_cell : List Cond := .codeWith yL_cell cL_cell 6 (some .int) [(0, 12, 15, 33), (0, 12, 19, 13)] :: sq_W
theorem mcL_cell : Cond.codeWith yL_cell cL_cell 6 (some .int) [(0, 12, 15, 33), (0, 12, 19, 13)] ∈ sq_W := sq_in2 25 rfl rfl
abbrev cX0_cell : ByteArray := prog_1_method_6_code
def yX0_cell : MethodName := ⟨RX0, "cell", "(III)I"⟩
def wsX0_cell : List Cond := .code yX0_cell cX0_cell 5 (some .int) :: sq_W
theorem mcX0_cell : Cond.code yX0_cell cX0_cell 5 (some .int) ∈ sq_W := sq_in2 30 rfl rfl
abbrev cX0_isInSquare : ByteArray := prog_1_method_11_code
def yX0_isInSquare : MethodName := ⟨RX0, "isInSquare", "(I)Z"⟩
def wsX0_isInSquare : List Cond := .code yX0_isInSquare cX0_isInSquare 2 (some .boolean) :: sq_W
theorem mcX0_isInSquare : Cond.code yX0_isInSquare cX0_isInSquare 2 (some .boolean) ∈ sq_W := sq_in2 34 rfl rfl
abbrev cL_entered : ByteArray := method_8_code
def yL_entered : MethodName := ⟨RL, "entered", "(LSquareStream;I[J)I"⟩
def wsL_entered : List Cond := .codeWith yL_entered cL_entered 4 (some .int) [(0, 9, 12, 33)] :: sq_W
theorem mcL_entered : Cond.codeWith yL_entered cL_entered 4 (some .int) [(0, 9, 12, 33)] ∈ sq_W := sq_in2 54 rfl rfl
abbrev cX0_entered : ByteArray := prog_1_method_7_code
def yX0_entered : MethodName := ⟨RX0, "entered", "(I)I"⟩
def wsX0_entered : List Cond := .code yX0_entered cX0_entered 2 (some .int) :: sq_W
theorem mcX0_entered : Cond.code yX0_entered cX0_entered 2 (some .int) ∈ sq_W := sq_in2 58 rfl rfl
abbrev cX0_isVector : ByteArray := prog_1_method_12_code
def yX0_isVector : MethodName := ⟨RX0, "isVector", "(I)Z"⟩
def wsX0_isVector : List Cond := .code yX0_isVector cX0_isVector 2 (some .boolean) :: sq_W
theorem mcX0_isVector : Cond.code yX0_isVector cX0_isVector 2 (some .boolean) ∈ sq_W := sq_in2 62 rfl rfl
abbrev cL_result : ByteArray := method_9_code
def yL_result : MethodName := ⟨RL, "result", "(LSquareStream;II[J)I"⟩
def wsL_result : List Cond := .codeWith yL_result cL_result 5 (some .int) [(0, 10, 13, 33), (0, 10, 17, 42)] :: sq_W
theorem mcL_result : Cond.codeWith yL_result cL_result 5 (some .int) [(0, 10, 13, 33), (0, 10, 17, 42)] ∈ sq_W := sq_in2 66 rfl rfl
abbrev cX0_result : ByteArray := prog_1_method_8_code
def yX0_result : MethodName := ⟨RX0, "result", "(II)I"⟩
def wsX0_result : List Cond := .code yX0_result cX0_result 3 (some .int) :: sq_W
theorem mcX0_result : Cond.code yX0_result cX0_result 3 (some .int) ∈ sq_W := sq_in2 71 rfl rfl
abbrev cL_about : ByteArray := method_10_code
def yL_about : MethodName := ⟨RL, "about", "(LSquareStream;I[J)I"⟩
def wsL_about : List Cond := .codeWith yL_about cL_about 4 (some .int) [(0, 9, 12, 13)] :: sq_W
theorem mcL_about : Cond.codeWith yL_about cL_about 4 (some .int) [(0, 9, 12, 13)] ∈ sq_W := sq_in2 91 rfl rfl
abbrev cX0_about : ByteArray := prog_1_method_9_code
def yX0_about : MethodName := ⟨RX0, "about", "(I)I"⟩
def wsX0_about : List Cond := .code yX0_about cX0_about 2 (some .int) :: sq_W
theorem mcX0_about : Cond.code yX0_about cX0_about 2 (some .int) ∈ sq_W := sq_in2 95 rfl rfl
abbrev cX1_init : ByteArray := prog_3_method_1_code
def yX1_init : MethodName := ⟨RX1, "<init>", "()V"⟩
def wsX1_init : List Cond := .code yX1_init cX1_init 1 none :: sq_W
theorem mcX1_init : Cond.code yX1_init cX1_init 1 none ∈ sq_W := sq_in2 101 rfl rfl
abbrev cX1_clear : ByteArray := prog_3_method_5_code
def yX1_clear : MethodName := ⟨RX1, "clear", "()V"⟩
def wsX1_clear : List Cond := .code yX1_clear cX1_clear 2 none :: sq_W
theorem mcX1_clear : Cond.code yX1_clear cX1_clear 2 none ∈ sq_W := sq_in2 106 rfl rfl
abbrev cX1_thrown : ByteArray := prog_3_method_2_code
def yX1_thrown : MethodName := ⟨RX1, "thrown", "()I"⟩
def wsX1_thrown : List Cond := .code yX1_thrown cX1_thrown 1 (some .int) :: sq_W
theorem mcX1_thrown : Cond.code yX1_thrown cX1_thrown 1 (some .int) ∈ sq_W := sq_in2 180 rfl rfl
abbrev cX1_begin : ByteArray := prog_3_method_6_code
def yX1_begin : MethodName := ⟨RX1, "begin", "(I)V"⟩
def wsX1_begin : List Cond := .code yX1_begin cX1_begin 2 none :: sq_W
theorem mcX1_begin : Cond.code yX1_begin cX1_begin 2 none ∈ sq_W := sq_in2 184 rfl rfl
abbrev cX1_in_ : ByteArray := prog_3_method_4_code
def yX1_in_ : MethodName := ⟨RX1, "in", "(III)Z"⟩
def wsX1_in_ : List Cond := .code yX1_in_ cX1_in_ 3 (some .boolean) :: sq_W
theorem mcX1_in_ : Cond.code yX1_in_ cX1_in_ 3 (some .boolean) ∈ sq_W := sq_in2 187 rfl rfl
abbrev cX1_refuse : ByteArray := prog_3_method_3_code
def yX1_refuse : MethodName := ⟨RX1, "refuse", "(ZZ)Z"⟩
def wsX1_refuse : List Cond := .code yX1_refuse cX1_refuse 3 (some .boolean) :: sq_W
theorem mcX1_refuse : Cond.code yX1_refuse cX1_refuse 3 (some .boolean) ∈ sq_W := sq_in2 191 rfl rfl
abbrev cX1_weights : ByteArray := prog_3_method_8_code
def yX1_weights : MethodName := ⟨RX1, "weights", "(IIIIII)I"⟩
def wsX1_weights : List Cond := .code yX1_weights cX1_weights 7 (some .int) :: sq_W
theorem mcX1_weights : Cond.code yX1_weights cX1_weights 7 (some .int) ∈ sq_W := sq_in2 195 rfl rfl
abbrev cX1_six : ByteArray := prog_3_method_7_code
def yX1_six : MethodName := ⟨RX1, "six", "([IIIIIIII)V"⟩
def wsX1_six : List Cond := .code yX1_six cX1_six 8 none :: sq_W
theorem mcX1_six : Cond.code yX1_six cX1_six 8 none ∈ sq_W := sq_in2 198 rfl rfl
abbrev cX1_vector : ByteArray := prog_3_method_9_code
def yX1_vector : MethodName := ⟨RX1, "vector", "(ZIIIIII)I"⟩
def wsX1_vector : List Cond := .code yX1_vector cX1_vector 8 (some .int) :: sq_W
theorem mcX1_vector : Cond.code yX1_vector cX1_vector 8 (some .int) ∈ sq_W := sq_in2 202 rfl rfl
abbrev cX1_cycle : ByteArray := prog_3_method_14_code
def yX1_cycle : MethodName := ⟨RX1, "cycle", "(I)I"⟩
def wsX1_cycle : List Cond := .code yX1_cycle cX1_cycle 3 (some .int) :: sq_W
theorem mcX1_cycle : Cond.code yX1_cycle cX1_cycle 3 (some .int) ∈ sq_W := sq_in2 206 rfl rfl
abbrev cX1_enter : ByteArray := prog_3_method_10_code
def yX1_enter : MethodName := ⟨RX1, "enter", "()V"⟩
def wsX1_enter : List Cond := .code yX1_enter cX1_enter 2 none :: sq_W
theorem mcX1_enter : Cond.code yX1_enter cX1_enter 2 none ∈ sq_W := sq_in2 211 rfl rfl
abbrev cX1_letIn : ByteArray := prog_3_method_11_code
def yX1_letIn : MethodName := ⟨RX1, "letIn", "()V"⟩
def wsX1_letIn : List Cond := .code yX1_letIn cX1_letIn 4 none :: sq_W
theorem mcX1_letIn : Cond.code yX1_letIn cX1_letIn 4 none ∈ sq_W := sq_in2 215 rfl rfl
abbrev cX1_goOn : ByteArray := prog_3_method_13_code
def yX1_goOn : MethodName := ⟨RX1, "goOn", "()V"⟩
def wsX1_goOn : List Cond := .code yX1_goOn cX1_goOn 4 none :: sq_W
theorem mcX1_goOn : Cond.code yX1_goOn cX1_goOn 4 none ∈ sq_W := sq_in2 219 rfl rfl
abbrev cX1_enteredAgo : ByteArray := prog_3_method_12_code
def yX1_enteredAgo : MethodName := ⟨RX1, "enteredAgo", "(I)I"⟩
def wsX1_enteredAgo : List Cond := .code yX1_enteredAgo cX1_enteredAgo 2 (some .int) :: sq_W
theorem mcX1_enteredAgo : Cond.code yX1_enteredAgo cX1_enteredAgo 2 (some .int) ∈ sq_W := sq_in2 223 rfl rfl
abbrev cX1_cell : ByteArray := prog_3_method_15_code
def yX1_cell : MethodName := ⟨RX1, "cell", "(III)I"⟩
def wsX1_cell : List Cond := .code yX1_cell cX1_cell 6 (some .int) :: sq_W
theorem mcX1_cell : Cond.code yX1_cell cX1_cell 6 (some .int) ∈ sq_W := sq_in2 227 rfl rfl
abbrev cX1_entered : ByteArray := prog_3_method_16_code
def yX1_entered : MethodName := ⟨RX1, "entered", "(I)I"⟩
def wsX1_entered : List Cond := .code yX1_entered cX1_entered 2 (some .int) :: sq_W
theorem mcX1_entered : Cond.code yX1_entered cX1_entered 2 (some .int) ∈ sq_W := sq_in2 231 rfl rfl
abbrev cX1_result : ByteArray := prog_3_method_17_code
def yX1_result : MethodName := ⟨RX1, "result", "(II)I"⟩
def wsX1_result : List Cond := .code yX1_result cX1_result 5 (some .int) :: sq_W
theorem mcX1_result : Cond.code yX1_result cX1_result 5 (some .int) ∈ sq_W := sq_in2 235 rfl rfl
abbrev cX1_about : ByteArray := prog_3_method_18_code
def yX1_about : MethodName := ⟨RX1, "about", "(I)I"⟩
def wsX1_about : List Cond := .code yX1_about cX1_about 4 (some .int) :: sq_W
theorem mcX1_about : Cond.code yX1_about cX1_about 4 (some .int) ∈ sq_W := sq_in2 239 rfl rfl
abbrev cL_law : ByteArray := code
def yL_law : MethodName := ⟨RL, "law", "([I)Z"⟩
theorem mt_L : Cond.initialized RL ∈ sq_W := sq_in1 0 rfl rfl
theorem mt_X0 : Cond.initialized RX0 ∈ sq_W := sq_in1 1 rfl rfl
theorem mt_J : Cond.initialized RJ ∈ sq_W := sq_in1 2 rfl rfl
theorem mt_X1 : Cond.initialized RX1 ∈ sq_W := sq_in1 3 rfl rfl
theorem mt_Throwable : Cond.initialized "java/lang/Throwable" ∈ sq_W := sq_in1 4 rfl rfl
theorem mt_Exception : Cond.initialized "java/lang/Exception" ∈ sq_W := sq_in1 5 rfl rfl
theorem mt_RuntimeException : Cond.initialized "java/lang/RuntimeException" ∈ sq_W := sq_in1 6 rfl rfl
theorem mt_IllegalArgumentException : Cond.initialized "java/lang/IllegalArgumentException" ∈ sq_W := sq_in1 7 rfl rfl
theorem mt_UnsupportedOperationException : Cond.initialized "java/lang/UnsupportedOperationException" ∈ sq_W := sq_in1 8 rfl rfl
theorem mt_IndexOutOfBoundsException : Cond.initialized "java/lang/IndexOutOfBoundsException" ∈ sq_W := sq_in1 9 rfl rfl
theorem mt_NoSuchElementException : Cond.initialized "java/util/NoSuchElementException" ∈ sq_W := sq_in1 10 rfl rfl
theorem mkL_8 : Cond.classLink RL 8 RX0 ∈ sq_W := sq_in1 11 rfl rfl
theorem mq_X0 : Cond.instantiable RX0 20 ∈ sq_W := sq_in1 12 rfl rfl
theorem mlL_47 : Cond.methodLink RL 47 yX0_init ∈ sq_W := sq_in1 13 rfl rfl
theorem miX0_init : Cond.instanceMethod yX0_init ∈ sq_W := sq_in1 14 rfl rfl
theorem moX0_3 : Cond.methodLink RX0 3 objectInit ∈ sq_W := sq_in1 16 rfl rfl
theorem mo_inst : Cond.instanceMethod objectInit ∈ sq_W := sq_in1 17 rfl rfl
theorem mo_code : Cond.code objectInit ⟨#[0xb1]⟩ 1 none ∈ sq_W := sq_in1 18 rfl rfl
theorem mlX0_44 : Cond.methodLink RX0 44 yX0_clearTo ∈ sq_W := sq_in1 19 rfl rfl
theorem miX0_clearTo : Cond.instanceMethod yX0_clearTo ∈ sq_W := sq_in1 21 rfl rfl
theorem mlX0_135 : Cond.methodLink RX0 135 yJ_fill ∈ sq_W := sq_in1 23 rfl rfl
theorem msJ_fill : Cond.static yJ_fill ∈ sq_W := sq_in1 24 rfl rfl
theorem mfX0_9 : Cond.fieldLink RX0 9 "SquareStream" "rowInts" "[I" ∈ sq_W := sq_in1 26 rfl rfl
theorem mfX0_13 : Cond.fieldLink RX0 13 "SquareStream" "vectorInts" "[I" ∈ sq_W := sq_in1 27 rfl rfl
theorem mfX0_16 : Cond.fieldLink RX0 16 "SquareStream" "resultInts" "[I" ∈ sq_W := sq_in1 28 rfl rfl
theorem mfX0_19 : Cond.fieldLink RX0 19 "SquareStream" "isFresh" "[Z" ∈ sq_W := sq_in1 29 rfl rfl
theorem mfX0_23 : Cond.fieldLink RX0 23 "SquareStream" "entryCycles" "[I" ∈ sq_W := sq_in1 30 rfl rfl
theorem mfX0_26 : Cond.fieldLink RX0 26 "SquareStream" "enteredAgo" "[I" ∈ sq_W := sq_in1 31 rfl rfl
theorem mfX0_29 : Cond.fieldLink RX0 29 "SquareStream" "inputs" "[I" ∈ sq_W := sq_in1 32 rfl rfl
theorem mfX0_32 : Cond.fieldLink RX0 32 "SquareStream" "sums" "[I" ∈ sq_W := sq_in1 33 rfl rfl
theorem mfX0_35 : Cond.fieldLink RX0 35 "SquareStream" "factors" "[I" ∈ sq_W := sq_in1 34 rfl rfl
theorem mfX0_38 : Cond.fieldLink RX0 38 "SquareStream" "nexts" "[I" ∈ sq_W := sq_in1 35 rfl rfl
theorem mfX0_41 : Cond.fieldLink RX0 41 "SquareStream" "marks" "[Z" ∈ sq_W := sq_in1 36 rfl rfl
theorem mfX0_124 : Cond.fieldLink RX0 124 "SquareStream" "side" "I" ∈ sq_W := sq_in1 37 rfl rfl
theorem mfX0_70 : Cond.fieldLink RX0 70 "SquareStream" "cycles" "I" ∈ sq_W := sq_in1 38 rfl rfl
theorem mfX0_55 : Cond.fieldLink RX0 55 "SquareStream" "rowsCome" "I" ∈ sq_W := sq_in1 39 rfl rfl
theorem mfX0_112 : Cond.fieldLink RX0 112 "SquareStream" "rowsIn" "I" ∈ sq_W := sq_in1 40 rfl rfl
theorem mfX0_129 : Cond.fieldLink RX0 129 "SquareStream" "rowsOfSet" "I" ∈ sq_W := sq_in1 41 rfl rfl
theorem mfX0_64 : Cond.fieldLink RX0 64 "SquareStream" "vectorsCome" "I" ∈ sq_W := sq_in1 42 rfl rfl
theorem mfX0_98 : Cond.fieldLink RX0 98 "SquareStream" "vectorsIn" "I" ∈ sq_W := sq_in1 43 rfl rfl
theorem mfX0_115 : Cond.fieldLink RX0 115 "SquareStream" "freshIn" "I" ∈ sq_W := sq_in1 44 rfl rfl
theorem mfX0_132 : Cond.fieldLink RX0 132 "SquareStream" "latestFreshCycle" "I" ∈ sq_W := sq_in1 45 rfl rfl
theorem ma_int : Cond.arrayClass .int ∈ sq_W := sq_in1 87 rfl rfl
theorem ma_boolean : Cond.arrayClass .boolean ∈ sq_W := sq_in1 88 rfl rfl
theorem mlL_51 : Cond.methodLink RL 51 yL_begin ∈ sq_W := sq_in1 89 rfl rfl
theorem msL_begin : Cond.static yL_begin ∈ sq_W := sq_in1 90 rfl rfl
theorem mkL_13 : Cond.classLink RL 13 "java/lang/IllegalArgumentException" ∈ sq_W := sq_in1 92 rfl rfl
theorem mlL_7 : Cond.methodLink RL 7 yX0_begin ∈ sq_W := sq_in1 93 rfl rfl
theorem miX0_begin : Cond.instanceMethod yX0_begin ∈ sq_W := sq_in1 94 rfl rfl
theorem mvX0_begin : Cond.selects RX0 yX0_begin yX0_begin ∈ sq_W := sq_in1 95 rfl rfl
theorem mkX0_48 : Cond.classLink RX0 48 "java/lang/IllegalArgumentException" ∈ sq_W := sq_in1 97 rfl rfl
theorem ma_byte : Cond.arrayClass .byte ∈ sq_W := sq_in1 165 rfl rfl
theorem mlL_61 : Cond.methodLink RL 61 yL_weights ∈ sq_W := sq_in1 166 rfl rfl
theorem msL_weights : Cond.static yL_weights ∈ sq_W := sq_in1 167 rfl rfl
theorem mkL_19 : Cond.classLink RL 19 "java/lang/UnsupportedOperationException" ∈ sq_W := sq_in1 169 rfl rfl
theorem mlL_15 : Cond.methodLink RL 15 yX0_weights ∈ sq_W := sq_in1 170 rfl rfl
theorem miX0_weights : Cond.instanceMethod yX0_weights ∈ sq_W := sq_in1 171 rfl rfl
theorem mvX0_weights : Cond.selects RX0 yX0_weights yX0_weights ∈ sq_W := sq_in1 172 rfl rfl
theorem mkX0_59 : Cond.classLink RX0 59 "java/lang/UnsupportedOperationException" ∈ sq_W := sq_in1 174 rfl rfl
theorem mlL_65 : Cond.methodLink RL 65 yL_vector ∈ sq_W := sq_in1 190 rfl rfl
theorem msL_vector : Cond.static yL_vector ∈ sq_W := sq_in1 191 rfl rfl
theorem mlL_21 : Cond.methodLink RL 21 yX0_vector ∈ sq_W := sq_in1 193 rfl rfl
theorem miX0_vector : Cond.instanceMethod yX0_vector ∈ sq_W := sq_in1 194 rfl rfl
theorem mvX0_vector : Cond.selects RX0 yX0_vector yX0_vector ∈ sq_W := sq_in1 195 rfl rfl
theorem mlL_69 : Cond.methodLink RL 69 yL_cycle ∈ sq_W := sq_in1 198 rfl rfl
theorem msL_cycle : Cond.static yL_cycle ∈ sq_W := sq_in1 199 rfl rfl
theorem mlL_25 : Cond.methodLink RL 25 yX0_cycle ∈ sq_W := sq_in1 201 rfl rfl
theorem miX0_cycle : Cond.instanceMethod yX0_cycle ∈ sq_W := sq_in1 202 rfl rfl
theorem mvX0_cycle : Cond.selects RX0 yX0_cycle yX0_cycle ∈ sq_W := sq_in1 203 rfl rfl
theorem mnX0_69 : Cond.constant RX0 69 100000 ∈ sq_W := sq_in1 205 rfl rfl
theorem mlX0_75 : Cond.methodLink RX0 75 yX0_isAtRest ∈ sq_W := sq_in1 207 rfl rfl
theorem miX0_isAtRest : Cond.instanceMethod yX0_isAtRest ∈ sq_W := sq_in1 209 rfl rfl
theorem mlX0_141 : Cond.methodLink RX0 141 yX0_canVectorEnter ∈ sq_W := sq_in1 211 rfl rfl
theorem miX0_canVectorEnter : Cond.instanceMethod yX0_canVectorEnter ∈ sq_W := sq_in1 213 rfl rfl
theorem mlX0_118 : Cond.methodLink RX0 118 yX0_isSetComplete ∈ sq_W := sq_in1 215 rfl rfl
theorem miX0_isSetComplete : Cond.instanceMethod yX0_isSetComplete ∈ sq_W := sq_in1 217 rfl rfl
theorem mlX0_144 : Cond.methodLink RX0 144 yX0_canRowComeIn ∈ sq_W := sq_in1 219 rfl rfl
theorem miX0_canRowComeIn : Cond.instanceMethod yX0_canRowComeIn ∈ sq_W := sq_in1 221 rfl rfl
theorem mlX0_103 : Cond.methodLink RX0 103 yX0_crossing ∈ sq_W := sq_in1 223 rfl rfl
theorem miX0_crossing : Cond.instanceMethod yX0_crossing ∈ sq_W := sq_in1 225 rfl rfl
theorem mlX0_121 : Cond.methodLink RX0 121 yX0_countReachedCells ∈ sq_W := sq_in1 227 rfl rfl
theorem miX0_countReachedCells : Cond.instanceMethod yX0_countReachedCells ∈ sq_W := sq_in1 229 rfl rfl
theorem mlX0_79 : Cond.methodLink RX0 79 yX0_runCycle ∈ sq_W := sq_in1 231 rfl rfl
theorem miX0_runCycle : Cond.instanceMethod yX0_runCycle ∈ sq_W := sq_in1 233 rfl rfl
theorem mlX0_147 : Cond.methodLink RX0 147 yX0_ageEntries ∈ sq_W := sq_in1 235 rfl rfl
theorem miX0_ageEntries : Cond.instanceMethod yX0_ageEntries ∈ sq_W := sq_in1 237 rfl rfl
theorem mlX0_150 : Cond.methodLink RX0 150 yX0_enterVector ∈ sq_W := sq_in1 239 rfl rfl
theorem miX0_enterVector : Cond.instanceMethod yX0_enterVector ∈ sq_W := sq_in2 1 rfl rfl
theorem mlX0_153 : Cond.methodLink RX0 153 yX0_letRowIn ∈ sq_W := sq_in2 3 rfl rfl
theorem miX0_letRowIn : Cond.instanceMethod yX0_letRowIn ∈ sq_W := sq_in2 5 rfl rfl
theorem mlX0_156 : Cond.methodLink RX0 156 yX0_goOn ∈ sq_W := sq_in2 7 rfl rfl
theorem miX0_goOn : Cond.instanceMethod yX0_goOn ∈ sq_W := sq_in2 9 rfl rfl
theorem mlX0_162 : Cond.methodLink RX0 162 yX0_advance ∈ sq_W := sq_in2 11 rfl rfl
theorem miX0_advance : Cond.instanceMethod yX0_advance ∈ sq_W := sq_in2 13 rfl rfl
theorem mlX0_166 : Cond.methodLink RX0 166 yX0_feed ∈ sq_W := sq_in2 15 rfl rfl
theorem miX0_feed : Cond.instanceMethod yX0_feed ∈ sq_W := sq_in2 17 rfl rfl
theorem mlX0_159 : Cond.methodLink RX0 159 yX0_keepResults ∈ sq_W := sq_in2 19 rfl rfl
theorem miX0_keepResults : Cond.instanceMethod yX0_keepResults ∈ sq_W := sq_in2 21 rfl rfl
theorem mlL_73 : Cond.methodLink RL 73 yL_cell ∈ sq_W := sq_in2 23 rfl rfl
theorem msL_cell : Cond.static yL_cell ∈ sq_W := sq_in2 24 rfl rfl
theorem mkL_33 : Cond.classLink RL 33 "java/lang/IndexOutOfBoundsException" ∈ sq_W := sq_in2 26 rfl rfl
theorem mlL_29 : Cond.methodLink RL 29 yX0_cell ∈ sq_W := sq_in2 27 rfl rfl
theorem miX0_cell : Cond.instanceMethod yX0_cell ∈ sq_W := sq_in2 28 rfl rfl
theorem mvX0_cell : Cond.selects RX0 yX0_cell yX0_cell ∈ sq_W := sq_in2 29 rfl rfl
theorem mlX0_82 : Cond.methodLink RX0 82 yX0_isInSquare ∈ sq_W := sq_in2 31 rfl rfl
theorem miX0_isInSquare : Cond.instanceMethod yX0_isInSquare ∈ sq_W := sq_in2 33 rfl rfl
theorem mkX0_86 : Cond.classLink RX0 86 "java/lang/IndexOutOfBoundsException" ∈ sq_W := sq_in2 35 rfl rfl
theorem mlL_77 : Cond.methodLink RL 77 yL_entered ∈ sq_W := sq_in2 52 rfl rfl
theorem msL_entered : Cond.static yL_entered ∈ sq_W := sq_in2 53 rfl rfl
theorem mlL_35 : Cond.methodLink RL 35 yX0_entered ∈ sq_W := sq_in2 55 rfl rfl
theorem miX0_entered : Cond.instanceMethod yX0_entered ∈ sq_W := sq_in2 56 rfl rfl
theorem mvX0_entered : Cond.selects RX0 yX0_entered yX0_entered ∈ sq_W := sq_in2 57 rfl rfl
theorem mlX0_93 : Cond.methodLink RX0 93 yX0_isVector ∈ sq_W := sq_in2 59 rfl rfl
theorem miX0_isVector : Cond.instanceMethod yX0_isVector ∈ sq_W := sq_in2 61 rfl rfl
theorem mlL_80 : Cond.methodLink RL 80 yL_result ∈ sq_W := sq_in2 64 rfl rfl
theorem msL_result : Cond.static yL_result ∈ sq_W := sq_in2 65 rfl rfl
theorem mkL_42 : Cond.classLink RL 42 "java/util/NoSuchElementException" ∈ sq_W := sq_in2 67 rfl rfl
theorem mlL_38 : Cond.methodLink RL 38 yX0_result ∈ sq_W := sq_in2 68 rfl rfl
theorem miX0_result : Cond.instanceMethod yX0_result ∈ sq_W := sq_in2 69 rfl rfl
theorem mvX0_result : Cond.selects RX0 yX0_result yX0_result ∈ sq_W := sq_in2 70 rfl rfl
theorem mkX0_107 : Cond.classLink RX0 107 "java/util/NoSuchElementException" ∈ sq_W := sq_in2 73 rfl rfl
theorem mlL_84 : Cond.methodLink RL 84 yL_about ∈ sq_W := sq_in2 89 rfl rfl
theorem msL_about : Cond.static yL_about ∈ sq_W := sq_in2 90 rfl rfl
theorem mlL_44 : Cond.methodLink RL 44 yX0_about ∈ sq_W := sq_in2 92 rfl rfl
theorem miX0_about : Cond.instanceMethod yX0_about ∈ sq_W := sq_in2 93 rfl rfl
theorem mvX0_about : Cond.selects RX0 yX0_about yX0_about ∈ sq_W := sq_in2 94 rfl rfl
theorem mkL_48 : Cond.classLink RL 48 RX1 ∈ sq_W := sq_in2 97 rfl rfl
theorem mq_X1 : Cond.instantiable RX1 23 ∈ sq_W := sq_in2 98 rfl rfl
theorem mlL_50 : Cond.methodLink RL 50 yX1_init ∈ sq_W := sq_in2 99 rfl rfl
theorem miX1_init : Cond.instanceMethod yX1_init ∈ sq_W := sq_in2 100 rfl rfl
theorem moX1_1 : Cond.methodLink RX1 1 objectInit ∈ sq_W := sq_in2 102 rfl rfl
theorem mlX1_51 : Cond.methodLink RX1 51 yX1_clear ∈ sq_W := sq_in2 103 rfl rfl
theorem miX1_clear : Cond.instanceMethod yX1_clear ∈ sq_W := sq_in2 105 rfl rfl
theorem mfX1_54 : Cond.fieldLink RX1 54 "SquareStreamModel" "thrown" "I" ∈ sq_W := sq_in2 107 rfl rfl
theorem mfX1_7 : Cond.fieldLink RX1 7 "SquareStreamModel" "side" "I" ∈ sq_W := sq_in2 108 rfl rfl
theorem mfX1_57 : Cond.fieldLink RX1 57 "SquareStreamModel" "cycles" "I" ∈ sq_W := sq_in2 109 rfl rfl
theorem mfX1_60 : Cond.fieldLink RX1 60 "SquareStreamModel" "rows" "I" ∈ sq_W := sq_in2 110 rfl rfl
theorem mfX1_63 : Cond.fieldLink RX1 63 "SquareStreamModel" "let" "I" ∈ sq_W := sq_in2 111 rfl rfl
theorem mfX1_66 : Cond.fieldLink RX1 66 "SquareStreamModel" "ofSet" "I" ∈ sq_W := sq_in2 112 rfl rfl
theorem mfX1_69 : Cond.fieldLink RX1 69 "SquareStreamModel" "complete" "Z" ∈ sq_W := sq_in2 113 rfl rfl
theorem mfX1_13 : Cond.fieldLink RX1 13 "SquareStreamModel" "row" "[I" ∈ sq_W := sq_in2 114 rfl rfl
theorem mfX1_73 : Cond.fieldLink RX1 73 "SquareStreamModel" "vectors" "I" ∈ sq_W := sq_in2 115 rfl rfl
theorem mfX1_76 : Cond.fieldLink RX1 76 "SquareStreamModel" "gone" "I" ∈ sq_W := sq_in2 116 rfl rfl
theorem mfX1_79 : Cond.fieldLink RX1 79 "SquareStreamModel" "freshOnes" "I" ∈ sq_W := sq_in2 117 rfl rfl
theorem mfX1_94 : Cond.fieldLink RX1 94 "SquareStreamModel" "latest" "I" ∈ sq_W := sq_in2 118 rfl rfl
theorem mfX1_17 : Cond.fieldLink RX1 17 "SquareStreamModel" "element" "[I" ∈ sq_W := sq_in2 119 rfl rfl
theorem mfX1_20 : Cond.fieldLink RX1 20 "SquareStreamModel" "fresh" "[Z" ∈ sq_W := sq_in2 120 rfl rfl
theorem mfX1_24 : Cond.fieldLink RX1 24 "SquareStreamModel" "at" "[I" ∈ sq_W := sq_in2 121 rfl rfl
theorem mfX1_27 : Cond.fieldLink RX1 27 "SquareStreamModel" "results" "[I" ∈ sq_W := sq_in2 122 rfl rfl
theorem mfX1_30 : Cond.fieldLink RX1 30 "SquareStreamModel" "recent" "[I" ∈ sq_W := sq_in2 123 rfl rfl
theorem mfX1_33 : Cond.fieldLink RX1 33 "SquareStreamModel" "input" "[I" ∈ sq_W := sq_in2 124 rfl rfl
theorem mfX1_36 : Cond.fieldLink RX1 36 "SquareStreamModel" "sum" "[I" ∈ sq_W := sq_in2 125 rfl rfl
theorem mfX1_39 : Cond.fieldLink RX1 39 "SquareStreamModel" "weight" "[I" ∈ sq_W := sq_in2 126 rfl rfl
theorem mfX1_42 : Cond.fieldLink RX1 42 "SquareStreamModel" "next" "[I" ∈ sq_W := sq_in2 127 rfl rfl
theorem mfX1_45 : Cond.fieldLink RX1 45 "SquareStreamModel" "mark" "[Z" ∈ sq_W := sq_in2 128 rfl rfl
theorem mfX1_48 : Cond.fieldLink RX1 48 "SquareStreamModel" "real" "[Z" ∈ sq_W := sq_in2 129 rfl rfl
theorem mlL_57 : Cond.methodLink RL 57 yX1_thrown ∈ sq_W := sq_in2 177 rfl rfl
theorem miX1_thrown : Cond.instanceMethod yX1_thrown ∈ sq_W := sq_in2 178 rfl rfl
theorem mvX1_thrown : Cond.selects RX1 yX1_thrown yX1_thrown ∈ sq_W := sq_in2 179 rfl rfl
theorem mlL_56 : Cond.methodLink RL 56 yX1_begin ∈ sq_W := sq_in2 181 rfl rfl
theorem miX1_begin : Cond.instanceMethod yX1_begin ∈ sq_W := sq_in2 182 rfl rfl
theorem mvX1_begin : Cond.selects RX1 yX1_begin yX1_begin ∈ sq_W := sq_in2 183 rfl rfl
theorem mlX1_82 : Cond.methodLink RX1 82 yX1_in_ ∈ sq_W := sq_in2 185 rfl rfl
theorem msX1_in_ : Cond.static yX1_in_ ∈ sq_W := sq_in2 186 rfl rfl
theorem mlX1_86 : Cond.methodLink RX1 86 yX1_refuse ∈ sq_W := sq_in2 188 rfl rfl
theorem miX1_refuse : Cond.instanceMethod yX1_refuse ∈ sq_W := sq_in2 190 rfl rfl
theorem mlL_64 : Cond.methodLink RL 64 yX1_weights ∈ sq_W := sq_in2 192 rfl rfl
theorem miX1_weights : Cond.instanceMethod yX1_weights ∈ sq_W := sq_in2 193 rfl rfl
theorem mvX1_weights : Cond.selects RX1 yX1_weights yX1_weights ∈ sq_W := sq_in2 194 rfl rfl
theorem mlX1_90 : Cond.methodLink RX1 90 yX1_six ∈ sq_W := sq_in2 196 rfl rfl
theorem msX1_six : Cond.static yX1_six ∈ sq_W := sq_in2 197 rfl rfl
theorem mlL_68 : Cond.methodLink RL 68 yX1_vector ∈ sq_W := sq_in2 199 rfl rfl
theorem miX1_vector : Cond.instanceMethod yX1_vector ∈ sq_W := sq_in2 200 rfl rfl
theorem mvX1_vector : Cond.selects RX1 yX1_vector yX1_vector ∈ sq_W := sq_in2 201 rfl rfl
theorem mlL_72 : Cond.methodLink RL 72 yX1_cycle ∈ sq_W := sq_in2 203 rfl rfl
theorem miX1_cycle : Cond.instanceMethod yX1_cycle ∈ sq_W := sq_in2 204 rfl rfl
theorem mvX1_cycle : Cond.selects RX1 yX1_cycle yX1_cycle ∈ sq_W := sq_in2 205 rfl rfl
theorem mnX1_101 : Cond.constant RX1 101 100000 ∈ sq_W := sq_in2 207 rfl rfl
theorem mlX1_102 : Cond.methodLink RX1 102 yX1_enter ∈ sq_W := sq_in2 208 rfl rfl
theorem miX1_enter : Cond.instanceMethod yX1_enter ∈ sq_W := sq_in2 210 rfl rfl
theorem mlX1_105 : Cond.methodLink RX1 105 yX1_letIn ∈ sq_W := sq_in2 212 rfl rfl
theorem miX1_letIn : Cond.instanceMethod yX1_letIn ∈ sq_W := sq_in2 214 rfl rfl
theorem mlX1_108 : Cond.methodLink RX1 108 yX1_goOn ∈ sq_W := sq_in2 216 rfl rfl
theorem miX1_goOn : Cond.instanceMethod yX1_goOn ∈ sq_W := sq_in2 218 rfl rfl
theorem mlX1_97 : Cond.methodLink RX1 97 yX1_enteredAgo ∈ sq_W := sq_in2 220 rfl rfl
theorem miX1_enteredAgo : Cond.instanceMethod yX1_enteredAgo ∈ sq_W := sq_in2 222 rfl rfl
theorem mlL_76 : Cond.methodLink RL 76 yX1_cell ∈ sq_W := sq_in2 224 rfl rfl
theorem miX1_cell : Cond.instanceMethod yX1_cell ∈ sq_W := sq_in2 225 rfl rfl
theorem mvX1_cell : Cond.selects RX1 yX1_cell yX1_cell ∈ sq_W := sq_in2 226 rfl rfl
theorem mlL_79 : Cond.methodLink RL 79 yX1_entered ∈ sq_W := sq_in2 228 rfl rfl
theorem miX1_entered : Cond.instanceMethod yX1_entered ∈ sq_W := sq_in2 229 rfl rfl
theorem mvX1_entered : Cond.selects RX1 yX1_entered yX1_entered ∈ sq_W := sq_in2 230 rfl rfl
theorem mlL_83 : Cond.methodLink RL 83 yX1_result ∈ sq_W := sq_in2 232 rfl rfl
theorem miX1_result : Cond.instanceMethod yX1_result ∈ sq_W := sq_in2 233 rfl rfl
theorem mvX1_result : Cond.selects RX1 yX1_result yX1_result ∈ sq_W := sq_in2 234 rfl rfl
theorem mlL_86 : Cond.methodLink RL 86 yX1_about ∈ sq_W := sq_in2 236 rfl rfl
theorem miX1_about : Cond.instanceMethod yX1_about ∈ sq_W := sq_in2 237 rfl rfl
theorem mvX1_about : Cond.selects RX1 yX1_about yX1_about ∈ sq_W := sq_in2 238 rfl rfl
theorem ma_long : Cond.arrayClass .long ∈ sq_W := sq_in3 0 rfl rfl
theorem mvX0_clearTo : Cond.selects RX0 yX0_clearTo yX0_clearTo ∈ sq_W := sq_in0 0 rfl rfl
theorem mvX0_isAtRest : Cond.selects RX0 yX0_isAtRest yX0_isAtRest ∈ sq_W := sq_in0 2 rfl rfl
theorem mvX0_canVectorEnter : Cond.selects RX0 yX0_canVectorEnter yX0_canVectorEnter ∈ sq_W := sq_in0 3 rfl rfl
theorem mvX0_isSetComplete : Cond.selects RX0 yX0_isSetComplete yX0_isSetComplete ∈ sq_W := sq_in0 4 rfl rfl
theorem mvX0_canRowComeIn : Cond.selects RX0 yX0_canRowComeIn yX0_canRowComeIn ∈ sq_W := sq_in0 5 rfl rfl
theorem mvX0_crossing : Cond.selects RX0 yX0_crossing yX0_crossing ∈ sq_W := sq_in0 6 rfl rfl
theorem mvX0_countReachedCells : Cond.selects RX0 yX0_countReachedCells yX0_countReachedCells ∈ sq_W := sq_in0 7 rfl rfl
theorem mvX0_runCycle : Cond.selects RX0 yX0_runCycle yX0_runCycle ∈ sq_W := sq_in0 8 rfl rfl
theorem mvX0_ageEntries : Cond.selects RX0 yX0_ageEntries yX0_ageEntries ∈ sq_W := sq_in0 9 rfl rfl
theorem mvX0_enterVector : Cond.selects RX0 yX0_enterVector yX0_enterVector ∈ sq_W := sq_in0 10 rfl rfl
theorem mvX0_letRowIn : Cond.selects RX0 yX0_letRowIn yX0_letRowIn ∈ sq_W := sq_in0 11 rfl rfl
theorem mvX0_goOn : Cond.selects RX0 yX0_goOn yX0_goOn ∈ sq_W := sq_in0 12 rfl rfl
theorem mvX0_advance : Cond.selects RX0 yX0_advance yX0_advance ∈ sq_W := sq_in0 13 rfl rfl
theorem mvX0_feed : Cond.selects RX0 yX0_feed yX0_feed ∈ sq_W := sq_in0 14 rfl rfl
theorem mvX0_keepResults : Cond.selects RX0 yX0_keepResults yX0_keepResults ∈ sq_W := sq_in0 15 rfl rfl
theorem mvX0_isInSquare : Cond.selects RX0 yX0_isInSquare yX0_isInSquare ∈ sq_W := sq_in0 16 rfl rfl
theorem mvX0_isVector : Cond.selects RX0 yX0_isVector yX0_isVector ∈ sq_W := sq_in0 17 rfl rfl
theorem mvX1_clear : Cond.selects RX1 yX1_clear yX1_clear ∈ sq_W := sq_in0 18 rfl rfl
theorem mvX1_refuse : Cond.selects RX1 yX1_refuse yX1_refuse ∈ sq_W := sq_in0 19 rfl rfl
theorem mvX1_enter : Cond.selects RX1 yX1_enter yX1_enter ∈ sq_W := sq_in0 20 rfl rfl
theorem mvX1_letIn : Cond.selects RX1 yX1_letIn yX1_letIn ∈ sq_W := sq_in0 21 rfl rfl
theorem mvX1_goOn : Cond.selects RX1 yX1_goOn yX1_goOn ∈ sq_W := sq_in0 22 rfl rfl
theorem mvX1_enteredAgo : Cond.selects RX1 yX1_enteredAgo yX1_enteredAgo ∈ sq_W := sq_in0 23 rfl rfl
theorem gvX0_44 : ∀ w ∈ wsV RX0 44 RX0 yX0_clearTo wsX0_clearTo, w ∈ sq_W := sq_c mlX0_44 (sq_c miX0_clearTo (sq_c mvX0_clearTo (sq_c mt_X0 (sq_c mcX0_clearTo sq_id))))
theorem gsX0_135 : ∀ w ∈ va_wsS RX0 135 yJ_fill wsJ_fill, w ∈ sq_W := sq_c mlX0_135 (sq_c msJ_fill (sq_c mt_J (sq_c mcJ_fill sq_id)))
theorem gsL_51 : ∀ w ∈ va_wsS RL 51 yL_begin wsL_begin, w ∈ sq_W := sq_c mlL_51 (sq_c msL_begin (sq_c mt_L (sq_c mcL_begin sq_id)))
theorem gvL_7 : ∀ w ∈ wsV RL 7 RX0 yX0_begin wsX0_begin, w ∈ sq_W := sq_c mlL_7 (sq_c miX0_begin (sq_c mvX0_begin (sq_c mt_X0 (sq_c mcX0_begin sq_id))))
theorem gsL_61 : ∀ w ∈ va_wsS RL 61 yL_weights wsL_weights, w ∈ sq_W := sq_c mlL_61 (sq_c msL_weights (sq_c mt_L (sq_c mcL_weights sq_id)))
theorem gvL_15 : ∀ w ∈ wsV RL 15 RX0 yX0_weights wsX0_weights, w ∈ sq_W := sq_c mlL_15 (sq_c miX0_weights (sq_c mvX0_weights (sq_c mt_X0 (sq_c mcX0_weights sq_id))))
theorem gsL_65 : ∀ w ∈ va_wsS RL 65 yL_vector wsL_vector, w ∈ sq_W := sq_c mlL_65 (sq_c msL_vector (sq_c mt_L (sq_c mcL_vector sq_id)))
theorem gvL_21 : ∀ w ∈ wsV RL 21 RX0 yX0_vector wsX0_vector, w ∈ sq_W := sq_c mlL_21 (sq_c miX0_vector (sq_c mvX0_vector (sq_c mt_X0 (sq_c mcX0_vector sq_id))))
theorem gsL_69 : ∀ w ∈ va_wsS RL 69 yL_cycle wsL_cycle, w ∈ sq_W := sq_c mlL_69 (sq_c msL_cycle (sq_c mt_L (sq_c mcL_cycle sq_id)))
theorem gvL_25 : ∀ w ∈ wsV RL 25 RX0 yX0_cycle wsX0_cycle, w ∈ sq_W := sq_c mlL_25 (sq_c miX0_cycle (sq_c mvX0_cycle (sq_c mt_X0 (sq_c mcX0_cycle sq_id))))
theorem gvX0_75 : ∀ w ∈ wsV RX0 75 RX0 yX0_isAtRest wsX0_isAtRest, w ∈ sq_W := sq_c mlX0_75 (sq_c miX0_isAtRest (sq_c mvX0_isAtRest (sq_c mt_X0 (sq_c mcX0_isAtRest sq_id))))
theorem gvX0_141 : ∀ w ∈ wsV RX0 141 RX0 yX0_canVectorEnter wsX0_canVectorEnter, w ∈ sq_W := sq_c mlX0_141 (sq_c miX0_canVectorEnter (sq_c mvX0_canVectorEnter (sq_c mt_X0 (sq_c mcX0_canVectorEnter sq_id))))
theorem gvX0_118 : ∀ w ∈ wsV RX0 118 RX0 yX0_isSetComplete wsX0_isSetComplete, w ∈ sq_W := sq_c mlX0_118 (sq_c miX0_isSetComplete (sq_c mvX0_isSetComplete (sq_c mt_X0 (sq_c mcX0_isSetComplete sq_id))))
theorem gvX0_144 : ∀ w ∈ wsV RX0 144 RX0 yX0_canRowComeIn wsX0_canRowComeIn, w ∈ sq_W := sq_c mlX0_144 (sq_c miX0_canRowComeIn (sq_c mvX0_canRowComeIn (sq_c mt_X0 (sq_c mcX0_canRowComeIn sq_id))))
theorem gvX0_103 : ∀ w ∈ wsV RX0 103 RX0 yX0_crossing wsX0_crossing, w ∈ sq_W := sq_c mlX0_103 (sq_c miX0_crossing (sq_c mvX0_crossing (sq_c mt_X0 (sq_c mcX0_crossing sq_id))))
theorem gvX0_121 : ∀ w ∈ wsV RX0 121 RX0 yX0_countReachedCells wsX0_countReachedCells, w ∈ sq_W := sq_c mlX0_121 (sq_c miX0_countReachedCells (sq_c mvX0_countReachedCells (sq_c mt_X0 (sq_c mcX0_countReachedCells sq_id))))
theorem gvX0_79 : ∀ w ∈ wsV RX0 79 RX0 yX0_runCycle wsX0_runCycle, w ∈ sq_W := sq_c mlX0_79 (sq_c miX0_runCycle (sq_c mvX0_runCycle (sq_c mt_X0 (sq_c mcX0_runCycle sq_id))))
theorem gvX0_147 : ∀ w ∈ wsV RX0 147 RX0 yX0_ageEntries wsX0_ageEntries, w ∈ sq_W := sq_c mlX0_147 (sq_c miX0_ageEntries (sq_c mvX0_ageEntries (sq_c mt_X0 (sq_c mcX0_ageEntries sq_id))))
theorem gvX0_150 : ∀ w ∈ wsV RX0 150 RX0 yX0_enterVector wsX0_enterVector, w ∈ sq_W := sq_c mlX0_150 (sq_c miX0_enterVector (sq_c mvX0_enterVector (sq_c mt_X0 (sq_c mcX0_enterVector sq_id))))
theorem gvX0_153 : ∀ w ∈ wsV RX0 153 RX0 yX0_letRowIn wsX0_letRowIn, w ∈ sq_W := sq_c mlX0_153 (sq_c miX0_letRowIn (sq_c mvX0_letRowIn (sq_c mt_X0 (sq_c mcX0_letRowIn sq_id))))
theorem gvX0_156 : ∀ w ∈ wsV RX0 156 RX0 yX0_goOn wsX0_goOn, w ∈ sq_W := sq_c mlX0_156 (sq_c miX0_goOn (sq_c mvX0_goOn (sq_c mt_X0 (sq_c mcX0_goOn sq_id))))
theorem gvX0_162 : ∀ w ∈ wsV RX0 162 RX0 yX0_advance wsX0_advance, w ∈ sq_W := sq_c mlX0_162 (sq_c miX0_advance (sq_c mvX0_advance (sq_c mt_X0 (sq_c mcX0_advance sq_id))))
theorem gvX0_166 : ∀ w ∈ wsV RX0 166 RX0 yX0_feed wsX0_feed, w ∈ sq_W := sq_c mlX0_166 (sq_c miX0_feed (sq_c mvX0_feed (sq_c mt_X0 (sq_c mcX0_feed sq_id))))
theorem gvX0_159 : ∀ w ∈ wsV RX0 159 RX0 yX0_keepResults wsX0_keepResults, w ∈ sq_W := sq_c mlX0_159 (sq_c miX0_keepResults (sq_c mvX0_keepResults (sq_c mt_X0 (sq_c mcX0_keepResults sq_id))))
theorem gsL_73 : ∀ w ∈ va_wsS RL 73 yL_cell wsL_cell, w ∈ sq_W := sq_c mlL_73 (sq_c msL_cell (sq_c mt_L (sq_c mcL_cell sq_id)))
theorem gvL_29 : ∀ w ∈ wsV RL 29 RX0 yX0_cell wsX0_cell, w ∈ sq_W := sq_c mlL_29 (sq_c miX0_cell (sq_c mvX0_cell (sq_c mt_X0 (sq_c mcX0_cell sq_id))))
theorem gvX0_82 : ∀ w ∈ wsV RX0 82 RX0 yX0_isInSquare wsX0_isInSquare, w ∈ sq_W := sq_c mlX0_82 (sq_c miX0_isInSquare (sq_c mvX0_isInSquare (sq_c mt_X0 (sq_c mcX0_isInSquare sq_id))))
theorem gsL_77 : ∀ w ∈ va_wsS RL 77 yL_entered wsL_entered, w ∈ sq_W := sq_c mlL_77 (sq_c msL_entered (sq_c mt_L (sq_c mcL_entered sq_id)))
theorem gvL_35 : ∀ w ∈ wsV RL 35 RX0 yX0_entered wsX0_entered, w ∈ sq_W := sq_c mlL_35 (sq_c miX0_entered (sq_c mvX0_entered (sq_c mt_X0 (sq_c mcX0_entered sq_id))))
theorem gvX0_93 : ∀ w ∈ wsV RX0 93 RX0 yX0_isVector wsX0_isVector, w ∈ sq_W := sq_c mlX0_93 (sq_c miX0_isVector (sq_c mvX0_isVector (sq_c mt_X0 (sq_c mcX0_isVector sq_id))))
theorem gsL_80 : ∀ w ∈ va_wsS RL 80 yL_result wsL_result, w ∈ sq_W := sq_c mlL_80 (sq_c msL_result (sq_c mt_L (sq_c mcL_result sq_id)))
theorem gvL_38 : ∀ w ∈ wsV RL 38 RX0 yX0_result wsX0_result, w ∈ sq_W := sq_c mlL_38 (sq_c miX0_result (sq_c mvX0_result (sq_c mt_X0 (sq_c mcX0_result sq_id))))
theorem gsL_84 : ∀ w ∈ va_wsS RL 84 yL_about wsL_about, w ∈ sq_W := sq_c mlL_84 (sq_c msL_about (sq_c mt_L (sq_c mcL_about sq_id)))
theorem gvL_44 : ∀ w ∈ wsV RL 44 RX0 yX0_about wsX0_about, w ∈ sq_W := sq_c mlL_44 (sq_c miX0_about (sq_c mvX0_about (sq_c mt_X0 (sq_c mcX0_about sq_id))))
theorem gvX1_51 : ∀ w ∈ wsV RX1 51 RX1 yX1_clear wsX1_clear, w ∈ sq_W := sq_c mlX1_51 (sq_c miX1_clear (sq_c mvX1_clear (sq_c mt_X1 (sq_c mcX1_clear sq_id))))
theorem gvL_57 : ∀ w ∈ wsV RL 57 RX1 yX1_thrown wsX1_thrown, w ∈ sq_W := sq_c mlL_57 (sq_c miX1_thrown (sq_c mvX1_thrown (sq_c mt_X1 (sq_c mcX1_thrown sq_id))))
theorem gvL_56 : ∀ w ∈ wsV RL 56 RX1 yX1_begin wsX1_begin, w ∈ sq_W := sq_c mlL_56 (sq_c miX1_begin (sq_c mvX1_begin (sq_c mt_X1 (sq_c mcX1_begin sq_id))))
theorem gsX1_82 : ∀ w ∈ va_wsS RX1 82 yX1_in_ wsX1_in_, w ∈ sq_W := sq_c mlX1_82 (sq_c msX1_in_ (sq_c mt_X1 (sq_c mcX1_in_ sq_id)))
theorem gvX1_86 : ∀ w ∈ wsV RX1 86 RX1 yX1_refuse wsX1_refuse, w ∈ sq_W := sq_c mlX1_86 (sq_c miX1_refuse (sq_c mvX1_refuse (sq_c mt_X1 (sq_c mcX1_refuse sq_id))))
theorem gvL_64 : ∀ w ∈ wsV RL 64 RX1 yX1_weights wsX1_weights, w ∈ sq_W := sq_c mlL_64 (sq_c miX1_weights (sq_c mvX1_weights (sq_c mt_X1 (sq_c mcX1_weights sq_id))))
theorem gsX1_90 : ∀ w ∈ va_wsS RX1 90 yX1_six wsX1_six, w ∈ sq_W := sq_c mlX1_90 (sq_c msX1_six (sq_c mt_X1 (sq_c mcX1_six sq_id)))
theorem gvL_68 : ∀ w ∈ wsV RL 68 RX1 yX1_vector wsX1_vector, w ∈ sq_W := sq_c mlL_68 (sq_c miX1_vector (sq_c mvX1_vector (sq_c mt_X1 (sq_c mcX1_vector sq_id))))
theorem gvL_72 : ∀ w ∈ wsV RL 72 RX1 yX1_cycle wsX1_cycle, w ∈ sq_W := sq_c mlL_72 (sq_c miX1_cycle (sq_c mvX1_cycle (sq_c mt_X1 (sq_c mcX1_cycle sq_id))))
theorem gvX1_102 : ∀ w ∈ wsV RX1 102 RX1 yX1_enter wsX1_enter, w ∈ sq_W := sq_c mlX1_102 (sq_c miX1_enter (sq_c mvX1_enter (sq_c mt_X1 (sq_c mcX1_enter sq_id))))
theorem gvX1_105 : ∀ w ∈ wsV RX1 105 RX1 yX1_letIn wsX1_letIn, w ∈ sq_W := sq_c mlX1_105 (sq_c miX1_letIn (sq_c mvX1_letIn (sq_c mt_X1 (sq_c mcX1_letIn sq_id))))
theorem gvX1_108 : ∀ w ∈ wsV RX1 108 RX1 yX1_goOn wsX1_goOn, w ∈ sq_W := sq_c mlX1_108 (sq_c miX1_goOn (sq_c mvX1_goOn (sq_c mt_X1 (sq_c mcX1_goOn sq_id))))
theorem gvX1_97 : ∀ w ∈ wsV RX1 97 RX1 yX1_enteredAgo wsX1_enteredAgo, w ∈ sq_W := sq_c mlX1_97 (sq_c miX1_enteredAgo (sq_c mvX1_enteredAgo (sq_c mt_X1 (sq_c mcX1_enteredAgo sq_id))))
theorem gvL_76 : ∀ w ∈ wsV RL 76 RX1 yX1_cell wsX1_cell, w ∈ sq_W := sq_c mlL_76 (sq_c miX1_cell (sq_c mvX1_cell (sq_c mt_X1 (sq_c mcX1_cell sq_id))))
theorem gvL_79 : ∀ w ∈ wsV RL 79 RX1 yX1_entered wsX1_entered, w ∈ sq_W := sq_c mlL_79 (sq_c miX1_entered (sq_c mvX1_entered (sq_c mt_X1 (sq_c mcX1_entered sq_id))))
theorem gvL_83 : ∀ w ∈ wsV RL 83 RX1 yX1_result wsX1_result, w ∈ sq_W := sq_c mlL_83 (sq_c miX1_result (sq_c mvX1_result (sq_c mt_X1 (sq_c mcX1_result sq_id))))
theorem gvL_86 : ∀ w ∈ wsV RL 86 RX1 yX1_about wsX1_about, w ∈ sq_W := sq_c mlL_86 (sq_c miX1_about (sq_c mvX1_about (sq_c mt_X1 (sq_c mcX1_about sq_id))))
theorem inX0 : ∀ w ∈ u_ws RX0 TX0 20, w ∈ sq_W := by
  show ∀ w ∈ [u_lay RX0 TX0 0, u_lay RX0 TX0 1, u_lay RX0 TX0 2, u_lay RX0 TX0 3, u_lay RX0 TX0 4, u_lay RX0 TX0 5, u_lay RX0 TX0 6, u_lay RX0 TX0 7, u_lay RX0 TX0 8, u_lay RX0 TX0 9, u_lay RX0 TX0 10, u_lay RX0 TX0 11, u_lay RX0 TX0 12, u_lay RX0 TX0 13, u_lay RX0 TX0 14, u_lay RX0 TX0 15, u_lay RX0 TX0 16, u_lay RX0 TX0 17, u_lay RX0 TX0 18, u_lay RX0 TX0 19], w ∈ sq_W
  exact sq_c (sq_in1 46 rfl rfl) (sq_c (sq_in1 48 rfl rfl) (sq_c (sq_in1 50 rfl rfl) (sq_c (sq_in1 52 rfl rfl) (sq_c (sq_in1 54 rfl rfl) (sq_c (sq_in1 56 rfl rfl) (sq_c (sq_in1 58 rfl rfl) (sq_c (sq_in1 60 rfl rfl) (sq_c (sq_in1 62 rfl rfl) (sq_c (sq_in1 64 rfl rfl) (sq_c (sq_in1 66 rfl rfl) (sq_c (sq_in1 68 rfl rfl) (sq_c (sq_in1 70 rfl rfl) (sq_c (sq_in1 72 rfl rfl) (sq_c (sq_in1 74 rfl rfl) (sq_c (sq_in1 76 rfl rfl) (sq_c (sq_in1 78 rfl rfl) (sq_c (sq_in1 80 rfl rfl) (sq_c (sq_in1 82 rfl rfl) (sq_c (sq_in1 84 rfl rfl) (fun _ h => absurd h List.not_mem_nil))))))))))))))))))))
theorem inX1 : ∀ w ∈ u_ws RX1 TX1 23, w ∈ sq_W := by
  show ∀ w ∈ [u_lay RX1 TX1 0, u_lay RX1 TX1 1, u_lay RX1 TX1 2, u_lay RX1 TX1 3, u_lay RX1 TX1 4, u_lay RX1 TX1 5, u_lay RX1 TX1 6, u_lay RX1 TX1 7, u_lay RX1 TX1 8, u_lay RX1 TX1 9, u_lay RX1 TX1 10, u_lay RX1 TX1 11, u_lay RX1 TX1 12, u_lay RX1 TX1 13, u_lay RX1 TX1 14, u_lay RX1 TX1 15, u_lay RX1 TX1 16, u_lay RX1 TX1 17, u_lay RX1 TX1 18, u_lay RX1 TX1 19, u_lay RX1 TX1 20, u_lay RX1 TX1 21, u_lay RX1 TX1 22], w ∈ sq_W
  exact sq_c (sq_in2 130 rfl rfl) (sq_c (sq_in2 132 rfl rfl) (sq_c (sq_in2 134 rfl rfl) (sq_c (sq_in2 136 rfl rfl) (sq_c (sq_in2 138 rfl rfl) (sq_c (sq_in2 140 rfl rfl) (sq_c (sq_in2 142 rfl rfl) (sq_c (sq_in2 144 rfl rfl) (sq_c (sq_in2 146 rfl rfl) (sq_c (sq_in2 148 rfl rfl) (sq_c (sq_in2 150 rfl rfl) (sq_c (sq_in2 152 rfl rfl) (sq_c (sq_in2 154 rfl rfl) (sq_c (sq_in2 156 rfl rfl) (sq_c (sq_in2 158 rfl rfl) (sq_c (sq_in2 160 rfl rfl) (sq_c (sq_in2 162 rfl rfl) (sq_c (sq_in2 164 rfl rfl) (sq_c (sq_in2 166 rfl rfl) (sq_c (sq_in2 168 rfl rfl) (sq_c (sq_in2 170 rfl rfl) (sq_c (sq_in2 172 rfl rfl) (sq_c (sq_in2 174 rfl rfl) (fun _ h => absurd h List.not_mem_nil)))))))))))))))))))))))
end
section
theorem dX0_init_0 : decode cX0_init 0 = .ok (.aload_n 0, 1) := by decide +kernel
theorem dX0_init_1 : decode cX0_init 1 = .ok (.invokespecial 3, 3) := by decide +kernel
theorem dX0_init_4 : decode cX0_init 4 = .ok (.aload_n 0, 1) := by decide +kernel
theorem dX0_init_5 : decode cX0_init 5 = .ok (.sipush 720, 3) := by decide +kernel
theorem dX0_init_8 : decode cX0_init 8 = .ok (.newarray .int, 2) := by decide +kernel
theorem dX0_init_10 : decode cX0_init 10 = .ok (.putfield 9, 3) := by decide +kernel
theorem dX0_init_13 : decode cX0_init 13 = .ok (.aload_n 0, 1) := by decide +kernel
theorem dX0_init_14 : decode cX0_init 14 = .ok (.sipush 1200, 3) := by decide +kernel
theorem dX0_init_17 : decode cX0_init 17 = .ok (.newarray .int, 2) := by decide +kernel
theorem dX0_init_19 : decode cX0_init 19 = .ok (.putfield 13, 3) := by decide +kernel
theorem dX0_init_22 : decode cX0_init 22 = .ok (.aload_n 0, 1) := by decide +kernel
theorem dX0_init_23 : decode cX0_init 23 = .ok (.sipush 1200, 3) := by decide +kernel
theorem dX0_init_26 : decode cX0_init 26 = .ok (.newarray .int, 2) := by decide +kernel
theorem dX0_init_28 : decode cX0_init 28 = .ok (.putfield 16, 3) := by decide +kernel
theorem dX0_init_31 : decode cX0_init 31 = .ok (.aload_n 0, 1) := by decide +kernel
theorem dX0_init_32 : decode cX0_init 32 = .ok (.sipush 200, 3) := by decide +kernel
theorem dX0_init_35 : decode cX0_init 35 = .ok (.newarray .boolean, 2) := by decide +kernel
theorem dX0_init_37 : decode cX0_init 37 = .ok (.putfield 19, 3) := by decide +kernel
theorem dX0_init_40 : decode cX0_init 40 = .ok (.aload_n 0, 1) := by decide +kernel
theorem dX0_init_41 : decode cX0_init 41 = .ok (.sipush 200, 3) := by decide +kernel
theorem dX0_init_44 : decode cX0_init 44 = .ok (.newarray .int, 2) := by decide +kernel
theorem dX0_init_46 : decode cX0_init 46 = .ok (.putfield 23, 3) := by decide +kernel
theorem dX0_init_49 : decode cX0_init 49 = .ok (.aload_n 0, 1) := by decide +kernel
theorem dX0_init_50 : decode cX0_init 50 = .ok (.bipush 11, 2) := by decide +kernel
theorem dX0_init_52 : decode cX0_init 52 = .ok (.newarray .int, 2) := by decide +kernel
theorem dX0_init_54 : decode cX0_init 54 = .ok (.putfield 26, 3) := by decide +kernel
theorem dX0_init_57 : decode cX0_init 57 = .ok (.aload_n 0, 1) := by decide +kernel
theorem dX0_init_58 : decode cX0_init 58 = .ok (.bipush 36, 2) := by decide +kernel
theorem dX0_init_60 : decode cX0_init 60 = .ok (.newarray .int, 2) := by decide +kernel
theorem dX0_init_62 : decode cX0_init 62 = .ok (.putfield 29, 3) := by decide +kernel
theorem dX0_init_65 : decode cX0_init 65 = .ok (.aload_n 0, 1) := by decide +kernel
theorem dX0_init_66 : decode cX0_init 66 = .ok (.bipush 36, 2) := by decide +kernel
theorem dX0_init_68 : decode cX0_init 68 = .ok (.newarray .int, 2) := by decide +kernel
theorem dX0_init_70 : decode cX0_init 70 = .ok (.putfield 32, 3) := by decide +kernel
theorem dX0_init_73 : decode cX0_init 73 = .ok (.aload_n 0, 1) := by decide +kernel
theorem dX0_init_74 : decode cX0_init 74 = .ok (.bipush 36, 2) := by decide +kernel
theorem dX0_init_76 : decode cX0_init 76 = .ok (.newarray .int, 2) := by decide +kernel
theorem dX0_init_78 : decode cX0_init 78 = .ok (.putfield 35, 3) := by decide +kernel
theorem dX0_init_81 : decode cX0_init 81 = .ok (.aload_n 0, 1) := by decide +kernel
theorem dX0_init_82 : decode cX0_init 82 = .ok (.bipush 36, 2) := by decide +kernel
theorem dX0_init_84 : decode cX0_init 84 = .ok (.newarray .int, 2) := by decide +kernel
theorem dX0_init_86 : decode cX0_init 86 = .ok (.putfield 38, 3) := by decide +kernel
theorem dX0_init_89 : decode cX0_init 89 = .ok (.aload_n 0, 1) := by decide +kernel
theorem dX0_init_90 : decode cX0_init 90 = .ok (.bipush 36, 2) := by decide +kernel
theorem dX0_init_92 : decode cX0_init 92 = .ok (.newarray .boolean, 2) := by decide +kernel
theorem dX0_init_94 : decode cX0_init 94 = .ok (.putfield 41, 3) := by decide +kernel
theorem dX0_init_97 : decode cX0_init 97 = .ok (.aload_n 0, 1) := by decide +kernel
theorem dX0_init_98 : decode cX0_init 98 = .ok (.iconst 1, 1) := by decide +kernel
theorem dX0_init_99 : decode cX0_init 99 = .ok (.invokevirtual 44, 3) := by decide +kernel
theorem dX0_init_102 : decode cX0_init 102 = .ok (.return_, 1) := by decide +kernel
theorem dX0_clearTo_0 : decode cX0_clearTo 0 = .ok (.aload_n 0, 1) := by decide +kernel
theorem dX0_clearTo_1 : decode cX0_clearTo 1 = .ok (.iload_n 1, 1) := by decide +kernel
theorem dX0_clearTo_2 : decode cX0_clearTo 2 = .ok (.putfield 124, 3) := by decide +kernel
theorem dX0_clearTo_5 : decode cX0_clearTo 5 = .ok (.aload_n 0, 1) := by decide +kernel
theorem dX0_clearTo_6 : decode cX0_clearTo 6 = .ok (.iconst 0, 1) := by decide +kernel
theorem dX0_clearTo_7 : decode cX0_clearTo 7 = .ok (.putfield 70, 3) := by decide +kernel
theorem dX0_clearTo_10 : decode cX0_clearTo 10 = .ok (.aload_n 0, 1) := by decide +kernel
theorem dX0_clearTo_11 : decode cX0_clearTo 11 = .ok (.iconst 0, 1) := by decide +kernel
theorem dX0_clearTo_12 : decode cX0_clearTo 12 = .ok (.putfield 55, 3) := by decide +kernel
theorem dX0_clearTo_15 : decode cX0_clearTo 15 = .ok (.aload_n 0, 1) := by decide +kernel
theorem dX0_clearTo_16 : decode cX0_clearTo 16 = .ok (.iconst 0, 1) := by decide +kernel
theorem dX0_clearTo_17 : decode cX0_clearTo 17 = .ok (.putfield 112, 3) := by decide +kernel
theorem dX0_clearTo_20 : decode cX0_clearTo 20 = .ok (.aload_n 0, 1) := by decide +kernel
theorem dX0_clearTo_21 : decode cX0_clearTo 21 = .ok (.iconst 0, 1) := by decide +kernel
theorem dX0_clearTo_22 : decode cX0_clearTo 22 = .ok (.putfield 129, 3) := by decide +kernel
theorem dX0_clearTo_25 : decode cX0_clearTo 25 = .ok (.aload_n 0, 1) := by decide +kernel
theorem dX0_clearTo_26 : decode cX0_clearTo 26 = .ok (.iconst 0, 1) := by decide +kernel
theorem dX0_clearTo_27 : decode cX0_clearTo 27 = .ok (.putfield 64, 3) := by decide +kernel
theorem dX0_clearTo_30 : decode cX0_clearTo 30 = .ok (.aload_n 0, 1) := by decide +kernel
theorem dX0_clearTo_31 : decode cX0_clearTo 31 = .ok (.iconst 0, 1) := by decide +kernel
theorem dX0_clearTo_32 : decode cX0_clearTo 32 = .ok (.putfield 98, 3) := by decide +kernel
theorem dX0_clearTo_35 : decode cX0_clearTo 35 = .ok (.aload_n 0, 1) := by decide +kernel
theorem dX0_clearTo_36 : decode cX0_clearTo 36 = .ok (.iconst 0, 1) := by decide +kernel
theorem dX0_clearTo_37 : decode cX0_clearTo 37 = .ok (.putfield 115, 3) := by decide +kernel
theorem dX0_clearTo_40 : decode cX0_clearTo 40 = .ok (.aload_n 0, 1) := by decide +kernel
theorem dX0_clearTo_41 : decode cX0_clearTo 41 = .ok (.iconst 0, 1) := by decide +kernel
theorem dX0_clearTo_42 : decode cX0_clearTo 42 = .ok (.putfield 132, 3) := by decide +kernel
theorem dX0_clearTo_45 : decode cX0_clearTo 45 = .ok (.aload_n 0, 1) := by decide +kernel
theorem dX0_clearTo_46 : decode cX0_clearTo 46 = .ok (.getfield 26, 3) := by decide +kernel
theorem dX0_clearTo_49 : decode cX0_clearTo 49 = .ok (.iconst (-1), 1) := by decide +kernel
theorem dX0_clearTo_50 : decode cX0_clearTo 50 = .ok (.invokestatic 135, 3) := by decide +kernel
theorem dX0_clearTo_53 : decode cX0_clearTo 53 = .ok (.aload_n 0, 1) := by decide +kernel
theorem dX0_clearTo_54 : decode cX0_clearTo 54 = .ok (.getfield 29, 3) := by decide +kernel
theorem dX0_clearTo_57 : decode cX0_clearTo 57 = .ok (.iconst 0, 1) := by decide +kernel
theorem dX0_clearTo_58 : decode cX0_clearTo 58 = .ok (.invokestatic 135, 3) := by decide +kernel
theorem dX0_clearTo_61 : decode cX0_clearTo 61 = .ok (.aload_n 0, 1) := by decide +kernel
theorem dX0_clearTo_62 : decode cX0_clearTo 62 = .ok (.getfield 32, 3) := by decide +kernel
theorem dX0_clearTo_65 : decode cX0_clearTo 65 = .ok (.iconst 0, 1) := by decide +kernel
theorem dX0_clearTo_66 : decode cX0_clearTo 66 = .ok (.invokestatic 135, 3) := by decide +kernel
theorem dX0_clearTo_69 : decode cX0_clearTo 69 = .ok (.aload_n 0, 1) := by decide +kernel
theorem dX0_clearTo_70 : decode cX0_clearTo 70 = .ok (.getfield 35, 3) := by decide +kernel
theorem dX0_clearTo_73 : decode cX0_clearTo 73 = .ok (.iconst 0, 1) := by decide +kernel
theorem dX0_clearTo_74 : decode cX0_clearTo 74 = .ok (.invokestatic 135, 3) := by decide +kernel
theorem dX0_clearTo_77 : decode cX0_clearTo 77 = .ok (.aload_n 0, 1) := by decide +kernel
theorem dX0_clearTo_78 : decode cX0_clearTo 78 = .ok (.getfield 38, 3) := by decide +kernel
theorem dX0_clearTo_81 : decode cX0_clearTo 81 = .ok (.iconst 0, 1) := by decide +kernel
theorem dX0_clearTo_82 : decode cX0_clearTo 82 = .ok (.invokestatic 135, 3) := by decide +kernel
theorem dX0_clearTo_85 : decode cX0_clearTo 85 = .ok (.iconst 0, 1) := by decide +kernel
theorem dX0_clearTo_86 : decode cX0_clearTo 86 = .ok (.istore_n 2, 1) := by decide +kernel
theorem dX0_clearTo_87 : decode cX0_clearTo 87 = .ok (.iload_n 2, 1) := by decide +kernel
theorem dX0_clearTo_88 : decode cX0_clearTo 88 = .ok (.bipush 36, 2) := by decide +kernel
theorem dX0_clearTo_90 : decode cX0_clearTo 90 = .ok (.if_icmp .ge 16, 3) := by decide +kernel
theorem dX0_clearTo_93 : decode cX0_clearTo 93 = .ok (.aload_n 0, 1) := by decide +kernel
theorem dX0_clearTo_94 : decode cX0_clearTo 94 = .ok (.getfield 41, 3) := by decide +kernel
theorem dX0_clearTo_97 : decode cX0_clearTo 97 = .ok (.iload_n 2, 1) := by decide +kernel
theorem dX0_clearTo_98 : decode cX0_clearTo 98 = .ok (.iconst 0, 1) := by decide +kernel
theorem dX0_clearTo_99 : decode cX0_clearTo 99 = .ok (.bastore, 1) := by decide +kernel
theorem dX0_clearTo_100 : decode cX0_clearTo 100 = .ok (.iinc 2 1, 3) := by decide +kernel
theorem dX0_clearTo_103 : decode cX0_clearTo 103 = .ok (.goto (-16), 3) := by decide +kernel
theorem dX0_clearTo_106 : decode cX0_clearTo 106 = .ok (.return_, 1) := by decide +kernel
theorem dJ_fill_0 : decode cJ_fill 0 = .ok (.iconst 0, 1) := by decide +kernel
theorem dJ_fill_1 : decode cJ_fill 1 = .ok (.istore_n 2, 1) := by decide +kernel
theorem dJ_fill_2 : decode cJ_fill 2 = .ok (.aload_n 0, 1) := by decide +kernel
theorem dJ_fill_3 : decode cJ_fill 3 = .ok (.arraylength, 1) := by decide +kernel
theorem dJ_fill_4 : decode cJ_fill 4 = .ok (.istore_n 3, 1) := by decide +kernel
theorem dJ_fill_5 : decode cJ_fill 5 = .ok (.iload_n 2, 1) := by decide +kernel
theorem dJ_fill_6 : decode cJ_fill 6 = .ok (.iload_n 3, 1) := by decide +kernel
theorem dJ_fill_7 : decode cJ_fill 7 = .ok (.if_icmp .ge 13, 3) := by decide +kernel
theorem dJ_fill_10 : decode cJ_fill 10 = .ok (.aload_n 0, 1) := by decide +kernel
theorem dJ_fill_11 : decode cJ_fill 11 = .ok (.iload_n 2, 1) := by decide +kernel
theorem dJ_fill_12 : decode cJ_fill 12 = .ok (.iload_n 1, 1) := by decide +kernel
theorem dJ_fill_13 : decode cJ_fill 13 = .ok (.iastore, 1) := by decide +kernel
theorem dJ_fill_14 : decode cJ_fill 14 = .ok (.iinc 2 1, 3) := by decide +kernel
theorem dJ_fill_17 : decode cJ_fill 17 = .ok (.goto (-12), 3) := by decide +kernel
theorem dJ_fill_20 : decode cJ_fill 20 = .ok (.return_, 1) := by decide +kernel
theorem dL_begin_0 : decode cL_begin 0 = .ok (.aload_n 0, 1) := by decide +kernel
theorem dL_begin_1 : decode cL_begin 1 = .ok (.iload_n 1, 1) := by decide +kernel
theorem dL_begin_2 : decode cL_begin 2 = .ok (.invokevirtual 7, 3) := by decide +kernel
theorem dL_begin_5 : decode cL_begin 5 = .ok (.goto 6, 3) := by decide +kernel
theorem dL_begin_8 : decode cL_begin 8 = .ok (.astore_n 2, 1) := by decide +kernel
theorem dL_begin_9 : decode cL_begin 9 = .ok (.iconst 1, 1) := by decide +kernel
theorem dL_begin_10 : decode cL_begin 10 = .ok (.ireturn, 1) := by decide +kernel
theorem dL_begin_11 : decode cL_begin 11 = .ok (.iconst 0, 1) := by decide +kernel
theorem dL_begin_12 : decode cL_begin 12 = .ok (.ireturn, 1) := by decide +kernel
theorem dX0_begin_0 : decode cX0_begin 0 = .ok (.iload_n 1, 1) := by decide +kernel
theorem dX0_begin_1 : decode cX0_begin 1 = .ok (.iconst 1, 1) := by decide +kernel
theorem dX0_begin_2 : decode cX0_begin 2 = .ok (.if_icmp .lt 9, 3) := by decide +kernel
theorem dX0_begin_5 : decode cX0_begin 5 = .ok (.iload_n 1, 1) := by decide +kernel
theorem dX0_begin_6 : decode cX0_begin 6 = .ok (.bipush 6, 2) := by decide +kernel
theorem dX0_begin_8 : decode cX0_begin 8 = .ok (.if_icmp .le 13, 3) := by decide +kernel
theorem dX0_begin_11 : decode cX0_begin 11 = .ok (.new 48, 3) := by decide +kernel
theorem dX0_begin_14 : decode cX0_begin 14 = .ok (.dup, 1) := by decide +kernel
theorem dX0_begin_15 : decode cX0_begin 15 = .ok (.ldc 50, 2) := by decide +kernel
theorem dX0_begin_17 : decode cX0_begin 17 = .ok (.invokespecial 52, 3) := by decide +kernel
theorem dX0_begin_20 : decode cX0_begin 20 = .ok (.athrow, 1) := by decide +kernel
theorem dX0_begin_21 : decode cX0_begin 21 = .ok (.aload_n 0, 1) := by decide +kernel
theorem dX0_begin_22 : decode cX0_begin 22 = .ok (.iload_n 1, 1) := by decide +kernel
theorem dX0_begin_23 : decode cX0_begin 23 = .ok (.invokevirtual 44, 3) := by decide +kernel
theorem dX0_begin_26 : decode cX0_begin 26 = .ok (.return_, 1) := by decide +kernel
theorem dL_weights_0 : decode cL_weights 0 = .ok (.aload 7, 2) := by decide +kernel
theorem dL_weights_2 : decode cL_weights 2 = .ok (.iconst 0, 1) := by decide +kernel
theorem dL_weights_3 : decode cL_weights 3 = .ok (.aload_n 0, 1) := by decide +kernel
theorem dL_weights_4 : decode cL_weights 4 = .ok (.iload_n 1, 1) := by decide +kernel
theorem dL_weights_5 : decode cL_weights 5 = .ok (.iload_n 2, 1) := by decide +kernel
theorem dL_weights_6 : decode cL_weights 6 = .ok (.iload_n 3, 1) := by decide +kernel
theorem dL_weights_7 : decode cL_weights 7 = .ok (.iload 4, 2) := by decide +kernel
theorem dL_weights_9 : decode cL_weights 9 = .ok (.iload 5, 2) := by decide +kernel
theorem dL_weights_11 : decode cL_weights 11 = .ok (.iload 6, 2) := by decide +kernel
theorem dL_weights_13 : decode cL_weights 13 = .ok (.invokevirtual 15, 3) := by decide +kernel
theorem dL_weights_16 : decode cL_weights 16 = .ok (.i2l, 1) := by decide +kernel
theorem dL_weights_17 : decode cL_weights 17 = .ok (.lastore, 1) := by decide +kernel
theorem dL_weights_18 : decode cL_weights 18 = .ok (.goto 7, 3) := by decide +kernel
theorem dL_weights_21 : decode cL_weights 21 = .ok (.astore 8, 2) := by decide +kernel
theorem dL_weights_23 : decode cL_weights 23 = .ok (.iconst 1, 1) := by decide +kernel
theorem dL_weights_24 : decode cL_weights 24 = .ok (.ireturn, 1) := by decide +kernel
theorem dL_weights_25 : decode cL_weights 25 = .ok (.iconst 0, 1) := by decide +kernel
theorem dL_weights_26 : decode cL_weights 26 = .ok (.ireturn, 1) := by decide +kernel
theorem dX0_weights_0 : decode cX0_weights 0 = .ok (.aload_n 0, 1) := by decide +kernel
theorem dX0_weights_1 : decode cX0_weights 1 = .ok (.getfield 55, 3) := by decide +kernel
theorem dX0_weights_4 : decode cX0_weights 4 = .ok (.bipush 120, 2) := by decide +kernel
theorem dX0_weights_6 : decode cX0_weights 6 = .ok (.if_icmp .lt 13, 3) := by decide +kernel
theorem dX0_weights_9 : decode cX0_weights 9 = .ok (.new 59, 3) := by decide +kernel
theorem dX0_weights_12 : decode cX0_weights 12 = .ok (.dup, 1) := by decide +kernel
theorem dX0_weights_13 : decode cX0_weights 13 = .ok (.ldc 61, 2) := by decide +kernel
theorem dX0_weights_15 : decode cX0_weights 15 = .ok (.invokespecial 63, 3) := by decide +kernel
theorem dX0_weights_18 : decode cX0_weights 18 = .ok (.athrow, 1) := by decide +kernel
theorem dX0_weights_19 : decode cX0_weights 19 = .ok (.aload_n 0, 1) := by decide +kernel
theorem dX0_weights_20 : decode cX0_weights 20 = .ok (.getfield 55, 3) := by decide +kernel
theorem dX0_weights_23 : decode cX0_weights 23 = .ok (.istore 7, 2) := by decide +kernel
theorem dX0_weights_25 : decode cX0_weights 25 = .ok (.iload 7, 2) := by decide +kernel
theorem dX0_weights_27 : decode cX0_weights 27 = .ok (.bipush 6, 2) := by decide +kernel
theorem dX0_weights_29 : decode cX0_weights 29 = .ok (.imul, 1) := by decide +kernel
theorem dX0_weights_30 : decode cX0_weights 30 = .ok (.istore 8, 2) := by decide +kernel
theorem dX0_weights_32 : decode cX0_weights 32 = .ok (.aload_n 0, 1) := by decide +kernel
theorem dX0_weights_33 : decode cX0_weights 33 = .ok (.getfield 9, 3) := by decide +kernel
theorem dX0_weights_36 : decode cX0_weights 36 = .ok (.iload 8, 2) := by decide +kernel
theorem dX0_weights_38 : decode cX0_weights 38 = .ok (.iload_n 1, 1) := by decide +kernel
theorem dX0_weights_39 : decode cX0_weights 39 = .ok (.iastore, 1) := by decide +kernel
theorem dX0_weights_40 : decode cX0_weights 40 = .ok (.aload_n 0, 1) := by decide +kernel
theorem dX0_weights_41 : decode cX0_weights 41 = .ok (.getfield 9, 3) := by decide +kernel
theorem dX0_weights_44 : decode cX0_weights 44 = .ok (.iload 8, 2) := by decide +kernel
theorem dX0_weights_46 : decode cX0_weights 46 = .ok (.iconst 1, 1) := by decide +kernel
theorem dX0_weights_47 : decode cX0_weights 47 = .ok (.iadd, 1) := by decide +kernel
theorem dX0_weights_48 : decode cX0_weights 48 = .ok (.iload_n 2, 1) := by decide +kernel
theorem dX0_weights_49 : decode cX0_weights 49 = .ok (.iastore, 1) := by decide +kernel
theorem dX0_weights_50 : decode cX0_weights 50 = .ok (.aload_n 0, 1) := by decide +kernel
theorem dX0_weights_51 : decode cX0_weights 51 = .ok (.getfield 9, 3) := by decide +kernel
theorem dX0_weights_54 : decode cX0_weights 54 = .ok (.iload 8, 2) := by decide +kernel
theorem dX0_weights_56 : decode cX0_weights 56 = .ok (.iconst 2, 1) := by decide +kernel
theorem dX0_weights_57 : decode cX0_weights 57 = .ok (.iadd, 1) := by decide +kernel
theorem dX0_weights_58 : decode cX0_weights 58 = .ok (.iload_n 3, 1) := by decide +kernel
theorem dX0_weights_59 : decode cX0_weights 59 = .ok (.iastore, 1) := by decide +kernel
theorem dX0_weights_60 : decode cX0_weights 60 = .ok (.aload_n 0, 1) := by decide +kernel
theorem dX0_weights_61 : decode cX0_weights 61 = .ok (.getfield 9, 3) := by decide +kernel
theorem dX0_weights_64 : decode cX0_weights 64 = .ok (.iload 8, 2) := by decide +kernel
theorem dX0_weights_66 : decode cX0_weights 66 = .ok (.iconst 3, 1) := by decide +kernel
theorem dX0_weights_67 : decode cX0_weights 67 = .ok (.iadd, 1) := by decide +kernel
theorem dX0_weights_68 : decode cX0_weights 68 = .ok (.iload 4, 2) := by decide +kernel
theorem dX0_weights_70 : decode cX0_weights 70 = .ok (.iastore, 1) := by decide +kernel
theorem dX0_weights_71 : decode cX0_weights 71 = .ok (.aload_n 0, 1) := by decide +kernel
theorem dX0_weights_72 : decode cX0_weights 72 = .ok (.getfield 9, 3) := by decide +kernel
theorem dX0_weights_75 : decode cX0_weights 75 = .ok (.iload 8, 2) := by decide +kernel
theorem dX0_weights_77 : decode cX0_weights 77 = .ok (.iconst 4, 1) := by decide +kernel
theorem dX0_weights_78 : decode cX0_weights 78 = .ok (.iadd, 1) := by decide +kernel
theorem dX0_weights_79 : decode cX0_weights 79 = .ok (.iload 5, 2) := by decide +kernel
theorem dX0_weights_81 : decode cX0_weights 81 = .ok (.iastore, 1) := by decide +kernel
theorem dX0_weights_82 : decode cX0_weights 82 = .ok (.aload_n 0, 1) := by decide +kernel
theorem dX0_weights_83 : decode cX0_weights 83 = .ok (.getfield 9, 3) := by decide +kernel
theorem dX0_weights_86 : decode cX0_weights 86 = .ok (.iload 8, 2) := by decide +kernel
theorem dX0_weights_88 : decode cX0_weights 88 = .ok (.iconst 5, 1) := by decide +kernel
theorem dX0_weights_89 : decode cX0_weights 89 = .ok (.iadd, 1) := by decide +kernel
theorem dX0_weights_90 : decode cX0_weights 90 = .ok (.iload 6, 2) := by decide +kernel
theorem dX0_weights_92 : decode cX0_weights 92 = .ok (.iastore, 1) := by decide +kernel
theorem dX0_weights_93 : decode cX0_weights 93 = .ok (.aload_n 0, 1) := by decide +kernel
theorem dX0_weights_94 : decode cX0_weights 94 = .ok (.iload 7, 2) := by decide +kernel
theorem dX0_weights_96 : decode cX0_weights 96 = .ok (.iconst 1, 1) := by decide +kernel
theorem dX0_weights_97 : decode cX0_weights 97 = .ok (.iadd, 1) := by decide +kernel
theorem dX0_weights_98 : decode cX0_weights 98 = .ok (.putfield 55, 3) := by decide +kernel
theorem dX0_weights_101 : decode cX0_weights 101 = .ok (.iload 7, 2) := by decide +kernel
theorem dX0_weights_103 : decode cX0_weights 103 = .ok (.ireturn, 1) := by decide +kernel
theorem dL_vector_0 : decode cL_vector 0 = .ok (.aload 8, 2) := by decide +kernel
theorem dL_vector_2 : decode cL_vector 2 = .ok (.iconst 0, 1) := by decide +kernel
theorem dL_vector_3 : decode cL_vector 3 = .ok (.aload_n 0, 1) := by decide +kernel
theorem dL_vector_4 : decode cL_vector 4 = .ok (.iload_n 1, 1) := by decide +kernel
theorem dL_vector_5 : decode cL_vector 5 = .ok (.iload_n 2, 1) := by decide +kernel
theorem dL_vector_6 : decode cL_vector 6 = .ok (.iload_n 3, 1) := by decide +kernel
theorem dL_vector_7 : decode cL_vector 7 = .ok (.iload 4, 2) := by decide +kernel
theorem dL_vector_9 : decode cL_vector 9 = .ok (.iload 5, 2) := by decide +kernel
theorem dL_vector_11 : decode cL_vector 11 = .ok (.iload 6, 2) := by decide +kernel
theorem dL_vector_13 : decode cL_vector 13 = .ok (.iload 7, 2) := by decide +kernel
theorem dL_vector_15 : decode cL_vector 15 = .ok (.invokevirtual 21, 3) := by decide +kernel
theorem dL_vector_18 : decode cL_vector 18 = .ok (.i2l, 1) := by decide +kernel
theorem dL_vector_19 : decode cL_vector 19 = .ok (.lastore, 1) := by decide +kernel
theorem dL_vector_20 : decode cL_vector 20 = .ok (.goto 7, 3) := by decide +kernel
theorem dL_vector_23 : decode cL_vector 23 = .ok (.astore 9, 2) := by decide +kernel
theorem dL_vector_25 : decode cL_vector 25 = .ok (.iconst 1, 1) := by decide +kernel
theorem dL_vector_26 : decode cL_vector 26 = .ok (.ireturn, 1) := by decide +kernel
theorem dL_vector_27 : decode cL_vector 27 = .ok (.iconst 0, 1) := by decide +kernel
theorem dL_vector_28 : decode cL_vector 28 = .ok (.ireturn, 1) := by decide +kernel
theorem dX0_vector_0 : decode cX0_vector 0 = .ok (.aload_n 0, 1) := by decide +kernel
theorem dX0_vector_1 : decode cX0_vector 1 = .ok (.getfield 64, 3) := by decide +kernel
theorem dX0_vector_4 : decode cX0_vector 4 = .ok (.sipush 200, 3) := by decide +kernel
theorem dX0_vector_7 : decode cX0_vector 7 = .ok (.if_icmp .lt 13, 3) := by decide +kernel
theorem dX0_vector_10 : decode cX0_vector 10 = .ok (.new 59, 3) := by decide +kernel
theorem dX0_vector_13 : decode cX0_vector 13 = .ok (.dup, 1) := by decide +kernel
theorem dX0_vector_14 : decode cX0_vector 14 = .ok (.ldc 67, 2) := by decide +kernel
theorem dX0_vector_16 : decode cX0_vector 16 = .ok (.invokespecial 63, 3) := by decide +kernel
theorem dX0_vector_19 : decode cX0_vector 19 = .ok (.athrow, 1) := by decide +kernel
theorem dX0_vector_20 : decode cX0_vector 20 = .ok (.aload_n 0, 1) := by decide +kernel
theorem dX0_vector_21 : decode cX0_vector 21 = .ok (.getfield 64, 3) := by decide +kernel
theorem dX0_vector_24 : decode cX0_vector 24 = .ok (.istore 8, 2) := by decide +kernel
theorem dX0_vector_26 : decode cX0_vector 26 = .ok (.iload 8, 2) := by decide +kernel
theorem dX0_vector_28 : decode cX0_vector 28 = .ok (.bipush 6, 2) := by decide +kernel
theorem dX0_vector_30 : decode cX0_vector 30 = .ok (.imul, 1) := by decide +kernel
theorem dX0_vector_31 : decode cX0_vector 31 = .ok (.istore 9, 2) := by decide +kernel
theorem dX0_vector_33 : decode cX0_vector 33 = .ok (.aload_n 0, 1) := by decide +kernel
theorem dX0_vector_34 : decode cX0_vector 34 = .ok (.getfield 13, 3) := by decide +kernel
theorem dX0_vector_37 : decode cX0_vector 37 = .ok (.iload 9, 2) := by decide +kernel
theorem dX0_vector_39 : decode cX0_vector 39 = .ok (.iload_n 2, 1) := by decide +kernel
theorem dX0_vector_40 : decode cX0_vector 40 = .ok (.iastore, 1) := by decide +kernel
theorem dX0_vector_41 : decode cX0_vector 41 = .ok (.aload_n 0, 1) := by decide +kernel
theorem dX0_vector_42 : decode cX0_vector 42 = .ok (.getfield 13, 3) := by decide +kernel
theorem dX0_vector_45 : decode cX0_vector 45 = .ok (.iload 9, 2) := by decide +kernel
theorem dX0_vector_47 : decode cX0_vector 47 = .ok (.iconst 1, 1) := by decide +kernel
theorem dX0_vector_48 : decode cX0_vector 48 = .ok (.iadd, 1) := by decide +kernel
theorem dX0_vector_49 : decode cX0_vector 49 = .ok (.iload_n 3, 1) := by decide +kernel
theorem dX0_vector_50 : decode cX0_vector 50 = .ok (.iastore, 1) := by decide +kernel
theorem dX0_vector_51 : decode cX0_vector 51 = .ok (.aload_n 0, 1) := by decide +kernel
theorem dX0_vector_52 : decode cX0_vector 52 = .ok (.getfield 13, 3) := by decide +kernel
theorem dX0_vector_55 : decode cX0_vector 55 = .ok (.iload 9, 2) := by decide +kernel
theorem dX0_vector_57 : decode cX0_vector 57 = .ok (.iconst 2, 1) := by decide +kernel
theorem dX0_vector_58 : decode cX0_vector 58 = .ok (.iadd, 1) := by decide +kernel
theorem dX0_vector_59 : decode cX0_vector 59 = .ok (.iload 4, 2) := by decide +kernel
theorem dX0_vector_61 : decode cX0_vector 61 = .ok (.iastore, 1) := by decide +kernel
theorem dX0_vector_62 : decode cX0_vector 62 = .ok (.aload_n 0, 1) := by decide +kernel
theorem dX0_vector_63 : decode cX0_vector 63 = .ok (.getfield 13, 3) := by decide +kernel
theorem dX0_vector_66 : decode cX0_vector 66 = .ok (.iload 9, 2) := by decide +kernel
theorem dX0_vector_68 : decode cX0_vector 68 = .ok (.iconst 3, 1) := by decide +kernel
theorem dX0_vector_69 : decode cX0_vector 69 = .ok (.iadd, 1) := by decide +kernel
theorem dX0_vector_70 : decode cX0_vector 70 = .ok (.iload 5, 2) := by decide +kernel
theorem dX0_vector_72 : decode cX0_vector 72 = .ok (.iastore, 1) := by decide +kernel
theorem dX0_vector_73 : decode cX0_vector 73 = .ok (.aload_n 0, 1) := by decide +kernel
theorem dX0_vector_74 : decode cX0_vector 74 = .ok (.getfield 13, 3) := by decide +kernel
theorem dX0_vector_77 : decode cX0_vector 77 = .ok (.iload 9, 2) := by decide +kernel
theorem dX0_vector_79 : decode cX0_vector 79 = .ok (.iconst 4, 1) := by decide +kernel
theorem dX0_vector_80 : decode cX0_vector 80 = .ok (.iadd, 1) := by decide +kernel
theorem dX0_vector_81 : decode cX0_vector 81 = .ok (.iload 6, 2) := by decide +kernel
theorem dX0_vector_83 : decode cX0_vector 83 = .ok (.iastore, 1) := by decide +kernel
theorem dX0_vector_84 : decode cX0_vector 84 = .ok (.aload_n 0, 1) := by decide +kernel
theorem dX0_vector_85 : decode cX0_vector 85 = .ok (.getfield 13, 3) := by decide +kernel
theorem dX0_vector_88 : decode cX0_vector 88 = .ok (.iload 9, 2) := by decide +kernel
theorem dX0_vector_90 : decode cX0_vector 90 = .ok (.iconst 5, 1) := by decide +kernel
theorem dX0_vector_91 : decode cX0_vector 91 = .ok (.iadd, 1) := by decide +kernel
theorem dX0_vector_92 : decode cX0_vector 92 = .ok (.iload 7, 2) := by decide +kernel
theorem dX0_vector_94 : decode cX0_vector 94 = .ok (.iastore, 1) := by decide +kernel
theorem dX0_vector_95 : decode cX0_vector 95 = .ok (.aload_n 0, 1) := by decide +kernel
theorem dX0_vector_96 : decode cX0_vector 96 = .ok (.getfield 19, 3) := by decide +kernel
theorem dX0_vector_99 : decode cX0_vector 99 = .ok (.iload 8, 2) := by decide +kernel
theorem dX0_vector_101 : decode cX0_vector 101 = .ok (.iload_n 1, 1) := by decide +kernel
theorem dX0_vector_102 : decode cX0_vector 102 = .ok (.bastore, 1) := by decide +kernel
theorem dX0_vector_103 : decode cX0_vector 103 = .ok (.aload_n 0, 1) := by decide +kernel
theorem dX0_vector_104 : decode cX0_vector 104 = .ok (.iload 8, 2) := by decide +kernel
theorem dX0_vector_106 : decode cX0_vector 106 = .ok (.iconst 1, 1) := by decide +kernel
theorem dX0_vector_107 : decode cX0_vector 107 = .ok (.iadd, 1) := by decide +kernel
theorem dX0_vector_108 : decode cX0_vector 108 = .ok (.putfield 64, 3) := by decide +kernel
theorem dX0_vector_111 : decode cX0_vector 111 = .ok (.iload 8, 2) := by decide +kernel
theorem dX0_vector_113 : decode cX0_vector 113 = .ok (.ireturn, 1) := by decide +kernel
theorem dL_cycle_0 : decode cL_cycle 0 = .ok (.aload_n 2, 1) := by decide +kernel
theorem dL_cycle_1 : decode cL_cycle 1 = .ok (.iconst 0, 1) := by decide +kernel
theorem dL_cycle_2 : decode cL_cycle 2 = .ok (.aload_n 0, 1) := by decide +kernel
theorem dL_cycle_3 : decode cL_cycle 3 = .ok (.iload_n 1, 1) := by decide +kernel
theorem dL_cycle_4 : decode cL_cycle 4 = .ok (.invokevirtual 25, 3) := by decide +kernel
theorem dL_cycle_7 : decode cL_cycle 7 = .ok (.i2l, 1) := by decide +kernel
theorem dL_cycle_8 : decode cL_cycle 8 = .ok (.lastore, 1) := by decide +kernel
theorem dL_cycle_9 : decode cL_cycle 9 = .ok (.goto 6, 3) := by decide +kernel
theorem dL_cycle_12 : decode cL_cycle 12 = .ok (.astore_n 3, 1) := by decide +kernel
theorem dL_cycle_13 : decode cL_cycle 13 = .ok (.iconst 1, 1) := by decide +kernel
theorem dL_cycle_14 : decode cL_cycle 14 = .ok (.ireturn, 1) := by decide +kernel
theorem dL_cycle_15 : decode cL_cycle 15 = .ok (.iconst 0, 1) := by decide +kernel
theorem dL_cycle_16 : decode cL_cycle 16 = .ok (.ireturn, 1) := by decide +kernel
theorem dX0_cycle_0 : decode cX0_cycle 0 = .ok (.iload_n 1, 1) := by decide +kernel
theorem dX0_cycle_1 : decode cX0_cycle 1 = .ok (.ifCond .lt 14, 3) := by decide +kernel
theorem dX0_cycle_4 : decode cX0_cycle 4 = .ok (.iload_n 1, 1) := by decide +kernel
theorem dX0_cycle_5 : decode cX0_cycle 5 = .ok (.ldc 69, 2) := by decide +kernel
theorem dX0_cycle_7 : decode cX0_cycle 7 = .ok (.aload_n 0, 1) := by decide +kernel
theorem dX0_cycle_8 : decode cX0_cycle 8 = .ok (.getfield 70, 3) := by decide +kernel
theorem dX0_cycle_11 : decode cX0_cycle 11 = .ok (.isub, 1) := by decide +kernel
theorem dX0_cycle_12 : decode cX0_cycle 12 = .ok (.if_icmp .le 13, 3) := by decide +kernel
theorem dX0_cycle_15 : decode cX0_cycle 15 = .ok (.new 48, 3) := by decide +kernel
theorem dX0_cycle_18 : decode cX0_cycle 18 = .ok (.dup, 1) := by decide +kernel
theorem dX0_cycle_19 : decode cX0_cycle 19 = .ok (.ldc 73, 2) := by decide +kernel
theorem dX0_cycle_21 : decode cX0_cycle 21 = .ok (.invokespecial 52, 3) := by decide +kernel
theorem dX0_cycle_24 : decode cX0_cycle 24 = .ok (.athrow, 1) := by decide +kernel
theorem dX0_cycle_25 : decode cX0_cycle 25 = .ok (.aload_n 0, 1) := by decide +kernel
theorem dX0_cycle_26 : decode cX0_cycle 26 = .ok (.getfield 70, 3) := by decide +kernel
theorem dX0_cycle_29 : decode cX0_cycle 29 = .ok (.iload_n 1, 1) := by decide +kernel
theorem dX0_cycle_30 : decode cX0_cycle 30 = .ok (.iadd, 1) := by decide +kernel
theorem dX0_cycle_31 : decode cX0_cycle 31 = .ok (.istore_n 2, 1) := by decide +kernel
theorem dX0_cycle_32 : decode cX0_cycle 32 = .ok (.iconst 0, 1) := by decide +kernel
theorem dX0_cycle_33 : decode cX0_cycle 33 = .ok (.istore_n 3, 1) := by decide +kernel
theorem dX0_cycle_34 : decode cX0_cycle 34 = .ok (.iload_n 3, 1) := by decide +kernel
theorem dX0_cycle_35 : decode cX0_cycle 35 = .ok (.iload_n 1, 1) := by decide +kernel
theorem dX0_cycle_36 : decode cX0_cycle 36 = .ok (.if_icmp .ge 20, 3) := by decide +kernel
theorem dX0_cycle_39 : decode cX0_cycle 39 = .ok (.aload_n 0, 1) := by decide +kernel
theorem dX0_cycle_40 : decode cX0_cycle 40 = .ok (.invokevirtual 75, 3) := by decide +kernel
theorem dX0_cycle_43 : decode cX0_cycle 43 = .ok (.ifCond .ne 13, 3) := by decide +kernel
theorem dX0_cycle_46 : decode cX0_cycle 46 = .ok (.aload_n 0, 1) := by decide +kernel
theorem dX0_cycle_47 : decode cX0_cycle 47 = .ok (.invokevirtual 79, 3) := by decide +kernel
theorem dX0_cycle_50 : decode cX0_cycle 50 = .ok (.iinc 3 1, 3) := by decide +kernel
theorem dX0_cycle_53 : decode cX0_cycle 53 = .ok (.goto (-19), 3) := by decide +kernel
theorem dX0_cycle_56 : decode cX0_cycle 56 = .ok (.aload_n 0, 1) := by decide +kernel
theorem dX0_cycle_57 : decode cX0_cycle 57 = .ok (.iload_n 2, 1) := by decide +kernel
theorem dX0_cycle_58 : decode cX0_cycle 58 = .ok (.putfield 70, 3) := by decide +kernel
theorem dX0_cycle_61 : decode cX0_cycle 61 = .ok (.iload_n 2, 1) := by decide +kernel
theorem dX0_cycle_62 : decode cX0_cycle 62 = .ok (.ireturn, 1) := by decide +kernel
theorem dX0_isAtRest_0 : decode cX0_isAtRest 0 = .ok (.aload_n 0, 1) := by decide +kernel
theorem dX0_isAtRest_1 : decode cX0_isAtRest 1 = .ok (.invokevirtual 141, 3) := by decide +kernel
theorem dX0_isAtRest_4 : decode cX0_isAtRest 4 = .ok (.ifCond .ne 27, 3) := by decide +kernel
theorem dX0_isAtRest_7 : decode cX0_isAtRest 7 = .ok (.aload_n 0, 1) := by decide +kernel
theorem dX0_isAtRest_8 : decode cX0_isAtRest 8 = .ok (.aload_n 0, 1) := by decide +kernel
theorem dX0_isAtRest_9 : decode cX0_isAtRest 9 = .ok (.getfield 70, 3) := by decide +kernel
theorem dX0_isAtRest_12 : decode cX0_isAtRest 12 = .ok (.iconst 1, 1) := by decide +kernel
theorem dX0_isAtRest_13 : decode cX0_isAtRest 13 = .ok (.iadd, 1) := by decide +kernel
theorem dX0_isAtRest_14 : decode cX0_isAtRest 14 = .ok (.invokevirtual 144, 3) := by decide +kernel
theorem dX0_isAtRest_17 : decode cX0_isAtRest 17 = .ok (.ifCond .ne 14, 3) := by decide +kernel
theorem dX0_isAtRest_20 : decode cX0_isAtRest 20 = .ok (.aload_n 0, 1) := by decide +kernel
theorem dX0_isAtRest_21 : decode cX0_isAtRest 21 = .ok (.invokevirtual 121, 3) := by decide +kernel
theorem dX0_isAtRest_24 : decode cX0_isAtRest 24 = .ok (.ifCond .ne 7, 3) := by decide +kernel
theorem dX0_isAtRest_27 : decode cX0_isAtRest 27 = .ok (.iconst 1, 1) := by decide +kernel
theorem dX0_isAtRest_28 : decode cX0_isAtRest 28 = .ok (.goto 4, 3) := by decide +kernel
theorem dX0_isAtRest_31 : decode cX0_isAtRest 31 = .ok (.iconst 0, 1) := by decide +kernel
theorem dX0_isAtRest_32 : decode cX0_isAtRest 32 = .ok (.ireturn, 1) := by decide +kernel
theorem dX0_canVectorEnter_0 : decode cX0_canVectorEnter 0 = .ok (.aload_n 0, 1) := by decide +kernel
theorem dX0_canVectorEnter_1 : decode cX0_canVectorEnter 1 = .ok (.getfield 98, 3) := by decide +kernel
theorem dX0_canVectorEnter_4 : decode cX0_canVectorEnter 4 = .ok (.aload_n 0, 1) := by decide +kernel
theorem dX0_canVectorEnter_5 : decode cX0_canVectorEnter 5 = .ok (.getfield 64, 3) := by decide +kernel
theorem dX0_canVectorEnter_8 : decode cX0_canVectorEnter 8 = .ok (.if_icmp .ge 26, 3) := by decide +kernel
theorem dX0_canVectorEnter_11 : decode cX0_canVectorEnter 11 = .ok (.aload_n 0, 1) := by decide +kernel
theorem dX0_canVectorEnter_12 : decode cX0_canVectorEnter 12 = .ok (.getfield 19, 3) := by decide +kernel
theorem dX0_canVectorEnter_15 : decode cX0_canVectorEnter 15 = .ok (.aload_n 0, 1) := by decide +kernel
theorem dX0_canVectorEnter_16 : decode cX0_canVectorEnter 16 = .ok (.getfield 98, 3) := by decide +kernel
theorem dX0_canVectorEnter_19 : decode cX0_canVectorEnter 19 = .ok (.baload, 1) := by decide +kernel
theorem dX0_canVectorEnter_20 : decode cX0_canVectorEnter 20 = .ok (.ifCond .eq 10, 3) := by decide +kernel
theorem dX0_canVectorEnter_23 : decode cX0_canVectorEnter 23 = .ok (.aload_n 0, 1) := by decide +kernel
theorem dX0_canVectorEnter_24 : decode cX0_canVectorEnter 24 = .ok (.invokevirtual 118, 3) := by decide +kernel
theorem dX0_canVectorEnter_27 : decode cX0_canVectorEnter 27 = .ok (.ifCond .eq 7, 3) := by decide +kernel
theorem dX0_canVectorEnter_30 : decode cX0_canVectorEnter 30 = .ok (.iconst 1, 1) := by decide +kernel
theorem dX0_canVectorEnter_31 : decode cX0_canVectorEnter 31 = .ok (.goto 4, 3) := by decide +kernel
theorem dX0_canVectorEnter_34 : decode cX0_canVectorEnter 34 = .ok (.iconst 0, 1) := by decide +kernel
theorem dX0_canVectorEnter_35 : decode cX0_canVectorEnter 35 = .ok (.ireturn, 1) := by decide +kernel
theorem dX0_isSetComplete_0 : decode cX0_isSetComplete 0 = .ok (.aload_n 0, 1) := by decide +kernel
theorem dX0_isSetComplete_1 : decode cX0_isSetComplete 1 = .ok (.getfield 129, 3) := by decide +kernel
theorem dX0_isSetComplete_4 : decode cX0_isSetComplete 4 = .ok (.aload_n 0, 1) := by decide +kernel
theorem dX0_isSetComplete_5 : decode cX0_isSetComplete 5 = .ok (.getfield 124, 3) := by decide +kernel
theorem dX0_isSetComplete_8 : decode cX0_isSetComplete 8 = .ok (.if_icmp .ne 7, 3) := by decide +kernel
theorem dX0_isSetComplete_11 : decode cX0_isSetComplete 11 = .ok (.iconst 1, 1) := by decide +kernel
theorem dX0_isSetComplete_12 : decode cX0_isSetComplete 12 = .ok (.goto 4, 3) := by decide +kernel
theorem dX0_isSetComplete_15 : decode cX0_isSetComplete 15 = .ok (.iconst 0, 1) := by decide +kernel
theorem dX0_isSetComplete_16 : decode cX0_isSetComplete 16 = .ok (.ireturn, 1) := by decide +kernel
theorem dX0_canRowComeIn_0 : decode cX0_canRowComeIn 0 = .ok (.aload_n 0, 1) := by decide +kernel
theorem dX0_canRowComeIn_1 : decode cX0_canRowComeIn 1 = .ok (.getfield 112, 3) := by decide +kernel
theorem dX0_canRowComeIn_4 : decode cX0_canRowComeIn 4 = .ok (.aload_n 0, 1) := by decide +kernel
theorem dX0_canRowComeIn_5 : decode cX0_canRowComeIn 5 = .ok (.getfield 55, 3) := by decide +kernel
theorem dX0_canRowComeIn_8 : decode cX0_canRowComeIn 8 = .ok (.if_icmp .ge 34, 3) := by decide +kernel
theorem dX0_canRowComeIn_11 : decode cX0_canRowComeIn 11 = .ok (.aload_n 0, 1) := by decide +kernel
theorem dX0_canRowComeIn_12 : decode cX0_canRowComeIn 12 = .ok (.invokevirtual 118, 3) := by decide +kernel
theorem dX0_canRowComeIn_15 : decode cX0_canRowComeIn 15 = .ok (.ifCond .ne 27, 3) := by decide +kernel
theorem dX0_canRowComeIn_18 : decode cX0_canRowComeIn 18 = .ok (.aload_n 0, 1) := by decide +kernel
theorem dX0_canRowComeIn_19 : decode cX0_canRowComeIn 19 = .ok (.getfield 115, 3) := by decide +kernel
theorem dX0_canRowComeIn_22 : decode cX0_canRowComeIn 22 = .ok (.ifCond .eq 16, 3) := by decide +kernel
theorem dX0_canRowComeIn_25 : decode cX0_canRowComeIn 25 = .ok (.iload_n 1, 1) := by decide +kernel
theorem dX0_canRowComeIn_26 : decode cX0_canRowComeIn 26 = .ok (.aload_n 0, 1) := by decide +kernel
theorem dX0_canRowComeIn_27 : decode cX0_canRowComeIn 27 = .ok (.getfield 132, 3) := by decide +kernel
theorem dX0_canRowComeIn_30 : decode cX0_canRowComeIn 30 = .ok (.isub, 1) := by decide +kernel
theorem dX0_canRowComeIn_31 : decode cX0_canRowComeIn 31 = .ok (.aload_n 0, 1) := by decide +kernel
theorem dX0_canRowComeIn_32 : decode cX0_canRowComeIn 32 = .ok (.invokevirtual 103, 3) := by decide +kernel
theorem dX0_canRowComeIn_35 : decode cX0_canRowComeIn 35 = .ok (.if_icmp .le 7, 3) := by decide +kernel
theorem dX0_canRowComeIn_38 : decode cX0_canRowComeIn 38 = .ok (.iconst 1, 1) := by decide +kernel
theorem dX0_canRowComeIn_39 : decode cX0_canRowComeIn 39 = .ok (.goto 4, 3) := by decide +kernel
theorem dX0_canRowComeIn_42 : decode cX0_canRowComeIn 42 = .ok (.iconst 0, 1) := by decide +kernel
theorem dX0_canRowComeIn_43 : decode cX0_canRowComeIn 43 = .ok (.ireturn, 1) := by decide +kernel
theorem dX0_crossing_0 : decode cX0_crossing 0 = .ok (.iconst 2, 1) := by decide +kernel
theorem dX0_crossing_1 : decode cX0_crossing 1 = .ok (.aload_n 0, 1) := by decide +kernel
theorem dX0_crossing_2 : decode cX0_crossing 2 = .ok (.getfield 124, 3) := by decide +kernel
theorem dX0_crossing_5 : decode cX0_crossing 5 = .ok (.imul, 1) := by decide +kernel
theorem dX0_crossing_6 : decode cX0_crossing 6 = .ok (.iconst 2, 1) := by decide +kernel
theorem dX0_crossing_7 : decode cX0_crossing 7 = .ok (.isub, 1) := by decide +kernel
theorem dX0_crossing_8 : decode cX0_crossing 8 = .ok (.ireturn, 1) := by decide +kernel
theorem dX0_countReachedCells_0 : decode cX0_countReachedCells 0 = .ok (.iconst 0, 1) := by decide +kernel
theorem dX0_countReachedCells_1 : decode cX0_countReachedCells 1 = .ok (.istore_n 1, 1) := by decide +kernel
theorem dX0_countReachedCells_2 : decode cX0_countReachedCells 2 = .ok (.iconst 0, 1) := by decide +kernel
theorem dX0_countReachedCells_3 : decode cX0_countReachedCells 3 = .ok (.istore_n 2, 1) := by decide +kernel
theorem dX0_countReachedCells_4 : decode cX0_countReachedCells 4 = .ok (.iload_n 2, 1) := by decide +kernel
theorem dX0_countReachedCells_5 : decode cX0_countReachedCells 5 = .ok (.aload_n 0, 1) := by decide +kernel
theorem dX0_countReachedCells_6 : decode cX0_countReachedCells 6 = .ok (.getfield 124, 3) := by decide +kernel
theorem dX0_countReachedCells_9 : decode cX0_countReachedCells 9 = .ok (.if_icmp .ge 40, 3) := by decide +kernel
theorem dX0_countReachedCells_12 : decode cX0_countReachedCells 12 = .ok (.iconst 0, 1) := by decide +kernel
theorem dX0_countReachedCells_13 : decode cX0_countReachedCells 13 = .ok (.istore_n 3, 1) := by decide +kernel
theorem dX0_countReachedCells_14 : decode cX0_countReachedCells 14 = .ok (.iload_n 3, 1) := by decide +kernel
theorem dX0_countReachedCells_15 : decode cX0_countReachedCells 15 = .ok (.aload_n 0, 1) := by decide +kernel
theorem dX0_countReachedCells_16 : decode cX0_countReachedCells 16 = .ok (.getfield 124, 3) := by decide +kernel
theorem dX0_countReachedCells_19 : decode cX0_countReachedCells 19 = .ok (.if_icmp .ge 24, 3) := by decide +kernel
theorem dX0_countReachedCells_22 : decode cX0_countReachedCells 22 = .ok (.aload_n 0, 1) := by decide +kernel
theorem dX0_countReachedCells_23 : decode cX0_countReachedCells 23 = .ok (.getfield 26, 3) := by decide +kernel
theorem dX0_countReachedCells_26 : decode cX0_countReachedCells 26 = .ok (.iload_n 2, 1) := by decide +kernel
theorem dX0_countReachedCells_27 : decode cX0_countReachedCells 27 = .ok (.iload_n 3, 1) := by decide +kernel
theorem dX0_countReachedCells_28 : decode cX0_countReachedCells 28 = .ok (.iadd, 1) := by decide +kernel
theorem dX0_countReachedCells_29 : decode cX0_countReachedCells 29 = .ok (.iaload, 1) := by decide +kernel
theorem dX0_countReachedCells_30 : decode cX0_countReachedCells 30 = .ok (.iconst (-1), 1) := by decide +kernel
theorem dX0_countReachedCells_31 : decode cX0_countReachedCells 31 = .ok (.if_icmp .eq 6, 3) := by decide +kernel
theorem dX0_countReachedCells_34 : decode cX0_countReachedCells 34 = .ok (.iinc 1 1, 3) := by decide +kernel
theorem dX0_countReachedCells_37 : decode cX0_countReachedCells 37 = .ok (.iinc 3 1, 3) := by decide +kernel
theorem dX0_countReachedCells_40 : decode cX0_countReachedCells 40 = .ok (.goto (-26), 3) := by decide +kernel
theorem dX0_countReachedCells_43 : decode cX0_countReachedCells 43 = .ok (.iinc 2 1, 3) := by decide +kernel
theorem dX0_countReachedCells_46 : decode cX0_countReachedCells 46 = .ok (.goto (-42), 3) := by decide +kernel
theorem dX0_countReachedCells_49 : decode cX0_countReachedCells 49 = .ok (.iload_n 1, 1) := by decide +kernel
theorem dX0_countReachedCells_50 : decode cX0_countReachedCells 50 = .ok (.ireturn, 1) := by decide +kernel
theorem dX0_runCycle_0 : decode cX0_runCycle 0 = .ok (.aload_n 0, 1) := by decide +kernel
theorem dX0_runCycle_1 : decode cX0_runCycle 1 = .ok (.dup, 1) := by decide +kernel
theorem dX0_runCycle_2 : decode cX0_runCycle 2 = .ok (.getfield 70, 3) := by decide +kernel
theorem dX0_runCycle_5 : decode cX0_runCycle 5 = .ok (.iconst 1, 1) := by decide +kernel
theorem dX0_runCycle_6 : decode cX0_runCycle 6 = .ok (.iadd, 1) := by decide +kernel
theorem dX0_runCycle_7 : decode cX0_runCycle 7 = .ok (.putfield 70, 3) := by decide +kernel
theorem dX0_runCycle_10 : decode cX0_runCycle 10 = .ok (.aload_n 0, 1) := by decide +kernel
theorem dX0_runCycle_11 : decode cX0_runCycle 11 = .ok (.invokevirtual 147, 3) := by decide +kernel
theorem dX0_runCycle_14 : decode cX0_runCycle 14 = .ok (.aload_n 0, 1) := by decide +kernel
theorem dX0_runCycle_15 : decode cX0_runCycle 15 = .ok (.invokevirtual 141, 3) := by decide +kernel
theorem dX0_runCycle_18 : decode cX0_runCycle 18 = .ok (.ifCond .eq 7, 3) := by decide +kernel
theorem dX0_runCycle_21 : decode cX0_runCycle 21 = .ok (.aload_n 0, 1) := by decide +kernel
theorem dX0_runCycle_22 : decode cX0_runCycle 22 = .ok (.invokevirtual 150, 3) := by decide +kernel
theorem dX0_runCycle_25 : decode cX0_runCycle 25 = .ok (.aload_n 0, 1) := by decide +kernel
theorem dX0_runCycle_26 : decode cX0_runCycle 26 = .ok (.aload_n 0, 1) := by decide +kernel
theorem dX0_runCycle_27 : decode cX0_runCycle 27 = .ok (.getfield 70, 3) := by decide +kernel
theorem dX0_runCycle_30 : decode cX0_runCycle 30 = .ok (.invokevirtual 144, 3) := by decide +kernel
theorem dX0_runCycle_33 : decode cX0_runCycle 33 = .ok (.ifCond .eq 7, 3) := by decide +kernel
theorem dX0_runCycle_36 : decode cX0_runCycle 36 = .ok (.aload_n 0, 1) := by decide +kernel
theorem dX0_runCycle_37 : decode cX0_runCycle 37 = .ok (.invokevirtual 153, 3) := by decide +kernel
theorem dX0_runCycle_40 : decode cX0_runCycle 40 = .ok (.aload_n 0, 1) := by decide +kernel
theorem dX0_runCycle_41 : decode cX0_runCycle 41 = .ok (.invokevirtual 156, 3) := by decide +kernel
theorem dX0_runCycle_44 : decode cX0_runCycle 44 = .ok (.aload_n 0, 1) := by decide +kernel
theorem dX0_runCycle_45 : decode cX0_runCycle 45 = .ok (.invokevirtual 159, 3) := by decide +kernel
theorem dX0_runCycle_48 : decode cX0_runCycle 48 = .ok (.return_, 1) := by decide +kernel
theorem dX0_ageEntries_0 : decode cX0_ageEntries 0 = .ok (.bipush 10, 2) := by decide +kernel
theorem dX0_ageEntries_2 : decode cX0_ageEntries 2 = .ok (.istore_n 1, 1) := by decide +kernel
theorem dX0_ageEntries_3 : decode cX0_ageEntries 3 = .ok (.iload_n 1, 1) := by decide +kernel
theorem dX0_ageEntries_4 : decode cX0_ageEntries 4 = .ok (.ifCond .le 23, 3) := by decide +kernel
theorem dX0_ageEntries_7 : decode cX0_ageEntries 7 = .ok (.aload_n 0, 1) := by decide +kernel
theorem dX0_ageEntries_8 : decode cX0_ageEntries 8 = .ok (.getfield 26, 3) := by decide +kernel
theorem dX0_ageEntries_11 : decode cX0_ageEntries 11 = .ok (.iload_n 1, 1) := by decide +kernel
theorem dX0_ageEntries_12 : decode cX0_ageEntries 12 = .ok (.aload_n 0, 1) := by decide +kernel
theorem dX0_ageEntries_13 : decode cX0_ageEntries 13 = .ok (.getfield 26, 3) := by decide +kernel
theorem dX0_ageEntries_16 : decode cX0_ageEntries 16 = .ok (.iload_n 1, 1) := by decide +kernel
theorem dX0_ageEntries_17 : decode cX0_ageEntries 17 = .ok (.iconst 1, 1) := by decide +kernel
theorem dX0_ageEntries_18 : decode cX0_ageEntries 18 = .ok (.isub, 1) := by decide +kernel
theorem dX0_ageEntries_19 : decode cX0_ageEntries 19 = .ok (.iaload, 1) := by decide +kernel
theorem dX0_ageEntries_20 : decode cX0_ageEntries 20 = .ok (.iastore, 1) := by decide +kernel
theorem dX0_ageEntries_21 : decode cX0_ageEntries 21 = .ok (.iinc 1 (-1), 3) := by decide +kernel
theorem dX0_ageEntries_24 : decode cX0_ageEntries 24 = .ok (.goto (-21), 3) := by decide +kernel
theorem dX0_ageEntries_27 : decode cX0_ageEntries 27 = .ok (.aload_n 0, 1) := by decide +kernel
theorem dX0_ageEntries_28 : decode cX0_ageEntries 28 = .ok (.getfield 26, 3) := by decide +kernel
theorem dX0_ageEntries_31 : decode cX0_ageEntries 31 = .ok (.iconst 0, 1) := by decide +kernel
theorem dX0_ageEntries_32 : decode cX0_ageEntries 32 = .ok (.iconst (-1), 1) := by decide +kernel
theorem dX0_ageEntries_33 : decode cX0_ageEntries 33 = .ok (.iastore, 1) := by decide +kernel
theorem dX0_ageEntries_34 : decode cX0_ageEntries 34 = .ok (.return_, 1) := by decide +kernel
theorem dX0_enterVector_0 : decode cX0_enterVector 0 = .ok (.aload_n 0, 1) := by decide +kernel
theorem dX0_enterVector_1 : decode cX0_enterVector 1 = .ok (.getfield 98, 3) := by decide +kernel
theorem dX0_enterVector_4 : decode cX0_enterVector 4 = .ok (.istore_n 1, 1) := by decide +kernel
theorem dX0_enterVector_5 : decode cX0_enterVector 5 = .ok (.aload_n 0, 1) := by decide +kernel
theorem dX0_enterVector_6 : decode cX0_enterVector 6 = .ok (.iload_n 1, 1) := by decide +kernel
theorem dX0_enterVector_7 : decode cX0_enterVector 7 = .ok (.iconst 1, 1) := by decide +kernel
theorem dX0_enterVector_8 : decode cX0_enterVector 8 = .ok (.iadd, 1) := by decide +kernel
theorem dX0_enterVector_9 : decode cX0_enterVector 9 = .ok (.putfield 98, 3) := by decide +kernel
theorem dX0_enterVector_12 : decode cX0_enterVector 12 = .ok (.aload_n 0, 1) := by decide +kernel
theorem dX0_enterVector_13 : decode cX0_enterVector 13 = .ok (.getfield 26, 3) := by decide +kernel
theorem dX0_enterVector_16 : decode cX0_enterVector 16 = .ok (.iconst 0, 1) := by decide +kernel
theorem dX0_enterVector_17 : decode cX0_enterVector 17 = .ok (.iload_n 1, 1) := by decide +kernel
theorem dX0_enterVector_18 : decode cX0_enterVector 18 = .ok (.iastore, 1) := by decide +kernel
theorem dX0_enterVector_19 : decode cX0_enterVector 19 = .ok (.aload_n 0, 1) := by decide +kernel
theorem dX0_enterVector_20 : decode cX0_enterVector 20 = .ok (.getfield 23, 3) := by decide +kernel
theorem dX0_enterVector_23 : decode cX0_enterVector 23 = .ok (.iload_n 1, 1) := by decide +kernel
theorem dX0_enterVector_24 : decode cX0_enterVector 24 = .ok (.aload_n 0, 1) := by decide +kernel
theorem dX0_enterVector_25 : decode cX0_enterVector 25 = .ok (.getfield 70, 3) := by decide +kernel
theorem dX0_enterVector_28 : decode cX0_enterVector 28 = .ok (.iastore, 1) := by decide +kernel
theorem dX0_enterVector_29 : decode cX0_enterVector 29 = .ok (.aload_n 0, 1) := by decide +kernel
theorem dX0_enterVector_30 : decode cX0_enterVector 30 = .ok (.getfield 19, 3) := by decide +kernel
theorem dX0_enterVector_33 : decode cX0_enterVector 33 = .ok (.iload_n 1, 1) := by decide +kernel
theorem dX0_enterVector_34 : decode cX0_enterVector 34 = .ok (.baload, 1) := by decide +kernel
theorem dX0_enterVector_35 : decode cX0_enterVector 35 = .ok (.ifCond .eq 26, 3) := by decide +kernel
theorem dX0_enterVector_38 : decode cX0_enterVector 38 = .ok (.aload_n 0, 1) := by decide +kernel
theorem dX0_enterVector_39 : decode cX0_enterVector 39 = .ok (.iconst 0, 1) := by decide +kernel
theorem dX0_enterVector_40 : decode cX0_enterVector 40 = .ok (.putfield 129, 3) := by decide +kernel
theorem dX0_enterVector_43 : decode cX0_enterVector 43 = .ok (.aload_n 0, 1) := by decide +kernel
theorem dX0_enterVector_44 : decode cX0_enterVector 44 = .ok (.dup, 1) := by decide +kernel
theorem dX0_enterVector_45 : decode cX0_enterVector 45 = .ok (.getfield 115, 3) := by decide +kernel
theorem dX0_enterVector_48 : decode cX0_enterVector 48 = .ok (.iconst 1, 1) := by decide +kernel
theorem dX0_enterVector_49 : decode cX0_enterVector 49 = .ok (.iadd, 1) := by decide +kernel
theorem dX0_enterVector_50 : decode cX0_enterVector 50 = .ok (.putfield 115, 3) := by decide +kernel
theorem dX0_enterVector_53 : decode cX0_enterVector 53 = .ok (.aload_n 0, 1) := by decide +kernel
theorem dX0_enterVector_54 : decode cX0_enterVector 54 = .ok (.aload_n 0, 1) := by decide +kernel
theorem dX0_enterVector_55 : decode cX0_enterVector 55 = .ok (.getfield 70, 3) := by decide +kernel
theorem dX0_enterVector_58 : decode cX0_enterVector 58 = .ok (.putfield 132, 3) := by decide +kernel
theorem dX0_enterVector_61 : decode cX0_enterVector 61 = .ok (.return_, 1) := by decide +kernel
theorem dX0_letRowIn_0 : decode cX0_letRowIn 0 = .ok (.aload_n 0, 1) := by decide +kernel
theorem dX0_letRowIn_1 : decode cX0_letRowIn 1 = .ok (.getfield 124, 3) := by decide +kernel
theorem dX0_letRowIn_4 : decode cX0_letRowIn 4 = .ok (.iconst 1, 1) := by decide +kernel
theorem dX0_letRowIn_5 : decode cX0_letRowIn 5 = .ok (.isub, 1) := by decide +kernel
theorem dX0_letRowIn_6 : decode cX0_letRowIn 6 = .ok (.istore_n 1, 1) := by decide +kernel
theorem dX0_letRowIn_7 : decode cX0_letRowIn 7 = .ok (.iload_n 1, 1) := by decide +kernel
theorem dX0_letRowIn_8 : decode cX0_letRowIn 8 = .ok (.ifCond .le 49, 3) := by decide +kernel
theorem dX0_letRowIn_11 : decode cX0_letRowIn 11 = .ok (.iconst 0, 1) := by decide +kernel
theorem dX0_letRowIn_12 : decode cX0_letRowIn 12 = .ok (.istore_n 2, 1) := by decide +kernel
theorem dX0_letRowIn_13 : decode cX0_letRowIn 13 = .ok (.iload_n 2, 1) := by decide +kernel
theorem dX0_letRowIn_14 : decode cX0_letRowIn 14 = .ok (.aload_n 0, 1) := by decide +kernel
theorem dX0_letRowIn_15 : decode cX0_letRowIn 15 = .ok (.getfield 124, 3) := by decide +kernel
theorem dX0_letRowIn_18 : decode cX0_letRowIn 18 = .ok (.if_icmp .ge 33, 3) := by decide +kernel
theorem dX0_letRowIn_21 : decode cX0_letRowIn 21 = .ok (.aload_n 0, 1) := by decide +kernel
theorem dX0_letRowIn_22 : decode cX0_letRowIn 22 = .ok (.getfield 38, 3) := by decide +kernel
theorem dX0_letRowIn_25 : decode cX0_letRowIn 25 = .ok (.iload_n 1, 1) := by decide +kernel
theorem dX0_letRowIn_26 : decode cX0_letRowIn 26 = .ok (.bipush 6, 2) := by decide +kernel
theorem dX0_letRowIn_28 : decode cX0_letRowIn 28 = .ok (.imul, 1) := by decide +kernel
theorem dX0_letRowIn_29 : decode cX0_letRowIn 29 = .ok (.iload_n 2, 1) := by decide +kernel
theorem dX0_letRowIn_30 : decode cX0_letRowIn 30 = .ok (.iadd, 1) := by decide +kernel
theorem dX0_letRowIn_31 : decode cX0_letRowIn 31 = .ok (.aload_n 0, 1) := by decide +kernel
theorem dX0_letRowIn_32 : decode cX0_letRowIn 32 = .ok (.getfield 38, 3) := by decide +kernel
theorem dX0_letRowIn_35 : decode cX0_letRowIn 35 = .ok (.iload_n 1, 1) := by decide +kernel
theorem dX0_letRowIn_36 : decode cX0_letRowIn 36 = .ok (.iconst 1, 1) := by decide +kernel
theorem dX0_letRowIn_37 : decode cX0_letRowIn 37 = .ok (.isub, 1) := by decide +kernel
theorem dX0_letRowIn_38 : decode cX0_letRowIn 38 = .ok (.bipush 6, 2) := by decide +kernel
theorem dX0_letRowIn_40 : decode cX0_letRowIn 40 = .ok (.imul, 1) := by decide +kernel
theorem dX0_letRowIn_41 : decode cX0_letRowIn 41 = .ok (.iload_n 2, 1) := by decide +kernel
theorem dX0_letRowIn_42 : decode cX0_letRowIn 42 = .ok (.iadd, 1) := by decide +kernel
theorem dX0_letRowIn_43 : decode cX0_letRowIn 43 = .ok (.iaload, 1) := by decide +kernel
theorem dX0_letRowIn_44 : decode cX0_letRowIn 44 = .ok (.iastore, 1) := by decide +kernel
theorem dX0_letRowIn_45 : decode cX0_letRowIn 45 = .ok (.iinc 2 1, 3) := by decide +kernel
theorem dX0_letRowIn_48 : decode cX0_letRowIn 48 = .ok (.goto (-35), 3) := by decide +kernel
theorem dX0_letRowIn_51 : decode cX0_letRowIn 51 = .ok (.iinc 1 (-1), 3) := by decide +kernel
theorem dX0_letRowIn_54 : decode cX0_letRowIn 54 = .ok (.goto (-47), 3) := by decide +kernel
theorem dX0_letRowIn_57 : decode cX0_letRowIn 57 = .ok (.iconst 0, 1) := by decide +kernel
theorem dX0_letRowIn_58 : decode cX0_letRowIn 58 = .ok (.istore_n 1, 1) := by decide +kernel
theorem dX0_letRowIn_59 : decode cX0_letRowIn 59 = .ok (.iload_n 1, 1) := by decide +kernel
theorem dX0_letRowIn_60 : decode cX0_letRowIn 60 = .ok (.aload_n 0, 1) := by decide +kernel
theorem dX0_letRowIn_61 : decode cX0_letRowIn 61 = .ok (.getfield 124, 3) := by decide +kernel
theorem dX0_letRowIn_64 : decode cX0_letRowIn 64 = .ok (.if_icmp .ge 29, 3) := by decide +kernel
theorem dX0_letRowIn_67 : decode cX0_letRowIn 67 = .ok (.aload_n 0, 1) := by decide +kernel
theorem dX0_letRowIn_68 : decode cX0_letRowIn 68 = .ok (.getfield 38, 3) := by decide +kernel
theorem dX0_letRowIn_71 : decode cX0_letRowIn 71 = .ok (.iload_n 1, 1) := by decide +kernel
theorem dX0_letRowIn_72 : decode cX0_letRowIn 72 = .ok (.aload_n 0, 1) := by decide +kernel
theorem dX0_letRowIn_73 : decode cX0_letRowIn 73 = .ok (.getfield 9, 3) := by decide +kernel
theorem dX0_letRowIn_76 : decode cX0_letRowIn 76 = .ok (.aload_n 0, 1) := by decide +kernel
theorem dX0_letRowIn_77 : decode cX0_letRowIn 77 = .ok (.getfield 112, 3) := by decide +kernel
theorem dX0_letRowIn_80 : decode cX0_letRowIn 80 = .ok (.bipush 6, 2) := by decide +kernel
theorem dX0_letRowIn_82 : decode cX0_letRowIn 82 = .ok (.imul, 1) := by decide +kernel
theorem dX0_letRowIn_83 : decode cX0_letRowIn 83 = .ok (.iload_n 1, 1) := by decide +kernel
theorem dX0_letRowIn_84 : decode cX0_letRowIn 84 = .ok (.iadd, 1) := by decide +kernel
theorem dX0_letRowIn_85 : decode cX0_letRowIn 85 = .ok (.iaload, 1) := by decide +kernel
theorem dX0_letRowIn_86 : decode cX0_letRowIn 86 = .ok (.iastore, 1) := by decide +kernel
theorem dX0_letRowIn_87 : decode cX0_letRowIn 87 = .ok (.iinc 1 1, 3) := by decide +kernel
theorem dX0_letRowIn_90 : decode cX0_letRowIn 90 = .ok (.goto (-31), 3) := by decide +kernel
theorem dX0_letRowIn_93 : decode cX0_letRowIn 93 = .ok (.aload_n 0, 1) := by decide +kernel
theorem dX0_letRowIn_94 : decode cX0_letRowIn 94 = .ok (.dup, 1) := by decide +kernel
theorem dX0_letRowIn_95 : decode cX0_letRowIn 95 = .ok (.getfield 112, 3) := by decide +kernel
theorem dX0_letRowIn_98 : decode cX0_letRowIn 98 = .ok (.iconst 1, 1) := by decide +kernel
theorem dX0_letRowIn_99 : decode cX0_letRowIn 99 = .ok (.iadd, 1) := by decide +kernel
theorem dX0_letRowIn_100 : decode cX0_letRowIn 100 = .ok (.putfield 112, 3) := by decide +kernel
theorem dX0_letRowIn_103 : decode cX0_letRowIn 103 = .ok (.aload_n 0, 1) := by decide +kernel
theorem dX0_letRowIn_104 : decode cX0_letRowIn 104 = .ok (.dup, 1) := by decide +kernel
theorem dX0_letRowIn_105 : decode cX0_letRowIn 105 = .ok (.getfield 129, 3) := by decide +kernel
theorem dX0_letRowIn_108 : decode cX0_letRowIn 108 = .ok (.iconst 1, 1) := by decide +kernel
theorem dX0_letRowIn_109 : decode cX0_letRowIn 109 = .ok (.iadd, 1) := by decide +kernel
theorem dX0_letRowIn_110 : decode cX0_letRowIn 110 = .ok (.putfield 129, 3) := by decide +kernel
theorem dX0_letRowIn_113 : decode cX0_letRowIn 113 = .ok (.return_, 1) := by decide +kernel
theorem dX0_goOn_0 : decode cX0_goOn 0 = .ok (.aload_n 0, 1) := by decide +kernel
theorem dX0_goOn_1 : decode cX0_goOn 1 = .ok (.getfield 124, 3) := by decide +kernel
theorem dX0_goOn_4 : decode cX0_goOn 4 = .ok (.iconst 1, 1) := by decide +kernel
theorem dX0_goOn_5 : decode cX0_goOn 5 = .ok (.isub, 1) := by decide +kernel
theorem dX0_goOn_6 : decode cX0_goOn 6 = .ok (.istore_n 1, 1) := by decide +kernel
theorem dX0_goOn_7 : decode cX0_goOn 7 = .ok (.iload_n 1, 1) := by decide +kernel
theorem dX0_goOn_8 : decode cX0_goOn 8 = .ok (.ifCond .lt 60, 3) := by decide +kernel
theorem dX0_goOn_11 : decode cX0_goOn 11 = .ok (.aload_n 0, 1) := by decide +kernel
theorem dX0_goOn_12 : decode cX0_goOn 12 = .ok (.getfield 124, 3) := by decide +kernel
theorem dX0_goOn_15 : decode cX0_goOn 15 = .ok (.iconst 1, 1) := by decide +kernel
theorem dX0_goOn_16 : decode cX0_goOn 16 = .ok (.isub, 1) := by decide +kernel
theorem dX0_goOn_17 : decode cX0_goOn 17 = .ok (.istore_n 2, 1) := by decide +kernel
theorem dX0_goOn_18 : decode cX0_goOn 18 = .ok (.iload_n 2, 1) := by decide +kernel
theorem dX0_goOn_19 : decode cX0_goOn 19 = .ok (.ifCond .le 38, 3) := by decide +kernel
theorem dX0_goOn_22 : decode cX0_goOn 22 = .ok (.iload_n 1, 1) := by decide +kernel
theorem dX0_goOn_23 : decode cX0_goOn 23 = .ok (.bipush 6, 2) := by decide +kernel
theorem dX0_goOn_25 : decode cX0_goOn 25 = .ok (.imul, 1) := by decide +kernel
theorem dX0_goOn_26 : decode cX0_goOn 26 = .ok (.iload_n 2, 1) := by decide +kernel
theorem dX0_goOn_27 : decode cX0_goOn 27 = .ok (.iadd, 1) := by decide +kernel
theorem dX0_goOn_28 : decode cX0_goOn 28 = .ok (.istore_n 3, 1) := by decide +kernel
theorem dX0_goOn_29 : decode cX0_goOn 29 = .ok (.aload_n 0, 1) := by decide +kernel
theorem dX0_goOn_30 : decode cX0_goOn 30 = .ok (.iload_n 1, 1) := by decide +kernel
theorem dX0_goOn_31 : decode cX0_goOn 31 = .ok (.iload_n 3, 1) := by decide +kernel
theorem dX0_goOn_32 : decode cX0_goOn 32 = .ok (.aload_n 0, 1) := by decide +kernel
theorem dX0_goOn_33 : decode cX0_goOn 33 = .ok (.getfield 29, 3) := by decide +kernel
theorem dX0_goOn_36 : decode cX0_goOn 36 = .ok (.iload_n 3, 1) := by decide +kernel
theorem dX0_goOn_37 : decode cX0_goOn 37 = .ok (.iconst 1, 1) := by decide +kernel
theorem dX0_goOn_38 : decode cX0_goOn 38 = .ok (.isub, 1) := by decide +kernel
theorem dX0_goOn_39 : decode cX0_goOn 39 = .ok (.iaload, 1) := by decide +kernel
theorem dX0_goOn_40 : decode cX0_goOn 40 = .ok (.aload_n 0, 1) := by decide +kernel
theorem dX0_goOn_41 : decode cX0_goOn 41 = .ok (.getfield 41, 3) := by decide +kernel
theorem dX0_goOn_44 : decode cX0_goOn 44 = .ok (.iload_n 3, 1) := by decide +kernel
theorem dX0_goOn_45 : decode cX0_goOn 45 = .ok (.iconst 1, 1) := by decide +kernel
theorem dX0_goOn_46 : decode cX0_goOn 46 = .ok (.isub, 1) := by decide +kernel
theorem dX0_goOn_47 : decode cX0_goOn 47 = .ok (.baload, 1) := by decide +kernel
theorem dX0_goOn_48 : decode cX0_goOn 48 = .ok (.invokevirtual 162, 3) := by decide +kernel
theorem dX0_goOn_51 : decode cX0_goOn 51 = .ok (.iinc 2 (-1), 3) := by decide +kernel
theorem dX0_goOn_54 : decode cX0_goOn 54 = .ok (.goto (-36), 3) := by decide +kernel
theorem dX0_goOn_57 : decode cX0_goOn 57 = .ok (.aload_n 0, 1) := by decide +kernel
theorem dX0_goOn_58 : decode cX0_goOn 58 = .ok (.iload_n 1, 1) := by decide +kernel
theorem dX0_goOn_59 : decode cX0_goOn 59 = .ok (.invokevirtual 166, 3) := by decide +kernel
theorem dX0_goOn_62 : decode cX0_goOn 62 = .ok (.iinc 1 (-1), 3) := by decide +kernel
theorem dX0_goOn_65 : decode cX0_goOn 65 = .ok (.goto (-58), 3) := by decide +kernel
theorem dX0_goOn_68 : decode cX0_goOn 68 = .ok (.return_, 1) := by decide +kernel
theorem dX0_advance_0 : decode cX0_advance 0 = .ok (.aload_n 0, 1) := by decide +kernel
theorem dX0_advance_1 : decode cX0_advance 1 = .ok (.getfield 29, 3) := by decide +kernel
theorem dX0_advance_4 : decode cX0_advance 4 = .ok (.iload_n 2, 1) := by decide +kernel
theorem dX0_advance_5 : decode cX0_advance 5 = .ok (.iload_n 3, 1) := by decide +kernel
theorem dX0_advance_6 : decode cX0_advance 6 = .ok (.iastore, 1) := by decide +kernel
theorem dX0_advance_7 : decode cX0_advance 7 = .ok (.aload_n 0, 1) := by decide +kernel
theorem dX0_advance_8 : decode cX0_advance 8 = .ok (.getfield 41, 3) := by decide +kernel
theorem dX0_advance_11 : decode cX0_advance 11 = .ok (.iload_n 2, 1) := by decide +kernel
theorem dX0_advance_12 : decode cX0_advance 12 = .ok (.iload 4, 2) := by decide +kernel
theorem dX0_advance_14 : decode cX0_advance 14 = .ok (.bastore, 1) := by decide +kernel
theorem dX0_advance_15 : decode cX0_advance 15 = .ok (.iload 4, 2) := by decide +kernel
theorem dX0_advance_17 : decode cX0_advance 17 = .ok (.ifCond .eq 15, 3) := by decide +kernel
theorem dX0_advance_20 : decode cX0_advance 20 = .ok (.aload_n 0, 1) := by decide +kernel
theorem dX0_advance_21 : decode cX0_advance 21 = .ok (.getfield 35, 3) := by decide +kernel
theorem dX0_advance_24 : decode cX0_advance 24 = .ok (.iload_n 2, 1) := by decide +kernel
theorem dX0_advance_25 : decode cX0_advance 25 = .ok (.aload_n 0, 1) := by decide +kernel
theorem dX0_advance_26 : decode cX0_advance 26 = .ok (.getfield 38, 3) := by decide +kernel
theorem dX0_advance_29 : decode cX0_advance 29 = .ok (.iload_n 2, 1) := by decide +kernel
theorem dX0_advance_30 : decode cX0_advance 30 = .ok (.iaload, 1) := by decide +kernel
theorem dX0_advance_31 : decode cX0_advance 31 = .ok (.iastore, 1) := by decide +kernel
theorem dX0_advance_32 : decode cX0_advance 32 = .ok (.iload_n 1, 1) := by decide +kernel
theorem dX0_advance_33 : decode cX0_advance 33 = .ok (.ifCond .ne 7, 3) := by decide +kernel
theorem dX0_advance_36 : decode cX0_advance 36 = .ok (.iconst 0, 1) := by decide +kernel
theorem dX0_advance_37 : decode cX0_advance 37 = .ok (.goto 12, 3) := by decide +kernel
theorem dX0_advance_40 : decode cX0_advance 40 = .ok (.aload_n 0, 1) := by decide +kernel
theorem dX0_advance_41 : decode cX0_advance 41 = .ok (.getfield 32, 3) := by decide +kernel
theorem dX0_advance_44 : decode cX0_advance 44 = .ok (.iload_n 2, 1) := by decide +kernel
theorem dX0_advance_45 : decode cX0_advance 45 = .ok (.bipush 6, 2) := by decide +kernel
theorem dX0_advance_47 : decode cX0_advance 47 = .ok (.isub, 1) := by decide +kernel
theorem dX0_advance_48 : decode cX0_advance 48 = .ok (.iaload, 1) := by decide +kernel
theorem dX0_advance_49 : decode cX0_advance 49 = .ok (.istore 5, 2) := by decide +kernel
theorem dX0_advance_51 : decode cX0_advance 51 = .ok (.aload_n 0, 1) := by decide +kernel
theorem dX0_advance_52 : decode cX0_advance 52 = .ok (.getfield 32, 3) := by decide +kernel
theorem dX0_advance_55 : decode cX0_advance 55 = .ok (.iload_n 2, 1) := by decide +kernel
theorem dX0_advance_56 : decode cX0_advance 56 = .ok (.iload 5, 2) := by decide +kernel
theorem dX0_advance_58 : decode cX0_advance 58 = .ok (.aload_n 0, 1) := by decide +kernel
theorem dX0_advance_59 : decode cX0_advance 59 = .ok (.getfield 35, 3) := by decide +kernel
theorem dX0_advance_62 : decode cX0_advance 62 = .ok (.iload_n 2, 1) := by decide +kernel
theorem dX0_advance_63 : decode cX0_advance 63 = .ok (.iaload, 1) := by decide +kernel
theorem dX0_advance_64 : decode cX0_advance 64 = .ok (.iload_n 3, 1) := by decide +kernel
theorem dX0_advance_65 : decode cX0_advance 65 = .ok (.imul, 1) := by decide +kernel
theorem dX0_advance_66 : decode cX0_advance 66 = .ok (.iadd, 1) := by decide +kernel
theorem dX0_advance_67 : decode cX0_advance 67 = .ok (.iastore, 1) := by decide +kernel
theorem dX0_advance_68 : decode cX0_advance 68 = .ok (.return_, 1) := by decide +kernel
theorem dX0_feed_0 : decode cX0_feed 0 = .ok (.aload_n 0, 1) := by decide +kernel
theorem dX0_feed_1 : decode cX0_feed 1 = .ok (.getfield 26, 3) := by decide +kernel
theorem dX0_feed_4 : decode cX0_feed 4 = .ok (.iload_n 1, 1) := by decide +kernel
theorem dX0_feed_5 : decode cX0_feed 5 = .ok (.iaload, 1) := by decide +kernel
theorem dX0_feed_6 : decode cX0_feed 6 = .ok (.istore_n 2, 1) := by decide +kernel
theorem dX0_feed_7 : decode cX0_feed 7 = .ok (.iload_n 2, 1) := by decide +kernel
theorem dX0_feed_8 : decode cX0_feed 8 = .ok (.iconst (-1), 1) := by decide +kernel
theorem dX0_feed_9 : decode cX0_feed 9 = .ok (.if_icmp .ne 17, 3) := by decide +kernel
theorem dX0_feed_12 : decode cX0_feed 12 = .ok (.aload_n 0, 1) := by decide +kernel
theorem dX0_feed_13 : decode cX0_feed 13 = .ok (.iload_n 1, 1) := by decide +kernel
theorem dX0_feed_14 : decode cX0_feed 14 = .ok (.iload_n 1, 1) := by decide +kernel
theorem dX0_feed_15 : decode cX0_feed 15 = .ok (.bipush 6, 2) := by decide +kernel
theorem dX0_feed_17 : decode cX0_feed 17 = .ok (.imul, 1) := by decide +kernel
theorem dX0_feed_18 : decode cX0_feed 18 = .ok (.iconst 0, 1) := by decide +kernel
theorem dX0_feed_19 : decode cX0_feed 19 = .ok (.iconst 0, 1) := by decide +kernel
theorem dX0_feed_20 : decode cX0_feed 20 = .ok (.invokevirtual 162, 3) := by decide +kernel
theorem dX0_feed_23 : decode cX0_feed 23 = .ok (.goto 29, 3) := by decide +kernel
theorem dX0_feed_26 : decode cX0_feed 26 = .ok (.aload_n 0, 1) := by decide +kernel
theorem dX0_feed_27 : decode cX0_feed 27 = .ok (.iload_n 1, 1) := by decide +kernel
theorem dX0_feed_28 : decode cX0_feed 28 = .ok (.iload_n 1, 1) := by decide +kernel
theorem dX0_feed_29 : decode cX0_feed 29 = .ok (.bipush 6, 2) := by decide +kernel
theorem dX0_feed_31 : decode cX0_feed 31 = .ok (.imul, 1) := by decide +kernel
theorem dX0_feed_32 : decode cX0_feed 32 = .ok (.aload_n 0, 1) := by decide +kernel
theorem dX0_feed_33 : decode cX0_feed 33 = .ok (.getfield 13, 3) := by decide +kernel
theorem dX0_feed_36 : decode cX0_feed 36 = .ok (.iload_n 2, 1) := by decide +kernel
theorem dX0_feed_37 : decode cX0_feed 37 = .ok (.bipush 6, 2) := by decide +kernel
theorem dX0_feed_39 : decode cX0_feed 39 = .ok (.imul, 1) := by decide +kernel
theorem dX0_feed_40 : decode cX0_feed 40 = .ok (.iload_n 1, 1) := by decide +kernel
theorem dX0_feed_41 : decode cX0_feed 41 = .ok (.iadd, 1) := by decide +kernel
theorem dX0_feed_42 : decode cX0_feed 42 = .ok (.iaload, 1) := by decide +kernel
theorem dX0_feed_43 : decode cX0_feed 43 = .ok (.aload_n 0, 1) := by decide +kernel
theorem dX0_feed_44 : decode cX0_feed 44 = .ok (.getfield 19, 3) := by decide +kernel
theorem dX0_feed_47 : decode cX0_feed 47 = .ok (.iload_n 2, 1) := by decide +kernel
theorem dX0_feed_48 : decode cX0_feed 48 = .ok (.baload, 1) := by decide +kernel
theorem dX0_feed_49 : decode cX0_feed 49 = .ok (.invokevirtual 162, 3) := by decide +kernel
theorem dX0_feed_52 : decode cX0_feed 52 = .ok (.return_, 1) := by decide +kernel
theorem dX0_keepResults_0 : decode cX0_keepResults 0 = .ok (.aload_n 0, 1) := by decide +kernel
theorem dX0_keepResults_1 : decode cX0_keepResults 1 = .ok (.getfield 124, 3) := by decide +kernel
theorem dX0_keepResults_4 : decode cX0_keepResults 4 = .ok (.iconst 1, 1) := by decide +kernel
theorem dX0_keepResults_5 : decode cX0_keepResults 5 = .ok (.isub, 1) := by decide +kernel
theorem dX0_keepResults_6 : decode cX0_keepResults 6 = .ok (.istore_n 1, 1) := by decide +kernel
theorem dX0_keepResults_7 : decode cX0_keepResults 7 = .ok (.iconst 0, 1) := by decide +kernel
theorem dX0_keepResults_8 : decode cX0_keepResults 8 = .ok (.istore_n 2, 1) := by decide +kernel
theorem dX0_keepResults_9 : decode cX0_keepResults 9 = .ok (.iload_n 2, 1) := by decide +kernel
theorem dX0_keepResults_10 : decode cX0_keepResults 10 = .ok (.aload_n 0, 1) := by decide +kernel
theorem dX0_keepResults_11 : decode cX0_keepResults 11 = .ok (.getfield 124, 3) := by decide +kernel
theorem dX0_keepResults_14 : decode cX0_keepResults 14 = .ok (.if_icmp .ge 45, 3) := by decide +kernel
theorem dX0_keepResults_17 : decode cX0_keepResults 17 = .ok (.aload_n 0, 1) := by decide +kernel
theorem dX0_keepResults_18 : decode cX0_keepResults 18 = .ok (.getfield 26, 3) := by decide +kernel
theorem dX0_keepResults_21 : decode cX0_keepResults 21 = .ok (.iload_n 1, 1) := by decide +kernel
theorem dX0_keepResults_22 : decode cX0_keepResults 22 = .ok (.iload_n 2, 1) := by decide +kernel
theorem dX0_keepResults_23 : decode cX0_keepResults 23 = .ok (.iadd, 1) := by decide +kernel
theorem dX0_keepResults_24 : decode cX0_keepResults 24 = .ok (.iaload, 1) := by decide +kernel
theorem dX0_keepResults_25 : decode cX0_keepResults 25 = .ok (.istore_n 3, 1) := by decide +kernel
theorem dX0_keepResults_26 : decode cX0_keepResults 26 = .ok (.iload_n 3, 1) := by decide +kernel
theorem dX0_keepResults_27 : decode cX0_keepResults 27 = .ok (.iconst (-1), 1) := by decide +kernel
theorem dX0_keepResults_28 : decode cX0_keepResults 28 = .ok (.if_icmp .eq 25, 3) := by decide +kernel
theorem dX0_keepResults_31 : decode cX0_keepResults 31 = .ok (.aload_n 0, 1) := by decide +kernel
theorem dX0_keepResults_32 : decode cX0_keepResults 32 = .ok (.getfield 16, 3) := by decide +kernel
theorem dX0_keepResults_35 : decode cX0_keepResults 35 = .ok (.iload_n 3, 1) := by decide +kernel
theorem dX0_keepResults_36 : decode cX0_keepResults 36 = .ok (.bipush 6, 2) := by decide +kernel
theorem dX0_keepResults_38 : decode cX0_keepResults 38 = .ok (.imul, 1) := by decide +kernel
theorem dX0_keepResults_39 : decode cX0_keepResults 39 = .ok (.iload_n 2, 1) := by decide +kernel
theorem dX0_keepResults_40 : decode cX0_keepResults 40 = .ok (.iadd, 1) := by decide +kernel
theorem dX0_keepResults_41 : decode cX0_keepResults 41 = .ok (.aload_n 0, 1) := by decide +kernel
theorem dX0_keepResults_42 : decode cX0_keepResults 42 = .ok (.getfield 32, 3) := by decide +kernel
theorem dX0_keepResults_45 : decode cX0_keepResults 45 = .ok (.iload_n 1, 1) := by decide +kernel
theorem dX0_keepResults_46 : decode cX0_keepResults 46 = .ok (.bipush 6, 2) := by decide +kernel
theorem dX0_keepResults_48 : decode cX0_keepResults 48 = .ok (.imul, 1) := by decide +kernel
theorem dX0_keepResults_49 : decode cX0_keepResults 49 = .ok (.iload_n 2, 1) := by decide +kernel
theorem dX0_keepResults_50 : decode cX0_keepResults 50 = .ok (.iadd, 1) := by decide +kernel
theorem dX0_keepResults_51 : decode cX0_keepResults 51 = .ok (.iaload, 1) := by decide +kernel
theorem dX0_keepResults_52 : decode cX0_keepResults 52 = .ok (.iastore, 1) := by decide +kernel
theorem dX0_keepResults_53 : decode cX0_keepResults 53 = .ok (.iinc 2 1, 3) := by decide +kernel
theorem dX0_keepResults_56 : decode cX0_keepResults 56 = .ok (.goto (-47), 3) := by decide +kernel
theorem dX0_keepResults_59 : decode cX0_keepResults 59 = .ok (.return_, 1) := by decide +kernel
theorem dL_cell_0 : decode cL_cell 0 = .ok (.aload 4, 2) := by decide +kernel
theorem dL_cell_2 : decode cL_cell 2 = .ok (.iconst 0, 1) := by decide +kernel
theorem dL_cell_3 : decode cL_cell 3 = .ok (.aload_n 0, 1) := by decide +kernel
theorem dL_cell_4 : decode cL_cell 4 = .ok (.iload_n 1, 1) := by decide +kernel
theorem dL_cell_5 : decode cL_cell 5 = .ok (.iload_n 2, 1) := by decide +kernel
theorem dL_cell_6 : decode cL_cell 6 = .ok (.iload_n 3, 1) := by decide +kernel
theorem dL_cell_7 : decode cL_cell 7 = .ok (.invokevirtual 29, 3) := by decide +kernel
theorem dL_cell_10 : decode cL_cell 10 = .ok (.i2l, 1) := by decide +kernel
theorem dL_cell_11 : decode cL_cell 11 = .ok (.lastore, 1) := by decide +kernel
theorem dL_cell_12 : decode cL_cell 12 = .ok (.goto 11, 3) := by decide +kernel
theorem dL_cell_15 : decode cL_cell 15 = .ok (.astore 5, 2) := by decide +kernel
theorem dL_cell_17 : decode cL_cell 17 = .ok (.iconst 1, 1) := by decide +kernel
theorem dL_cell_18 : decode cL_cell 18 = .ok (.ireturn, 1) := by decide +kernel
theorem dL_cell_19 : decode cL_cell 19 = .ok (.astore 5, 2) := by decide +kernel
theorem dL_cell_21 : decode cL_cell 21 = .ok (.iconst 2, 1) := by decide +kernel
theorem dL_cell_22 : decode cL_cell 22 = .ok (.ireturn, 1) := by decide +kernel
theorem dL_cell_23 : decode cL_cell 23 = .ok (.iconst 0, 1) := by decide +kernel
theorem dL_cell_24 : decode cL_cell 24 = .ok (.ireturn, 1) := by decide +kernel
theorem dX0_cell_0 : decode cX0_cell 0 = .ok (.aload_n 0, 1) := by decide +kernel
theorem dX0_cell_1 : decode cX0_cell 1 = .ok (.iload_n 1, 1) := by decide +kernel
theorem dX0_cell_2 : decode cX0_cell 2 = .ok (.invokevirtual 82, 3) := by decide +kernel
theorem dX0_cell_5 : decode cX0_cell 5 = .ok (.ifCond .eq 11, 3) := by decide +kernel
theorem dX0_cell_8 : decode cX0_cell 8 = .ok (.aload_n 0, 1) := by decide +kernel
theorem dX0_cell_9 : decode cX0_cell 9 = .ok (.iload_n 2, 1) := by decide +kernel
theorem dX0_cell_10 : decode cX0_cell 10 = .ok (.invokevirtual 82, 3) := by decide +kernel
theorem dX0_cell_13 : decode cX0_cell 13 = .ok (.ifCond .ne 13, 3) := by decide +kernel
theorem dX0_cell_16 : decode cX0_cell 16 = .ok (.new 86, 3) := by decide +kernel
theorem dX0_cell_19 : decode cX0_cell 19 = .ok (.dup, 1) := by decide +kernel
theorem dX0_cell_20 : decode cX0_cell 20 = .ok (.ldc 88, 2) := by decide +kernel
theorem dX0_cell_22 : decode cX0_cell 22 = .ok (.invokespecial 90, 3) := by decide +kernel
theorem dX0_cell_25 : decode cX0_cell 25 = .ok (.athrow, 1) := by decide +kernel
theorem dX0_cell_26 : decode cX0_cell 26 = .ok (.iload_n 1, 1) := by decide +kernel
theorem dX0_cell_27 : decode cX0_cell 27 = .ok (.bipush 6, 2) := by decide +kernel
theorem dX0_cell_29 : decode cX0_cell 29 = .ok (.imul, 1) := by decide +kernel
theorem dX0_cell_30 : decode cX0_cell 30 = .ok (.iload_n 2, 1) := by decide +kernel
theorem dX0_cell_31 : decode cX0_cell 31 = .ok (.iadd, 1) := by decide +kernel
theorem dX0_cell_32 : decode cX0_cell 32 = .ok (.istore 4, 2) := by decide +kernel
theorem dX0_cell_34 : decode cX0_cell 34 = .ok (.iload_n 3, 1) := by decide +kernel
theorem dX0_cell_35 : decode cX0_cell 35 = .ok (.tableswitch 81 0 4 #[33, 41, 49, 57, 65], 33) := by decide +kernel
theorem dX0_cell_68 : decode cX0_cell 68 = .ok (.aload_n 0, 1) := by decide +kernel
theorem dX0_cell_69 : decode cX0_cell 69 = .ok (.getfield 29, 3) := by decide +kernel
theorem dX0_cell_72 : decode cX0_cell 72 = .ok (.iload 4, 2) := by decide +kernel
theorem dX0_cell_74 : decode cX0_cell 74 = .ok (.iaload, 1) := by decide +kernel
theorem dX0_cell_75 : decode cX0_cell 75 = .ok (.ireturn, 1) := by decide +kernel
theorem dX0_cell_76 : decode cX0_cell 76 = .ok (.aload_n 0, 1) := by decide +kernel
theorem dX0_cell_77 : decode cX0_cell 77 = .ok (.getfield 32, 3) := by decide +kernel
theorem dX0_cell_80 : decode cX0_cell 80 = .ok (.iload 4, 2) := by decide +kernel
theorem dX0_cell_82 : decode cX0_cell 82 = .ok (.iaload, 1) := by decide +kernel
theorem dX0_cell_83 : decode cX0_cell 83 = .ok (.ireturn, 1) := by decide +kernel
theorem dX0_cell_84 : decode cX0_cell 84 = .ok (.aload_n 0, 1) := by decide +kernel
theorem dX0_cell_85 : decode cX0_cell 85 = .ok (.getfield 35, 3) := by decide +kernel
theorem dX0_cell_88 : decode cX0_cell 88 = .ok (.iload 4, 2) := by decide +kernel
theorem dX0_cell_90 : decode cX0_cell 90 = .ok (.iaload, 1) := by decide +kernel
theorem dX0_cell_91 : decode cX0_cell 91 = .ok (.ireturn, 1) := by decide +kernel
theorem dX0_cell_92 : decode cX0_cell 92 = .ok (.aload_n 0, 1) := by decide +kernel
theorem dX0_cell_93 : decode cX0_cell 93 = .ok (.getfield 38, 3) := by decide +kernel
theorem dX0_cell_96 : decode cX0_cell 96 = .ok (.iload 4, 2) := by decide +kernel
theorem dX0_cell_98 : decode cX0_cell 98 = .ok (.iaload, 1) := by decide +kernel
theorem dX0_cell_99 : decode cX0_cell 99 = .ok (.ireturn, 1) := by decide +kernel
theorem dX0_cell_100 : decode cX0_cell 100 = .ok (.aload_n 0, 1) := by decide +kernel
theorem dX0_cell_101 : decode cX0_cell 101 = .ok (.getfield 41, 3) := by decide +kernel
theorem dX0_cell_104 : decode cX0_cell 104 = .ok (.iload 4, 2) := by decide +kernel
theorem dX0_cell_106 : decode cX0_cell 106 = .ok (.baload, 1) := by decide +kernel
theorem dX0_cell_107 : decode cX0_cell 107 = .ok (.ifCond .eq 7, 3) := by decide +kernel
theorem dX0_cell_110 : decode cX0_cell 110 = .ok (.iconst 1, 1) := by decide +kernel
theorem dX0_cell_111 : decode cX0_cell 111 = .ok (.goto 4, 3) := by decide +kernel
theorem dX0_cell_114 : decode cX0_cell 114 = .ok (.iconst 0, 1) := by decide +kernel
theorem dX0_cell_115 : decode cX0_cell 115 = .ok (.ireturn, 1) := by decide +kernel
theorem dX0_cell_116 : decode cX0_cell 116 = .ok (.new 48, 3) := by decide +kernel
theorem dX0_cell_119 : decode cX0_cell 119 = .ok (.dup, 1) := by decide +kernel
theorem dX0_cell_120 : decode cX0_cell 120 = .ok (.ldc 91, 2) := by decide +kernel
theorem dX0_cell_122 : decode cX0_cell 122 = .ok (.invokespecial 52, 3) := by decide +kernel
theorem dX0_cell_125 : decode cX0_cell 125 = .ok (.athrow, 1) := by decide +kernel
theorem dX0_isInSquare_0 : decode cX0_isInSquare 0 = .ok (.iload_n 1, 1) := by decide +kernel
theorem dX0_isInSquare_1 : decode cX0_isInSquare 1 = .ok (.ifCond .lt 15, 3) := by decide +kernel
theorem dX0_isInSquare_4 : decode cX0_isInSquare 4 = .ok (.iload_n 1, 1) := by decide +kernel
theorem dX0_isInSquare_5 : decode cX0_isInSquare 5 = .ok (.aload_n 0, 1) := by decide +kernel
theorem dX0_isInSquare_6 : decode cX0_isInSquare 6 = .ok (.getfield 124, 3) := by decide +kernel
theorem dX0_isInSquare_9 : decode cX0_isInSquare 9 = .ok (.if_icmp .ge 7, 3) := by decide +kernel
theorem dX0_isInSquare_12 : decode cX0_isInSquare 12 = .ok (.iconst 1, 1) := by decide +kernel
theorem dX0_isInSquare_13 : decode cX0_isInSquare 13 = .ok (.goto 4, 3) := by decide +kernel
theorem dX0_isInSquare_16 : decode cX0_isInSquare 16 = .ok (.iconst 0, 1) := by decide +kernel
theorem dX0_isInSquare_17 : decode cX0_isInSquare 17 = .ok (.ireturn, 1) := by decide +kernel
theorem dL_entered_0 : decode cL_entered 0 = .ok (.aload_n 2, 1) := by decide +kernel
theorem dL_entered_1 : decode cL_entered 1 = .ok (.iconst 0, 1) := by decide +kernel
theorem dL_entered_2 : decode cL_entered 2 = .ok (.aload_n 0, 1) := by decide +kernel
theorem dL_entered_3 : decode cL_entered 3 = .ok (.iload_n 1, 1) := by decide +kernel
theorem dL_entered_4 : decode cL_entered 4 = .ok (.invokevirtual 35, 3) := by decide +kernel
theorem dL_entered_7 : decode cL_entered 7 = .ok (.i2l, 1) := by decide +kernel
theorem dL_entered_8 : decode cL_entered 8 = .ok (.lastore, 1) := by decide +kernel
theorem dL_entered_9 : decode cL_entered 9 = .ok (.goto 6, 3) := by decide +kernel
theorem dL_entered_12 : decode cL_entered 12 = .ok (.astore_n 3, 1) := by decide +kernel
theorem dL_entered_13 : decode cL_entered 13 = .ok (.iconst 1, 1) := by decide +kernel
theorem dL_entered_14 : decode cL_entered 14 = .ok (.ireturn, 1) := by decide +kernel
theorem dL_entered_15 : decode cL_entered 15 = .ok (.iconst 0, 1) := by decide +kernel
theorem dL_entered_16 : decode cL_entered 16 = .ok (.ireturn, 1) := by decide +kernel
theorem dX0_entered_0 : decode cX0_entered 0 = .ok (.aload_n 0, 1) := by decide +kernel
theorem dX0_entered_1 : decode cX0_entered 1 = .ok (.iload_n 1, 1) := by decide +kernel
theorem dX0_entered_2 : decode cX0_entered 2 = .ok (.invokevirtual 93, 3) := by decide +kernel
theorem dX0_entered_5 : decode cX0_entered 5 = .ok (.ifCond .ne 13, 3) := by decide +kernel
theorem dX0_entered_8 : decode cX0_entered 8 = .ok (.new 86, 3) := by decide +kernel
theorem dX0_entered_11 : decode cX0_entered 11 = .ok (.dup, 1) := by decide +kernel
theorem dX0_entered_12 : decode cX0_entered 12 = .ok (.ldc 96, 2) := by decide +kernel
theorem dX0_entered_14 : decode cX0_entered 14 = .ok (.invokespecial 90, 3) := by decide +kernel
theorem dX0_entered_17 : decode cX0_entered 17 = .ok (.athrow, 1) := by decide +kernel
theorem dX0_entered_18 : decode cX0_entered 18 = .ok (.iload_n 1, 1) := by decide +kernel
theorem dX0_entered_19 : decode cX0_entered 19 = .ok (.aload_n 0, 1) := by decide +kernel
theorem dX0_entered_20 : decode cX0_entered 20 = .ok (.getfield 98, 3) := by decide +kernel
theorem dX0_entered_23 : decode cX0_entered 23 = .ok (.if_icmp .ge 12, 3) := by decide +kernel
theorem dX0_entered_26 : decode cX0_entered 26 = .ok (.aload_n 0, 1) := by decide +kernel
theorem dX0_entered_27 : decode cX0_entered 27 = .ok (.getfield 23, 3) := by decide +kernel
theorem dX0_entered_30 : decode cX0_entered 30 = .ok (.iload_n 1, 1) := by decide +kernel
theorem dX0_entered_31 : decode cX0_entered 31 = .ok (.iaload, 1) := by decide +kernel
theorem dX0_entered_32 : decode cX0_entered 32 = .ok (.goto 4, 3) := by decide +kernel
theorem dX0_entered_35 : decode cX0_entered 35 = .ok (.iconst (-1), 1) := by decide +kernel
theorem dX0_entered_36 : decode cX0_entered 36 = .ok (.ireturn, 1) := by decide +kernel
theorem dX0_isVector_0 : decode cX0_isVector 0 = .ok (.iload_n 1, 1) := by decide +kernel
theorem dX0_isVector_1 : decode cX0_isVector 1 = .ok (.ifCond .lt 15, 3) := by decide +kernel
theorem dX0_isVector_4 : decode cX0_isVector 4 = .ok (.iload_n 1, 1) := by decide +kernel
theorem dX0_isVector_5 : decode cX0_isVector 5 = .ok (.aload_n 0, 1) := by decide +kernel
theorem dX0_isVector_6 : decode cX0_isVector 6 = .ok (.getfield 64, 3) := by decide +kernel
theorem dX0_isVector_9 : decode cX0_isVector 9 = .ok (.if_icmp .ge 7, 3) := by decide +kernel
theorem dX0_isVector_12 : decode cX0_isVector 12 = .ok (.iconst 1, 1) := by decide +kernel
theorem dX0_isVector_13 : decode cX0_isVector 13 = .ok (.goto 4, 3) := by decide +kernel
theorem dX0_isVector_16 : decode cX0_isVector 16 = .ok (.iconst 0, 1) := by decide +kernel
theorem dX0_isVector_17 : decode cX0_isVector 17 = .ok (.ireturn, 1) := by decide +kernel
theorem dL_result_0 : decode cL_result 0 = .ok (.aload_n 3, 1) := by decide +kernel
theorem dL_result_1 : decode cL_result 1 = .ok (.iconst 0, 1) := by decide +kernel
theorem dL_result_2 : decode cL_result 2 = .ok (.aload_n 0, 1) := by decide +kernel
theorem dL_result_3 : decode cL_result 3 = .ok (.iload_n 1, 1) := by decide +kernel
theorem dL_result_4 : decode cL_result 4 = .ok (.iload_n 2, 1) := by decide +kernel
theorem dL_result_5 : decode cL_result 5 = .ok (.invokevirtual 38, 3) := by decide +kernel
theorem dL_result_8 : decode cL_result 8 = .ok (.i2l, 1) := by decide +kernel
theorem dL_result_9 : decode cL_result 9 = .ok (.lastore, 1) := by decide +kernel
theorem dL_result_10 : decode cL_result 10 = .ok (.goto 11, 3) := by decide +kernel
theorem dL_result_13 : decode cL_result 13 = .ok (.astore 4, 2) := by decide +kernel
theorem dL_result_15 : decode cL_result 15 = .ok (.iconst 1, 1) := by decide +kernel
theorem dL_result_16 : decode cL_result 16 = .ok (.ireturn, 1) := by decide +kernel
theorem dL_result_17 : decode cL_result 17 = .ok (.astore 4, 2) := by decide +kernel
theorem dL_result_19 : decode cL_result 19 = .ok (.iconst 2, 1) := by decide +kernel
theorem dL_result_20 : decode cL_result 20 = .ok (.ireturn, 1) := by decide +kernel
theorem dL_result_21 : decode cL_result 21 = .ok (.iconst 0, 1) := by decide +kernel
theorem dL_result_22 : decode cL_result 22 = .ok (.ireturn, 1) := by decide +kernel
theorem dX0_result_0 : decode cX0_result 0 = .ok (.aload_n 0, 1) := by decide +kernel
theorem dX0_result_1 : decode cX0_result 1 = .ok (.iload_n 1, 1) := by decide +kernel
theorem dX0_result_2 : decode cX0_result 2 = .ok (.invokevirtual 93, 3) := by decide +kernel
theorem dX0_result_5 : decode cX0_result 5 = .ok (.ifCond .eq 11, 3) := by decide +kernel
theorem dX0_result_8 : decode cX0_result 8 = .ok (.aload_n 0, 1) := by decide +kernel
theorem dX0_result_9 : decode cX0_result 9 = .ok (.iload_n 2, 1) := by decide +kernel
theorem dX0_result_10 : decode cX0_result 10 = .ok (.invokevirtual 82, 3) := by decide +kernel
theorem dX0_result_13 : decode cX0_result 13 = .ok (.ifCond .ne 13, 3) := by decide +kernel
theorem dX0_result_16 : decode cX0_result 16 = .ok (.new 86, 3) := by decide +kernel
theorem dX0_result_19 : decode cX0_result 19 = .ok (.dup, 1) := by decide +kernel
theorem dX0_result_20 : decode cX0_result 20 = .ok (.ldc 101, 2) := by decide +kernel
theorem dX0_result_22 : decode cX0_result 22 = .ok (.invokespecial 90, 3) := by decide +kernel
theorem dX0_result_25 : decode cX0_result 25 = .ok (.athrow, 1) := by decide +kernel
theorem dX0_result_26 : decode cX0_result 26 = .ok (.iload_n 1, 1) := by decide +kernel
theorem dX0_result_27 : decode cX0_result 27 = .ok (.aload_n 0, 1) := by decide +kernel
theorem dX0_result_28 : decode cX0_result 28 = .ok (.getfield 98, 3) := by decide +kernel
theorem dX0_result_31 : decode cX0_result 31 = .ok (.if_icmp .ge 21, 3) := by decide +kernel
theorem dX0_result_34 : decode cX0_result 34 = .ok (.aload_n 0, 1) := by decide +kernel
theorem dX0_result_35 : decode cX0_result 35 = .ok (.getfield 70, 3) := by decide +kernel
theorem dX0_result_38 : decode cX0_result 38 = .ok (.aload_n 0, 1) := by decide +kernel
theorem dX0_result_39 : decode cX0_result 39 = .ok (.getfield 23, 3) := by decide +kernel
theorem dX0_result_42 : decode cX0_result 42 = .ok (.iload_n 1, 1) := by decide +kernel
theorem dX0_result_43 : decode cX0_result 43 = .ok (.iaload, 1) := by decide +kernel
theorem dX0_result_44 : decode cX0_result 44 = .ok (.isub, 1) := by decide +kernel
theorem dX0_result_45 : decode cX0_result 45 = .ok (.aload_n 0, 1) := by decide +kernel
theorem dX0_result_46 : decode cX0_result 46 = .ok (.invokevirtual 103, 3) := by decide +kernel
theorem dX0_result_49 : decode cX0_result 49 = .ok (.if_icmp .ge 13, 3) := by decide +kernel
theorem dX0_result_52 : decode cX0_result 52 = .ok (.new 107, 3) := by decide +kernel
theorem dX0_result_55 : decode cX0_result 55 = .ok (.dup, 1) := by decide +kernel
theorem dX0_result_56 : decode cX0_result 56 = .ok (.ldc 109, 2) := by decide +kernel
theorem dX0_result_58 : decode cX0_result 58 = .ok (.invokespecial 111, 3) := by decide +kernel
theorem dX0_result_61 : decode cX0_result 61 = .ok (.athrow, 1) := by decide +kernel
theorem dX0_result_62 : decode cX0_result 62 = .ok (.aload_n 0, 1) := by decide +kernel
theorem dX0_result_63 : decode cX0_result 63 = .ok (.getfield 16, 3) := by decide +kernel
theorem dX0_result_66 : decode cX0_result 66 = .ok (.iload_n 1, 1) := by decide +kernel
theorem dX0_result_67 : decode cX0_result 67 = .ok (.bipush 6, 2) := by decide +kernel
theorem dX0_result_69 : decode cX0_result 69 = .ok (.imul, 1) := by decide +kernel
theorem dX0_result_70 : decode cX0_result 70 = .ok (.iload_n 2, 1) := by decide +kernel
theorem dX0_result_71 : decode cX0_result 71 = .ok (.iadd, 1) := by decide +kernel
theorem dX0_result_72 : decode cX0_result 72 = .ok (.iaload, 1) := by decide +kernel
theorem dX0_result_73 : decode cX0_result 73 = .ok (.ireturn, 1) := by decide +kernel
theorem dL_about_0 : decode cL_about 0 = .ok (.aload_n 2, 1) := by decide +kernel
theorem dL_about_1 : decode cL_about 1 = .ok (.iconst 0, 1) := by decide +kernel
theorem dL_about_2 : decode cL_about 2 = .ok (.aload_n 0, 1) := by decide +kernel
theorem dL_about_3 : decode cL_about 3 = .ok (.iload_n 1, 1) := by decide +kernel
theorem dL_about_4 : decode cL_about 4 = .ok (.invokevirtual 44, 3) := by decide +kernel
theorem dL_about_7 : decode cL_about 7 = .ok (.i2l, 1) := by decide +kernel
theorem dL_about_8 : decode cL_about 8 = .ok (.lastore, 1) := by decide +kernel
theorem dL_about_9 : decode cL_about 9 = .ok (.goto 6, 3) := by decide +kernel
theorem dL_about_12 : decode cL_about 12 = .ok (.astore_n 3, 1) := by decide +kernel
theorem dL_about_13 : decode cL_about 13 = .ok (.iconst 1, 1) := by decide +kernel
theorem dL_about_14 : decode cL_about 14 = .ok (.ireturn, 1) := by decide +kernel
theorem dL_about_15 : decode cL_about 15 = .ok (.iconst 0, 1) := by decide +kernel
theorem dL_about_16 : decode cL_about 16 = .ok (.ireturn, 1) := by decide +kernel
theorem dX0_about_0 : decode cX0_about 0 = .ok (.iload_n 1, 1) := by decide +kernel
theorem dX0_about_1 : decode cX0_about 1 = .ok (.tableswitch 96 0 6 #[43, 48, 58, 68, 73, 86, 91], 43) := by decide +kernel
theorem dX0_about_44 : decode cX0_about 44 = .ok (.aload_n 0, 1) := by decide +kernel
theorem dX0_about_45 : decode cX0_about 45 = .ok (.getfield 70, 3) := by decide +kernel
theorem dX0_about_48 : decode cX0_about 48 = .ok (.ireturn, 1) := by decide +kernel
theorem dX0_about_49 : decode cX0_about 49 = .ok (.aload_n 0, 1) := by decide +kernel
theorem dX0_about_50 : decode cX0_about 50 = .ok (.getfield 64, 3) := by decide +kernel
theorem dX0_about_53 : decode cX0_about 53 = .ok (.aload_n 0, 1) := by decide +kernel
theorem dX0_about_54 : decode cX0_about 54 = .ok (.getfield 98, 3) := by decide +kernel
theorem dX0_about_57 : decode cX0_about 57 = .ok (.isub, 1) := by decide +kernel
theorem dX0_about_58 : decode cX0_about 58 = .ok (.ireturn, 1) := by decide +kernel
theorem dX0_about_59 : decode cX0_about 59 = .ok (.aload_n 0, 1) := by decide +kernel
theorem dX0_about_60 : decode cX0_about 60 = .ok (.getfield 55, 3) := by decide +kernel
theorem dX0_about_63 : decode cX0_about 63 = .ok (.aload_n 0, 1) := by decide +kernel
theorem dX0_about_64 : decode cX0_about 64 = .ok (.getfield 112, 3) := by decide +kernel
theorem dX0_about_67 : decode cX0_about 67 = .ok (.isub, 1) := by decide +kernel
theorem dX0_about_68 : decode cX0_about 68 = .ok (.ireturn, 1) := by decide +kernel
theorem dX0_about_69 : decode cX0_about 69 = .ok (.aload_n 0, 1) := by decide +kernel
theorem dX0_about_70 : decode cX0_about 70 = .ok (.getfield 115, 3) := by decide +kernel
theorem dX0_about_73 : decode cX0_about 73 = .ok (.ireturn, 1) := by decide +kernel
theorem dX0_about_74 : decode cX0_about 74 = .ok (.aload_n 0, 1) := by decide +kernel
theorem dX0_about_75 : decode cX0_about 75 = .ok (.invokevirtual 118, 3) := by decide +kernel
theorem dX0_about_78 : decode cX0_about 78 = .ok (.ifCond .eq 7, 3) := by decide +kernel
theorem dX0_about_81 : decode cX0_about 81 = .ok (.iconst 1, 1) := by decide +kernel
theorem dX0_about_82 : decode cX0_about 82 = .ok (.goto 4, 3) := by decide +kernel
theorem dX0_about_85 : decode cX0_about 85 = .ok (.iconst 0, 1) := by decide +kernel
theorem dX0_about_86 : decode cX0_about 86 = .ok (.ireturn, 1) := by decide +kernel
theorem dX0_about_87 : decode cX0_about 87 = .ok (.aload_n 0, 1) := by decide +kernel
theorem dX0_about_88 : decode cX0_about 88 = .ok (.invokevirtual 121, 3) := by decide +kernel
theorem dX0_about_91 : decode cX0_about 91 = .ok (.ireturn, 1) := by decide +kernel
theorem dX0_about_92 : decode cX0_about 92 = .ok (.aload_n 0, 1) := by decide +kernel
theorem dX0_about_93 : decode cX0_about 93 = .ok (.getfield 124, 3) := by decide +kernel
theorem dX0_about_96 : decode cX0_about 96 = .ok (.ireturn, 1) := by decide +kernel
theorem dX0_about_97 : decode cX0_about 97 = .ok (.new 48, 3) := by decide +kernel
theorem dX0_about_100 : decode cX0_about 100 = .ok (.dup, 1) := by decide +kernel
theorem dX0_about_101 : decode cX0_about 101 = .ok (.ldc 127, 2) := by decide +kernel
theorem dX0_about_103 : decode cX0_about 103 = .ok (.invokespecial 52, 3) := by decide +kernel
theorem dX0_about_106 : decode cX0_about 106 = .ok (.athrow, 1) := by decide +kernel
theorem dX1_init_0 : decode cX1_init 0 = .ok (.aload_n 0, 1) := by decide +kernel
theorem dX1_init_1 : decode cX1_init 1 = .ok (.invokespecial 1, 3) := by decide +kernel
theorem dX1_init_4 : decode cX1_init 4 = .ok (.aload_n 0, 1) := by decide +kernel
theorem dX1_init_5 : decode cX1_init 5 = .ok (.iconst 1, 1) := by decide +kernel
theorem dX1_init_6 : decode cX1_init 6 = .ok (.putfield 7, 3) := by decide +kernel
theorem dX1_init_9 : decode cX1_init 9 = .ok (.aload_n 0, 1) := by decide +kernel
theorem dX1_init_10 : decode cX1_init 10 = .ok (.sipush 720, 3) := by decide +kernel
theorem dX1_init_13 : decode cX1_init 13 = .ok (.newarray .int, 2) := by decide +kernel
theorem dX1_init_15 : decode cX1_init 15 = .ok (.putfield 13, 3) := by decide +kernel
theorem dX1_init_18 : decode cX1_init 18 = .ok (.aload_n 0, 1) := by decide +kernel
theorem dX1_init_19 : decode cX1_init 19 = .ok (.sipush 1200, 3) := by decide +kernel
theorem dX1_init_22 : decode cX1_init 22 = .ok (.newarray .int, 2) := by decide +kernel
theorem dX1_init_24 : decode cX1_init 24 = .ok (.putfield 17, 3) := by decide +kernel
theorem dX1_init_27 : decode cX1_init 27 = .ok (.aload_n 0, 1) := by decide +kernel
theorem dX1_init_28 : decode cX1_init 28 = .ok (.sipush 200, 3) := by decide +kernel
theorem dX1_init_31 : decode cX1_init 31 = .ok (.newarray .boolean, 2) := by decide +kernel
theorem dX1_init_33 : decode cX1_init 33 = .ok (.putfield 20, 3) := by decide +kernel
theorem dX1_init_36 : decode cX1_init 36 = .ok (.aload_n 0, 1) := by decide +kernel
theorem dX1_init_37 : decode cX1_init 37 = .ok (.sipush 200, 3) := by decide +kernel
theorem dX1_init_40 : decode cX1_init 40 = .ok (.newarray .int, 2) := by decide +kernel
theorem dX1_init_42 : decode cX1_init 42 = .ok (.putfield 24, 3) := by decide +kernel
theorem dX1_init_45 : decode cX1_init 45 = .ok (.aload_n 0, 1) := by decide +kernel
theorem dX1_init_46 : decode cX1_init 46 = .ok (.sipush 1200, 3) := by decide +kernel
theorem dX1_init_49 : decode cX1_init 49 = .ok (.newarray .int, 2) := by decide +kernel
theorem dX1_init_51 : decode cX1_init 51 = .ok (.putfield 27, 3) := by decide +kernel
theorem dX1_init_54 : decode cX1_init 54 = .ok (.aload_n 0, 1) := by decide +kernel
theorem dX1_init_55 : decode cX1_init 55 = .ok (.bipush 16, 2) := by decide +kernel
theorem dX1_init_57 : decode cX1_init 57 = .ok (.newarray .int, 2) := by decide +kernel
theorem dX1_init_59 : decode cX1_init 59 = .ok (.putfield 30, 3) := by decide +kernel
theorem dX1_init_62 : decode cX1_init 62 = .ok (.aload_n 0, 1) := by decide +kernel
theorem dX1_init_63 : decode cX1_init 63 = .ok (.bipush 36, 2) := by decide +kernel
theorem dX1_init_65 : decode cX1_init 65 = .ok (.newarray .int, 2) := by decide +kernel
theorem dX1_init_67 : decode cX1_init 67 = .ok (.putfield 33, 3) := by decide +kernel
theorem dX1_init_70 : decode cX1_init 70 = .ok (.aload_n 0, 1) := by decide +kernel
theorem dX1_init_71 : decode cX1_init 71 = .ok (.bipush 36, 2) := by decide +kernel
theorem dX1_init_73 : decode cX1_init 73 = .ok (.newarray .int, 2) := by decide +kernel
theorem dX1_init_75 : decode cX1_init 75 = .ok (.putfield 36, 3) := by decide +kernel
theorem dX1_init_78 : decode cX1_init 78 = .ok (.aload_n 0, 1) := by decide +kernel
theorem dX1_init_79 : decode cX1_init 79 = .ok (.bipush 36, 2) := by decide +kernel
theorem dX1_init_81 : decode cX1_init 81 = .ok (.newarray .int, 2) := by decide +kernel
theorem dX1_init_83 : decode cX1_init 83 = .ok (.putfield 39, 3) := by decide +kernel
theorem dX1_init_86 : decode cX1_init 86 = .ok (.aload_n 0, 1) := by decide +kernel
theorem dX1_init_87 : decode cX1_init 87 = .ok (.bipush 36, 2) := by decide +kernel
theorem dX1_init_89 : decode cX1_init 89 = .ok (.newarray .int, 2) := by decide +kernel
theorem dX1_init_91 : decode cX1_init 91 = .ok (.putfield 42, 3) := by decide +kernel
theorem dX1_init_94 : decode cX1_init 94 = .ok (.aload_n 0, 1) := by decide +kernel
theorem dX1_init_95 : decode cX1_init 95 = .ok (.bipush 36, 2) := by decide +kernel
theorem dX1_init_97 : decode cX1_init 97 = .ok (.newarray .boolean, 2) := by decide +kernel
theorem dX1_init_99 : decode cX1_init 99 = .ok (.putfield 45, 3) := by decide +kernel
theorem dX1_init_102 : decode cX1_init 102 = .ok (.aload_n 0, 1) := by decide +kernel
theorem dX1_init_103 : decode cX1_init 103 = .ok (.bipush 36, 2) := by decide +kernel
theorem dX1_init_105 : decode cX1_init 105 = .ok (.newarray .boolean, 2) := by decide +kernel
theorem dX1_init_107 : decode cX1_init 107 = .ok (.putfield 48, 3) := by decide +kernel
theorem dX1_init_110 : decode cX1_init 110 = .ok (.aload_n 0, 1) := by decide +kernel
theorem dX1_init_111 : decode cX1_init 111 = .ok (.invokevirtual 51, 3) := by decide +kernel
theorem dX1_init_114 : decode cX1_init 114 = .ok (.return_, 1) := by decide +kernel
theorem dX1_clear_0 : decode cX1_clear 0 = .ok (.aload_n 0, 1) := by decide +kernel
theorem dX1_clear_1 : decode cX1_clear 1 = .ok (.iconst 0, 1) := by decide +kernel
theorem dX1_clear_2 : decode cX1_clear 2 = .ok (.putfield 57, 3) := by decide +kernel
theorem dX1_clear_5 : decode cX1_clear 5 = .ok (.aload_n 0, 1) := by decide +kernel
theorem dX1_clear_6 : decode cX1_clear 6 = .ok (.iconst 0, 1) := by decide +kernel
theorem dX1_clear_7 : decode cX1_clear 7 = .ok (.putfield 60, 3) := by decide +kernel
theorem dX1_clear_10 : decode cX1_clear 10 = .ok (.aload_n 0, 1) := by decide +kernel
theorem dX1_clear_11 : decode cX1_clear 11 = .ok (.iconst 0, 1) := by decide +kernel
theorem dX1_clear_12 : decode cX1_clear 12 = .ok (.putfield 63, 3) := by decide +kernel
theorem dX1_clear_15 : decode cX1_clear 15 = .ok (.aload_n 0, 1) := by decide +kernel
theorem dX1_clear_16 : decode cX1_clear 16 = .ok (.iconst 0, 1) := by decide +kernel
theorem dX1_clear_17 : decode cX1_clear 17 = .ok (.putfield 66, 3) := by decide +kernel
theorem dX1_clear_20 : decode cX1_clear 20 = .ok (.aload_n 0, 1) := by decide +kernel
theorem dX1_clear_21 : decode cX1_clear 21 = .ok (.iconst 0, 1) := by decide +kernel
theorem dX1_clear_22 : decode cX1_clear 22 = .ok (.putfield 69, 3) := by decide +kernel
theorem dX1_clear_25 : decode cX1_clear 25 = .ok (.aload_n 0, 1) := by decide +kernel
theorem dX1_clear_26 : decode cX1_clear 26 = .ok (.iconst 0, 1) := by decide +kernel
theorem dX1_clear_27 : decode cX1_clear 27 = .ok (.putfield 73, 3) := by decide +kernel
theorem dX1_clear_30 : decode cX1_clear 30 = .ok (.aload_n 0, 1) := by decide +kernel
theorem dX1_clear_31 : decode cX1_clear 31 = .ok (.iconst 0, 1) := by decide +kernel
theorem dX1_clear_32 : decode cX1_clear 32 = .ok (.putfield 76, 3) := by decide +kernel
theorem dX1_clear_35 : decode cX1_clear 35 = .ok (.aload_n 0, 1) := by decide +kernel
theorem dX1_clear_36 : decode cX1_clear 36 = .ok (.iconst 0, 1) := by decide +kernel
theorem dX1_clear_37 : decode cX1_clear 37 = .ok (.putfield 79, 3) := by decide +kernel
theorem dX1_clear_40 : decode cX1_clear 40 = .ok (.iconst 0, 1) := by decide +kernel
theorem dX1_clear_41 : decode cX1_clear 41 = .ok (.istore_n 1, 1) := by decide +kernel
theorem dX1_clear_42 : decode cX1_clear 42 = .ok (.iload_n 1, 1) := by decide +kernel
theorem dX1_clear_43 : decode cX1_clear 43 = .ok (.bipush 16, 2) := by decide +kernel
theorem dX1_clear_45 : decode cX1_clear 45 = .ok (.if_icmp .ge 16, 3) := by decide +kernel
theorem dX1_clear_48 : decode cX1_clear 48 = .ok (.aload_n 0, 1) := by decide +kernel
theorem dX1_clear_49 : decode cX1_clear 49 = .ok (.getfield 30, 3) := by decide +kernel
theorem dX1_clear_52 : decode cX1_clear 52 = .ok (.iload_n 1, 1) := by decide +kernel
theorem dX1_clear_53 : decode cX1_clear 53 = .ok (.iconst (-1), 1) := by decide +kernel
theorem dX1_clear_54 : decode cX1_clear 54 = .ok (.iastore, 1) := by decide +kernel
theorem dX1_clear_55 : decode cX1_clear 55 = .ok (.iinc 1 1, 3) := by decide +kernel
theorem dX1_clear_58 : decode cX1_clear 58 = .ok (.goto (-16), 3) := by decide +kernel
theorem dX1_clear_61 : decode cX1_clear 61 = .ok (.iconst 0, 1) := by decide +kernel
theorem dX1_clear_62 : decode cX1_clear 62 = .ok (.istore_n 1, 1) := by decide +kernel
theorem dX1_clear_63 : decode cX1_clear 63 = .ok (.iload_n 1, 1) := by decide +kernel
theorem dX1_clear_64 : decode cX1_clear 64 = .ok (.bipush 36, 2) := by decide +kernel
theorem dX1_clear_66 : decode cX1_clear 66 = .ok (.if_icmp .ge 51, 3) := by decide +kernel
theorem dX1_clear_69 : decode cX1_clear 69 = .ok (.aload_n 0, 1) := by decide +kernel
theorem dX1_clear_70 : decode cX1_clear 70 = .ok (.getfield 33, 3) := by decide +kernel
theorem dX1_clear_73 : decode cX1_clear 73 = .ok (.iload_n 1, 1) := by decide +kernel
theorem dX1_clear_74 : decode cX1_clear 74 = .ok (.iconst 0, 1) := by decide +kernel
theorem dX1_clear_75 : decode cX1_clear 75 = .ok (.iastore, 1) := by decide +kernel
theorem dX1_clear_76 : decode cX1_clear 76 = .ok (.aload_n 0, 1) := by decide +kernel
theorem dX1_clear_77 : decode cX1_clear 77 = .ok (.getfield 36, 3) := by decide +kernel
theorem dX1_clear_80 : decode cX1_clear 80 = .ok (.iload_n 1, 1) := by decide +kernel
theorem dX1_clear_81 : decode cX1_clear 81 = .ok (.iconst 0, 1) := by decide +kernel
theorem dX1_clear_82 : decode cX1_clear 82 = .ok (.iastore, 1) := by decide +kernel
theorem dX1_clear_83 : decode cX1_clear 83 = .ok (.aload_n 0, 1) := by decide +kernel
theorem dX1_clear_84 : decode cX1_clear 84 = .ok (.getfield 39, 3) := by decide +kernel
theorem dX1_clear_87 : decode cX1_clear 87 = .ok (.iload_n 1, 1) := by decide +kernel
theorem dX1_clear_88 : decode cX1_clear 88 = .ok (.iconst 0, 1) := by decide +kernel
theorem dX1_clear_89 : decode cX1_clear 89 = .ok (.iastore, 1) := by decide +kernel
theorem dX1_clear_90 : decode cX1_clear 90 = .ok (.aload_n 0, 1) := by decide +kernel
theorem dX1_clear_91 : decode cX1_clear 91 = .ok (.getfield 42, 3) := by decide +kernel
theorem dX1_clear_94 : decode cX1_clear 94 = .ok (.iload_n 1, 1) := by decide +kernel
theorem dX1_clear_95 : decode cX1_clear 95 = .ok (.iconst 0, 1) := by decide +kernel
theorem dX1_clear_96 : decode cX1_clear 96 = .ok (.iastore, 1) := by decide +kernel
theorem dX1_clear_97 : decode cX1_clear 97 = .ok (.aload_n 0, 1) := by decide +kernel
theorem dX1_clear_98 : decode cX1_clear 98 = .ok (.getfield 45, 3) := by decide +kernel
theorem dX1_clear_101 : decode cX1_clear 101 = .ok (.iload_n 1, 1) := by decide +kernel
theorem dX1_clear_102 : decode cX1_clear 102 = .ok (.iconst 0, 1) := by decide +kernel
theorem dX1_clear_103 : decode cX1_clear 103 = .ok (.bastore, 1) := by decide +kernel
theorem dX1_clear_104 : decode cX1_clear 104 = .ok (.aload_n 0, 1) := by decide +kernel
theorem dX1_clear_105 : decode cX1_clear 105 = .ok (.getfield 48, 3) := by decide +kernel
theorem dX1_clear_108 : decode cX1_clear 108 = .ok (.iload_n 1, 1) := by decide +kernel
theorem dX1_clear_109 : decode cX1_clear 109 = .ok (.iconst 0, 1) := by decide +kernel
theorem dX1_clear_110 : decode cX1_clear 110 = .ok (.bastore, 1) := by decide +kernel
theorem dX1_clear_111 : decode cX1_clear 111 = .ok (.iinc 1 1, 3) := by decide +kernel
theorem dX1_clear_114 : decode cX1_clear 114 = .ok (.goto (-51), 3) := by decide +kernel
theorem dX1_clear_117 : decode cX1_clear 117 = .ok (.return_, 1) := by decide +kernel
theorem dX1_thrown_0 : decode cX1_thrown 0 = .ok (.aload_n 0, 1) := by decide +kernel
theorem dX1_thrown_1 : decode cX1_thrown 1 = .ok (.getfield 54, 3) := by decide +kernel
theorem dX1_thrown_4 : decode cX1_thrown 4 = .ok (.ireturn, 1) := by decide +kernel
theorem dX1_begin_0 : decode cX1_begin 0 = .ok (.aload_n 0, 1) := by decide +kernel
theorem dX1_begin_1 : decode cX1_begin 1 = .ok (.iload_n 1, 1) := by decide +kernel
theorem dX1_begin_2 : decode cX1_begin 2 = .ok (.iconst 1, 1) := by decide +kernel
theorem dX1_begin_3 : decode cX1_begin 3 = .ok (.bipush 6, 2) := by decide +kernel
theorem dX1_begin_5 : decode cX1_begin 5 = .ok (.invokestatic 82, 3) := by decide +kernel
theorem dX1_begin_8 : decode cX1_begin 8 = .ok (.ifCond .ne 7, 3) := by decide +kernel
theorem dX1_begin_11 : decode cX1_begin 11 = .ok (.iconst 1, 1) := by decide +kernel
theorem dX1_begin_12 : decode cX1_begin 12 = .ok (.goto 4, 3) := by decide +kernel
theorem dX1_begin_15 : decode cX1_begin 15 = .ok (.iconst 0, 1) := by decide +kernel
theorem dX1_begin_16 : decode cX1_begin 16 = .ok (.iconst 0, 1) := by decide +kernel
theorem dX1_begin_17 : decode cX1_begin 17 = .ok (.invokevirtual 86, 3) := by decide +kernel
theorem dX1_begin_20 : decode cX1_begin 20 = .ok (.ifCond .ne 12, 3) := by decide +kernel
theorem dX1_begin_23 : decode cX1_begin 23 = .ok (.aload_n 0, 1) := by decide +kernel
theorem dX1_begin_24 : decode cX1_begin 24 = .ok (.iload_n 1, 1) := by decide +kernel
theorem dX1_begin_25 : decode cX1_begin 25 = .ok (.putfield 7, 3) := by decide +kernel
theorem dX1_begin_28 : decode cX1_begin 28 = .ok (.aload_n 0, 1) := by decide +kernel
theorem dX1_begin_29 : decode cX1_begin 29 = .ok (.invokevirtual 51, 3) := by decide +kernel
theorem dX1_begin_32 : decode cX1_begin 32 = .ok (.return_, 1) := by decide +kernel
theorem dX1_in__0 : decode cX1_in_ 0 = .ok (.iload_n 0, 1) := by decide +kernel
theorem dX1_in__1 : decode cX1_in_ 1 = .ok (.iload_n 1, 1) := by decide +kernel
theorem dX1_in__2 : decode cX1_in_ 2 = .ok (.if_icmp .lt 12, 3) := by decide +kernel
theorem dX1_in__5 : decode cX1_in_ 5 = .ok (.iload_n 0, 1) := by decide +kernel
theorem dX1_in__6 : decode cX1_in_ 6 = .ok (.iload_n 2, 1) := by decide +kernel
theorem dX1_in__7 : decode cX1_in_ 7 = .ok (.if_icmp .gt 7, 3) := by decide +kernel
theorem dX1_in__10 : decode cX1_in_ 10 = .ok (.iconst 1, 1) := by decide +kernel
theorem dX1_in__11 : decode cX1_in_ 11 = .ok (.goto 4, 3) := by decide +kernel
theorem dX1_in__14 : decode cX1_in_ 14 = .ok (.iconst 0, 1) := by decide +kernel
theorem dX1_in__15 : decode cX1_in_ 15 = .ok (.ireturn, 1) := by decide +kernel
theorem dX1_refuse_0 : decode cX1_refuse 0 = .ok (.aload_n 0, 1) := by decide +kernel
theorem dX1_refuse_1 : decode cX1_refuse 1 = .ok (.iload_n 1, 1) := by decide +kernel
theorem dX1_refuse_2 : decode cX1_refuse 2 = .ok (.ifCond .eq 7, 3) := by decide +kernel
theorem dX1_refuse_5 : decode cX1_refuse 5 = .ok (.iconst 1, 1) := by decide +kernel
theorem dX1_refuse_6 : decode cX1_refuse 6 = .ok (.goto 12, 3) := by decide +kernel
theorem dX1_refuse_9 : decode cX1_refuse 9 = .ok (.iload_n 2, 1) := by decide +kernel
theorem dX1_refuse_10 : decode cX1_refuse 10 = .ok (.ifCond .eq 7, 3) := by decide +kernel
theorem dX1_refuse_13 : decode cX1_refuse 13 = .ok (.iconst 2, 1) := by decide +kernel
theorem dX1_refuse_14 : decode cX1_refuse 14 = .ok (.goto 4, 3) := by decide +kernel
theorem dX1_refuse_17 : decode cX1_refuse 17 = .ok (.iconst 0, 1) := by decide +kernel
theorem dX1_refuse_18 : decode cX1_refuse 18 = .ok (.putfield 54, 3) := by decide +kernel
theorem dX1_refuse_21 : decode cX1_refuse 21 = .ok (.aload_n 0, 1) := by decide +kernel
theorem dX1_refuse_22 : decode cX1_refuse 22 = .ok (.getfield 54, 3) := by decide +kernel
theorem dX1_refuse_25 : decode cX1_refuse 25 = .ok (.ifCond .le 7, 3) := by decide +kernel
theorem dX1_refuse_28 : decode cX1_refuse 28 = .ok (.iconst 1, 1) := by decide +kernel
theorem dX1_refuse_29 : decode cX1_refuse 29 = .ok (.goto 4, 3) := by decide +kernel
theorem dX1_refuse_32 : decode cX1_refuse 32 = .ok (.iconst 0, 1) := by decide +kernel
theorem dX1_refuse_33 : decode cX1_refuse 33 = .ok (.ireturn, 1) := by decide +kernel
theorem dX1_weights_0 : decode cX1_weights 0 = .ok (.aload_n 0, 1) := by decide +kernel
theorem dX1_weights_1 : decode cX1_weights 1 = .ok (.aload_n 0, 1) := by decide +kernel
theorem dX1_weights_2 : decode cX1_weights 2 = .ok (.getfield 60, 3) := by decide +kernel
theorem dX1_weights_5 : decode cX1_weights 5 = .ok (.bipush 120, 2) := by decide +kernel
theorem dX1_weights_7 : decode cX1_weights 7 = .ok (.if_icmp .ne 7, 3) := by decide +kernel
theorem dX1_weights_10 : decode cX1_weights 10 = .ok (.iconst 1, 1) := by decide +kernel
theorem dX1_weights_11 : decode cX1_weights 11 = .ok (.goto 4, 3) := by decide +kernel
theorem dX1_weights_14 : decode cX1_weights 14 = .ok (.iconst 0, 1) := by decide +kernel
theorem dX1_weights_15 : decode cX1_weights 15 = .ok (.iconst 0, 1) := by decide +kernel
theorem dX1_weights_16 : decode cX1_weights 16 = .ok (.invokevirtual 86, 3) := by decide +kernel
theorem dX1_weights_19 : decode cX1_weights 19 = .ok (.ifCond .eq 5, 3) := by decide +kernel
theorem dX1_weights_22 : decode cX1_weights 22 = .ok (.iconst 0, 1) := by decide +kernel
theorem dX1_weights_23 : decode cX1_weights 23 = .ok (.ireturn, 1) := by decide +kernel
theorem dX1_weights_24 : decode cX1_weights 24 = .ok (.aload_n 0, 1) := by decide +kernel
theorem dX1_weights_25 : decode cX1_weights 25 = .ok (.getfield 13, 3) := by decide +kernel
theorem dX1_weights_28 : decode cX1_weights 28 = .ok (.bipush 6, 2) := by decide +kernel
theorem dX1_weights_30 : decode cX1_weights 30 = .ok (.aload_n 0, 1) := by decide +kernel
theorem dX1_weights_31 : decode cX1_weights 31 = .ok (.getfield 60, 3) := by decide +kernel
theorem dX1_weights_34 : decode cX1_weights 34 = .ok (.imul, 1) := by decide +kernel
theorem dX1_weights_35 : decode cX1_weights 35 = .ok (.iload_n 1, 1) := by decide +kernel
theorem dX1_weights_36 : decode cX1_weights 36 = .ok (.iload_n 2, 1) := by decide +kernel
theorem dX1_weights_37 : decode cX1_weights 37 = .ok (.iload_n 3, 1) := by decide +kernel
theorem dX1_weights_38 : decode cX1_weights 38 = .ok (.iload 4, 2) := by decide +kernel
theorem dX1_weights_40 : decode cX1_weights 40 = .ok (.iload 5, 2) := by decide +kernel
theorem dX1_weights_42 : decode cX1_weights 42 = .ok (.iload 6, 2) := by decide +kernel
theorem dX1_weights_44 : decode cX1_weights 44 = .ok (.invokestatic 90, 3) := by decide +kernel
theorem dX1_weights_47 : decode cX1_weights 47 = .ok (.aload_n 0, 1) := by decide +kernel
theorem dX1_weights_48 : decode cX1_weights 48 = .ok (.dup, 1) := by decide +kernel
theorem dX1_weights_49 : decode cX1_weights 49 = .ok (.getfield 60, 3) := by decide +kernel
theorem dX1_weights_52 : decode cX1_weights 52 = .ok (.iconst 1, 1) := by decide +kernel
theorem dX1_weights_53 : decode cX1_weights 53 = .ok (.iadd, 1) := by decide +kernel
theorem dX1_weights_54 : decode cX1_weights 54 = .ok (.putfield 60, 3) := by decide +kernel
theorem dX1_weights_57 : decode cX1_weights 57 = .ok (.aload_n 0, 1) := by decide +kernel
theorem dX1_weights_58 : decode cX1_weights 58 = .ok (.getfield 60, 3) := by decide +kernel
theorem dX1_weights_61 : decode cX1_weights 61 = .ok (.iconst 1, 1) := by decide +kernel
theorem dX1_weights_62 : decode cX1_weights 62 = .ok (.isub, 1) := by decide +kernel
theorem dX1_weights_63 : decode cX1_weights 63 = .ok (.ireturn, 1) := by decide +kernel
theorem dX1_six_0 : decode cX1_six 0 = .ok (.aload_n 0, 1) := by decide +kernel
theorem dX1_six_1 : decode cX1_six 1 = .ok (.iload_n 1, 1) := by decide +kernel
theorem dX1_six_2 : decode cX1_six 2 = .ok (.iload_n 2, 1) := by decide +kernel
theorem dX1_six_3 : decode cX1_six 3 = .ok (.iastore, 1) := by decide +kernel
theorem dX1_six_4 : decode cX1_six 4 = .ok (.aload_n 0, 1) := by decide +kernel
theorem dX1_six_5 : decode cX1_six 5 = .ok (.iload_n 1, 1) := by decide +kernel
theorem dX1_six_6 : decode cX1_six 6 = .ok (.iconst 1, 1) := by decide +kernel
theorem dX1_six_7 : decode cX1_six 7 = .ok (.iadd, 1) := by decide +kernel
theorem dX1_six_8 : decode cX1_six 8 = .ok (.iload_n 3, 1) := by decide +kernel
theorem dX1_six_9 : decode cX1_six 9 = .ok (.iastore, 1) := by decide +kernel
theorem dX1_six_10 : decode cX1_six 10 = .ok (.aload_n 0, 1) := by decide +kernel
theorem dX1_six_11 : decode cX1_six 11 = .ok (.iload_n 1, 1) := by decide +kernel
theorem dX1_six_12 : decode cX1_six 12 = .ok (.iconst 2, 1) := by decide +kernel
theorem dX1_six_13 : decode cX1_six 13 = .ok (.iadd, 1) := by decide +kernel
theorem dX1_six_14 : decode cX1_six 14 = .ok (.iload 4, 2) := by decide +kernel
theorem dX1_six_16 : decode cX1_six 16 = .ok (.iastore, 1) := by decide +kernel
theorem dX1_six_17 : decode cX1_six 17 = .ok (.aload_n 0, 1) := by decide +kernel
theorem dX1_six_18 : decode cX1_six 18 = .ok (.iload_n 1, 1) := by decide +kernel
theorem dX1_six_19 : decode cX1_six 19 = .ok (.iconst 3, 1) := by decide +kernel
theorem dX1_six_20 : decode cX1_six 20 = .ok (.iadd, 1) := by decide +kernel
theorem dX1_six_21 : decode cX1_six 21 = .ok (.iload 5, 2) := by decide +kernel
theorem dX1_six_23 : decode cX1_six 23 = .ok (.iastore, 1) := by decide +kernel
theorem dX1_six_24 : decode cX1_six 24 = .ok (.aload_n 0, 1) := by decide +kernel
theorem dX1_six_25 : decode cX1_six 25 = .ok (.iload_n 1, 1) := by decide +kernel
theorem dX1_six_26 : decode cX1_six 26 = .ok (.iconst 4, 1) := by decide +kernel
theorem dX1_six_27 : decode cX1_six 27 = .ok (.iadd, 1) := by decide +kernel
theorem dX1_six_28 : decode cX1_six 28 = .ok (.iload 6, 2) := by decide +kernel
theorem dX1_six_30 : decode cX1_six 30 = .ok (.iastore, 1) := by decide +kernel
theorem dX1_six_31 : decode cX1_six 31 = .ok (.aload_n 0, 1) := by decide +kernel
theorem dX1_six_32 : decode cX1_six 32 = .ok (.iload_n 1, 1) := by decide +kernel
theorem dX1_six_33 : decode cX1_six 33 = .ok (.iconst 5, 1) := by decide +kernel
theorem dX1_six_34 : decode cX1_six 34 = .ok (.iadd, 1) := by decide +kernel
theorem dX1_six_35 : decode cX1_six 35 = .ok (.iload 7, 2) := by decide +kernel
theorem dX1_six_37 : decode cX1_six 37 = .ok (.iastore, 1) := by decide +kernel
theorem dX1_six_38 : decode cX1_six 38 = .ok (.return_, 1) := by decide +kernel
theorem dX1_vector_0 : decode cX1_vector 0 = .ok (.aload_n 0, 1) := by decide +kernel
theorem dX1_vector_1 : decode cX1_vector 1 = .ok (.aload_n 0, 1) := by decide +kernel
theorem dX1_vector_2 : decode cX1_vector 2 = .ok (.getfield 73, 3) := by decide +kernel
theorem dX1_vector_5 : decode cX1_vector 5 = .ok (.sipush 200, 3) := by decide +kernel
theorem dX1_vector_8 : decode cX1_vector 8 = .ok (.if_icmp .ne 7, 3) := by decide +kernel
theorem dX1_vector_11 : decode cX1_vector 11 = .ok (.iconst 1, 1) := by decide +kernel
theorem dX1_vector_12 : decode cX1_vector 12 = .ok (.goto 4, 3) := by decide +kernel
theorem dX1_vector_15 : decode cX1_vector 15 = .ok (.iconst 0, 1) := by decide +kernel
theorem dX1_vector_16 : decode cX1_vector 16 = .ok (.iconst 0, 1) := by decide +kernel
theorem dX1_vector_17 : decode cX1_vector 17 = .ok (.invokevirtual 86, 3) := by decide +kernel
theorem dX1_vector_20 : decode cX1_vector 20 = .ok (.ifCond .eq 5, 3) := by decide +kernel
theorem dX1_vector_23 : decode cX1_vector 23 = .ok (.iconst 0, 1) := by decide +kernel
theorem dX1_vector_24 : decode cX1_vector 24 = .ok (.ireturn, 1) := by decide +kernel
theorem dX1_vector_25 : decode cX1_vector 25 = .ok (.aload_n 0, 1) := by decide +kernel
theorem dX1_vector_26 : decode cX1_vector 26 = .ok (.getfield 17, 3) := by decide +kernel
theorem dX1_vector_29 : decode cX1_vector 29 = .ok (.bipush 6, 2) := by decide +kernel
theorem dX1_vector_31 : decode cX1_vector 31 = .ok (.aload_n 0, 1) := by decide +kernel
theorem dX1_vector_32 : decode cX1_vector 32 = .ok (.getfield 73, 3) := by decide +kernel
theorem dX1_vector_35 : decode cX1_vector 35 = .ok (.imul, 1) := by decide +kernel
theorem dX1_vector_36 : decode cX1_vector 36 = .ok (.iload_n 2, 1) := by decide +kernel
theorem dX1_vector_37 : decode cX1_vector 37 = .ok (.iload_n 3, 1) := by decide +kernel
theorem dX1_vector_38 : decode cX1_vector 38 = .ok (.iload 4, 2) := by decide +kernel
theorem dX1_vector_40 : decode cX1_vector 40 = .ok (.iload 5, 2) := by decide +kernel
theorem dX1_vector_42 : decode cX1_vector 42 = .ok (.iload 6, 2) := by decide +kernel
theorem dX1_vector_44 : decode cX1_vector 44 = .ok (.iload 7, 2) := by decide +kernel
theorem dX1_vector_46 : decode cX1_vector 46 = .ok (.invokestatic 90, 3) := by decide +kernel
theorem dX1_vector_49 : decode cX1_vector 49 = .ok (.aload_n 0, 1) := by decide +kernel
theorem dX1_vector_50 : decode cX1_vector 50 = .ok (.getfield 20, 3) := by decide +kernel
theorem dX1_vector_53 : decode cX1_vector 53 = .ok (.aload_n 0, 1) := by decide +kernel
theorem dX1_vector_54 : decode cX1_vector 54 = .ok (.getfield 73, 3) := by decide +kernel
theorem dX1_vector_57 : decode cX1_vector 57 = .ok (.iload_n 1, 1) := by decide +kernel
theorem dX1_vector_58 : decode cX1_vector 58 = .ok (.bastore, 1) := by decide +kernel
theorem dX1_vector_59 : decode cX1_vector 59 = .ok (.aload_n 0, 1) := by decide +kernel
theorem dX1_vector_60 : decode cX1_vector 60 = .ok (.getfield 24, 3) := by decide +kernel
theorem dX1_vector_63 : decode cX1_vector 63 = .ok (.aload_n 0, 1) := by decide +kernel
theorem dX1_vector_64 : decode cX1_vector 64 = .ok (.getfield 73, 3) := by decide +kernel
theorem dX1_vector_67 : decode cX1_vector 67 = .ok (.iconst (-1), 1) := by decide +kernel
theorem dX1_vector_68 : decode cX1_vector 68 = .ok (.iastore, 1) := by decide +kernel
theorem dX1_vector_69 : decode cX1_vector 69 = .ok (.aload_n 0, 1) := by decide +kernel
theorem dX1_vector_70 : decode cX1_vector 70 = .ok (.dup, 1) := by decide +kernel
theorem dX1_vector_71 : decode cX1_vector 71 = .ok (.getfield 73, 3) := by decide +kernel
theorem dX1_vector_74 : decode cX1_vector 74 = .ok (.iconst 1, 1) := by decide +kernel
theorem dX1_vector_75 : decode cX1_vector 75 = .ok (.iadd, 1) := by decide +kernel
theorem dX1_vector_76 : decode cX1_vector 76 = .ok (.putfield 73, 3) := by decide +kernel
theorem dX1_vector_79 : decode cX1_vector 79 = .ok (.aload_n 0, 1) := by decide +kernel
theorem dX1_vector_80 : decode cX1_vector 80 = .ok (.getfield 73, 3) := by decide +kernel
theorem dX1_vector_83 : decode cX1_vector 83 = .ok (.iconst 1, 1) := by decide +kernel
theorem dX1_vector_84 : decode cX1_vector 84 = .ok (.isub, 1) := by decide +kernel
theorem dX1_vector_85 : decode cX1_vector 85 = .ok (.ireturn, 1) := by decide +kernel
theorem dX1_cycle_0 : decode cX1_cycle 0 = .ok (.aload_n 0, 1) := by decide +kernel
theorem dX1_cycle_1 : decode cX1_cycle 1 = .ok (.iload_n 1, 1) := by decide +kernel
theorem dX1_cycle_2 : decode cX1_cycle 2 = .ok (.ifCond .lt 14, 3) := by decide +kernel
theorem dX1_cycle_5 : decode cX1_cycle 5 = .ok (.iload_n 1, 1) := by decide +kernel
theorem dX1_cycle_6 : decode cX1_cycle 6 = .ok (.ldc 101, 2) := by decide +kernel
theorem dX1_cycle_8 : decode cX1_cycle 8 = .ok (.aload_n 0, 1) := by decide +kernel
theorem dX1_cycle_9 : decode cX1_cycle 9 = .ok (.getfield 57, 3) := by decide +kernel
theorem dX1_cycle_12 : decode cX1_cycle 12 = .ok (.isub, 1) := by decide +kernel
theorem dX1_cycle_13 : decode cX1_cycle 13 = .ok (.if_icmp .le 7, 3) := by decide +kernel
theorem dX1_cycle_16 : decode cX1_cycle 16 = .ok (.iconst 1, 1) := by decide +kernel
theorem dX1_cycle_17 : decode cX1_cycle 17 = .ok (.goto 4, 3) := by decide +kernel
theorem dX1_cycle_20 : decode cX1_cycle 20 = .ok (.iconst 0, 1) := by decide +kernel
theorem dX1_cycle_21 : decode cX1_cycle 21 = .ok (.iconst 0, 1) := by decide +kernel
theorem dX1_cycle_22 : decode cX1_cycle 22 = .ok (.invokevirtual 86, 3) := by decide +kernel
theorem dX1_cycle_25 : decode cX1_cycle 25 = .ok (.ifCond .eq 5, 3) := by decide +kernel
theorem dX1_cycle_28 : decode cX1_cycle 28 = .ok (.iconst 0, 1) := by decide +kernel
theorem dX1_cycle_29 : decode cX1_cycle 29 = .ok (.ireturn, 1) := by decide +kernel
theorem dX1_cycle_30 : decode cX1_cycle 30 = .ok (.iconst 0, 1) := by decide +kernel
theorem dX1_cycle_31 : decode cX1_cycle 31 = .ok (.istore_n 2, 1) := by decide +kernel
theorem dX1_cycle_32 : decode cX1_cycle 32 = .ok (.iload_n 2, 1) := by decide +kernel
theorem dX1_cycle_33 : decode cX1_cycle 33 = .ok (.iload_n 1, 1) := by decide +kernel
theorem dX1_cycle_34 : decode cX1_cycle 34 = .ok (.if_icmp .ge 31, 3) := by decide +kernel
theorem dX1_cycle_37 : decode cX1_cycle 37 = .ok (.aload_n 0, 1) := by decide +kernel
theorem dX1_cycle_38 : decode cX1_cycle 38 = .ok (.dup, 1) := by decide +kernel
theorem dX1_cycle_39 : decode cX1_cycle 39 = .ok (.getfield 57, 3) := by decide +kernel
theorem dX1_cycle_42 : decode cX1_cycle 42 = .ok (.iconst 1, 1) := by decide +kernel
theorem dX1_cycle_43 : decode cX1_cycle 43 = .ok (.iadd, 1) := by decide +kernel
theorem dX1_cycle_44 : decode cX1_cycle 44 = .ok (.putfield 57, 3) := by decide +kernel
theorem dX1_cycle_47 : decode cX1_cycle 47 = .ok (.aload_n 0, 1) := by decide +kernel
theorem dX1_cycle_48 : decode cX1_cycle 48 = .ok (.invokevirtual 102, 3) := by decide +kernel
theorem dX1_cycle_51 : decode cX1_cycle 51 = .ok (.aload_n 0, 1) := by decide +kernel
theorem dX1_cycle_52 : decode cX1_cycle 52 = .ok (.invokevirtual 105, 3) := by decide +kernel
theorem dX1_cycle_55 : decode cX1_cycle 55 = .ok (.aload_n 0, 1) := by decide +kernel
theorem dX1_cycle_56 : decode cX1_cycle 56 = .ok (.invokevirtual 108, 3) := by decide +kernel
theorem dX1_cycle_59 : decode cX1_cycle 59 = .ok (.iinc 2 1, 3) := by decide +kernel
theorem dX1_cycle_62 : decode cX1_cycle 62 = .ok (.goto (-30), 3) := by decide +kernel
theorem dX1_cycle_65 : decode cX1_cycle 65 = .ok (.aload_n 0, 1) := by decide +kernel
theorem dX1_cycle_66 : decode cX1_cycle 66 = .ok (.getfield 57, 3) := by decide +kernel
theorem dX1_cycle_69 : decode cX1_cycle 69 = .ok (.ireturn, 1) := by decide +kernel
theorem dX1_enter_0 : decode cX1_enter 0 = .ok (.aload_n 0, 1) := by decide +kernel
theorem dX1_enter_1 : decode cX1_enter 1 = .ok (.getfield 30, 3) := by decide +kernel
theorem dX1_enter_4 : decode cX1_enter 4 = .ok (.aload_n 0, 1) := by decide +kernel
theorem dX1_enter_5 : decode cX1_enter 5 = .ok (.getfield 57, 3) := by decide +kernel
theorem dX1_enter_8 : decode cX1_enter 8 = .ok (.bipush 16, 2) := by decide +kernel
theorem dX1_enter_10 : decode cX1_enter 10 = .ok (.irem, 1) := by decide +kernel
theorem dX1_enter_11 : decode cX1_enter 11 = .ok (.iconst (-1), 1) := by decide +kernel
theorem dX1_enter_12 : decode cX1_enter 12 = .ok (.iastore, 1) := by decide +kernel
theorem dX1_enter_13 : decode cX1_enter 13 = .ok (.aload_n 0, 1) := by decide +kernel
theorem dX1_enter_14 : decode cX1_enter 14 = .ok (.getfield 76, 3) := by decide +kernel
theorem dX1_enter_17 : decode cX1_enter 17 = .ok (.aload_n 0, 1) := by decide +kernel
theorem dX1_enter_18 : decode cX1_enter 18 = .ok (.getfield 73, 3) := by decide +kernel
theorem dX1_enter_21 : decode cX1_enter 21 = .ok (.if_icmp .ge 26, 3) := by decide +kernel
theorem dX1_enter_24 : decode cX1_enter 24 = .ok (.aload_n 0, 1) := by decide +kernel
theorem dX1_enter_25 : decode cX1_enter 25 = .ok (.getfield 20, 3) := by decide +kernel
theorem dX1_enter_28 : decode cX1_enter 28 = .ok (.aload_n 0, 1) := by decide +kernel
theorem dX1_enter_29 : decode cX1_enter 29 = .ok (.getfield 76, 3) := by decide +kernel
theorem dX1_enter_32 : decode cX1_enter 32 = .ok (.baload, 1) := by decide +kernel
theorem dX1_enter_33 : decode cX1_enter 33 = .ok (.ifCond .eq 10, 3) := by decide +kernel
theorem dX1_enter_36 : decode cX1_enter 36 = .ok (.aload_n 0, 1) := by decide +kernel
theorem dX1_enter_37 : decode cX1_enter 37 = .ok (.getfield 69, 3) := by decide +kernel
theorem dX1_enter_40 : decode cX1_enter 40 = .ok (.ifCond .eq 7, 3) := by decide +kernel
theorem dX1_enter_43 : decode cX1_enter 43 = .ok (.iconst 1, 1) := by decide +kernel
theorem dX1_enter_44 : decode cX1_enter 44 = .ok (.goto 4, 3) := by decide +kernel
theorem dX1_enter_47 : decode cX1_enter 47 = .ok (.iconst 0, 1) := by decide +kernel
theorem dX1_enter_48 : decode cX1_enter 48 = .ok (.istore_n 1, 1) := by decide +kernel
theorem dX1_enter_49 : decode cX1_enter 49 = .ok (.iload_n 1, 1) := by decide +kernel
theorem dX1_enter_50 : decode cX1_enter 50 = .ok (.ifCond .ne 4, 3) := by decide +kernel
theorem dX1_enter_53 : decode cX1_enter 53 = .ok (.return_, 1) := by decide +kernel
theorem dX1_enter_54 : decode cX1_enter 54 = .ok (.aload_n 0, 1) := by decide +kernel
theorem dX1_enter_55 : decode cX1_enter 55 = .ok (.getfield 30, 3) := by decide +kernel
theorem dX1_enter_58 : decode cX1_enter 58 = .ok (.aload_n 0, 1) := by decide +kernel
theorem dX1_enter_59 : decode cX1_enter 59 = .ok (.getfield 57, 3) := by decide +kernel
theorem dX1_enter_62 : decode cX1_enter 62 = .ok (.bipush 16, 2) := by decide +kernel
theorem dX1_enter_64 : decode cX1_enter 64 = .ok (.irem, 1) := by decide +kernel
theorem dX1_enter_65 : decode cX1_enter 65 = .ok (.aload_n 0, 1) := by decide +kernel
theorem dX1_enter_66 : decode cX1_enter 66 = .ok (.getfield 76, 3) := by decide +kernel
theorem dX1_enter_69 : decode cX1_enter 69 = .ok (.iastore, 1) := by decide +kernel
theorem dX1_enter_70 : decode cX1_enter 70 = .ok (.aload_n 0, 1) := by decide +kernel
theorem dX1_enter_71 : decode cX1_enter 71 = .ok (.getfield 24, 3) := by decide +kernel
theorem dX1_enter_74 : decode cX1_enter 74 = .ok (.aload_n 0, 1) := by decide +kernel
theorem dX1_enter_75 : decode cX1_enter 75 = .ok (.getfield 76, 3) := by decide +kernel
theorem dX1_enter_78 : decode cX1_enter 78 = .ok (.aload_n 0, 1) := by decide +kernel
theorem dX1_enter_79 : decode cX1_enter 79 = .ok (.getfield 57, 3) := by decide +kernel
theorem dX1_enter_82 : decode cX1_enter 82 = .ok (.iastore, 1) := by decide +kernel
theorem dX1_enter_83 : decode cX1_enter 83 = .ok (.aload_n 0, 1) := by decide +kernel
theorem dX1_enter_84 : decode cX1_enter 84 = .ok (.getfield 20, 3) := by decide +kernel
theorem dX1_enter_87 : decode cX1_enter 87 = .ok (.aload_n 0, 1) := by decide +kernel
theorem dX1_enter_88 : decode cX1_enter 88 = .ok (.getfield 76, 3) := by decide +kernel
theorem dX1_enter_91 : decode cX1_enter 91 = .ok (.baload, 1) := by decide +kernel
theorem dX1_enter_92 : decode cX1_enter 92 = .ok (.ifCond .eq 26, 3) := by decide +kernel
theorem dX1_enter_95 : decode cX1_enter 95 = .ok (.aload_n 0, 1) := by decide +kernel
theorem dX1_enter_96 : decode cX1_enter 96 = .ok (.iconst 0, 1) := by decide +kernel
theorem dX1_enter_97 : decode cX1_enter 97 = .ok (.putfield 69, 3) := by decide +kernel
theorem dX1_enter_100 : decode cX1_enter 100 = .ok (.aload_n 0, 1) := by decide +kernel
theorem dX1_enter_101 : decode cX1_enter 101 = .ok (.dup, 1) := by decide +kernel
theorem dX1_enter_102 : decode cX1_enter 102 = .ok (.getfield 79, 3) := by decide +kernel
theorem dX1_enter_105 : decode cX1_enter 105 = .ok (.iconst 1, 1) := by decide +kernel
theorem dX1_enter_106 : decode cX1_enter 106 = .ok (.iadd, 1) := by decide +kernel
theorem dX1_enter_107 : decode cX1_enter 107 = .ok (.putfield 79, 3) := by decide +kernel
theorem dX1_enter_110 : decode cX1_enter 110 = .ok (.aload_n 0, 1) := by decide +kernel
theorem dX1_enter_111 : decode cX1_enter 111 = .ok (.aload_n 0, 1) := by decide +kernel
theorem dX1_enter_112 : decode cX1_enter 112 = .ok (.getfield 57, 3) := by decide +kernel
theorem dX1_enter_115 : decode cX1_enter 115 = .ok (.putfield 94, 3) := by decide +kernel
theorem dX1_enter_118 : decode cX1_enter 118 = .ok (.aload_n 0, 1) := by decide +kernel
theorem dX1_enter_119 : decode cX1_enter 119 = .ok (.dup, 1) := by decide +kernel
theorem dX1_enter_120 : decode cX1_enter 120 = .ok (.getfield 76, 3) := by decide +kernel
theorem dX1_enter_123 : decode cX1_enter 123 = .ok (.iconst 1, 1) := by decide +kernel
theorem dX1_enter_124 : decode cX1_enter 124 = .ok (.iadd, 1) := by decide +kernel
theorem dX1_enter_125 : decode cX1_enter 125 = .ok (.putfield 76, 3) := by decide +kernel
theorem dX1_enter_128 : decode cX1_enter 128 = .ok (.return_, 1) := by decide +kernel
theorem dX1_letIn_0 : decode cX1_letIn 0 = .ok (.aload_n 0, 1) := by decide +kernel
theorem dX1_letIn_1 : decode cX1_letIn 1 = .ok (.getfield 63, 3) := by decide +kernel
theorem dX1_letIn_4 : decode cX1_letIn 4 = .ok (.aload_n 0, 1) := by decide +kernel
theorem dX1_letIn_5 : decode cX1_letIn 5 = .ok (.getfield 60, 3) := by decide +kernel
theorem dX1_letIn_8 : decode cX1_letIn 8 = .ok (.if_icmp .ge 41, 3) := by decide +kernel
theorem dX1_letIn_11 : decode cX1_letIn 11 = .ok (.aload_n 0, 1) := by decide +kernel
theorem dX1_letIn_12 : decode cX1_letIn 12 = .ok (.getfield 69, 3) := by decide +kernel
theorem dX1_letIn_15 : decode cX1_letIn 15 = .ok (.ifCond .ne 34, 3) := by decide +kernel
theorem dX1_letIn_18 : decode cX1_letIn 18 = .ok (.aload_n 0, 1) := by decide +kernel
theorem dX1_letIn_19 : decode cX1_letIn 19 = .ok (.getfield 79, 3) := by decide +kernel
theorem dX1_letIn_22 : decode cX1_letIn 22 = .ok (.ifCond .eq 23, 3) := by decide +kernel
theorem dX1_letIn_25 : decode cX1_letIn 25 = .ok (.aload_n 0, 1) := by decide +kernel
theorem dX1_letIn_26 : decode cX1_letIn 26 = .ok (.getfield 57, 3) := by decide +kernel
theorem dX1_letIn_29 : decode cX1_letIn 29 = .ok (.aload_n 0, 1) := by decide +kernel
theorem dX1_letIn_30 : decode cX1_letIn 30 = .ok (.getfield 94, 3) := by decide +kernel
theorem dX1_letIn_33 : decode cX1_letIn 33 = .ok (.isub, 1) := by decide +kernel
theorem dX1_letIn_34 : decode cX1_letIn 34 = .ok (.iconst 2, 1) := by decide +kernel
theorem dX1_letIn_35 : decode cX1_letIn 35 = .ok (.aload_n 0, 1) := by decide +kernel
theorem dX1_letIn_36 : decode cX1_letIn 36 = .ok (.getfield 7, 3) := by decide +kernel
theorem dX1_letIn_39 : decode cX1_letIn 39 = .ok (.imul, 1) := by decide +kernel
theorem dX1_letIn_40 : decode cX1_letIn 40 = .ok (.iconst 2, 1) := by decide +kernel
theorem dX1_letIn_41 : decode cX1_letIn 41 = .ok (.isub, 1) := by decide +kernel
theorem dX1_letIn_42 : decode cX1_letIn 42 = .ok (.if_icmp .le 7, 3) := by decide +kernel
theorem dX1_letIn_45 : decode cX1_letIn 45 = .ok (.iconst 1, 1) := by decide +kernel
theorem dX1_letIn_46 : decode cX1_letIn 46 = .ok (.goto 4, 3) := by decide +kernel
theorem dX1_letIn_49 : decode cX1_letIn 49 = .ok (.iconst 0, 1) := by decide +kernel
theorem dX1_letIn_50 : decode cX1_letIn 50 = .ok (.istore_n 1, 1) := by decide +kernel
theorem dX1_letIn_51 : decode cX1_letIn 51 = .ok (.iload_n 1, 1) := by decide +kernel
theorem dX1_letIn_52 : decode cX1_letIn 52 = .ok (.ifCond .ne 4, 3) := by decide +kernel
theorem dX1_letIn_55 : decode cX1_letIn 55 = .ok (.return_, 1) := by decide +kernel
theorem dX1_letIn_56 : decode cX1_letIn 56 = .ok (.aload_n 0, 1) := by decide +kernel
theorem dX1_letIn_57 : decode cX1_letIn 57 = .ok (.getfield 7, 3) := by decide +kernel
theorem dX1_letIn_60 : decode cX1_letIn 60 = .ok (.iconst 1, 1) := by decide +kernel
theorem dX1_letIn_61 : decode cX1_letIn 61 = .ok (.isub, 1) := by decide +kernel
theorem dX1_letIn_62 : decode cX1_letIn 62 = .ok (.istore_n 2, 1) := by decide +kernel
theorem dX1_letIn_63 : decode cX1_letIn 63 = .ok (.iload_n 2, 1) := by decide +kernel
theorem dX1_letIn_64 : decode cX1_letIn 64 = .ok (.ifCond .le 50, 3) := by decide +kernel
theorem dX1_letIn_67 : decode cX1_letIn 67 = .ok (.iconst 0, 1) := by decide +kernel
theorem dX1_letIn_68 : decode cX1_letIn 68 = .ok (.istore_n 3, 1) := by decide +kernel
theorem dX1_letIn_69 : decode cX1_letIn 69 = .ok (.iload_n 3, 1) := by decide +kernel
theorem dX1_letIn_70 : decode cX1_letIn 70 = .ok (.aload_n 0, 1) := by decide +kernel
theorem dX1_letIn_71 : decode cX1_letIn 71 = .ok (.getfield 7, 3) := by decide +kernel
theorem dX1_letIn_74 : decode cX1_letIn 74 = .ok (.if_icmp .ge 34, 3) := by decide +kernel
theorem dX1_letIn_77 : decode cX1_letIn 77 = .ok (.aload_n 0, 1) := by decide +kernel
theorem dX1_letIn_78 : decode cX1_letIn 78 = .ok (.getfield 42, 3) := by decide +kernel
theorem dX1_letIn_81 : decode cX1_letIn 81 = .ok (.bipush 6, 2) := by decide +kernel
theorem dX1_letIn_83 : decode cX1_letIn 83 = .ok (.iload_n 2, 1) := by decide +kernel
theorem dX1_letIn_84 : decode cX1_letIn 84 = .ok (.imul, 1) := by decide +kernel
theorem dX1_letIn_85 : decode cX1_letIn 85 = .ok (.iload_n 3, 1) := by decide +kernel
theorem dX1_letIn_86 : decode cX1_letIn 86 = .ok (.iadd, 1) := by decide +kernel
theorem dX1_letIn_87 : decode cX1_letIn 87 = .ok (.aload_n 0, 1) := by decide +kernel
theorem dX1_letIn_88 : decode cX1_letIn 88 = .ok (.getfield 42, 3) := by decide +kernel
theorem dX1_letIn_91 : decode cX1_letIn 91 = .ok (.bipush 6, 2) := by decide +kernel
theorem dX1_letIn_93 : decode cX1_letIn 93 = .ok (.iload_n 2, 1) := by decide +kernel
theorem dX1_letIn_94 : decode cX1_letIn 94 = .ok (.imul, 1) := by decide +kernel
theorem dX1_letIn_95 : decode cX1_letIn 95 = .ok (.bipush 6, 2) := by decide +kernel
theorem dX1_letIn_97 : decode cX1_letIn 97 = .ok (.isub, 1) := by decide +kernel
theorem dX1_letIn_98 : decode cX1_letIn 98 = .ok (.iload_n 3, 1) := by decide +kernel
theorem dX1_letIn_99 : decode cX1_letIn 99 = .ok (.iadd, 1) := by decide +kernel
theorem dX1_letIn_100 : decode cX1_letIn 100 = .ok (.iaload, 1) := by decide +kernel
theorem dX1_letIn_101 : decode cX1_letIn 101 = .ok (.iastore, 1) := by decide +kernel
theorem dX1_letIn_102 : decode cX1_letIn 102 = .ok (.iinc 3 1, 3) := by decide +kernel
theorem dX1_letIn_105 : decode cX1_letIn 105 = .ok (.goto (-36), 3) := by decide +kernel
theorem dX1_letIn_108 : decode cX1_letIn 108 = .ok (.iinc 2 (-1), 3) := by decide +kernel
theorem dX1_letIn_111 : decode cX1_letIn 111 = .ok (.goto (-48), 3) := by decide +kernel
theorem dX1_letIn_114 : decode cX1_letIn 114 = .ok (.iconst 0, 1) := by decide +kernel
theorem dX1_letIn_115 : decode cX1_letIn 115 = .ok (.istore_n 2, 1) := by decide +kernel
theorem dX1_letIn_116 : decode cX1_letIn 116 = .ok (.iload_n 2, 1) := by decide +kernel
theorem dX1_letIn_117 : decode cX1_letIn 117 = .ok (.aload_n 0, 1) := by decide +kernel
theorem dX1_letIn_118 : decode cX1_letIn 118 = .ok (.getfield 7, 3) := by decide +kernel
theorem dX1_letIn_121 : decode cX1_letIn 121 = .ok (.if_icmp .ge 29, 3) := by decide +kernel
theorem dX1_letIn_124 : decode cX1_letIn 124 = .ok (.aload_n 0, 1) := by decide +kernel
theorem dX1_letIn_125 : decode cX1_letIn 125 = .ok (.getfield 42, 3) := by decide +kernel
theorem dX1_letIn_128 : decode cX1_letIn 128 = .ok (.iload_n 2, 1) := by decide +kernel
theorem dX1_letIn_129 : decode cX1_letIn 129 = .ok (.aload_n 0, 1) := by decide +kernel
theorem dX1_letIn_130 : decode cX1_letIn 130 = .ok (.getfield 13, 3) := by decide +kernel
theorem dX1_letIn_133 : decode cX1_letIn 133 = .ok (.bipush 6, 2) := by decide +kernel
theorem dX1_letIn_135 : decode cX1_letIn 135 = .ok (.aload_n 0, 1) := by decide +kernel
theorem dX1_letIn_136 : decode cX1_letIn 136 = .ok (.getfield 63, 3) := by decide +kernel
theorem dX1_letIn_139 : decode cX1_letIn 139 = .ok (.imul, 1) := by decide +kernel
theorem dX1_letIn_140 : decode cX1_letIn 140 = .ok (.iload_n 2, 1) := by decide +kernel
theorem dX1_letIn_141 : decode cX1_letIn 141 = .ok (.iadd, 1) := by decide +kernel
theorem dX1_letIn_142 : decode cX1_letIn 142 = .ok (.iaload, 1) := by decide +kernel
theorem dX1_letIn_143 : decode cX1_letIn 143 = .ok (.iastore, 1) := by decide +kernel
theorem dX1_letIn_144 : decode cX1_letIn 144 = .ok (.iinc 2 1, 3) := by decide +kernel
theorem dX1_letIn_147 : decode cX1_letIn 147 = .ok (.goto (-31), 3) := by decide +kernel
theorem dX1_letIn_150 : decode cX1_letIn 150 = .ok (.aload_n 0, 1) := by decide +kernel
theorem dX1_letIn_151 : decode cX1_letIn 151 = .ok (.dup, 1) := by decide +kernel
theorem dX1_letIn_152 : decode cX1_letIn 152 = .ok (.getfield 63, 3) := by decide +kernel
theorem dX1_letIn_155 : decode cX1_letIn 155 = .ok (.iconst 1, 1) := by decide +kernel
theorem dX1_letIn_156 : decode cX1_letIn 156 = .ok (.iadd, 1) := by decide +kernel
theorem dX1_letIn_157 : decode cX1_letIn 157 = .ok (.putfield 63, 3) := by decide +kernel
theorem dX1_letIn_160 : decode cX1_letIn 160 = .ok (.aload_n 0, 1) := by decide +kernel
theorem dX1_letIn_161 : decode cX1_letIn 161 = .ok (.dup, 1) := by decide +kernel
theorem dX1_letIn_162 : decode cX1_letIn 162 = .ok (.getfield 66, 3) := by decide +kernel
theorem dX1_letIn_165 : decode cX1_letIn 165 = .ok (.iconst 1, 1) := by decide +kernel
theorem dX1_letIn_166 : decode cX1_letIn 166 = .ok (.iadd, 1) := by decide +kernel
theorem dX1_letIn_167 : decode cX1_letIn 167 = .ok (.putfield 66, 3) := by decide +kernel
theorem dX1_letIn_170 : decode cX1_letIn 170 = .ok (.aload_n 0, 1) := by decide +kernel
theorem dX1_letIn_171 : decode cX1_letIn 171 = .ok (.getfield 66, 3) := by decide +kernel
theorem dX1_letIn_174 : decode cX1_letIn 174 = .ok (.aload_n 0, 1) := by decide +kernel
theorem dX1_letIn_175 : decode cX1_letIn 175 = .ok (.getfield 7, 3) := by decide +kernel
theorem dX1_letIn_178 : decode cX1_letIn 178 = .ok (.if_icmp .ne 13, 3) := by decide +kernel
theorem dX1_letIn_181 : decode cX1_letIn 181 = .ok (.aload_n 0, 1) := by decide +kernel
theorem dX1_letIn_182 : decode cX1_letIn 182 = .ok (.iconst 0, 1) := by decide +kernel
theorem dX1_letIn_183 : decode cX1_letIn 183 = .ok (.putfield 66, 3) := by decide +kernel
theorem dX1_letIn_186 : decode cX1_letIn 186 = .ok (.aload_n 0, 1) := by decide +kernel
theorem dX1_letIn_187 : decode cX1_letIn 187 = .ok (.iconst 1, 1) := by decide +kernel
theorem dX1_letIn_188 : decode cX1_letIn 188 = .ok (.putfield 69, 3) := by decide +kernel
theorem dX1_letIn_191 : decode cX1_letIn 191 = .ok (.return_, 1) := by decide +kernel
theorem dX1_goOn_0 : decode cX1_goOn 0 = .ok (.iconst 0, 1) := by decide +kernel
theorem dX1_goOn_1 : decode cX1_goOn 1 = .ok (.istore_n 1, 1) := by decide +kernel
theorem dX1_goOn_2 : decode cX1_goOn 2 = .ok (.iload_n 1, 1) := by decide +kernel
theorem dX1_goOn_3 : decode cX1_goOn 3 = .ok (.aload_n 0, 1) := by decide +kernel
theorem dX1_goOn_4 : decode cX1_goOn 4 = .ok (.getfield 7, 3) := by decide +kernel
theorem dX1_goOn_7 : decode cX1_goOn 7 = .ok (.if_icmp .ge 154, 3) := by decide +kernel
theorem dX1_goOn_10 : decode cX1_goOn 10 = .ok (.aload_n 0, 1) := by decide +kernel
theorem dX1_goOn_11 : decode cX1_goOn 11 = .ok (.getfield 7, 3) := by decide +kernel
theorem dX1_goOn_14 : decode cX1_goOn 14 = .ok (.iconst 1, 1) := by decide +kernel
theorem dX1_goOn_15 : decode cX1_goOn 15 = .ok (.isub, 1) := by decide +kernel
theorem dX1_goOn_16 : decode cX1_goOn 16 = .ok (.istore_n 2, 1) := by decide +kernel
theorem dX1_goOn_17 : decode cX1_goOn 17 = .ok (.iload_n 2, 1) := by decide +kernel
theorem dX1_goOn_18 : decode cX1_goOn 18 = .ok (.ifCond .le 58, 3) := by decide +kernel
theorem dX1_goOn_21 : decode cX1_goOn 21 = .ok (.bipush 6, 2) := by decide +kernel
theorem dX1_goOn_23 : decode cX1_goOn 23 = .ok (.iload_n 1, 1) := by decide +kernel
theorem dX1_goOn_24 : decode cX1_goOn 24 = .ok (.imul, 1) := by decide +kernel
theorem dX1_goOn_25 : decode cX1_goOn 25 = .ok (.iload_n 2, 1) := by decide +kernel
theorem dX1_goOn_26 : decode cX1_goOn 26 = .ok (.iadd, 1) := by decide +kernel
theorem dX1_goOn_27 : decode cX1_goOn 27 = .ok (.istore_n 3, 1) := by decide +kernel
theorem dX1_goOn_28 : decode cX1_goOn 28 = .ok (.aload_n 0, 1) := by decide +kernel
theorem dX1_goOn_29 : decode cX1_goOn 29 = .ok (.getfield 33, 3) := by decide +kernel
theorem dX1_goOn_32 : decode cX1_goOn 32 = .ok (.iload_n 3, 1) := by decide +kernel
theorem dX1_goOn_33 : decode cX1_goOn 33 = .ok (.aload_n 0, 1) := by decide +kernel
theorem dX1_goOn_34 : decode cX1_goOn 34 = .ok (.getfield 33, 3) := by decide +kernel
theorem dX1_goOn_37 : decode cX1_goOn 37 = .ok (.iload_n 3, 1) := by decide +kernel
theorem dX1_goOn_38 : decode cX1_goOn 38 = .ok (.iconst 1, 1) := by decide +kernel
theorem dX1_goOn_39 : decode cX1_goOn 39 = .ok (.isub, 1) := by decide +kernel
theorem dX1_goOn_40 : decode cX1_goOn 40 = .ok (.iaload, 1) := by decide +kernel
theorem dX1_goOn_41 : decode cX1_goOn 41 = .ok (.iastore, 1) := by decide +kernel
theorem dX1_goOn_42 : decode cX1_goOn 42 = .ok (.aload_n 0, 1) := by decide +kernel
theorem dX1_goOn_43 : decode cX1_goOn 43 = .ok (.getfield 45, 3) := by decide +kernel
theorem dX1_goOn_46 : decode cX1_goOn 46 = .ok (.iload_n 3, 1) := by decide +kernel
theorem dX1_goOn_47 : decode cX1_goOn 47 = .ok (.aload_n 0, 1) := by decide +kernel
theorem dX1_goOn_48 : decode cX1_goOn 48 = .ok (.getfield 45, 3) := by decide +kernel
theorem dX1_goOn_51 : decode cX1_goOn 51 = .ok (.iload_n 3, 1) := by decide +kernel
theorem dX1_goOn_52 : decode cX1_goOn 52 = .ok (.iconst 1, 1) := by decide +kernel
theorem dX1_goOn_53 : decode cX1_goOn 53 = .ok (.isub, 1) := by decide +kernel
theorem dX1_goOn_54 : decode cX1_goOn 54 = .ok (.baload, 1) := by decide +kernel
theorem dX1_goOn_55 : decode cX1_goOn 55 = .ok (.bastore, 1) := by decide +kernel
theorem dX1_goOn_56 : decode cX1_goOn 56 = .ok (.aload_n 0, 1) := by decide +kernel
theorem dX1_goOn_57 : decode cX1_goOn 57 = .ok (.getfield 48, 3) := by decide +kernel
theorem dX1_goOn_60 : decode cX1_goOn 60 = .ok (.iload_n 3, 1) := by decide +kernel
theorem dX1_goOn_61 : decode cX1_goOn 61 = .ok (.aload_n 0, 1) := by decide +kernel
theorem dX1_goOn_62 : decode cX1_goOn 62 = .ok (.getfield 48, 3) := by decide +kernel
theorem dX1_goOn_65 : decode cX1_goOn 65 = .ok (.iload_n 3, 1) := by decide +kernel
theorem dX1_goOn_66 : decode cX1_goOn 66 = .ok (.iconst 1, 1) := by decide +kernel
theorem dX1_goOn_67 : decode cX1_goOn 67 = .ok (.isub, 1) := by decide +kernel
theorem dX1_goOn_68 : decode cX1_goOn 68 = .ok (.baload, 1) := by decide +kernel
theorem dX1_goOn_69 : decode cX1_goOn 69 = .ok (.bastore, 1) := by decide +kernel
theorem dX1_goOn_70 : decode cX1_goOn 70 = .ok (.iinc 2 (-1), 3) := by decide +kernel
theorem dX1_goOn_73 : decode cX1_goOn 73 = .ok (.goto (-56), 3) := by decide +kernel
theorem dX1_goOn_76 : decode cX1_goOn 76 = .ok (.aload_n 0, 1) := by decide +kernel
theorem dX1_goOn_77 : decode cX1_goOn 77 = .ok (.iload_n 1, 1) := by decide +kernel
theorem dX1_goOn_78 : decode cX1_goOn 78 = .ok (.invokevirtual 97, 3) := by decide +kernel
theorem dX1_goOn_81 : decode cX1_goOn 81 = .ok (.istore_n 2, 1) := by decide +kernel
theorem dX1_goOn_82 : decode cX1_goOn 82 = .ok (.aload_n 0, 1) := by decide +kernel
theorem dX1_goOn_83 : decode cX1_goOn 83 = .ok (.getfield 33, 3) := by decide +kernel
theorem dX1_goOn_86 : decode cX1_goOn 86 = .ok (.bipush 6, 2) := by decide +kernel
theorem dX1_goOn_88 : decode cX1_goOn 88 = .ok (.iload_n 1, 1) := by decide +kernel
theorem dX1_goOn_89 : decode cX1_goOn 89 = .ok (.imul, 1) := by decide +kernel
theorem dX1_goOn_90 : decode cX1_goOn 90 = .ok (.iload_n 2, 1) := by decide +kernel
theorem dX1_goOn_91 : decode cX1_goOn 91 = .ok (.ifCond .ge 7, 3) := by decide +kernel
theorem dX1_goOn_94 : decode cX1_goOn 94 = .ok (.iconst 0, 1) := by decide +kernel
theorem dX1_goOn_95 : decode cX1_goOn 95 = .ok (.goto 14, 3) := by decide +kernel
theorem dX1_goOn_98 : decode cX1_goOn 98 = .ok (.aload_n 0, 1) := by decide +kernel
theorem dX1_goOn_99 : decode cX1_goOn 99 = .ok (.getfield 17, 3) := by decide +kernel
theorem dX1_goOn_102 : decode cX1_goOn 102 = .ok (.bipush 6, 2) := by decide +kernel
theorem dX1_goOn_104 : decode cX1_goOn 104 = .ok (.iload_n 2, 1) := by decide +kernel
theorem dX1_goOn_105 : decode cX1_goOn 105 = .ok (.imul, 1) := by decide +kernel
theorem dX1_goOn_106 : decode cX1_goOn 106 = .ok (.iload_n 1, 1) := by decide +kernel
theorem dX1_goOn_107 : decode cX1_goOn 107 = .ok (.iadd, 1) := by decide +kernel
theorem dX1_goOn_108 : decode cX1_goOn 108 = .ok (.iaload, 1) := by decide +kernel
theorem dX1_goOn_109 : decode cX1_goOn 109 = .ok (.iastore, 1) := by decide +kernel
theorem dX1_goOn_110 : decode cX1_goOn 110 = .ok (.aload_n 0, 1) := by decide +kernel
theorem dX1_goOn_111 : decode cX1_goOn 111 = .ok (.getfield 45, 3) := by decide +kernel
theorem dX1_goOn_114 : decode cX1_goOn 114 = .ok (.bipush 6, 2) := by decide +kernel
theorem dX1_goOn_116 : decode cX1_goOn 116 = .ok (.iload_n 1, 1) := by decide +kernel
theorem dX1_goOn_117 : decode cX1_goOn 117 = .ok (.imul, 1) := by decide +kernel
theorem dX1_goOn_118 : decode cX1_goOn 118 = .ok (.iload_n 2, 1) := by decide +kernel
theorem dX1_goOn_119 : decode cX1_goOn 119 = .ok (.ifCond .lt 16, 3) := by decide +kernel
theorem dX1_goOn_122 : decode cX1_goOn 122 = .ok (.aload_n 0, 1) := by decide +kernel
theorem dX1_goOn_123 : decode cX1_goOn 123 = .ok (.getfield 20, 3) := by decide +kernel
theorem dX1_goOn_126 : decode cX1_goOn 126 = .ok (.iload_n 2, 1) := by decide +kernel
theorem dX1_goOn_127 : decode cX1_goOn 127 = .ok (.baload, 1) := by decide +kernel
theorem dX1_goOn_128 : decode cX1_goOn 128 = .ok (.ifCond .eq 7, 3) := by decide +kernel
theorem dX1_goOn_131 : decode cX1_goOn 131 = .ok (.iconst 1, 1) := by decide +kernel
theorem dX1_goOn_132 : decode cX1_goOn 132 = .ok (.goto 4, 3) := by decide +kernel
theorem dX1_goOn_135 : decode cX1_goOn 135 = .ok (.iconst 0, 1) := by decide +kernel
theorem dX1_goOn_136 : decode cX1_goOn 136 = .ok (.bastore, 1) := by decide +kernel
theorem dX1_goOn_137 : decode cX1_goOn 137 = .ok (.aload_n 0, 1) := by decide +kernel
theorem dX1_goOn_138 : decode cX1_goOn 138 = .ok (.getfield 48, 3) := by decide +kernel
theorem dX1_goOn_141 : decode cX1_goOn 141 = .ok (.bipush 6, 2) := by decide +kernel
theorem dX1_goOn_143 : decode cX1_goOn 143 = .ok (.iload_n 1, 1) := by decide +kernel
theorem dX1_goOn_144 : decode cX1_goOn 144 = .ok (.imul, 1) := by decide +kernel
theorem dX1_goOn_145 : decode cX1_goOn 145 = .ok (.iload_n 2, 1) := by decide +kernel
theorem dX1_goOn_146 : decode cX1_goOn 146 = .ok (.ifCond .lt 7, 3) := by decide +kernel
theorem dX1_goOn_149 : decode cX1_goOn 149 = .ok (.iconst 1, 1) := by decide +kernel
theorem dX1_goOn_150 : decode cX1_goOn 150 = .ok (.goto 4, 3) := by decide +kernel
theorem dX1_goOn_153 : decode cX1_goOn 153 = .ok (.iconst 0, 1) := by decide +kernel
theorem dX1_goOn_154 : decode cX1_goOn 154 = .ok (.bastore, 1) := by decide +kernel
theorem dX1_goOn_155 : decode cX1_goOn 155 = .ok (.iinc 1 1, 3) := by decide +kernel
theorem dX1_goOn_158 : decode cX1_goOn 158 = .ok (.goto (-156), 3) := by decide +kernel
theorem dX1_goOn_161 : decode cX1_goOn 161 = .ok (.aload_n 0, 1) := by decide +kernel
theorem dX1_goOn_162 : decode cX1_goOn 162 = .ok (.getfield 7, 3) := by decide +kernel
theorem dX1_goOn_165 : decode cX1_goOn 165 = .ok (.iconst 1, 1) := by decide +kernel
theorem dX1_goOn_166 : decode cX1_goOn 166 = .ok (.isub, 1) := by decide +kernel
theorem dX1_goOn_167 : decode cX1_goOn 167 = .ok (.istore_n 1, 1) := by decide +kernel
theorem dX1_goOn_168 : decode cX1_goOn 168 = .ok (.iload_n 1, 1) := by decide +kernel
theorem dX1_goOn_169 : decode cX1_goOn 169 = .ok (.ifCond .lt 99, 3) := by decide +kernel
theorem dX1_goOn_172 : decode cX1_goOn 172 = .ok (.iconst 0, 1) := by decide +kernel
theorem dX1_goOn_173 : decode cX1_goOn 173 = .ok (.istore_n 2, 1) := by decide +kernel
theorem dX1_goOn_174 : decode cX1_goOn 174 = .ok (.iload_n 2, 1) := by decide +kernel
theorem dX1_goOn_175 : decode cX1_goOn 175 = .ok (.aload_n 0, 1) := by decide +kernel
theorem dX1_goOn_176 : decode cX1_goOn 176 = .ok (.getfield 7, 3) := by decide +kernel
theorem dX1_goOn_179 : decode cX1_goOn 179 = .ok (.if_icmp .ge 83, 3) := by decide +kernel
theorem dX1_goOn_182 : decode cX1_goOn 182 = .ok (.bipush 6, 2) := by decide +kernel
theorem dX1_goOn_184 : decode cX1_goOn 184 = .ok (.iload_n 1, 1) := by decide +kernel
theorem dX1_goOn_185 : decode cX1_goOn 185 = .ok (.imul, 1) := by decide +kernel
theorem dX1_goOn_186 : decode cX1_goOn 186 = .ok (.iload_n 2, 1) := by decide +kernel
theorem dX1_goOn_187 : decode cX1_goOn 187 = .ok (.iadd, 1) := by decide +kernel
theorem dX1_goOn_188 : decode cX1_goOn 188 = .ok (.istore_n 3, 1) := by decide +kernel
theorem dX1_goOn_189 : decode cX1_goOn 189 = .ok (.aload_n 0, 1) := by decide +kernel
theorem dX1_goOn_190 : decode cX1_goOn 190 = .ok (.getfield 39, 3) := by decide +kernel
theorem dX1_goOn_193 : decode cX1_goOn 193 = .ok (.iload_n 3, 1) := by decide +kernel
theorem dX1_goOn_194 : decode cX1_goOn 194 = .ok (.aload_n 0, 1) := by decide +kernel
theorem dX1_goOn_195 : decode cX1_goOn 195 = .ok (.getfield 45, 3) := by decide +kernel
theorem dX1_goOn_198 : decode cX1_goOn 198 = .ok (.iload_n 3, 1) := by decide +kernel
theorem dX1_goOn_199 : decode cX1_goOn 199 = .ok (.baload, 1) := by decide +kernel
theorem dX1_goOn_200 : decode cX1_goOn 200 = .ok (.ifCond .eq 12, 3) := by decide +kernel
theorem dX1_goOn_203 : decode cX1_goOn 203 = .ok (.aload_n 0, 1) := by decide +kernel
theorem dX1_goOn_204 : decode cX1_goOn 204 = .ok (.getfield 42, 3) := by decide +kernel
theorem dX1_goOn_207 : decode cX1_goOn 207 = .ok (.iload_n 3, 1) := by decide +kernel
theorem dX1_goOn_208 : decode cX1_goOn 208 = .ok (.iaload, 1) := by decide +kernel
theorem dX1_goOn_209 : decode cX1_goOn 209 = .ok (.goto 9, 3) := by decide +kernel
theorem dX1_goOn_212 : decode cX1_goOn 212 = .ok (.aload_n 0, 1) := by decide +kernel
theorem dX1_goOn_213 : decode cX1_goOn 213 = .ok (.getfield 39, 3) := by decide +kernel
theorem dX1_goOn_216 : decode cX1_goOn 216 = .ok (.iload_n 3, 1) := by decide +kernel
theorem dX1_goOn_217 : decode cX1_goOn 217 = .ok (.iaload, 1) := by decide +kernel
theorem dX1_goOn_218 : decode cX1_goOn 218 = .ok (.iastore, 1) := by decide +kernel
theorem dX1_goOn_219 : decode cX1_goOn 219 = .ok (.aload_n 0, 1) := by decide +kernel
theorem dX1_goOn_220 : decode cX1_goOn 220 = .ok (.getfield 36, 3) := by decide +kernel
theorem dX1_goOn_223 : decode cX1_goOn 223 = .ok (.iload_n 3, 1) := by decide +kernel
theorem dX1_goOn_224 : decode cX1_goOn 224 = .ok (.iload_n 1, 1) := by decide +kernel
theorem dX1_goOn_225 : decode cX1_goOn 225 = .ok (.ifCond .ne 7, 3) := by decide +kernel
theorem dX1_goOn_228 : decode cX1_goOn 228 = .ok (.iconst 0, 1) := by decide +kernel
theorem dX1_goOn_229 : decode cX1_goOn 229 = .ok (.goto 12, 3) := by decide +kernel
theorem dX1_goOn_232 : decode cX1_goOn 232 = .ok (.aload_n 0, 1) := by decide +kernel
theorem dX1_goOn_233 : decode cX1_goOn 233 = .ok (.getfield 36, 3) := by decide +kernel
theorem dX1_goOn_236 : decode cX1_goOn 236 = .ok (.iload_n 3, 1) := by decide +kernel
theorem dX1_goOn_237 : decode cX1_goOn 237 = .ok (.bipush 6, 2) := by decide +kernel
theorem dX1_goOn_239 : decode cX1_goOn 239 = .ok (.isub, 1) := by decide +kernel
theorem dX1_goOn_240 : decode cX1_goOn 240 = .ok (.iaload, 1) := by decide +kernel
theorem dX1_goOn_241 : decode cX1_goOn 241 = .ok (.aload_n 0, 1) := by decide +kernel
theorem dX1_goOn_242 : decode cX1_goOn 242 = .ok (.getfield 39, 3) := by decide +kernel
theorem dX1_goOn_245 : decode cX1_goOn 245 = .ok (.iload_n 3, 1) := by decide +kernel
theorem dX1_goOn_246 : decode cX1_goOn 246 = .ok (.iaload, 1) := by decide +kernel
theorem dX1_goOn_247 : decode cX1_goOn 247 = .ok (.aload_n 0, 1) := by decide +kernel
theorem dX1_goOn_248 : decode cX1_goOn 248 = .ok (.getfield 33, 3) := by decide +kernel
theorem dX1_goOn_251 : decode cX1_goOn 251 = .ok (.iload_n 3, 1) := by decide +kernel
theorem dX1_goOn_252 : decode cX1_goOn 252 = .ok (.iaload, 1) := by decide +kernel
theorem dX1_goOn_253 : decode cX1_goOn 253 = .ok (.imul, 1) := by decide +kernel
theorem dX1_goOn_254 : decode cX1_goOn 254 = .ok (.iadd, 1) := by decide +kernel
theorem dX1_goOn_255 : decode cX1_goOn 255 = .ok (.iastore, 1) := by decide +kernel
theorem dX1_goOn_256 : decode cX1_goOn 256 = .ok (.iinc 2 1, 3) := by decide +kernel
theorem dX1_goOn_259 : decode cX1_goOn 259 = .ok (.goto (-85), 3) := by decide +kernel
theorem dX1_goOn_262 : decode cX1_goOn 262 = .ok (.iinc 1 (-1), 3) := by decide +kernel
theorem dX1_goOn_265 : decode cX1_goOn 265 = .ok (.goto (-97), 3) := by decide +kernel
theorem dX1_goOn_268 : decode cX1_goOn 268 = .ok (.iconst 0, 1) := by decide +kernel
theorem dX1_goOn_269 : decode cX1_goOn 269 = .ok (.istore_n 1, 1) := by decide +kernel
theorem dX1_goOn_270 : decode cX1_goOn 270 = .ok (.iload_n 1, 1) := by decide +kernel
theorem dX1_goOn_271 : decode cX1_goOn 271 = .ok (.aload_n 0, 1) := by decide +kernel
theorem dX1_goOn_272 : decode cX1_goOn 272 = .ok (.getfield 7, 3) := by decide +kernel
theorem dX1_goOn_275 : decode cX1_goOn 275 = .ok (.if_icmp .ge 54, 3) := by decide +kernel
theorem dX1_goOn_278 : decode cX1_goOn 278 = .ok (.aload_n 0, 1) := by decide +kernel
theorem dX1_goOn_279 : decode cX1_goOn 279 = .ok (.aload_n 0, 1) := by decide +kernel
theorem dX1_goOn_280 : decode cX1_goOn 280 = .ok (.getfield 7, 3) := by decide +kernel
theorem dX1_goOn_283 : decode cX1_goOn 283 = .ok (.iconst 1, 1) := by decide +kernel
theorem dX1_goOn_284 : decode cX1_goOn 284 = .ok (.isub, 1) := by decide +kernel
theorem dX1_goOn_285 : decode cX1_goOn 285 = .ok (.iload_n 1, 1) := by decide +kernel
theorem dX1_goOn_286 : decode cX1_goOn 286 = .ok (.iadd, 1) := by decide +kernel
theorem dX1_goOn_287 : decode cX1_goOn 287 = .ok (.invokevirtual 97, 3) := by decide +kernel
theorem dX1_goOn_290 : decode cX1_goOn 290 = .ok (.istore_n 2, 1) := by decide +kernel
theorem dX1_goOn_291 : decode cX1_goOn 291 = .ok (.iload_n 2, 1) := by decide +kernel
theorem dX1_goOn_292 : decode cX1_goOn 292 = .ok (.ifCond .lt 31, 3) := by decide +kernel
theorem dX1_goOn_295 : decode cX1_goOn 295 = .ok (.aload_n 0, 1) := by decide +kernel
theorem dX1_goOn_296 : decode cX1_goOn 296 = .ok (.getfield 27, 3) := by decide +kernel
theorem dX1_goOn_299 : decode cX1_goOn 299 = .ok (.bipush 6, 2) := by decide +kernel
theorem dX1_goOn_301 : decode cX1_goOn 301 = .ok (.iload_n 2, 1) := by decide +kernel
theorem dX1_goOn_302 : decode cX1_goOn 302 = .ok (.imul, 1) := by decide +kernel
theorem dX1_goOn_303 : decode cX1_goOn 303 = .ok (.iload_n 1, 1) := by decide +kernel
theorem dX1_goOn_304 : decode cX1_goOn 304 = .ok (.iadd, 1) := by decide +kernel
theorem dX1_goOn_305 : decode cX1_goOn 305 = .ok (.aload_n 0, 1) := by decide +kernel
theorem dX1_goOn_306 : decode cX1_goOn 306 = .ok (.getfield 36, 3) := by decide +kernel
theorem dX1_goOn_309 : decode cX1_goOn 309 = .ok (.bipush 6, 2) := by decide +kernel
theorem dX1_goOn_311 : decode cX1_goOn 311 = .ok (.aload_n 0, 1) := by decide +kernel
theorem dX1_goOn_312 : decode cX1_goOn 312 = .ok (.getfield 7, 3) := by decide +kernel
theorem dX1_goOn_315 : decode cX1_goOn 315 = .ok (.imul, 1) := by decide +kernel
theorem dX1_goOn_316 : decode cX1_goOn 316 = .ok (.bipush 6, 2) := by decide +kernel
theorem dX1_goOn_318 : decode cX1_goOn 318 = .ok (.isub, 1) := by decide +kernel
theorem dX1_goOn_319 : decode cX1_goOn 319 = .ok (.iload_n 1, 1) := by decide +kernel
theorem dX1_goOn_320 : decode cX1_goOn 320 = .ok (.iadd, 1) := by decide +kernel
theorem dX1_goOn_321 : decode cX1_goOn 321 = .ok (.iaload, 1) := by decide +kernel
theorem dX1_goOn_322 : decode cX1_goOn 322 = .ok (.iastore, 1) := by decide +kernel
theorem dX1_goOn_323 : decode cX1_goOn 323 = .ok (.iinc 1 1, 3) := by decide +kernel
theorem dX1_goOn_326 : decode cX1_goOn 326 = .ok (.goto (-56), 3) := by decide +kernel
theorem dX1_goOn_329 : decode cX1_goOn 329 = .ok (.return_, 1) := by decide +kernel
theorem dX1_enteredAgo_0 : decode cX1_enteredAgo 0 = .ok (.iload_n 1, 1) := by decide +kernel
theorem dX1_enteredAgo_1 : decode cX1_enteredAgo 1 = .ok (.aload_n 0, 1) := by decide +kernel
theorem dX1_enteredAgo_2 : decode cX1_enteredAgo 2 = .ok (.getfield 57, 3) := by decide +kernel
theorem dX1_enteredAgo_5 : decode cX1_enteredAgo 5 = .ok (.if_icmp .ge 20, 3) := by decide +kernel
theorem dX1_enteredAgo_8 : decode cX1_enteredAgo 8 = .ok (.aload_n 0, 1) := by decide +kernel
theorem dX1_enteredAgo_9 : decode cX1_enteredAgo 9 = .ok (.getfield 30, 3) := by decide +kernel
theorem dX1_enteredAgo_12 : decode cX1_enteredAgo 12 = .ok (.aload_n 0, 1) := by decide +kernel
theorem dX1_enteredAgo_13 : decode cX1_enteredAgo 13 = .ok (.getfield 57, 3) := by decide +kernel
theorem dX1_enteredAgo_16 : decode cX1_enteredAgo 16 = .ok (.iload_n 1, 1) := by decide +kernel
theorem dX1_enteredAgo_17 : decode cX1_enteredAgo 17 = .ok (.isub, 1) := by decide +kernel
theorem dX1_enteredAgo_18 : decode cX1_enteredAgo 18 = .ok (.bipush 16, 2) := by decide +kernel
theorem dX1_enteredAgo_20 : decode cX1_enteredAgo 20 = .ok (.irem, 1) := by decide +kernel
theorem dX1_enteredAgo_21 : decode cX1_enteredAgo 21 = .ok (.iaload, 1) := by decide +kernel
theorem dX1_enteredAgo_22 : decode cX1_enteredAgo 22 = .ok (.goto 4, 3) := by decide +kernel
theorem dX1_enteredAgo_25 : decode cX1_enteredAgo 25 = .ok (.iconst (-1), 1) := by decide +kernel
theorem dX1_enteredAgo_26 : decode cX1_enteredAgo 26 = .ok (.ireturn, 1) := by decide +kernel
theorem dX1_cell_0 : decode cX1_cell 0 = .ok (.iload_n 1, 1) := by decide +kernel
theorem dX1_cell_1 : decode cX1_cell 1 = .ok (.iconst 0, 1) := by decide +kernel
theorem dX1_cell_2 : decode cX1_cell 2 = .ok (.aload_n 0, 1) := by decide +kernel
theorem dX1_cell_3 : decode cX1_cell 3 = .ok (.getfield 7, 3) := by decide +kernel
theorem dX1_cell_6 : decode cX1_cell 6 = .ok (.iconst 1, 1) := by decide +kernel
theorem dX1_cell_7 : decode cX1_cell 7 = .ok (.isub, 1) := by decide +kernel
theorem dX1_cell_8 : decode cX1_cell 8 = .ok (.invokestatic 82, 3) := by decide +kernel
theorem dX1_cell_11 : decode cX1_cell 11 = .ok (.ifCond .eq 21, 3) := by decide +kernel
theorem dX1_cell_14 : decode cX1_cell 14 = .ok (.iload_n 2, 1) := by decide +kernel
theorem dX1_cell_15 : decode cX1_cell 15 = .ok (.iconst 0, 1) := by decide +kernel
theorem dX1_cell_16 : decode cX1_cell 16 = .ok (.aload_n 0, 1) := by decide +kernel
theorem dX1_cell_17 : decode cX1_cell 17 = .ok (.getfield 7, 3) := by decide +kernel
theorem dX1_cell_20 : decode cX1_cell 20 = .ok (.iconst 1, 1) := by decide +kernel
theorem dX1_cell_21 : decode cX1_cell 21 = .ok (.isub, 1) := by decide +kernel
theorem dX1_cell_22 : decode cX1_cell 22 = .ok (.invokestatic 82, 3) := by decide +kernel
theorem dX1_cell_25 : decode cX1_cell 25 = .ok (.ifCond .eq 7, 3) := by decide +kernel
theorem dX1_cell_28 : decode cX1_cell 28 = .ok (.iconst 1, 1) := by decide +kernel
theorem dX1_cell_29 : decode cX1_cell 29 = .ok (.goto 4, 3) := by decide +kernel
theorem dX1_cell_32 : decode cX1_cell 32 = .ok (.iconst 0, 1) := by decide +kernel
theorem dX1_cell_33 : decode cX1_cell 33 = .ok (.istore 4, 2) := by decide +kernel
theorem dX1_cell_35 : decode cX1_cell 35 = .ok (.aload_n 0, 1) := by decide +kernel
theorem dX1_cell_36 : decode cX1_cell 36 = .ok (.iload 4, 2) := by decide +kernel
theorem dX1_cell_38 : decode cX1_cell 38 = .ok (.ifCond .ne 7, 3) := by decide +kernel
theorem dX1_cell_41 : decode cX1_cell 41 = .ok (.iconst 1, 1) := by decide +kernel
theorem dX1_cell_42 : decode cX1_cell 42 = .ok (.goto 4, 3) := by decide +kernel
theorem dX1_cell_45 : decode cX1_cell 45 = .ok (.iconst 0, 1) := by decide +kernel
theorem dX1_cell_46 : decode cX1_cell 46 = .ok (.iload 4, 2) := by decide +kernel
theorem dX1_cell_48 : decode cX1_cell 48 = .ok (.ifCond .eq 16, 3) := by decide +kernel
theorem dX1_cell_51 : decode cX1_cell 51 = .ok (.iload_n 3, 1) := by decide +kernel
theorem dX1_cell_52 : decode cX1_cell 52 = .ok (.iconst 0, 1) := by decide +kernel
theorem dX1_cell_53 : decode cX1_cell 53 = .ok (.iconst 4, 1) := by decide +kernel
theorem dX1_cell_54 : decode cX1_cell 54 = .ok (.invokestatic 82, 3) := by decide +kernel
theorem dX1_cell_57 : decode cX1_cell 57 = .ok (.ifCond .ne 7, 3) := by decide +kernel
theorem dX1_cell_60 : decode cX1_cell 60 = .ok (.iconst 1, 1) := by decide +kernel
theorem dX1_cell_61 : decode cX1_cell 61 = .ok (.goto 4, 3) := by decide +kernel
theorem dX1_cell_64 : decode cX1_cell 64 = .ok (.iconst 0, 1) := by decide +kernel
theorem dX1_cell_65 : decode cX1_cell 65 = .ok (.invokevirtual 86, 3) := by decide +kernel
theorem dX1_cell_68 : decode cX1_cell 68 = .ok (.ifCond .eq 5, 3) := by decide +kernel
theorem dX1_cell_71 : decode cX1_cell 71 = .ok (.iconst 0, 1) := by decide +kernel
theorem dX1_cell_72 : decode cX1_cell 72 = .ok (.ireturn, 1) := by decide +kernel
theorem dX1_cell_73 : decode cX1_cell 73 = .ok (.bipush 6, 2) := by decide +kernel
theorem dX1_cell_75 : decode cX1_cell 75 = .ok (.iload_n 1, 1) := by decide +kernel
theorem dX1_cell_76 : decode cX1_cell 76 = .ok (.imul, 1) := by decide +kernel
theorem dX1_cell_77 : decode cX1_cell 77 = .ok (.iload_n 2, 1) := by decide +kernel
theorem dX1_cell_78 : decode cX1_cell 78 = .ok (.iadd, 1) := by decide +kernel
theorem dX1_cell_79 : decode cX1_cell 79 = .ok (.istore 5, 2) := by decide +kernel
theorem dX1_cell_81 : decode cX1_cell 81 = .ok (.iload_n 3, 1) := by decide +kernel
theorem dX1_cell_82 : decode cX1_cell 82 = .ok (.tableswitch 62 0 3 #[30, 38, 46, 54], 30) := by decide +kernel
theorem dX1_cell_112 : decode cX1_cell 112 = .ok (.aload_n 0, 1) := by decide +kernel
theorem dX1_cell_113 : decode cX1_cell 113 = .ok (.getfield 33, 3) := by decide +kernel
theorem dX1_cell_116 : decode cX1_cell 116 = .ok (.iload 5, 2) := by decide +kernel
theorem dX1_cell_118 : decode cX1_cell 118 = .ok (.iaload, 1) := by decide +kernel
theorem dX1_cell_119 : decode cX1_cell 119 = .ok (.ireturn, 1) := by decide +kernel
theorem dX1_cell_120 : decode cX1_cell 120 = .ok (.aload_n 0, 1) := by decide +kernel
theorem dX1_cell_121 : decode cX1_cell 121 = .ok (.getfield 36, 3) := by decide +kernel
theorem dX1_cell_124 : decode cX1_cell 124 = .ok (.iload 5, 2) := by decide +kernel
theorem dX1_cell_126 : decode cX1_cell 126 = .ok (.iaload, 1) := by decide +kernel
theorem dX1_cell_127 : decode cX1_cell 127 = .ok (.ireturn, 1) := by decide +kernel
theorem dX1_cell_128 : decode cX1_cell 128 = .ok (.aload_n 0, 1) := by decide +kernel
theorem dX1_cell_129 : decode cX1_cell 129 = .ok (.getfield 39, 3) := by decide +kernel
theorem dX1_cell_132 : decode cX1_cell 132 = .ok (.iload 5, 2) := by decide +kernel
theorem dX1_cell_134 : decode cX1_cell 134 = .ok (.iaload, 1) := by decide +kernel
theorem dX1_cell_135 : decode cX1_cell 135 = .ok (.ireturn, 1) := by decide +kernel
theorem dX1_cell_136 : decode cX1_cell 136 = .ok (.aload_n 0, 1) := by decide +kernel
theorem dX1_cell_137 : decode cX1_cell 137 = .ok (.getfield 42, 3) := by decide +kernel
theorem dX1_cell_140 : decode cX1_cell 140 = .ok (.iload 5, 2) := by decide +kernel
theorem dX1_cell_142 : decode cX1_cell 142 = .ok (.iaload, 1) := by decide +kernel
theorem dX1_cell_143 : decode cX1_cell 143 = .ok (.ireturn, 1) := by decide +kernel
theorem dX1_cell_144 : decode cX1_cell 144 = .ok (.aload_n 0, 1) := by decide +kernel
theorem dX1_cell_145 : decode cX1_cell 145 = .ok (.getfield 45, 3) := by decide +kernel
theorem dX1_cell_148 : decode cX1_cell 148 = .ok (.iload 5, 2) := by decide +kernel
theorem dX1_cell_150 : decode cX1_cell 150 = .ok (.baload, 1) := by decide +kernel
theorem dX1_cell_151 : decode cX1_cell 151 = .ok (.ifCond .eq 7, 3) := by decide +kernel
theorem dX1_cell_154 : decode cX1_cell 154 = .ok (.iconst 1, 1) := by decide +kernel
theorem dX1_cell_155 : decode cX1_cell 155 = .ok (.goto 4, 3) := by decide +kernel
theorem dX1_cell_158 : decode cX1_cell 158 = .ok (.iconst 0, 1) := by decide +kernel
theorem dX1_cell_159 : decode cX1_cell 159 = .ok (.ireturn, 1) := by decide +kernel
theorem dX1_entered_0 : decode cX1_entered 0 = .ok (.aload_n 0, 1) := by decide +kernel
theorem dX1_entered_1 : decode cX1_entered 1 = .ok (.iload_n 1, 1) := by decide +kernel
theorem dX1_entered_2 : decode cX1_entered 2 = .ok (.iconst 0, 1) := by decide +kernel
theorem dX1_entered_3 : decode cX1_entered 3 = .ok (.aload_n 0, 1) := by decide +kernel
theorem dX1_entered_4 : decode cX1_entered 4 = .ok (.getfield 73, 3) := by decide +kernel
theorem dX1_entered_7 : decode cX1_entered 7 = .ok (.iconst 1, 1) := by decide +kernel
theorem dX1_entered_8 : decode cX1_entered 8 = .ok (.isub, 1) := by decide +kernel
theorem dX1_entered_9 : decode cX1_entered 9 = .ok (.invokestatic 82, 3) := by decide +kernel
theorem dX1_entered_12 : decode cX1_entered 12 = .ok (.ifCond .ne 7, 3) := by decide +kernel
theorem dX1_entered_15 : decode cX1_entered 15 = .ok (.iconst 1, 1) := by decide +kernel
theorem dX1_entered_16 : decode cX1_entered 16 = .ok (.goto 4, 3) := by decide +kernel
theorem dX1_entered_19 : decode cX1_entered 19 = .ok (.iconst 0, 1) := by decide +kernel
theorem dX1_entered_20 : decode cX1_entered 20 = .ok (.iconst 0, 1) := by decide +kernel
theorem dX1_entered_21 : decode cX1_entered 21 = .ok (.invokevirtual 86, 3) := by decide +kernel
theorem dX1_entered_24 : decode cX1_entered 24 = .ok (.ifCond .eq 7, 3) := by decide +kernel
theorem dX1_entered_27 : decode cX1_entered 27 = .ok (.iconst 0, 1) := by decide +kernel
theorem dX1_entered_28 : decode cX1_entered 28 = .ok (.goto 9, 3) := by decide +kernel
theorem dX1_entered_31 : decode cX1_entered 31 = .ok (.aload_n 0, 1) := by decide +kernel
theorem dX1_entered_32 : decode cX1_entered 32 = .ok (.getfield 24, 3) := by decide +kernel
theorem dX1_entered_35 : decode cX1_entered 35 = .ok (.iload_n 1, 1) := by decide +kernel
theorem dX1_entered_36 : decode cX1_entered 36 = .ok (.iaload, 1) := by decide +kernel
theorem dX1_entered_37 : decode cX1_entered 37 = .ok (.ireturn, 1) := by decide +kernel
theorem dX1_result_0 : decode cX1_result 0 = .ok (.iload_n 1, 1) := by decide +kernel
theorem dX1_result_1 : decode cX1_result 1 = .ok (.iconst 0, 1) := by decide +kernel
theorem dX1_result_2 : decode cX1_result 2 = .ok (.aload_n 0, 1) := by decide +kernel
theorem dX1_result_3 : decode cX1_result 3 = .ok (.getfield 73, 3) := by decide +kernel
theorem dX1_result_6 : decode cX1_result 6 = .ok (.iconst 1, 1) := by decide +kernel
theorem dX1_result_7 : decode cX1_result 7 = .ok (.isub, 1) := by decide +kernel
theorem dX1_result_8 : decode cX1_result 8 = .ok (.invokestatic 82, 3) := by decide +kernel
theorem dX1_result_11 : decode cX1_result 11 = .ok (.ifCond .eq 21, 3) := by decide +kernel
theorem dX1_result_14 : decode cX1_result 14 = .ok (.iload_n 2, 1) := by decide +kernel
theorem dX1_result_15 : decode cX1_result 15 = .ok (.iconst 0, 1) := by decide +kernel
theorem dX1_result_16 : decode cX1_result 16 = .ok (.aload_n 0, 1) := by decide +kernel
theorem dX1_result_17 : decode cX1_result 17 = .ok (.getfield 7, 3) := by decide +kernel
theorem dX1_result_20 : decode cX1_result 20 = .ok (.iconst 1, 1) := by decide +kernel
theorem dX1_result_21 : decode cX1_result 21 = .ok (.isub, 1) := by decide +kernel
theorem dX1_result_22 : decode cX1_result 22 = .ok (.invokestatic 82, 3) := by decide +kernel
theorem dX1_result_25 : decode cX1_result 25 = .ok (.ifCond .eq 7, 3) := by decide +kernel
theorem dX1_result_28 : decode cX1_result 28 = .ok (.iconst 1, 1) := by decide +kernel
theorem dX1_result_29 : decode cX1_result 29 = .ok (.goto 4, 3) := by decide +kernel
theorem dX1_result_32 : decode cX1_result 32 = .ok (.iconst 0, 1) := by decide +kernel
theorem dX1_result_33 : decode cX1_result 33 = .ok (.istore_n 3, 1) := by decide +kernel
theorem dX1_result_34 : decode cX1_result 34 = .ok (.iload_n 3, 1) := by decide +kernel
theorem dX1_result_35 : decode cX1_result 35 = .ok (.ifCond .eq 54, 3) := by decide +kernel
theorem dX1_result_38 : decode cX1_result 38 = .ok (.aload_n 0, 1) := by decide +kernel
theorem dX1_result_39 : decode cX1_result 39 = .ok (.getfield 24, 3) := by decide +kernel
theorem dX1_result_42 : decode cX1_result 42 = .ok (.iload_n 3, 1) := by decide +kernel
theorem dX1_result_43 : decode cX1_result 43 = .ok (.ifCond .eq 7, 3) := by decide +kernel
theorem dX1_result_46 : decode cX1_result 46 = .ok (.iload_n 1, 1) := by decide +kernel
theorem dX1_result_47 : decode cX1_result 47 = .ok (.goto 4, 3) := by decide +kernel
theorem dX1_result_50 : decode cX1_result 50 = .ok (.iconst 0, 1) := by decide +kernel
theorem dX1_result_51 : decode cX1_result 51 = .ok (.iaload, 1) := by decide +kernel
theorem dX1_result_52 : decode cX1_result 52 = .ok (.ifCond .lt 37, 3) := by decide +kernel
theorem dX1_result_55 : decode cX1_result 55 = .ok (.aload_n 0, 1) := by decide +kernel
theorem dX1_result_56 : decode cX1_result 56 = .ok (.getfield 57, 3) := by decide +kernel
theorem dX1_result_59 : decode cX1_result 59 = .ok (.aload_n 0, 1) := by decide +kernel
theorem dX1_result_60 : decode cX1_result 60 = .ok (.getfield 24, 3) := by decide +kernel
theorem dX1_result_63 : decode cX1_result 63 = .ok (.iload_n 3, 1) := by decide +kernel
theorem dX1_result_64 : decode cX1_result 64 = .ok (.ifCond .eq 7, 3) := by decide +kernel
theorem dX1_result_67 : decode cX1_result 67 = .ok (.iload_n 1, 1) := by decide +kernel
theorem dX1_result_68 : decode cX1_result 68 = .ok (.goto 4, 3) := by decide +kernel
theorem dX1_result_71 : decode cX1_result 71 = .ok (.iconst 0, 1) := by decide +kernel
theorem dX1_result_72 : decode cX1_result 72 = .ok (.iaload, 1) := by decide +kernel
theorem dX1_result_73 : decode cX1_result 73 = .ok (.iconst 2, 1) := by decide +kernel
theorem dX1_result_74 : decode cX1_result 74 = .ok (.aload_n 0, 1) := by decide +kernel
theorem dX1_result_75 : decode cX1_result 75 = .ok (.getfield 7, 3) := by decide +kernel
theorem dX1_result_78 : decode cX1_result 78 = .ok (.imul, 1) := by decide +kernel
theorem dX1_result_79 : decode cX1_result 79 = .ok (.iadd, 1) := by decide +kernel
theorem dX1_result_80 : decode cX1_result 80 = .ok (.iconst 2, 1) := by decide +kernel
theorem dX1_result_81 : decode cX1_result 81 = .ok (.isub, 1) := by decide +kernel
theorem dX1_result_82 : decode cX1_result 82 = .ok (.if_icmp .lt 7, 3) := by decide +kernel
theorem dX1_result_85 : decode cX1_result 85 = .ok (.iconst 1, 1) := by decide +kernel
theorem dX1_result_86 : decode cX1_result 86 = .ok (.goto 4, 3) := by decide +kernel
theorem dX1_result_89 : decode cX1_result 89 = .ok (.iconst 0, 1) := by decide +kernel
theorem dX1_result_90 : decode cX1_result 90 = .ok (.istore 4, 2) := by decide +kernel
theorem dX1_result_92 : decode cX1_result 92 = .ok (.aload_n 0, 1) := by decide +kernel
theorem dX1_result_93 : decode cX1_result 93 = .ok (.iload_n 3, 1) := by decide +kernel
theorem dX1_result_94 : decode cX1_result 94 = .ok (.ifCond .ne 7, 3) := by decide +kernel
theorem dX1_result_97 : decode cX1_result 97 = .ok (.iconst 1, 1) := by decide +kernel
theorem dX1_result_98 : decode cX1_result 98 = .ok (.goto 4, 3) := by decide +kernel
theorem dX1_result_101 : decode cX1_result 101 = .ok (.iconst 0, 1) := by decide +kernel
theorem dX1_result_102 : decode cX1_result 102 = .ok (.iload_n 3, 1) := by decide +kernel
theorem dX1_result_103 : decode cX1_result 103 = .ok (.ifCond .eq 12, 3) := by decide +kernel
theorem dX1_result_106 : decode cX1_result 106 = .ok (.iload 4, 2) := by decide +kernel
theorem dX1_result_108 : decode cX1_result 108 = .ok (.ifCond .ne 7, 3) := by decide +kernel
theorem dX1_result_111 : decode cX1_result 111 = .ok (.iconst 1, 1) := by decide +kernel
theorem dX1_result_112 : decode cX1_result 112 = .ok (.goto 4, 3) := by decide +kernel
theorem dX1_result_115 : decode cX1_result 115 = .ok (.iconst 0, 1) := by decide +kernel
theorem dX1_result_116 : decode cX1_result 116 = .ok (.invokevirtual 86, 3) := by decide +kernel
theorem dX1_result_119 : decode cX1_result 119 = .ok (.ifCond .eq 5, 3) := by decide +kernel
theorem dX1_result_122 : decode cX1_result 122 = .ok (.iconst 0, 1) := by decide +kernel
theorem dX1_result_123 : decode cX1_result 123 = .ok (.ireturn, 1) := by decide +kernel
theorem dX1_result_124 : decode cX1_result 124 = .ok (.aload_n 0, 1) := by decide +kernel
theorem dX1_result_125 : decode cX1_result 125 = .ok (.getfield 27, 3) := by decide +kernel
theorem dX1_result_128 : decode cX1_result 128 = .ok (.bipush 6, 2) := by decide +kernel
theorem dX1_result_130 : decode cX1_result 130 = .ok (.iload_n 1, 1) := by decide +kernel
theorem dX1_result_131 : decode cX1_result 131 = .ok (.imul, 1) := by decide +kernel
theorem dX1_result_132 : decode cX1_result 132 = .ok (.iload_n 2, 1) := by decide +kernel
theorem dX1_result_133 : decode cX1_result 133 = .ok (.iadd, 1) := by decide +kernel
theorem dX1_result_134 : decode cX1_result 134 = .ok (.iaload, 1) := by decide +kernel
theorem dX1_result_135 : decode cX1_result 135 = .ok (.ireturn, 1) := by decide +kernel
theorem dX1_about_0 : decode cX1_about 0 = .ok (.aload_n 0, 1) := by decide +kernel
theorem dX1_about_1 : decode cX1_about 1 = .ok (.iload_n 1, 1) := by decide +kernel
theorem dX1_about_2 : decode cX1_about 2 = .ok (.iconst 0, 1) := by decide +kernel
theorem dX1_about_3 : decode cX1_about 3 = .ok (.bipush 6, 2) := by decide +kernel
theorem dX1_about_5 : decode cX1_about 5 = .ok (.invokestatic 82, 3) := by decide +kernel
theorem dX1_about_8 : decode cX1_about 8 = .ok (.ifCond .ne 7, 3) := by decide +kernel
theorem dX1_about_11 : decode cX1_about 11 = .ok (.iconst 1, 1) := by decide +kernel
theorem dX1_about_12 : decode cX1_about 12 = .ok (.goto 4, 3) := by decide +kernel
theorem dX1_about_15 : decode cX1_about 15 = .ok (.iconst 0, 1) := by decide +kernel
theorem dX1_about_16 : decode cX1_about 16 = .ok (.iconst 0, 1) := by decide +kernel
theorem dX1_about_17 : decode cX1_about 17 = .ok (.invokevirtual 86, 3) := by decide +kernel
theorem dX1_about_20 : decode cX1_about 20 = .ok (.ifCond .eq 5, 3) := by decide +kernel
theorem dX1_about_23 : decode cX1_about 23 = .ok (.iconst 0, 1) := by decide +kernel
theorem dX1_about_24 : decode cX1_about 24 = .ok (.ireturn, 1) := by decide +kernel
theorem dX1_about_25 : decode cX1_about 25 = .ok (.iconst 0, 1) := by decide +kernel
theorem dX1_about_26 : decode cX1_about 26 = .ok (.istore_n 2, 1) := by decide +kernel
theorem dX1_about_27 : decode cX1_about 27 = .ok (.iconst 0, 1) := by decide +kernel
theorem dX1_about_28 : decode cX1_about 28 = .ok (.istore_n 3, 1) := by decide +kernel
theorem dX1_about_29 : decode cX1_about 29 = .ok (.iload_n 3, 1) := by decide +kernel
theorem dX1_about_30 : decode cX1_about 30 = .ok (.bipush 36, 2) := by decide +kernel
theorem dX1_about_32 : decode cX1_about 32 = .ok (.if_icmp .ge 26, 3) := by decide +kernel
theorem dX1_about_35 : decode cX1_about 35 = .ok (.aload_n 0, 1) := by decide +kernel
theorem dX1_about_36 : decode cX1_about 36 = .ok (.getfield 48, 3) := by decide +kernel
theorem dX1_about_39 : decode cX1_about 39 = .ok (.iload_n 3, 1) := by decide +kernel
theorem dX1_about_40 : decode cX1_about 40 = .ok (.baload, 1) := by decide +kernel
theorem dX1_about_41 : decode cX1_about 41 = .ok (.ifCond .eq 9, 3) := by decide +kernel
theorem dX1_about_44 : decode cX1_about 44 = .ok (.iload_n 2, 1) := by decide +kernel
theorem dX1_about_45 : decode cX1_about 45 = .ok (.iconst 1, 1) := by decide +kernel
theorem dX1_about_46 : decode cX1_about 46 = .ok (.iadd, 1) := by decide +kernel
theorem dX1_about_47 : decode cX1_about 47 = .ok (.goto 4, 3) := by decide +kernel
theorem dX1_about_50 : decode cX1_about 50 = .ok (.iload_n 2, 1) := by decide +kernel
theorem dX1_about_51 : decode cX1_about 51 = .ok (.istore_n 2, 1) := by decide +kernel
theorem dX1_about_52 : decode cX1_about 52 = .ok (.iinc 3 1, 3) := by decide +kernel
theorem dX1_about_55 : decode cX1_about 55 = .ok (.goto (-26), 3) := by decide +kernel
theorem dX1_about_58 : decode cX1_about 58 = .ok (.iload_n 1, 1) := by decide +kernel
theorem dX1_about_59 : decode cX1_about 59 = .ok (.tableswitch 82 0 5 #[37, 42, 52, 62, 67, 80], 37) := by decide +kernel
theorem dX1_about_96 : decode cX1_about 96 = .ok (.aload_n 0, 1) := by decide +kernel
theorem dX1_about_97 : decode cX1_about 97 = .ok (.getfield 57, 3) := by decide +kernel
theorem dX1_about_100 : decode cX1_about 100 = .ok (.ireturn, 1) := by decide +kernel
theorem dX1_about_101 : decode cX1_about 101 = .ok (.aload_n 0, 1) := by decide +kernel
theorem dX1_about_102 : decode cX1_about 102 = .ok (.getfield 73, 3) := by decide +kernel
theorem dX1_about_105 : decode cX1_about 105 = .ok (.aload_n 0, 1) := by decide +kernel
theorem dX1_about_106 : decode cX1_about 106 = .ok (.getfield 76, 3) := by decide +kernel
theorem dX1_about_109 : decode cX1_about 109 = .ok (.isub, 1) := by decide +kernel
theorem dX1_about_110 : decode cX1_about 110 = .ok (.ireturn, 1) := by decide +kernel
theorem dX1_about_111 : decode cX1_about 111 = .ok (.aload_n 0, 1) := by decide +kernel
theorem dX1_about_112 : decode cX1_about 112 = .ok (.getfield 60, 3) := by decide +kernel
theorem dX1_about_115 : decode cX1_about 115 = .ok (.aload_n 0, 1) := by decide +kernel
theorem dX1_about_116 : decode cX1_about 116 = .ok (.getfield 63, 3) := by decide +kernel
theorem dX1_about_119 : decode cX1_about 119 = .ok (.isub, 1) := by decide +kernel
theorem dX1_about_120 : decode cX1_about 120 = .ok (.ireturn, 1) := by decide +kernel
theorem dX1_about_121 : decode cX1_about 121 = .ok (.aload_n 0, 1) := by decide +kernel
theorem dX1_about_122 : decode cX1_about 122 = .ok (.getfield 79, 3) := by decide +kernel
theorem dX1_about_125 : decode cX1_about 125 = .ok (.ireturn, 1) := by decide +kernel
theorem dX1_about_126 : decode cX1_about 126 = .ok (.aload_n 0, 1) := by decide +kernel
theorem dX1_about_127 : decode cX1_about 127 = .ok (.getfield 69, 3) := by decide +kernel
theorem dX1_about_130 : decode cX1_about 130 = .ok (.ifCond .eq 7, 3) := by decide +kernel
theorem dX1_about_133 : decode cX1_about 133 = .ok (.iconst 1, 1) := by decide +kernel
theorem dX1_about_134 : decode cX1_about 134 = .ok (.goto 4, 3) := by decide +kernel
theorem dX1_about_137 : decode cX1_about 137 = .ok (.iconst 0, 1) := by decide +kernel
theorem dX1_about_138 : decode cX1_about 138 = .ok (.ireturn, 1) := by decide +kernel
theorem dX1_about_139 : decode cX1_about 139 = .ok (.iload_n 2, 1) := by decide +kernel
theorem dX1_about_140 : decode cX1_about 140 = .ok (.ireturn, 1) := by decide +kernel
theorem dX1_about_141 : decode cX1_about 141 = .ok (.aload_n 0, 1) := by decide +kernel
theorem dX1_about_142 : decode cX1_about 142 = .ok (.getfield 7, 3) := by decide +kernel
theorem dX1_about_145 : decode cX1_about 145 = .ok (.ireturn, 1) := by decide +kernel
end
section
theorem dL_law_0 : decode cL_law 0 = .ok (.new 8, 3) := by decide +kernel
theorem dL_law_3 : decode cL_law 3 = .ok (.dup, 1) := by decide +kernel
theorem dL_law_4 : decode cL_law 4 = .ok (.invokespecial 47, 3) := by decide +kernel
theorem dL_law_7 : decode cL_law 7 = .ok (.astore_n 1, 1) := by decide +kernel
theorem dL_law_8 : decode cL_law 8 = .ok (.new 48, 3) := by decide +kernel
theorem dL_law_11 : decode cL_law 11 = .ok (.dup, 1) := by decide +kernel
theorem dL_law_12 : decode cL_law 12 = .ok (.invokespecial 50, 3) := by decide +kernel
theorem dL_law_15 : decode cL_law 15 = .ok (.astore_n 2, 1) := by decide +kernel
theorem dL_law_16 : decode cL_law 16 = .ok (.iconst 1, 1) := by decide +kernel
theorem dL_law_17 : decode cL_law 17 = .ok (.newarray .long, 2) := by decide +kernel
theorem dL_law_19 : decode cL_law 19 = .ok (.astore_n 3, 1) := by decide +kernel
theorem dL_law_20 : decode cL_law 20 = .ok (.iconst 0, 1) := by decide +kernel
theorem dL_law_21 : decode cL_law 21 = .ok (.istore 4, 2) := by decide +kernel
theorem dL_law_23 : decode cL_law 23 = .ok (.iload 4, 2) := by decide +kernel
theorem dL_law_25 : decode cL_law 25 = .ok (.aload_n 0, 1) := by decide +kernel
theorem dL_law_26 : decode cL_law 26 = .ok (.arraylength, 1) := by decide +kernel
theorem dL_law_27 : decode cL_law 27 = .ok (.bipush 8, 2) := by decide +kernel
theorem dL_law_29 : decode cL_law 29 = .ok (.isub, 1) := by decide +kernel
theorem dL_law_30 : decode cL_law 30 = .ok (.if_icmp .gt 682, 3) := by decide +kernel
theorem dL_law_33 : decode cL_law 33 = .ok (.aload_n 0, 1) := by decide +kernel
theorem dL_law_34 : decode cL_law 34 = .ok (.iload 4, 2) := by decide +kernel
theorem dL_law_36 : decode cL_law 36 = .ok (.iaload, 1) := by decide +kernel
theorem dL_law_37 : decode cL_law 37 = .ok (.bipush 7, 2) := by decide +kernel
theorem dL_law_39 : decode cL_law 39 = .ok (.iand, 1) := by decide +kernel
theorem dL_law_40 : decode cL_law 40 = .ok (.tableswitch 666 0 7 #[48, 84, 202, 350, 406, 486, 542, 610], 48) := by decide +kernel
theorem dL_law_88 : decode cL_law 88 = .ok (.aload_n 1, 1) := by decide +kernel
theorem dL_law_89 : decode cL_law 89 = .ok (.aload_n 0, 1) := by decide +kernel
theorem dL_law_90 : decode cL_law 90 = .ok (.iload 4, 2) := by decide +kernel
theorem dL_law_92 : decode cL_law 92 = .ok (.iconst 1, 1) := by decide +kernel
theorem dL_law_93 : decode cL_law 93 = .ok (.iadd, 1) := by decide +kernel
theorem dL_law_94 : decode cL_law 94 = .ok (.iaload, 1) := by decide +kernel
theorem dL_law_95 : decode cL_law 95 = .ok (.invokestatic 51, 3) := by decide +kernel
theorem dL_law_98 : decode cL_law 98 = .ok (.istore 5, 2) := by decide +kernel
theorem dL_law_100 : decode cL_law 100 = .ok (.aload_n 2, 1) := by decide +kernel
theorem dL_law_101 : decode cL_law 101 = .ok (.aload_n 0, 1) := by decide +kernel
theorem dL_law_102 : decode cL_law 102 = .ok (.iload 4, 2) := by decide +kernel
theorem dL_law_104 : decode cL_law 104 = .ok (.iconst 1, 1) := by decide +kernel
theorem dL_law_105 : decode cL_law 105 = .ok (.iadd, 1) := by decide +kernel
theorem dL_law_106 : decode cL_law 106 = .ok (.iaload, 1) := by decide +kernel
theorem dL_law_107 : decode cL_law 107 = .ok (.invokevirtual 56, 3) := by decide +kernel
theorem dL_law_110 : decode cL_law 110 = .ok (.aload_n 2, 1) := by decide +kernel
theorem dL_law_111 : decode cL_law 111 = .ok (.invokevirtual 57, 3) := by decide +kernel
theorem dL_law_114 : decode cL_law 114 = .ok (.iload 5, 2) := by decide +kernel
theorem dL_law_116 : decode cL_law 116 = .ok (.if_icmp .eq 5, 3) := by decide +kernel
theorem dL_law_119 : decode cL_law 119 = .ok (.iconst 0, 1) := by decide +kernel
theorem dL_law_120 : decode cL_law 120 = .ok (.ireturn, 1) := by decide +kernel
theorem dL_law_121 : decode cL_law 121 = .ok (.goto 585, 3) := by decide +kernel
theorem dL_law_124 : decode cL_law 124 = .ok (.aload_n 1, 1) := by decide +kernel
theorem dL_law_125 : decode cL_law 125 = .ok (.aload_n 0, 1) := by decide +kernel
theorem dL_law_126 : decode cL_law 126 = .ok (.iload 4, 2) := by decide +kernel
theorem dL_law_128 : decode cL_law 128 = .ok (.iconst 1, 1) := by decide +kernel
theorem dL_law_129 : decode cL_law 129 = .ok (.iadd, 1) := by decide +kernel
theorem dL_law_130 : decode cL_law 130 = .ok (.iaload, 1) := by decide +kernel
theorem dL_law_131 : decode cL_law 131 = .ok (.aload_n 0, 1) := by decide +kernel
theorem dL_law_132 : decode cL_law 132 = .ok (.iload 4, 2) := by decide +kernel
theorem dL_law_134 : decode cL_law 134 = .ok (.iconst 2, 1) := by decide +kernel
theorem dL_law_135 : decode cL_law 135 = .ok (.iadd, 1) := by decide +kernel
theorem dL_law_136 : decode cL_law 136 = .ok (.iaload, 1) := by decide +kernel
theorem dL_law_137 : decode cL_law 137 = .ok (.aload_n 0, 1) := by decide +kernel
theorem dL_law_138 : decode cL_law 138 = .ok (.iload 4, 2) := by decide +kernel
theorem dL_law_140 : decode cL_law 140 = .ok (.iconst 3, 1) := by decide +kernel
theorem dL_law_141 : decode cL_law 141 = .ok (.iadd, 1) := by decide +kernel
theorem dL_law_142 : decode cL_law 142 = .ok (.iaload, 1) := by decide +kernel
theorem dL_law_143 : decode cL_law 143 = .ok (.aload_n 0, 1) := by decide +kernel
theorem dL_law_144 : decode cL_law 144 = .ok (.iload 4, 2) := by decide +kernel
theorem dL_law_146 : decode cL_law 146 = .ok (.iconst 4, 1) := by decide +kernel
theorem dL_law_147 : decode cL_law 147 = .ok (.iadd, 1) := by decide +kernel
theorem dL_law_148 : decode cL_law 148 = .ok (.iaload, 1) := by decide +kernel
theorem dL_law_149 : decode cL_law 149 = .ok (.aload_n 0, 1) := by decide +kernel
theorem dL_law_150 : decode cL_law 150 = .ok (.iload 4, 2) := by decide +kernel
theorem dL_law_152 : decode cL_law 152 = .ok (.iconst 5, 1) := by decide +kernel
theorem dL_law_153 : decode cL_law 153 = .ok (.iadd, 1) := by decide +kernel
theorem dL_law_154 : decode cL_law 154 = .ok (.iaload, 1) := by decide +kernel
theorem dL_law_155 : decode cL_law 155 = .ok (.aload_n 0, 1) := by decide +kernel
theorem dL_law_156 : decode cL_law 156 = .ok (.iload 4, 2) := by decide +kernel
theorem dL_law_158 : decode cL_law 158 = .ok (.bipush 6, 2) := by decide +kernel
theorem dL_law_160 : decode cL_law 160 = .ok (.iadd, 1) := by decide +kernel
theorem dL_law_161 : decode cL_law 161 = .ok (.iaload, 1) := by decide +kernel
theorem dL_law_162 : decode cL_law 162 = .ok (.aload_n 3, 1) := by decide +kernel
theorem dL_law_163 : decode cL_law 163 = .ok (.invokestatic 61, 3) := by decide +kernel
theorem dL_law_166 : decode cL_law 166 = .ok (.istore 5, 2) := by decide +kernel
theorem dL_law_168 : decode cL_law 168 = .ok (.aload_n 2, 1) := by decide +kernel
theorem dL_law_169 : decode cL_law 169 = .ok (.aload_n 0, 1) := by decide +kernel
theorem dL_law_170 : decode cL_law 170 = .ok (.iload 4, 2) := by decide +kernel
theorem dL_law_172 : decode cL_law 172 = .ok (.iconst 1, 1) := by decide +kernel
theorem dL_law_173 : decode cL_law 173 = .ok (.iadd, 1) := by decide +kernel
theorem dL_law_174 : decode cL_law 174 = .ok (.iaload, 1) := by decide +kernel
theorem dL_law_175 : decode cL_law 175 = .ok (.aload_n 0, 1) := by decide +kernel
theorem dL_law_176 : decode cL_law 176 = .ok (.iload 4, 2) := by decide +kernel
theorem dL_law_178 : decode cL_law 178 = .ok (.iconst 2, 1) := by decide +kernel
theorem dL_law_179 : decode cL_law 179 = .ok (.iadd, 1) := by decide +kernel
theorem dL_law_180 : decode cL_law 180 = .ok (.iaload, 1) := by decide +kernel
theorem dL_law_181 : decode cL_law 181 = .ok (.aload_n 0, 1) := by decide +kernel
theorem dL_law_182 : decode cL_law 182 = .ok (.iload 4, 2) := by decide +kernel
theorem dL_law_184 : decode cL_law 184 = .ok (.iconst 3, 1) := by decide +kernel
theorem dL_law_185 : decode cL_law 185 = .ok (.iadd, 1) := by decide +kernel
theorem dL_law_186 : decode cL_law 186 = .ok (.iaload, 1) := by decide +kernel
theorem dL_law_187 : decode cL_law 187 = .ok (.aload_n 0, 1) := by decide +kernel
theorem dL_law_188 : decode cL_law 188 = .ok (.iload 4, 2) := by decide +kernel
theorem dL_law_190 : decode cL_law 190 = .ok (.iconst 4, 1) := by decide +kernel
theorem dL_law_191 : decode cL_law 191 = .ok (.iadd, 1) := by decide +kernel
theorem dL_law_192 : decode cL_law 192 = .ok (.iaload, 1) := by decide +kernel
theorem dL_law_193 : decode cL_law 193 = .ok (.aload_n 0, 1) := by decide +kernel
theorem dL_law_194 : decode cL_law 194 = .ok (.iload 4, 2) := by decide +kernel
theorem dL_law_196 : decode cL_law 196 = .ok (.iconst 5, 1) := by decide +kernel
theorem dL_law_197 : decode cL_law 197 = .ok (.iadd, 1) := by decide +kernel
theorem dL_law_198 : decode cL_law 198 = .ok (.iaload, 1) := by decide +kernel
theorem dL_law_199 : decode cL_law 199 = .ok (.aload_n 0, 1) := by decide +kernel
theorem dL_law_200 : decode cL_law 200 = .ok (.iload 4, 2) := by decide +kernel
theorem dL_law_202 : decode cL_law 202 = .ok (.bipush 6, 2) := by decide +kernel
theorem dL_law_204 : decode cL_law 204 = .ok (.iadd, 1) := by decide +kernel
theorem dL_law_205 : decode cL_law 205 = .ok (.iaload, 1) := by decide +kernel
theorem dL_law_206 : decode cL_law 206 = .ok (.invokevirtual 64, 3) := by decide +kernel
theorem dL_law_209 : decode cL_law 209 = .ok (.istore 6, 2) := by decide +kernel
theorem dL_law_211 : decode cL_law 211 = .ok (.aload_n 2, 1) := by decide +kernel
theorem dL_law_212 : decode cL_law 212 = .ok (.invokevirtual 57, 3) := by decide +kernel
theorem dL_law_215 : decode cL_law 215 = .ok (.iload 5, 2) := by decide +kernel
theorem dL_law_217 : decode cL_law 217 = .ok (.if_icmp .eq 5, 3) := by decide +kernel
theorem dL_law_220 : decode cL_law 220 = .ok (.iconst 0, 1) := by decide +kernel
theorem dL_law_221 : decode cL_law 221 = .ok (.ireturn, 1) := by decide +kernel
theorem dL_law_222 : decode cL_law 222 = .ok (.iload 5, 2) := by decide +kernel
theorem dL_law_224 : decode cL_law 224 = .ok (.ifCond .ne 15, 3) := by decide +kernel
theorem dL_law_227 : decode cL_law 227 = .ok (.aload_n 3, 1) := by decide +kernel
theorem dL_law_228 : decode cL_law 228 = .ok (.iconst 0, 1) := by decide +kernel
theorem dL_law_229 : decode cL_law 229 = .ok (.laload, 1) := by decide +kernel
theorem dL_law_230 : decode cL_law 230 = .ok (.iload 6, 2) := by decide +kernel
theorem dL_law_232 : decode cL_law 232 = .ok (.i2l, 1) := by decide +kernel
theorem dL_law_233 : decode cL_law 233 = .ok (.lcmp, 1) := by decide +kernel
theorem dL_law_234 : decode cL_law 234 = .ok (.ifCond .eq 5, 3) := by decide +kernel
theorem dL_law_237 : decode cL_law 237 = .ok (.iconst 0, 1) := by decide +kernel
theorem dL_law_238 : decode cL_law 238 = .ok (.ireturn, 1) := by decide +kernel
theorem dL_law_239 : decode cL_law 239 = .ok (.goto 467, 3) := by decide +kernel
theorem dL_law_242 : decode cL_law 242 = .ok (.aload_n 1, 1) := by decide +kernel
theorem dL_law_243 : decode cL_law 243 = .ok (.aload_n 0, 1) := by decide +kernel
theorem dL_law_244 : decode cL_law 244 = .ok (.iload 4, 2) := by decide +kernel
theorem dL_law_246 : decode cL_law 246 = .ok (.iconst 1, 1) := by decide +kernel
theorem dL_law_247 : decode cL_law 247 = .ok (.iadd, 1) := by decide +kernel
theorem dL_law_248 : decode cL_law 248 = .ok (.iaload, 1) := by decide +kernel
theorem dL_law_249 : decode cL_law 249 = .ok (.ifCond .eq 7, 3) := by decide +kernel
theorem dL_law_252 : decode cL_law 252 = .ok (.iconst 1, 1) := by decide +kernel
theorem dL_law_253 : decode cL_law 253 = .ok (.goto 4, 3) := by decide +kernel
theorem dL_law_256 : decode cL_law 256 = .ok (.iconst 0, 1) := by decide +kernel
theorem dL_law_257 : decode cL_law 257 = .ok (.aload_n 0, 1) := by decide +kernel
theorem dL_law_258 : decode cL_law 258 = .ok (.iload 4, 2) := by decide +kernel
theorem dL_law_260 : decode cL_law 260 = .ok (.iconst 2, 1) := by decide +kernel
theorem dL_law_261 : decode cL_law 261 = .ok (.iadd, 1) := by decide +kernel
theorem dL_law_262 : decode cL_law 262 = .ok (.iaload, 1) := by decide +kernel
theorem dL_law_263 : decode cL_law 263 = .ok (.aload_n 0, 1) := by decide +kernel
theorem dL_law_264 : decode cL_law 264 = .ok (.iload 4, 2) := by decide +kernel
theorem dL_law_266 : decode cL_law 266 = .ok (.iconst 3, 1) := by decide +kernel
theorem dL_law_267 : decode cL_law 267 = .ok (.iadd, 1) := by decide +kernel
theorem dL_law_268 : decode cL_law 268 = .ok (.iaload, 1) := by decide +kernel
theorem dL_law_269 : decode cL_law 269 = .ok (.aload_n 0, 1) := by decide +kernel
theorem dL_law_270 : decode cL_law 270 = .ok (.iload 4, 2) := by decide +kernel
theorem dL_law_272 : decode cL_law 272 = .ok (.iconst 4, 1) := by decide +kernel
theorem dL_law_273 : decode cL_law 273 = .ok (.iadd, 1) := by decide +kernel
theorem dL_law_274 : decode cL_law 274 = .ok (.iaload, 1) := by decide +kernel
theorem dL_law_275 : decode cL_law 275 = .ok (.aload_n 0, 1) := by decide +kernel
theorem dL_law_276 : decode cL_law 276 = .ok (.iload 4, 2) := by decide +kernel
theorem dL_law_278 : decode cL_law 278 = .ok (.iconst 5, 1) := by decide +kernel
theorem dL_law_279 : decode cL_law 279 = .ok (.iadd, 1) := by decide +kernel
theorem dL_law_280 : decode cL_law 280 = .ok (.iaload, 1) := by decide +kernel
theorem dL_law_281 : decode cL_law 281 = .ok (.aload_n 0, 1) := by decide +kernel
theorem dL_law_282 : decode cL_law 282 = .ok (.iload 4, 2) := by decide +kernel
theorem dL_law_284 : decode cL_law 284 = .ok (.bipush 6, 2) := by decide +kernel
theorem dL_law_286 : decode cL_law 286 = .ok (.iadd, 1) := by decide +kernel
theorem dL_law_287 : decode cL_law 287 = .ok (.iaload, 1) := by decide +kernel
theorem dL_law_288 : decode cL_law 288 = .ok (.aload_n 0, 1) := by decide +kernel
theorem dL_law_289 : decode cL_law 289 = .ok (.iload 4, 2) := by decide +kernel
theorem dL_law_291 : decode cL_law 291 = .ok (.bipush 7, 2) := by decide +kernel
theorem dL_law_293 : decode cL_law 293 = .ok (.iadd, 1) := by decide +kernel
theorem dL_law_294 : decode cL_law 294 = .ok (.iaload, 1) := by decide +kernel
theorem dL_law_295 : decode cL_law 295 = .ok (.aload_n 3, 1) := by decide +kernel
theorem dL_law_296 : decode cL_law 296 = .ok (.invokestatic 65, 3) := by decide +kernel
theorem dL_law_299 : decode cL_law 299 = .ok (.istore 5, 2) := by decide +kernel
theorem dL_law_301 : decode cL_law 301 = .ok (.aload_n 2, 1) := by decide +kernel
theorem dL_law_302 : decode cL_law 302 = .ok (.aload_n 0, 1) := by decide +kernel
theorem dL_law_303 : decode cL_law 303 = .ok (.iload 4, 2) := by decide +kernel
theorem dL_law_305 : decode cL_law 305 = .ok (.iconst 1, 1) := by decide +kernel
theorem dL_law_306 : decode cL_law 306 = .ok (.iadd, 1) := by decide +kernel
theorem dL_law_307 : decode cL_law 307 = .ok (.iaload, 1) := by decide +kernel
theorem dL_law_308 : decode cL_law 308 = .ok (.ifCond .eq 7, 3) := by decide +kernel
theorem dL_law_311 : decode cL_law 311 = .ok (.iconst 1, 1) := by decide +kernel
theorem dL_law_312 : decode cL_law 312 = .ok (.goto 4, 3) := by decide +kernel
theorem dL_law_315 : decode cL_law 315 = .ok (.iconst 0, 1) := by decide +kernel
theorem dL_law_316 : decode cL_law 316 = .ok (.aload_n 0, 1) := by decide +kernel
theorem dL_law_317 : decode cL_law 317 = .ok (.iload 4, 2) := by decide +kernel
theorem dL_law_319 : decode cL_law 319 = .ok (.iconst 2, 1) := by decide +kernel
theorem dL_law_320 : decode cL_law 320 = .ok (.iadd, 1) := by decide +kernel
theorem dL_law_321 : decode cL_law 321 = .ok (.iaload, 1) := by decide +kernel
theorem dL_law_322 : decode cL_law 322 = .ok (.aload_n 0, 1) := by decide +kernel
theorem dL_law_323 : decode cL_law 323 = .ok (.iload 4, 2) := by decide +kernel
theorem dL_law_325 : decode cL_law 325 = .ok (.iconst 3, 1) := by decide +kernel
theorem dL_law_326 : decode cL_law 326 = .ok (.iadd, 1) := by decide +kernel
theorem dL_law_327 : decode cL_law 327 = .ok (.iaload, 1) := by decide +kernel
theorem dL_law_328 : decode cL_law 328 = .ok (.aload_n 0, 1) := by decide +kernel
theorem dL_law_329 : decode cL_law 329 = .ok (.iload 4, 2) := by decide +kernel
theorem dL_law_331 : decode cL_law 331 = .ok (.iconst 4, 1) := by decide +kernel
theorem dL_law_332 : decode cL_law 332 = .ok (.iadd, 1) := by decide +kernel
theorem dL_law_333 : decode cL_law 333 = .ok (.iaload, 1) := by decide +kernel
theorem dL_law_334 : decode cL_law 334 = .ok (.aload_n 0, 1) := by decide +kernel
theorem dL_law_335 : decode cL_law 335 = .ok (.iload 4, 2) := by decide +kernel
theorem dL_law_337 : decode cL_law 337 = .ok (.iconst 5, 1) := by decide +kernel
theorem dL_law_338 : decode cL_law 338 = .ok (.iadd, 1) := by decide +kernel
theorem dL_law_339 : decode cL_law 339 = .ok (.iaload, 1) := by decide +kernel
theorem dL_law_340 : decode cL_law 340 = .ok (.aload_n 0, 1) := by decide +kernel
theorem dL_law_341 : decode cL_law 341 = .ok (.iload 4, 2) := by decide +kernel
theorem dL_law_343 : decode cL_law 343 = .ok (.bipush 6, 2) := by decide +kernel
theorem dL_law_345 : decode cL_law 345 = .ok (.iadd, 1) := by decide +kernel
theorem dL_law_346 : decode cL_law 346 = .ok (.iaload, 1) := by decide +kernel
theorem dL_law_347 : decode cL_law 347 = .ok (.aload_n 0, 1) := by decide +kernel
theorem dL_law_348 : decode cL_law 348 = .ok (.iload 4, 2) := by decide +kernel
theorem dL_law_350 : decode cL_law 350 = .ok (.bipush 7, 2) := by decide +kernel
theorem dL_law_352 : decode cL_law 352 = .ok (.iadd, 1) := by decide +kernel
theorem dL_law_353 : decode cL_law 353 = .ok (.iaload, 1) := by decide +kernel
theorem dL_law_354 : decode cL_law 354 = .ok (.invokevirtual 68, 3) := by decide +kernel
theorem dL_law_357 : decode cL_law 357 = .ok (.istore 6, 2) := by decide +kernel
theorem dL_law_359 : decode cL_law 359 = .ok (.aload_n 2, 1) := by decide +kernel
theorem dL_law_360 : decode cL_law 360 = .ok (.invokevirtual 57, 3) := by decide +kernel
theorem dL_law_363 : decode cL_law 363 = .ok (.iload 5, 2) := by decide +kernel
theorem dL_law_365 : decode cL_law 365 = .ok (.if_icmp .eq 5, 3) := by decide +kernel
theorem dL_law_368 : decode cL_law 368 = .ok (.iconst 0, 1) := by decide +kernel
theorem dL_law_369 : decode cL_law 369 = .ok (.ireturn, 1) := by decide +kernel
theorem dL_law_370 : decode cL_law 370 = .ok (.iload 5, 2) := by decide +kernel
theorem dL_law_372 : decode cL_law 372 = .ok (.ifCond .ne 15, 3) := by decide +kernel
theorem dL_law_375 : decode cL_law 375 = .ok (.aload_n 3, 1) := by decide +kernel
theorem dL_law_376 : decode cL_law 376 = .ok (.iconst 0, 1) := by decide +kernel
theorem dL_law_377 : decode cL_law 377 = .ok (.laload, 1) := by decide +kernel
theorem dL_law_378 : decode cL_law 378 = .ok (.iload 6, 2) := by decide +kernel
theorem dL_law_380 : decode cL_law 380 = .ok (.i2l, 1) := by decide +kernel
theorem dL_law_381 : decode cL_law 381 = .ok (.lcmp, 1) := by decide +kernel
theorem dL_law_382 : decode cL_law 382 = .ok (.ifCond .eq 5, 3) := by decide +kernel
theorem dL_law_385 : decode cL_law 385 = .ok (.iconst 0, 1) := by decide +kernel
theorem dL_law_386 : decode cL_law 386 = .ok (.ireturn, 1) := by decide +kernel
theorem dL_law_387 : decode cL_law 387 = .ok (.goto 319, 3) := by decide +kernel
theorem dL_law_390 : decode cL_law 390 = .ok (.aload_n 1, 1) := by decide +kernel
theorem dL_law_391 : decode cL_law 391 = .ok (.aload_n 0, 1) := by decide +kernel
theorem dL_law_392 : decode cL_law 392 = .ok (.iload 4, 2) := by decide +kernel
theorem dL_law_394 : decode cL_law 394 = .ok (.iconst 1, 1) := by decide +kernel
theorem dL_law_395 : decode cL_law 395 = .ok (.iadd, 1) := by decide +kernel
theorem dL_law_396 : decode cL_law 396 = .ok (.iaload, 1) := by decide +kernel
theorem dL_law_397 : decode cL_law 397 = .ok (.aload_n 3, 1) := by decide +kernel
theorem dL_law_398 : decode cL_law 398 = .ok (.invokestatic 69, 3) := by decide +kernel
theorem dL_law_401 : decode cL_law 401 = .ok (.istore 5, 2) := by decide +kernel
theorem dL_law_403 : decode cL_law 403 = .ok (.aload_n 2, 1) := by decide +kernel
theorem dL_law_404 : decode cL_law 404 = .ok (.aload_n 0, 1) := by decide +kernel
theorem dL_law_405 : decode cL_law 405 = .ok (.iload 4, 2) := by decide +kernel
theorem dL_law_407 : decode cL_law 407 = .ok (.iconst 1, 1) := by decide +kernel
theorem dL_law_408 : decode cL_law 408 = .ok (.iadd, 1) := by decide +kernel
theorem dL_law_409 : decode cL_law 409 = .ok (.iaload, 1) := by decide +kernel
theorem dL_law_410 : decode cL_law 410 = .ok (.invokevirtual 72, 3) := by decide +kernel
theorem dL_law_413 : decode cL_law 413 = .ok (.istore 6, 2) := by decide +kernel
theorem dL_law_415 : decode cL_law 415 = .ok (.aload_n 2, 1) := by decide +kernel
theorem dL_law_416 : decode cL_law 416 = .ok (.invokevirtual 57, 3) := by decide +kernel
theorem dL_law_419 : decode cL_law 419 = .ok (.iload 5, 2) := by decide +kernel
theorem dL_law_421 : decode cL_law 421 = .ok (.if_icmp .eq 5, 3) := by decide +kernel
theorem dL_law_424 : decode cL_law 424 = .ok (.iconst 0, 1) := by decide +kernel
theorem dL_law_425 : decode cL_law 425 = .ok (.ireturn, 1) := by decide +kernel
theorem dL_law_426 : decode cL_law 426 = .ok (.iload 5, 2) := by decide +kernel
theorem dL_law_428 : decode cL_law 428 = .ok (.ifCond .ne 15, 3) := by decide +kernel
theorem dL_law_431 : decode cL_law 431 = .ok (.aload_n 3, 1) := by decide +kernel
theorem dL_law_432 : decode cL_law 432 = .ok (.iconst 0, 1) := by decide +kernel
theorem dL_law_433 : decode cL_law 433 = .ok (.laload, 1) := by decide +kernel
theorem dL_law_434 : decode cL_law 434 = .ok (.iload 6, 2) := by decide +kernel
theorem dL_law_436 : decode cL_law 436 = .ok (.i2l, 1) := by decide +kernel
theorem dL_law_437 : decode cL_law 437 = .ok (.lcmp, 1) := by decide +kernel
theorem dL_law_438 : decode cL_law 438 = .ok (.ifCond .eq 5, 3) := by decide +kernel
theorem dL_law_441 : decode cL_law 441 = .ok (.iconst 0, 1) := by decide +kernel
theorem dL_law_442 : decode cL_law 442 = .ok (.ireturn, 1) := by decide +kernel
theorem dL_law_443 : decode cL_law 443 = .ok (.goto 263, 3) := by decide +kernel
theorem dL_law_446 : decode cL_law 446 = .ok (.aload_n 1, 1) := by decide +kernel
theorem dL_law_447 : decode cL_law 447 = .ok (.aload_n 0, 1) := by decide +kernel
theorem dL_law_448 : decode cL_law 448 = .ok (.iload 4, 2) := by decide +kernel
theorem dL_law_450 : decode cL_law 450 = .ok (.iconst 1, 1) := by decide +kernel
theorem dL_law_451 : decode cL_law 451 = .ok (.iadd, 1) := by decide +kernel
theorem dL_law_452 : decode cL_law 452 = .ok (.iaload, 1) := by decide +kernel
theorem dL_law_453 : decode cL_law 453 = .ok (.aload_n 0, 1) := by decide +kernel
theorem dL_law_454 : decode cL_law 454 = .ok (.iload 4, 2) := by decide +kernel
theorem dL_law_456 : decode cL_law 456 = .ok (.iconst 2, 1) := by decide +kernel
theorem dL_law_457 : decode cL_law 457 = .ok (.iadd, 1) := by decide +kernel
theorem dL_law_458 : decode cL_law 458 = .ok (.iaload, 1) := by decide +kernel
theorem dL_law_459 : decode cL_law 459 = .ok (.aload_n 0, 1) := by decide +kernel
theorem dL_law_460 : decode cL_law 460 = .ok (.iload 4, 2) := by decide +kernel
theorem dL_law_462 : decode cL_law 462 = .ok (.iconst 3, 1) := by decide +kernel
theorem dL_law_463 : decode cL_law 463 = .ok (.iadd, 1) := by decide +kernel
theorem dL_law_464 : decode cL_law 464 = .ok (.iaload, 1) := by decide +kernel
theorem dL_law_465 : decode cL_law 465 = .ok (.aload_n 3, 1) := by decide +kernel
theorem dL_law_466 : decode cL_law 466 = .ok (.invokestatic 73, 3) := by decide +kernel
theorem dL_law_469 : decode cL_law 469 = .ok (.istore 5, 2) := by decide +kernel
theorem dL_law_471 : decode cL_law 471 = .ok (.aload_n 2, 1) := by decide +kernel
theorem dL_law_472 : decode cL_law 472 = .ok (.aload_n 0, 1) := by decide +kernel
theorem dL_law_473 : decode cL_law 473 = .ok (.iload 4, 2) := by decide +kernel
theorem dL_law_475 : decode cL_law 475 = .ok (.iconst 1, 1) := by decide +kernel
theorem dL_law_476 : decode cL_law 476 = .ok (.iadd, 1) := by decide +kernel
theorem dL_law_477 : decode cL_law 477 = .ok (.iaload, 1) := by decide +kernel
theorem dL_law_478 : decode cL_law 478 = .ok (.aload_n 0, 1) := by decide +kernel
theorem dL_law_479 : decode cL_law 479 = .ok (.iload 4, 2) := by decide +kernel
theorem dL_law_481 : decode cL_law 481 = .ok (.iconst 2, 1) := by decide +kernel
theorem dL_law_482 : decode cL_law 482 = .ok (.iadd, 1) := by decide +kernel
theorem dL_law_483 : decode cL_law 483 = .ok (.iaload, 1) := by decide +kernel
theorem dL_law_484 : decode cL_law 484 = .ok (.aload_n 0, 1) := by decide +kernel
theorem dL_law_485 : decode cL_law 485 = .ok (.iload 4, 2) := by decide +kernel
theorem dL_law_487 : decode cL_law 487 = .ok (.iconst 3, 1) := by decide +kernel
theorem dL_law_488 : decode cL_law 488 = .ok (.iadd, 1) := by decide +kernel
theorem dL_law_489 : decode cL_law 489 = .ok (.iaload, 1) := by decide +kernel
theorem dL_law_490 : decode cL_law 490 = .ok (.invokevirtual 76, 3) := by decide +kernel
theorem dL_law_493 : decode cL_law 493 = .ok (.istore 6, 2) := by decide +kernel
theorem dL_law_495 : decode cL_law 495 = .ok (.aload_n 2, 1) := by decide +kernel
theorem dL_law_496 : decode cL_law 496 = .ok (.invokevirtual 57, 3) := by decide +kernel
theorem dL_law_499 : decode cL_law 499 = .ok (.iload 5, 2) := by decide +kernel
theorem dL_law_501 : decode cL_law 501 = .ok (.if_icmp .eq 5, 3) := by decide +kernel
theorem dL_law_504 : decode cL_law 504 = .ok (.iconst 0, 1) := by decide +kernel
theorem dL_law_505 : decode cL_law 505 = .ok (.ireturn, 1) := by decide +kernel
theorem dL_law_506 : decode cL_law 506 = .ok (.iload 5, 2) := by decide +kernel
theorem dL_law_508 : decode cL_law 508 = .ok (.ifCond .ne 15, 3) := by decide +kernel
theorem dL_law_511 : decode cL_law 511 = .ok (.aload_n 3, 1) := by decide +kernel
theorem dL_law_512 : decode cL_law 512 = .ok (.iconst 0, 1) := by decide +kernel
theorem dL_law_513 : decode cL_law 513 = .ok (.laload, 1) := by decide +kernel
theorem dL_law_514 : decode cL_law 514 = .ok (.iload 6, 2) := by decide +kernel
theorem dL_law_516 : decode cL_law 516 = .ok (.i2l, 1) := by decide +kernel
theorem dL_law_517 : decode cL_law 517 = .ok (.lcmp, 1) := by decide +kernel
theorem dL_law_518 : decode cL_law 518 = .ok (.ifCond .eq 5, 3) := by decide +kernel
theorem dL_law_521 : decode cL_law 521 = .ok (.iconst 0, 1) := by decide +kernel
theorem dL_law_522 : decode cL_law 522 = .ok (.ireturn, 1) := by decide +kernel
theorem dL_law_523 : decode cL_law 523 = .ok (.goto 183, 3) := by decide +kernel
theorem dL_law_526 : decode cL_law 526 = .ok (.aload_n 1, 1) := by decide +kernel
theorem dL_law_527 : decode cL_law 527 = .ok (.aload_n 0, 1) := by decide +kernel
theorem dL_law_528 : decode cL_law 528 = .ok (.iload 4, 2) := by decide +kernel
theorem dL_law_530 : decode cL_law 530 = .ok (.iconst 1, 1) := by decide +kernel
theorem dL_law_531 : decode cL_law 531 = .ok (.iadd, 1) := by decide +kernel
theorem dL_law_532 : decode cL_law 532 = .ok (.iaload, 1) := by decide +kernel
theorem dL_law_533 : decode cL_law 533 = .ok (.aload_n 3, 1) := by decide +kernel
theorem dL_law_534 : decode cL_law 534 = .ok (.invokestatic 77, 3) := by decide +kernel
theorem dL_law_537 : decode cL_law 537 = .ok (.istore 5, 2) := by decide +kernel
theorem dL_law_539 : decode cL_law 539 = .ok (.aload_n 2, 1) := by decide +kernel
theorem dL_law_540 : decode cL_law 540 = .ok (.aload_n 0, 1) := by decide +kernel
theorem dL_law_541 : decode cL_law 541 = .ok (.iload 4, 2) := by decide +kernel
theorem dL_law_543 : decode cL_law 543 = .ok (.iconst 1, 1) := by decide +kernel
theorem dL_law_544 : decode cL_law 544 = .ok (.iadd, 1) := by decide +kernel
theorem dL_law_545 : decode cL_law 545 = .ok (.iaload, 1) := by decide +kernel
theorem dL_law_546 : decode cL_law 546 = .ok (.invokevirtual 79, 3) := by decide +kernel
theorem dL_law_549 : decode cL_law 549 = .ok (.istore 6, 2) := by decide +kernel
theorem dL_law_551 : decode cL_law 551 = .ok (.aload_n 2, 1) := by decide +kernel
theorem dL_law_552 : decode cL_law 552 = .ok (.invokevirtual 57, 3) := by decide +kernel
theorem dL_law_555 : decode cL_law 555 = .ok (.iload 5, 2) := by decide +kernel
theorem dL_law_557 : decode cL_law 557 = .ok (.if_icmp .eq 5, 3) := by decide +kernel
theorem dL_law_560 : decode cL_law 560 = .ok (.iconst 0, 1) := by decide +kernel
theorem dL_law_561 : decode cL_law 561 = .ok (.ireturn, 1) := by decide +kernel
theorem dL_law_562 : decode cL_law 562 = .ok (.iload 5, 2) := by decide +kernel
theorem dL_law_564 : decode cL_law 564 = .ok (.ifCond .ne 15, 3) := by decide +kernel
theorem dL_law_567 : decode cL_law 567 = .ok (.aload_n 3, 1) := by decide +kernel
theorem dL_law_568 : decode cL_law 568 = .ok (.iconst 0, 1) := by decide +kernel
theorem dL_law_569 : decode cL_law 569 = .ok (.laload, 1) := by decide +kernel
theorem dL_law_570 : decode cL_law 570 = .ok (.iload 6, 2) := by decide +kernel
theorem dL_law_572 : decode cL_law 572 = .ok (.i2l, 1) := by decide +kernel
theorem dL_law_573 : decode cL_law 573 = .ok (.lcmp, 1) := by decide +kernel
theorem dL_law_574 : decode cL_law 574 = .ok (.ifCond .eq 5, 3) := by decide +kernel
theorem dL_law_577 : decode cL_law 577 = .ok (.iconst 0, 1) := by decide +kernel
theorem dL_law_578 : decode cL_law 578 = .ok (.ireturn, 1) := by decide +kernel
theorem dL_law_579 : decode cL_law 579 = .ok (.goto 127, 3) := by decide +kernel
theorem dL_law_582 : decode cL_law 582 = .ok (.aload_n 1, 1) := by decide +kernel
theorem dL_law_583 : decode cL_law 583 = .ok (.aload_n 0, 1) := by decide +kernel
theorem dL_law_584 : decode cL_law 584 = .ok (.iload 4, 2) := by decide +kernel
theorem dL_law_586 : decode cL_law 586 = .ok (.iconst 1, 1) := by decide +kernel
theorem dL_law_587 : decode cL_law 587 = .ok (.iadd, 1) := by decide +kernel
theorem dL_law_588 : decode cL_law 588 = .ok (.iaload, 1) := by decide +kernel
theorem dL_law_589 : decode cL_law 589 = .ok (.aload_n 0, 1) := by decide +kernel
theorem dL_law_590 : decode cL_law 590 = .ok (.iload 4, 2) := by decide +kernel
theorem dL_law_592 : decode cL_law 592 = .ok (.iconst 2, 1) := by decide +kernel
theorem dL_law_593 : decode cL_law 593 = .ok (.iadd, 1) := by decide +kernel
theorem dL_law_594 : decode cL_law 594 = .ok (.iaload, 1) := by decide +kernel
theorem dL_law_595 : decode cL_law 595 = .ok (.aload_n 3, 1) := by decide +kernel
theorem dL_law_596 : decode cL_law 596 = .ok (.invokestatic 80, 3) := by decide +kernel
theorem dL_law_599 : decode cL_law 599 = .ok (.istore 5, 2) := by decide +kernel
theorem dL_law_601 : decode cL_law 601 = .ok (.aload_n 2, 1) := by decide +kernel
theorem dL_law_602 : decode cL_law 602 = .ok (.aload_n 0, 1) := by decide +kernel
theorem dL_law_603 : decode cL_law 603 = .ok (.iload 4, 2) := by decide +kernel
theorem dL_law_605 : decode cL_law 605 = .ok (.iconst 1, 1) := by decide +kernel
theorem dL_law_606 : decode cL_law 606 = .ok (.iadd, 1) := by decide +kernel
theorem dL_law_607 : decode cL_law 607 = .ok (.iaload, 1) := by decide +kernel
theorem dL_law_608 : decode cL_law 608 = .ok (.aload_n 0, 1) := by decide +kernel
theorem dL_law_609 : decode cL_law 609 = .ok (.iload 4, 2) := by decide +kernel
theorem dL_law_611 : decode cL_law 611 = .ok (.iconst 2, 1) := by decide +kernel
theorem dL_law_612 : decode cL_law 612 = .ok (.iadd, 1) := by decide +kernel
theorem dL_law_613 : decode cL_law 613 = .ok (.iaload, 1) := by decide +kernel
theorem dL_law_614 : decode cL_law 614 = .ok (.invokevirtual 83, 3) := by decide +kernel
theorem dL_law_617 : decode cL_law 617 = .ok (.istore 6, 2) := by decide +kernel
theorem dL_law_619 : decode cL_law 619 = .ok (.aload_n 2, 1) := by decide +kernel
theorem dL_law_620 : decode cL_law 620 = .ok (.invokevirtual 57, 3) := by decide +kernel
theorem dL_law_623 : decode cL_law 623 = .ok (.iload 5, 2) := by decide +kernel
theorem dL_law_625 : decode cL_law 625 = .ok (.if_icmp .eq 5, 3) := by decide +kernel
theorem dL_law_628 : decode cL_law 628 = .ok (.iconst 0, 1) := by decide +kernel
theorem dL_law_629 : decode cL_law 629 = .ok (.ireturn, 1) := by decide +kernel
theorem dL_law_630 : decode cL_law 630 = .ok (.iload 5, 2) := by decide +kernel
theorem dL_law_632 : decode cL_law 632 = .ok (.ifCond .ne 15, 3) := by decide +kernel
theorem dL_law_635 : decode cL_law 635 = .ok (.aload_n 3, 1) := by decide +kernel
theorem dL_law_636 : decode cL_law 636 = .ok (.iconst 0, 1) := by decide +kernel
theorem dL_law_637 : decode cL_law 637 = .ok (.laload, 1) := by decide +kernel
theorem dL_law_638 : decode cL_law 638 = .ok (.iload 6, 2) := by decide +kernel
theorem dL_law_640 : decode cL_law 640 = .ok (.i2l, 1) := by decide +kernel
theorem dL_law_641 : decode cL_law 641 = .ok (.lcmp, 1) := by decide +kernel
theorem dL_law_642 : decode cL_law 642 = .ok (.ifCond .eq 5, 3) := by decide +kernel
theorem dL_law_645 : decode cL_law 645 = .ok (.iconst 0, 1) := by decide +kernel
theorem dL_law_646 : decode cL_law 646 = .ok (.ireturn, 1) := by decide +kernel
theorem dL_law_647 : decode cL_law 647 = .ok (.goto 59, 3) := by decide +kernel
theorem dL_law_650 : decode cL_law 650 = .ok (.aload_n 1, 1) := by decide +kernel
theorem dL_law_651 : decode cL_law 651 = .ok (.aload_n 0, 1) := by decide +kernel
theorem dL_law_652 : decode cL_law 652 = .ok (.iload 4, 2) := by decide +kernel
theorem dL_law_654 : decode cL_law 654 = .ok (.iconst 1, 1) := by decide +kernel
theorem dL_law_655 : decode cL_law 655 = .ok (.iadd, 1) := by decide +kernel
theorem dL_law_656 : decode cL_law 656 = .ok (.iaload, 1) := by decide +kernel
theorem dL_law_657 : decode cL_law 657 = .ok (.aload_n 3, 1) := by decide +kernel
theorem dL_law_658 : decode cL_law 658 = .ok (.invokestatic 84, 3) := by decide +kernel
theorem dL_law_661 : decode cL_law 661 = .ok (.istore 5, 2) := by decide +kernel
theorem dL_law_663 : decode cL_law 663 = .ok (.aload_n 2, 1) := by decide +kernel
theorem dL_law_664 : decode cL_law 664 = .ok (.aload_n 0, 1) := by decide +kernel
theorem dL_law_665 : decode cL_law 665 = .ok (.iload 4, 2) := by decide +kernel
theorem dL_law_667 : decode cL_law 667 = .ok (.iconst 1, 1) := by decide +kernel
theorem dL_law_668 : decode cL_law 668 = .ok (.iadd, 1) := by decide +kernel
theorem dL_law_669 : decode cL_law 669 = .ok (.iaload, 1) := by decide +kernel
theorem dL_law_670 : decode cL_law 670 = .ok (.invokevirtual 86, 3) := by decide +kernel
theorem dL_law_673 : decode cL_law 673 = .ok (.istore 6, 2) := by decide +kernel
theorem dL_law_675 : decode cL_law 675 = .ok (.aload_n 2, 1) := by decide +kernel
theorem dL_law_676 : decode cL_law 676 = .ok (.invokevirtual 57, 3) := by decide +kernel
theorem dL_law_679 : decode cL_law 679 = .ok (.iload 5, 2) := by decide +kernel
theorem dL_law_681 : decode cL_law 681 = .ok (.if_icmp .eq 5, 3) := by decide +kernel
theorem dL_law_684 : decode cL_law 684 = .ok (.iconst 0, 1) := by decide +kernel
theorem dL_law_685 : decode cL_law 685 = .ok (.ireturn, 1) := by decide +kernel
theorem dL_law_686 : decode cL_law 686 = .ok (.iload 5, 2) := by decide +kernel
theorem dL_law_688 : decode cL_law 688 = .ok (.ifCond .ne 15, 3) := by decide +kernel
theorem dL_law_691 : decode cL_law 691 = .ok (.aload_n 3, 1) := by decide +kernel
theorem dL_law_692 : decode cL_law 692 = .ok (.iconst 0, 1) := by decide +kernel
theorem dL_law_693 : decode cL_law 693 = .ok (.laload, 1) := by decide +kernel
theorem dL_law_694 : decode cL_law 694 = .ok (.iload 6, 2) := by decide +kernel
theorem dL_law_696 : decode cL_law 696 = .ok (.i2l, 1) := by decide +kernel
theorem dL_law_697 : decode cL_law 697 = .ok (.lcmp, 1) := by decide +kernel
theorem dL_law_698 : decode cL_law 698 = .ok (.ifCond .eq 5, 3) := by decide +kernel
theorem dL_law_701 : decode cL_law 701 = .ok (.iconst 0, 1) := by decide +kernel
theorem dL_law_702 : decode cL_law 702 = .ok (.ireturn, 1) := by decide +kernel
theorem dL_law_703 : decode cL_law 703 = .ok (.goto 3, 3) := by decide +kernel
theorem dL_law_706 : decode cL_law 706 = .ok (.iinc 4 8, 3) := by decide +kernel
theorem dL_law_709 : decode cL_law 709 = .ok (.goto (-686), 3) := by decide +kernel
theorem dL_law_712 : decode cL_law 712 = .ok (.iconst 1, 1) := by decide +kernel
theorem dL_law_713 : decode cL_law 713 = .ok (.ireturn, 1) := by decide +kernel
end
section
section SqRows
variable {p : Program} {l : Launch} {e : Env} {R : Room} {s : State} {m : MethodId} {args : Array Value} {below : List Frame} {meth : Method} {c : Code} {H : Heap} {locs : List Loc} {cells slots : Nat} {Q : State → Prop} {cc : ByteArray} {pc : Nat} {ls : Array Slot} {rest : List Value}
/-- the top of the stack by another word for it -/
theorem sq_top {x y : Int32} (h : x = y) (k : W p l e R s m args below meth c H locs cells slots Q (F0 m pc ls (.int y :: rest))) : W p l e R s m args below meth c H locs cells slots Q (F0 m pc ls (.int x :: rest)) := by
  rw [h]; exact k
theorem sq_iadd (hx : p.tables.exec = Jvm.exec) (hb : c.code = cc) {a b : Nat} (hd : decode cc pc = .ok (.iadd, 1)) (k : W p l e R s m args below meth c H locs cells slots Q (F0 m (pc + 1) ls (.int (nI (a + b)) :: rest))) : W p l e R s m args below meth c H locs cells slots Q (F0 m pc ls (.int (nI b) :: .int (nI a) :: rest)) :=
  lv_iadd hx hb hd (by rw [nI_add]; exact k)
theorem sq_isub (hx : p.tables.exec = Jvm.exec) (hb : c.code = cc) {a b : Nat} (h : b ≤ a) (hd : decode cc pc = .ok (.isub, 1)) (k : W p l e R s m args below meth c H locs cells slots Q (F0 m (pc + 1) ls (.int (nI (a - b)) :: rest))) : W p l e R s m args below meth c H locs cells slots Q (F0 m pc ls (.int (nI b) :: .int (nI a) :: rest)) :=
  lv_isub hx hb hd (by rw [pk_sub h]; exact k)
theorem sq_imul (hx : p.tables.exec = Jvm.exec) (hb : c.code = cc) {a b : Nat} (hd : decode cc pc = .ok (.imul, 1)) (k : W p l e R s m args below meth c H locs cells slots Q (F0 m (pc + 1) ls (.int (nI (a * b)) :: rest))) : W p l e R s m args below meth c H locs cells slots Q (F0 m pc ls (.int (nI b) :: .int (nI a) :: rest)) :=
  lv_imul hx hb hd (by rw [pk_mul]; exact k)
theorem sq_icmp_ge (hx : p.tables.exec = Jvm.exec) (hb : c.code = cc) {a b : Nat} {off : Int} {tgt : Nat} (ha : a < 2 ^ 31) (hbb : b < 2 ^ 31) (hd : decode cc pc = .ok (.if_icmp .ge off, 3)) (ht : (pc : Int) + off = (tgt : Int))
    (kt : b ≤ a → W p l e R s m args below meth c H locs cells slots Q (F0 m tgt ls rest)) (kf : a < b → W p l e R s m args below meth c H locs cells slots Q (F0 m (pc + 3) ls rest)) : W p l e R s m args below meth c H locs cells slots Q (F0 m pc ls (.int (nI b) :: .int (nI a) :: rest)) :=
  lv_icmp_ge hx hb hd ht (fun h => kt ((nI_leI hbb ha).mp h)) (fun h => kf (Nat.lt_of_not_le (fun h2 => h ((nI_leI hbb ha).mpr h2))))
theorem sq_icmp_lt (hx : p.tables.exec = Jvm.exec) (hb : c.code = cc) {a b : Nat} {off : Int} {tgt : Nat} (ha : a < 2 ^ 31) (hbb : b < 2 ^ 31) (hd : decode cc pc = .ok (.if_icmp .lt off, 3)) (ht : (pc : Int) + off = (tgt : Int))
    (kt : a < b → W p l e R s m args below meth c H locs cells slots Q (F0 m tgt ls rest)) (kf : b ≤ a → W p l e R s m args below meth c H locs cells slots Q (F0 m (pc + 3) ls rest)) : W p l e R s m args below meth c H locs cells slots Q (F0 m pc ls (.int (nI b) :: .int (nI a) :: rest)) :=
  lv_icmp_lt hx hb hd ht (fun h => kt ((nI_ltI ha hbb).mp h)) (fun h => kf (Nat.le_of_not_lt (fun h2 => h ((nI_ltI ha hbb).mpr h2))))
theorem sq_icmp_le (hx : p.tables.exec = Jvm.exec) (hb : c.code = cc) {a b : Nat} {off : Int} {tgt : Nat} (ha : a < 2 ^ 31) (hbb : b < 2 ^ 31) (hd : decode cc pc = .ok (.if_icmp .le off, 3)) (ht : (pc : Int) + off = (tgt : Int))
    (kt : a ≤ b → W p l e R s m args below meth c H locs cells slots Q (F0 m tgt ls rest)) (kf : b < a → W p l e R s m args below meth c H locs cells slots Q (F0 m (pc + 3) ls rest)) : W p l e R s m args below meth c H locs cells slots Q (F0 m pc ls (.int (nI b) :: .int (nI a) :: rest)) :=
  lv_icmp_le hx hb hd ht (fun h => kt ((nI_leI ha hbb).mp h)) (fun h => kf (Nat.lt_of_not_le (fun h2 => h ((nI_leI ha hbb).mpr h2))))
theorem sq_icmp_gt (hx : p.tables.exec = Jvm.exec) (hb : c.code = cc) {a b : Nat} {off : Int} {tgt : Nat} (ha : a < 2 ^ 31) (hbb : b < 2 ^ 31) (hd : decode cc pc = .ok (.if_icmp .gt off, 3)) (ht : (pc : Int) + off = (tgt : Int))
    (kt : b < a → W p l e R s m args below meth c H locs cells slots Q (F0 m tgt ls rest)) (kf : a ≤ b → W p l e R s m args below meth c H locs cells slots Q (F0 m (pc + 3) ls rest)) : W p l e R s m args below meth c H locs cells slots Q (F0 m pc ls (.int (nI b) :: .int (nI a) :: rest)) :=
  lv_icmp_gt hx hb hd ht (fun h => kt ((nI_ltI hbb ha).mp h)) (fun h => kf (Nat.le_of_not_lt (fun h2 => h ((nI_ltI hbb ha).mpr h2))))
theorem sq_icmp_eq (hx : p.tables.exec = Jvm.exec) (hb : c.code = cc) {a b : Nat} {off : Int} {tgt : Nat} (ha : a < 2 ^ 31) (hbb : b < 2 ^ 31) (hd : decode cc pc = .ok (.if_icmp .eq off, 3)) (ht : (pc : Int) + off = (tgt : Int))
    (kt : a = b → W p l e R s m args below meth c H locs cells slots Q (F0 m tgt ls rest)) (kf : ¬ a = b → W p l e R s m args below meth c H locs cells slots Q (F0 m (pc + 3) ls rest)) : W p l e R s m args below meth c H locs cells slots Q (F0 m pc ls (.int (nI b) :: .int (nI a) :: rest)) :=
  lv_icmp_eq hx hb hd ht (fun h => kt ((nI_eq ha hbb).mp h)) (fun h => kf (fun h2 => h ((nI_eq ha hbb).mpr h2)))
theorem sq_icmp_ne (hx : p.tables.exec = Jvm.exec) (hb : c.code = cc) {a b : Nat} {off : Int} {tgt : Nat} (ha : a < 2 ^ 31) (hbb : b < 2 ^ 31) (hd : decode cc pc = .ok (.if_icmp .ne off, 3)) (ht : (pc : Int) + off = (tgt : Int))
    (kt : ¬ a = b → W p l e R s m args below meth c H locs cells slots Q (F0 m tgt ls rest)) (kf : a = b → W p l e R s m args below meth c H locs cells slots Q (F0 m (pc + 3) ls rest)) : W p l e R s m args below meth c H locs cells slots Q (F0 m pc ls (.int (nI b) :: .int (nI a) :: rest)) :=
  lv_icmp_ne hx hb hd ht (fun h => kt (fun h2 => h ((nI_eq ha hbb).mpr h2))) (fun h => kf ((nI_eq ha hbb).mp h))
theorem sq_nI_eq0 {a : Nat} (ha : a < 2 ^ 31) : nI a = 0 ↔ a = 0 := by
  rw [← nI_0]; exact nI_eq ha (by omega)
theorem sq_if_eq (hx : p.tables.exec = Jvm.exec) (hb : c.code = cc) {a : Nat} {off : Int} {tgt : Nat} (ha : a < 2 ^ 31) (hd : decode cc pc = .ok (.ifCond .eq off, 3)) (ht : (pc : Int) + off = (tgt : Int))
    (kt : a = 0 → W p l e R s m args below meth c H locs cells slots Q (F0 m tgt ls rest)) (kf : ¬ a = 0 → W p l e R s m args below meth c H locs cells slots Q (F0 m (pc + 3) ls rest)) : W p l e R s m args below meth c H locs cells slots Q (F0 m pc ls (.int (nI a) :: rest)) :=
  lv_if_eq hx hb hd ht (fun h => kt ((sq_nI_eq0 ha).mp h)) (fun h => kf (fun h2 => h ((sq_nI_eq0 ha).mpr h2)))
theorem sq_if_ne (hx : p.tables.exec = Jvm.exec) (hb : c.code = cc) {a : Nat} {off : Int} {tgt : Nat} (ha : a < 2 ^ 31) (hd : decode cc pc = .ok (.ifCond .ne off, 3)) (ht : (pc : Int) + off = (tgt : Int))
    (kt : ¬ a = 0 → W p l e R s m args below meth c H locs cells slots Q (F0 m tgt ls rest)) (kf : a = 0 → W p l e R s m args below meth c H locs cells slots Q (F0 m (pc + 3) ls rest)) : W p l e R s m args below meth c H locs cells slots Q (F0 m pc ls (.int (nI a) :: rest)) :=
  lv_if_ne hx hb hd ht (fun h => kt (fun h2 => h ((sq_nI_eq0 ha).mpr h2))) (fun h => kf ((sq_nI_eq0 ha).mp h))
theorem sq_if_le (hx : p.tables.exec = Jvm.exec) (hb : c.code = cc) {a : Nat} {off : Int} {tgt : Nat} (ha : a < 2 ^ 31) (hd : decode cc pc = .ok (.ifCond .le off, 3)) (ht : (pc : Int) + off = (tgt : Int))
    (kt : a = 0 → W p l e R s m args below meth c H locs cells slots Q (F0 m tgt ls rest)) (kf : 0 < a → W p l e R s m args below meth c H locs cells slots Q (F0 m (pc + 3) ls rest)) : W p l e R s m args below meth c H locs cells slots Q (F0 m pc ls (.int (nI a) :: rest)) :=
  lv_if_le hx hb hd ht (fun h => kt (by
      rw [← nI_0] at h
      have := (nI_leI ha (by omega)).mp h
      omega)) (fun h => kf (by
      rw [← nI_0] at h
      rcases Nat.eq_zero_or_pos a with q | q
      · exact absurd (by rw [q]; exact (nI_leI (by omega) (by omega)).mpr (Nat.le_refl 0)) h
      · exact q))
/-- a sign test of what isn't below 0 -/
theorem sq_if_lt (hx : p.tables.exec = Jvm.exec) (hb : c.code = cc) {a : Nat} {off : Int} {tgt : Nat} (ha : a < 2 ^ 31) (hd : decode cc pc = .ok (.ifCond .lt off, 3)) (ht : (pc : Int) + off = (tgt : Int))
    (kf : W p l e R s m args below meth c H locs cells slots Q (F0 m (pc + 3) ls rest)) : W p l e R s m args below meth c H locs cells slots Q (F0 m pc ls (.int (nI a) :: rest)) :=
  lv_if_lt hx hb hd ht (fun h => absurd h (nI_pos ha)) (fun _ => kf)
theorem sq_if_m1 (hx : p.tables.exec = Jvm.exec) (hb : c.code = cc) {off : Int} {tgt : Nat} (hd : decode cc pc = .ok (.ifCond .lt off, 3)) (ht : (pc : Int) + off = (tgt : Int))
    (kt : W p l e R s m args below meth c H locs cells slots Q (F0 m tgt ls rest)) : W p l e R s m args below meth c H locs cells slots Q (F0 m pc ls (.int (-1) :: rest)) :=
  lv_if_lt hx hb hd ht (fun _ => kt) (fun h => absurd (by decide) h)
variable {D : va_G} {cl : List vw_C} {ws : va_W} {tys : List (ClassId × FieldType)} {A : Nat → Prop} {H0 : Heap} {a : Nat}
theorem sq_iald (hx : p.tables.exec = Jvm.exec) (hb : c.code = cc) (hK : va_K D cl tys s) (hP : va_P D cl ws H) (q0 t0 : Nat) {cA : ClassId} {n : Nat} {f : Nat → Int32} (ha : ws[q0]? = some (a, .inl (cA, n, .inl f))) (ht : tys[t0]? = some (cA, .int)) {i : Nat} (hi : i < n) (hn : n < 2 ^ 31) (hd : decode cc pc = .ok (.iaload, 1))
    (kk : W p l e R s m args below meth c H locs cells slots Q (F0 m (pc + 1) ls (.int (f i) :: rest))) : W p l e R s m args below meth c H locs cells slots Q (F0 m pc ls (.int (nI i) :: .ref a :: rest)) :=
  va_iald hx hb hK hP q0 t0 ha ht (vp_in_nI hi hn) hd (by rw [nI_clamp (by omega)]; exact kk)
theorem sq_zald (hx : p.tables.exec = Jvm.exec) (hb : c.code = cc) (hK : va_K D cl tys s) (hP : va_P D cl ws H) (q0 t0 : Nat) {cA : ClassId} {n : Nat} {f : Nat → Int32} (ha : ws[q0]? = some (a, .inl (cA, n, .inl f))) (ht : tys[t0]? = some (cA, .boolean)) {i : Nat} (hi : i < n) (hn : n < 2 ^ 31) (hd : decode cc pc = .ok (.baload, 1))
    (kk : W p l e R s m args below meth c H locs cells slots Q (F0 m (pc + 1) ls (.int (f i) :: rest))) : W p l e R s m args below meth c H locs cells slots Q (F0 m pc ls (.int (nI i) :: .ref a :: rest)) :=
  va_zald hx hb hK hP q0 t0 ha ht (vp_in_nI hi hn) hd (by rw [nI_clamp (by omega)]; exact kk)
theorem sq_iast (hx : p.tables.exec = Jvm.exec) (hb : c.code = cc) (hK : va_K D cl tys s) (hP : va_P D cl ws H) (hD : va_D A ws) (hS : va_S A H0 H locs) (q0 t0 : Nat) {cA : ClassId} {n : Nat} {f : Nat → Int32} (ha : ws[q0]? = some (a, .inl (cA, n, .inl f))) (ht : tys[t0]? = some (cA, .int)) {i : Nat} {x : Int32} (hi : i < n) (hn : n < 2 ^ 31) (hd : decode cc pc = .ok (.iastore, 1))
    (kk : ∀ (H1 : Heap) (locs1 : List Loc), va_P D cl (ws.set q0 (a, .inl (cA, n, .inl (upd f i x)))) H1 → va_D A (ws.set q0 (a, .inl (cA, n, .inl (upd f i x)))) → va_S A H0 H1 locs1 → W p l e R s m args below meth c H1 locs1 cells slots Q (F0 m (pc + 1) ls rest)) : W p l e R s m args below meth c H locs cells slots Q (F0 m pc ls (.int x :: .int (nI i) :: .ref a :: rest)) :=
  va_iast hx hb hK hP hD hS q0 t0 ha ht (vp_in_nI hi hn) hd (by rw [nI_clamp (by omega)]; exact kk)
theorem sq_zast (hx : p.tables.exec = Jvm.exec) (hb : c.code = cc) (hK : va_K D cl tys s) (hP : va_P D cl ws H) (hD : va_D A ws) (hS : va_S A H0 H locs) (q0 t0 : Nat) {cA : ClassId} {n : Nat} {f : Nat → Int32} (ha : ws[q0]? = some (a, .inl (cA, n, .inl f))) (ht : tys[t0]? = some (cA, .boolean)) {i : Nat} {x : Int32} (hi : i < n) (hn : n < 2 ^ 31) (hv : vp_nar .boolean x = x) (hd : decode cc pc = .ok (.bastore, 1))
    (kk : ∀ (H1 : Heap) (locs1 : List Loc), va_P D cl (ws.set q0 (a, .inl (cA, n, .inl (upd f i x)))) H1 → va_D A (ws.set q0 (a, .inl (cA, n, .inl (upd f i x)))) → va_S A H0 H1 locs1 → W p l e R s m args below meth c H1 locs1 cells slots Q (F0 m (pc + 1) ls rest)) : W p l e R s m args below meth c H locs cells slots Q (F0 m pc ls (.int x :: .int (nI i) :: .ref a :: rest)) :=
  va_zast hx hb hK hP hD hS q0 t0 ha ht (vp_in_nI hi hn) hd (by rw [nI_clamp (by omega), hv]; exact kk)
end SqRows
theorem sq_inc (a : Nat) : nI a + Int32.ofInt 1 = nI (a + 1) := by
  rw [show Int32.ofInt 1 = 1 from by decide]; exact nI_1 a
theorem sq_dec (a : Nat) : nI (a + 1) + Int32.ofInt (-1) = nI a := by
  rw [show Int32.ofInt (-1) = -1 from by decide]; exact pk_m1 a
/-- what is read of a boolean -/
def sq_b (b : Bool) : Int32 := if b = true then 1 else 0
theorem sq_b_t : sq_b true = 1 := rfl
theorem sq_b_f : sq_b false = 0 := rfl
theorem sq_b0 {b : Bool} : sq_b b = 0 ↔ b = false := by cases b <;> decide
theorem sq_bn0 {b : Bool} : ¬ sq_b b = 0 ↔ b = true := by cases b <;> decide
theorem sq_bT {P : Prop} {h : Decidable P} (q : P) : nI 1 = sq_b (decide P) := by
  rw [decide_eq_true q]; rfl
theorem sq_bF {P : Prop} {h : Decidable P} (q : ¬ P) : nI 0 = sq_b (decide P) := by
  rw [decide_eq_false q]; rfl
theorem sq_b0d {P : Prop} {h : Decidable P} (q : sq_b (decide P) = 0) : ¬ P := of_decide_eq_false (sq_b0.mp q)
theorem sq_bnd {P : Prop} {h : Decidable P} (q : ¬ sq_b (decide P) = 0) : P := of_decide_eq_true (sq_bn0.mp q)
theorem sq_b_nar (b : Bool) : vp_nar .boolean (sq_b b) = sq_b b := by cases b <;> decide
theorem sq_b_narrow (b : Bool) : narrow .boolean (.int (sq_b b)) = .int (sq_b b) := by cases b <;> decide
section SqCalls
theorem sq_allC (ws : va_W) : (List.range ws.length).map (fun i => ws[i]?) = ws.map some := by
  refine List.ext_getElem (by simp) (fun i h1 h2 => ?_)
  simp only [List.getElem_map, List.getElem_range]
  exact List.getElem?_eq_getElem _
/-- a method's start and end: its world -/
def sq_U (D : va_G) (cl : List vw_C) (ws : va_W) (tys : List (ClassId × FieldType)) (sz : Nat) : State → Prop := fun U => U.heap.size = sz ∧ va_P D cl ws U.heap ∧ va_K D cl tys U ∧ va_D (fun _ => True) ws
def sq_B (D : va_G) (cl : List vw_C) (w' : va_W) (tys : List (ClassId × FieldType)) (A : Nat → Prop) : State → Prop := fun t => va_P D cl w' t.heap ∧ va_K D cl tys t ∧ va_D A w'
theorem sq_blind {D : va_G} {cl : List vw_C} {ws : va_W} {tys : List (ClassId × FieldType)} {sz : Nat} {av : List Value} : FrameBlind (va_Pc av (sq_U D cl ws tys sz)) := fun a U g mk q => by
  obtain ⟨q0, q1, qP, qK, qD⟩ := q
  exact ⟨q0, q1, qP, va_K.moved (u := U) (U := U.calling g mk a) (Vm.Alike.refl U.vm) qK, qD⟩
/-- the contract of a method that keeps its cells where they are: void, and int -/
def sq_Mv (l : Launch) (y : MethodName) (wsy : List Cond) (rm : Room) (av : List Value) (D : va_G) (cl : List vw_C) (tys : List (ClassId × FieldType)) (ws w' : va_W) : Prop :=
  ∀ sz : Nat, Met l y wsy rm (va_Pc av (sq_U D cl ws tys sz)) (va_Qv (fun _ : Unit => True) (fun _ => sq_B D cl w' tys (va_A ws sz)) (va_A ws sz)) 0 0 (va_A ws sz)
def sq_Mi (l : Launch) (y : MethodName) (wsy : List Cond) (rm : Room) (av : List Value) (D : va_G) (cl : List vw_C) (tys : List (ClassId × FieldType)) (ws w' : va_W) (r : Int32) : Prop :=
  ∀ sz : Nat, Met l y wsy rm (va_Pc av (sq_U D cl ws tys sz)) (va_Qi (fun x (_ : Unit) => x = r) (fun _ => sq_B D cl w' tys (va_A ws sz)) (va_A ws sz)) 0 0 (va_A ws sz)
theorem sq_vret {p : Program} {l : Launch} {e : Env} {R : Room} {s : State} {m : MethodId} {args : Array Value} {below : List Frame} {meth : Method} {c : Code} {H : Heap} {locs : List Loc} {cells slots : Nat} {cc : ByteArray} {pc : Nat} {ls : Array Slot} {D : va_G} {cl : List vw_C} {w' : va_W} {tys : List (ClassId × FieldType)} {A : Nat → Prop} (hx : p.tables.exec = Jvm.exec) (hb : c.code = cc) (hr : meth.sig.returnType = none) (hlocks : meth.locks = false) (hK : va_K D cl tys s) (hP : va_P D cl w' H) (hD : va_D A w') (hS : va_S A s.heap H locs) (hd : decode cc pc = .ok (.return_, 1)) :
    W p l e R s m args below meth c H locs cells slots (MQ below (va_Qv (fun _ : Unit => True) (fun _ => sq_B D cl w' tys A) A) args s cells slots A) (F0 m pc ls []) :=
  W.vret hx hb hr (fun t ht hW => ⟨⟨(), rfl, trivial, by rw [ht]; exact hP, va_K.moved hW.alike hK, hD⟩, hS.F ht⟩) hS.2.2 hd hlocks
theorem sq_zret {p : Program} {l : Launch} {e : Env} {R : Room} {s : State} {m : MethodId} {args : Array Value} {below : List Frame} {meth : Method} {c : Code} {H : Heap} {locs : List Loc} {cells slots : Nat} {cc : ByteArray} {pc : Nat} {ls : Array Slot} {D : va_G} {cl : List vw_C} {w' : va_W} {tys : List (ClassId × FieldType)} {A : Nat → Prop} {r x : Int32} {ty : FieldType} (hx : p.tables.exec = Jvm.exec) (hb : c.code = cc) (hr : meth.sig.returnType = some ty) (hlocks : meth.locks = false) (hn : narrow ty (.int r) = .int r) (hK : va_K D cl tys s) (hP : va_P D cl w' H) (hD : va_D A w') (hS : va_S A s.heap H locs) (hv : x = r) (hd : decode cc pc = .ok (.ireturn, 1)) :
    W p l e R s m args below meth c H locs cells slots (MQ below (va_Qi (fun x (_ : Unit) => x = r) (fun _ => sq_B D cl w' tys A) A) args s cells slots A) (F0 m pc ls [.int x]) := by
  subst hv
  exact W.zret hx hb hr hn (fun t ht hW => ⟨⟨x, (), rfl, rfl, by rw [ht]; exact hP, va_K.moved hW.alike hK, hD⟩, hS.F ht⟩) hS.2.2 hd hlocks
theorem sq_ofWv {l : Launch} {y : MethodName} {wsy wsy' : List Cond} {rm : Room} {av : List Value} {D : va_G} {cl : List vw_C} {tys : List (ClassId × FieldType)} {ws w' : va_W} {cc : ByteArray} {maxL : Nat} (hy : plainName y.cls = true) (hw : wsy = Cond.code y cc maxL none :: wsy') (hlen : (lg_sl av).length ≤ maxL)
    (body : ∀ (p : Program) (e : Env) (s : State) (m : MethodId) (args : Array Value) (below : List Frame) (meth : Method) (c : Code) (A : Nat → Prop) (ls : Array Slot) (Q : State → Prop), p.tables.exec = Jvm.exec → c.code = cc → (∀ w ∈ wsy, w.before args s = true) → s.vm.findClass y.cls = some m.cls → c.maxLocals = maxL → va_K D cl tys s → va_P D cl ws s.heap → va_D A ws → va_S A s.heap s.heap [] → (∀ q : Nat, s.heap.size ≤ q → A q) → lv_has ls maxL (lv_args 0 av) →
      (∀ (H : Heap) (locs : List Loc) (ls : Array Slot) (pc : Nat), va_P D cl w' H → va_D A w' → va_S A s.heap H locs → decode cc pc = .ok (.return_, 1) → W p l e rm s m args below meth c H locs 0 0 Q (F0 m pc ls [])) →
      W p l e rm s m args below meth c s.heap [] 0 0 Q (F0 m 0 ls [])) : sq_Mv l y wsy rm av D cl tys ws w' := by
  intro sz
  refine Met.ofW (cc := cc) (maxL := maxL) (ret := none) hy hw ?_
  intro p e s m args below meth c s₁ B hml hv
  obtain ⟨rfl, hsz, hP, hK, hD0⟩ := hv
  subst hsz
  have hD := hD0.self (sz := s.heap.size)
  have hA : ∀ q : Nat, s.heap.size ≤ q → va_A ws s.heap.size q := fun q h => Or.inr h
  have hl := lv_entry av (n := maxL) hlen
  rw [lg_entry_eq]
  exact body p e s m _ below meth c _ _ _ B.exec B.bytes (atoms_spec (ws := wsy) B.pre) (findClass_of_methodNamed B.named) hml hK hP hD va_S.rf hA hl (fun H locs ls pc hP hD hS hd => sq_vret B.exec B.bytes B.returns B.notSynchronized hK hP hD hS hd)
theorem sq_ofWi {l : Launch} {y : MethodName} {wsy wsy' : List Cond} {rm : Room} {av : List Value} {D : va_G} {cl : List vw_C} {tys : List (ClassId × FieldType)} {ws w' : va_W} {r : Int32} {cc : ByteArray} {maxL : Nat} {ret : FieldType} (hy : plainName y.cls = true) (hw : wsy = Cond.code y cc maxL (some ret) :: wsy') (hlen : (lg_sl av).length ≤ maxL) (hn : narrow ret (.int r) = .int r)
    (body : ∀ (p : Program) (e : Env) (s : State) (m : MethodId) (args : Array Value) (below : List Frame) (meth : Method) (c : Code) (A : Nat → Prop) (ls : Array Slot) (Q : State → Prop), p.tables.exec = Jvm.exec → c.code = cc → (∀ w ∈ wsy, w.before args s = true) → s.vm.findClass y.cls = some m.cls → c.maxLocals = maxL → va_K D cl tys s → va_P D cl ws s.heap → va_D A ws → va_S A s.heap s.heap [] → (∀ q : Nat, s.heap.size ≤ q → A q) → lv_has ls maxL (lv_args 0 av) →
      (∀ (H : Heap) (locs : List Loc) (ls : Array Slot) (pc : Nat) (x : Int32), x = r → va_P D cl w' H → va_D A w' → va_S A s.heap H locs → decode cc pc = .ok (.ireturn, 1) → W p l e rm s m args below meth c H locs 0 0 Q (F0 m pc ls [.int x])) →
      W p l e rm s m args below meth c s.heap [] 0 0 Q (F0 m 0 ls [])) : sq_Mi l y wsy rm av D cl tys ws w' r := by
  intro sz
  refine Met.ofW (cc := cc) (maxL := maxL) (ret := some ret) hy hw ?_
  intro p e s m args below meth c s₁ B hml hv
  obtain ⟨rfl, hsz, hP, hK, hD0⟩ := hv
  subst hsz
  have hD := hD0.self (sz := s.heap.size)
  have hA : ∀ q : Nat, s.heap.size ≤ q → va_A ws s.heap.size q := fun q h => Or.inr h
  have hl := lv_entry av (n := maxL) hlen
  rw [lg_entry_eq]
  exact body p e s m _ below meth c _ _ _ B.exec B.bytes (atoms_spec (ws := wsy) B.pre) (findClass_of_methodNamed B.named) hml hK hP hD va_S.rf hA hl (fun H locs ls pc x hv hP hD hS hd => sq_zret B.exec B.bytes B.returns B.notSynchronized hn hK hP hD hS hv hd)
variable {p : Program} {l : Launch} {e : Env} {R : Room} {s : State} {m : MethodId} {args : Array Value} {below : List Frame} {meth : Method} {c : Code} {H : Heap} {locs : List Loc} {cells slots : Nat} {Q : State → Prop} {cc : ByteArray} {pc : Nat} {ls : Array Slot} {rest : List Value}
variable {D : va_G} {cl : List vw_C} {ws w' : va_W} {tys : List (ClassId × FieldType)} {A : Nat → Prop}
variable {y : MethodName} {bytes : ByteArray} {maxL nL n index ci h0 : Nat} {ret : Option FieldType} {wsy : List Cond} {rm : Room} {Ts : List Cond} {own C : String} {As st0 : List Value} {fs : List Value} {q : vw_C}
/-- a call on the world as it stands: its cells are the callee's -/
theorem sq_callv (hM : sq_Mv l y wsy rm (.ref h0 :: As) D cl tys ws w') (S : CallFix p m c cc nL s args Ts own) (cw : CallW R s args own C index y bytes maxL ret wsy rm 0 0 n)
    (hK : va_K D cl tys s) (hP : va_P D cl ws H) (hD : va_D A ws) (hS : va_S A s.heap H locs) (hA : ∀ q : Nat, s.heap.size ≤ q → A q) (he : ws[0]? = some (h0, .inr (ci, fs))) (hc : cl[ci]? = some q) (hC : q.1 = C)
    (hn : As.length = n) (hsz : ls.size = nL) (hst : st0 = As.reverse ++ .ref h0 :: rest) (hW : (rest.map fun v => v.category).sum ≤ 8) (hdg : decode cc pc = .ok (.invokevirtual index, 3)) (hf : cells ≤ R.cells ∧ slots ≤ R.slots)
    (kk : ∀ (H1 : Heap) (locs1 : List Loc), va_P D cl w' H1 → va_D A w' → va_S A s.heap H1 locs1 → W p l e R s m args below meth c H1 locs1 cells slots Q (F0 m (pc + 3) ls rest)) : W p l e R s m args below meth c H locs cells slots Q (F0 m pc ls st0) := by
  have hFc := va_free (wc := ws) hD hS hA (List.range ws.length) (sq_allC ws)
  refine va_callv (va_runV (As := As) (rest := rest) S (hM H.size) cw ⟨sq_blind, by rw [← hC]; exact va_recv hK hP hc he, fun U hU hW => ⟨rfl, by rw [hU], by rw [hU]; exact hP, va_K.moved hW.alike hK, hD.weaken (fun _ _ _ _ => trivial)⟩⟩ rfl hn hsz hst (lv_room hW) hdg ⟨hf.1, hf.2⟩) hS (fun q _ h => hFc q h) hFc (fun u t H1 locs ht hvm hw hB hz1 hk1 hS => ?_)
  obtain ⟨hP1, hK1, hD1⟩ := hB
  rw [ht] at hP1
  obtain ⟨hP2, hD2⟩ := va_join (wr := []) (w1 := w') hP hD (List.range ws.length) [] (sq_allC ws) rfl (by decide) (fun i h => by cases h) hk1 hFc hP1 hD1
  exact kk H1 locs hP2 hD2 hS
theorem sq_calli {r : Int32} (hM : sq_Mi l y wsy rm (.ref h0 :: As) D cl tys ws w' r) (S : CallFix p m c cc nL s args Ts own) (cw : CallW R s args own C index y bytes maxL ret wsy rm 0 0 n)
    (hK : va_K D cl tys s) (hP : va_P D cl ws H) (hD : va_D A ws) (hS : va_S A s.heap H locs) (hA : ∀ q : Nat, s.heap.size ≤ q → A q) (he : ws[0]? = some (h0, .inr (ci, fs))) (hc : cl[ci]? = some q) (hC : q.1 = C)
    (hn : As.length = n) (hsz : ls.size = nL) (hst : st0 = As.reverse ++ .ref h0 :: rest) (hW : (rest.map fun v => v.category).sum ≤ 8) (hdg : decode cc pc = .ok (.invokevirtual index, 3)) (hf : cells ≤ R.cells ∧ slots ≤ R.slots)
    (kk : ∀ (H1 : Heap) (locs1 : List Loc), va_P D cl w' H1 → va_D A w' → va_S A s.heap H1 locs1 → W p l e R s m args below meth c H1 locs1 cells slots Q (F0 m (pc + 3) ls (.int r :: rest))) : W p l e R s m args below meth c H locs cells slots Q (F0 m pc ls st0) := by
  have hFc := va_free (wc := ws) hD hS hA (List.range ws.length) (sq_allC ws)
  refine va_calli (va_runV (As := As) (rest := rest) S (hM H.size) cw ⟨sq_blind, by rw [← hC]; exact va_recv hK hP hc he, fun U hU hW => ⟨rfl, by rw [hU], by rw [hU]; exact hP, va_K.moved hW.alike hK, hD.weaken (fun _ _ _ _ => trivial)⟩⟩ rfl hn hsz hst (lv_room hW) hdg ⟨hf.1, hf.2⟩) hS (fun q _ h => hFc q h) hFc (fun r1 u t H1 locs ht hvm hw hB hz1 hk1 hS => ?_)
  obtain ⟨hP1, hK1, hD1⟩ := hB
  rw [ht] at hP1
  obtain ⟨hP2, hD2⟩ := va_join (wr := []) (w1 := w') hP hD (List.range ws.length) [] (sq_allC ws) rfl (by decide) (fun i h => by cases h) hk1 hFc hP1 hD1
  rw [hw]
  exact kk H1 locs hP2 hD2 hS
end SqCalls
end
section
/-! closed forms of the loops over arrays: some places are done, the others are as they were -/
def sq_G (d : Nat → Bool) (new old : Nat → Int32) : Nat → Int32 := fun j => if d j = true then new j else old j
theorem sq_G_step {d d' : Nat → Bool} {new old : Nat → Int32} {i : Nat} {x : Int32} (hx : x = new i) (h : ∀ j, d' j = true ↔ (d j = true ∨ j = i)) : upd (sq_G d new old) i x = sq_G d' new old := by
  funext j
  unfold upd sq_G
  by_cases h1 : j = i
  · rw [if_pos h1, if_pos ((h j).mpr (Or.inr h1)), hx, h1]
  · rw [if_neg h1]
    by_cases h2 : d j = true
    · rw [if_pos h2, if_pos ((h j).mpr (Or.inl h2))]
    · rw [if_neg h2, if_neg (fun h3 => ((h j).mp h3).elim h2 h1)]
theorem sq_G_eq {d d' : Nat → Bool} {new old : Nat → Int32} (h : ∀ j, d' j = true ↔ d j = true) : sq_G d new old = sq_G d' new old := by
  funext j
  unfold sq_G
  by_cases h2 : d j = true
  · rw [if_pos h2, if_pos ((h j).mpr h2)]
  · rw [if_neg h2, if_neg (fun h3 => h2 ((h j).mp h3))]
theorem sq_G_old {d : Nat → Bool} {new old : Nat → Int32} {i : Nat} (h : ¬ d i = true) : sq_G d new old i = old i := by
  unfold sq_G; rw [if_neg h]
theorem sq_G_new {d : Nat → Bool} {new old : Nat → Int32} {i : Nat} (h : d i = true) : sq_G d new old i = new i := by
  unfold sq_G; rw [if_pos h]
theorem sq_G_none {d : Nat → Bool} {new old : Nat → Int32} (h : ∀ j, ¬ d j = true) : sq_G d new old = old := by
  funext j; exact sq_G_old (h j)
theorem sq_upd_same {f : Nat → Int32} {i : Nat} {x : Int32} (h : x = f i) : upd f i x = f := by
  funext j
  unfold upd
  by_cases h1 : j = i
  · rw [if_pos h1, h, h1]
  · rw [if_neg h1]
/-- ageEntries: places above i have moved -/
def sq_dA (i : Nat) : Nat → Bool := fun k => decide (i < k ∧ k ≤ 10)
def sq_ago (g : Nat → Int32) : Nat → Int32 := fun k => g (k - 1)
theorem sq_dA_step (i : Nat) (h : i < 10) : ∀ j, sq_dA i j = true ↔ (sq_dA (i + 1) j = true ∨ j = i + 1) := by
  intro j; simp only [sq_dA, decide_eq_true_eq]; omega
theorem sq_dA_top : ∀ j, ¬ sq_dA 10 j = true := by
  intro j; simp only [sq_dA, decide_eq_true_eq]; omega
/-- letRowIn: the NEXT go down, row by row from the last one; in row r those left of c have come -/
def sq_dL (n r c : Nat) : Nat → Bool := fun j => decide (j / 6 < n ∧ j % 6 < n ∧ (r < j / 6 ∨ (j / 6 = r ∧ j % 6 < c)))
def sq_dn6 (g : Nat → Int32) : Nat → Int32 := fun j => g (j - 6)
theorem sq_dL_step (n r c : Nat) (hn : n ≤ 6) (hr : r < n) (hc : c < n) : ∀ j, sq_dL n r (c + 1) j = true ↔ (sq_dL n r c j = true ∨ j = r * 6 + c) := by
  intro j; simp only [sq_dL, decide_eq_true_eq]; omega
theorem sq_dL_row (n r : Nat) : ∀ j, sq_dL n r 0 j = true ↔ sq_dL n (r + 1) n j = true := by
  intro j; simp only [sq_dL, decide_eq_true_eq]; omega
theorem sq_dL_top (n : Nat) (h : 0 < n) : ∀ j, ¬ sq_dL n (n - 1) 0 j = true := by
  intro j; simp only [sq_dL, decide_eq_true_eq]; omega
def sq_dR (c : Nat) : Nat → Bool := fun j => decide (j < c)
theorem sq_dR_step (c : Nat) : ∀ j, sq_dR (c + 1) j = true ↔ (sq_dR c j = true ∨ j = c) := by
  intro j; simp only [sq_dR, decide_eq_true_eq]; omega
/-- goOn: from the last cell back to (r, c) -/
def sq_dG (n r c : Nat) : Nat → Bool := fun j => decide (j / 6 < n ∧ j % 6 < n ∧ (r < j / 6 ∨ (j / 6 = r ∧ c ≤ j % 6)))
theorem sq_dG_step (n r c : Nat) (hn : n ≤ 6) (hr : r < n) (hc : c < n) : ∀ j, sq_dG n r c j = true ↔ (sq_dG n r (c + 1) j = true ∨ j = r * 6 + c) := by
  intro j; simp only [sq_dG, decide_eq_true_eq]; omega
theorem sq_dG_row (n r : Nat) : ∀ j, sq_dG n r n j = true ↔ sq_dG n (r + 1) 0 j = true := by
  intro j; simp only [sq_dG, decide_eq_true_eq]; omega
theorem sq_dG_top (n : Nat) (h : 0 < n) : ∀ j, ¬ sq_dG n (n - 1) n j = true := by
  intro j; simp only [sq_dG, decide_eq_true_eq]; omega
theorem sq_dG_end (n : Nat) : ∀ j, ¬ sq_dG n n 0 j = true := by
  intro j; simp only [sq_dG, decide_eq_true_eq]; omega
theorem sq_dG_at (n r c : Nat) (h6 : c < 6) : ¬ sq_dG n r (c + 1) (r * 6 + c) = true := by
  simp only [sq_dG, decide_eq_true_eq]; omega
theorem sq_dG_left (n r c : Nat) (hc : 0 < c) (h6 : c < 6) : ¬ sq_dG n r (c + 1) (r * 6 + c - 1) = true := by
  simp only [sq_dG, decide_eq_true_eq]; omega
theorem sq_dG_up (n r c : Nat) (hr : 0 < r) (h6 : c < 6) : ¬ sq_dG n r (c + 1) (r * 6 + c - 6) = true := by
  simp only [sq_dG, decide_eq_true_eq]; omega
def sq_nIn (inp fed : Nat → Int32) : Nat → Int32 := fun j => if j % 6 = 0 then fed (j / 6) else inp (j - 1)
def sq_nFa (fac nxt mk : Nat → Int32) : Nat → Int32 := fun j => if mk j = 0 then fac j else nxt j
def sq_nSu (su fa inp : Nat → Int32) : Nat → Int32 := fun j => (if j / 6 = 0 then 0 else su (j - 6)) + fa j * inp j
/-- what is fed: the place of a vector's int -/
def sq_vec (x : Int32) : Nat := x.toNatClampNeg
def sq_fedI (ago vec : Nat → Int32) : Nat → Int32 := fun r => if ago r = -1 then 0 else vec (sq_vec (ago r) * 6 + r)
def sq_fedM (ago fr : Nat → Int32) : Nat → Int32 := fun r => if ago r = -1 then 0 else fr (sq_vec (ago r))
/-- keepResults -/
def sq_keep (n : Nat) (ago su res : Nat → Int32) : Nat → (Nat → Int32)
  | 0 => res
  | c + 1 => if ago (n - 1 + c) = -1 then sq_keep n ago su res c else upd (sq_keep n ago su res c) (sq_vec (ago (n - 1 + c)) * 6 + c) (su ((n - 1) * 6 + c))
/-- countReachedCells -/
def sq_cntC (ago : Nat → Int32) (r : Nat) : Nat → Nat
  | 0 => 0
  | c + 1 => sq_cntC ago r c + (if ago (r + c) = -1 then 0 else 1)
def sq_cntR (ago : Nat → Int32) (n : Nat) : Nat → Nat
  | 0 => 0
  | r + 1 => sq_cntR ago n r + sq_cntC ago r n
theorem sq_cntC_le (ago : Nat → Int32) (r : Nat) : ∀ c, sq_cntC ago r c ≤ c
  | 0 => Nat.le_refl 0
  | c + 1 => by
    have h := sq_cntC_le ago r c
    simp only [sq_cntC]
    split <;> omega
theorem sq_cntR_le (ago : Nat → Int32) (n : Nat) : ∀ r, sq_cntR ago n r ≤ r * n
  | 0 => Nat.zero_le _
  | r + 1 => by
    have h := sq_cntR_le ago n r
    have h2 := sq_cntC_le ago r n
    simp only [sq_cntR]
    rw [Nat.succ_mul]
    omega
/-- a place of the last vectors: none, or the number of one that is in -/
def sq_okA (ago : Nat → Int32) (nIn : Nat) : Prop := ∀ k, k < 11 → ago k = -1 ∨ ∃ v : Nat, v < nIn ∧ ago k = nI v
def sq_01 (f : Nat → Int32) : Prop := ∀ k, f k = 0 ∨ f k = 1
theorem sq_vec_nI {v : Nat} (h : v < 2 ^ 31) : sq_vec (nI v) = v := nI_clamp h
theorem sq_m1_ne {v : Nat} (h : v < 2 ^ 31) : ¬ nI v = -1 := by
  intro q
  have a := nI_toInt h
  rw [q] at a
  have b : (-1 : Int32).toInt = -1 := by decide
  rw [b] at a
  omega
def sq_advF (fa nx : Nat → Int32) (i : Nat) (mk : Int32) : Nat → Int32 := if mk = 0 then fa else upd fa i (nx i)
def sq_advS (su fa : Nat → Int32) (r i : Nat) (x : Int32) : Nat → Int32 := upd su i ((if r = 0 then 0 else su (i - 6)) + fa i * x)
def sq_gI (ago vec inp : Nat → Int32) : Nat → Int32 := sq_nIn inp (sq_fedI ago vec)
def sq_gM (ago fr mk : Nat → Int32) : Nat → Int32 := sq_nIn mk (sq_fedM ago fr)
def sq_gF (ago fr mk fa nx : Nat → Int32) : Nat → Int32 := sq_nFa fa nx (sq_gM ago fr mk)
def sq_gS (ago vec fr inp mk fa nx su : Nat → Int32) : Nat → Int32 := sq_nSu su (sq_gF ago fr mk fa nx) (sq_gI ago vec inp)
theorem sq_stepF {d d' : Nat → Bool} {fa nx nm : Nat → Int32} {i : Nat} (h0 : ¬ d i = true) (h : ∀ j, d' j = true ↔ (d j = true ∨ j = i)) : sq_advF (sq_G d (sq_nFa fa nx nm) fa) nx i (nm i) = sq_G d' (sq_nFa fa nx nm) fa := by
  unfold sq_advF
  by_cases hm : nm i = 0
  · rw [if_pos hm]
    have e1 : sq_G d (sq_nFa fa nx nm) fa i = sq_nFa fa nx nm i := by rw [sq_G_old h0]; unfold sq_nFa; rw [if_pos hm]
    rw [← sq_upd_same e1.symm]
    exact sq_G_step rfl h
  · rw [if_neg hm]
    exact sq_G_step (by unfold sq_nFa; rw [if_neg hm]) h
theorem sq_stepS {d d' : Nat → Bool} {su nf ni fa' : Nat → Int32} {r c : Nat} {x : Int32} (hc : c < 6) (h0 : 0 < r → ¬ d (r * 6 + c - 6) = true) (h : ∀ j, d' j = true ↔ (d j = true ∨ j = r * 6 + c)) (hf : fa' (r * 6 + c) = nf (r * 6 + c)) (hx : x = ni (r * 6 + c)) : sq_advS (sq_G d (sq_nSu su nf ni) su) fa' r (r * 6 + c) x = sq_G d' (sq_nSu su nf ni) su := by
  unfold sq_advS
  refine sq_G_step ?_ h
  rw [hf, hx]
  unfold sq_nSu
  by_cases hr : r = 0
  · rw [if_pos hr, if_pos (by omega)]
  · rw [if_neg hr, if_neg (by omega), sq_G_old (h0 (by omega))]
end
section
abbrev SqS : Type := (Nat → Nat → Int32) × (Nat → Nat)
def sq_mk (a0 a1 a2 a3 a4 a5 a6 a7 a8 a9 a10 : Nat → Int32) (f0 f1 f2 f3 f4 f5 f6 f7 f8 : Nat) : SqS := (fun k => match k with
  | 0 => a0
  | 1 => a1
  | 2 => a2
  | 3 => a3
  | 4 => a4
  | 5 => a5
  | 6 => a6
  | 7 => a7
  | 8 => a8
  | 9 => a9
  | _ => a10, fun k => match k with
  | 0 => f0
  | 1 => f1
  | 2 => f2
  | 3 => f3
  | 4 => f4
  | 5 => f5
  | 6 => f6
  | 7 => f7
  | _ => f8)
def sq_p1 (st : SqS) : SqS := sq_mk (st.1 0) (st.1 1) (st.1 2) (st.1 3) (st.1 4) (upd (sq_G (sq_dA 0) (sq_ago (st.1 5)) (st.1 5)) 0 (-1)) (st.1 6) (st.1 7) (st.1 8) (st.1 9) (st.1 10) (st.2 0) ((st.2 1) + 1) (st.2 2) (st.2 3) (st.2 4) (st.2 5) (st.2 6) (st.2 7) (st.2 8)
def sq_en (st : SqS) : SqS := sq_mk (st.1 0) (st.1 1) (st.1 2) (st.1 3) (upd (st.1 4) (st.2 6) (nI (st.2 1))) (upd (st.1 5) 0 (nI (st.2 6))) (st.1 6) (st.1 7) (st.1 8) (st.1 9) (st.1 10) (st.2 0) (st.2 1) (st.2 2) (st.2 3) (if (st.1 3) (st.2 6) = 0 then (st.2 4) else 0) (st.2 5) ((st.2 6) + 1) (if (st.1 3) (st.2 6) = 0 then (st.2 7) else (st.2 7) + 1) (if (st.1 3) (st.2 6) = 0 then (st.2 8) else (st.2 1))
def sq_le (st : SqS) : SqS := sq_mk (st.1 0) (st.1 1) (st.1 2) (st.1 3) (st.1 4) (st.1 5) (st.1 6) (st.1 7) (st.1 8) (sq_G (sq_dR (st.2 0)) (fun j => (st.1 0) ((st.2 3) * 6 + j)) (sq_G (sq_dL (st.2 0) 0 0) (sq_dn6 (st.1 9)) (st.1 9))) (st.1 10) (st.2 0) (st.2 1) (st.2 2) ((st.2 3) + 1) ((st.2 4) + 1) (st.2 5) (st.2 6) (st.2 7) (st.2 8)
def sq_go (st : SqS) : SqS := sq_mk (st.1 0) (st.1 1) (st.1 2) (st.1 3) (st.1 4) (st.1 5) (sq_G (sq_dG (st.2 0) 0 0) (sq_gI (st.1 5) (st.1 1) (st.1 6)) (st.1 6)) (sq_G (sq_dG (st.2 0) 0 0) (sq_gS (st.1 5) (st.1 1) (st.1 3) (st.1 6) (st.1 10) (st.1 8) (st.1 9) (st.1 7)) (st.1 7)) (sq_G (sq_dG (st.2 0) 0 0) (sq_gF (st.1 5) (st.1 3) (st.1 10) (st.1 8) (st.1 9)) (st.1 8)) (st.1 9) (sq_G (sq_dG (st.2 0) 0 0) (sq_gM (st.1 5) (st.1 3) (st.1 10)) (st.1 10)) (st.2 0) (st.2 1) (st.2 2) (st.2 3) (st.2 4) (st.2 5) (st.2 6) (st.2 7) (st.2 8)
def sq_kp (st : SqS) : SqS := sq_mk (st.1 0) (st.1 1) (sq_keep (st.2 0) (st.1 5) (st.1 7) (st.1 2) (st.2 0)) (st.1 3) (st.1 4) (st.1 5) (st.1 6) (st.1 7) (st.1 8) (st.1 9) (st.1 10) (st.2 0) (st.2 1) (st.2 2) (st.2 3) (st.2 4) (st.2 5) (st.2 6) (st.2 7) (st.2 8)
def sq_cV (st : SqS) : Bool := decide ((st.2 6) < (st.2 5) ∧ ((st.1 3) (st.2 6) = 0 ∨ (st.2 4) = (st.2 0)))
def sq_cR (st : SqS) (t : Nat) : Bool := decide ((st.2 3) < (st.2 2) ∧ ¬ (st.2 4) = (st.2 0) ∧ ((st.2 7) = 0 ∨ 2 * (st.2 0) - 2 < t - (st.2 8)))
def sq_e2 (st : SqS) : SqS := if sq_cV st = true then sq_en st else st
def sq_l2 (st : SqS) : SqS := if sq_cR st (st.2 1) = true then sq_le st else st
def sq_run (st : SqS) : SqS := sq_kp (sq_go (sq_l2 (sq_e2 (sq_p1 st))))
def sq_at (st : SqS) : Bool := decide (¬ ((st.2 6) < (st.2 5) ∧ ((st.1 3) (st.2 6) = 0 ∨ (st.2 4) = (st.2 0))) ∧ ¬ ((st.2 3) < (st.2 2) ∧ ¬ (st.2 4) = (st.2 0) ∧ ((st.2 7) = 0 ∨ 2 * (st.2 0) - 2 < (st.2 1) + 1 - (st.2 8))) ∧ sq_cntR (st.1 5) (st.2 0) (st.2 0) = 0)
def sq_loop : Nat → SqS → SqS
  | 0, st => st
  | n + 1, st => if sq_at st = true then st else sq_loop n (sq_run st)
def sq_okE (en : Nat → Int32) (nIn t : Nat) : Prop := ∀ v, v < nIn → ∃ e : Nat, e ≤ t ∧ en v = nI e
/-- what the numbers keep to -/
def sq_ok (st : SqS) : Prop := (1 ≤ st.2 0 ∧ st.2 0 ≤ 6) ∧ st.2 1 ≤ 100000 ∧ (st.2 2 ≤ 120 ∧ st.2 3 ≤ st.2 2) ∧ st.2 4 ≤ st.2 0 ∧ (st.2 5 ≤ 200 ∧ st.2 6 ≤ st.2 5 ∧ st.2 7 ≤ st.2 6) ∧ st.2 8 ≤ st.2 1 ∧ sq_okA (st.1 5) (st.2 6) ∧ sq_01 (st.1 3) ∧ sq_01 (st.1 10) ∧ sq_okE (st.1 4) (st.2 6) (st.2 1)
theorem sq_ok_p1 {st : SqS} (h : sq_ok st) (ht : st.2 1 < 100000) : sq_ok (sq_p1 st) := by
  obtain ⟨h1, h2, h3, h4, h5, h6, h7, h8, h9, h11⟩ := h
  refine ⟨h1, ?_, h3, h4, h5, ?_, ?_, h8, h9, fun v hv => ?_⟩
  · show st.2 1 + 1 ≤ 100000; omega
  · show st.2 8 ≤ st.2 1 + 1; omega
  · intro k hk
    show upd (sq_G (sq_dA 0) (sq_ago (st.1 5)) (st.1 5)) 0 (-1) k = -1 ∨ ∃ v : Nat, v < st.2 6 ∧ upd (sq_G (sq_dA 0) (sq_ago (st.1 5)) (st.1 5)) 0 (-1) k = nI v
    by_cases h0 : k = 0
    · rw [h0]; exact Or.inl pk_us
    · rw [pk_un h0, sq_G_new (by simp only [sq_dA, decide_eq_true_eq]; omega)]
      exact h7 (k - 1) (by omega)
  · obtain ⟨e, he, e2⟩ := h11 v hv
    exact ⟨e, Nat.le_succ_of_le he, e2⟩
theorem sq_ok_e2 {st : SqS} (h : sq_ok st) : sq_ok (sq_e2 st) := by
  unfold sq_e2
  by_cases hc : sq_cV st = true
  · rw [if_pos hc]
    obtain ⟨h1, h2, h3, h4, h5, h6, h7, h8, h9, h11⟩ := h
    have hc2 := (of_decide_eq_true hc).1
    refine ⟨h1, h2, h3, ?_, ⟨h5.1, hc2, ?_⟩, ?_, ?_, h8, h9, ?_⟩
    · show (if st.1 3 (st.2 6) = 0 then st.2 4 else 0) ≤ st.2 0
      split <;> omega
    · show (if st.1 3 (st.2 6) = 0 then st.2 7 else st.2 7 + 1) ≤ st.2 6 + 1
      split <;> omega
    · show (if st.1 3 (st.2 6) = 0 then st.2 8 else st.2 1) ≤ st.2 1
      split <;> omega
    · intro k hk
      show upd (st.1 5) 0 (nI (st.2 6)) k = -1 ∨ ∃ v : Nat, v < st.2 6 + 1 ∧ upd (st.1 5) 0 (nI (st.2 6)) k = nI v
      by_cases h0 : k = 0
      · rw [h0, pk_us]; exact Or.inr ⟨_, Nat.lt_succ_self _, rfl⟩
      · rw [pk_un h0]
        rcases h7 k hk with e | ⟨v, hv, e⟩
        · exact Or.inl e
        · exact Or.inr ⟨v, Nat.lt_succ_of_lt hv, e⟩
    · intro v hv
      show ∃ e : Nat, e ≤ st.2 1 ∧ upd (st.1 4) (st.2 6) (nI (st.2 1)) v = nI e
      have hv : v < st.2 6 + 1 := hv
      by_cases h0 : v = st.2 6
      · rw [h0, pk_us]; exact ⟨_, Nat.le_refl _, rfl⟩
      · rw [pk_un h0]; exact h11 v (by omega)
  · rw [if_neg hc]; exact h
theorem sq_ok_l2 {st : SqS} (h : sq_ok st) : sq_ok (sq_l2 st) := by
  unfold sq_l2
  by_cases hc : sq_cR st (st.2 1) = true
  · rw [if_pos hc]
    obtain ⟨h1, h2, h3, h4, h5, h6, h7, h8, h9, h11⟩ := h
    have hc2 := of_decide_eq_true hc
    exact ⟨h1, h2, ⟨h3.1, hc2.1⟩, Nat.lt_of_le_of_ne h4 hc2.2.1, h5, h6, h7, h8, h9, h11⟩
  · rw [if_neg hc]; exact h
theorem sq_ok_go {st : SqS} (h : sq_ok st) : sq_ok (sq_go st) := by
  obtain ⟨h1, h2, h3, h4, h5, h6, h7, h8, h9, h11⟩ := h
  refine ⟨h1, h2, h3, h4, h5, h6, h7, h8, ?_, h11⟩
  intro k
  show sq_G (sq_dG (st.2 0) 0 0) (sq_gM (st.1 5) (st.1 3) (st.1 10)) (st.1 10) k = 0 ∨ sq_G (sq_dG (st.2 0) 0 0) (sq_gM (st.1 5) (st.1 3) (st.1 10)) (st.1 10) k = 1
  by_cases hd : sq_dG (st.2 0) 0 0 k = true
  · rw [sq_G_new hd]
    unfold sq_gM sq_nIn
    by_cases h0 : k % 6 = 0
    · rw [if_pos h0]
      unfold sq_fedM
      by_cases h10 : st.1 5 (k / 6) = -1
      · rw [if_pos h10]; exact Or.inl rfl
      · rw [if_neg h10]; exact h8 _
    · rw [if_neg h0]; exact h9 _
  · rw [sq_G_old hd]; exact h9 _
theorem sq_ok_kp {st : SqS} (h : sq_ok st) : sq_ok (sq_kp st) := h
theorem sq_ok_run {st : SqS} (h : sq_ok st) (ht : st.2 1 < 100000) : sq_ok (sq_run st) := sq_ok_kp (sq_ok_go (sq_ok_l2 (sq_ok_e2 (sq_ok_p1 h ht))))
theorem sq_e2_1 (st : SqS) : (sq_e2 st).2 1 = st.2 1 := by unfold sq_e2; split <;> rfl
theorem sq_l2_1 (st : SqS) : (sq_l2 st).2 1 = st.2 1 := by unfold sq_l2; split <;> rfl
theorem sq_run_1 (st : SqS) : (sq_run st).2 1 = st.2 1 + 1 := by
  show (sq_l2 (sq_e2 (sq_p1 st))).2 1 = st.2 1 + 1
  rw [sq_l2_1, sq_e2_1]; rfl
end
section
theorem sq_l2_a0 (s : SqS) : (sq_l2 s).1 0 = s.1 0 := by unfold sq_l2; split <;> rfl
theorem sq_e2_a0 (s : SqS) : (sq_e2 s).1 0 = s.1 0 := by unfold sq_e2; split <;> rfl
theorem sq_l2_a1 (s : SqS) : (sq_l2 s).1 1 = s.1 1 := by unfold sq_l2; split <;> rfl
theorem sq_e2_a1 (s : SqS) : (sq_e2 s).1 1 = s.1 1 := by unfold sq_e2; split <;> rfl
theorem sq_l2_a2 (s : SqS) : (sq_l2 s).1 2 = s.1 2 := by unfold sq_l2; split <;> rfl
theorem sq_e2_a2 (s : SqS) : (sq_e2 s).1 2 = s.1 2 := by unfold sq_e2; split <;> rfl
theorem sq_l2_a3 (s : SqS) : (sq_l2 s).1 3 = s.1 3 := by unfold sq_l2; split <;> rfl
theorem sq_e2_a3 (s : SqS) : (sq_e2 s).1 3 = s.1 3 := by unfold sq_e2; split <;> rfl
theorem sq_l2_a4 (s : SqS) : (sq_l2 s).1 4 = s.1 4 := by unfold sq_l2; split <;> rfl
theorem sq_l2_a5 (s : SqS) : (sq_l2 s).1 5 = s.1 5 := by unfold sq_l2; split <;> rfl
theorem sq_l2_a6 (s : SqS) : (sq_l2 s).1 6 = s.1 6 := by unfold sq_l2; split <;> rfl
theorem sq_e2_a6 (s : SqS) : (sq_e2 s).1 6 = s.1 6 := by unfold sq_e2; split <;> rfl
theorem sq_l2_a7 (s : SqS) : (sq_l2 s).1 7 = s.1 7 := by unfold sq_l2; split <;> rfl
theorem sq_e2_a7 (s : SqS) : (sq_e2 s).1 7 = s.1 7 := by unfold sq_e2; split <;> rfl
theorem sq_l2_a8 (s : SqS) : (sq_l2 s).1 8 = s.1 8 := by unfold sq_l2; split <;> rfl
theorem sq_e2_a8 (s : SqS) : (sq_e2 s).1 8 = s.1 8 := by unfold sq_e2; split <;> rfl
theorem sq_e2_a9 (s : SqS) : (sq_e2 s).1 9 = s.1 9 := by unfold sq_e2; split <;> rfl
theorem sq_l2_a10 (s : SqS) : (sq_l2 s).1 10 = s.1 10 := by unfold sq_l2; split <;> rfl
theorem sq_e2_a10 (s : SqS) : (sq_e2 s).1 10 = s.1 10 := by unfold sq_e2; split <;> rfl
theorem sq_l2_f0 (s : SqS) : (sq_l2 s).2 0 = s.2 0 := by unfold sq_l2; split <;> rfl
theorem sq_e2_f0 (s : SqS) : (sq_e2 s).2 0 = s.2 0 := by unfold sq_e2; split <;> rfl
theorem sq_l2_f2 (s : SqS) : (sq_l2 s).2 2 = s.2 2 := by unfold sq_l2; split <;> rfl
theorem sq_e2_f2 (s : SqS) : (sq_e2 s).2 2 = s.2 2 := by unfold sq_e2; split <;> rfl
theorem sq_e2_f3 (s : SqS) : (sq_e2 s).2 3 = s.2 3 := by unfold sq_e2; split <;> rfl
theorem sq_l2_f5 (s : SqS) : (sq_l2 s).2 5 = s.2 5 := by unfold sq_l2; split <;> rfl
theorem sq_e2_f5 (s : SqS) : (sq_e2 s).2 5 = s.2 5 := by unfold sq_e2; split <;> rfl
theorem sq_l2_f6 (s : SqS) : (sq_l2 s).2 6 = s.2 6 := by unfold sq_l2; split <;> rfl
theorem sq_l2_f7 (s : SqS) : (sq_l2 s).2 7 = s.2 7 := by unfold sq_l2; split <;> rfl
theorem sq_l2_f8 (s : SqS) : (sq_l2 s).2 8 = s.2 8 := by unfold sq_l2; split <;> rfl
/-- the vectors by age, behind the entering of a cycle -/
def sq_ago2 (st : SqS) : Nat → Int32 := (sq_e2 (sq_p1 st)).1 5
theorem sq_ago2_s (st : SqS) {k : Nat} (h0 : 0 < k) (h1 : k ≤ 10) : sq_ago2 st k = st.1 5 (k - 1) := by
  have e : (sq_p1 st).1 5 k = st.1 5 (k - 1) := by
    show upd (sq_G (sq_dA 0) (sq_ago (st.1 5)) (st.1 5)) 0 (-1) k = st.1 5 (k - 1)
    rw [pk_un (by omega), sq_G_new (by simp only [sq_dA, decide_eq_true_eq]; omega)]
    rfl
  unfold sq_ago2 sq_e2
  split
  · show upd ((sq_p1 st).1 5) 0 (nI ((sq_p1 st).2 6)) k = st.1 5 (k - 1)
    rw [pk_un (by omega), e]
  · exact e
theorem sq_ago2_0 (st : SqS) : sq_ago2 st 0 = if sq_cV (sq_p1 st) = true then nI (st.2 6) else -1 := by
  unfold sq_ago2 sq_e2
  split
  · rfl
  · rfl
theorem sq_run_a5 (st : SqS) : (sq_run st).1 5 = sq_ago2 st := by
  show (sq_l2 (sq_e2 (sq_p1 st))).1 5 = sq_ago2 st
  rw [sq_l2_a5]; rfl
theorem sq_run_f0 (st : SqS) : (sq_run st).2 0 = st.2 0 := by
  show (sq_l2 (sq_e2 (sq_p1 st))).2 0 = st.2 0
  rw [sq_l2_f0, sq_e2_f0]; rfl
theorem sq_div {r c : Nat} (h : c < 6) : (r * 6 + c) / 6 = r := by omega
theorem sq_mod {r c : Nat} (h : c < 6) : (r * 6 + c) % 6 = c := by omega
theorem sq_dG0 {n r c : Nat} (hn : n ≤ 6) (hr : r < n) (hc : c < n) : sq_dG n 0 0 (r * 6 + c) = true := by
  simp only [sq_dG, decide_eq_true_eq]; omega
/-- a cell's registers behind a cycle -/
theorem sq_run_in (st : SqS) (hn : st.2 0 ≤ 6) {r c : Nat} (hr : r < st.2 0) (hc : c < st.2 0) : (sq_run st).1 6 (r * 6 + c) = if c = 0 then sq_fedI (sq_ago2 st) (st.1 1) r else st.1 6 (r * 6 + c - 1) := by
  show sq_G (sq_dG ((sq_l2 (sq_e2 (sq_p1 st))).2 0) 0 0) (sq_gI ((sq_l2 (sq_e2 (sq_p1 st))).1 5) ((sq_l2 (sq_e2 (sq_p1 st))).1 1) ((sq_l2 (sq_e2 (sq_p1 st))).1 6)) ((sq_l2 (sq_e2 (sq_p1 st))).1 6) (r * 6 + c) = _
  rw [sq_l2_f0, sq_e2_f0, sq_l2_a5, sq_l2_a1, sq_e2_a1, sq_l2_a6, sq_e2_a6]
  show sq_G (sq_dG (st.2 0) 0 0) (sq_gI (sq_ago2 st) (st.1 1) (st.1 6)) (st.1 6) (r * 6 + c) = _
  rw [sq_G_new (sq_dG0 hn hr hc)]
  unfold sq_gI sq_nIn
  rw [sq_mod (by omega), sq_div (by omega)]
theorem sq_run_mk (st : SqS) (hn : st.2 0 ≤ 6) {r c : Nat} (hr : r < st.2 0) (hc : c < st.2 0) : (sq_run st).1 10 (r * 6 + c) = if c = 0 then sq_fedM (sq_ago2 st) (st.1 3) r else st.1 10 (r * 6 + c - 1) := by
  show sq_G (sq_dG ((sq_l2 (sq_e2 (sq_p1 st))).2 0) 0 0) (sq_gM ((sq_l2 (sq_e2 (sq_p1 st))).1 5) ((sq_l2 (sq_e2 (sq_p1 st))).1 3) ((sq_l2 (sq_e2 (sq_p1 st))).1 10)) ((sq_l2 (sq_e2 (sq_p1 st))).1 10) (r * 6 + c) = _
  rw [sq_l2_f0, sq_e2_f0, sq_l2_a5, sq_l2_a3, sq_e2_a3, sq_l2_a10, sq_e2_a10]
  show sq_G (sq_dG (st.2 0) 0 0) (sq_gM (sq_ago2 st) (st.1 3) (st.1 10)) (st.1 10) (r * 6 + c) = _
  rw [sq_G_new (sq_dG0 hn hr hc)]
  unfold sq_gM sq_nIn
  rw [sq_mod (by omega), sq_div (by omega)]
/-- NEXT behind the letting in -/
def sq_nx2 (st : SqS) : Nat → Int32 := (sq_l2 (sq_e2 (sq_p1 st))).1 9
theorem sq_run_a9 (st : SqS) : (sq_run st).1 9 = sq_nx2 st := rfl
theorem sq_run_fa (st : SqS) (hn : st.2 0 ≤ 6) {r c : Nat} (hr : r < st.2 0) (hc : c < st.2 0) : (sq_run st).1 8 (r * 6 + c) = if (sq_run st).1 10 (r * 6 + c) = 0 then st.1 8 (r * 6 + c) else sq_nx2 st (r * 6 + c) := by
  show sq_G (sq_dG ((sq_l2 (sq_e2 (sq_p1 st))).2 0) 0 0) (sq_gF ((sq_l2 (sq_e2 (sq_p1 st))).1 5) ((sq_l2 (sq_e2 (sq_p1 st))).1 3) ((sq_l2 (sq_e2 (sq_p1 st))).1 10) ((sq_l2 (sq_e2 (sq_p1 st))).1 8) ((sq_l2 (sq_e2 (sq_p1 st))).1 9)) ((sq_l2 (sq_e2 (sq_p1 st))).1 8) (r * 6 + c) = _
  have em : (sq_run st).1 10 (r * 6 + c) = sq_gM ((sq_l2 (sq_e2 (sq_p1 st))).1 5) ((sq_l2 (sq_e2 (sq_p1 st))).1 3) ((sq_l2 (sq_e2 (sq_p1 st))).1 10) (r * 6 + c) := by
    show sq_G (sq_dG ((sq_l2 (sq_e2 (sq_p1 st))).2 0) 0 0) (sq_gM ((sq_l2 (sq_e2 (sq_p1 st))).1 5) ((sq_l2 (sq_e2 (sq_p1 st))).1 3) ((sq_l2 (sq_e2 (sq_p1 st))).1 10)) ((sq_l2 (sq_e2 (sq_p1 st))).1 10) (r * 6 + c) = _
    rw [sq_l2_f0, sq_e2_f0]
    exact sq_G_new (sq_dG0 hn hr hc)
  rw [em, sq_l2_f0, sq_e2_f0]
  show sq_G (sq_dG (st.2 0) 0 0) _ _ (r * 6 + c) = _
  rw [sq_G_new (sq_dG0 hn hr hc)]
  unfold sq_gF sq_nFa
  rw [sq_l2_a8, sq_e2_a8]
  rfl
theorem sq_run_su (st : SqS) (hn : st.2 0 ≤ 6) {r c : Nat} (hr : r < st.2 0) (hc : c < st.2 0) : (sq_run st).1 7 (r * 6 + c) = (if r = 0 then 0 else st.1 7 (r * 6 + c - 6)) + (sq_run st).1 8 (r * 6 + c) * (sq_run st).1 6 (r * 6 + c) := by
  have e8 : (sq_run st).1 8 (r * 6 + c) = sq_gF ((sq_l2 (sq_e2 (sq_p1 st))).1 5) ((sq_l2 (sq_e2 (sq_p1 st))).1 3) ((sq_l2 (sq_e2 (sq_p1 st))).1 10) ((sq_l2 (sq_e2 (sq_p1 st))).1 8) ((sq_l2 (sq_e2 (sq_p1 st))).1 9) (r * 6 + c) := by
    show sq_G (sq_dG ((sq_l2 (sq_e2 (sq_p1 st))).2 0) 0 0) _ _ (r * 6 + c) = _
    rw [sq_l2_f0, sq_e2_f0]
    exact sq_G_new (sq_dG0 hn hr hc)
  have e6 : (sq_run st).1 6 (r * 6 + c) = sq_gI ((sq_l2 (sq_e2 (sq_p1 st))).1 5) ((sq_l2 (sq_e2 (sq_p1 st))).1 1) ((sq_l2 (sq_e2 (sq_p1 st))).1 6) (r * 6 + c) := by
    show sq_G (sq_dG ((sq_l2 (sq_e2 (sq_p1 st))).2 0) 0 0) _ _ (r * 6 + c) = _
    rw [sq_l2_f0, sq_e2_f0]
    exact sq_G_new (sq_dG0 hn hr hc)
  rw [e8, e6]
  show sq_G (sq_dG ((sq_l2 (sq_e2 (sq_p1 st))).2 0) 0 0) (sq_gS ((sq_l2 (sq_e2 (sq_p1 st))).1 5) ((sq_l2 (sq_e2 (sq_p1 st))).1 1) ((sq_l2 (sq_e2 (sq_p1 st))).1 3) ((sq_l2 (sq_e2 (sq_p1 st))).1 6) ((sq_l2 (sq_e2 (sq_p1 st))).1 10) ((sq_l2 (sq_e2 (sq_p1 st))).1 8) ((sq_l2 (sq_e2 (sq_p1 st))).1 9) ((sq_l2 (sq_e2 (sq_p1 st))).1 7)) ((sq_l2 (sq_e2 (sq_p1 st))).1 7) (r * 6 + c) = _
  rw [sq_l2_f0, sq_e2_f0]
  show sq_G (sq_dG (st.2 0) 0 0) _ _ (r * 6 + c) = _
  rw [sq_G_new (sq_dG0 hn hr hc)]
  unfold sq_gS sq_nSu
  rw [sq_div (by omega), sq_l2_a7, sq_e2_a7]
  rfl
/-- where no element is, nothing is -/
def sq_J (st : SqS) : Prop := ∀ r c, r < st.2 0 → c < st.2 0 → st.1 5 (r + c) = -1 → st.1 6 (r * 6 + c) = 0 ∧ st.1 10 (r * 6 + c) = 0 ∧ st.1 7 (r * 6 + c) = 0
theorem sq_J_run {st : SqS} (hok : sq_ok st) (hJ : sq_J st) : sq_J (sq_run st) := by
  obtain ⟨⟨o1, o2⟩, -⟩ := id hok
  intro r c hr hc ha
  rw [sq_run_f0] at hr hc
  rw [sq_run_a5] at ha
  have eI : (sq_run st).1 6 (r * 6 + c) = 0 := by
    rw [sq_run_in st o2 hr hc]
    by_cases h0 : c = 0
    · rw [if_pos h0]
      rw [h0, Nat.add_zero] at ha
      unfold sq_fedI
      rw [if_pos ha]
    · rw [if_neg h0, show r * 6 + c - 1 = r * 6 + (c - 1) by omega]
      rw [sq_ago2_s st (by omega) (by omega), show r + c - 1 = r + (c - 1) by omega] at ha
      exact (hJ r (c - 1) hr (by omega) ha).1
  refine ⟨eI, ?_, ?_⟩
  · rw [sq_run_mk st o2 hr hc]
    by_cases h0 : c = 0
    · rw [if_pos h0]
      rw [h0, Nat.add_zero] at ha
      unfold sq_fedM
      rw [if_pos ha]
    · rw [if_neg h0, show r * 6 + c - 1 = r * 6 + (c - 1) by omega]
      rw [sq_ago2_s st (by omega) (by omega), show r + c - 1 = r + (c - 1) by omega] at ha
      exact (hJ r (c - 1) hr (by omega) ha).2.1
  · rw [sq_run_su st o2 hr hc, eI, Int32.mul_zero]
    by_cases h0 : r = 0
    · rw [if_pos h0]; rfl
    · rw [if_neg h0, show r * 6 + c - 6 = (r - 1) * 6 + c by omega]
      rw [sq_ago2_s st (by omega) (by omega), show r + c - 1 = r - 1 + c by omega] at ha
      rw [(hJ (r - 1) c (by omega) hc ha).2.2]; rfl
theorem sq_cntC_0 (ago : Nat → Int32) (r : Nat) : ∀ c, sq_cntC ago r c = 0 → ∀ t, t < c → ago (r + t) = -1
  | 0, _, t, ht => absurd ht (Nat.not_lt_zero t)
  | c + 1, h, t, ht => by
    simp only [sq_cntC] at h
    by_cases e : ago (r + c) = -1
    · rcases Nat.lt_or_ge t c with h1 | h1
      · exact sq_cntC_0 ago r c (by omega) t h1
      · rw [show t = c by omega]; exact e
    · rw [if_neg e] at h; omega
theorem sq_cntR_0 (ago : Nat → Int32) (n : Nat) : ∀ r, sq_cntR ago n r = 0 → ∀ t, t < r → sq_cntC ago t n = 0
  | 0, _, t, ht => absurd ht (Nat.not_lt_zero t)
  | r + 1, h, t, ht => by
    simp only [sq_cntR] at h
    rcases Nat.lt_or_ge t r with h1 | h1
    · exact sq_cntR_0 ago n r (by omega) t h1
    · rw [show t = r by omega]; omega
theorem sq_cnt_none {ago : Nat → Int32} {n : Nat} (h : sq_cntR ago n n = 0) {k : Nat} (hk : k < 2 * n - 1) : ago k = -1 := by
  have h1 := sq_cntC_0 ago (k - (n - 1)) n (sq_cntR_0 ago n n h (k - (n - 1)) (by omega)) (k - (k - (n - 1))) (by omega)
  rw [show k - (n - 1) + (k - (k - (n - 1))) = k by omega] at h1
  exact h1
/-- the latest fresh vector is still among those that go through, for so long -/
def sq_Kf (st : SqS) : Prop := 0 < st.2 7 → st.2 1 - st.2 8 ≤ 2 * st.2 0 - 2 → ¬ st.1 5 (st.2 1 - st.2 8) = -1
theorem sq_Kf_run {st : SqS} (hok : sq_ok st) (hK : sq_Kf st) : sq_Kf (sq_run st) := by
  obtain ⟨⟨o1, o2⟩, o3, ⟨o4, o5⟩, o6, ⟨o7, o8, o9⟩, o10, -⟩ := id hok
  unfold sq_Kf
  rw [sq_run_1, sq_run_f0, sq_run_a5]
  show 0 < (sq_l2 (sq_e2 (sq_p1 st))).2 7 → st.2 1 + 1 - (sq_l2 (sq_e2 (sq_p1 st))).2 8 ≤ _ → ¬ sq_ago2 st (st.2 1 + 1 - (sq_l2 (sq_e2 (sq_p1 st))).2 8) = -1
  rw [sq_l2_f7, sq_l2_f8]
  have hold : 0 < st.2 7 → st.2 1 + 1 - st.2 8 ≤ 2 * st.2 0 - 2 → ¬ sq_ago2 st (st.2 1 + 1 - st.2 8) = -1 := by
    intro h1 h2
    rw [sq_ago2_s st (by omega) (by omega), show st.2 1 + 1 - st.2 8 - 1 = st.2 1 - st.2 8 by omega]
    exact hK h1 (by omega)
  by_cases hc : sq_cV (sq_p1 st) = true
  · have e2 : sq_e2 (sq_p1 st) = sq_en (sq_p1 st) := by unfold sq_e2; rw [if_pos hc]
    rw [e2]
    show 0 < (if st.1 3 (st.2 6) = 0 then st.2 7 else st.2 7 + 1) → st.2 1 + 1 - (if st.1 3 (st.2 6) = 0 then st.2 8 else st.2 1 + 1) ≤ _ → ¬ sq_ago2 st (st.2 1 + 1 - (if st.1 3 (st.2 6) = 0 then st.2 8 else st.2 1 + 1)) = -1
    by_cases hf : st.1 3 (st.2 6) = 0
    · rw [if_pos hf, if_pos hf]; exact hold
    · rw [if_neg hf, if_neg hf]
      intro _ _
      rw [Nat.sub_self, sq_ago2_0, if_pos hc]
      exact sq_m1_ne (by omega)
  · have e2 : sq_e2 (sq_p1 st) = sq_p1 st := by unfold sq_e2; rw [if_neg hc]
    rw [e2]
    exact hold
end
section
/-- the cells of the object: it, and its arrays -/
def wX (h0 : Nat) (q : Nat → Nat) (cI cZ : ClassId) (a0 a1 a2 a3 a4 a5 a6 a7 a8 a9 a10 : Nat → Int32) (f0 f1 f2 f3 f4 f5 f6 f7 f8 : Nat) : va_W :=
  [(h0, .inr (0, [.ref (q 0), .ref (q 1), .ref (q 2), .ref (q 3), .ref (q 4), .ref (q 5), .ref (q 6), .ref (q 7), .ref (q 8), .ref (q 9), .ref (q 10), .int (nI f0), .int (nI f1), .int (nI f2), .int (nI f3), .int (nI f4), .int (nI f5), .int (nI f6), .int (nI f7), .int (nI f8)])), (q 0, .inl (cI, 720, .inl a0)), (q 1, .inl (cI, 1200, .inl a1)), (q 2, .inl (cI, 1200, .inl a2)), (q 3, .inl (cZ, 200, .inl a3)), (q 4, .inl (cI, 200, .inl a4)), (q 5, .inl (cI, 11, .inl a5)), (q 6, .inl (cI, 36, .inl a6)), (q 7, .inl (cI, 36, .inl a7)), (q 8, .inl (cI, 36, .inl a8)), (q 9, .inl (cI, 36, .inl a9)), (q 10, .inl (cZ, 36, .inl a10))]
def rm_isInSquare : Room := { frames := 0, cells := 0, slots := 0, locals := 0 }
set_option maxHeartbeats 4000000 in
set_option maxRecDepth 100000 in
theorem c_isInSquare (l : Launch) (dC : Nat → ClassId) (dI : Nat → Nat → Nat) (h0 : Nat) (q : Nat → Nat) (cI cZ : ClassId) (a0 a1 a2 a3 a4 a5 a6 a7 a8 a9 a10 : Nat → Int32) (f0 f1 f2 f3 f4 f5 f6 f7 f8 : Nat) (p0 : Int32)  : sq_Mi l yX0_isInSquare wsX0_isInSquare rm_isInSquare [.ref h0, .int p0] (dC, dI) vwCl [(cI, .int), (cZ, .boolean)] (wX h0 q cI cZ a0 a1 a2 a3 a4 a5 a6 a7 a8 a9 a10 f0 f1 f2 f3 f4 f5 f6 f7 f8) (wX h0 q cI cZ a0 a1 a2 a3 a4 a5 a6 a7 a8 a9 a10 f0 f1 f2 f3 f4 f5 f6 f7 f8) (sq_b (decide (¬ p0 < 0 ∧ ¬ nI f0 ≤ p0))) := by
  refine sq_ofWi (cc := cX0_isInSquare) (maxL := 2) (by decide) rfl (Nat.le_of_ble_eq_true rfl) (sq_b_narrow _) ?_
  intro p e s m args below meth c A ls Q hx hb hts hown hml hK hP hD hS hA hl hend
  have hl : lv_has ls 2 [(0, .ref h0), (1, .int p0)] := hl
  have hin : ∀ w ∈ u_ws RX0 TX0 20, w ∈ wsX0_isInSquare := fun w h => List.mem_cons_of_mem _ (inX0 w h)
  have k124 := hts _ (List.mem_cons_of_mem _ mfX0_124)
  refine lv_iload_n hx hb dX0_isInSquare_0 rfl (lv_at hl 1 rfl) ?_
  refine lv_if_lt (tgt := 16) hx hb dX0_isInSquare_1 (by decide) (fun hc => ?_) (fun hc => ?_)
  · refine lv_iconst (v := nI 0) hx hb dX0_isInSquare_16 (by decide +kernel) ?_
    exact hend _ _ _ _ _ (sq_bF (fun h => h.1 hc)) hP hD hS dX0_isInSquare_17
  · refine lv_iload_n hx hb dX0_isInSquare_4 rfl (lv_at hl 1 rfl) ?_
    refine lv_aload_n hx hb dX0_isInSquare_5 rfl (lv_at hl 0 rfl) ?_
    refine va_get (D := (dC, dI)) (ci := 0) (v := .int (nI f0)) (C := RX0) (T := TX0) (N := 20) hx hb hts hin hown hK hP 0 rfl rfl 11 (by decide) k124 (fun _ h9 => h9) rfl dX0_isInSquare_6 ?_
    refine lv_icmp_ge (tgt := 16) hx hb dX0_isInSquare_9 (by decide) (fun hd => ?_) (fun hd => ?_)
    · refine lv_iconst (v := nI 0) hx hb dX0_isInSquare_16 (by decide +kernel) ?_
      exact hend _ _ _ _ _ (sq_bF (fun h => h.2 hd)) hP hD hS dX0_isInSquare_17
    · refine lv_iconst (v := nI 1) hx hb dX0_isInSquare_12 (by decide +kernel) ?_
      refine lv_goto (tgt := 17) hx hb dX0_isInSquare_13 (by decide) ?_
      exact hend _ _ _ _ _ (sq_bT ⟨hc, hd⟩) hP hD hS dX0_isInSquare_17
def rm_isVector : Room := { frames := 0, cells := 0, slots := 0, locals := 0 }
set_option maxHeartbeats 4000000 in
set_option maxRecDepth 100000 in
theorem c_isVector (l : Launch) (dC : Nat → ClassId) (dI : Nat → Nat → Nat) (h0 : Nat) (q : Nat → Nat) (cI cZ : ClassId) (a0 a1 a2 a3 a4 a5 a6 a7 a8 a9 a10 : Nat → Int32) (f0 f1 f2 f3 f4 f5 f6 f7 f8 : Nat) (p0 : Int32)  : sq_Mi l yX0_isVector wsX0_isVector rm_isVector [.ref h0, .int p0] (dC, dI) vwCl [(cI, .int), (cZ, .boolean)] (wX h0 q cI cZ a0 a1 a2 a3 a4 a5 a6 a7 a8 a9 a10 f0 f1 f2 f3 f4 f5 f6 f7 f8) (wX h0 q cI cZ a0 a1 a2 a3 a4 a5 a6 a7 a8 a9 a10 f0 f1 f2 f3 f4 f5 f6 f7 f8) (sq_b (decide (¬ p0 < 0 ∧ ¬ nI f5 ≤ p0))) := by
  refine sq_ofWi (cc := cX0_isVector) (maxL := 2) (by decide) rfl (Nat.le_of_ble_eq_true rfl) (sq_b_narrow _) ?_
  intro p e s m args below meth c A ls Q hx hb hts hown hml hK hP hD hS hA hl hend
  have hl : lv_has ls 2 [(0, .ref h0), (1, .int p0)] := hl
  have hin : ∀ w ∈ u_ws RX0 TX0 20, w ∈ wsX0_isVector := fun w h => List.mem_cons_of_mem _ (inX0 w h)
  have k64 := hts _ (List.mem_cons_of_mem _ mfX0_64)
  refine lv_iload_n hx hb dX0_isVector_0 rfl (lv_at hl 1 rfl) ?_
  refine lv_if_lt (tgt := 16) hx hb dX0_isVector_1 (by decide) (fun hc => ?_) (fun hc => ?_)
  · refine lv_iconst (v := nI 0) hx hb dX0_isVector_16 (by decide +kernel) ?_
    exact hend _ _ _ _ _ (sq_bF (fun h => h.1 hc)) hP hD hS dX0_isVector_17
  · refine lv_iload_n hx hb dX0_isVector_4 rfl (lv_at hl 1 rfl) ?_
    refine lv_aload_n hx hb dX0_isVector_5 rfl (lv_at hl 0 rfl) ?_
    refine va_get (D := (dC, dI)) (ci := 0) (v := .int (nI f5)) (C := RX0) (T := TX0) (N := 20) hx hb hts hin hown hK hP 0 rfl rfl 16 (by decide) k64 (fun _ h9 => h9) rfl dX0_isVector_6 ?_
    refine lv_icmp_ge (tgt := 16) hx hb dX0_isVector_9 (by decide) (fun hd => ?_) (fun hd => ?_)
    · refine lv_iconst (v := nI 0) hx hb dX0_isVector_16 (by decide +kernel) ?_
      exact hend _ _ _ _ _ (sq_bF (fun h => h.2 hd)) hP hD hS dX0_isVector_17
    · refine lv_iconst (v := nI 1) hx hb dX0_isVector_12 (by decide +kernel) ?_
      refine lv_goto (tgt := 17) hx hb dX0_isVector_13 (by decide) ?_
      exact hend _ _ _ _ _ (sq_bT ⟨hc, hd⟩) hP hD hS dX0_isVector_17
def rm_crossing : Room := { frames := 0, cells := 0, slots := 0, locals := 0 }
set_option maxHeartbeats 4000000 in
set_option maxRecDepth 100000 in
theorem c_crossing (l : Launch) (dC : Nat → ClassId) (dI : Nat → Nat → Nat) (h0 : Nat) (q : Nat → Nat) (cI cZ : ClassId) (a0 a1 a2 a3 a4 a5 a6 a7 a8 a9 a10 : Nat → Int32) (f0 f1 f2 f3 f4 f5 f6 f7 f8 : Nat)  (hn : 1 ≤ f0) : sq_Mi l yX0_crossing wsX0_crossing rm_crossing [.ref h0] (dC, dI) vwCl [(cI, .int), (cZ, .boolean)] (wX h0 q cI cZ a0 a1 a2 a3 a4 a5 a6 a7 a8 a9 a10 f0 f1 f2 f3 f4 f5 f6 f7 f8) (wX h0 q cI cZ a0 a1 a2 a3 a4 a5 a6 a7 a8 a9 a10 f0 f1 f2 f3 f4 f5 f6 f7 f8) (nI (2 * f0 - 2)) := by
  refine sq_ofWi (cc := cX0_crossing) (maxL := 1) (by decide) rfl (Nat.le_of_ble_eq_true rfl) (vp_nar_int _) ?_
  intro p e s m args below meth c A ls Q hx hb hts hown hml hK hP hD hS hA hl hend
  have hl : lv_has ls 1 [(0, .ref h0)] := hl
  have hin : ∀ w ∈ u_ws RX0 TX0 20, w ∈ wsX0_crossing := fun w h => List.mem_cons_of_mem _ (inX0 w h)
  have k124 := hts _ (List.mem_cons_of_mem _ mfX0_124)
  refine lv_iconst (v := nI 2) hx hb dX0_crossing_0 (by decide +kernel) ?_
  refine lv_aload_n hx hb dX0_crossing_1 rfl (lv_at hl 0 rfl) ?_
  refine va_get (D := (dC, dI)) (ci := 0) (v := .int (nI f0)) (C := RX0) (T := TX0) (N := 20) hx hb hts hin hown hK hP 0 rfl rfl 11 (by decide) k124 (fun _ h9 => h9) rfl dX0_crossing_2 ?_
  refine sq_imul hx hb dX0_crossing_5 ?_
  refine lv_iconst (v := nI 2) hx hb dX0_crossing_6 (by decide +kernel) ?_
  refine sq_isub hx hb (by omega) dX0_crossing_7 ?_
  exact hend _ _ _ _ _ rfl hP hD hS dX0_crossing_8
def rm_isSetComplete : Room := { frames := 0, cells := 0, slots := 0, locals := 0 }
set_option maxHeartbeats 4000000 in
set_option maxRecDepth 100000 in
theorem c_isSetComplete (l : Launch) (dC : Nat → ClassId) (dI : Nat → Nat → Nat) (h0 : Nat) (q : Nat → Nat) (cI cZ : ClassId) (a0 a1 a2 a3 a4 a5 a6 a7 a8 a9 a10 : Nat → Int32) (f0 f1 f2 f3 f4 f5 f6 f7 f8 : Nat)  (b4 : f4 < 2 ^ 31) (b0 : f0 < 2 ^ 31) : sq_Mi l yX0_isSetComplete wsX0_isSetComplete rm_isSetComplete [.ref h0] (dC, dI) vwCl [(cI, .int), (cZ, .boolean)] (wX h0 q cI cZ a0 a1 a2 a3 a4 a5 a6 a7 a8 a9 a10 f0 f1 f2 f3 f4 f5 f6 f7 f8) (wX h0 q cI cZ a0 a1 a2 a3 a4 a5 a6 a7 a8 a9 a10 f0 f1 f2 f3 f4 f5 f6 f7 f8) (sq_b (decide (f4 = f0))) := by
  refine sq_ofWi (cc := cX0_isSetComplete) (maxL := 1) (by decide) rfl (Nat.le_of_ble_eq_true rfl) (sq_b_narrow _) ?_
  intro p e s m args below meth c A ls Q hx hb hts hown hml hK hP hD hS hA hl hend
  have hl : lv_has ls 1 [(0, .ref h0)] := hl
  have hin : ∀ w ∈ u_ws RX0 TX0 20, w ∈ wsX0_isSetComplete := fun w h => List.mem_cons_of_mem _ (inX0 w h)
  have k124 := hts _ (List.mem_cons_of_mem _ mfX0_124)
  have k129 := hts _ (List.mem_cons_of_mem _ mfX0_129)
  refine lv_aload_n hx hb dX0_isSetComplete_0 rfl (lv_at hl 0 rfl) ?_
  refine va_get (D := (dC, dI)) (ci := 0) (v := .int (nI f4)) (C := RX0) (T := TX0) (N := 20) hx hb hts hin hown hK hP 0 rfl rfl 15 (by decide) k129 (fun _ h9 => h9) rfl dX0_isSetComplete_1 ?_
  refine lv_aload_n hx hb dX0_isSetComplete_4 rfl (lv_at hl 0 rfl) ?_
  refine va_get (D := (dC, dI)) (ci := 0) (v := .int (nI f0)) (C := RX0) (T := TX0) (N := 20) hx hb hts hin hown hK hP 0 rfl rfl 11 (by decide) k124 (fun _ h9 => h9) rfl dX0_isSetComplete_5 ?_
  refine sq_icmp_ne (tgt := 15) hx hb (by omega) (by omega) dX0_isSetComplete_8 (by decide) (fun hc => ?_) (fun hc => ?_)
  · refine lv_iconst (v := nI 0) hx hb dX0_isSetComplete_15 (by decide +kernel) ?_
    exact hend _ _ _ _ _ (sq_bF hc) hP hD hS dX0_isSetComplete_16
  · refine lv_iconst (v := nI 1) hx hb dX0_isSetComplete_11 (by decide +kernel) ?_
    refine lv_goto (tgt := 16) hx hb dX0_isSetComplete_12 (by decide) ?_
    exact hend _ _ _ _ _ (sq_bT hc) hP hD hS dX0_isSetComplete_16
def rm_canVectorEnter : Room := { frames := 1, cells := 0, slots := 0, locals := 20 }
set_option maxHeartbeats 4000000 in
set_option maxRecDepth 100000 in
theorem c_canVectorEnter (l : Launch) (dC : Nat → ClassId) (dI : Nat → Nat → Nat) (h0 : Nat) (q : Nat → Nat) (cI cZ : ClassId) (a0 a1 a2 a3 a4 a5 a6 a7 a8 a9 a10 : Nat → Int32) (f0 f1 f2 f3 f4 f5 f6 f7 f8 : Nat)  (b4 : f4 < 2 ^ 31) (b0 : f0 < 2 ^ 31) (b5 : f5 ≤ 200) (b6 : f6 < 2 ^ 31) : sq_Mi l yX0_canVectorEnter wsX0_canVectorEnter rm_canVectorEnter [.ref h0] (dC, dI) vwCl [(cI, .int), (cZ, .boolean)] (wX h0 q cI cZ a0 a1 a2 a3 a4 a5 a6 a7 a8 a9 a10 f0 f1 f2 f3 f4 f5 f6 f7 f8) (wX h0 q cI cZ a0 a1 a2 a3 a4 a5 a6 a7 a8 a9 a10 f0 f1 f2 f3 f4 f5 f6 f7 f8) (sq_b (decide (f6 < f5 ∧ (a3 f6 = 0 ∨ f4 = f0)))) := by
  refine sq_ofWi (cc := cX0_canVectorEnter) (maxL := 1) (by decide) rfl (Nat.le_of_ble_eq_true rfl) (sq_b_narrow _) ?_
  intro p e s m args below meth c A ls Q hx hb hts hown hml hK hP hD hS hA hl hend
  have hl : lv_has ls 1 [(0, .ref h0)] := hl
  have hin : ∀ w ∈ u_ws RX0 TX0 20, w ∈ wsX0_canVectorEnter := fun w h => List.mem_cons_of_mem _ (inX0 w h)
  have k19 := hts _ (List.mem_cons_of_mem _ mfX0_19)
  have k64 := hts _ (List.mem_cons_of_mem _ mfX0_64)
  have k98 := hts _ (List.mem_cons_of_mem _ mfX0_98)
  refine lv_aload_n hx hb dX0_canVectorEnter_0 rfl (lv_at hl 0 rfl) ?_
  refine va_get (D := (dC, dI)) (ci := 0) (v := .int (nI f6)) (C := RX0) (T := TX0) (N := 20) hx hb hts hin hown hK hP 0 rfl rfl 17 (by decide) k98 (fun _ h9 => h9) rfl dX0_canVectorEnter_1 ?_
  refine lv_aload_n hx hb dX0_canVectorEnter_4 rfl (lv_at hl 0 rfl) ?_
  refine va_get (D := (dC, dI)) (ci := 0) (v := .int (nI f5)) (C := RX0) (T := TX0) (N := 20) hx hb hts hin hown hK hP 0 rfl rfl 16 (by decide) k64 (fun _ h9 => h9) rfl dX0_canVectorEnter_5 ?_
  refine sq_icmp_ge (tgt := 34) hx hb (by omega) (by omega) dX0_canVectorEnter_8 (by decide) (fun hc => ?_) (fun hc => ?_)
  · refine lv_iconst (v := nI 0) hx hb dX0_canVectorEnter_34 (by decide +kernel) ?_
    exact hend _ _ _ _ _ (sq_bF (fun h => absurd h.1 (by omega))) hP hD hS dX0_canVectorEnter_35
  · refine lv_aload_n hx hb dX0_canVectorEnter_11 rfl (lv_at hl 0 rfl) ?_
    refine va_get (D := (dC, dI)) (ci := 0) (v := .ref (q 3)) (C := RX0) (T := TX0) (N := 20) hx hb hts hin hown hK hP 0 rfl rfl 3 (by decide) k19 (fun _ h9 => h9) rfl dX0_canVectorEnter_12 ?_
    refine lv_aload_n hx hb dX0_canVectorEnter_15 rfl (lv_at hl 0 rfl) ?_
    refine va_get (D := (dC, dI)) (ci := 0) (v := .int (nI f6)) (C := RX0) (T := TX0) (N := 20) hx hb hts hin hown hK hP 0 rfl rfl 17 (by decide) k98 (fun _ h9 => h9) rfl dX0_canVectorEnter_16 ?_
    refine sq_zald hx hb hK hP 4 1 rfl rfl (i := f6) (by omega) (by decide) dX0_canVectorEnter_19 ?_
    refine lv_if_eq (tgt := 30) hx hb dX0_canVectorEnter_20 (by decide) (fun hd => ?_) (fun hd => ?_)
    · refine lv_iconst (v := nI 1) hx hb dX0_canVectorEnter_30 (by decide +kernel) ?_
      refine lv_goto (tgt := 35) hx hb dX0_canVectorEnter_31 (by decide) ?_
      exact hend _ _ _ _ _ (sq_bT ⟨hc, Or.inl hd⟩) hP hD hS dX0_canVectorEnter_35
    · refine lv_aload_n hx hb dX0_canVectorEnter_23 rfl (lv_at hl 0 rfl) ?_
      refine sq_calli (As := []) (c_isSetComplete l dC dI h0 q cI cZ a0 a1 a2 a3 a4 a5 a6 a7 a8 a9 a10 f0 f1 f2 f3 f4 f5 f6 f7 f8 b4 b0) ⟨hx, hb, hml, hown, hts⟩ (cwV 0 hts (sq_good gvX0_118) rfl rfl rfl (by decide +kernel) ⟨Nat.le_of_ble_eq_true rfl, Nat.le_of_ble_eq_true rfl⟩) hK hP hD hS hA rfl rfl rfl rfl hl.1 rfl (Nat.le_of_ble_eq_true rfl) dX0_canVectorEnter_24 ⟨Nat.zero_le _, Nat.zero_le _⟩ (fun H locs hP hD hS => ?_)
      refine lv_if_eq (tgt := 34) hx hb dX0_canVectorEnter_27 (by decide) (fun he => ?_) (fun he => ?_)
      · refine lv_iconst (v := nI 0) hx hb dX0_canVectorEnter_34 (by decide +kernel) ?_
        exact hend _ _ _ _ _ (sq_bF (fun h => h.2.elim hd (sq_b0d he))) hP hD hS dX0_canVectorEnter_35
      · refine lv_iconst (v := nI 1) hx hb dX0_canVectorEnter_30 (by decide +kernel) ?_
        refine lv_goto (tgt := 35) hx hb dX0_canVectorEnter_31 (by decide) ?_
        exact hend _ _ _ _ _ (sq_bT ⟨hc, Or.inr (sq_bnd he)⟩) hP hD hS dX0_canVectorEnter_35
def rm_canRowComeIn : Room := { frames := 1, cells := 0, slots := 0, locals := 20 }
set_option maxHeartbeats 4000000 in
set_option maxRecDepth 100000 in
theorem c_canRowComeIn (l : Launch) (dC : Nat → ClassId) (dI : Nat → Nat → Nat) (h0 : Nat) (q : Nat → Nat) (cI cZ : ClassId) (a0 a1 a2 a3 a4 a5 a6 a7 a8 a9 a10 : Nat → Int32) (f0 f1 f2 f3 f4 f5 f6 f7 f8 : Nat) (c0 : Nat) (b0 : 1 ≤ f0) (b1 : f0 ≤ 6) (b2 : f2 < 2 ^ 31) (b3 : f3 < 2 ^ 31) (b4 : f4 < 2 ^ 31) (b7 : f7 < 2 ^ 31) (b8 : f8 ≤ c0) (b9 : c0 < 2 ^ 31) : sq_Mi l yX0_canRowComeIn wsX0_canRowComeIn rm_canRowComeIn [.ref h0, .int (nI c0)] (dC, dI) vwCl [(cI, .int), (cZ, .boolean)] (wX h0 q cI cZ a0 a1 a2 a3 a4 a5 a6 a7 a8 a9 a10 f0 f1 f2 f3 f4 f5 f6 f7 f8) (wX h0 q cI cZ a0 a1 a2 a3 a4 a5 a6 a7 a8 a9 a10 f0 f1 f2 f3 f4 f5 f6 f7 f8) (sq_b (decide (f3 < f2 ∧ ¬ f4 = f0 ∧ (f7 = 0 ∨ 2 * f0 - 2 < c0 - f8)))) := by
  refine sq_ofWi (cc := cX0_canRowComeIn) (maxL := 2) (by decide) rfl (Nat.le_of_ble_eq_true rfl) (sq_b_narrow _) ?_
  intro p e s m args below meth c A ls Q hx hb hts hown hml hK hP hD hS hA hl hend
  have hl : lv_has ls 2 [(0, .ref h0), (1, .int (nI c0))] := hl
  have hin : ∀ w ∈ u_ws RX0 TX0 20, w ∈ wsX0_canRowComeIn := fun w h => List.mem_cons_of_mem _ (inX0 w h)
  have k55 := hts _ (List.mem_cons_of_mem _ mfX0_55)
  have k112 := hts _ (List.mem_cons_of_mem _ mfX0_112)
  have k115 := hts _ (List.mem_cons_of_mem _ mfX0_115)
  have k132 := hts _ (List.mem_cons_of_mem _ mfX0_132)
  refine lv_aload_n hx hb dX0_canRowComeIn_0 rfl (lv_at hl 0 rfl) ?_
  refine va_get (D := (dC, dI)) (ci := 0) (v := .int (nI f3)) (C := RX0) (T := TX0) (N := 20) hx hb hts hin hown hK hP 0 rfl rfl 14 (by decide) k112 (fun _ h9 => h9) rfl dX0_canRowComeIn_1 ?_
  refine lv_aload_n hx hb dX0_canRowComeIn_4 rfl (lv_at hl 0 rfl) ?_
  refine va_get (D := (dC, dI)) (ci := 0) (v := .int (nI f2)) (C := RX0) (T := TX0) (N := 20) hx hb hts hin hown hK hP 0 rfl rfl 13 (by decide) k55 (fun _ h9 => h9) rfl dX0_canRowComeIn_5 ?_
  refine sq_icmp_ge (tgt := 42) hx hb (by omega) (by omega) dX0_canRowComeIn_8 (by decide) (fun hc => ?_) (fun hc => ?_)
  · refine lv_iconst (v := nI 0) hx hb dX0_canRowComeIn_42 (by decide +kernel) ?_
    exact hend _ _ _ _ _ (sq_bF (fun h => absurd h.1 (by omega))) hP hD hS dX0_canRowComeIn_43
  · refine lv_aload_n hx hb dX0_canRowComeIn_11 rfl (lv_at hl 0 rfl) ?_
    refine sq_calli (As := []) (c_isSetComplete l dC dI h0 q cI cZ a0 a1 a2 a3 a4 a5 a6 a7 a8 a9 a10 f0 f1 f2 f3 f4 f5 f6 f7 f8 b4 (by omega)) ⟨hx, hb, hml, hown, hts⟩ (cwV 0 hts (sq_good gvX0_118) rfl rfl rfl (by decide +kernel) ⟨Nat.le_of_ble_eq_true rfl, Nat.le_of_ble_eq_true rfl⟩) hK hP hD hS hA rfl rfl rfl rfl hl.1 rfl (Nat.le_of_ble_eq_true rfl) dX0_canRowComeIn_12 ⟨Nat.zero_le _, Nat.zero_le _⟩ (fun H locs hP hD hS => ?_)
    refine lv_if_ne (tgt := 42) hx hb dX0_canRowComeIn_15 (by decide) (fun hd => ?_) (fun hd => ?_)
    · refine lv_iconst (v := nI 0) hx hb dX0_canRowComeIn_42 (by decide +kernel) ?_
      exact hend _ _ _ _ _ (sq_bF (fun h => h.2.1 (sq_bnd hd))) hP hD hS dX0_canRowComeIn_43
    · refine lv_aload_n hx hb dX0_canRowComeIn_18 rfl (lv_at hl 0 rfl) ?_
      refine va_get (D := (dC, dI)) (ci := 0) (v := .int (nI f7)) (C := RX0) (T := TX0) (N := 20) hx hb hts hin hown hK hP 0 rfl rfl 18 (by decide) k115 (fun _ h9 => h9) rfl dX0_canRowComeIn_19 ?_
      refine sq_if_eq (tgt := 38) hx hb (by omega) dX0_canRowComeIn_22 (by decide) (fun he => ?_) (fun he => ?_)
      · refine lv_iconst (v := nI 1) hx hb dX0_canRowComeIn_38 (by decide +kernel) ?_
        refine lv_goto (tgt := 43) hx hb dX0_canRowComeIn_39 (by decide) ?_
        exact hend _ _ _ _ _ (sq_bT ⟨hc, sq_b0d hd, Or.inl he⟩) hP hD hS dX0_canRowComeIn_43
      · refine lv_iload_n hx hb dX0_canRowComeIn_25 rfl (lv_at hl 1 rfl) ?_
        refine lv_aload_n hx hb dX0_canRowComeIn_26 rfl (lv_at hl 0 rfl) ?_
        refine va_get (D := (dC, dI)) (ci := 0) (v := .int (nI f8)) (C := RX0) (T := TX0) (N := 20) hx hb hts hin hown hK hP 0 rfl rfl 19 (by decide) k132 (fun _ h9 => h9) rfl dX0_canRowComeIn_27 ?_
        refine sq_isub hx hb (by omega) dX0_canRowComeIn_30 ?_
        refine lv_aload_n hx hb dX0_canRowComeIn_31 rfl (lv_at hl 0 rfl) ?_
        refine sq_calli (As := []) (c_crossing l dC dI h0 q cI cZ a0 a1 a2 a3 a4 a5 a6 a7 a8 a9 a10 f0 f1 f2 f3 f4 f5 f6 f7 f8 b0) ⟨hx, hb, hml, hown, hts⟩ (cwV 0 hts (sq_good gvX0_103) rfl rfl rfl (by decide +kernel) ⟨Nat.le_of_ble_eq_true rfl, Nat.le_of_ble_eq_true rfl⟩) hK hP hD hS hA rfl rfl rfl rfl hl.1 rfl (Nat.le_of_ble_eq_true rfl) dX0_canRowComeIn_32 ⟨Nat.zero_le _, Nat.zero_le _⟩ (fun H locs hP hD hS => ?_)
        refine sq_icmp_le (tgt := 42) hx hb (by omega) (by omega) dX0_canRowComeIn_35 (by decide) (fun hf => ?_) (fun hf => ?_)
        · refine lv_iconst (v := nI 0) hx hb dX0_canRowComeIn_42 (by decide +kernel) ?_
          exact hend _ _ _ _ _ (sq_bF (fun h => h.2.2.elim he (fun h => absurd h (by omega)))) hP hD hS dX0_canRowComeIn_43
        · refine lv_iconst (v := nI 1) hx hb dX0_canRowComeIn_38 (by decide +kernel) ?_
          refine lv_goto (tgt := 43) hx hb dX0_canRowComeIn_39 (by decide) ?_
          exact hend _ _ _ _ _ (sq_bT ⟨hc, sq_b0d hd, Or.inr hf⟩) hP hD hS dX0_canRowComeIn_43
def rm_countReachedCells : Room := { frames := 0, cells := 0, slots := 0, locals := 0 }
set_option maxHeartbeats 4000000 in
set_option maxRecDepth 100000 in
theorem c_countReachedCells (l : Launch) (dC : Nat → ClassId) (dI : Nat → Nat → Nat) (h0 : Nat) (q : Nat → Nat) (cI cZ : ClassId) (a0 a1 a2 a3 a4 a5 a6 a7 a8 a9 a10 : Nat → Int32) (f0 f1 f2 f3 f4 f5 f6 f7 f8 : Nat)  (b0 : 1 ≤ f0) (b1 : f0 ≤ 6) : sq_Mi l yX0_countReachedCells wsX0_countReachedCells rm_countReachedCells [.ref h0] (dC, dI) vwCl [(cI, .int), (cZ, .boolean)] (wX h0 q cI cZ a0 a1 a2 a3 a4 a5 a6 a7 a8 a9 a10 f0 f1 f2 f3 f4 f5 f6 f7 f8) (wX h0 q cI cZ a0 a1 a2 a3 a4 a5 a6 a7 a8 a9 a10 f0 f1 f2 f3 f4 f5 f6 f7 f8) (nI (sq_cntR a5 f0 f0)) := by
  refine sq_ofWi (cc := cX0_countReachedCells) (maxL := 4) (by decide) rfl (Nat.le_of_ble_eq_true rfl) (vp_nar_int _) ?_
  intro p e s m args below meth c A ls Q hx hb hts hown hml hK hP hD hS hA hl hend
  have hl : lv_has ls 4 [(0, .ref h0)] := hl
  have hin : ∀ w ∈ u_ws RX0 TX0 20, w ∈ wsX0_countReachedCells := fun w h => List.mem_cons_of_mem _ (inX0 w h)
  have k26 := hts _ (List.mem_cons_of_mem _ mfX0_26)
  have k124 := hts _ (List.mem_cons_of_mem _ mfX0_124)
  refine lv_iconst (v := nI 0) hx hb dX0_countReachedCells_0 (by decide +kernel) ?_
  refine lv_istore_n (lv' := [(1, .int (nI 0)), (0, .ref h0)]) hx hb dX0_countReachedCells_1 rfl hl (by decide) rfl (fun ls hl => ?_)
  refine lv_iconst (v := nI 0) hx hb dX0_countReachedCells_2 (by decide +kernel) ?_
  refine lv_istore_n (lv' := [(2, .int (nI 0)), (1, .int (nI 0)), (0, .ref h0)]) hx hb dX0_countReachedCells_3 rfl hl (by decide) rfl (fun ls hl => ?_)
  have L1 : ∀ k r : Nat, r + k = f0 → ∀ ls : Array Slot, lv_has ls 4 [(2, .int (nI r)), (1, .int (nI (sq_cntR a5 f0 r))), (0, .ref h0)] → W p l e rm_countReachedCells s m args below meth c s.heap [] 0 0 Q (F0 m 4 ls []) := by
    intro k
    induction k using Nat.strongRecOn with
    | _ k ih =>
      intro r hr ls hl
      have b5 := sq_cntR_le a5 f0 r
      have b6 : r * f0 ≤ 36 := Nat.mul_le_mul (show r ≤ 6 by omega) b1
      refine lv_iload_n hx hb dX0_countReachedCells_4 rfl (lv_at hl 0 rfl) ?_
      refine lv_aload_n hx hb dX0_countReachedCells_5 rfl (lv_at hl 2 rfl) ?_
      refine va_get (D := (dC, dI)) (ci := 0) (v := .int (nI f0)) (C := RX0) (T := TX0) (N := 20) hx hb hts hin hown hK hP 0 rfl rfl 11 (by decide) k124 (fun _ h9 => h9) rfl dX0_countReachedCells_6 ?_
      refine sq_icmp_ge (tgt := 49) hx hb (by omega) (by omega) dX0_countReachedCells_9 (by decide) (fun hc => ?_) (fun hc => ?_)
      · refine lv_iload_n hx hb dX0_countReachedCells_49 rfl (lv_at hl 1 rfl) ?_
        exact hend _ _ _ _ _ (by rw [show r = f0 by omega]) hP hD hS dX0_countReachedCells_50
      · refine lv_iconst (v := nI 0) hx hb dX0_countReachedCells_12 (by decide +kernel) ?_
        refine lv_istore_n (lv' := [(3, .int (nI 0)), (2, .int (nI r)), (1, .int (nI (sq_cntR a5 f0 r))), (0, .ref h0)]) hx hb dX0_countReachedCells_13 rfl hl (by decide) rfl (fun ls hl => ?_)
        have L2 : ∀ j t : Nat, t + j = f0 → ∀ ls : Array Slot, lv_has ls 4 [(3, .int (nI t)), (2, .int (nI r)), (1, .int (nI (sq_cntR a5 f0 r + sq_cntC a5 r t))), (0, .ref h0)] → W p l e rm_countReachedCells s m args below meth c s.heap [] 0 0 Q (F0 m 14 ls []) := by
          intro j
          induction j using Nat.strongRecOn with
          | _ j ih2 =>
            intro t ht ls hl
            have b7 := sq_cntC_le a5 r t
            refine lv_iload_n hx hb dX0_countReachedCells_14 rfl (lv_at hl 0 rfl) ?_
            refine lv_aload_n hx hb dX0_countReachedCells_15 rfl (lv_at hl 3 rfl) ?_
            refine va_get (D := (dC, dI)) (ci := 0) (v := .int (nI f0)) (C := RX0) (T := TX0) (N := 20) hx hb hts hin hown hK hP 0 rfl rfl 11 (by decide) k124 (fun _ h9 => h9) rfl dX0_countReachedCells_16 ?_
            refine sq_icmp_ge (tgt := 43) hx hb (by omega) (by omega) dX0_countReachedCells_19 (by decide) (fun hd => ?_) (fun hd => ?_)
            · refine lv_iinc (v := nI (r + 1)) (lv' := [(2, .int (nI (r + 1))), (3, .int (nI t)), (1, .int (nI (sq_cntR a5 f0 r + sq_cntC a5 r t))), (0, .ref h0)]) hx hb dX0_countReachedCells_43 hl (k := 1) rfl (sq_inc _) (by decide) rfl (fun ls hl => ?_)
              refine lv_goto (tgt := 4) hx hb dX0_countReachedCells_46 (by decide) ?_
              refine ih (k - 1) (by omega) (r + 1) (by omega) ls ?_
              have e9 : sq_cntR a5 f0 (r + 1) = sq_cntR a5 f0 r + sq_cntC a5 r t := by rw [show t = f0 by omega]; rfl
              rw [e9]
              exact lv_sub hl [0, 2, 3] rfl
            · refine lv_aload_n hx hb dX0_countReachedCells_22 rfl (lv_at hl 3 rfl) ?_
              refine va_get (D := (dC, dI)) (ci := 0) (v := .ref (q 5)) (C := RX0) (T := TX0) (N := 20) hx hb hts hin hown hK hP 0 rfl rfl 5 (by decide) k26 (fun _ h9 => h9) rfl dX0_countReachedCells_23 ?_
              refine lv_iload_n hx hb dX0_countReachedCells_26 rfl (lv_at hl 1 rfl) ?_
              refine lv_iload_n hx hb dX0_countReachedCells_27 rfl (lv_at hl 0 rfl) ?_
              refine sq_iadd hx hb dX0_countReachedCells_28 ?_
              refine sq_iald hx hb hK hP 6 0 rfl rfl (i := (r + t)) (by omega) (by decide) dX0_countReachedCells_29 ?_
              refine lv_iconst (v := (-1)) hx hb dX0_countReachedCells_30 (by decide +kernel) ?_
              refine lv_icmp_eq (tgt := 37) hx hb dX0_countReachedCells_31 (by decide) (fun he => ?_) (fun he => ?_)
              · refine lv_iinc (v := nI (t + 1)) (lv' := [(3, .int (nI (t + 1))), (2, .int (nI r)), (1, .int (nI (sq_cntR a5 f0 r + sq_cntC a5 r t))), (0, .ref h0)]) hx hb dX0_countReachedCells_37 hl (k := 0) rfl (sq_inc _) (by decide) rfl (fun ls hl => ?_)
                refine lv_goto (tgt := 14) hx hb dX0_countReachedCells_40 (by decide) ?_
                refine ih2 (j - 1) (by omega) (t + 1) (by omega) ls ?_
                have e9 : sq_cntR a5 f0 r + sq_cntC a5 r (t + 1) = sq_cntR a5 f0 r + sq_cntC a5 r t := by
                  rw [show sq_cntC a5 r (t + 1) = sq_cntC a5 r t + (if a5 (r + t) = -1 then 0 else 1) from rfl, if_pos he, Nat.add_zero]
                rw [e9]
                exact lv_sub hl [0, 1, 2, 3] rfl
              · refine lv_iinc (v := nI ((sq_cntR a5 f0 r + sq_cntC a5 r t) + 1)) (lv' := [(1, .int (nI ((sq_cntR a5 f0 r + sq_cntC a5 r t) + 1))), (3, .int (nI t)), (2, .int (nI r)), (0, .ref h0)]) hx hb dX0_countReachedCells_34 hl (k := 2) rfl (sq_inc _) (by decide) rfl (fun ls hl => ?_)
                refine lv_iinc (v := nI (t + 1)) (lv' := [(3, .int (nI (t + 1))), (1, .int (nI ((sq_cntR a5 f0 r + sq_cntC a5 r t) + 1))), (2, .int (nI r)), (0, .ref h0)]) hx hb dX0_countReachedCells_37 hl (k := 1) rfl (sq_inc _) (by decide) rfl (fun ls hl => ?_)
                refine lv_goto (tgt := 14) hx hb dX0_countReachedCells_40 (by decide) ?_
                refine ih2 (j - 1) (by omega) (t + 1) (by omega) ls ?_
                have e9 : sq_cntR a5 f0 r + sq_cntC a5 r (t + 1) = sq_cntR a5 f0 r + sq_cntC a5 r t + 1 := by
                  rw [show sq_cntC a5 r (t + 1) = sq_cntC a5 r t + (if a5 (r + t) = -1 then 0 else 1) from rfl, if_neg he]; omega
                rw [e9]
                exact lv_sub hl [0, 2, 1, 3] rfl
        exact L2 f0 0 (by omega) ls (lv_sub hl [0, 1, 2, 3] rfl)
  exact L1 f0 0 (by omega) ls hl
def rm_isAtRest : Room := { frames := 2, cells := 0, slots := 0, locals := 41 }
set_option maxHeartbeats 4000000 in
set_option maxRecDepth 100000 in
theorem c_isAtRest (l : Launch) (dC : Nat → ClassId) (dI : Nat → Nat → Nat) (h0 : Nat) (q : Nat → Nat) (cI cZ : ClassId) (a0 a1 a2 a3 a4 a5 a6 a7 a8 a9 a10 : Nat → Int32) (f0 f1 f2 f3 f4 f5 f6 f7 f8 : Nat)  (b0 : 1 ≤ f0) (b1 : f0 ≤ 6) (b2 : f2 < 2 ^ 31) (b3 : f3 < 2 ^ 31) (b4 : f4 < 2 ^ 31) (b5 : f5 ≤ 200) (b6 : f6 < 2 ^ 31) (b7 : f7 < 2 ^ 31) (b8 : f8 ≤ f1) (b9 : f1 ≤ 100000) : sq_Mi l yX0_isAtRest wsX0_isAtRest rm_isAtRest [.ref h0] (dC, dI) vwCl [(cI, .int), (cZ, .boolean)] (wX h0 q cI cZ a0 a1 a2 a3 a4 a5 a6 a7 a8 a9 a10 f0 f1 f2 f3 f4 f5 f6 f7 f8) (wX h0 q cI cZ a0 a1 a2 a3 a4 a5 a6 a7 a8 a9 a10 f0 f1 f2 f3 f4 f5 f6 f7 f8) (sq_b (decide (¬ (f6 < f5 ∧ (a3 f6 = 0 ∨ f4 = f0)) ∧ ¬ (f3 < f2 ∧ ¬ f4 = f0 ∧ (f7 = 0 ∨ 2 * f0 - 2 < f1 + 1 - f8)) ∧ sq_cntR a5 f0 f0 = 0))) := by
  refine sq_ofWi (cc := cX0_isAtRest) (maxL := 1) (by decide) rfl (Nat.le_of_ble_eq_true rfl) (sq_b_narrow _) ?_
  intro p e s m args below meth c A ls Q hx hb hts hown hml hK hP hD hS hA hl hend
  have hl : lv_has ls 1 [(0, .ref h0)] := hl
  have hin : ∀ w ∈ u_ws RX0 TX0 20, w ∈ wsX0_isAtRest := fun w h => List.mem_cons_of_mem _ (inX0 w h)
  have k70 := hts _ (List.mem_cons_of_mem _ mfX0_70)
  have c5 := sq_cntR_le a5 f0 f0
  have c6 : f0 * f0 ≤ 36 := Nat.mul_le_mul b1 b1
  refine lv_aload_n hx hb dX0_isAtRest_0 rfl (lv_at hl 0 rfl) ?_
  refine sq_calli (As := []) (c_canVectorEnter l dC dI h0 q cI cZ a0 a1 a2 a3 a4 a5 a6 a7 a8 a9 a10 f0 f1 f2 f3 f4 f5 f6 f7 f8 b4 (by omega) b5 b6) ⟨hx, hb, hml, hown, hts⟩ (cwV 0 hts (sq_good gvX0_141) rfl rfl rfl (by decide +kernel) ⟨Nat.le_of_ble_eq_true rfl, Nat.le_of_ble_eq_true rfl⟩) hK hP hD hS hA rfl rfl rfl rfl hl.1 rfl (Nat.le_of_ble_eq_true rfl) dX0_isAtRest_1 ⟨Nat.zero_le _, Nat.zero_le _⟩ (fun H locs hP hD hS => ?_)
  refine lv_if_ne (tgt := 31) hx hb dX0_isAtRest_4 (by decide) (fun hc => ?_) (fun hc => ?_)
  · refine lv_iconst (v := nI 0) hx hb dX0_isAtRest_31 (by decide +kernel) ?_
    exact hend _ _ _ _ _ (sq_bF (fun h => h.1 (sq_bnd hc))) hP hD hS dX0_isAtRest_32
  · refine lv_aload_n hx hb dX0_isAtRest_7 rfl (lv_at hl 0 rfl) ?_
    refine lv_aload_n hx hb dX0_isAtRest_8 rfl (lv_at hl 0 rfl) ?_
    refine va_get (D := (dC, dI)) (ci := 0) (v := .int (nI f1)) (C := RX0) (T := TX0) (N := 20) hx hb hts hin hown hK hP 0 rfl rfl 12 (by decide) k70 (fun _ h9 => h9) rfl dX0_isAtRest_9 ?_
    refine lv_iconst (v := nI 1) hx hb dX0_isAtRest_12 (by decide +kernel) ?_
    refine sq_iadd hx hb dX0_isAtRest_13 ?_
    refine sq_calli (As := [.int (nI (f1 + 1))]) (c_canRowComeIn l dC dI h0 q cI cZ a0 a1 a2 a3 a4 a5 a6 a7 a8 a9 a10 f0 f1 f2 f3 f4 f5 f6 f7 f8 (f1 + 1) b0 b1 b2 b3 b4 b7 (by omega) (by omega)) ⟨hx, hb, hml, hown, hts⟩ (cwV 1 hts (sq_good gvX0_144) rfl rfl rfl (by decide +kernel) ⟨Nat.le_of_ble_eq_true rfl, Nat.le_of_ble_eq_true rfl⟩) hK hP hD hS hA rfl rfl rfl rfl hl.1 rfl (Nat.le_of_ble_eq_true rfl) dX0_isAtRest_14 ⟨Nat.zero_le _, Nat.zero_le _⟩ (fun H locs hP hD hS => ?_)
    refine lv_if_ne (tgt := 31) hx hb dX0_isAtRest_17 (by decide) (fun hd => ?_) (fun hd => ?_)
    · refine lv_iconst (v := nI 0) hx hb dX0_isAtRest_31 (by decide +kernel) ?_
      exact hend _ _ _ _ _ (sq_bF (fun h => h.2.1 (sq_bnd hd))) hP hD hS dX0_isAtRest_32
    · refine lv_aload_n hx hb dX0_isAtRest_20 rfl (lv_at hl 0 rfl) ?_
      refine sq_calli (As := []) (c_countReachedCells l dC dI h0 q cI cZ a0 a1 a2 a3 a4 a5 a6 a7 a8 a9 a10 f0 f1 f2 f3 f4 f5 f6 f7 f8 b0 b1) ⟨hx, hb, hml, hown, hts⟩ (cwV 0 hts (sq_good gvX0_121) rfl rfl rfl (by decide +kernel) ⟨Nat.le_of_ble_eq_true rfl, Nat.le_of_ble_eq_true rfl⟩) hK hP hD hS hA rfl rfl rfl rfl hl.1 rfl (Nat.le_of_ble_eq_true rfl) dX0_isAtRest_21 ⟨Nat.zero_le _, Nat.zero_le _⟩ (fun H locs hP hD hS => ?_)
      refine sq_if_ne (tgt := 31) hx hb (by omega) dX0_isAtRest_24 (by decide) (fun he => ?_) (fun he => ?_)
      · refine lv_iconst (v := nI 0) hx hb dX0_isAtRest_31 (by decide +kernel) ?_
        exact hend _ _ _ _ _ (sq_bF (fun h => he h.2.2)) hP hD hS dX0_isAtRest_32
      · refine lv_iconst (v := nI 1) hx hb dX0_isAtRest_27 (by decide +kernel) ?_
        refine lv_goto (tgt := 32) hx hb dX0_isAtRest_28 (by decide) ?_
        exact hend _ _ _ _ _ (sq_bT ⟨sq_b0d hc, sq_b0d hd, he⟩) hP hD hS dX0_isAtRest_32
end
section
def rm_ageEntries : Room := { frames := 0, cells := 0, slots := 0, locals := 0 }
set_option maxHeartbeats 4000000 in
set_option maxRecDepth 100000 in
theorem c_ageEntries (l : Launch) (dC : Nat → ClassId) (dI : Nat → Nat → Nat) (h0 : Nat) (q : Nat → Nat) (cI cZ : ClassId) (a0 a1 a2 a3 a4 a5 a6 a7 a8 a9 a10 : Nat → Int32) (f0 f1 f2 f3 f4 f5 f6 f7 f8 : Nat)   : sq_Mv l yX0_ageEntries wsX0_ageEntries rm_ageEntries [.ref h0] (dC, dI) vwCl [(cI, .int), (cZ, .boolean)] (wX h0 q cI cZ a0 a1 a2 a3 a4 a5 a6 a7 a8 a9 a10 f0 f1 f2 f3 f4 f5 f6 f7 f8) (wX h0 q cI cZ a0 a1 a2 a3 a4 (upd (sq_G (sq_dA 0) (sq_ago a5) a5) 0 (-1)) a6 a7 a8 a9 a10 f0 f1 f2 f3 f4 f5 f6 f7 f8) := by
  refine sq_ofWv (cc := cX0_ageEntries) (maxL := 2) (by decide) rfl (Nat.le_of_ble_eq_true rfl) ?_
  intro p e s m args below meth c A ls Q hx hb hts hown hml hK hP hD hS hA hl hend
  have hl : lv_has ls 2 [(0, .ref h0)] := hl
  have hin : ∀ w ∈ u_ws RX0 TX0 20, w ∈ wsX0_ageEntries := fun w h => List.mem_cons_of_mem _ (inX0 w h)
  have k26 := hts _ (List.mem_cons_of_mem _ mfX0_26)
  refine lv_bipush (v := nI 10) hx hb dX0_ageEntries_0 (by decide +kernel) ?_
  refine lv_istore_n (lv' := [(1, .int (nI 10)), (0, .ref h0)]) hx hb dX0_ageEntries_2 rfl hl (by decide) rfl (fun ls hl => ?_)
  have L1 : ∀ i : Nat, i ≤ 10 → ∀ (H : Heap) (locs : List Loc) (ls : Array Slot), va_P (dC, dI) vwCl (wX h0 q cI cZ a0 a1 a2 a3 a4 (sq_G (sq_dA i) (sq_ago a5) a5) a6 a7 a8 a9 a10 f0 f1 f2 f3 f4 f5 f6 f7 f8) H → va_D A (wX h0 q cI cZ a0 a1 a2 a3 a4 (sq_G (sq_dA i) (sq_ago a5) a5) a6 a7 a8 a9 a10 f0 f1 f2 f3 f4 f5 f6 f7 f8) → va_S A s.heap H locs → lv_has ls 2 [(1, .int (nI i)), (0, .ref h0)] → W p l e rm_ageEntries s m args below meth c H locs 0 0 Q (F0 m 3 ls []) := by
    intro i
    induction i using Nat.strongRecOn with
    | _ i ih =>
      intro hi H locs ls hP hD hS hl
      refine lv_iload_n hx hb dX0_ageEntries_3 rfl (lv_at hl 0 rfl) ?_
      refine sq_if_le (tgt := 27) hx hb (by omega) dX0_ageEntries_4 (by decide) (fun hc => ?_) (fun hc => ?_)
      · have ei : i = 0 := hc
        subst ei
        refine lv_aload_n hx hb dX0_ageEntries_27 rfl (lv_at hl 1 rfl) ?_
        refine va_get (D := (dC, dI)) (ci := 0) (v := .ref (q 5)) (C := RX0) (T := TX0) (N := 20) hx hb hts hin hown hK hP 0 rfl rfl 5 (by decide) k26 (fun _ h9 => h9) rfl dX0_ageEntries_28 ?_
        refine lv_iconst (v := nI 0) hx hb dX0_ageEntries_31 (by decide +kernel) ?_
        refine lv_iconst (v := (-1)) hx hb dX0_ageEntries_32 (by decide +kernel) ?_
        refine sq_iast hx hb hK hP hD hS 6 0 rfl rfl (i := 0) (by omega) (by decide) dX0_ageEntries_33 (fun H locs hP hD hS => ?_)
        have hP : va_P (dC, dI) vwCl (wX h0 q cI cZ a0 a1 a2 a3 a4 (upd (sq_G (sq_dA 0) (sq_ago a5) a5) 0 (-1)) a6 a7 a8 a9 a10 f0 f1 f2 f3 f4 f5 f6 f7 f8) H := hP
        have hD : va_D A (wX h0 q cI cZ a0 a1 a2 a3 a4 (upd (sq_G (sq_dA 0) (sq_ago a5) a5) 0 (-1)) a6 a7 a8 a9 a10 f0 f1 f2 f3 f4 f5 f6 f7 f8) := hD
        exact hend _ _ _ _ hP hD hS dX0_ageEntries_34
      · obtain ⟨k, rfl⟩ : ∃ k, i = k + 1 := ⟨i - 1, by omega⟩
        refine lv_aload_n hx hb dX0_ageEntries_7 rfl (lv_at hl 1 rfl) ?_
        refine va_get (D := (dC, dI)) (ci := 0) (v := .ref (q 5)) (C := RX0) (T := TX0) (N := 20) hx hb hts hin hown hK hP 0 rfl rfl 5 (by decide) k26 (fun _ h9 => h9) rfl dX0_ageEntries_8 ?_
        refine lv_iload_n hx hb dX0_ageEntries_11 rfl (lv_at hl 0 rfl) ?_
        refine lv_aload_n hx hb dX0_ageEntries_12 rfl (lv_at hl 1 rfl) ?_
        refine va_get (D := (dC, dI)) (ci := 0) (v := .ref (q 5)) (C := RX0) (T := TX0) (N := 20) hx hb hts hin hown hK hP 0 rfl rfl 5 (by decide) k26 (fun _ h9 => h9) rfl dX0_ageEntries_13 ?_
        refine lv_iload_n hx hb dX0_ageEntries_16 rfl (lv_at hl 0 rfl) ?_
        refine lv_iconst (v := nI 1) hx hb dX0_ageEntries_17 (by decide +kernel) ?_
        refine sq_isub hx hb (by omega) dX0_ageEntries_18 ?_
        show W p l e rm_ageEntries s m args below meth c H locs 0 0 Q (F0 m 19 ls (.int (nI k) :: .ref (q 5) :: .int (nI (k + 1)) :: .ref (q 5) :: []))
        refine sq_iald hx hb hK hP 6 0 rfl rfl (i := k) (by omega) (by decide) dX0_ageEntries_19 ?_
        refine sq_iast hx hb hK hP hD hS 6 0 rfl rfl (i := (k + 1)) (by omega) (by decide) dX0_ageEntries_20 (fun H locs hP hD hS => ?_)
        have hP : va_P (dC, dI) vwCl (wX h0 q cI cZ a0 a1 a2 a3 a4 (upd (sq_G (sq_dA (k + 1)) (sq_ago a5) a5) (k + 1) ((sq_G (sq_dA (k + 1)) (sq_ago a5) a5) k)) a6 a7 a8 a9 a10 f0 f1 f2 f3 f4 f5 f6 f7 f8) H := hP
        have hD : va_D A (wX h0 q cI cZ a0 a1 a2 a3 a4 (upd (sq_G (sq_dA (k + 1)) (sq_ago a5) a5) (k + 1) ((sq_G (sq_dA (k + 1)) (sq_ago a5) a5) k)) a6 a7 a8 a9 a10 f0 f1 f2 f3 f4 f5 f6 f7 f8) := hD
        have eA : upd (sq_G (sq_dA (k + 1)) (sq_ago a5) a5) (k + 1) ((sq_G (sq_dA (k + 1)) (sq_ago a5) a5) k) = sq_G (sq_dA k) (sq_ago a5) a5 := sq_G_step (by rw [sq_G_old (by simp only [sq_dA, decide_eq_true_eq]; omega)]; rfl) (sq_dA_step k (by omega))
        rw [eA] at hP hD
        clear eA
        refine lv_iinc (v := nI k) (lv' := [(1, .int (nI k)), (0, .ref h0)]) hx hb dX0_ageEntries_21 hl (k := 0) rfl (sq_dec _) (by decide) rfl (fun ls hl => ?_)
        refine lv_goto (tgt := 3) hx hb dX0_ageEntries_24 (by decide) ?_
        exact ih k (by omega) (by omega) H locs ls hP hD hS hl
  rw [← sq_G_none (new := sq_ago a5) (old := a5) sq_dA_top] at hP hD
  exact L1 10 (Nat.le_refl 10) _ _ ls hP hD hS hl
def rm_enterVector : Room := { frames := 0, cells := 0, slots := 0, locals := 0 }
set_option maxHeartbeats 4000000 in
set_option maxRecDepth 100000 in
theorem c_enterVector (l : Launch) (dC : Nat → ClassId) (dI : Nat → Nat → Nat) (h0 : Nat) (q : Nat → Nat) (cI cZ : ClassId) (a0 a1 a2 a3 a4 a5 a6 a7 a8 a9 a10 : Nat → Int32) (f0 f1 f2 f3 f4 f5 f6 f7 f8 : Nat)  (b6 : f6 < 200) : sq_Mv l yX0_enterVector wsX0_enterVector rm_enterVector [.ref h0] (dC, dI) vwCl [(cI, .int), (cZ, .boolean)] (wX h0 q cI cZ a0 a1 a2 a3 a4 a5 a6 a7 a8 a9 a10 f0 f1 f2 f3 f4 f5 f6 f7 f8) (wX h0 q cI cZ a0 a1 a2 a3 (upd a4 f6 (nI f1)) (upd a5 0 (nI f6)) a6 a7 a8 a9 a10 f0 f1 f2 f3 (if a3 f6 = 0 then f4 else 0) f5 (f6 + 1) (if a3 f6 = 0 then f7 else f7 + 1) (if a3 f6 = 0 then f8 else f1)) := by
  refine sq_ofWv (cc := cX0_enterVector) (maxL := 2) (by decide) rfl (Nat.le_of_ble_eq_true rfl) ?_
  intro p e s m args below meth c A ls Q hx hb hts hown hml hK hP hD hS hA hl hend
  have hl : lv_has ls 2 [(0, .ref h0)] := hl
  have hin : ∀ w ∈ u_ws RX0 TX0 20, w ∈ wsX0_enterVector := fun w h => List.mem_cons_of_mem _ (inX0 w h)
  have k19 := hts _ (List.mem_cons_of_mem _ mfX0_19)
  have k23 := hts _ (List.mem_cons_of_mem _ mfX0_23)
  have k26 := hts _ (List.mem_cons_of_mem _ mfX0_26)
  have k70 := hts _ (List.mem_cons_of_mem _ mfX0_70)
  have k98 := hts _ (List.mem_cons_of_mem _ mfX0_98)
  have k115 := hts _ (List.mem_cons_of_mem _ mfX0_115)
  have k129 := hts _ (List.mem_cons_of_mem _ mfX0_129)
  have k132 := hts _ (List.mem_cons_of_mem _ mfX0_132)
  refine lv_aload_n hx hb dX0_enterVector_0 rfl (lv_at hl 0 rfl) ?_
  refine va_get (D := (dC, dI)) (ci := 0) (v := .int (nI f6)) (C := RX0) (T := TX0) (N := 20) hx hb hts hin hown hK hP 0 rfl rfl 17 (by decide) k98 (fun _ h9 => h9) rfl dX0_enterVector_1 ?_
  refine lv_istore_n (lv' := [(1, .int (nI f6)), (0, .ref h0)]) hx hb dX0_enterVector_4 rfl hl (by decide) rfl (fun ls hl => ?_)
  refine lv_aload_n hx hb dX0_enterVector_5 rfl (lv_at hl 1 rfl) ?_
  refine lv_iload_n hx hb dX0_enterVector_6 rfl (lv_at hl 0 rfl) ?_
  refine lv_iconst (v := nI 1) hx hb dX0_enterVector_7 (by decide +kernel) ?_
  refine sq_iadd hx hb dX0_enterVector_8 ?_
  refine va_put (D := (dC, dI)) (ci := 0) (v := .int (nI (f6 + 1))) (ty := .int) (C := RX0) (T := TX0) (N := 20) hx hb hts hin tyX0 tyX0_ok nmX0 hown hK hP hD hS 0 rfl rfl 17 (by decide) k98 (fun _ h9 => h9) rfl (by decide +kernel) rfl rfl (Nat.le_of_ble_eq_true rfl) dX0_enterVector_9 (fun H locs hP hD hS => ?_)
  have hP : va_P (dC, dI) vwCl (wX h0 q cI cZ a0 a1 a2 a3 a4 a5 a6 a7 a8 a9 a10 f0 f1 f2 f3 f4 f5 (f6 + 1) f7 f8) H := hP
  have hD : va_D A (wX h0 q cI cZ a0 a1 a2 a3 a4 a5 a6 a7 a8 a9 a10 f0 f1 f2 f3 f4 f5 (f6 + 1) f7 f8) := hD
  refine lv_aload_n hx hb dX0_enterVector_12 rfl (lv_at hl 1 rfl) ?_
  refine va_get (D := (dC, dI)) (ci := 0) (v := .ref (q 5)) (C := RX0) (T := TX0) (N := 20) hx hb hts hin hown hK hP 0 rfl rfl 5 (by decide) k26 (fun _ h9 => h9) rfl dX0_enterVector_13 ?_
  refine lv_iconst (v := nI 0) hx hb dX0_enterVector_16 (by decide +kernel) ?_
  refine lv_iload_n hx hb dX0_enterVector_17 rfl (lv_at hl 0 rfl) ?_
  refine sq_iast hx hb hK hP hD hS 6 0 rfl rfl (i := 0) (by omega) (by decide) dX0_enterVector_18 (fun H locs hP hD hS => ?_)
  have hP : va_P (dC, dI) vwCl (wX h0 q cI cZ a0 a1 a2 a3 a4 (upd a5 0 (nI f6)) a6 a7 a8 a9 a10 f0 f1 f2 f3 f4 f5 (f6 + 1) f7 f8) H := hP
  have hD : va_D A (wX h0 q cI cZ a0 a1 a2 a3 a4 (upd a5 0 (nI f6)) a6 a7 a8 a9 a10 f0 f1 f2 f3 f4 f5 (f6 + 1) f7 f8) := hD
  refine lv_aload_n hx hb dX0_enterVector_19 rfl (lv_at hl 1 rfl) ?_
  refine va_get (D := (dC, dI)) (ci := 0) (v := .ref (q 4)) (C := RX0) (T := TX0) (N := 20) hx hb hts hin hown hK hP 0 rfl rfl 4 (by decide) k23 (fun _ h9 => h9) rfl dX0_enterVector_20 ?_
  refine lv_iload_n hx hb dX0_enterVector_23 rfl (lv_at hl 0 rfl) ?_
  refine lv_aload_n hx hb dX0_enterVector_24 rfl (lv_at hl 1 rfl) ?_
  refine va_get (D := (dC, dI)) (ci := 0) (v := .int (nI f1)) (C := RX0) (T := TX0) (N := 20) hx hb hts hin hown hK hP 0 rfl rfl 12 (by decide) k70 (fun _ h9 => h9) rfl dX0_enterVector_25 ?_
  refine sq_iast hx hb hK hP hD hS 5 0 rfl rfl (i := f6) (by omega) (by decide) dX0_enterVector_28 (fun H locs hP hD hS => ?_)
  have hP : va_P (dC, dI) vwCl (wX h0 q cI cZ a0 a1 a2 a3 (upd a4 f6 (nI f1)) (upd a5 0 (nI f6)) a6 a7 a8 a9 a10 f0 f1 f2 f3 f4 f5 (f6 + 1) f7 f8) H := hP
  have hD : va_D A (wX h0 q cI cZ a0 a1 a2 a3 (upd a4 f6 (nI f1)) (upd a5 0 (nI f6)) a6 a7 a8 a9 a10 f0 f1 f2 f3 f4 f5 (f6 + 1) f7 f8) := hD
  refine lv_aload_n hx hb dX0_enterVector_29 rfl (lv_at hl 1 rfl) ?_
  refine va_get (D := (dC, dI)) (ci := 0) (v := .ref (q 3)) (C := RX0) (T := TX0) (N := 20) hx hb hts hin hown hK hP 0 rfl rfl 3 (by decide) k19 (fun _ h9 => h9) rfl dX0_enterVector_30 ?_
  refine lv_iload_n hx hb dX0_enterVector_33 rfl (lv_at hl 0 rfl) ?_
  refine sq_zald hx hb hK hP 4 1 rfl rfl (i := f6) (by omega) (by decide) dX0_enterVector_34 ?_
  refine lv_if_eq (tgt := 61) hx hb dX0_enterVector_35 (by decide) (fun hc => ?_) (fun hc => ?_)
  · have e9 : (wX h0 q cI cZ a0 a1 a2 a3 (upd a4 f6 (nI f1)) (upd a5 0 (nI f6)) a6 a7 a8 a9 a10 f0 f1 f2 f3 (if a3 f6 = 0 then f4 else 0) f5 (f6 + 1) (if a3 f6 = 0 then f7 else f7 + 1) (if a3 f6 = 0 then f8 else f1)) = (wX h0 q cI cZ a0 a1 a2 a3 (upd a4 f6 (nI f1)) (upd a5 0 (nI f6)) a6 a7 a8 a9 a10 f0 f1 f2 f3 f4 f5 (f6 + 1) f7 f8) := by rw [if_pos hc, if_pos hc, if_pos hc]
    rw [← e9] at hP hD
    exact hend _ _ _ _ hP hD hS dX0_enterVector_61
  · refine lv_aload_n hx hb dX0_enterVector_38 rfl (lv_at hl 1 rfl) ?_
    refine lv_iconst (v := nI 0) hx hb dX0_enterVector_39 (by decide +kernel) ?_
    refine va_put (D := (dC, dI)) (ci := 0) (v := .int (nI 0)) (ty := .int) (C := RX0) (T := TX0) (N := 20) hx hb hts hin tyX0 tyX0_ok nmX0 hown hK hP hD hS 0 rfl rfl 15 (by decide) k129 (fun _ h9 => h9) rfl (by decide +kernel) rfl rfl (Nat.le_of_ble_eq_true rfl) dX0_enterVector_40 (fun H locs hP hD hS => ?_)
    have hP : va_P (dC, dI) vwCl (wX h0 q cI cZ a0 a1 a2 a3 (upd a4 f6 (nI f1)) (upd a5 0 (nI f6)) a6 a7 a8 a9 a10 f0 f1 f2 f3 0 f5 (f6 + 1) f7 f8) H := hP
    have hD : va_D A (wX h0 q cI cZ a0 a1 a2 a3 (upd a4 f6 (nI f1)) (upd a5 0 (nI f6)) a6 a7 a8 a9 a10 f0 f1 f2 f3 0 f5 (f6 + 1) f7 f8) := hD
    refine lv_aload_n hx hb dX0_enterVector_43 rfl (lv_at hl 1 rfl) ?_
    refine lv_dup hx hb dX0_enterVector_44 rfl ?_
    refine va_get (D := (dC, dI)) (ci := 0) (v := .int (nI f7)) (C := RX0) (T := TX0) (N := 20) hx hb hts hin hown hK hP 0 rfl rfl 18 (by decide) k115 (fun _ h9 => h9) rfl dX0_enterVector_45 ?_
    refine lv_iconst (v := nI 1) hx hb dX0_enterVector_48 (by decide +kernel) ?_
    refine sq_iadd hx hb dX0_enterVector_49 ?_
    refine va_put (D := (dC, dI)) (ci := 0) (v := .int (nI (f7 + 1))) (ty := .int) (C := RX0) (T := TX0) (N := 20) hx hb hts hin tyX0 tyX0_ok nmX0 hown hK hP hD hS 0 rfl rfl 18 (by decide) k115 (fun _ h9 => h9) rfl (by decide +kernel) rfl rfl (Nat.le_of_ble_eq_true rfl) dX0_enterVector_50 (fun H locs hP hD hS => ?_)
    have hP : va_P (dC, dI) vwCl (wX h0 q cI cZ a0 a1 a2 a3 (upd a4 f6 (nI f1)) (upd a5 0 (nI f6)) a6 a7 a8 a9 a10 f0 f1 f2 f3 0 f5 (f6 + 1) (f7 + 1) f8) H := hP
    have hD : va_D A (wX h0 q cI cZ a0 a1 a2 a3 (upd a4 f6 (nI f1)) (upd a5 0 (nI f6)) a6 a7 a8 a9 a10 f0 f1 f2 f3 0 f5 (f6 + 1) (f7 + 1) f8) := hD
    refine lv_aload_n hx hb dX0_enterVector_53 rfl (lv_at hl 1 rfl) ?_
    refine lv_aload_n hx hb dX0_enterVector_54 rfl (lv_at hl 1 rfl) ?_
    refine va_get (D := (dC, dI)) (ci := 0) (v := .int (nI f1)) (C := RX0) (T := TX0) (N := 20) hx hb hts hin hown hK hP 0 rfl rfl 12 (by decide) k70 (fun _ h9 => h9) rfl dX0_enterVector_55 ?_
    refine va_put (D := (dC, dI)) (ci := 0) (v := .int (nI f1)) (ty := .int) (C := RX0) (T := TX0) (N := 20) hx hb hts hin tyX0 tyX0_ok nmX0 hown hK hP hD hS 0 rfl rfl 19 (by decide) k132 (fun _ h9 => h9) rfl (by decide +kernel) rfl rfl (Nat.le_of_ble_eq_true rfl) dX0_enterVector_58 (fun H locs hP hD hS => ?_)
    have hP : va_P (dC, dI) vwCl (wX h0 q cI cZ a0 a1 a2 a3 (upd a4 f6 (nI f1)) (upd a5 0 (nI f6)) a6 a7 a8 a9 a10 f0 f1 f2 f3 0 f5 (f6 + 1) (f7 + 1) f1) H := hP
    have hD : va_D A (wX h0 q cI cZ a0 a1 a2 a3 (upd a4 f6 (nI f1)) (upd a5 0 (nI f6)) a6 a7 a8 a9 a10 f0 f1 f2 f3 0 f5 (f6 + 1) (f7 + 1) f1) := hD
    have e9 : (wX h0 q cI cZ a0 a1 a2 a3 (upd a4 f6 (nI f1)) (upd a5 0 (nI f6)) a6 a7 a8 a9 a10 f0 f1 f2 f3 (if a3 f6 = 0 then f4 else 0) f5 (f6 + 1) (if a3 f6 = 0 then f7 else f7 + 1) (if a3 f6 = 0 then f8 else f1)) = (wX h0 q cI cZ a0 a1 a2 a3 (upd a4 f6 (nI f1)) (upd a5 0 (nI f6)) a6 a7 a8 a9 a10 f0 f1 f2 f3 0 f5 (f6 + 1) (f7 + 1) f1) := by rw [if_neg hc, if_neg hc, if_neg hc]
    rw [← e9] at hP hD
    exact hend _ _ _ _ hP hD hS dX0_enterVector_61
def rm_letRowIn : Room := { frames := 0, cells := 0, slots := 0, locals := 0 }
set_option maxHeartbeats 4000000 in
set_option maxRecDepth 100000 in
theorem c_letRowIn (l : Launch) (dC : Nat → ClassId) (dI : Nat → Nat → Nat) (h0 : Nat) (q : Nat → Nat) (cI cZ : ClassId) (a0 a1 a2 a3 a4 a5 a6 a7 a8 a9 a10 : Nat → Int32) (f0 f1 f2 f3 f4 f5 f6 f7 f8 : Nat)  (b0 : 1 ≤ f0) (b1 : f0 ≤ 6) (b3 : f3 < 120) : sq_Mv l yX0_letRowIn wsX0_letRowIn rm_letRowIn [.ref h0] (dC, dI) vwCl [(cI, .int), (cZ, .boolean)] (wX h0 q cI cZ a0 a1 a2 a3 a4 a5 a6 a7 a8 a9 a10 f0 f1 f2 f3 f4 f5 f6 f7 f8) (wX h0 q cI cZ a0 a1 a2 a3 a4 a5 a6 a7 a8 (sq_G (sq_dR f0) (fun j => a0 (f3 * 6 + j)) (sq_G (sq_dL f0 0 0) (sq_dn6 a9) a9)) a10 f0 f1 f2 (f3 + 1) (f4 + 1) f5 f6 f7 f8) := by
  refine sq_ofWv (cc := cX0_letRowIn) (maxL := 3) (by decide) rfl (Nat.le_of_ble_eq_true rfl) ?_
  intro p e s m args below meth c A ls Q hx hb hts hown hml hK hP hD hS hA hl hend
  have hl : lv_has ls 3 [(0, .ref h0)] := hl
  have hin : ∀ w ∈ u_ws RX0 TX0 20, w ∈ wsX0_letRowIn := fun w h => List.mem_cons_of_mem _ (inX0 w h)
  have k9 := hts _ (List.mem_cons_of_mem _ mfX0_9)
  have k38 := hts _ (List.mem_cons_of_mem _ mfX0_38)
  have k112 := hts _ (List.mem_cons_of_mem _ mfX0_112)
  have k124 := hts _ (List.mem_cons_of_mem _ mfX0_124)
  have k129 := hts _ (List.mem_cons_of_mem _ mfX0_129)
  refine lv_aload_n hx hb dX0_letRowIn_0 rfl (lv_at hl 0 rfl) ?_
  refine va_get (D := (dC, dI)) (ci := 0) (v := .int (nI f0)) (C := RX0) (T := TX0) (N := 20) hx hb hts hin hown hK hP 0 rfl rfl 11 (by decide) k124 (fun _ h9 => h9) rfl dX0_letRowIn_1 ?_
  refine lv_iconst (v := nI 1) hx hb dX0_letRowIn_4 (by decide +kernel) ?_
  refine sq_isub hx hb (by omega) dX0_letRowIn_5 ?_
  refine lv_istore_n (lv' := [(1, .int (nI (f0 - 1))), (0, .ref h0)]) hx hb dX0_letRowIn_6 rfl hl (by decide) rfl (fun ls hl => ?_)
  have L3 : ∀ j t : Nat, t + j = f0 → ∀ (H : Heap) (locs : List Loc) (ls : Array Slot), va_P (dC, dI) vwCl (wX h0 q cI cZ a0 a1 a2 a3 a4 a5 a6 a7 a8 (sq_G (sq_dR t) (fun j => a0 (f3 * 6 + j)) (sq_G (sq_dL f0 0 0) (sq_dn6 a9) a9)) a10 f0 f1 f2 f3 f4 f5 f6 f7 f8) H → va_D A (wX h0 q cI cZ a0 a1 a2 a3 a4 a5 a6 a7 a8 (sq_G (sq_dR t) (fun j => a0 (f3 * 6 + j)) (sq_G (sq_dL f0 0 0) (sq_dn6 a9) a9)) a10 f0 f1 f2 f3 f4 f5 f6 f7 f8) → va_S A s.heap H locs → lv_has ls 3 [(1, .int (nI t)), (0, .ref h0)] → W p l e rm_letRowIn s m args below meth c H locs 0 0 Q (F0 m 59 ls []) := by
    intro j
    induction j using Nat.strongRecOn with
    | _ j ih =>
      intro t ht H locs ls hP hD hS hl
      refine lv_iload_n hx hb dX0_letRowIn_59 rfl (lv_at hl 0 rfl) ?_
      refine lv_aload_n hx hb dX0_letRowIn_60 rfl (lv_at hl 1 rfl) ?_
      refine va_get (D := (dC, dI)) (ci := 0) (v := .int (nI f0)) (C := RX0) (T := TX0) (N := 20) hx hb hts hin hown hK hP 0 rfl rfl 11 (by decide) k124 (fun _ h9 => h9) rfl dX0_letRowIn_61 ?_
      refine sq_icmp_ge (tgt := 93) hx hb (by omega) (by omega) dX0_letRowIn_64 (by decide) (fun hc => ?_) (fun hc => ?_)
      · have et : t = f0 := by omega
        rw [et] at hP hD
        refine lv_aload_n hx hb dX0_letRowIn_93 rfl (lv_at hl 1 rfl) ?_
        refine lv_dup hx hb dX0_letRowIn_94 rfl ?_
        refine va_get (D := (dC, dI)) (ci := 0) (v := .int (nI f3)) (C := RX0) (T := TX0) (N := 20) hx hb hts hin hown hK hP 0 rfl rfl 14 (by decide) k112 (fun _ h9 => h9) rfl dX0_letRowIn_95 ?_
        refine lv_iconst (v := nI 1) hx hb dX0_letRowIn_98 (by decide +kernel) ?_
        refine sq_iadd hx hb dX0_letRowIn_99 ?_
        refine va_put (D := (dC, dI)) (ci := 0) (v := .int (nI (f3 + 1))) (ty := .int) (C := RX0) (T := TX0) (N := 20) hx hb hts hin tyX0 tyX0_ok nmX0 hown hK hP hD hS 0 rfl rfl 14 (by decide) k112 (fun _ h9 => h9) rfl (by decide +kernel) rfl rfl (Nat.le_of_ble_eq_true rfl) dX0_letRowIn_100 (fun H locs hP hD hS => ?_)
        have hP : va_P (dC, dI) vwCl (wX h0 q cI cZ a0 a1 a2 a3 a4 a5 a6 a7 a8 (sq_G (sq_dR f0) (fun j => a0 (f3 * 6 + j)) (sq_G (sq_dL f0 0 0) (sq_dn6 a9) a9)) a10 f0 f1 f2 (f3 + 1) f4 f5 f6 f7 f8) H := hP
        have hD : va_D A (wX h0 q cI cZ a0 a1 a2 a3 a4 a5 a6 a7 a8 (sq_G (sq_dR f0) (fun j => a0 (f3 * 6 + j)) (sq_G (sq_dL f0 0 0) (sq_dn6 a9) a9)) a10 f0 f1 f2 (f3 + 1) f4 f5 f6 f7 f8) := hD
        refine lv_aload_n hx hb dX0_letRowIn_103 rfl (lv_at hl 1 rfl) ?_
        refine lv_dup hx hb dX0_letRowIn_104 rfl ?_
        refine va_get (D := (dC, dI)) (ci := 0) (v := .int (nI f4)) (C := RX0) (T := TX0) (N := 20) hx hb hts hin hown hK hP 0 rfl rfl 15 (by decide) k129 (fun _ h9 => h9) rfl dX0_letRowIn_105 ?_
        refine lv_iconst (v := nI 1) hx hb dX0_letRowIn_108 (by decide +kernel) ?_
        refine sq_iadd hx hb dX0_letRowIn_109 ?_
        refine va_put (D := (dC, dI)) (ci := 0) (v := .int (nI (f4 + 1))) (ty := .int) (C := RX0) (T := TX0) (N := 20) hx hb hts hin tyX0 tyX0_ok nmX0 hown hK hP hD hS 0 rfl rfl 15 (by decide) k129 (fun _ h9 => h9) rfl (by decide +kernel) rfl rfl (Nat.le_of_ble_eq_true rfl) dX0_letRowIn_110 (fun H locs hP hD hS => ?_)
        have hP : va_P (dC, dI) vwCl (wX h0 q cI cZ a0 a1 a2 a3 a4 a5 a6 a7 a8 (sq_G (sq_dR f0) (fun j => a0 (f3 * 6 + j)) (sq_G (sq_dL f0 0 0) (sq_dn6 a9) a9)) a10 f0 f1 f2 (f3 + 1) (f4 + 1) f5 f6 f7 f8) H := hP
        have hD : va_D A (wX h0 q cI cZ a0 a1 a2 a3 a4 a5 a6 a7 a8 (sq_G (sq_dR f0) (fun j => a0 (f3 * 6 + j)) (sq_G (sq_dL f0 0 0) (sq_dn6 a9) a9)) a10 f0 f1 f2 (f3 + 1) (f4 + 1) f5 f6 f7 f8) := hD
        exact hend _ _ _ _ hP hD hS dX0_letRowIn_113
      · refine lv_aload_n hx hb dX0_letRowIn_67 rfl (lv_at hl 1 rfl) ?_
        refine va_get (D := (dC, dI)) (ci := 0) (v := .ref (q 9)) (C := RX0) (T := TX0) (N := 20) hx hb hts hin hown hK hP 0 rfl rfl 9 (by decide) k38 (fun _ h9 => h9) rfl dX0_letRowIn_68 ?_
        refine lv_iload_n hx hb dX0_letRowIn_71 rfl (lv_at hl 0 rfl) ?_
        refine lv_aload_n hx hb dX0_letRowIn_72 rfl (lv_at hl 1 rfl) ?_
        refine va_get (D := (dC, dI)) (ci := 0) (v := .ref (q 0)) (C := RX0) (T := TX0) (N := 20) hx hb hts hin hown hK hP 0 rfl rfl 0 (by decide) k9 (fun _ h9 => h9) rfl dX0_letRowIn_73 ?_
        refine lv_aload_n hx hb dX0_letRowIn_76 rfl (lv_at hl 1 rfl) ?_
        refine va_get (D := (dC, dI)) (ci := 0) (v := .int (nI f3)) (C := RX0) (T := TX0) (N := 20) hx hb hts hin hown hK hP 0 rfl rfl 14 (by decide) k112 (fun _ h9 => h9) rfl dX0_letRowIn_77 ?_
        refine lv_bipush (v := nI 6) hx hb dX0_letRowIn_80 (by decide +kernel) ?_
        refine sq_imul hx hb dX0_letRowIn_82 ?_
        refine lv_iload_n hx hb dX0_letRowIn_83 rfl (lv_at hl 0 rfl) ?_
        refine sq_iadd hx hb dX0_letRowIn_84 ?_
        refine sq_iald hx hb hK hP 1 0 rfl rfl (i := ((f3 * 6) + t)) (by omega) (by decide) dX0_letRowIn_85 ?_
        refine sq_iast hx hb hK hP hD hS 10 0 rfl rfl (i := t) (by omega) (by decide) dX0_letRowIn_86 (fun H locs hP hD hS => ?_)
        have hP : va_P (dC, dI) vwCl (wX h0 q cI cZ a0 a1 a2 a3 a4 a5 a6 a7 a8 (upd (sq_G (sq_dR t) (fun j => a0 (f3 * 6 + j)) (sq_G (sq_dL f0 0 0) (sq_dn6 a9) a9)) t (a0 ((f3 * 6) + t))) a10 f0 f1 f2 f3 f4 f5 f6 f7 f8) H := hP
        have hD : va_D A (wX h0 q cI cZ a0 a1 a2 a3 a4 a5 a6 a7 a8 (upd (sq_G (sq_dR t) (fun j => a0 (f3 * 6 + j)) (sq_G (sq_dL f0 0 0) (sq_dn6 a9) a9)) t (a0 ((f3 * 6) + t))) a10 f0 f1 f2 f3 f4 f5 f6 f7 f8) := hD
        have eA : upd (sq_G (sq_dR t) (fun j => a0 (f3 * 6 + j)) (sq_G (sq_dL f0 0 0) (sq_dn6 a9) a9)) t (a0 ((f3 * 6) + t)) = sq_G (sq_dR (t + 1)) (fun j => a0 (f3 * 6 + j)) (sq_G (sq_dL f0 0 0) (sq_dn6 a9) a9) := sq_G_step rfl (sq_dR_step t)
        rw [eA] at hP hD
        clear eA
        refine lv_iinc (v := nI (t + 1)) (lv' := [(1, .int (nI (t + 1))), (0, .ref h0)]) hx hb dX0_letRowIn_87 hl (k := 0) rfl (sq_inc _) (by decide) rfl (fun ls hl => ?_)
        refine lv_goto (tgt := 59) hx hb dX0_letRowIn_90 (by decide) ?_
        exact ih (j - 1) (by omega) (t + 1) (by omega) H locs ls hP hD hS hl
  have L1 : ∀ r : Nat, r < f0 → ∀ (H : Heap) (locs : List Loc) (ls : Array Slot), va_P (dC, dI) vwCl (wX h0 q cI cZ a0 a1 a2 a3 a4 a5 a6 a7 a8 (sq_G (sq_dL f0 r 0) (sq_dn6 a9) a9) a10 f0 f1 f2 f3 f4 f5 f6 f7 f8) H → va_D A (wX h0 q cI cZ a0 a1 a2 a3 a4 a5 a6 a7 a8 (sq_G (sq_dL f0 r 0) (sq_dn6 a9) a9) a10 f0 f1 f2 f3 f4 f5 f6 f7 f8) → va_S A s.heap H locs → lv_has ls 3 [(1, .int (nI r)), (0, .ref h0)] → W p l e rm_letRowIn s m args below meth c H locs 0 0 Q (F0 m 7 ls []) := by
    intro r
    induction r using Nat.strongRecOn with
    | _ r ih =>
      intro hr H locs ls hP hD hS hl
      refine lv_iload_n hx hb dX0_letRowIn_7 rfl (lv_at hl 0 rfl) ?_
      refine sq_if_le (tgt := 57) hx hb (by omega) dX0_letRowIn_8 (by decide) (fun hc => ?_) (fun hc => ?_)
      · have er : r = 0 := hc
        subst er
        refine lv_iconst (v := nI 0) hx hb dX0_letRowIn_57 (by decide +kernel) ?_
        refine lv_istore_n (lv' := [(1, .int (nI 0)), (0, .ref h0)]) hx hb dX0_letRowIn_58 rfl hl (by decide) rfl (fun ls hl => ?_)
        rw [← sq_G_none (d := sq_dR 0) (new := (fun j => a0 (f3 * 6 + j))) (old := sq_G (sq_dL f0 0 0) (sq_dn6 a9) a9) (fun j => by simp [sq_dR])] at hP hD
        exact L3 f0 0 (by omega) H locs ls hP hD hS hl
      · obtain ⟨k, rfl⟩ : ∃ k, r = k + 1 := ⟨r - 1, by omega⟩
        refine lv_iconst (v := nI 0) hx hb dX0_letRowIn_11 (by decide +kernel) ?_
        refine lv_istore_n (lv' := [(2, .int (nI 0)), (1, .int (nI (k + 1))), (0, .ref h0)]) hx hb dX0_letRowIn_12 rfl hl (by decide) rfl (fun ls hl => ?_)
        have L2 : ∀ j t : Nat, t + j = f0 → ∀ (H : Heap) (locs : List Loc) (ls : Array Slot), va_P (dC, dI) vwCl (wX h0 q cI cZ a0 a1 a2 a3 a4 a5 a6 a7 a8 (sq_G (sq_dL f0 (k + 1) t) (sq_dn6 a9) a9) a10 f0 f1 f2 f3 f4 f5 f6 f7 f8) H → va_D A (wX h0 q cI cZ a0 a1 a2 a3 a4 a5 a6 a7 a8 (sq_G (sq_dL f0 (k + 1) t) (sq_dn6 a9) a9) a10 f0 f1 f2 f3 f4 f5 f6 f7 f8) → va_S A s.heap H locs → lv_has ls 3 [(2, .int (nI t)), (1, .int (nI (k + 1))), (0, .ref h0)] → W p l e rm_letRowIn s m args below meth c H locs 0 0 Q (F0 m 13 ls []) := by
          intro j
          induction j using Nat.strongRecOn with
          | _ j ih2 =>
            intro t ht H locs ls hP hD hS hl
            refine lv_iload_n hx hb dX0_letRowIn_13 rfl (lv_at hl 0 rfl) ?_
            refine lv_aload_n hx hb dX0_letRowIn_14 rfl (lv_at hl 2 rfl) ?_
            refine va_get (D := (dC, dI)) (ci := 0) (v := .int (nI f0)) (C := RX0) (T := TX0) (N := 20) hx hb hts hin hown hK hP 0 rfl rfl 11 (by decide) k124 (fun _ h9 => h9) rfl dX0_letRowIn_15 ?_
            refine sq_icmp_ge (tgt := 51) hx hb (by omega) (by omega) dX0_letRowIn_18 (by decide) (fun hd => ?_) (fun hd => ?_)
            · have et : t = f0 := by omega
              rw [et] at hP hD
              have eA : sq_G (sq_dL f0 (k + 1) f0) (sq_dn6 a9) a9 = sq_G (sq_dL f0 k 0) (sq_dn6 a9) a9 := sq_G_eq (sq_dL_row f0 k)
              rw [eA] at hP hD
              clear eA
              refine lv_iinc (v := nI k) (lv' := [(1, .int (nI k)), (2, .int (nI t)), (0, .ref h0)]) hx hb dX0_letRowIn_51 hl (k := 1) rfl (sq_dec _) (by decide) rfl (fun ls hl => ?_)
              refine lv_goto (tgt := 7) hx hb dX0_letRowIn_54 (by decide) ?_
              exact ih k (by omega) (by omega) H locs ls hP hD hS (lv_sub hl [0, 2] rfl)
            · refine lv_aload_n hx hb dX0_letRowIn_21 rfl (lv_at hl 2 rfl) ?_
              refine va_get (D := (dC, dI)) (ci := 0) (v := .ref (q 9)) (C := RX0) (T := TX0) (N := 20) hx hb hts hin hown hK hP 0 rfl rfl 9 (by decide) k38 (fun _ h9 => h9) rfl dX0_letRowIn_22 ?_
              refine lv_iload_n hx hb dX0_letRowIn_25 rfl (lv_at hl 1 rfl) ?_
              refine lv_bipush (v := nI 6) hx hb dX0_letRowIn_26 (by decide +kernel) ?_
              refine sq_imul hx hb dX0_letRowIn_28 ?_
              refine lv_iload_n hx hb dX0_letRowIn_29 rfl (lv_at hl 0 rfl) ?_
              refine sq_iadd hx hb dX0_letRowIn_30 ?_
              refine lv_aload_n hx hb dX0_letRowIn_31 rfl (lv_at hl 2 rfl) ?_
              refine va_get (D := (dC, dI)) (ci := 0) (v := .ref (q 9)) (C := RX0) (T := TX0) (N := 20) hx hb hts hin hown hK hP 0 rfl rfl 9 (by decide) k38 (fun _ h9 => h9) rfl dX0_letRowIn_32 ?_
              refine lv_iload_n hx hb dX0_letRowIn_35 rfl (lv_at hl 1 rfl) ?_
              refine lv_iconst (v := nI 1) hx hb dX0_letRowIn_36 (by decide +kernel) ?_
              refine sq_isub hx hb (by omega) dX0_letRowIn_37 ?_
              refine lv_bipush (v := nI 6) hx hb dX0_letRowIn_38 (by decide +kernel) ?_
              refine sq_imul hx hb dX0_letRowIn_40 ?_
              refine lv_iload_n hx hb dX0_letRowIn_41 rfl (lv_at hl 0 rfl) ?_
              refine sq_iadd hx hb dX0_letRowIn_42 ?_
              refine sq_iald hx hb hK hP 10 0 rfl rfl (i := ((((k + 1) - 1) * 6) + t)) (by omega) (by decide) dX0_letRowIn_43 ?_
              refine sq_iast hx hb hK hP hD hS 10 0 rfl rfl (i := (((k + 1) * 6) + t)) (by omega) (by decide) dX0_letRowIn_44 (fun H locs hP hD hS => ?_)
              have hP : va_P (dC, dI) vwCl (wX h0 q cI cZ a0 a1 a2 a3 a4 a5 a6 a7 a8 (upd (sq_G (sq_dL f0 (k + 1) t) (sq_dn6 a9) a9) (((k + 1) * 6) + t) ((sq_G (sq_dL f0 (k + 1) t) (sq_dn6 a9) a9) ((((k + 1) - 1) * 6) + t))) a10 f0 f1 f2 f3 f4 f5 f6 f7 f8) H := hP
              have hD : va_D A (wX h0 q cI cZ a0 a1 a2 a3 a4 a5 a6 a7 a8 (upd (sq_G (sq_dL f0 (k + 1) t) (sq_dn6 a9) a9) (((k + 1) * 6) + t) ((sq_G (sq_dL f0 (k + 1) t) (sq_dn6 a9) a9) ((((k + 1) - 1) * 6) + t))) a10 f0 f1 f2 f3 f4 f5 f6 f7 f8) := hD
              have eA : upd (sq_G (sq_dL f0 (k + 1) t) (sq_dn6 a9) a9) (((k + 1) * 6) + t) ((sq_G (sq_dL f0 (k + 1) t) (sq_dn6 a9) a9) ((((k + 1) - 1) * 6) + t)) = sq_G (sq_dL f0 (k + 1) (t + 1)) (sq_dn6 a9) a9 := sq_G_step (by rw [sq_G_old (by simp only [sq_dL, decide_eq_true_eq]; omega)]; exact congrArg a9 (by omega)) (sq_dL_step f0 (k + 1) t b1 (by omega) (by omega))
              rw [eA] at hP hD
              clear eA
              refine lv_iinc (v := nI (t + 1)) (lv' := [(2, .int (nI (t + 1))), (1, .int (nI (k + 1))), (0, .ref h0)]) hx hb dX0_letRowIn_45 hl (k := 0) rfl (sq_inc _) (by decide) rfl (fun ls hl => ?_)
              refine lv_goto (tgt := 13) hx hb dX0_letRowIn_48 (by decide) ?_
              exact ih2 (j - 1) (by omega) (t + 1) (by omega) H locs ls hP hD hS hl
        exact L2 f0 0 (by omega) H locs ls hP hD hS hl
  rw [← sq_G_none (new := sq_dn6 a9) (old := a9) (sq_dL_top f0 b0)] at hP hD
  exact L1 (f0 - 1) (by omega) _ _ ls hP hD hS hl
def rm_advance : Room := { frames := 0, cells := 0, slots := 0, locals := 0 }
set_option maxHeartbeats 4000000 in
set_option maxRecDepth 100000 in
theorem c_advance (l : Launch) (dC : Nat → ClassId) (dI : Nat → Nat → Nat) (h0 : Nat) (q : Nat → Nat) (cI cZ : ClassId) (a0 a1 a2 a3 a4 a5 a6 a7 a8 a9 a10 : Nat → Int32) (f0 f1 f2 f3 f4 f5 f6 f7 f8 : Nat) (r i : Nat) (x mk : Int32) (bi : i < 36) (br : r < 2 ^ 31) (b6 : ¬ r = 0 → 6 ≤ i) (hmk : vp_nar .boolean mk = mk) : sq_Mv l yX0_advance wsX0_advance rm_advance [.ref h0, .int (nI r), .int (nI i), .int x, .int mk] (dC, dI) vwCl [(cI, .int), (cZ, .boolean)] (wX h0 q cI cZ a0 a1 a2 a3 a4 a5 a6 a7 a8 a9 a10 f0 f1 f2 f3 f4 f5 f6 f7 f8) (wX h0 q cI cZ a0 a1 a2 a3 a4 a5 (upd a6 i x) (sq_advS a7 (sq_advF a8 a9 i mk) r i x) (sq_advF a8 a9 i mk) a9 (upd a10 i mk) f0 f1 f2 f3 f4 f5 f6 f7 f8) := by
  refine sq_ofWv (cc := cX0_advance) (maxL := 6) (by decide) rfl (Nat.le_of_ble_eq_true rfl) ?_
  intro p e s m args below meth c A ls Q hx hb hts hown hml hK hP hD hS hA hl hend
  have hl : lv_has ls 6 [(0, .ref h0), (1, .int (nI r)), (2, .int (nI i)), (3, .int x), (4, .int mk)] := hl
  have hin : ∀ w ∈ u_ws RX0 TX0 20, w ∈ wsX0_advance := fun w h => List.mem_cons_of_mem _ (inX0 w h)
  have k29 := hts _ (List.mem_cons_of_mem _ mfX0_29)
  have k32 := hts _ (List.mem_cons_of_mem _ mfX0_32)
  have k35 := hts _ (List.mem_cons_of_mem _ mfX0_35)
  have k38 := hts _ (List.mem_cons_of_mem _ mfX0_38)
  have k41 := hts _ (List.mem_cons_of_mem _ mfX0_41)
  refine lv_aload_n hx hb dX0_advance_0 rfl (lv_at hl 0 rfl) ?_
  refine va_get (D := (dC, dI)) (ci := 0) (v := .ref (q 6)) (C := RX0) (T := TX0) (N := 20) hx hb hts hin hown hK hP 0 rfl rfl 6 (by decide) k29 (fun _ h9 => h9) rfl dX0_advance_1 ?_
  refine lv_iload_n hx hb dX0_advance_4 rfl (lv_at hl 2 rfl) ?_
  refine lv_iload_n hx hb dX0_advance_5 rfl (lv_at hl 3 rfl) ?_
  refine sq_iast hx hb hK hP hD hS 7 0 rfl rfl (i := i) (by omega) (by decide) dX0_advance_6 (fun H locs hP hD hS => ?_)
  have hP : va_P (dC, dI) vwCl (wX h0 q cI cZ a0 a1 a2 a3 a4 a5 (upd a6 i x) a7 a8 a9 a10 f0 f1 f2 f3 f4 f5 f6 f7 f8) H := hP
  have hD : va_D A (wX h0 q cI cZ a0 a1 a2 a3 a4 a5 (upd a6 i x) a7 a8 a9 a10 f0 f1 f2 f3 f4 f5 f6 f7 f8) := hD
  refine lv_aload_n hx hb dX0_advance_7 rfl (lv_at hl 0 rfl) ?_
  refine va_get (D := (dC, dI)) (ci := 0) (v := .ref (q 10)) (C := RX0) (T := TX0) (N := 20) hx hb hts hin hown hK hP 0 rfl rfl 10 (by decide) k41 (fun _ h9 => h9) rfl dX0_advance_8 ?_
  refine lv_iload_n hx hb dX0_advance_11 rfl (lv_at hl 2 rfl) ?_
  refine lv_iload hx hb dX0_advance_12 (lv_at hl 4 rfl) ?_
  refine sq_zast hx hb hK hP hD hS 11 1 rfl rfl (i := i) (by omega) (by decide) hmk dX0_advance_14 (fun H locs hP hD hS => ?_)
  have hP : va_P (dC, dI) vwCl (wX h0 q cI cZ a0 a1 a2 a3 a4 a5 (upd a6 i x) a7 a8 a9 (upd a10 i mk) f0 f1 f2 f3 f4 f5 f6 f7 f8) H := hP
  have hD : va_D A (wX h0 q cI cZ a0 a1 a2 a3 a4 a5 (upd a6 i x) a7 a8 a9 (upd a10 i mk) f0 f1 f2 f3 f4 f5 f6 f7 f8) := hD
  refine lv_iload hx hb dX0_advance_15 (lv_at hl 4 rfl) ?_
  have T2 : ∀ (H : Heap) (locs : List Loc) (ls : Array Slot) (z : Int32), z = (if r = 0 then 0 else a7 (i - 6)) → va_P (dC, dI) vwCl (wX h0 q cI cZ a0 a1 a2 a3 a4 a5 (upd a6 i x) a7 (sq_advF a8 a9 i mk) a9 (upd a10 i mk) f0 f1 f2 f3 f4 f5 f6 f7 f8) H → va_D A (wX h0 q cI cZ a0 a1 a2 a3 a4 a5 (upd a6 i x) a7 (sq_advF a8 a9 i mk) a9 (upd a10 i mk) f0 f1 f2 f3 f4 f5 f6 f7 f8) → va_S A s.heap H locs → lv_has ls 6 [(0, .ref h0), (1, .int (nI r)), (2, .int (nI i)), (3, .int x), (4, .int mk)] → W p l e rm_advance s m args below meth c H locs 0 0 Q (F0 m 49 ls [.int z]) := by
    intro H locs ls z hz hP hD hS hl
    refine lv_istore (lv' := [(5, .int z), (0, .ref h0), (1, .int (nI r)), (2, .int (nI i)), (3, .int x), (4, .int mk)]) hx hb dX0_advance_49 hl (by decide) rfl (fun ls hl => ?_)
    refine lv_aload_n hx hb dX0_advance_51 rfl (lv_at hl 1 rfl) ?_
    refine va_get (D := (dC, dI)) (ci := 0) (v := .ref (q 7)) (C := RX0) (T := TX0) (N := 20) hx hb hts hin hown hK hP 0 rfl rfl 7 (by decide) k32 (fun _ h9 => h9) rfl dX0_advance_52 ?_
    refine lv_iload_n hx hb dX0_advance_55 rfl (lv_at hl 3 rfl) ?_
    refine lv_iload hx hb dX0_advance_56 (lv_at hl 0 rfl) ?_
    refine lv_aload_n hx hb dX0_advance_58 rfl (lv_at hl 1 rfl) ?_
    refine va_get (D := (dC, dI)) (ci := 0) (v := .ref (q 8)) (C := RX0) (T := TX0) (N := 20) hx hb hts hin hown hK hP 0 rfl rfl 8 (by decide) k35 (fun _ h9 => h9) rfl dX0_advance_59 ?_
    refine lv_iload_n hx hb dX0_advance_62 rfl (lv_at hl 3 rfl) ?_
    refine sq_iald hx hb hK hP 9 0 rfl rfl (i := i) (by omega) (by decide) dX0_advance_63 ?_
    refine lv_iload_n hx hb dX0_advance_64 rfl (lv_at hl 4 rfl) ?_
    refine lv_imul hx hb dX0_advance_65 ?_
    refine lv_iadd hx hb dX0_advance_66 ?_
    refine sq_iast hx hb hK hP hD hS 8 0 rfl rfl (i := i) (by omega) (by decide) dX0_advance_67 (fun H locs hP hD hS => ?_)
    have hP : va_P (dC, dI) vwCl (wX h0 q cI cZ a0 a1 a2 a3 a4 a5 (upd a6 i x) (upd a7 i (z + (((sq_advF a8 a9 i mk) i) * x))) (sq_advF a8 a9 i mk) a9 (upd a10 i mk) f0 f1 f2 f3 f4 f5 f6 f7 f8) H := hP
    have hD : va_D A (wX h0 q cI cZ a0 a1 a2 a3 a4 a5 (upd a6 i x) (upd a7 i (z + (((sq_advF a8 a9 i mk) i) * x))) (sq_advF a8 a9 i mk) a9 (upd a10 i mk) f0 f1 f2 f3 f4 f5 f6 f7 f8) := hD
    rw [hz] at hP hD
    exact hend _ _ _ _ hP hD hS dX0_advance_68
  have T1 : ∀ (H : Heap) (locs : List Loc) (ls : Array Slot), va_P (dC, dI) vwCl (wX h0 q cI cZ a0 a1 a2 a3 a4 a5 (upd a6 i x) a7 (sq_advF a8 a9 i mk) a9 (upd a10 i mk) f0 f1 f2 f3 f4 f5 f6 f7 f8) H → va_D A (wX h0 q cI cZ a0 a1 a2 a3 a4 a5 (upd a6 i x) a7 (sq_advF a8 a9 i mk) a9 (upd a10 i mk) f0 f1 f2 f3 f4 f5 f6 f7 f8) → va_S A s.heap H locs → lv_has ls 6 [(0, .ref h0), (1, .int (nI r)), (2, .int (nI i)), (3, .int x), (4, .int mk)] → W p l e rm_advance s m args below meth c H locs 0 0 Q (F0 m 32 ls []) := by
    intro H locs ls hP hD hS hl
    refine lv_iload_n hx hb dX0_advance_32 rfl (lv_at hl 1 rfl) ?_
    refine sq_if_ne (tgt := 40) hx hb (by omega) dX0_advance_33 (by decide) (fun hd => ?_) (fun hd => ?_)
    · refine lv_aload_n hx hb dX0_advance_40 rfl (lv_at hl 0 rfl) ?_
      refine va_get (D := (dC, dI)) (ci := 0) (v := .ref (q 7)) (C := RX0) (T := TX0) (N := 20) hx hb hts hin hown hK hP 0 rfl rfl 7 (by decide) k32 (fun _ h9 => h9) rfl dX0_advance_41 ?_
      refine lv_iload_n hx hb dX0_advance_44 rfl (lv_at hl 2 rfl) ?_
      refine lv_bipush (v := nI 6) hx hb dX0_advance_45 (by decide +kernel) ?_
      refine sq_isub hx hb (by have := b6 hd; omega) dX0_advance_47 ?_
      refine sq_iald hx hb hK hP 8 0 rfl rfl (i := (i - 6)) (by have := b6 hd; omega) (by decide) dX0_advance_48 ?_
      exact T2 H locs ls _ (by rw [if_neg hd]) hP hD hS hl
    · refine lv_iconst (v := nI 0) hx hb dX0_advance_36 (by decide +kernel) ?_
      refine lv_goto (tgt := 49) hx hb dX0_advance_37 (by decide) ?_
      exact T2 H locs ls _ (by rw [if_pos hd]; rfl) hP hD hS hl
  refine lv_if_eq (tgt := 32) hx hb dX0_advance_17 (by decide) (fun hc => ?_) (fun hc => ?_)
  · have e9 : (wX h0 q cI cZ a0 a1 a2 a3 a4 a5 (upd a6 i x) a7 (sq_advF a8 a9 i mk) a9 (upd a10 i mk) f0 f1 f2 f3 f4 f5 f6 f7 f8) = (wX h0 q cI cZ a0 a1 a2 a3 a4 a5 (upd a6 i x) a7 a8 a9 (upd a10 i mk) f0 f1 f2 f3 f4 f5 f6 f7 f8) := by unfold sq_advF; rw [if_pos hc]
    rw [← e9] at hP hD
    exact T1 _ _ ls hP hD hS hl
  · refine lv_aload_n hx hb dX0_advance_20 rfl (lv_at hl 0 rfl) ?_
    refine va_get (D := (dC, dI)) (ci := 0) (v := .ref (q 8)) (C := RX0) (T := TX0) (N := 20) hx hb hts hin hown hK hP 0 rfl rfl 8 (by decide) k35 (fun _ h9 => h9) rfl dX0_advance_21 ?_
    refine lv_iload_n hx hb dX0_advance_24 rfl (lv_at hl 2 rfl) ?_
    refine lv_aload_n hx hb dX0_advance_25 rfl (lv_at hl 0 rfl) ?_
    refine va_get (D := (dC, dI)) (ci := 0) (v := .ref (q 9)) (C := RX0) (T := TX0) (N := 20) hx hb hts hin hown hK hP 0 rfl rfl 9 (by decide) k38 (fun _ h9 => h9) rfl dX0_advance_26 ?_
    refine lv_iload_n hx hb dX0_advance_29 rfl (lv_at hl 2 rfl) ?_
    refine sq_iald hx hb hK hP 10 0 rfl rfl (i := i) (by omega) (by decide) dX0_advance_30 ?_
    refine sq_iast hx hb hK hP hD hS 9 0 rfl rfl (i := i) (by omega) (by decide) dX0_advance_31 (fun H locs hP hD hS => ?_)
    have hP : va_P (dC, dI) vwCl (wX h0 q cI cZ a0 a1 a2 a3 a4 a5 (upd a6 i x) a7 (upd a8 i (a9 i)) a9 (upd a10 i mk) f0 f1 f2 f3 f4 f5 f6 f7 f8) H := hP
    have hD : va_D A (wX h0 q cI cZ a0 a1 a2 a3 a4 a5 (upd a6 i x) a7 (upd a8 i (a9 i)) a9 (upd a10 i mk) f0 f1 f2 f3 f4 f5 f6 f7 f8) := hD
    have e9 : (wX h0 q cI cZ a0 a1 a2 a3 a4 a5 (upd a6 i x) a7 (sq_advF a8 a9 i mk) a9 (upd a10 i mk) f0 f1 f2 f3 f4 f5 f6 f7 f8) = (wX h0 q cI cZ a0 a1 a2 a3 a4 a5 (upd a6 i x) a7 (upd a8 i (a9 i)) a9 (upd a10 i mk) f0 f1 f2 f3 f4 f5 f6 f7 f8) := by unfold sq_advF; rw [if_neg hc]
    rw [← e9] at hP hD
    exact T1 _ _ ls hP hD hS hl
def rm_feed : Room := { frames := 1, cells := 0, slots := 0, locals := 25 }
set_option maxHeartbeats 4000000 in
set_option maxRecDepth 100000 in
theorem c_feed (l : Launch) (dC : Nat → ClassId) (dI : Nat → Nat → Nat) (h0 : Nat) (q : Nat → Nat) (cI cZ : ClassId) (a0 a1 a2 a3 a4 a5 a6 a7 a8 a9 a10 : Nat → Int32) (f0 f1 f2 f3 f4 f5 f6 f7 f8 : Nat) (r : Nat) (br : r < 6) (b6 : f6 ≤ 200) (hok : sq_okA a5 f6) (h01 : sq_01 a3) : sq_Mv l yX0_feed wsX0_feed rm_feed [.ref h0, .int (nI r)] (dC, dI) vwCl [(cI, .int), (cZ, .boolean)] (wX h0 q cI cZ a0 a1 a2 a3 a4 a5 a6 a7 a8 a9 a10 f0 f1 f2 f3 f4 f5 f6 f7 f8) (wX h0 q cI cZ a0 a1 a2 a3 a4 a5 (upd a6 (r * 6) (sq_fedI a5 a1 r)) (sq_advS a7 (sq_advF a8 a9 (r * 6) (sq_fedM a5 a3 r)) r (r * 6) (sq_fedI a5 a1 r)) (sq_advF a8 a9 (r * 6) (sq_fedM a5 a3 r)) a9 (upd a10 (r * 6) (sq_fedM a5 a3 r)) f0 f1 f2 f3 f4 f5 f6 f7 f8) := by
  refine sq_ofWv (cc := cX0_feed) (maxL := 3) (by decide) rfl (Nat.le_of_ble_eq_true rfl) ?_
  intro p e s m args below meth c A ls Q hx hb hts hown hml hK hP hD hS hA hl hend
  have hl : lv_has ls 3 [(0, .ref h0), (1, .int (nI r))] := hl
  have hin : ∀ w ∈ u_ws RX0 TX0 20, w ∈ wsX0_feed := fun w h => List.mem_cons_of_mem _ (inX0 w h)
  have k13 := hts _ (List.mem_cons_of_mem _ mfX0_13)
  have k19 := hts _ (List.mem_cons_of_mem _ mfX0_19)
  have k26 := hts _ (List.mem_cons_of_mem _ mfX0_26)
  refine lv_aload_n hx hb dX0_feed_0 rfl (lv_at hl 0 rfl) ?_
  refine va_get (D := (dC, dI)) (ci := 0) (v := .ref (q 5)) (C := RX0) (T := TX0) (N := 20) hx hb hts hin hown hK hP 0 rfl rfl 5 (by decide) k26 (fun _ h9 => h9) rfl dX0_feed_1 ?_
  refine lv_iload_n hx hb dX0_feed_4 rfl (lv_at hl 1 rfl) ?_
  refine sq_iald hx hb hK hP 6 0 rfl rfl (i := r) (by omega) (by decide) dX0_feed_5 ?_
  refine lv_istore_n (lv' := [(2, .int (a5 r)), (0, .ref h0), (1, .int (nI r))]) hx hb dX0_feed_6 rfl hl (by decide) rfl (fun ls hl => ?_)
  refine lv_iload_n hx hb dX0_feed_7 rfl (lv_at hl 0 rfl) ?_
  refine lv_iconst (v := (-1)) hx hb dX0_feed_8 (by decide +kernel) ?_
  refine lv_icmp_ne (tgt := 26) hx hb dX0_feed_9 (by decide) (fun hc => ?_) (fun hc => ?_)
  · obtain ⟨v, hv, ev⟩ : ∃ v : Nat, v < f6 ∧ a5 r = nI v := (hok r (by omega)).resolve_left hc
    rw [ev] at hl
    have eI : sq_fedI a5 a1 r = a1 (v * 6 + r) := by unfold sq_fedI; rw [if_neg hc, ev, sq_vec_nI (by omega)]
    have eM : sq_fedM a5 a3 r = a3 v := by unfold sq_fedM; rw [if_neg hc, ev, sq_vec_nI (by omega)]
    have hmk : vp_nar .boolean (a3 v) = a3 v := by rcases h01 v with e | e <;> rw [e] <;> decide
    refine lv_aload_n hx hb dX0_feed_26 rfl (lv_at hl 1 rfl) ?_
    refine lv_iload_n hx hb dX0_feed_27 rfl (lv_at hl 2 rfl) ?_
    refine lv_iload_n hx hb dX0_feed_28 rfl (lv_at hl 2 rfl) ?_
    refine lv_bipush (v := nI 6) hx hb dX0_feed_29 (by decide +kernel) ?_
    refine sq_imul hx hb dX0_feed_31 ?_
    refine lv_aload_n hx hb dX0_feed_32 rfl (lv_at hl 1 rfl) ?_
    refine va_get (D := (dC, dI)) (ci := 0) (v := .ref (q 1)) (C := RX0) (T := TX0) (N := 20) hx hb hts hin hown hK hP 0 rfl rfl 1 (by decide) k13 (fun _ h9 => h9) rfl dX0_feed_33 ?_
    refine lv_iload_n hx hb dX0_feed_36 rfl (lv_at hl 0 rfl) ?_
    refine lv_bipush (v := nI 6) hx hb dX0_feed_37 (by decide +kernel) ?_
    refine sq_imul hx hb dX0_feed_39 ?_
    refine lv_iload_n hx hb dX0_feed_40 rfl (lv_at hl 2 rfl) ?_
    refine sq_iadd hx hb dX0_feed_41 ?_
    refine sq_iald hx hb hK hP 2 0 rfl rfl (i := ((v * 6) + r)) (by omega) (by decide) dX0_feed_42 ?_
    refine lv_aload_n hx hb dX0_feed_43 rfl (lv_at hl 1 rfl) ?_
    refine va_get (D := (dC, dI)) (ci := 0) (v := .ref (q 3)) (C := RX0) (T := TX0) (N := 20) hx hb hts hin hown hK hP 0 rfl rfl 3 (by decide) k19 (fun _ h9 => h9) rfl dX0_feed_44 ?_
    refine lv_iload_n hx hb dX0_feed_47 rfl (lv_at hl 0 rfl) ?_
    refine sq_zald hx hb hK hP 4 1 rfl rfl (i := v) (by omega) (by decide) dX0_feed_48 ?_
    refine sq_callv (As := [.int (nI r), .int (nI (r * 6)), .int (a1 ((v * 6) + r)), .int (a3 v)]) (c_advance l dC dI h0 q cI cZ a0 a1 a2 a3 a4 a5 a6 a7 a8 a9 a10 f0 f1 f2 f3 f4 f5 f6 f7 f8 r (r * 6) (a1 (v * 6 + r)) (a3 v) (by omega) (by omega) (by omega) hmk) ⟨hx, hb, hml, hown, hts⟩ (cwV 4 hts (sq_good gvX0_162) rfl rfl rfl (by decide +kernel) ⟨Nat.le_of_ble_eq_true rfl, Nat.le_of_ble_eq_true rfl⟩) hK hP hD hS hA rfl rfl rfl rfl hl.1 rfl (Nat.le_of_ble_eq_true rfl) dX0_feed_49 ⟨Nat.zero_le _, Nat.zero_le _⟩ (fun H locs hP hD hS => ?_)
    have e9 : (wX h0 q cI cZ a0 a1 a2 a3 a4 a5 (upd a6 (r * 6) (sq_fedI a5 a1 r)) (sq_advS a7 (sq_advF a8 a9 (r * 6) (sq_fedM a5 a3 r)) r (r * 6) (sq_fedI a5 a1 r)) (sq_advF a8 a9 (r * 6) (sq_fedM a5 a3 r)) a9 (upd a10 (r * 6) (sq_fedM a5 a3 r)) f0 f1 f2 f3 f4 f5 f6 f7 f8) = (wX h0 q cI cZ a0 a1 a2 a3 a4 a5 (upd a6 (r * 6) (a1 (v * 6 + r))) (sq_advS a7 (sq_advF a8 a9 (r * 6) (a3 v)) r (r * 6) (a1 (v * 6 + r))) (sq_advF a8 a9 (r * 6) (a3 v)) a9 (upd a10 (r * 6) (a3 v)) f0 f1 f2 f3 f4 f5 f6 f7 f8) := by rw [eI, eM]
    rw [← e9] at hP hD
    exact hend _ _ _ _ hP hD hS dX0_feed_52
  · have eI : sq_fedI a5 a1 r = nI 0 := by unfold sq_fedI; rw [if_pos hc]; rfl
    have eM : sq_fedM a5 a3 r = nI 0 := by unfold sq_fedM; rw [if_pos hc]; rfl
    refine lv_aload_n hx hb dX0_feed_12 rfl (lv_at hl 1 rfl) ?_
    refine lv_iload_n hx hb dX0_feed_13 rfl (lv_at hl 2 rfl) ?_
    refine lv_iload_n hx hb dX0_feed_14 rfl (lv_at hl 2 rfl) ?_
    refine lv_bipush (v := nI 6) hx hb dX0_feed_15 (by decide +kernel) ?_
    refine sq_imul hx hb dX0_feed_17 ?_
    refine lv_iconst (v := nI 0) hx hb dX0_feed_18 (by decide +kernel) ?_
    refine lv_iconst (v := nI 0) hx hb dX0_feed_19 (by decide +kernel) ?_
    refine sq_callv (As := [.int (nI r), .int (nI (r * 6)), .int (nI 0), .int (nI 0)]) (c_advance l dC dI h0 q cI cZ a0 a1 a2 a3 a4 a5 a6 a7 a8 a9 a10 f0 f1 f2 f3 f4 f5 f6 f7 f8 r (r * 6) (nI 0) (nI 0) (by omega) (by omega) (by omega) (by decide)) ⟨hx, hb, hml, hown, hts⟩ (cwV 4 hts (sq_good gvX0_162) rfl rfl rfl (by decide +kernel) ⟨Nat.le_of_ble_eq_true rfl, Nat.le_of_ble_eq_true rfl⟩) hK hP hD hS hA rfl rfl rfl rfl hl.1 rfl (Nat.le_of_ble_eq_true rfl) dX0_feed_20 ⟨Nat.zero_le _, Nat.zero_le _⟩ (fun H locs hP hD hS => ?_)
    refine lv_goto (tgt := 52) hx hb dX0_feed_23 (by decide) ?_
    have e9 : (wX h0 q cI cZ a0 a1 a2 a3 a4 a5 (upd a6 (r * 6) (sq_fedI a5 a1 r)) (sq_advS a7 (sq_advF a8 a9 (r * 6) (sq_fedM a5 a3 r)) r (r * 6) (sq_fedI a5 a1 r)) (sq_advF a8 a9 (r * 6) (sq_fedM a5 a3 r)) a9 (upd a10 (r * 6) (sq_fedM a5 a3 r)) f0 f1 f2 f3 f4 f5 f6 f7 f8) = (wX h0 q cI cZ a0 a1 a2 a3 a4 a5 (upd a6 (r * 6) (nI 0)) (sq_advS a7 (sq_advF a8 a9 (r * 6) (nI 0)) r (r * 6) (nI 0)) (sq_advF a8 a9 (r * 6) (nI 0)) a9 (upd a10 (r * 6) (nI 0)) f0 f1 f2 f3 f4 f5 f6 f7 f8) := by rw [eI, eM]
    rw [← e9] at hP hD
    exact hend _ _ _ _ hP hD hS dX0_feed_52
end
section
def rm_goOn : Room := { frames := 2, cells := 0, slots := 0, locals := 47 }
set_option maxHeartbeats 4000000 in
set_option maxRecDepth 100000 in
theorem c_goOn (l : Launch) (dC : Nat → ClassId) (dI : Nat → Nat → Nat) (h0 : Nat) (q : Nat → Nat) (cI cZ : ClassId) (a0 a1 a2 a3 a4 a5 a6 a7 a8 a9 a10 : Nat → Int32) (f0 f1 f2 f3 f4 f5 f6 f7 f8 : Nat)  (b0 : 1 ≤ f0) (b1 : f0 ≤ 6) (b6 : f6 ≤ 200) (hok : sq_okA a5 f6) (h01 : sq_01 a3) (m01 : sq_01 a10) : sq_Mv l yX0_goOn wsX0_goOn rm_goOn [.ref h0] (dC, dI) vwCl [(cI, .int), (cZ, .boolean)] (wX h0 q cI cZ a0 a1 a2 a3 a4 a5 a6 a7 a8 a9 a10 f0 f1 f2 f3 f4 f5 f6 f7 f8) (wX h0 q cI cZ a0 a1 a2 a3 a4 a5 (sq_G (sq_dG f0 0 0) (sq_gI a5 a1 a6) a6) (sq_G (sq_dG f0 0 0) (sq_gS a5 a1 a3 a6 a10 a8 a9 a7) a7) (sq_G (sq_dG f0 0 0) (sq_gF a5 a3 a10 a8 a9) a8) a9 (sq_G (sq_dG f0 0 0) (sq_gM a5 a3 a10) a10) f0 f1 f2 f3 f4 f5 f6 f7 f8) := by
  refine sq_ofWv (cc := cX0_goOn) (maxL := 4) (by decide) rfl (Nat.le_of_ble_eq_true rfl) ?_
  intro p e s m args below meth c A ls Q hx hb hts hown hml hK hP hD hS hA hl hend
  have hl : lv_has ls 4 [(0, .ref h0)] := hl
  have hin : ∀ w ∈ u_ws RX0 TX0 20, w ∈ wsX0_goOn := fun w h => List.mem_cons_of_mem _ (inX0 w h)
  have k29 := hts _ (List.mem_cons_of_mem _ mfX0_29)
  have k41 := hts _ (List.mem_cons_of_mem _ mfX0_41)
  have k124 := hts _ (List.mem_cons_of_mem _ mfX0_124)
  have mk01 : ∀ i : Nat, vp_nar .boolean (a10 i) = a10 i := fun i => by rcases m01 i with e | e <;> rw [e] <;> decide
  refine lv_aload_n hx hb dX0_goOn_0 rfl (lv_at hl 0 rfl) ?_
  refine va_get (D := (dC, dI)) (ci := 0) (v := .int (nI f0)) (C := RX0) (T := TX0) (N := 20) hx hb hts hin hown hK hP 0 rfl rfl 11 (by decide) k124 (fun _ h9 => h9) rfl dX0_goOn_1 ?_
  refine lv_iconst (v := nI 1) hx hb dX0_goOn_4 (by decide +kernel) ?_
  refine sq_isub hx hb (by omega) dX0_goOn_5 ?_
  refine lv_istore_n (lv' := [(1, .int (nI (f0 - 1))), (0, .ref h0)]) hx hb dX0_goOn_6 rfl hl (by decide) rfl (fun ls hl => ?_)
  have L1 : ∀ k : Nat, k ≤ f0 → ∀ (x1 : Int32), x1 = nI k - 1 → ∀ (H : Heap) (locs : List Loc) (ls : Array Slot), va_P (dC, dI) vwCl (wX h0 q cI cZ a0 a1 a2 a3 a4 a5 (sq_G (sq_dG f0 k 0) (sq_gI a5 a1 a6) a6) (sq_G (sq_dG f0 k 0) (sq_gS a5 a1 a3 a6 a10 a8 a9 a7) a7) (sq_G (sq_dG f0 k 0) (sq_gF a5 a3 a10 a8 a9) a8) a9 (sq_G (sq_dG f0 k 0) (sq_gM a5 a3 a10) a10) f0 f1 f2 f3 f4 f5 f6 f7 f8) H → va_D A (wX h0 q cI cZ a0 a1 a2 a3 a4 a5 (sq_G (sq_dG f0 k 0) (sq_gI a5 a1 a6) a6) (sq_G (sq_dG f0 k 0) (sq_gS a5 a1 a3 a6 a10 a8 a9 a7) a7) (sq_G (sq_dG f0 k 0) (sq_gF a5 a3 a10 a8 a9) a8) a9 (sq_G (sq_dG f0 k 0) (sq_gM a5 a3 a10) a10) f0 f1 f2 f3 f4 f5 f6 f7 f8) → va_S A s.heap H locs → lv_has ls 4 [(1, .int x1), (0, .ref h0)] → W p l e rm_goOn s m args below meth c H locs 0 0 Q (F0 m 7 ls []) := by
    intro k
    induction k with
    | zero =>
      intro _ x1 e1 H locs ls hP hD hS hl
      refine lv_iload_n hx hb dX0_goOn_7 rfl (lv_at hl 0 rfl) ?_
      refine lv_if_lt (tgt := 68) hx hb dX0_goOn_8 (by decide) (fun _ => ?_) (fun hn => absurd (by rw [e1]; decide) hn)
      exact hend _ _ _ _ hP hD hS dX0_goOn_68
    | succ r ih =>
      intro hr x1 e1 H locs ls hP hD hS hl
      have e2 : x1 = nI r := by rw [e1]; exact nI_pred r
      subst e2
      refine lv_iload_n hx hb dX0_goOn_7 rfl (lv_at hl 0 rfl) ?_
      refine sq_if_lt (tgt := 68) hx hb (by omega) dX0_goOn_8 (by decide) ?_
      have eA : sq_G (sq_dG f0 (r + 1) 0) (sq_gI a5 a1 a6) a6 = sq_G (sq_dG f0 r f0) (sq_gI a5 a1 a6) a6 := sq_G_eq (sq_dG_row f0 r)
      rw [eA] at hP hD
      clear eA
      have eA : sq_G (sq_dG f0 (r + 1) 0) (sq_gM a5 a3 a10) a10 = sq_G (sq_dG f0 r f0) (sq_gM a5 a3 a10) a10 := sq_G_eq (sq_dG_row f0 r)
      rw [eA] at hP hD
      clear eA
      have eA : sq_G (sq_dG f0 (r + 1) 0) (sq_gF a5 a3 a10 a8 a9) a8 = sq_G (sq_dG f0 r f0) (sq_gF a5 a3 a10 a8 a9) a8 := sq_G_eq (sq_dG_row f0 r)
      rw [eA] at hP hD
      clear eA
      have eA : sq_G (sq_dG f0 (r + 1) 0) (sq_gS a5 a1 a3 a6 a10 a8 a9 a7) a7 = sq_G (sq_dG f0 r f0) (sq_gS a5 a1 a3 a6 a10 a8 a9 a7) a7 := sq_G_eq (sq_dG_row f0 r)
      rw [eA] at hP hD
      clear eA
      refine lv_aload_n hx hb dX0_goOn_11 rfl (lv_at hl 1 rfl) ?_
      refine va_get (D := (dC, dI)) (ci := 0) (v := .int (nI f0)) (C := RX0) (T := TX0) (N := 20) hx hb hts hin hown hK hP 0 rfl rfl 11 (by decide) k124 (fun _ h9 => h9) rfl dX0_goOn_12 ?_
      refine lv_iconst (v := nI 1) hx hb dX0_goOn_15 (by decide +kernel) ?_
      refine sq_isub hx hb (by omega) dX0_goOn_16 ?_
      refine lv_istore_n (lv' := [(2, .int (nI (f0 - 1))), (1, .int (nI r)), (0, .ref h0)]) hx hb dX0_goOn_17 rfl hl (by decide) rfl (fun ls hl => ?_)
      have L2 : ∀ t : Nat, t < f0 → ∀ (H : Heap) (locs : List Loc) (ls : Array Slot), va_P (dC, dI) vwCl (wX h0 q cI cZ a0 a1 a2 a3 a4 a5 (sq_G (sq_dG f0 r (t + 1)) (sq_gI a5 a1 a6) a6) (sq_G (sq_dG f0 r (t + 1)) (sq_gS a5 a1 a3 a6 a10 a8 a9 a7) a7) (sq_G (sq_dG f0 r (t + 1)) (sq_gF a5 a3 a10 a8 a9) a8) a9 (sq_G (sq_dG f0 r (t + 1)) (sq_gM a5 a3 a10) a10) f0 f1 f2 f3 f4 f5 f6 f7 f8) H → va_D A (wX h0 q cI cZ a0 a1 a2 a3 a4 a5 (sq_G (sq_dG f0 r (t + 1)) (sq_gI a5 a1 a6) a6) (sq_G (sq_dG f0 r (t + 1)) (sq_gS a5 a1 a3 a6 a10 a8 a9 a7) a7) (sq_G (sq_dG f0 r (t + 1)) (sq_gF a5 a3 a10 a8 a9) a8) a9 (sq_G (sq_dG f0 r (t + 1)) (sq_gM a5 a3 a10) a10) f0 f1 f2 f3 f4 f5 f6 f7 f8) → va_S A s.heap H locs → lv_has ls 4 [(2, .int (nI t)), (1, .int (nI r)), (0, .ref h0)] → W p l e rm_goOn s m args below meth c H locs 0 0 Q (F0 m 18 ls []) := by
        intro t
        induction t using Nat.strongRecOn with
        | _ t ih2 =>
          intro ht H locs ls hP hD hS hl
          refine lv_iload_n hx hb dX0_goOn_18 rfl (lv_at hl 0 rfl) ?_
          refine sq_if_le (tgt := 57) hx hb (by omega) dX0_goOn_19 (by decide) (fun hd => ?_) (fun hd => ?_)
          · subst hd
            refine lv_aload_n hx hb dX0_goOn_57 rfl (lv_at hl 2 rfl) ?_
            refine lv_iload_n hx hb dX0_goOn_58 rfl (lv_at hl 1 rfl) ?_
            refine sq_callv (As := [.int (nI r)]) (c_feed l dC dI h0 q cI cZ a0 a1 a2 a3 a4 a5 (sq_G (sq_dG f0 r (0 + 1)) (sq_gI a5 a1 a6) a6) (sq_G (sq_dG f0 r (0 + 1)) (sq_gS a5 a1 a3 a6 a10 a8 a9 a7) a7) (sq_G (sq_dG f0 r (0 + 1)) (sq_gF a5 a3 a10 a8 a9) a8) a9 (sq_G (sq_dG f0 r (0 + 1)) (sq_gM a5 a3 a10) a10) f0 f1 f2 f3 f4 f5 f6 f7 f8 r (by omega) b6 hok h01) ⟨hx, hb, hml, hown, hts⟩ (cwV 1 hts (sq_good gvX0_166) rfl rfl rfl (by decide +kernel) ⟨Nat.le_of_ble_eq_true rfl, Nat.le_of_ble_eq_true rfl⟩) hK hP hD hS hA rfl rfl rfl rfl hl.1 rfl (Nat.le_of_ble_eq_true rfl) dX0_goOn_59 ⟨Nat.zero_le _, Nat.zero_le _⟩ (fun H locs hP hD hS => ?_)
            have xI : sq_fedI a5 a1 r = sq_gI a5 a1 a6 (r * 6 + 0) := by unfold sq_gI sq_nIn; rw [if_pos (by omega), show (r * 6 + 0) / 6 = r by omega]
            have xM : sq_fedM a5 a3 r = sq_gM a5 a3 a10 (r * 6 + 0) := by unfold sq_gM sq_nIn; rw [if_pos (by omega), show (r * 6 + 0) / 6 = r by omega]
            have dS := sq_dG_step f0 r 0 b1 (by omega) (by omega)
            have e8 : sq_advF (sq_G (sq_dG f0 r (0 + 1)) (sq_gF a5 a3 a10 a8 a9) a8) a9 (r * 6) (sq_fedM a5 a3 r) = sq_G (sq_dG f0 r 0) (sq_gF a5 a3 a10 a8 a9) a8 := by rw [xM]; exact sq_stepF (sq_dG_at f0 r 0 (by omega)) dS
            have e7 : sq_advS (sq_G (sq_dG f0 r (0 + 1)) (sq_gS a5 a1 a3 a6 a10 a8 a9 a7) a7) (sq_advF (sq_G (sq_dG f0 r (0 + 1)) (sq_gF a5 a3 a10 a8 a9) a8) a9 (r * 6) (sq_fedM a5 a3 r)) r (r * 6) (sq_fedI a5 a1 r) = sq_G (sq_dG f0 r 0) (sq_gS a5 a1 a3 a6 a10 a8 a9 a7) a7 := by rw [e8]; exact sq_stepS (by omega) (fun h9 => sq_dG_up f0 r 0 h9 (by omega)) dS (sq_G_new ((dS _).mpr (Or.inr rfl))) xI
            have e6 : upd (sq_G (sq_dG f0 r (0 + 1)) (sq_gI a5 a1 a6) a6) (r * 6) (sq_fedI a5 a1 r) = sq_G (sq_dG f0 r 0) (sq_gI a5 a1 a6) a6 := sq_G_step xI dS
            have e10 : upd (sq_G (sq_dG f0 r (0 + 1)) (sq_gM a5 a3 a10) a10) (r * 6) (sq_fedM a5 a3 r) = sq_G (sq_dG f0 r 0) (sq_gM a5 a3 a10) a10 := sq_G_step xM dS
            have e9 : (wX h0 q cI cZ a0 a1 a2 a3 a4 a5 (sq_G (sq_dG f0 r 0) (sq_gI a5 a1 a6) a6) (sq_G (sq_dG f0 r 0) (sq_gS a5 a1 a3 a6 a10 a8 a9 a7) a7) (sq_G (sq_dG f0 r 0) (sq_gF a5 a3 a10 a8 a9) a8) a9 (sq_G (sq_dG f0 r 0) (sq_gM a5 a3 a10) a10) f0 f1 f2 f3 f4 f5 f6 f7 f8) = (wX h0 q cI cZ a0 a1 a2 a3 a4 a5 (upd (sq_G (sq_dG f0 r (0 + 1)) (sq_gI a5 a1 a6) a6) (r * 6) (sq_fedI a5 a1 r)) (sq_advS (sq_G (sq_dG f0 r (0 + 1)) (sq_gS a5 a1 a3 a6 a10 a8 a9 a7) a7) (sq_advF (sq_G (sq_dG f0 r (0 + 1)) (sq_gF a5 a3 a10 a8 a9) a8) a9 (r * 6) (sq_fedM a5 a3 r)) r (r * 6) (sq_fedI a5 a1 r)) (sq_advF (sq_G (sq_dG f0 r (0 + 1)) (sq_gF a5 a3 a10 a8 a9) a8) a9 (r * 6) (sq_fedM a5 a3 r)) a9 (upd (sq_G (sq_dG f0 r (0 + 1)) (sq_gM a5 a3 a10) a10) (r * 6) (sq_fedM a5 a3 r)) f0 f1 f2 f3 f4 f5 f6 f7 f8) := by rw [e7, e8, e6, e10]
            rw [← e9] at hP hD
            refine lv_iinc (v := (nI r) + Int32.ofInt (-1)) (lv' := [(1, .int ((nI r) + Int32.ofInt (-1))), (2, .int (nI 0)), (0, .ref h0)]) hx hb dX0_goOn_62 hl (k := 1) rfl rfl (by decide) rfl (fun ls hl => ?_)
            refine lv_goto (tgt := 7) hx hb dX0_goOn_65 (by decide) ?_
            exact ih (by omega) _ (by rw [Int32.sub_eq_add_neg]; rfl) H locs ls hP hD hS (lv_sub hl [0, 2] rfl)
          · obtain ⟨t1, rfl⟩ : ∃ t1, t = t1 + 1 := ⟨t - 1, by omega⟩
            refine lv_iload_n hx hb dX0_goOn_22 rfl (lv_at hl 1 rfl) ?_
            refine lv_bipush (v := nI 6) hx hb dX0_goOn_23 (by decide +kernel) ?_
            refine sq_imul hx hb dX0_goOn_25 ?_
            refine lv_iload_n hx hb dX0_goOn_26 rfl (lv_at hl 0 rfl) ?_
            refine sq_iadd hx hb dX0_goOn_27 ?_
            refine lv_istore_n (lv' := [(3, .int (nI ((r * 6) + (t1 + 1)))), (2, .int (nI (t1 + 1))), (1, .int (nI r)), (0, .ref h0)]) hx hb dX0_goOn_28 rfl hl (by decide) rfl (fun ls hl => ?_)
            refine lv_aload_n hx hb dX0_goOn_29 rfl (lv_at hl 3 rfl) ?_
            refine lv_iload_n hx hb dX0_goOn_30 rfl (lv_at hl 2 rfl) ?_
            refine lv_iload_n hx hb dX0_goOn_31 rfl (lv_at hl 0 rfl) ?_
            refine lv_aload_n hx hb dX0_goOn_32 rfl (lv_at hl 3 rfl) ?_
            refine va_get (D := (dC, dI)) (ci := 0) (v := .ref (q 6)) (C := RX0) (T := TX0) (N := 20) hx hb hts hin hown hK hP 0 rfl rfl 6 (by decide) k29 (fun _ h9 => h9) rfl dX0_goOn_33 ?_
            refine lv_iload_n hx hb dX0_goOn_36 rfl (lv_at hl 0 rfl) ?_
            refine lv_iconst (v := nI 1) hx hb dX0_goOn_37 (by decide +kernel) ?_
            refine sq_isub hx hb (by omega) dX0_goOn_38 ?_
            refine sq_iald hx hb hK hP 7 0 rfl rfl (i := (((r * 6) + (t1 + 1)) - 1)) (by omega) (by decide) dX0_goOn_39 ?_
            refine lv_aload_n hx hb dX0_goOn_40 rfl (lv_at hl 3 rfl) ?_
            refine va_get (D := (dC, dI)) (ci := 0) (v := .ref (q 10)) (C := RX0) (T := TX0) (N := 20) hx hb hts hin hown hK hP 0 rfl rfl 10 (by decide) k41 (fun _ h9 => h9) rfl dX0_goOn_41 ?_
            refine lv_iload_n hx hb dX0_goOn_44 rfl (lv_at hl 0 rfl) ?_
            refine lv_iconst (v := nI 1) hx hb dX0_goOn_45 (by decide +kernel) ?_
            refine sq_isub hx hb (by omega) dX0_goOn_46 ?_
            refine sq_zald hx hb hK hP 11 1 rfl rfl (i := (((r * 6) + (t1 + 1)) - 1)) (by omega) (by decide) dX0_goOn_47 ?_
            have x6 : (sq_G (sq_dG f0 r (t1 + 1 + 1)) (sq_gI a5 a1 a6) a6) (((r * 6) + (t1 + 1)) - 1) = a6 (r * 6 + (t1 + 1) - 1) := sq_G_old (sq_dG_left f0 r (t1 + 1) (by omega) (by omega))
            have x10 : (sq_G (sq_dG f0 r (t1 + 1 + 1)) (sq_gM a5 a3 a10) a10) (((r * 6) + (t1 + 1)) - 1) = a10 (r * 6 + (t1 + 1) - 1) := sq_G_old (sq_dG_left f0 r (t1 + 1) (by omega) (by omega))
            refine sq_callv (As := [.int (nI r), .int (nI ((r * 6) + (t1 + 1))), .int ((sq_G (sq_dG f0 r (t1 + 1 + 1)) (sq_gI a5 a1 a6) a6) (((r * 6) + (t1 + 1)) - 1)), .int ((sq_G (sq_dG f0 r (t1 + 1 + 1)) (sq_gM a5 a3 a10) a10) (((r * 6) + (t1 + 1)) - 1))]) (c_advance l dC dI h0 q cI cZ a0 a1 a2 a3 a4 a5 (sq_G (sq_dG f0 r (t1 + 1 + 1)) (sq_gI a5 a1 a6) a6) (sq_G (sq_dG f0 r (t1 + 1 + 1)) (sq_gS a5 a1 a3 a6 a10 a8 a9 a7) a7) (sq_G (sq_dG f0 r (t1 + 1 + 1)) (sq_gF a5 a3 a10 a8 a9) a8) a9 (sq_G (sq_dG f0 r (t1 + 1 + 1)) (sq_gM a5 a3 a10) a10) f0 f1 f2 f3 f4 f5 f6 f7 f8 r (r * 6 + (t1 + 1)) ((sq_G (sq_dG f0 r (t1 + 1 + 1)) (sq_gI a5 a1 a6) a6) (((r * 6) + (t1 + 1)) - 1)) ((sq_G (sq_dG f0 r (t1 + 1 + 1)) (sq_gM a5 a3 a10) a10) (((r * 6) + (t1 + 1)) - 1)) (by omega) (by omega) (by omega) (by rw [x10]; exact mk01 _)) ⟨hx, hb, hml, hown, hts⟩ (cwV 4 hts (sq_good gvX0_162) rfl rfl rfl (by decide +kernel) ⟨Nat.le_of_ble_eq_true rfl, Nat.le_of_ble_eq_true rfl⟩) hK hP hD hS hA rfl rfl rfl rfl hl.1 rfl (Nat.le_of_ble_eq_true rfl) dX0_goOn_48 ⟨Nat.zero_le _, Nat.zero_le _⟩ (fun H locs hP hD hS => ?_)
            have xI : (sq_G (sq_dG f0 r (t1 + 1 + 1)) (sq_gI a5 a1 a6) a6) (((r * 6) + (t1 + 1)) - 1) = sq_gI a5 a1 a6 (r * 6 + (t1 + 1)) := by rw [x6]; unfold sq_gI sq_nIn; rw [if_neg (by omega)]
            have xM : (sq_G (sq_dG f0 r (t1 + 1 + 1)) (sq_gM a5 a3 a10) a10) (((r * 6) + (t1 + 1)) - 1) = sq_gM a5 a3 a10 (r * 6 + (t1 + 1)) := by rw [x10]; unfold sq_gM sq_nIn; rw [if_neg (by omega)]
            have dS := sq_dG_step f0 r (t1 + 1) b1 (by omega) (by omega)
            have e8 : sq_advF (sq_G (sq_dG f0 r (t1 + 1 + 1)) (sq_gF a5 a3 a10 a8 a9) a8) a9 (r * 6 + (t1 + 1)) ((sq_G (sq_dG f0 r (t1 + 1 + 1)) (sq_gM a5 a3 a10) a10) (((r * 6) + (t1 + 1)) - 1)) = sq_G (sq_dG f0 r (t1 + 1)) (sq_gF a5 a3 a10 a8 a9) a8 := by rw [xM]; exact sq_stepF (sq_dG_at f0 r (t1 + 1) (by omega)) dS
            have e7 : sq_advS (sq_G (sq_dG f0 r (t1 + 1 + 1)) (sq_gS a5 a1 a3 a6 a10 a8 a9 a7) a7) (sq_advF (sq_G (sq_dG f0 r (t1 + 1 + 1)) (sq_gF a5 a3 a10 a8 a9) a8) a9 (r * 6 + (t1 + 1)) ((sq_G (sq_dG f0 r (t1 + 1 + 1)) (sq_gM a5 a3 a10) a10) (((r * 6) + (t1 + 1)) - 1))) r (r * 6 + (t1 + 1)) ((sq_G (sq_dG f0 r (t1 + 1 + 1)) (sq_gI a5 a1 a6) a6) (((r * 6) + (t1 + 1)) - 1)) = sq_G (sq_dG f0 r (t1 + 1)) (sq_gS a5 a1 a3 a6 a10 a8 a9 a7) a7 := by rw [e8]; exact sq_stepS (by omega) (fun h9 => sq_dG_up f0 r (t1 + 1) h9 (by omega)) dS (sq_G_new ((dS _).mpr (Or.inr rfl))) xI
            have e6 : upd (sq_G (sq_dG f0 r (t1 + 1 + 1)) (sq_gI a5 a1 a6) a6) (r * 6 + (t1 + 1)) ((sq_G (sq_dG f0 r (t1 + 1 + 1)) (sq_gI a5 a1 a6) a6) (((r * 6) + (t1 + 1)) - 1)) = sq_G (sq_dG f0 r (t1 + 1)) (sq_gI a5 a1 a6) a6 := sq_G_step xI dS
            have e10 : upd (sq_G (sq_dG f0 r (t1 + 1 + 1)) (sq_gM a5 a3 a10) a10) (r * 6 + (t1 + 1)) ((sq_G (sq_dG f0 r (t1 + 1 + 1)) (sq_gM a5 a3 a10) a10) (((r * 6) + (t1 + 1)) - 1)) = sq_G (sq_dG f0 r (t1 + 1)) (sq_gM a5 a3 a10) a10 := sq_G_step xM dS
            have e9 : (wX h0 q cI cZ a0 a1 a2 a3 a4 a5 (sq_G (sq_dG f0 r (t1 + 1)) (sq_gI a5 a1 a6) a6) (sq_G (sq_dG f0 r (t1 + 1)) (sq_gS a5 a1 a3 a6 a10 a8 a9 a7) a7) (sq_G (sq_dG f0 r (t1 + 1)) (sq_gF a5 a3 a10 a8 a9) a8) a9 (sq_G (sq_dG f0 r (t1 + 1)) (sq_gM a5 a3 a10) a10) f0 f1 f2 f3 f4 f5 f6 f7 f8) = (wX h0 q cI cZ a0 a1 a2 a3 a4 a5 (upd (sq_G (sq_dG f0 r (t1 + 1 + 1)) (sq_gI a5 a1 a6) a6) (r * 6 + (t1 + 1)) ((sq_G (sq_dG f0 r (t1 + 1 + 1)) (sq_gI a5 a1 a6) a6) (((r * 6) + (t1 + 1)) - 1))) (sq_advS (sq_G (sq_dG f0 r (t1 + 1 + 1)) (sq_gS a5 a1 a3 a6 a10 a8 a9 a7) a7) (sq_advF (sq_G (sq_dG f0 r (t1 + 1 + 1)) (sq_gF a5 a3 a10 a8 a9) a8) a9 (r * 6 + (t1 + 1)) ((sq_G (sq_dG f0 r (t1 + 1 + 1)) (sq_gM a5 a3 a10) a10) (((r * 6) + (t1 + 1)) - 1))) r (r * 6 + (t1 + 1)) ((sq_G (sq_dG f0 r (t1 + 1 + 1)) (sq_gI a5 a1 a6) a6) (((r * 6) + (t1 + 1)) - 1))) (sq_advF (sq_G (sq_dG f0 r (t1 + 1 + 1)) (sq_gF a5 a3 a10 a8 a9) a8) a9 (r * 6 + (t1 + 1)) ((sq_G (sq_dG f0 r (t1 + 1 + 1)) (sq_gM a5 a3 a10) a10) (((r * 6) + (t1 + 1)) - 1))) a9 (upd (sq_G (sq_dG f0 r (t1 + 1 + 1)) (sq_gM a5 a3 a10) a10) (r * 6 + (t1 + 1)) ((sq_G (sq_dG f0 r (t1 + 1 + 1)) (sq_gM a5 a3 a10) a10) (((r * 6) + (t1 + 1)) - 1))) f0 f1 f2 f3 f4 f5 f6 f7 f8) := by rw [e7, e8, e6, e10]
            rw [← e9] at hP hD
            refine lv_iinc (v := nI t1) (lv' := [(2, .int (nI t1)), (3, .int (nI ((r * 6) + (t1 + 1)))), (1, .int (nI r)), (0, .ref h0)]) hx hb dX0_goOn_51 hl (k := 1) rfl (sq_dec _) (by decide) rfl (fun ls hl => ?_)
            refine lv_goto (tgt := 18) hx hb dX0_goOn_54 (by decide) ?_
            exact ih2 t1 (by omega) (by omega) H locs ls hP hD hS (lv_sub hl [0, 2, 3] rfl)
      have e9 : (wX h0 q cI cZ a0 a1 a2 a3 a4 a5 (sq_G (sq_dG f0 r f0) (sq_gI a5 a1 a6) a6) (sq_G (sq_dG f0 r f0) (sq_gS a5 a1 a3 a6 a10 a8 a9 a7) a7) (sq_G (sq_dG f0 r f0) (sq_gF a5 a3 a10 a8 a9) a8) a9 (sq_G (sq_dG f0 r f0) (sq_gM a5 a3 a10) a10) f0 f1 f2 f3 f4 f5 f6 f7 f8) = (wX h0 q cI cZ a0 a1 a2 a3 a4 a5 (sq_G (sq_dG f0 r (f0 - 1 + 1)) (sq_gI a5 a1 a6) a6) (sq_G (sq_dG f0 r (f0 - 1 + 1)) (sq_gS a5 a1 a3 a6 a10 a8 a9 a7) a7) (sq_G (sq_dG f0 r (f0 - 1 + 1)) (sq_gF a5 a3 a10 a8 a9) a8) a9 (sq_G (sq_dG f0 r (f0 - 1 + 1)) (sq_gM a5 a3 a10) a10) f0 f1 f2 f3 f4 f5 f6 f7 f8) := by rw [show f0 - 1 + 1 = f0 by omega]
      rw [e9] at hP hD
      exact L2 (f0 - 1) (by omega) H locs ls hP hD hS hl
  have e9 : (wX h0 q cI cZ a0 a1 a2 a3 a4 a5 a6 a7 a8 a9 a10 f0 f1 f2 f3 f4 f5 f6 f7 f8) = (wX h0 q cI cZ a0 a1 a2 a3 a4 a5 (sq_G (sq_dG f0 f0 0) (sq_gI a5 a1 a6) a6) (sq_G (sq_dG f0 f0 0) (sq_gS a5 a1 a3 a6 a10 a8 a9 a7) a7) (sq_G (sq_dG f0 f0 0) (sq_gF a5 a3 a10 a8 a9) a8) a9 (sq_G (sq_dG f0 f0 0) (sq_gM a5 a3 a10) a10) f0 f1 f2 f3 f4 f5 f6 f7 f8) := by rw [sq_G_none (sq_dG_end f0), sq_G_none (sq_dG_end f0), sq_G_none (sq_dG_end f0), sq_G_none (sq_dG_end f0)]
  rw [e9] at hP hD
  exact L1 f0 (Nat.le_refl f0) _ (by rw [← pk_sub b0]; rfl) _ _ ls hP hD hS hl
def rm_keepResults : Room := { frames := 0, cells := 0, slots := 0, locals := 0 }
set_option maxHeartbeats 4000000 in
set_option maxRecDepth 100000 in
theorem c_keepResults (l : Launch) (dC : Nat → ClassId) (dI : Nat → Nat → Nat) (h0 : Nat) (q : Nat → Nat) (cI cZ : ClassId) (a0 a1 a2 a3 a4 a5 a6 a7 a8 a9 a10 : Nat → Int32) (f0 f1 f2 f3 f4 f5 f6 f7 f8 : Nat)  (b0 : 1 ≤ f0) (b1 : f0 ≤ 6) (b6 : f6 ≤ 200) (hok : sq_okA a5 f6) : sq_Mv l yX0_keepResults wsX0_keepResults rm_keepResults [.ref h0] (dC, dI) vwCl [(cI, .int), (cZ, .boolean)] (wX h0 q cI cZ a0 a1 a2 a3 a4 a5 a6 a7 a8 a9 a10 f0 f1 f2 f3 f4 f5 f6 f7 f8) (wX h0 q cI cZ a0 a1 (sq_keep f0 a5 a7 a2 f0) a3 a4 a5 a6 a7 a8 a9 a10 f0 f1 f2 f3 f4 f5 f6 f7 f8) := by
  refine sq_ofWv (cc := cX0_keepResults) (maxL := 4) (by decide) rfl (Nat.le_of_ble_eq_true rfl) ?_
  intro p e s m args below meth c A ls Q hx hb hts hown hml hK hP hD hS hA hl hend
  have hl : lv_has ls 4 [(0, .ref h0)] := hl
  have hin : ∀ w ∈ u_ws RX0 TX0 20, w ∈ wsX0_keepResults := fun w h => List.mem_cons_of_mem _ (inX0 w h)
  have k16 := hts _ (List.mem_cons_of_mem _ mfX0_16)
  have k26 := hts _ (List.mem_cons_of_mem _ mfX0_26)
  have k32 := hts _ (List.mem_cons_of_mem _ mfX0_32)
  have k124 := hts _ (List.mem_cons_of_mem _ mfX0_124)
  refine lv_aload_n hx hb dX0_keepResults_0 rfl (lv_at hl 0 rfl) ?_
  refine va_get (D := (dC, dI)) (ci := 0) (v := .int (nI f0)) (C := RX0) (T := TX0) (N := 20) hx hb hts hin hown hK hP 0 rfl rfl 11 (by decide) k124 (fun _ h9 => h9) rfl dX0_keepResults_1 ?_
  refine lv_iconst (v := nI 1) hx hb dX0_keepResults_4 (by decide +kernel) ?_
  refine sq_isub hx hb (by omega) dX0_keepResults_5 ?_
  refine lv_istore_n (lv' := [(1, .int (nI (f0 - 1))), (0, .ref h0)]) hx hb dX0_keepResults_6 rfl hl (by decide) rfl (fun ls hl => ?_)
  refine lv_iconst (v := nI 0) hx hb dX0_keepResults_7 (by decide +kernel) ?_
  refine lv_istore_n (lv' := [(2, .int (nI 0)), (1, .int (nI (f0 - 1))), (0, .ref h0)]) hx hb dX0_keepResults_8 rfl hl (by decide) rfl (fun ls hl => ?_)
  have L1 : ∀ j t : Nat, t + j = f0 → ∀ (H : Heap) (locs : List Loc) (ls : Array Slot), va_P (dC, dI) vwCl (wX h0 q cI cZ a0 a1 (sq_keep f0 a5 a7 a2 t) a3 a4 a5 a6 a7 a8 a9 a10 f0 f1 f2 f3 f4 f5 f6 f7 f8) H → va_D A (wX h0 q cI cZ a0 a1 (sq_keep f0 a5 a7 a2 t) a3 a4 a5 a6 a7 a8 a9 a10 f0 f1 f2 f3 f4 f5 f6 f7 f8) → va_S A s.heap H locs → lv_has ls 4 [(2, .int (nI t)), (1, .int (nI (f0 - 1))), (0, .ref h0)] → W p l e rm_keepResults s m args below meth c H locs 0 0 Q (F0 m 9 ls []) := by
    intro j
    induction j using Nat.strongRecOn with
    | _ j ih =>
      intro t ht H locs ls hP hD hS hl
      refine lv_iload_n hx hb dX0_keepResults_9 rfl (lv_at hl 0 rfl) ?_
      refine lv_aload_n hx hb dX0_keepResults_10 rfl (lv_at hl 2 rfl) ?_
      refine va_get (D := (dC, dI)) (ci := 0) (v := .int (nI f0)) (C := RX0) (T := TX0) (N := 20) hx hb hts hin hown hK hP 0 rfl rfl 11 (by decide) k124 (fun _ h9 => h9) rfl dX0_keepResults_11 ?_
      refine sq_icmp_ge (tgt := 59) hx hb (by omega) (by omega) dX0_keepResults_14 (by decide) (fun hc => ?_) (fun hc => ?_)
      · have et : t = f0 := by omega
        rw [et] at hP hD
        exact hend _ _ _ _ hP hD hS dX0_keepResults_59
      · refine lv_aload_n hx hb dX0_keepResults_17 rfl (lv_at hl 2 rfl) ?_
        refine va_get (D := (dC, dI)) (ci := 0) (v := .ref (q 5)) (C := RX0) (T := TX0) (N := 20) hx hb hts hin hown hK hP 0 rfl rfl 5 (by decide) k26 (fun _ h9 => h9) rfl dX0_keepResults_18 ?_
        refine lv_iload_n hx hb dX0_keepResults_21 rfl (lv_at hl 1 rfl) ?_
        refine lv_iload_n hx hb dX0_keepResults_22 rfl (lv_at hl 0 rfl) ?_
        refine sq_iadd hx hb dX0_keepResults_23 ?_
        refine sq_iald hx hb hK hP 6 0 rfl rfl (i := ((f0 - 1) + t)) (by omega) (by decide) dX0_keepResults_24 ?_
        refine lv_istore_n (lv' := [(3, .int (a5 ((f0 - 1) + t))), (2, .int (nI t)), (1, .int (nI (f0 - 1))), (0, .ref h0)]) hx hb dX0_keepResults_25 rfl hl (by decide) rfl (fun ls hl => ?_)
        refine lv_iload_n hx hb dX0_keepResults_26 rfl (lv_at hl 0 rfl) ?_
        refine lv_iconst (v := (-1)) hx hb dX0_keepResults_27 (by decide +kernel) ?_
        refine lv_icmp_eq (tgt := 53) hx hb dX0_keepResults_28 (by decide) (fun hd => ?_) (fun hd => ?_)
        · have eA : sq_keep f0 a5 a7 a2 t = sq_keep f0 a5 a7 a2 (t + 1) := by rw [show sq_keep f0 a5 a7 a2 (t + 1) = if a5 (f0 - 1 + t) = -1 then sq_keep f0 a5 a7 a2 t else upd (sq_keep f0 a5 a7 a2 t) (sq_vec (a5 (f0 - 1 + t)) * 6 + t) (a7 ((f0 - 1) * 6 + t)) from rfl, if_pos hd]
          rw [eA] at hP hD
          clear eA
          refine lv_iinc (v := nI (t + 1)) (lv' := [(2, .int (nI (t + 1))), (3, .int (a5 ((f0 - 1) + t))), (1, .int (nI (f0 - 1))), (0, .ref h0)]) hx hb dX0_keepResults_53 hl (k := 1) rfl (sq_inc _) (by decide) rfl (fun ls hl => ?_)
          refine lv_goto (tgt := 9) hx hb dX0_keepResults_56 (by decide) ?_
          exact ih (j - 1) (by omega) (t + 1) (by omega) H locs ls hP hD hS (lv_sub hl [0, 2, 3] rfl)
        · obtain ⟨v, hv, ev⟩ : ∃ v : Nat, v < f6 ∧ a5 (f0 - 1 + t) = nI v := (hok _ (by omega)).resolve_left hd
          rw [ev] at hl
          refine lv_aload_n hx hb dX0_keepResults_31 rfl (lv_at hl 3 rfl) ?_
          refine va_get (D := (dC, dI)) (ci := 0) (v := .ref (q 2)) (C := RX0) (T := TX0) (N := 20) hx hb hts hin hown hK hP 0 rfl rfl 2 (by decide) k16 (fun _ h9 => h9) rfl dX0_keepResults_32 ?_
          refine lv_iload_n hx hb dX0_keepResults_35 rfl (lv_at hl 0 rfl) ?_
          refine lv_bipush (v := nI 6) hx hb dX0_keepResults_36 (by decide +kernel) ?_
          refine sq_imul hx hb dX0_keepResults_38 ?_
          refine lv_iload_n hx hb dX0_keepResults_39 rfl (lv_at hl 1 rfl) ?_
          refine sq_iadd hx hb dX0_keepResults_40 ?_
          refine lv_aload_n hx hb dX0_keepResults_41 rfl (lv_at hl 3 rfl) ?_
          refine va_get (D := (dC, dI)) (ci := 0) (v := .ref (q 7)) (C := RX0) (T := TX0) (N := 20) hx hb hts hin hown hK hP 0 rfl rfl 7 (by decide) k32 (fun _ h9 => h9) rfl dX0_keepResults_42 ?_
          refine lv_iload_n hx hb dX0_keepResults_45 rfl (lv_at hl 2 rfl) ?_
          refine lv_bipush (v := nI 6) hx hb dX0_keepResults_46 (by decide +kernel) ?_
          refine sq_imul hx hb dX0_keepResults_48 ?_
          refine lv_iload_n hx hb dX0_keepResults_49 rfl (lv_at hl 1 rfl) ?_
          refine sq_iadd hx hb dX0_keepResults_50 ?_
          refine sq_iald hx hb hK hP 8 0 rfl rfl (i := (((f0 - 1) * 6) + t)) (by omega) (by decide) dX0_keepResults_51 ?_
          refine sq_iast hx hb hK hP hD hS 3 0 rfl rfl (i := ((v * 6) + t)) (by omega) (by decide) dX0_keepResults_52 (fun H locs hP hD hS => ?_)
          have hP : va_P (dC, dI) vwCl (wX h0 q cI cZ a0 a1 (upd (sq_keep f0 a5 a7 a2 t) ((v * 6) + t) (a7 (((f0 - 1) * 6) + t))) a3 a4 a5 a6 a7 a8 a9 a10 f0 f1 f2 f3 f4 f5 f6 f7 f8) H := hP
          have hD : va_D A (wX h0 q cI cZ a0 a1 (upd (sq_keep f0 a5 a7 a2 t) ((v * 6) + t) (a7 (((f0 - 1) * 6) + t))) a3 a4 a5 a6 a7 a8 a9 a10 f0 f1 f2 f3 f4 f5 f6 f7 f8) := hD
          have eA : upd (sq_keep f0 a5 a7 a2 t) ((v * 6) + t) (a7 (((f0 - 1) * 6) + t)) = sq_keep f0 a5 a7 a2 (t + 1) := by rw [show sq_keep f0 a5 a7 a2 (t + 1) = if a5 (f0 - 1 + t) = -1 then sq_keep f0 a5 a7 a2 t else upd (sq_keep f0 a5 a7 a2 t) (sq_vec (a5 (f0 - 1 + t)) * 6 + t) (a7 ((f0 - 1) * 6 + t)) from rfl, if_neg hd, ev, sq_vec_nI (by omega)]
          rw [eA] at hP hD
          clear eA
          refine lv_iinc (v := nI (t + 1)) (lv' := [(2, .int (nI (t + 1))), (3, .int (nI v)), (1, .int (nI (f0 - 1))), (0, .ref h0)]) hx hb dX0_keepResults_53 hl (k := 1) rfl (sq_inc _) (by decide) rfl (fun ls hl => ?_)
          refine lv_goto (tgt := 9) hx hb dX0_keepResults_56 (by decide) ?_
          exact ih (j - 1) (by omega) (t + 1) (by omega) H locs ls hP hD hS (lv_sub hl [0, 2, 3] rfl)
  exact L1 f0 0 (by omega) _ _ ls hP hD hS hl
end
section
def rm_runCycle : Room := { frames := 3, cells := 0, slots := 0, locals := 70 }
set_option maxHeartbeats 4000000 in
set_option maxRecDepth 100000 in
theorem c_runCycle (l : Launch) (dC : Nat → ClassId) (dI : Nat → Nat → Nat) (h0 : Nat) (q : Nat → Nat) (cI cZ : ClassId) (st : SqS)  (hok : sq_ok st) (ht : st.2 1 < 100000) : sq_Mv l yX0_runCycle wsX0_runCycle rm_runCycle [.ref h0] (dC, dI) vwCl [(cI, .int), (cZ, .boolean)] (wX h0 q cI cZ (st.1 0) (st.1 1) (st.1 2) (st.1 3) (st.1 4) (st.1 5) (st.1 6) (st.1 7) (st.1 8) (st.1 9) (st.1 10) (st.2 0) (st.2 1) (st.2 2) (st.2 3) (st.2 4) (st.2 5) (st.2 6) (st.2 7) (st.2 8)) (wX h0 q cI cZ ((sq_run st).1 0) ((sq_run st).1 1) ((sq_run st).1 2) ((sq_run st).1 3) ((sq_run st).1 4) ((sq_run st).1 5) ((sq_run st).1 6) ((sq_run st).1 7) ((sq_run st).1 8) ((sq_run st).1 9) ((sq_run st).1 10) ((sq_run st).2 0) ((sq_run st).2 1) ((sq_run st).2 2) ((sq_run st).2 3) ((sq_run st).2 4) ((sq_run st).2 5) ((sq_run st).2 6) ((sq_run st).2 7) ((sq_run st).2 8)) := by
  refine sq_ofWv (cc := cX0_runCycle) (maxL := 1) (by decide) rfl (Nat.le_of_ble_eq_true rfl) ?_
  intro p e s m args below meth c A ls Q hx hb hts hown hml hK hP hD hS hA hl hend
  have hl : lv_has ls 1 [(0, .ref h0)] := hl
  have hin : ∀ w ∈ u_ws RX0 TX0 20, w ∈ wsX0_runCycle := fun w h => List.mem_cons_of_mem _ (inX0 w h)
  have k70 := hts _ (List.mem_cons_of_mem _ mfX0_70)
  have T40 : ∀ (s3 : SqS) (H : Heap) (locs : List Loc) (ls : Array Slot), sq_ok s3 → sq_kp (sq_go s3) = sq_run st → va_P (dC, dI) vwCl (wX h0 q cI cZ (s3.1 0) (s3.1 1) (s3.1 2) (s3.1 3) (s3.1 4) (s3.1 5) (s3.1 6) (s3.1 7) (s3.1 8) (s3.1 9) (s3.1 10) (s3.2 0) (s3.2 1) (s3.2 2) (s3.2 3) (s3.2 4) (s3.2 5) (s3.2 6) (s3.2 7) (s3.2 8)) H → va_D A (wX h0 q cI cZ (s3.1 0) (s3.1 1) (s3.1 2) (s3.1 3) (s3.1 4) (s3.1 5) (s3.1 6) (s3.1 7) (s3.1 8) (s3.1 9) (s3.1 10) (s3.2 0) (s3.2 1) (s3.2 2) (s3.2 3) (s3.2 4) (s3.2 5) (s3.2 6) (s3.2 7) (s3.2 8)) → va_S A s.heap H locs → lv_has ls 1 [(0, .ref h0)] → W p l e rm_runCycle s m args below meth c H locs 0 0 Q (F0 m 40 ls []) := by
    intro s3 H locs ls hok he hP hD hS hl
    obtain ⟨⟨o1, o2⟩, o3, ⟨o4, o5⟩, o6, ⟨o7, o8, o9⟩, o10, o11, o12, o13, o14⟩ := id hok
    refine lv_aload_n hx hb dX0_runCycle_40 rfl (lv_at hl 0 rfl) ?_
    have hok4 := sq_ok_go hok
    refine sq_callv (As := []) (c_goOn l dC dI h0 q cI cZ (s3.1 0) (s3.1 1) (s3.1 2) (s3.1 3) (s3.1 4) (s3.1 5) (s3.1 6) (s3.1 7) (s3.1 8) (s3.1 9) (s3.1 10) (s3.2 0) (s3.2 1) (s3.2 2) (s3.2 3) (s3.2 4) (s3.2 5) (s3.2 6) (s3.2 7) (s3.2 8) o1 o2 (by omega) o11 o12 o13) ⟨hx, hb, hml, hown, hts⟩ (cwV 0 hts (sq_good gvX0_156) rfl rfl rfl (by decide +kernel) ⟨Nat.le_of_ble_eq_true rfl, Nat.le_of_ble_eq_true rfl⟩) hK hP hD hS hA rfl rfl rfl rfl hl.1 rfl (Nat.le_of_ble_eq_true rfl) dX0_runCycle_41 ⟨Nat.zero_le _, Nat.zero_le _⟩ (fun H locs hP hD hS => ?_)
    have hP : va_P (dC, dI) vwCl (wX h0 q cI cZ ((sq_go s3).1 0) ((sq_go s3).1 1) ((sq_go s3).1 2) ((sq_go s3).1 3) ((sq_go s3).1 4) ((sq_go s3).1 5) ((sq_go s3).1 6) ((sq_go s3).1 7) ((sq_go s3).1 8) ((sq_go s3).1 9) ((sq_go s3).1 10) ((sq_go s3).2 0) ((sq_go s3).2 1) ((sq_go s3).2 2) ((sq_go s3).2 3) ((sq_go s3).2 4) ((sq_go s3).2 5) ((sq_go s3).2 6) ((sq_go s3).2 7) ((sq_go s3).2 8)) H := hP
    have hD : va_D A (wX h0 q cI cZ ((sq_go s3).1 0) ((sq_go s3).1 1) ((sq_go s3).1 2) ((sq_go s3).1 3) ((sq_go s3).1 4) ((sq_go s3).1 5) ((sq_go s3).1 6) ((sq_go s3).1 7) ((sq_go s3).1 8) ((sq_go s3).1 9) ((sq_go s3).1 10) ((sq_go s3).2 0) ((sq_go s3).2 1) ((sq_go s3).2 2) ((sq_go s3).2 3) ((sq_go s3).2 4) ((sq_go s3).2 5) ((sq_go s3).2 6) ((sq_go s3).2 7) ((sq_go s3).2 8)) := hD
    refine lv_aload_n hx hb dX0_runCycle_44 rfl (lv_at hl 0 rfl) ?_
    obtain ⟨⟨p1, p2⟩, p3, ⟨p4, p5⟩, p6, ⟨p7, p8, p9⟩, p10, p11, p12, p13, p14⟩ := id hok4
    refine sq_callv (As := []) (c_keepResults l dC dI h0 q cI cZ ((sq_go s3).1 0) ((sq_go s3).1 1) ((sq_go s3).1 2) ((sq_go s3).1 3) ((sq_go s3).1 4) ((sq_go s3).1 5) ((sq_go s3).1 6) ((sq_go s3).1 7) ((sq_go s3).1 8) ((sq_go s3).1 9) ((sq_go s3).1 10) ((sq_go s3).2 0) ((sq_go s3).2 1) ((sq_go s3).2 2) ((sq_go s3).2 3) ((sq_go s3).2 4) ((sq_go s3).2 5) ((sq_go s3).2 6) ((sq_go s3).2 7) ((sq_go s3).2 8) p1 p2 (by omega) p11) ⟨hx, hb, hml, hown, hts⟩ (cwV 0 hts (sq_good gvX0_159) rfl rfl rfl (by decide +kernel) ⟨Nat.le_of_ble_eq_true rfl, Nat.le_of_ble_eq_true rfl⟩) hK hP hD hS hA rfl rfl rfl rfl hl.1 rfl (Nat.le_of_ble_eq_true rfl) dX0_runCycle_45 ⟨Nat.zero_le _, Nat.zero_le _⟩ (fun H locs hP hD hS => ?_)
    have hP : va_P (dC, dI) vwCl (wX h0 q cI cZ ((sq_kp (sq_go s3)).1 0) ((sq_kp (sq_go s3)).1 1) ((sq_kp (sq_go s3)).1 2) ((sq_kp (sq_go s3)).1 3) ((sq_kp (sq_go s3)).1 4) ((sq_kp (sq_go s3)).1 5) ((sq_kp (sq_go s3)).1 6) ((sq_kp (sq_go s3)).1 7) ((sq_kp (sq_go s3)).1 8) ((sq_kp (sq_go s3)).1 9) ((sq_kp (sq_go s3)).1 10) ((sq_kp (sq_go s3)).2 0) ((sq_kp (sq_go s3)).2 1) ((sq_kp (sq_go s3)).2 2) ((sq_kp (sq_go s3)).2 3) ((sq_kp (sq_go s3)).2 4) ((sq_kp (sq_go s3)).2 5) ((sq_kp (sq_go s3)).2 6) ((sq_kp (sq_go s3)).2 7) ((sq_kp (sq_go s3)).2 8)) H := hP
    have hD : va_D A (wX h0 q cI cZ ((sq_kp (sq_go s3)).1 0) ((sq_kp (sq_go s3)).1 1) ((sq_kp (sq_go s3)).1 2) ((sq_kp (sq_go s3)).1 3) ((sq_kp (sq_go s3)).1 4) ((sq_kp (sq_go s3)).1 5) ((sq_kp (sq_go s3)).1 6) ((sq_kp (sq_go s3)).1 7) ((sq_kp (sq_go s3)).1 8) ((sq_kp (sq_go s3)).1 9) ((sq_kp (sq_go s3)).1 10) ((sq_kp (sq_go s3)).2 0) ((sq_kp (sq_go s3)).2 1) ((sq_kp (sq_go s3)).2 2) ((sq_kp (sq_go s3)).2 3) ((sq_kp (sq_go s3)).2 4) ((sq_kp (sq_go s3)).2 5) ((sq_kp (sq_go s3)).2 6) ((sq_kp (sq_go s3)).2 7) ((sq_kp (sq_go s3)).2 8)) := hD
    rw [he] at hP hD
    exact hend _ _ _ _ hP hD hS dX0_runCycle_48
  have T25 : ∀ (s2 : SqS) (H : Heap) (locs : List Loc) (ls : Array Slot), sq_ok s2 → sq_kp (sq_go (sq_l2 s2)) = sq_run st → va_P (dC, dI) vwCl (wX h0 q cI cZ (s2.1 0) (s2.1 1) (s2.1 2) (s2.1 3) (s2.1 4) (s2.1 5) (s2.1 6) (s2.1 7) (s2.1 8) (s2.1 9) (s2.1 10) (s2.2 0) (s2.2 1) (s2.2 2) (s2.2 3) (s2.2 4) (s2.2 5) (s2.2 6) (s2.2 7) (s2.2 8)) H → va_D A (wX h0 q cI cZ (s2.1 0) (s2.1 1) (s2.1 2) (s2.1 3) (s2.1 4) (s2.1 5) (s2.1 6) (s2.1 7) (s2.1 8) (s2.1 9) (s2.1 10) (s2.2 0) (s2.2 1) (s2.2 2) (s2.2 3) (s2.2 4) (s2.2 5) (s2.2 6) (s2.2 7) (s2.2 8)) → va_S A s.heap H locs → lv_has ls 1 [(0, .ref h0)] → W p l e rm_runCycle s m args below meth c H locs 0 0 Q (F0 m 25 ls []) := by
    intro s2 H locs ls hok he hP hD hS hl
    obtain ⟨⟨o1, o2⟩, o3, ⟨o4, o5⟩, o6, ⟨o7, o8, o9⟩, o10, o11, o12, o13, o14⟩ := id hok
    refine lv_aload_n hx hb dX0_runCycle_25 rfl (lv_at hl 0 rfl) ?_
    refine lv_aload_n hx hb dX0_runCycle_26 rfl (lv_at hl 0 rfl) ?_
    refine va_get (D := (dC, dI)) (ci := 0) (v := .int (nI (s2.2 1))) (C := RX0) (T := TX0) (N := 20) hx hb hts hin hown hK hP 0 rfl rfl 12 (by decide) k70 (fun _ h9 => h9) rfl dX0_runCycle_27 ?_
    refine sq_calli (As := [.int (nI (s2.2 1))]) (c_canRowComeIn l dC dI h0 q cI cZ (s2.1 0) (s2.1 1) (s2.1 2) (s2.1 3) (s2.1 4) (s2.1 5) (s2.1 6) (s2.1 7) (s2.1 8) (s2.1 9) (s2.1 10) (s2.2 0) (s2.2 1) (s2.2 2) (s2.2 3) (s2.2 4) (s2.2 5) (s2.2 6) (s2.2 7) (s2.2 8) (s2.2 1) o1 o2 (by omega) (by omega) (by omega) (by omega) o10 (by omega)) ⟨hx, hb, hml, hown, hts⟩ (cwV 1 hts (sq_good gvX0_144) rfl rfl rfl (by decide +kernel) ⟨Nat.le_of_ble_eq_true rfl, Nat.le_of_ble_eq_true rfl⟩) hK hP hD hS hA rfl rfl rfl rfl hl.1 rfl (Nat.le_of_ble_eq_true rfl) dX0_runCycle_30 ⟨Nat.zero_le _, Nat.zero_le _⟩ (fun H locs hP hD hS => ?_)
    have ho2 := sq_ok_l2 hok
    refine lv_if_eq (tgt := 40) hx hb dX0_runCycle_33 (by decide) (fun hc => ?_) (fun hc => ?_)
    · have hc2 : sq_cR s2 (s2.2 1) = false := sq_b0.mp hc
      have e2 : sq_l2 s2 = s2 := by unfold sq_l2; rw [if_neg (by rw [hc2]; decide)]
      rw [e2] at he ho2
      exact T40 s2 H locs ls hok he hP hD hS hl
    · have hc2 : sq_cR s2 (s2.2 1) = true := sq_bn0.mp hc
      have e2 : sq_l2 s2 = sq_le s2 := by unfold sq_l2; rw [if_pos hc2]
      have hc3 := of_decide_eq_true hc2
      rw [e2] at he ho2
      refine lv_aload_n hx hb dX0_runCycle_36 rfl (lv_at hl 0 rfl) ?_
      refine sq_callv (As := []) (c_letRowIn l dC dI h0 q cI cZ (s2.1 0) (s2.1 1) (s2.1 2) (s2.1 3) (s2.1 4) (s2.1 5) (s2.1 6) (s2.1 7) (s2.1 8) (s2.1 9) (s2.1 10) (s2.2 0) (s2.2 1) (s2.2 2) (s2.2 3) (s2.2 4) (s2.2 5) (s2.2 6) (s2.2 7) (s2.2 8) o1 o2 (by omega)) ⟨hx, hb, hml, hown, hts⟩ (cwV 0 hts (sq_good gvX0_153) rfl rfl rfl (by decide +kernel) ⟨Nat.le_of_ble_eq_true rfl, Nat.le_of_ble_eq_true rfl⟩) hK hP hD hS hA rfl rfl rfl rfl hl.1 rfl (Nat.le_of_ble_eq_true rfl) dX0_runCycle_37 ⟨Nat.zero_le _, Nat.zero_le _⟩ (fun H locs hP hD hS => ?_)
      have hP : va_P (dC, dI) vwCl (wX h0 q cI cZ ((sq_le s2).1 0) ((sq_le s2).1 1) ((sq_le s2).1 2) ((sq_le s2).1 3) ((sq_le s2).1 4) ((sq_le s2).1 5) ((sq_le s2).1 6) ((sq_le s2).1 7) ((sq_le s2).1 8) ((sq_le s2).1 9) ((sq_le s2).1 10) ((sq_le s2).2 0) ((sq_le s2).2 1) ((sq_le s2).2 2) ((sq_le s2).2 3) ((sq_le s2).2 4) ((sq_le s2).2 5) ((sq_le s2).2 6) ((sq_le s2).2 7) ((sq_le s2).2 8)) H := hP
      have hD : va_D A (wX h0 q cI cZ ((sq_le s2).1 0) ((sq_le s2).1 1) ((sq_le s2).1 2) ((sq_le s2).1 3) ((sq_le s2).1 4) ((sq_le s2).1 5) ((sq_le s2).1 6) ((sq_le s2).1 7) ((sq_le s2).1 8) ((sq_le s2).1 9) ((sq_le s2).1 10) ((sq_le s2).2 0) ((sq_le s2).2 1) ((sq_le s2).2 2) ((sq_le s2).2 3) ((sq_le s2).2 4) ((sq_le s2).2 5) ((sq_le s2).2 6) ((sq_le s2).2 7) ((sq_le s2).2 8)) := hD
      exact T40 (sq_le s2) H locs ls ho2 he hP hD hS hl
  obtain ⟨⟨o1, o2⟩, o3, ⟨o4, o5⟩, o6, ⟨o7, o8, o9⟩, o10, o11, o12, o13, o14⟩ := id hok
  refine lv_aload_n hx hb dX0_runCycle_0 rfl (lv_at hl 0 rfl) ?_
  refine lv_dup hx hb dX0_runCycle_1 rfl ?_
  refine va_get (D := (dC, dI)) (ci := 0) (v := .int (nI (st.2 1))) (C := RX0) (T := TX0) (N := 20) hx hb hts hin hown hK hP 0 rfl rfl 12 (by decide) k70 (fun _ h9 => h9) rfl dX0_runCycle_2 ?_
  refine lv_iconst (v := nI 1) hx hb dX0_runCycle_5 (by decide +kernel) ?_
  refine sq_iadd hx hb dX0_runCycle_6 ?_
  refine va_put (D := (dC, dI)) (ci := 0) (v := .int (nI ((st.2 1) + 1))) (ty := .int) (C := RX0) (T := TX0) (N := 20) hx hb hts hin tyX0 tyX0_ok nmX0 hown hK hP hD hS 0 rfl rfl 12 (by decide) k70 (fun _ h9 => h9) rfl (by decide +kernel) rfl rfl (Nat.le_of_ble_eq_true rfl) dX0_runCycle_7 (fun H locs hP hD hS => ?_)
  have hP : va_P (dC, dI) vwCl (wX h0 q cI cZ (st.1 0) (st.1 1) (st.1 2) (st.1 3) (st.1 4) (st.1 5) (st.1 6) (st.1 7) (st.1 8) (st.1 9) (st.1 10) (st.2 0) ((st.2 1) + 1) (st.2 2) (st.2 3) (st.2 4) (st.2 5) (st.2 6) (st.2 7) (st.2 8)) H := hP
  have hD : va_D A (wX h0 q cI cZ (st.1 0) (st.1 1) (st.1 2) (st.1 3) (st.1 4) (st.1 5) (st.1 6) (st.1 7) (st.1 8) (st.1 9) (st.1 10) (st.2 0) ((st.2 1) + 1) (st.2 2) (st.2 3) (st.2 4) (st.2 5) (st.2 6) (st.2 7) (st.2 8)) := hD
  refine lv_aload_n hx hb dX0_runCycle_10 rfl (lv_at hl 0 rfl) ?_
  refine sq_callv (As := []) (c_ageEntries l dC dI h0 q cI cZ (st.1 0) (st.1 1) (st.1 2) (st.1 3) (st.1 4) (st.1 5) (st.1 6) (st.1 7) (st.1 8) (st.1 9) (st.1 10) (st.2 0) ((st.2 1) + 1) (st.2 2) (st.2 3) (st.2 4) (st.2 5) (st.2 6) (st.2 7) (st.2 8)) ⟨hx, hb, hml, hown, hts⟩ (cwV 0 hts (sq_good gvX0_147) rfl rfl rfl (by decide +kernel) ⟨Nat.le_of_ble_eq_true rfl, Nat.le_of_ble_eq_true rfl⟩) hK hP hD hS hA rfl rfl rfl rfl hl.1 rfl (Nat.le_of_ble_eq_true rfl) dX0_runCycle_11 ⟨Nat.zero_le _, Nat.zero_le _⟩ (fun H locs hP hD hS => ?_)
  have hP : va_P (dC, dI) vwCl (wX h0 q cI cZ ((sq_p1 st).1 0) ((sq_p1 st).1 1) ((sq_p1 st).1 2) ((sq_p1 st).1 3) ((sq_p1 st).1 4) ((sq_p1 st).1 5) ((sq_p1 st).1 6) ((sq_p1 st).1 7) ((sq_p1 st).1 8) ((sq_p1 st).1 9) ((sq_p1 st).1 10) ((sq_p1 st).2 0) ((sq_p1 st).2 1) ((sq_p1 st).2 2) ((sq_p1 st).2 3) ((sq_p1 st).2 4) ((sq_p1 st).2 5) ((sq_p1 st).2 6) ((sq_p1 st).2 7) ((sq_p1 st).2 8)) H := hP
  have hD : va_D A (wX h0 q cI cZ ((sq_p1 st).1 0) ((sq_p1 st).1 1) ((sq_p1 st).1 2) ((sq_p1 st).1 3) ((sq_p1 st).1 4) ((sq_p1 st).1 5) ((sq_p1 st).1 6) ((sq_p1 st).1 7) ((sq_p1 st).1 8) ((sq_p1 st).1 9) ((sq_p1 st).1 10) ((sq_p1 st).2 0) ((sq_p1 st).2 1) ((sq_p1 st).2 2) ((sq_p1 st).2 3) ((sq_p1 st).2 4) ((sq_p1 st).2 5) ((sq_p1 st).2 6) ((sq_p1 st).2 7) ((sq_p1 st).2 8)) := hD
  have hok1 := sq_ok_p1 hok ht
  have he : sq_kp (sq_go (sq_l2 (sq_e2 (sq_p1 st)))) = sq_run st := rfl
  generalize sq_p1 st = s1 at hok1 he hP hD
  obtain ⟨⟨p1, p2⟩, p3, ⟨p4, p5⟩, p6, ⟨p7, p8, p9⟩, p10, p11, p12, p13, p14⟩ := id hok1
  refine lv_aload_n hx hb dX0_runCycle_14 rfl (lv_at hl 0 rfl) ?_
  refine sq_calli (As := []) (c_canVectorEnter l dC dI h0 q cI cZ (s1.1 0) (s1.1 1) (s1.1 2) (s1.1 3) (s1.1 4) (s1.1 5) (s1.1 6) (s1.1 7) (s1.1 8) (s1.1 9) (s1.1 10) (s1.2 0) (s1.2 1) (s1.2 2) (s1.2 3) (s1.2 4) (s1.2 5) (s1.2 6) (s1.2 7) (s1.2 8) (by omega) (by omega) p7 (by omega)) ⟨hx, hb, hml, hown, hts⟩ (cwV 0 hts (sq_good gvX0_141) rfl rfl rfl (by decide +kernel) ⟨Nat.le_of_ble_eq_true rfl, Nat.le_of_ble_eq_true rfl⟩) hK hP hD hS hA rfl rfl rfl rfl hl.1 rfl (Nat.le_of_ble_eq_true rfl) dX0_runCycle_15 ⟨Nat.zero_le _, Nat.zero_le _⟩ (fun H locs hP hD hS => ?_)
  have ho2 := sq_ok_e2 hok1
  refine lv_if_eq (tgt := 25) hx hb dX0_runCycle_18 (by decide) (fun hc => ?_) (fun hc => ?_)
  · have hc2 : sq_cV s1 = false := sq_b0.mp hc
    have e2 : sq_e2 s1 = s1 := by unfold sq_e2; rw [if_neg (by rw [hc2]; decide)]
    rw [e2] at he ho2
    exact T25 s1 H locs ls hok1 he hP hD hS hl
  · have hc2 : sq_cV s1 = true := sq_bn0.mp hc
    have e2 : sq_e2 s1 = sq_en s1 := by unfold sq_e2; rw [if_pos hc2]
    have hc3 := (of_decide_eq_true hc2).1
    rw [e2] at he ho2
    refine lv_aload_n hx hb dX0_runCycle_21 rfl (lv_at hl 0 rfl) ?_
    refine sq_callv (As := []) (c_enterVector l dC dI h0 q cI cZ (s1.1 0) (s1.1 1) (s1.1 2) (s1.1 3) (s1.1 4) (s1.1 5) (s1.1 6) (s1.1 7) (s1.1 8) (s1.1 9) (s1.1 10) (s1.2 0) (s1.2 1) (s1.2 2) (s1.2 3) (s1.2 4) (s1.2 5) (s1.2 6) (s1.2 7) (s1.2 8) (by omega)) ⟨hx, hb, hml, hown, hts⟩ (cwV 0 hts (sq_good gvX0_150) rfl rfl rfl (by decide +kernel) ⟨Nat.le_of_ble_eq_true rfl, Nat.le_of_ble_eq_true rfl⟩) hK hP hD hS hA rfl rfl rfl rfl hl.1 rfl (Nat.le_of_ble_eq_true rfl) dX0_runCycle_22 ⟨Nat.zero_le _, Nat.zero_le _⟩ (fun H locs hP hD hS => ?_)
    have hP : va_P (dC, dI) vwCl (wX h0 q cI cZ ((sq_en s1).1 0) ((sq_en s1).1 1) ((sq_en s1).1 2) ((sq_en s1).1 3) ((sq_en s1).1 4) ((sq_en s1).1 5) ((sq_en s1).1 6) ((sq_en s1).1 7) ((sq_en s1).1 8) ((sq_en s1).1 9) ((sq_en s1).1 10) ((sq_en s1).2 0) ((sq_en s1).2 1) ((sq_en s1).2 2) ((sq_en s1).2 3) ((sq_en s1).2 4) ((sq_en s1).2 5) ((sq_en s1).2 6) ((sq_en s1).2 7) ((sq_en s1).2 8)) H := hP
    have hD : va_D A (wX h0 q cI cZ ((sq_en s1).1 0) ((sq_en s1).1 1) ((sq_en s1).1 2) ((sq_en s1).1 3) ((sq_en s1).1 4) ((sq_en s1).1 5) ((sq_en s1).1 6) ((sq_en s1).1 7) ((sq_en s1).1 8) ((sq_en s1).1 9) ((sq_en s1).1 10) ((sq_en s1).2 0) ((sq_en s1).2 1) ((sq_en s1).2 2) ((sq_en s1).2 3) ((sq_en s1).2 4) ((sq_en s1).2 5) ((sq_en s1).2 6) ((sq_en s1).2 7) ((sq_en s1).2 8)) := hD
    exact T25 (sq_en s1) H locs ls ho2 he hP hD hS hl
end
section
def rm_fill : Room := { frames := 0, cells := 0, slots := 0, locals := 0 }
theorem sq_set_same {ws : va_W} {k : Nat} {x : Nat × va_E} (h : ws[k]? = some x) : ws.set k x = ws := by
  apply List.ext_getElem?
  intro i
  by_cases hi : k = i
  · subst hi
    rw [List.getElem?_set_self (List.getElem?_eq_some_iff.mp h).1, h]
  · rw [List.getElem?_set_ne hi]
set_option maxHeartbeats 4000000 in
set_option maxRecDepth 100000 in
/-- Arrays.fill of ints: every place holds v -/
theorem c_fill (l : Launch) (D : va_G) (cl : List vw_C) (tys : List (ClassId × FieldType)) (ws : va_W) (k t0 a : Nat) (cI : ClassId) (n : Nat) (f : Nat → Int32) (v : Int32) (ha : ws[k]? = some (a, .inl (cI, n, .inl f))) (ht : tys[t0]? = some (cI, .int)) (hn : n < 2 ^ 31) : sq_Mv l yJ_fill wsJ_fill rm_fill [.ref a, .int v] D cl tys ws (ws.set k (a, .inl (cI, n, .inl (sq_G (sq_dR n) (fun _ => v) f)))) := by
  refine sq_ofWv (cc := cJ_fill) (maxL := 4) (by decide) rfl (Nat.le_of_ble_eq_true rfl) ?_
  intro p e s m args below meth c A ls Q hx hb hts hown hml hK hP hD hS hA hl hend
  have hl : lv_has ls 4 [(0, .ref a), (1, .int v)] := hl
  have hkl : k < ws.length := (List.getElem?_eq_some_iff.mp ha).1
  have L1 : ∀ j t : Nat, t + j = n → ∀ (H : Heap) (locs : List Loc) (ls : Array Slot), va_P D cl (ws.set k (a, .inl (cI, n, .inl (sq_G (sq_dR t) (fun _ => v) f)))) H → va_D A (ws.set k (a, .inl (cI, n, .inl (sq_G (sq_dR t) (fun _ => v) f)))) → va_S A s.heap H locs → lv_has ls 4 [(2, .int (nI t)), (3, .int (nI n)), (0, .ref a), (1, .int v)] → W p l e rm_fill s m args below meth c H locs 0 0 Q (F0 m 5 ls []) := by
    intro j
    induction j using Nat.strongRecOn with
    | _ j ih =>
      intro t ht1 H locs ls hP hD hS hl
      refine lv_iload_n hx hb dJ_fill_5 rfl (lv_at hl 0 rfl) ?_
      refine lv_iload_n hx hb dJ_fill_6 rfl (lv_at hl 1 rfl) ?_
      refine sq_icmp_ge (tgt := 20) hx hb (by omega) (by omega) dJ_fill_7 (by decide) (fun hc => ?_) (fun hc => ?_)
      · rw [show t = n by omega] at hP hD
        exact hend _ _ _ _ hP hD hS dJ_fill_20
      · refine lv_aload_n hx hb dJ_fill_10 rfl (lv_at hl 2 rfl) ?_
        refine lv_iload_n hx hb dJ_fill_11 rfl (lv_at hl 0 rfl) ?_
        refine lv_iload_n hx hb dJ_fill_12 rfl (lv_at hl 3 rfl) ?_
        refine sq_iast hx hb hK hP hD hS k t0 (List.getElem?_set_self hkl) ht (i := t) hc hn dJ_fill_13 (fun H locs hP hD hS => ?_)
        rw [List.set_set, sq_G_step (d' := sq_dR (t + 1)) rfl (sq_dR_step t)] at hP hD
        refine lv_iinc (v := nI (t + 1)) (lv' := [(2, .int (nI (t + 1))), (3, .int (nI n)), (0, .ref a), (1, .int v)]) hx hb dJ_fill_14 hl (k := 0) rfl (sq_inc _) (by decide) rfl (fun ls hl => ?_)
        refine lv_goto (tgt := 5) hx hb dJ_fill_17 (by decide) ?_
        exact ih (j - 1) (by omega) (t + 1) (by omega) H locs ls hP hD hS hl
  refine lv_iconst (v := nI 0) hx hb dJ_fill_0 (by decide +kernel) ?_
  refine lv_istore_n (lv' := [(2, .int (nI 0)), (0, .ref a), (1, .int v)]) hx hb dJ_fill_1 rfl hl (by decide) rfl (fun ls hl => ?_)
  refine lv_aload_n hx hb dJ_fill_2 rfl (lv_at hl 1 rfl) ?_
  refine va_alen (v := nI n) hx hb hK hP k t0 ha ht rfl dJ_fill_3 ?_
  refine lv_istore_n (lv' := [(3, .int (nI n)), (2, .int (nI 0)), (0, .ref a), (1, .int v)]) hx hb dJ_fill_4 rfl hl (by decide) rfl (fun ls hl => ?_)
  have e9 : (ws.set k (a, .inl (cI, n, .inl (sq_G (sq_dR 0) (fun _ => v) f)))) = ws := sq_set_same (by rw [ha, sq_G_none (fun j => by simp [sq_dR])])
  rw [← e9] at hP hD
  exact L1 n 0 (by omega) _ _ ls hP hD hS (lv_sub hl [1, 0, 2, 3] rfl)
section SqCallS
variable {p : Program} {l : Launch} {e : Env} {R : Room} {s : State} {m : MethodId} {args : Array Value} {below : List Frame} {meth : Method} {c : Code} {H : Heap} {locs : List Loc} {cells slots : Nat} {Q : State → Prop} {cc : ByteArray} {pc : Nat} {ls : Array Slot} {rest : List Value}
variable {D : va_G} {cl : List vw_C} {ws w' : va_W} {tys : List (ClassId × FieldType)} {A : Nat → Prop}
variable {y : MethodName} {bytes : ByteArray} {maxL nL n index : Nat} {ret : Option FieldType} {wsy : List Cond} {rm : Room} {Ts : List Cond} {own : String} {As st0 : List Value}
/-- a static call on the world as it stands -/
theorem sq_callsv (hM : sq_Mv l y wsy rm As D cl tys ws w') (S : CallFix p m c cc nL s args Ts own) (cw : CallB R s args own index y bytes maxL ret wsy rm 0 0 n ∧ (Cond.static y).before args s = true)
    (hK : va_K D cl tys s) (hP : va_P D cl ws H) (hD : va_D A ws) (hS : va_S A s.heap H locs) (hA : ∀ q : Nat, s.heap.size ≤ q → A q)
    (hn : As.length = n) (hsz : ls.size = nL) (hst : st0 = As.reverse ++ rest) (hW : (rest.map fun v => v.category).sum ≤ 8) (hdg : decode cc pc = .ok (.invokestatic index, 3)) (hf : cells ≤ R.cells ∧ slots ≤ R.slots)
    (kk : ∀ (H1 : Heap) (locs1 : List Loc), va_P D cl w' H1 → va_D A w' → va_S A s.heap H1 locs1 → W p l e R s m args below meth c H1 locs1 cells slots Q (F0 m (pc + 3) ls rest)) : W p l e R s m args below meth c H locs cells slots Q (F0 m pc ls st0) := by
  have hFc := va_free (wc := ws) hD hS hA (List.range ws.length) (sq_allC ws)
  refine va_callv (va_runS (As := As) (rest := rest) S (hM H.size) cw ⟨sq_blind, fun U hU hW => ⟨rfl, by rw [hU], by rw [hU]; exact hP, va_K.moved hW.alike hK, hD.weaken (fun _ _ _ _ => trivial)⟩⟩ rfl hn hsz hst (lv_room hW) hdg ⟨hf.1, hf.2⟩) hS (fun q _ h => hFc q h) hFc (fun u t H1 locs ht hvm hw hB hz1 hk1 hS => ?_)
  obtain ⟨hP1, hK1, hD1⟩ := hB
  rw [ht] at hP1
  obtain ⟨hP2, hD2⟩ := va_join (wr := []) (w1 := w') hP hD (List.range ws.length) [] (sq_allC ws) rfl (by decide) (fun i h => by cases h) hk1 hFc hP1 hD1
  exact kk H1 locs hP2 hD2 hS
end SqCallS
def rm_clearTo : Room := { frames := 1, cells := 0, slots := 0, locals := 23 }
set_option maxHeartbeats 4000000 in
set_option maxRecDepth 100000 in
theorem c_clearTo (l : Launch) (dC : Nat → ClassId) (dI : Nat → Nat → Nat) (h0 : Nat) (q : Nat → Nat) (cI cZ : ClassId) (a0 a1 a2 a3 a4 a5 a6 a7 a8 a9 a10 : Nat → Int32) (f0 f1 f2 f3 f4 f5 f6 f7 f8 : Nat) (n0 : Nat)  : sq_Mv l yX0_clearTo wsX0_clearTo rm_clearTo [.ref h0, .int (nI n0)] (dC, dI) vwCl [(cI, .int), (cZ, .boolean)] (wX h0 q cI cZ a0 a1 a2 a3 a4 a5 a6 a7 a8 a9 a10 f0 f1 f2 f3 f4 f5 f6 f7 f8) (wX h0 q cI cZ a0 a1 a2 a3 a4 (sq_G (sq_dR 11) (fun _ => -1) a5) (sq_G (sq_dR 36) (fun _ => nI 0) a6) (sq_G (sq_dR 36) (fun _ => nI 0) a7) (sq_G (sq_dR 36) (fun _ => nI 0) a8) (sq_G (sq_dR 36) (fun _ => nI 0) a9) (sq_G (sq_dR 36) (fun _ => nI 0) a10) n0 0 0 0 0 0 0 0 0) := by
  refine sq_ofWv (cc := cX0_clearTo) (maxL := 3) (by decide) rfl (Nat.le_of_ble_eq_true rfl) ?_
  intro p e s m args below meth c A ls Q hx hb hts hown hml hK hP hD hS hA hl hend
  have hl : lv_has ls 3 [(0, .ref h0), (1, .int (nI n0))] := hl
  have hin : ∀ w ∈ u_ws RX0 TX0 20, w ∈ wsX0_clearTo := fun w h => List.mem_cons_of_mem _ (inX0 w h)
  have k26 := hts _ (List.mem_cons_of_mem _ mfX0_26)
  have k29 := hts _ (List.mem_cons_of_mem _ mfX0_29)
  have k32 := hts _ (List.mem_cons_of_mem _ mfX0_32)
  have k35 := hts _ (List.mem_cons_of_mem _ mfX0_35)
  have k38 := hts _ (List.mem_cons_of_mem _ mfX0_38)
  have k41 := hts _ (List.mem_cons_of_mem _ mfX0_41)
  have k55 := hts _ (List.mem_cons_of_mem _ mfX0_55)
  have k64 := hts _ (List.mem_cons_of_mem _ mfX0_64)
  have k70 := hts _ (List.mem_cons_of_mem _ mfX0_70)
  have k98 := hts _ (List.mem_cons_of_mem _ mfX0_98)
  have k112 := hts _ (List.mem_cons_of_mem _ mfX0_112)
  have k115 := hts _ (List.mem_cons_of_mem _ mfX0_115)
  have k124 := hts _ (List.mem_cons_of_mem _ mfX0_124)
  have k129 := hts _ (List.mem_cons_of_mem _ mfX0_129)
  have k132 := hts _ (List.mem_cons_of_mem _ mfX0_132)
  refine lv_aload_n hx hb dX0_clearTo_0 rfl (lv_at hl 0 rfl) ?_
  refine lv_iload_n hx hb dX0_clearTo_1 rfl (lv_at hl 1 rfl) ?_
  refine va_put (D := (dC, dI)) (ci := 0) (v := .int (nI n0)) (ty := .int) (C := RX0) (T := TX0) (N := 20) hx hb hts hin tyX0 tyX0_ok nmX0 hown hK hP hD hS 0 rfl rfl 11 (by decide) k124 (fun _ h9 => h9) rfl (by decide +kernel) rfl rfl (Nat.le_of_ble_eq_true rfl) dX0_clearTo_2 (fun H locs hP hD hS => ?_)
  have hP : va_P (dC, dI) vwCl (wX h0 q cI cZ a0 a1 a2 a3 a4 a5 a6 a7 a8 a9 a10 n0 f1 f2 f3 f4 f5 f6 f7 f8) H := hP
  have hD : va_D A (wX h0 q cI cZ a0 a1 a2 a3 a4 a5 a6 a7 a8 a9 a10 n0 f1 f2 f3 f4 f5 f6 f7 f8) := hD
  refine lv_aload_n hx hb dX0_clearTo_5 rfl (lv_at hl 0 rfl) ?_
  refine lv_iconst (v := nI 0) hx hb dX0_clearTo_6 (by decide +kernel) ?_
  refine va_put (D := (dC, dI)) (ci := 0) (v := .int (nI 0)) (ty := .int) (C := RX0) (T := TX0) (N := 20) hx hb hts hin tyX0 tyX0_ok nmX0 hown hK hP hD hS 0 rfl rfl 12 (by decide) k70 (fun _ h9 => h9) rfl (by decide +kernel) rfl rfl (Nat.le_of_ble_eq_true rfl) dX0_clearTo_7 (fun H locs hP hD hS => ?_)
  have hP : va_P (dC, dI) vwCl (wX h0 q cI cZ a0 a1 a2 a3 a4 a5 a6 a7 a8 a9 a10 n0 0 f2 f3 f4 f5 f6 f7 f8) H := hP
  have hD : va_D A (wX h0 q cI cZ a0 a1 a2 a3 a4 a5 a6 a7 a8 a9 a10 n0 0 f2 f3 f4 f5 f6 f7 f8) := hD
  refine lv_aload_n hx hb dX0_clearTo_10 rfl (lv_at hl 0 rfl) ?_
  refine lv_iconst (v := nI 0) hx hb dX0_clearTo_11 (by decide +kernel) ?_
  refine va_put (D := (dC, dI)) (ci := 0) (v := .int (nI 0)) (ty := .int) (C := RX0) (T := TX0) (N := 20) hx hb hts hin tyX0 tyX0_ok nmX0 hown hK hP hD hS 0 rfl rfl 13 (by decide) k55 (fun _ h9 => h9) rfl (by decide +kernel) rfl rfl (Nat.le_of_ble_eq_true rfl) dX0_clearTo_12 (fun H locs hP hD hS => ?_)
  have hP : va_P (dC, dI) vwCl (wX h0 q cI cZ a0 a1 a2 a3 a4 a5 a6 a7 a8 a9 a10 n0 0 0 f3 f4 f5 f6 f7 f8) H := hP
  have hD : va_D A (wX h0 q cI cZ a0 a1 a2 a3 a4 a5 a6 a7 a8 a9 a10 n0 0 0 f3 f4 f5 f6 f7 f8) := hD
  refine lv_aload_n hx hb dX0_clearTo_15 rfl (lv_at hl 0 rfl) ?_
  refine lv_iconst (v := nI 0) hx hb dX0_clearTo_16 (by decide +kernel) ?_
  refine va_put (D := (dC, dI)) (ci := 0) (v := .int (nI 0)) (ty := .int) (C := RX0) (T := TX0) (N := 20) hx hb hts hin tyX0 tyX0_ok nmX0 hown hK hP hD hS 0 rfl rfl 14 (by decide) k112 (fun _ h9 => h9) rfl (by decide +kernel) rfl rfl (Nat.le_of_ble_eq_true rfl) dX0_clearTo_17 (fun H locs hP hD hS => ?_)
  have hP : va_P (dC, dI) vwCl (wX h0 q cI cZ a0 a1 a2 a3 a4 a5 a6 a7 a8 a9 a10 n0 0 0 0 f4 f5 f6 f7 f8) H := hP
  have hD : va_D A (wX h0 q cI cZ a0 a1 a2 a3 a4 a5 a6 a7 a8 a9 a10 n0 0 0 0 f4 f5 f6 f7 f8) := hD
  refine lv_aload_n hx hb dX0_clearTo_20 rfl (lv_at hl 0 rfl) ?_
  refine lv_iconst (v := nI 0) hx hb dX0_clearTo_21 (by decide +kernel) ?_
  refine va_put (D := (dC, dI)) (ci := 0) (v := .int (nI 0)) (ty := .int) (C := RX0) (T := TX0) (N := 20) hx hb hts hin tyX0 tyX0_ok nmX0 hown hK hP hD hS 0 rfl rfl 15 (by decide) k129 (fun _ h9 => h9) rfl (by decide +kernel) rfl rfl (Nat.le_of_ble_eq_true rfl) dX0_clearTo_22 (fun H locs hP hD hS => ?_)
  have hP : va_P (dC, dI) vwCl (wX h0 q cI cZ a0 a1 a2 a3 a4 a5 a6 a7 a8 a9 a10 n0 0 0 0 0 f5 f6 f7 f8) H := hP
  have hD : va_D A (wX h0 q cI cZ a0 a1 a2 a3 a4 a5 a6 a7 a8 a9 a10 n0 0 0 0 0 f5 f6 f7 f8) := hD
  refine lv_aload_n hx hb dX0_clearTo_25 rfl (lv_at hl 0 rfl) ?_
  refine lv_iconst (v := nI 0) hx hb dX0_clearTo_26 (by decide +kernel) ?_
  refine va_put (D := (dC, dI)) (ci := 0) (v := .int (nI 0)) (ty := .int) (C := RX0) (T := TX0) (N := 20) hx hb hts hin tyX0 tyX0_ok nmX0 hown hK hP hD hS 0 rfl rfl 16 (by decide) k64 (fun _ h9 => h9) rfl (by decide +kernel) rfl rfl (Nat.le_of_ble_eq_true rfl) dX0_clearTo_27 (fun H locs hP hD hS => ?_)
  have hP : va_P (dC, dI) vwCl (wX h0 q cI cZ a0 a1 a2 a3 a4 a5 a6 a7 a8 a9 a10 n0 0 0 0 0 0 f6 f7 f8) H := hP
  have hD : va_D A (wX h0 q cI cZ a0 a1 a2 a3 a4 a5 a6 a7 a8 a9 a10 n0 0 0 0 0 0 f6 f7 f8) := hD
  refine lv_aload_n hx hb dX0_clearTo_30 rfl (lv_at hl 0 rfl) ?_
  refine lv_iconst (v := nI 0) hx hb dX0_clearTo_31 (by decide +kernel) ?_
  refine va_put (D := (dC, dI)) (ci := 0) (v := .int (nI 0)) (ty := .int) (C := RX0) (T := TX0) (N := 20) hx hb hts hin tyX0 tyX0_ok nmX0 hown hK hP hD hS 0 rfl rfl 17 (by decide) k98 (fun _ h9 => h9) rfl (by decide +kernel) rfl rfl (Nat.le_of_ble_eq_true rfl) dX0_clearTo_32 (fun H locs hP hD hS => ?_)
  have hP : va_P (dC, dI) vwCl (wX h0 q cI cZ a0 a1 a2 a3 a4 a5 a6 a7 a8 a9 a10 n0 0 0 0 0 0 0 f7 f8) H := hP
  have hD : va_D A (wX h0 q cI cZ a0 a1 a2 a3 a4 a5 a6 a7 a8 a9 a10 n0 0 0 0 0 0 0 f7 f8) := hD
  refine lv_aload_n hx hb dX0_clearTo_35 rfl (lv_at hl 0 rfl) ?_
  refine lv_iconst (v := nI 0) hx hb dX0_clearTo_36 (by decide +kernel) ?_
  refine va_put (D := (dC, dI)) (ci := 0) (v := .int (nI 0)) (ty := .int) (C := RX0) (T := TX0) (N := 20) hx hb hts hin tyX0 tyX0_ok nmX0 hown hK hP hD hS 0 rfl rfl 18 (by decide) k115 (fun _ h9 => h9) rfl (by decide +kernel) rfl rfl (Nat.le_of_ble_eq_true rfl) dX0_clearTo_37 (fun H locs hP hD hS => ?_)
  have hP : va_P (dC, dI) vwCl (wX h0 q cI cZ a0 a1 a2 a3 a4 a5 a6 a7 a8 a9 a10 n0 0 0 0 0 0 0 0 f8) H := hP
  have hD : va_D A (wX h0 q cI cZ a0 a1 a2 a3 a4 a5 a6 a7 a8 a9 a10 n0 0 0 0 0 0 0 0 f8) := hD
  refine lv_aload_n hx hb dX0_clearTo_40 rfl (lv_at hl 0 rfl) ?_
  refine lv_iconst (v := nI 0) hx hb dX0_clearTo_41 (by decide +kernel) ?_
  refine va_put (D := (dC, dI)) (ci := 0) (v := .int (nI 0)) (ty := .int) (C := RX0) (T := TX0) (N := 20) hx hb hts hin tyX0 tyX0_ok nmX0 hown hK hP hD hS 0 rfl rfl 19 (by decide) k132 (fun _ h9 => h9) rfl (by decide +kernel) rfl rfl (Nat.le_of_ble_eq_true rfl) dX0_clearTo_42 (fun H locs hP hD hS => ?_)
  have hP : va_P (dC, dI) vwCl (wX h0 q cI cZ a0 a1 a2 a3 a4 a5 a6 a7 a8 a9 a10 n0 0 0 0 0 0 0 0 0) H := hP
  have hD : va_D A (wX h0 q cI cZ a0 a1 a2 a3 a4 a5 a6 a7 a8 a9 a10 n0 0 0 0 0 0 0 0 0) := hD
  refine lv_aload_n hx hb dX0_clearTo_45 rfl (lv_at hl 0 rfl) ?_
  refine va_get (D := (dC, dI)) (ci := 0) (v := .ref (q 5)) (C := RX0) (T := TX0) (N := 20) hx hb hts hin hown hK hP 0 rfl rfl 5 (by decide) k26 (fun _ h9 => h9) rfl dX0_clearTo_46 ?_
  refine lv_iconst (v := (-1)) hx hb dX0_clearTo_49 (by decide +kernel) ?_
  refine sq_callsv (As := [.ref (q 5), .int (-1)]) (c_fill l (dC, dI) vwCl [(cI, .int), (cZ, .boolean)] (wX h0 q cI cZ a0 a1 a2 a3 a4 a5 a6 a7 a8 a9 a10 n0 0 0 0 0 0 0 0 0) 6 0 (q 5) cI 11 a5 (-1) rfl rfl (by decide)) ⟨hx, hb, hml, hown, hts⟩ (va_cwS 2 hts (sq_good gsX0_135) rfl rfl rfl (by decide +kernel) ⟨Nat.le_of_ble_eq_true rfl, Nat.le_of_ble_eq_true rfl⟩) hK hP hD hS hA rfl hl.1 rfl (Nat.le_of_ble_eq_true rfl) dX0_clearTo_50 ⟨Nat.zero_le _, Nat.zero_le _⟩ (fun H locs hP hD hS => ?_)
  have hP : va_P (dC, dI) vwCl (wX h0 q cI cZ a0 a1 a2 a3 a4 (sq_G (sq_dR 11) (fun _ => -1) a5) a6 a7 a8 a9 a10 n0 0 0 0 0 0 0 0 0) H := hP
  have hD : va_D A (wX h0 q cI cZ a0 a1 a2 a3 a4 (sq_G (sq_dR 11) (fun _ => -1) a5) a6 a7 a8 a9 a10 n0 0 0 0 0 0 0 0 0) := hD
  refine lv_aload_n hx hb dX0_clearTo_53 rfl (lv_at hl 0 rfl) ?_
  refine va_get (D := (dC, dI)) (ci := 0) (v := .ref (q 6)) (C := RX0) (T := TX0) (N := 20) hx hb hts hin hown hK hP 0 rfl rfl 6 (by decide) k29 (fun _ h9 => h9) rfl dX0_clearTo_54 ?_
  refine lv_iconst (v := nI 0) hx hb dX0_clearTo_57 (by decide +kernel) ?_
  refine sq_callsv (As := [.ref (q 6), .int (nI 0)]) (c_fill l (dC, dI) vwCl [(cI, .int), (cZ, .boolean)] (wX h0 q cI cZ a0 a1 a2 a3 a4 (sq_G (sq_dR 11) (fun _ => -1) a5) a6 a7 a8 a9 a10 n0 0 0 0 0 0 0 0 0) 7 0 (q 6) cI 36 a6 (nI 0) rfl rfl (by decide)) ⟨hx, hb, hml, hown, hts⟩ (va_cwS 2 hts (sq_good gsX0_135) rfl rfl rfl (by decide +kernel) ⟨Nat.le_of_ble_eq_true rfl, Nat.le_of_ble_eq_true rfl⟩) hK hP hD hS hA rfl hl.1 rfl (Nat.le_of_ble_eq_true rfl) dX0_clearTo_58 ⟨Nat.zero_le _, Nat.zero_le _⟩ (fun H locs hP hD hS => ?_)
  have hP : va_P (dC, dI) vwCl (wX h0 q cI cZ a0 a1 a2 a3 a4 (sq_G (sq_dR 11) (fun _ => -1) a5) (sq_G (sq_dR 36) (fun _ => nI 0) a6) a7 a8 a9 a10 n0 0 0 0 0 0 0 0 0) H := hP
  have hD : va_D A (wX h0 q cI cZ a0 a1 a2 a3 a4 (sq_G (sq_dR 11) (fun _ => -1) a5) (sq_G (sq_dR 36) (fun _ => nI 0) a6) a7 a8 a9 a10 n0 0 0 0 0 0 0 0 0) := hD
  refine lv_aload_n hx hb dX0_clearTo_61 rfl (lv_at hl 0 rfl) ?_
  refine va_get (D := (dC, dI)) (ci := 0) (v := .ref (q 7)) (C := RX0) (T := TX0) (N := 20) hx hb hts hin hown hK hP 0 rfl rfl 7 (by decide) k32 (fun _ h9 => h9) rfl dX0_clearTo_62 ?_
  refine lv_iconst (v := nI 0) hx hb dX0_clearTo_65 (by decide +kernel) ?_
  refine sq_callsv (As := [.ref (q 7), .int (nI 0)]) (c_fill l (dC, dI) vwCl [(cI, .int), (cZ, .boolean)] (wX h0 q cI cZ a0 a1 a2 a3 a4 (sq_G (sq_dR 11) (fun _ => -1) a5) (sq_G (sq_dR 36) (fun _ => nI 0) a6) a7 a8 a9 a10 n0 0 0 0 0 0 0 0 0) 8 0 (q 7) cI 36 a7 (nI 0) rfl rfl (by decide)) ⟨hx, hb, hml, hown, hts⟩ (va_cwS 2 hts (sq_good gsX0_135) rfl rfl rfl (by decide +kernel) ⟨Nat.le_of_ble_eq_true rfl, Nat.le_of_ble_eq_true rfl⟩) hK hP hD hS hA rfl hl.1 rfl (Nat.le_of_ble_eq_true rfl) dX0_clearTo_66 ⟨Nat.zero_le _, Nat.zero_le _⟩ (fun H locs hP hD hS => ?_)
  have hP : va_P (dC, dI) vwCl (wX h0 q cI cZ a0 a1 a2 a3 a4 (sq_G (sq_dR 11) (fun _ => -1) a5) (sq_G (sq_dR 36) (fun _ => nI 0) a6) (sq_G (sq_dR 36) (fun _ => nI 0) a7) a8 a9 a10 n0 0 0 0 0 0 0 0 0) H := hP
  have hD : va_D A (wX h0 q cI cZ a0 a1 a2 a3 a4 (sq_G (sq_dR 11) (fun _ => -1) a5) (sq_G (sq_dR 36) (fun _ => nI 0) a6) (sq_G (sq_dR 36) (fun _ => nI 0) a7) a8 a9 a10 n0 0 0 0 0 0 0 0 0) := hD
  refine lv_aload_n hx hb dX0_clearTo_69 rfl (lv_at hl 0 rfl) ?_
  refine va_get (D := (dC, dI)) (ci := 0) (v := .ref (q 8)) (C := RX0) (T := TX0) (N := 20) hx hb hts hin hown hK hP 0 rfl rfl 8 (by decide) k35 (fun _ h9 => h9) rfl dX0_clearTo_70 ?_
  refine lv_iconst (v := nI 0) hx hb dX0_clearTo_73 (by decide +kernel) ?_
  refine sq_callsv (As := [.ref (q 8), .int (nI 0)]) (c_fill l (dC, dI) vwCl [(cI, .int), (cZ, .boolean)] (wX h0 q cI cZ a0 a1 a2 a3 a4 (sq_G (sq_dR 11) (fun _ => -1) a5) (sq_G (sq_dR 36) (fun _ => nI 0) a6) (sq_G (sq_dR 36) (fun _ => nI 0) a7) a8 a9 a10 n0 0 0 0 0 0 0 0 0) 9 0 (q 8) cI 36 a8 (nI 0) rfl rfl (by decide)) ⟨hx, hb, hml, hown, hts⟩ (va_cwS 2 hts (sq_good gsX0_135) rfl rfl rfl (by decide +kernel) ⟨Nat.le_of_ble_eq_true rfl, Nat.le_of_ble_eq_true rfl⟩) hK hP hD hS hA rfl hl.1 rfl (Nat.le_of_ble_eq_true rfl) dX0_clearTo_74 ⟨Nat.zero_le _, Nat.zero_le _⟩ (fun H locs hP hD hS => ?_)
  have hP : va_P (dC, dI) vwCl (wX h0 q cI cZ a0 a1 a2 a3 a4 (sq_G (sq_dR 11) (fun _ => -1) a5) (sq_G (sq_dR 36) (fun _ => nI 0) a6) (sq_G (sq_dR 36) (fun _ => nI 0) a7) (sq_G (sq_dR 36) (fun _ => nI 0) a8) a9 a10 n0 0 0 0 0 0 0 0 0) H := hP
  have hD : va_D A (wX h0 q cI cZ a0 a1 a2 a3 a4 (sq_G (sq_dR 11) (fun _ => -1) a5) (sq_G (sq_dR 36) (fun _ => nI 0) a6) (sq_G (sq_dR 36) (fun _ => nI 0) a7) (sq_G (sq_dR 36) (fun _ => nI 0) a8) a9 a10 n0 0 0 0 0 0 0 0 0) := hD
  refine lv_aload_n hx hb dX0_clearTo_77 rfl (lv_at hl 0 rfl) ?_
  refine va_get (D := (dC, dI)) (ci := 0) (v := .ref (q 9)) (C := RX0) (T := TX0) (N := 20) hx hb hts hin hown hK hP 0 rfl rfl 9 (by decide) k38 (fun _ h9 => h9) rfl dX0_clearTo_78 ?_
  refine lv_iconst (v := nI 0) hx hb dX0_clearTo_81 (by decide +kernel) ?_
  refine sq_callsv (As := [.ref (q 9), .int (nI 0)]) (c_fill l (dC, dI) vwCl [(cI, .int), (cZ, .boolean)] (wX h0 q cI cZ a0 a1 a2 a3 a4 (sq_G (sq_dR 11) (fun _ => -1) a5) (sq_G (sq_dR 36) (fun _ => nI 0) a6) (sq_G (sq_dR 36) (fun _ => nI 0) a7) (sq_G (sq_dR 36) (fun _ => nI 0) a8) a9 a10 n0 0 0 0 0 0 0 0 0) 10 0 (q 9) cI 36 a9 (nI 0) rfl rfl (by decide)) ⟨hx, hb, hml, hown, hts⟩ (va_cwS 2 hts (sq_good gsX0_135) rfl rfl rfl (by decide +kernel) ⟨Nat.le_of_ble_eq_true rfl, Nat.le_of_ble_eq_true rfl⟩) hK hP hD hS hA rfl hl.1 rfl (Nat.le_of_ble_eq_true rfl) dX0_clearTo_82 ⟨Nat.zero_le _, Nat.zero_le _⟩ (fun H locs hP hD hS => ?_)
  have hP : va_P (dC, dI) vwCl (wX h0 q cI cZ a0 a1 a2 a3 a4 (sq_G (sq_dR 11) (fun _ => -1) a5) (sq_G (sq_dR 36) (fun _ => nI 0) a6) (sq_G (sq_dR 36) (fun _ => nI 0) a7) (sq_G (sq_dR 36) (fun _ => nI 0) a8) (sq_G (sq_dR 36) (fun _ => nI 0) a9) a10 n0 0 0 0 0 0 0 0 0) H := hP
  have hD : va_D A (wX h0 q cI cZ a0 a1 a2 a3 a4 (sq_G (sq_dR 11) (fun _ => -1) a5) (sq_G (sq_dR 36) (fun _ => nI 0) a6) (sq_G (sq_dR 36) (fun _ => nI 0) a7) (sq_G (sq_dR 36) (fun _ => nI 0) a8) (sq_G (sq_dR 36) (fun _ => nI 0) a9) a10 n0 0 0 0 0 0 0 0 0) := hD
  refine lv_iconst (v := nI 0) hx hb dX0_clearTo_85 (by decide +kernel) ?_
  refine lv_istore_n (lv' := [(2, .int (nI 0)), (0, .ref h0), (1, .int (nI n0))]) hx hb dX0_clearTo_86 rfl hl (by decide) rfl (fun ls hl => ?_)
  have L1 : ∀ j t : Nat, t + j = 36 → ∀ (H : Heap) (locs : List Loc) (ls : Array Slot), va_P (dC, dI) vwCl (wX h0 q cI cZ a0 a1 a2 a3 a4 (sq_G (sq_dR 11) (fun _ => -1) a5) (sq_G (sq_dR 36) (fun _ => nI 0) a6) (sq_G (sq_dR 36) (fun _ => nI 0) a7) (sq_G (sq_dR 36) (fun _ => nI 0) a8) (sq_G (sq_dR 36) (fun _ => nI 0) a9) (sq_G (sq_dR t) (fun _ => nI 0) a10) n0 0 0 0 0 0 0 0 0) H → va_D A (wX h0 q cI cZ a0 a1 a2 a3 a4 (sq_G (sq_dR 11) (fun _ => -1) a5) (sq_G (sq_dR 36) (fun _ => nI 0) a6) (sq_G (sq_dR 36) (fun _ => nI 0) a7) (sq_G (sq_dR 36) (fun _ => nI 0) a8) (sq_G (sq_dR 36) (fun _ => nI 0) a9) (sq_G (sq_dR t) (fun _ => nI 0) a10) n0 0 0 0 0 0 0 0 0) → va_S A s.heap H locs → lv_has ls 3 [(2, .int (nI t)), (0, .ref h0), (1, .int (nI n0))] → W p l e rm_clearTo s m args below meth c H locs 0 0 Q (F0 m 87 ls []) := by
    intro j
    induction j using Nat.strongRecOn with
    | _ j ih =>
      intro t ht H locs ls hP hD hS hl
      refine lv_iload_n hx hb dX0_clearTo_87 rfl (lv_at hl 0 rfl) ?_
      refine lv_bipush (v := nI 36) hx hb dX0_clearTo_88 (by decide +kernel) ?_
      refine sq_icmp_ge (tgt := 106) hx hb (by omega) (by omega) dX0_clearTo_90 (by decide) (fun hc => ?_) (fun hc => ?_)
      · rw [show t = 36 by omega] at hP hD
        exact hend _ _ _ _ hP hD hS dX0_clearTo_106
      · refine lv_aload_n hx hb dX0_clearTo_93 rfl (lv_at hl 1 rfl) ?_
        refine va_get (D := (dC, dI)) (ci := 0) (v := .ref (q 10)) (C := RX0) (T := TX0) (N := 20) hx hb hts hin hown hK hP 0 rfl rfl 10 (by decide) k41 (fun _ h9 => h9) rfl dX0_clearTo_94 ?_
        refine lv_iload_n hx hb dX0_clearTo_97 rfl (lv_at hl 0 rfl) ?_
        refine lv_iconst (v := nI 0) hx hb dX0_clearTo_98 (by decide +kernel) ?_
        refine sq_zast hx hb hK hP hD hS 11 1 rfl rfl (i := t) (by omega) (by decide) (by decide) dX0_clearTo_99 (fun H locs hP hD hS => ?_)
        have hP : va_P (dC, dI) vwCl (wX h0 q cI cZ a0 a1 a2 a3 a4 (sq_G (sq_dR 11) (fun _ => -1) a5) (sq_G (sq_dR 36) (fun _ => nI 0) a6) (sq_G (sq_dR 36) (fun _ => nI 0) a7) (sq_G (sq_dR 36) (fun _ => nI 0) a8) (sq_G (sq_dR 36) (fun _ => nI 0) a9) (upd (sq_G (sq_dR t) (fun _ => nI 0) a10) t (nI 0)) n0 0 0 0 0 0 0 0 0) H := hP
        have hD : va_D A (wX h0 q cI cZ a0 a1 a2 a3 a4 (sq_G (sq_dR 11) (fun _ => -1) a5) (sq_G (sq_dR 36) (fun _ => nI 0) a6) (sq_G (sq_dR 36) (fun _ => nI 0) a7) (sq_G (sq_dR 36) (fun _ => nI 0) a8) (sq_G (sq_dR 36) (fun _ => nI 0) a9) (upd (sq_G (sq_dR t) (fun _ => nI 0) a10) t (nI 0)) n0 0 0 0 0 0 0 0 0) := hD
        have eA : upd (sq_G (sq_dR t) (fun _ => nI 0) a10) t (nI 0) = sq_G (sq_dR (t + 1)) (fun _ => nI 0) a10 := sq_G_step rfl (sq_dR_step t)
        rw [eA] at hP hD
        clear eA
        refine lv_iinc (v := nI (t + 1)) (lv' := [(2, .int (nI (t + 1))), (0, .ref h0), (1, .int (nI n0))]) hx hb dX0_clearTo_100 hl (k := 0) rfl (sq_inc _) (by decide) rfl (fun ls hl => ?_)
        refine lv_goto (tgt := 87) hx hb dX0_clearTo_103 (by decide) ?_
        exact ih (j - 1) (by omega) (t + 1) (by omega) H locs ls hP hD hS hl
  rw [← sq_G_none (d := sq_dR 0) (new := fun _ => nI 0) (old := a10) (fun j => by simp [sq_dR])] at hP hD
  exact L1 36 0 (by omega) _ _ ls hP hD hS hl
end
section
/-! the class, call by call: which throw (0: none), the answer, the state behind it -/
def sq_clr (st : SqS) (n : Nat) : SqS := sq_mk (st.1 0) (st.1 1) (st.1 2) (st.1 3) (st.1 4) (sq_G (sq_dR 11) (fun _ => -1) (st.1 5)) (sq_G (sq_dR 36) (fun _ => nI 0) (st.1 6)) (sq_G (sq_dR 36) (fun _ => nI 0) (st.1 7)) (sq_G (sq_dR 36) (fun _ => nI 0) (st.1 8)) (sq_G (sq_dR 36) (fun _ => nI 0) (st.1 9)) (sq_G (sq_dR 36) (fun _ => nI 0) (st.1 10)) (n) (0) (0) (0) (0) (0) (0) (0) (0)
def sq_p6 (f : Nat → Int32) (i : Nat) (x1 x2 x3 x4 x5 x6 : Int32) : Nat → Int32 := upd (upd (upd (upd (upd (upd f i x1) (i + 1) x2) (i + 2) x3) (i + 3) x4) (i + 4) x5) (i + 5) x6
def sq_wgt (st : SqS) (x1 x2 x3 x4 x5 x6 : Int32) : SqS := sq_mk (sq_p6 (st.1 0) (st.2 2 * 6) x1 x2 x3 x4 x5 x6) (st.1 1) (st.1 2) (st.1 3) (st.1 4) (st.1 5) (st.1 6) (st.1 7) (st.1 8) (st.1 9) (st.1 10) (st.2 0) (st.2 1) (st.2 2 + 1) (st.2 3) (st.2 4) (st.2 5) (st.2 6) (st.2 7) (st.2 8)
def sq_vct (st : SqS) (b x1 x2 x3 x4 x5 x6 : Int32) : SqS := sq_mk (st.1 0) (sq_p6 (st.1 1) (st.2 5 * 6) x1 x2 x3 x4 x5 x6) (st.1 2) (upd (st.1 3) (st.2 5) b) (st.1 4) (st.1 5) (st.1 6) (st.1 7) (st.1 8) (st.1 9) (st.1 10) (st.2 0) (st.2 1) (st.2 2) (st.2 3) (st.2 4) (st.2 5 + 1) (st.2 6) (st.2 7) (st.2 8)
def sq_t1 (st : SqS) (t : Nat) : SqS := sq_mk (st.1 0) (st.1 1) (st.1 2) (st.1 3) (st.1 4) (st.1 5) (st.1 6) (st.1 7) (st.1 8) (st.1 9) (st.1 10) (st.2 0) (t) (st.2 2) (st.2 3) (st.2 4) (st.2 5) (st.2 6) (st.2 7) (st.2 8)
def sq_cyc (st : SqS) (n : Nat) : SqS := sq_t1 (sq_loop n st) (st.2 1 + n)
abbrev sq_in (n : Nat) (x : Int32) : Prop := ¬ x < 0 ∧ ¬ nI n ≤ x
theorem sq_in_of {n : Nat} {x : Int32} (h : sq_in n x) (hn : n < 2 ^ 31) : ∃ j : Nat, j < n ∧ x = nI j := by
  rcases pk_ix x hn with h1 | h1 | h1
  · exact absurd h1 h.1
  · exact absurd h1 h.2
  · exact h1
theorem sq_in_nI {n j : Nat} (h : j < n) (hn : n < 2 ^ 31) : sq_in n (nI j) := ⟨nI_pos (by omega), nI_ge h hn⟩
def sq_kB (x : Int32) : Nat := if x < nI 1 ∨ ¬ x ≤ nI 6 then 1 else 0
def sq_kW (st : SqS) : Nat := if st.2 2 < 120 then 0 else 1
def sq_kV (st : SqS) : Nat := if st.2 5 < 200 then 0 else 1
def sq_kC (st : SqS) (x : Int32) : Nat := if x < 0 ∨ ¬ sq_vec x ≤ 100000 - st.2 1 then 1 else 0
def sq_kL (st : SqS) (x y w : Int32) : Nat := if ¬ (sq_in (st.2 0) x ∧ sq_in (st.2 0) y) then 1 else if w < 0 ∨ nI 4 < w then 2 else 0
def sq_rL (st : SqS) (x y w : Int32) : Int32 := if w = 0 then st.1 6 (sq_vec x * 6 + sq_vec y) else if w = 1 then st.1 7 (sq_vec x * 6 + sq_vec y) else if w = 2 then st.1 8 (sq_vec x * 6 + sq_vec y) else if w = 3 then st.1 9 (sq_vec x * 6 + sq_vec y) else if st.1 10 (sq_vec x * 6 + sq_vec y) = 0 then nI 0 else nI 1
def sq_kE (st : SqS) (v : Int32) : Nat := if sq_in (st.2 5) v then 0 else 1
def sq_rE (st : SqS) (v : Int32) : Int32 := if sq_vec v < st.2 6 then st.1 4 (sq_vec v) else -1
def sq_kR (st : SqS) (v c : Int32) : Nat := if ¬ (sq_in (st.2 5) v ∧ sq_in (st.2 0) c) then 1 else if sq_vec v < st.2 6 ∧ 2 * st.2 0 - 2 ≤ st.2 1 - sq_vec (st.1 4 (sq_vec v)) then 0 else 2
def sq_rR (st : SqS) (v c : Int32) : Int32 := st.1 2 (sq_vec v * 6 + sq_vec c)
def sq_kA (w : Int32) : Nat := if w < 0 ∨ nI 6 < w then 1 else 0
def sq_rA (st : SqS) (w : Int32) : Int32 := if w = 0 then nI (st.2 1) else if w = 1 then nI (st.2 5 - st.2 6) else if w = 2 then nI (st.2 2 - st.2 3) else if w = 3 then nI (st.2 7) else if w = 4 then sq_b (decide (st.2 4 = st.2 0)) else if w = 5 then nI (sq_cntR (st.1 5) (st.2 0) (st.2 0)) else nI (st.2 0)
/-- a small number, or out of the table -/
theorem sq_sw5 (w : Int32) : (w = 0 ∨ w = 1 ∨ w = 2 ∨ w = 3 ∨ w = 4) ∨ (w < 0 ∨ nI 4 < w) := by
  rcases pk_ix w (n := 5) (by decide) with h | h | ⟨j, hj, rfl⟩
  · exact Or.inr (Or.inl h)
  · refine Or.inr (Or.inr ?_)
    rw [Int32.lt_iff_toInt_lt]
    rw [Int32.le_iff_toInt_le, nI_toInt (by decide)] at h
    rw [nI_toInt (by decide)]
    omega
  · left
    rcases (show j = 0 ∨ j = 1 ∨ j = 2 ∨ j = 3 ∨ j = 4 by omega) with rfl | rfl | rfl | rfl | rfl <;> decide
theorem sq_sw7 (w : Int32) : (w = 0 ∨ w = 1 ∨ w = 2 ∨ w = 3 ∨ w = 4 ∨ w = 5 ∨ w = 6) ∨ (w < 0 ∨ nI 6 < w) := by
  rcases pk_ix w (n := 7) (by decide) with h | h | ⟨j, hj, rfl⟩
  · exact Or.inr (Or.inl h)
  · refine Or.inr (Or.inr ?_)
    rw [Int32.lt_iff_toInt_lt]
    rw [Int32.le_iff_toInt_le, nI_toInt (by decide)] at h
    rw [nI_toInt (by decide)]
    omega
  · left
    rcases (show j = 0 ∨ j = 1 ∨ j = 2 ∨ j = 3 ∨ j = 4 ∨ j = 5 ∨ j = 6 by omega) with rfl | rfl | rfl | rfl | rfl | rfl | rfl <;> decide
theorem sq_swOut {w : Int32} {k : Nat} (hk : k < 2 ^ 31) (h : w < 0 ∨ nI k < w) : w.toInt < 0 ∨ (k : Int) < w.toInt := by
  rcases h with h | h
  · left; rw [Int32.lt_iff_toInt_lt] at h; simpa using h
  · right; rw [Int32.lt_iff_toInt_lt, nI_toInt hk] at h; exact h
end
section
/-! what a throw rests on: carried from the law's start to every call -/
def sq_Z (cC : List (String × String)) (cD : List MethodName) (own : String) (cS : List (Nat × String)) (cN : List (String × String)) (S : Nat → Nat) (A : Nat → Prop) (U : State) (H : Heap) : Prop :=
  vx_Zq Bundle.tN "UNASSIGNED_STACK" Bundle.steD A U H ∧ vx_Zq Bundle.tN "SUPPRESSED_SENTINEL" Bundle.listD A U H ∧ (∀ x ∈ cC, va_Nw (.castable x.1 x.2) U) ∧ (∀ x ∈ cD, va_Nw (.declares x) U) ∧ (∀ x ∈ cS, vk_R own x.1 x.2 (S x.1) U) ∧ (∀ x ∈ cN, va_Nc x.1 x.2 U)
section SqThr
variable {cC : List (String × String)} {cD : List MethodName} {zown : String} {cS : List (Nat × String)} {cN : List (String × String)} {S : Nat → Nat}
theorem sq_Z.go {A A' : Nat → Prop} {s U : State} {H : Heap} {locs : List Loc} (h : sq_Z cC cD zown cS cN S A s s.heap) (hS : va_S A s.heap H locs) (hU : U.heap = H) (hW : s.WarmedH U.vm) (hA : ∀ q, A' q → A q) : sq_Z cC cD zown cS cN S A' U U.heap := by
  obtain ⟨h1, h2, h3, h4, h5, h6⟩ := h
  rw [hU]
  exact ⟨((vx_Zq.moved hW.alike h1).kept hS.2.1).narrow hA, ((vx_Zq.moved hW.alike h2).kept hS.2.1).narrow hA, fun x hx => va_Nw.warmC hW (h3 x hx), fun x hx => va_Nw.warmD hW (h4 x hx), fun x hx => vk_R.warm hW (h5 x hx), fun x hx => va_Nc.moved hW.alike (h6 x hx)⟩
theorem sq_Z.call {A : Nat → Prop} {U : State} {g : JFrame} {mk : MethodId} {a : Array Value} (h : sq_Z cC cD zown cS cN S A U U.heap) : sq_Z cC cD zown cS cN S A (U.calling g mk a) (U.calling g mk a).heap := by
  obtain ⟨h1, h2, h3, h4, h5, h6⟩ := h
  exact ⟨vx_Zq.moved (u := U) (U := U.calling g mk a) (Vm.Alike.refl U.vm) h1, vx_Zq.moved (u := U) (U := U.calling g mk a) (Vm.Alike.refl U.vm) h2, fun x hx => va_Nw.same rfl rfl (h3 x hx), fun x hx => va_Nw.same rfl rfl (h4 x hx), fun x hx => vk_R.same rfl (h5 x hx), fun x hx => va_Nc.moved (u := U) (U := U.calling g mk a) (Vm.Alike.refl U.vm) (h6 x hx)⟩
/-- the start of a method that may throw -/
def sq_UZ (cC : List (String × String)) (cD : List MethodName) (own : String) (cS : List (Nat × String)) (cN : List (String × String)) (S : Nat → Nat) (D : va_G) (cl : List vw_C) (ws : va_W) (tys : List (ClassId × FieldType)) (sz : Nat) : State → Prop := fun U => sq_U D cl ws tys sz U ∧ sq_Z cC cD own cS cN S (va_A ws sz) U U.heap
theorem sq_blindZ {D : va_G} {cl : List vw_C} {ws : va_W} {tys : List (ClassId × FieldType)} {sz : Nat} {av : List Value} : FrameBlind (va_Pc av (sq_UZ cC cD zown cS cN S D cl ws tys sz)) := fun a U g mk q => by
  obtain ⟨q0, ⟨q1, qP, qK, qD⟩, qZ⟩ := q
  exact ⟨q0, ⟨q1, qP, va_K.moved (u := U) (U := U.calling g mk a) (Vm.Alike.refl U.vm) qK, qD⟩, qZ.call⟩
/-- its end: k = 0, it returns r; else it throws, of the kind En k, and nothing has changed -/
def sq_QX (D : va_G) (cl : List vw_C) (tys : List (ClassId × FieldType)) (ws w' : va_W) (k : Nat) (En : Nat → String) (A : Nat → Prop) : String → State → State → Prop := vx_X (fun _ : Unit => ¬ k = 0) (fun E _ t => E = En k ∧ sq_B D cl ws tys A t) A
def sq_Xv (cC : List (String × String)) (cD : List MethodName) (own : String) (cS : List (Nat × String)) (cN : List (String × String)) (S : Nat → Nat) (l : Launch) (y : MethodName) (wsy : List Cond) (rm : Room) (av : List Value) (D : va_G) (cl : List vw_C) (tys : List (ClassId × FieldType)) (ws w' : va_W) (k : Nat) (En : Nat → String) : Prop :=
  ∀ sz : Nat, vx_Met l y wsy rm (va_Pc av (sq_UZ cC cD own cS cN S D cl ws tys sz)) (va_Qv (fun _ : Unit => k = 0) (fun _ => sq_B D cl w' tys (va_A ws sz)) (va_A ws sz)) (vx_X (fun _ : Unit => ¬ k = 0) (fun E _ t => E = En k ∧ sq_B D cl ws tys (va_A ws sz) t) (va_A ws sz)) 1 6 (va_A ws sz)
def sq_Xi (cC : List (String × String)) (cD : List MethodName) (own : String) (cS : List (Nat × String)) (cN : List (String × String)) (S : Nat → Nat) (l : Launch) (y : MethodName) (wsy : List Cond) (rm : Room) (av : List Value) (D : va_G) (cl : List vw_C) (tys : List (ClassId × FieldType)) (ws w' : va_W) (k : Nat) (En : Nat → String) (r : Int32) : Prop :=
  ∀ sz : Nat, vx_Met l y wsy rm (va_Pc av (sq_UZ cC cD own cS cN S D cl ws tys sz)) (va_Qi (fun x (_ : Unit) => k = 0 ∧ x = r) (fun _ => sq_B D cl w' tys (va_A ws sz)) (va_A ws sz)) (vx_X (fun _ : Unit => ¬ k = 0) (fun E _ t => E = En k ∧ sq_B D cl ws tys (va_A ws sz) t) (va_A ws sz)) 1 6 (va_A ws sz)
theorem sq_ofXv {l : Launch} {y : MethodName} {wsy wsy' : List Cond} {rm : Room} {av : List Value} {D : va_G} {cl : List vw_C} {tys : List (ClassId × FieldType)} {ws w' : va_W} {k : Nat} {En : Nat → String} {cc : ByteArray} {maxL : Nat} (hy : plainName y.cls = true) (hw : wsy = Cond.code y cc maxL none :: wsy') (hlen : (lg_sl av).length ≤ maxL)
    (body : ∀ (p : Program) (e : Env) (s : State) (m : MethodId) (args : Array Value) (below : List Frame) (meth : Method) (c : Code) (A : Nat → Prop) (ls : Array Slot) (Q : State → Prop), p.tables.exec = Jvm.exec → c.code = cc → (∀ w ∈ wsy, w.before args s = true) → s.vm.findClass y.cls = some m.cls → c.maxLocals = maxL → va_K D cl tys s → va_P D cl ws s.heap → va_D A ws → va_S A s.heap s.heap [] → (∀ q : Nat, s.heap.size ≤ q → A q) → lv_has ls maxL (lv_args 0 av) →
      sq_Z cC cD zown cS cN S A s s.heap → meth.locks = false → (∀ x ∈ c.exceptionTable.toList, False) →
      (∀ (H : Heap) (locs : List Loc) (ls : Array Slot) (pc : Nat), k = 0 → va_P D cl w' H → va_D A w' → va_S A s.heap H locs → decode cc pc = .ok (.return_, 1) → W p l e rm s m args below meth c H locs 0 0 Q (F0 m pc ls [])) →
      (Q = vx_MQ below (va_Qv (fun _ : Unit => k = 0) (fun _ => sq_B D cl w' tys A) A) (vx_X (fun _ : Unit => ¬ k = 0) (fun E _ t => E = En k ∧ sq_B D cl ws tys A t) A) args s 1 6 A) →
      W p l e rm s m args below meth c s.heap [] 0 0 Q (F0 m 0 ls [])) : sq_Xv cC cD zown cS cN S l y wsy rm av D cl tys ws w' k En := by
  intro sz
  refine vx_ofW (cc := cc) (maxL := maxL) (ret := none) hy hw ?_
  intro p e s m args below meth c s₁ B hml hEx hv
  obtain ⟨rfl, ⟨hsz, hP, hK, hD0⟩, hZ⟩ := hv
  subst hsz
  have hD := hD0.self (sz := s.heap.size)
  have hA : ∀ q : Nat, s.heap.size ≤ q → va_A ws s.heap.size q := fun q h => Or.inr h
  have hl := lv_entry av (n := maxL) hlen
  rw [lg_entry_eq]
  refine body p e s m _ below meth c _ _ _ B.exec B.bytes (atoms_spec (ws := wsy) B.pre) (findClass_of_methodNamed B.named) hml hK hP hD va_S.rf hA hl hZ B.notSynchronized hEx (fun H locs ls pc hk hP hD hS hd => ?_) rfl
  refine vx_ret (W.widen (k := 1) (n := 6) (Nat.zero_le _) (Nat.zero_le _) ?_)
  exact W.vret B.exec B.bytes B.returns (fun t ht hW => ⟨⟨(), rfl, hk, by rw [ht]; exact hP, va_K.moved hW.alike hK, hD⟩, hS.F ht⟩) hS.2.2 hd B.notSynchronized
theorem sq_ofXi {l : Launch} {y : MethodName} {wsy wsy' : List Cond} {rm : Room} {av : List Value} {D : va_G} {cl : List vw_C} {tys : List (ClassId × FieldType)} {ws w' : va_W} {k : Nat} {En : Nat → String} {r : Int32} {cc : ByteArray} {maxL : Nat} (hy : plainName y.cls = true) (hw : wsy = Cond.code y cc maxL (some .int) :: wsy') (hlen : (lg_sl av).length ≤ maxL)
    (body : ∀ (p : Program) (e : Env) (s : State) (m : MethodId) (args : Array Value) (below : List Frame) (meth : Method) (c : Code) (A : Nat → Prop) (ls : Array Slot) (Q : State → Prop), p.tables.exec = Jvm.exec → c.code = cc → (∀ w ∈ wsy, w.before args s = true) → s.vm.findClass y.cls = some m.cls → c.maxLocals = maxL → va_K D cl tys s → va_P D cl ws s.heap → va_D A ws → va_S A s.heap s.heap [] → (∀ q : Nat, s.heap.size ≤ q → A q) → lv_has ls maxL (lv_args 0 av) →
      sq_Z cC cD zown cS cN S A s s.heap → meth.locks = false → (∀ x ∈ c.exceptionTable.toList, False) →
      (∀ (H : Heap) (locs : List Loc) (ls : Array Slot) (pc : Nat) (x : Int32), k = 0 → x = r → va_P D cl w' H → va_D A w' → va_S A s.heap H locs → decode cc pc = .ok (.ireturn, 1) → W p l e rm s m args below meth c H locs 0 0 Q (F0 m pc ls [.int x])) →
      (Q = vx_MQ below (va_Qi (fun x (_ : Unit) => k = 0 ∧ x = r) (fun _ => sq_B D cl w' tys A) A) (vx_X (fun _ : Unit => ¬ k = 0) (fun E _ t => E = En k ∧ sq_B D cl ws tys A t) A) args s 1 6 A) →
      W p l e rm s m args below meth c s.heap [] 0 0 Q (F0 m 0 ls [])) : sq_Xi cC cD zown cS cN S l y wsy rm av D cl tys ws w' k En r := by
  intro sz
  refine vx_ofW (cc := cc) (maxL := maxL) (ret := some .int) hy hw ?_
  intro p e s m args below meth c s₁ B hml hEx hv
  obtain ⟨rfl, ⟨hsz, hP, hK, hD0⟩, hZ⟩ := hv
  subst hsz
  have hD := hD0.self (sz := s.heap.size)
  have hA : ∀ q : Nat, s.heap.size ≤ q → va_A ws s.heap.size q := fun q h => Or.inr h
  have hl := lv_entry av (n := maxL) hlen
  rw [lg_entry_eq]
  refine body p e s m _ below meth c _ _ _ B.exec B.bytes (atoms_spec (ws := wsy) B.pre) (findClass_of_methodNamed B.named) hml hK hP hD va_S.rf hA hl hZ B.notSynchronized hEx (fun H locs ls pc x hk hx hP hD hS hd => ?_) rfl
  refine vx_ret (W.widen (k := 1) (n := 6) (Nat.zero_le _) (Nat.zero_le _) ?_)
  exact W.iret B.exec B.bytes B.returns (fun t ht hW => ⟨⟨x, (), rfl, ⟨hk, hx⟩, by rw [ht]; exact hP, va_K.moved hW.alike hK, hD⟩, hS.F ht⟩) hS.2.2 hd B.notSynchronized
/-- 'throw new E("text")' where nothing has been written -/
theorem sq_thr {p : Program} {l : Launch} {e : Env} {R : Room} {s : State} {m : MethodId} {args : Array Value} {below : List Frame} {meth : Method} {c : Code} {H : Heap} {locs : List Loc} {cc : ByteArray} {pc : Nat} {ls : Array Slot} {D : va_G} {cl : List vw_C} {ws : va_W} {tys : List (ClassId × FieldType)} {A : Nat → Prop} {k : Nat} {En : Nat → String} {Q : State → Prop} {Qc : Array Value → State → Outcome → State → Prop}
    (hQ : Q = vx_MQ below Qc (vx_X (fun _ : Unit => ¬ k = 0) (fun E _ t => E = En k ∧ sq_B D cl ws tys A t) A) args s 1 6 A)
    (hx : p.tables.exec = Jvm.exec) (hb : c.code = cc) (hl : l.stackTraces = false) {own cls text : String} {names : List String} {ik is ic sa : Nat}
    (hown : s.vm.findClass own = some m.cls) (hcls : Bundle.fit cls = true) (hnames : ∀ n ∈ names, Bundle.fit n = true) (hk : (Cond.classLink own ik cls).before args s = true) (hini : (Cond.initialized cls).before args s = true) (hstr : vk_R own is text sa s) (hat : ∀ w ∈ vx_atS own ic cls names, w.before args s = true)
    (hgood : ∀ w ∈ Cond.classLink own ik cls :: Cond.initialized cls :: vx_atS own ic cls names, vx_ot w = true)
    (hZ : sq_Z cC cD zown cS cN S A s s.heap) (hS : va_S A s.heap H locs) (hsize : ls.size = c.maxLocals)
    (d0 : decode cc pc = .ok (.new ik, 3)) (d3 : decode cc (pc + 3) = .ok (.dup, 1)) (d4 : decode cc (pc + 4) = .ok (.ldc is, 2)) (d6 : decode cc (pc + 6) = .ok (.invokespecial ic, 3)) (d9 : decode cc (pc + 9) = .ok (.athrow, 1))
    (hEx : ∀ x ∈ c.exceptionTable.toList, False) (hRf : names.length + 3 < R.frames) (hRl : 13 * (names.length + 1) + 43 ≤ R.locals) (hRc : 1 ≤ R.cells) (hRs : 6 ≤ R.slots) (hlocks : meth.locks = false)
    (hP : va_P D cl ws H) (hK : va_K D cl tys s) (hD : va_D A ws) (hk0 : ¬ k = 0) (hE : cls = En k) : W p l e R s m args below meth c H locs 0 0 Q (F0 m pc ls []) := by
  rw [hQ]
  exact vx_throwS (cls := cls) (names := names) hx hb hl hown hcls hnames hk hini hstr hat hgood hZ.1 hZ.2.1 hS hsize d0 d3 d4 d6 d9 (fun x hx => (hEx x hx).elim) hRf (by simpa using hRl) (by simpa using hRc) (by simpa using hRs) hlocks
    (fun t ha hsz hk => ⟨(), hk0, ⟨hE, hP.kept (fun k q hq => hk q.1 (hP k q hq).lt), va_K.moved ha hK, hD⟩, Nat.le_trans hS.1 hsz, fun q h1 h2 => (hk q (Nat.lt_of_lt_of_le h1 hS.1)).trans (hS.2.1 q h1 h2)⟩) hS.2.2 (Nat.le_refl _) (Nat.le_refl _)
end SqThr
end
section
def sq_cC : List (String × String) := [("java/lang/IllegalArgumentException", "java/lang/IllegalArgumentException"), ("java/lang/UnsupportedOperationException", "java/lang/UnsupportedOperationException"), ("java/lang/IndexOutOfBoundsException", "java/lang/IndexOutOfBoundsException"), ("java/util/NoSuchElementException", "java/util/NoSuchElementException")]
def sq_cD : List MethodName := [⟨"java/lang/RuntimeException", "<init>", "(Ljava/lang/String;)V"⟩, ⟨"java/lang/Exception", "<init>", "(Ljava/lang/String;)V"⟩, ⟨"java/lang/Throwable", "<init>", "(Ljava/lang/String;)V"⟩]
def sq_cS : List (Nat × String) := [(50, "the side is not 1 .. 6"), (61, "there are 120 rows"), (67, "there are 200 vectors"), (73, "n is below 0 or too many cycles"), (88, "there is no such cell"), (91, "what is not 0 .. 4"), (96, "there is no such vector"), (101, "there is no such vector or column"), (109, "the vector has no result yet"), (127, "what is not 0 .. 6")]
def sq_cN : List (String × String) := [("java/lang/IllegalArgumentException", "java/lang/IndexOutOfBoundsException"), ("java/util/NoSuchElementException", "java/lang/IndexOutOfBoundsException")]
theorem sq_ax52 : ∀ w ∈ (vx_atS RX0 52 "java/lang/IllegalArgumentException" ["java/lang/RuntimeException", "java/lang/Exception"]).filter goodWord, w ∈ lw_tbl := by decide +kernel
theorem sq_ax63 : ∀ w ∈ (vx_atS RX0 63 "java/lang/UnsupportedOperationException" ["java/lang/RuntimeException", "java/lang/Exception"]).filter goodWord, w ∈ lw_tbl := by decide +kernel
theorem sq_ax90 : ∀ w ∈ (vx_atS RX0 90 "java/lang/IndexOutOfBoundsException" ["java/lang/RuntimeException", "java/lang/Exception"]).filter goodWord, w ∈ lw_tbl := by decide +kernel
/-- 'throw new NoSuchElementException("the vector has no result yet")' (its constructor calls by another entry than the others) -/
theorem sq_thrN {S : Nat → Nat} {p : Program} {l : Launch} {e : Env} {R : Room} {s : State} {m : MethodId} {args : Array Value} {below : List Frame} {meth : Method} {c : Code} {H : Heap} {locs : List Loc} {cc : ByteArray} {pc : Nat} {ls : Array Slot} {D : va_G} {cl : List vw_C} {ws : va_W} {tys : List (ClassId × FieldType)} {A : Nat → Prop} {k : Nat} {En : Nat → String} {Q : State → Prop} {Qc : Array Value → State → Outcome → State → Prop} {w0 : Cond}
    (hQ : Q = vx_MQ below Qc (vx_X (fun _ : Unit => ¬ k = 0) (fun E _ t => E = En k ∧ sq_B D cl ws tys A t) A) args s 1 6 A)
    (hx : p.tables.exec = Jvm.exec) (hb : c.code = cc) (hl : l.stackTraces = false) (hown : s.vm.findClass RX0 = some m.cls) (hts : ∀ w ∈ w0 :: sq_W, w.before args s = true)
    (hZ : sq_Z sq_cC sq_cD RX0 sq_cS sq_cN S A s s.heap) (hS : va_S A s.heap H locs) (hsize : ls.size = c.maxLocals)
    (d0 : decode cc pc = .ok (.new 107, 3)) (d3 : decode cc (pc + 3) = .ok (.dup, 1)) (d4 : decode cc (pc + 4) = .ok (.ldc 109, 2)) (d6 : decode cc (pc + 6) = .ok (.invokespecial 111, 3)) (d9 : decode cc (pc + 9) = .ok (.athrow, 1))
    (hEx : ∀ x ∈ c.exceptionTable.toList, False) (hRf : 5 < R.frames) (hRl : 82 ≤ R.locals) (hRc : 1 ≤ R.cells) (hRs : 6 ≤ R.slots) (hlocks : meth.locks = false)
    (hP : va_P D cl ws H) (hK : va_K D cl tys s) (hD : va_D A ws) (hk0 : ¬ k = 0) (hE : "java/util/NoSuchElementException" = En k) : W p l e R s m args below meth c H locs 0 0 Q (F0 m pc ls []) := by
  sorry
def rm_begin : Room := { frames := 6, cells := 1, slots := 6, locals := 90 }
set_option maxHeartbeats 4000000 in
set_option maxRecDepth 100000 in
theorem c_begin (l : Launch) (hl9 : l.stackTraces = false) (S : Nat → Nat) (dC : Nat → ClassId) (dI : Nat → Nat → Nat) (h0 : Nat) (q : Nat → Nat) (cI cZ : ClassId) (st : SqS) (p0 : Int32)  : sq_Xv sq_cC sq_cD RX0 sq_cS sq_cN S l yX0_begin wsX0_begin rm_begin [.ref h0, .int p0] (dC, dI) vwCl [(cI, .int), (cZ, .boolean)] (wX h0 q cI cZ (st.1 0) (st.1 1) (st.1 2) (st.1 3) (st.1 4) (st.1 5) (st.1 6) (st.1 7) (st.1 8) (st.1 9) (st.1 10) (st.2 0) (st.2 1) (st.2 2) (st.2 3) (st.2 4) (st.2 5) (st.2 6) (st.2 7) (st.2 8)) (wX h0 q cI cZ ((sq_clr st (sq_vec p0)).1 0) ((sq_clr st (sq_vec p0)).1 1) ((sq_clr st (sq_vec p0)).1 2) ((sq_clr st (sq_vec p0)).1 3) ((sq_clr st (sq_vec p0)).1 4) ((sq_clr st (sq_vec p0)).1 5) ((sq_clr st (sq_vec p0)).1 6) ((sq_clr st (sq_vec p0)).1 7) ((sq_clr st (sq_vec p0)).1 8) ((sq_clr st (sq_vec p0)).1 9) ((sq_clr st (sq_vec p0)).1 10) ((sq_clr st (sq_vec p0)).2 0) ((sq_clr st (sq_vec p0)).2 1) ((sq_clr st (sq_vec p0)).2 2) ((sq_clr st (sq_vec p0)).2 3) ((sq_clr st (sq_vec p0)).2 4) ((sq_clr st (sq_vec p0)).2 5) ((sq_clr st (sq_vec p0)).2 6) ((sq_clr st (sq_vec p0)).2 7) ((sq_clr st (sq_vec p0)).2 8)) (sq_kB p0) (fun _ => "java/lang/IllegalArgumentException") := by
  refine sq_ofXv (cc := cX0_begin) (maxL := 2) (by decide) rfl (Nat.le_of_ble_eq_true rfl) ?_
  intro p e s m args below meth c A ls Q hx hb hts hown hml hK hP hD hS hA hl hZ hlocks hEx hend hQ
  have hl : lv_has ls 2 [(0, .ref h0), (1, .int p0)] := hl
  refine lv_iload_n hx hb dX0_begin_0 rfl (lv_at hl 1 rfl) ?_
  refine lv_iconst (v := nI 1) hx hb dX0_begin_1 (by decide +kernel) ?_
  refine lv_icmp_lt (tgt := 11) hx hb dX0_begin_2 (by decide) (fun hc => ?_) (fun hc => ?_)
  · have hk9 : ¬ (sq_kB p0) = 0 := (by unfold sq_kB; rw [if_pos (Or.inl hc)]; decide)
    have hE9 : "java/lang/IllegalArgumentException" = (fun _ => "java/lang/IllegalArgumentException") (sq_kB p0) := rfl
    exact sq_thr (k := sq_kB p0) (En := fun _ => "java/lang/IllegalArgumentException") (cls := "java/lang/IllegalArgumentException") (names := ["java/lang/RuntimeException", "java/lang/Exception"]) hQ hx hb hl9 hown (by decide +kernel) (by decide +kernel) (hts _ (List.mem_cons_of_mem _ mkX0_48)) (hts _ (List.mem_cons_of_mem _ mt_IllegalArgumentException)) (hZ.2.2.2.2.1 (50, "the side is not 1 .. 6") (by decide)) (vx_hat (L := vx_atS RX0 52 "java/lang/IllegalArgumentException" ["java/lang/RuntimeException", "java/lang/Exception"]) (B := [.castable "java/lang/IllegalArgumentException" "java/lang/IllegalArgumentException", .declares ⟨"java/lang/RuntimeException", "<init>", "(Ljava/lang/String;)V"⟩, .declares ⟨"java/lang/Exception", "<init>", "(Ljava/lang/String;)V"⟩, .declares ⟨"java/lang/Throwable", "<init>", "(Ljava/lang/String;)V"⟩]) (fun w hw => hts w (List.mem_cons_of_mem _ (sq_inT (sq_ax52 w hw) (List.mem_filter.mp hw).2))) (by decide +kernel) (vx_c (va_Nw.use rfl (hZ.2.2.1 ("java/lang/IllegalArgumentException", "java/lang/IllegalArgumentException") (by decide))) (vx_c (va_Nw.use rfl (hZ.2.2.2.1 ⟨"java/lang/RuntimeException", "<init>", "(Ljava/lang/String;)V"⟩ (by decide))) (vx_c (va_Nw.use rfl (hZ.2.2.2.1 ⟨"java/lang/Exception", "<init>", "(Ljava/lang/String;)V"⟩ (by decide))) (vx_c (va_Nw.use rfl (hZ.2.2.2.1 ⟨"java/lang/Throwable", "<init>", "(Ljava/lang/String;)V"⟩ (by decide))) (vx_n)))))) (by decide +kernel) hZ hS (hl.1.trans hml.symm) dX0_begin_11 dX0_begin_14 dX0_begin_15 dX0_begin_17 dX0_begin_20 hEx (Nat.le_of_ble_eq_true rfl) (Nat.le_of_ble_eq_true rfl) (Nat.le_of_ble_eq_true rfl) (Nat.le_of_ble_eq_true rfl) hlocks hP hK hD hk9 hE9
  · refine lv_iload_n hx hb dX0_begin_5 rfl (lv_at hl 1 rfl) ?_
    refine lv_bipush (v := nI 6) hx hb dX0_begin_6 (by decide +kernel) ?_
    refine lv_icmp_le (tgt := 21) hx hb dX0_begin_8 (by decide) (fun hd => ?_) (fun hd => ?_)
    · obtain ⟨n, hn, rfl⟩ := nI_of (x := p0) (fun h => hc (by rw [Int32.lt_iff_toInt_lt] at h ⊢; rw [nI_toInt (by decide)]; rw [Int32.toInt_zero] at h; omega))
      have e9 : sq_vec (nI n) = n := sq_vec_nI hn
      refine lv_aload_n hx hb dX0_begin_21 rfl (lv_at hl 0 rfl) ?_
      refine lv_iload_n hx hb dX0_begin_22 rfl (lv_at hl 1 rfl) ?_
      refine sq_callv (As := [.int (nI n)]) (c_clearTo l dC dI h0 q cI cZ (st.1 0) (st.1 1) (st.1 2) (st.1 3) (st.1 4) (st.1 5) (st.1 6) (st.1 7) (st.1 8) (st.1 9) (st.1 10) (st.2 0) (st.2 1) (st.2 2) (st.2 3) (st.2 4) (st.2 5) (st.2 6) (st.2 7) (st.2 8) n) ⟨hx, hb, hml, hown, hts⟩ (cwV 1 hts (sq_good gvX0_44) rfl rfl rfl (by decide +kernel) ⟨Nat.le_of_ble_eq_true rfl, Nat.le_of_ble_eq_true rfl⟩) hK hP hD hS hA rfl rfl rfl rfl hl.1 rfl (Nat.le_of_ble_eq_true rfl) dX0_begin_23 ⟨Nat.zero_le _, Nat.zero_le _⟩ (fun H locs hP hD hS => ?_)
      have hP : va_P (dC, dI) vwCl (wX h0 q cI cZ ((sq_clr st n).1 0) ((sq_clr st n).1 1) ((sq_clr st n).1 2) ((sq_clr st n).1 3) ((sq_clr st n).1 4) ((sq_clr st n).1 5) ((sq_clr st n).1 6) ((sq_clr st n).1 7) ((sq_clr st n).1 8) ((sq_clr st n).1 9) ((sq_clr st n).1 10) ((sq_clr st n).2 0) ((sq_clr st n).2 1) ((sq_clr st n).2 2) ((sq_clr st n).2 3) ((sq_clr st n).2 4) ((sq_clr st n).2 5) ((sq_clr st n).2 6) ((sq_clr st n).2 7) ((sq_clr st n).2 8)) H := hP
      have hD : va_D A (wX h0 q cI cZ ((sq_clr st n).1 0) ((sq_clr st n).1 1) ((sq_clr st n).1 2) ((sq_clr st n).1 3) ((sq_clr st n).1 4) ((sq_clr st n).1 5) ((sq_clr st n).1 6) ((sq_clr st n).1 7) ((sq_clr st n).1 8) ((sq_clr st n).1 9) ((sq_clr st n).1 10) ((sq_clr st n).2 0) ((sq_clr st n).2 1) ((sq_clr st n).2 2) ((sq_clr st n).2 3) ((sq_clr st n).2 4) ((sq_clr st n).2 5) ((sq_clr st n).2 6) ((sq_clr st n).2 7) ((sq_clr st n).2 8)) := hD
      exact hend _ _ _ _ (by unfold sq_kB; rw [if_neg (fun h => h.elim hc (fun h => h hd))]) (by rw [e9]; exact hP) (by rw [e9]; exact hD) hS dX0_begin_26
    · have hk9 : ¬ (sq_kB p0) = 0 := (by unfold sq_kB; rw [if_pos (Or.inr hd)]; decide)
      have hE9 : "java/lang/IllegalArgumentException" = (fun _ => "java/lang/IllegalArgumentException") (sq_kB p0) := rfl
      exact sq_thr (k := sq_kB p0) (En := fun _ => "java/lang/IllegalArgumentException") (cls := "java/lang/IllegalArgumentException") (names := ["java/lang/RuntimeException", "java/lang/Exception"]) hQ hx hb hl9 hown (by decide +kernel) (by decide +kernel) (hts _ (List.mem_cons_of_mem _ mkX0_48)) (hts _ (List.mem_cons_of_mem _ mt_IllegalArgumentException)) (hZ.2.2.2.2.1 (50, "the side is not 1 .. 6") (by decide)) (vx_hat (L := vx_atS RX0 52 "java/lang/IllegalArgumentException" ["java/lang/RuntimeException", "java/lang/Exception"]) (B := [.castable "java/lang/IllegalArgumentException" "java/lang/IllegalArgumentException", .declares ⟨"java/lang/RuntimeException", "<init>", "(Ljava/lang/String;)V"⟩, .declares ⟨"java/lang/Exception", "<init>", "(Ljava/lang/String;)V"⟩, .declares ⟨"java/lang/Throwable", "<init>", "(Ljava/lang/String;)V"⟩]) (fun w hw => hts w (List.mem_cons_of_mem _ (sq_inT (sq_ax52 w hw) (List.mem_filter.mp hw).2))) (by decide +kernel) (vx_c (va_Nw.use rfl (hZ.2.2.1 ("java/lang/IllegalArgumentException", "java/lang/IllegalArgumentException") (by decide))) (vx_c (va_Nw.use rfl (hZ.2.2.2.1 ⟨"java/lang/RuntimeException", "<init>", "(Ljava/lang/String;)V"⟩ (by decide))) (vx_c (va_Nw.use rfl (hZ.2.2.2.1 ⟨"java/lang/Exception", "<init>", "(Ljava/lang/String;)V"⟩ (by decide))) (vx_c (va_Nw.use rfl (hZ.2.2.2.1 ⟨"java/lang/Throwable", "<init>", "(Ljava/lang/String;)V"⟩ (by decide))) (vx_n)))))) (by decide +kernel) hZ hS (hl.1.trans hml.symm) dX0_begin_11 dX0_begin_14 dX0_begin_15 dX0_begin_17 dX0_begin_20 hEx (Nat.le_of_ble_eq_true rfl) (Nat.le_of_ble_eq_true rfl) (Nat.le_of_ble_eq_true rfl) (Nat.le_of_ble_eq_true rfl) hlocks hP hK hD hk9 hE9
def rm_weights : Room := { frames := 6, cells := 1, slots := 6, locals := 90 }
set_option maxHeartbeats 4000000 in
set_option maxRecDepth 100000 in
theorem c_weights (l : Launch) (hl9 : l.stackTraces = false) (S : Nat → Nat) (dC : Nat → ClassId) (dI : Nat → Nat → Nat) (h0 : Nat) (q : Nat → Nat) (cI cZ : ClassId) (st : SqS) (x1 x2 x3 x4 x5 x6 : Int32) (b2 : st.2 2 < 2 ^ 31) : sq_Xi sq_cC sq_cD RX0 sq_cS sq_cN S l yX0_weights wsX0_weights rm_weights [.ref h0, .int x1, .int x2, .int x3, .int x4, .int x5, .int x6] (dC, dI) vwCl [(cI, .int), (cZ, .boolean)] (wX h0 q cI cZ (st.1 0) (st.1 1) (st.1 2) (st.1 3) (st.1 4) (st.1 5) (st.1 6) (st.1 7) (st.1 8) (st.1 9) (st.1 10) (st.2 0) (st.2 1) (st.2 2) (st.2 3) (st.2 4) (st.2 5) (st.2 6) (st.2 7) (st.2 8)) (wX h0 q cI cZ ((sq_wgt st x1 x2 x3 x4 x5 x6).1 0) ((sq_wgt st x1 x2 x3 x4 x5 x6).1 1) ((sq_wgt st x1 x2 x3 x4 x5 x6).1 2) ((sq_wgt st x1 x2 x3 x4 x5 x6).1 3) ((sq_wgt st x1 x2 x3 x4 x5 x6).1 4) ((sq_wgt st x1 x2 x3 x4 x5 x6).1 5) ((sq_wgt st x1 x2 x3 x4 x5 x6).1 6) ((sq_wgt st x1 x2 x3 x4 x5 x6).1 7) ((sq_wgt st x1 x2 x3 x4 x5 x6).1 8) ((sq_wgt st x1 x2 x3 x4 x5 x6).1 9) ((sq_wgt st x1 x2 x3 x4 x5 x6).1 10) ((sq_wgt st x1 x2 x3 x4 x5 x6).2 0) ((sq_wgt st x1 x2 x3 x4 x5 x6).2 1) ((sq_wgt st x1 x2 x3 x4 x5 x6).2 2) ((sq_wgt st x1 x2 x3 x4 x5 x6).2 3) ((sq_wgt st x1 x2 x3 x4 x5 x6).2 4) ((sq_wgt st x1 x2 x3 x4 x5 x6).2 5) ((sq_wgt st x1 x2 x3 x4 x5 x6).2 6) ((sq_wgt st x1 x2 x3 x4 x5 x6).2 7) ((sq_wgt st x1 x2 x3 x4 x5 x6).2 8)) (sq_kW st) (fun _ => "java/lang/UnsupportedOperationException") (nI (st.2 2)) := by
  refine sq_ofXi (cc := cX0_weights) (maxL := 9) (by decide) rfl (Nat.le_of_ble_eq_true rfl) ?_
  intro p e s m args below meth c A ls Q hx hb hts hown hml hK hP hD hS hA hl hZ hlocks hEx hend hQ
  have hl : lv_has ls 9 [(0, .ref h0), (1, .int x1), (2, .int x2), (3, .int x3), (4, .int x4), (5, .int x5), (6, .int x6)] := hl
  have hin : ∀ w ∈ u_ws RX0 TX0 20, w ∈ wsX0_weights := fun w h => List.mem_cons_of_mem _ (inX0 w h)
  have k9 := hts _ (List.mem_cons_of_mem _ mfX0_9)
  have k55 := hts _ (List.mem_cons_of_mem _ mfX0_55)
  refine lv_aload_n hx hb dX0_weights_0 rfl (lv_at hl 0 rfl) ?_
  refine va_get (D := (dC, dI)) (ci := 0) (v := .int (nI (st.2 2))) (C := RX0) (T := TX0) (N := 20) hx hb hts hin hown hK hP 0 rfl rfl 13 (by decide) k55 (fun _ h9 => h9) rfl dX0_weights_1 ?_
  refine lv_bipush (v := nI 120) hx hb dX0_weights_4 (by decide +kernel) ?_
  refine sq_icmp_lt (tgt := 19) hx hb (by omega) (by omega) dX0_weights_6 (by decide) (fun hc => ?_) (fun hc => ?_)
  · refine lv_aload_n hx hb dX0_weights_19 rfl (lv_at hl 0 rfl) ?_
    refine va_get (D := (dC, dI)) (ci := 0) (v := .int (nI (st.2 2))) (C := RX0) (T := TX0) (N := 20) hx hb hts hin hown hK hP 0 rfl rfl 13 (by decide) k55 (fun _ h9 => h9) rfl dX0_weights_20 ?_
    refine lv_istore (lv' := [(7, .int (nI (st.2 2))), (0, .ref h0), (1, .int x1), (2, .int x2), (3, .int x3), (4, .int x4), (5, .int x5), (6, .int x6)]) hx hb dX0_weights_23 hl (by decide) rfl (fun ls hl => ?_)
    refine lv_iload hx hb dX0_weights_25 (lv_at hl 0 rfl) ?_
    refine lv_bipush (v := nI 6) hx hb dX0_weights_27 (by decide +kernel) ?_
    refine sq_imul hx hb dX0_weights_29 ?_
    refine lv_istore (lv' := [(8, .int (nI ((st.2 2) * 6))), (7, .int (nI (st.2 2))), (0, .ref h0), (1, .int x1), (2, .int x2), (3, .int x3), (4, .int x4), (5, .int x5), (6, .int x6)]) hx hb dX0_weights_30 hl (by decide) rfl (fun ls hl => ?_)
    refine lv_aload_n hx hb dX0_weights_32 rfl (lv_at hl 2 rfl) ?_
    refine va_get (D := (dC, dI)) (ci := 0) (v := .ref (q 0)) (C := RX0) (T := TX0) (N := 20) hx hb hts hin hown hK hP 0 rfl rfl 0 (by decide) k9 (fun _ h9 => h9) rfl dX0_weights_33 ?_
    refine lv_iload hx hb dX0_weights_36 (lv_at hl 0 rfl) ?_
    refine lv_iload_n hx hb dX0_weights_38 rfl (lv_at hl 3 rfl) ?_
    refine sq_iast hx hb hK hP hD hS 1 0 rfl rfl (i := ((st.2 2) * 6)) (by omega) (by decide) dX0_weights_39 (fun H locs hP hD hS => ?_)
    have hP : va_P (dC, dI) vwCl (wX h0 q cI cZ (upd (st.1 0) ((st.2 2) * 6) x1) (st.1 1) (st.1 2) (st.1 3) (st.1 4) (st.1 5) (st.1 6) (st.1 7) (st.1 8) (st.1 9) (st.1 10) (st.2 0) (st.2 1) (st.2 2) (st.2 3) (st.2 4) (st.2 5) (st.2 6) (st.2 7) (st.2 8)) H := hP
    have hD : va_D A (wX h0 q cI cZ (upd (st.1 0) ((st.2 2) * 6) x1) (st.1 1) (st.1 2) (st.1 3) (st.1 4) (st.1 5) (st.1 6) (st.1 7) (st.1 8) (st.1 9) (st.1 10) (st.2 0) (st.2 1) (st.2 2) (st.2 3) (st.2 4) (st.2 5) (st.2 6) (st.2 7) (st.2 8)) := hD
    refine lv_aload_n hx hb dX0_weights_40 rfl (lv_at hl 2 rfl) ?_
    refine va_get (D := (dC, dI)) (ci := 0) (v := .ref (q 0)) (C := RX0) (T := TX0) (N := 20) hx hb hts hin hown hK hP 0 rfl rfl 0 (by decide) k9 (fun _ h9 => h9) rfl dX0_weights_41 ?_
    refine lv_iload hx hb dX0_weights_44 (lv_at hl 0 rfl) ?_
    refine lv_iconst (v := nI 1) hx hb dX0_weights_46 (by decide +kernel) ?_
    refine sq_iadd hx hb dX0_weights_47 ?_
    refine lv_iload_n hx hb dX0_weights_48 rfl (lv_at hl 4 rfl) ?_
    refine sq_iast hx hb hK hP hD hS 1 0 rfl rfl (i := (((st.2 2) * 6) + 1)) (by omega) (by decide) dX0_weights_49 (fun H locs hP hD hS => ?_)
    have hP : va_P (dC, dI) vwCl (wX h0 q cI cZ (upd (upd (st.1 0) ((st.2 2) * 6) x1) (((st.2 2) * 6) + 1) x2) (st.1 1) (st.1 2) (st.1 3) (st.1 4) (st.1 5) (st.1 6) (st.1 7) (st.1 8) (st.1 9) (st.1 10) (st.2 0) (st.2 1) (st.2 2) (st.2 3) (st.2 4) (st.2 5) (st.2 6) (st.2 7) (st.2 8)) H := hP
    have hD : va_D A (wX h0 q cI cZ (upd (upd (st.1 0) ((st.2 2) * 6) x1) (((st.2 2) * 6) + 1) x2) (st.1 1) (st.1 2) (st.1 3) (st.1 4) (st.1 5) (st.1 6) (st.1 7) (st.1 8) (st.1 9) (st.1 10) (st.2 0) (st.2 1) (st.2 2) (st.2 3) (st.2 4) (st.2 5) (st.2 6) (st.2 7) (st.2 8)) := hD
    refine lv_aload_n hx hb dX0_weights_50 rfl (lv_at hl 2 rfl) ?_
    refine va_get (D := (dC, dI)) (ci := 0) (v := .ref (q 0)) (C := RX0) (T := TX0) (N := 20) hx hb hts hin hown hK hP 0 rfl rfl 0 (by decide) k9 (fun _ h9 => h9) rfl dX0_weights_51 ?_
    refine lv_iload hx hb dX0_weights_54 (lv_at hl 0 rfl) ?_
    refine lv_iconst (v := nI 2) hx hb dX0_weights_56 (by decide +kernel) ?_
    refine sq_iadd hx hb dX0_weights_57 ?_
    refine lv_iload_n hx hb dX0_weights_58 rfl (lv_at hl 5 rfl) ?_
    refine sq_iast hx hb hK hP hD hS 1 0 rfl rfl (i := (((st.2 2) * 6) + 2)) (by omega) (by decide) dX0_weights_59 (fun H locs hP hD hS => ?_)
    have hP : va_P (dC, dI) vwCl (wX h0 q cI cZ (upd (upd (upd (st.1 0) ((st.2 2) * 6) x1) (((st.2 2) * 6) + 1) x2) (((st.2 2) * 6) + 2) x3) (st.1 1) (st.1 2) (st.1 3) (st.1 4) (st.1 5) (st.1 6) (st.1 7) (st.1 8) (st.1 9) (st.1 10) (st.2 0) (st.2 1) (st.2 2) (st.2 3) (st.2 4) (st.2 5) (st.2 6) (st.2 7) (st.2 8)) H := hP
    have hD : va_D A (wX h0 q cI cZ (upd (upd (upd (st.1 0) ((st.2 2) * 6) x1) (((st.2 2) * 6) + 1) x2) (((st.2 2) * 6) + 2) x3) (st.1 1) (st.1 2) (st.1 3) (st.1 4) (st.1 5) (st.1 6) (st.1 7) (st.1 8) (st.1 9) (st.1 10) (st.2 0) (st.2 1) (st.2 2) (st.2 3) (st.2 4) (st.2 5) (st.2 6) (st.2 7) (st.2 8)) := hD
    refine lv_aload_n hx hb dX0_weights_60 rfl (lv_at hl 2 rfl) ?_
    refine va_get (D := (dC, dI)) (ci := 0) (v := .ref (q 0)) (C := RX0) (T := TX0) (N := 20) hx hb hts hin hown hK hP 0 rfl rfl 0 (by decide) k9 (fun _ h9 => h9) rfl dX0_weights_61 ?_
    refine lv_iload hx hb dX0_weights_64 (lv_at hl 0 rfl) ?_
    refine lv_iconst (v := nI 3) hx hb dX0_weights_66 (by decide +kernel) ?_
    refine sq_iadd hx hb dX0_weights_67 ?_
    refine lv_iload hx hb dX0_weights_68 (lv_at hl 6 rfl) ?_
    refine sq_iast hx hb hK hP hD hS 1 0 rfl rfl (i := (((st.2 2) * 6) + 3)) (by omega) (by decide) dX0_weights_70 (fun H locs hP hD hS => ?_)
    have hP : va_P (dC, dI) vwCl (wX h0 q cI cZ (upd (upd (upd (upd (st.1 0) ((st.2 2) * 6) x1) (((st.2 2) * 6) + 1) x2) (((st.2 2) * 6) + 2) x3) (((st.2 2) * 6) + 3) x4) (st.1 1) (st.1 2) (st.1 3) (st.1 4) (st.1 5) (st.1 6) (st.1 7) (st.1 8) (st.1 9) (st.1 10) (st.2 0) (st.2 1) (st.2 2) (st.2 3) (st.2 4) (st.2 5) (st.2 6) (st.2 7) (st.2 8)) H := hP
    have hD : va_D A (wX h0 q cI cZ (upd (upd (upd (upd (st.1 0) ((st.2 2) * 6) x1) (((st.2 2) * 6) + 1) x2) (((st.2 2) * 6) + 2) x3) (((st.2 2) * 6) + 3) x4) (st.1 1) (st.1 2) (st.1 3) (st.1 4) (st.1 5) (st.1 6) (st.1 7) (st.1 8) (st.1 9) (st.1 10) (st.2 0) (st.2 1) (st.2 2) (st.2 3) (st.2 4) (st.2 5) (st.2 6) (st.2 7) (st.2 8)) := hD
    refine lv_aload_n hx hb dX0_weights_71 rfl (lv_at hl 2 rfl) ?_
    refine va_get (D := (dC, dI)) (ci := 0) (v := .ref (q 0)) (C := RX0) (T := TX0) (N := 20) hx hb hts hin hown hK hP 0 rfl rfl 0 (by decide) k9 (fun _ h9 => h9) rfl dX0_weights_72 ?_
    refine lv_iload hx hb dX0_weights_75 (lv_at hl 0 rfl) ?_
    refine lv_iconst (v := nI 4) hx hb dX0_weights_77 (by decide +kernel) ?_
    refine sq_iadd hx hb dX0_weights_78 ?_
    refine lv_iload hx hb dX0_weights_79 (lv_at hl 7 rfl) ?_
    refine sq_iast hx hb hK hP hD hS 1 0 rfl rfl (i := (((st.2 2) * 6) + 4)) (by omega) (by decide) dX0_weights_81 (fun H locs hP hD hS => ?_)
    have hP : va_P (dC, dI) vwCl (wX h0 q cI cZ (upd (upd (upd (upd (upd (st.1 0) ((st.2 2) * 6) x1) (((st.2 2) * 6) + 1) x2) (((st.2 2) * 6) + 2) x3) (((st.2 2) * 6) + 3) x4) (((st.2 2) * 6) + 4) x5) (st.1 1) (st.1 2) (st.1 3) (st.1 4) (st.1 5) (st.1 6) (st.1 7) (st.1 8) (st.1 9) (st.1 10) (st.2 0) (st.2 1) (st.2 2) (st.2 3) (st.2 4) (st.2 5) (st.2 6) (st.2 7) (st.2 8)) H := hP
    have hD : va_D A (wX h0 q cI cZ (upd (upd (upd (upd (upd (st.1 0) ((st.2 2) * 6) x1) (((st.2 2) * 6) + 1) x2) (((st.2 2) * 6) + 2) x3) (((st.2 2) * 6) + 3) x4) (((st.2 2) * 6) + 4) x5) (st.1 1) (st.1 2) (st.1 3) (st.1 4) (st.1 5) (st.1 6) (st.1 7) (st.1 8) (st.1 9) (st.1 10) (st.2 0) (st.2 1) (st.2 2) (st.2 3) (st.2 4) (st.2 5) (st.2 6) (st.2 7) (st.2 8)) := hD
    refine lv_aload_n hx hb dX0_weights_82 rfl (lv_at hl 2 rfl) ?_
    refine va_get (D := (dC, dI)) (ci := 0) (v := .ref (q 0)) (C := RX0) (T := TX0) (N := 20) hx hb hts hin hown hK hP 0 rfl rfl 0 (by decide) k9 (fun _ h9 => h9) rfl dX0_weights_83 ?_
    refine lv_iload hx hb dX0_weights_86 (lv_at hl 0 rfl) ?_
    refine lv_iconst (v := nI 5) hx hb dX0_weights_88 (by decide +kernel) ?_
    refine sq_iadd hx hb dX0_weights_89 ?_
    refine lv_iload hx hb dX0_weights_90 (lv_at hl 8 rfl) ?_
    refine sq_iast hx hb hK hP hD hS 1 0 rfl rfl (i := (((st.2 2) * 6) + 5)) (by omega) (by decide) dX0_weights_92 (fun H locs hP hD hS => ?_)
    have hP : va_P (dC, dI) vwCl (wX h0 q cI cZ (upd (upd (upd (upd (upd (upd (st.1 0) ((st.2 2) * 6) x1) (((st.2 2) * 6) + 1) x2) (((st.2 2) * 6) + 2) x3) (((st.2 2) * 6) + 3) x4) (((st.2 2) * 6) + 4) x5) (((st.2 2) * 6) + 5) x6) (st.1 1) (st.1 2) (st.1 3) (st.1 4) (st.1 5) (st.1 6) (st.1 7) (st.1 8) (st.1 9) (st.1 10) (st.2 0) (st.2 1) (st.2 2) (st.2 3) (st.2 4) (st.2 5) (st.2 6) (st.2 7) (st.2 8)) H := hP
    have hD : va_D A (wX h0 q cI cZ (upd (upd (upd (upd (upd (upd (st.1 0) ((st.2 2) * 6) x1) (((st.2 2) * 6) + 1) x2) (((st.2 2) * 6) + 2) x3) (((st.2 2) * 6) + 3) x4) (((st.2 2) * 6) + 4) x5) (((st.2 2) * 6) + 5) x6) (st.1 1) (st.1 2) (st.1 3) (st.1 4) (st.1 5) (st.1 6) (st.1 7) (st.1 8) (st.1 9) (st.1 10) (st.2 0) (st.2 1) (st.2 2) (st.2 3) (st.2 4) (st.2 5) (st.2 6) (st.2 7) (st.2 8)) := hD
    refine lv_aload_n hx hb dX0_weights_93 rfl (lv_at hl 2 rfl) ?_
    refine lv_iload hx hb dX0_weights_94 (lv_at hl 1 rfl) ?_
    refine lv_iconst (v := nI 1) hx hb dX0_weights_96 (by decide +kernel) ?_
    refine sq_iadd hx hb dX0_weights_97 ?_
    refine va_put (D := (dC, dI)) (ci := 0) (v := .int (nI ((st.2 2) + 1))) (ty := .int) (C := RX0) (T := TX0) (N := 20) hx hb hts hin tyX0 tyX0_ok nmX0 hown hK hP hD hS 0 rfl rfl 13 (by decide) k55 (fun _ h9 => h9) rfl (by decide +kernel) rfl rfl (Nat.le_of_ble_eq_true rfl) dX0_weights_98 (fun H locs hP hD hS => ?_)
    have hP : va_P (dC, dI) vwCl (wX h0 q cI cZ (upd (upd (upd (upd (upd (upd (st.1 0) ((st.2 2) * 6) x1) (((st.2 2) * 6) + 1) x2) (((st.2 2) * 6) + 2) x3) (((st.2 2) * 6) + 3) x4) (((st.2 2) * 6) + 4) x5) (((st.2 2) * 6) + 5) x6) (st.1 1) (st.1 2) (st.1 3) (st.1 4) (st.1 5) (st.1 6) (st.1 7) (st.1 8) (st.1 9) (st.1 10) (st.2 0) (st.2 1) ((st.2 2) + 1) (st.2 3) (st.2 4) (st.2 5) (st.2 6) (st.2 7) (st.2 8)) H := hP
    have hD : va_D A (wX h0 q cI cZ (upd (upd (upd (upd (upd (upd (st.1 0) ((st.2 2) * 6) x1) (((st.2 2) * 6) + 1) x2) (((st.2 2) * 6) + 2) x3) (((st.2 2) * 6) + 3) x4) (((st.2 2) * 6) + 4) x5) (((st.2 2) * 6) + 5) x6) (st.1 1) (st.1 2) (st.1 3) (st.1 4) (st.1 5) (st.1 6) (st.1 7) (st.1 8) (st.1 9) (st.1 10) (st.2 0) (st.2 1) ((st.2 2) + 1) (st.2 3) (st.2 4) (st.2 5) (st.2 6) (st.2 7) (st.2 8)) := hD
    refine lv_iload hx hb dX0_weights_101 (lv_at hl 1 rfl) ?_
    exact hend _ _ _ _ _ (by unfold sq_kW; rw [if_pos hc]) rfl hP hD hS dX0_weights_103
  · have hk9 : ¬ (sq_kW st) = 0 := (by unfold sq_kW; rw [if_neg (by omega)]; decide)
    have hE9 : "java/lang/UnsupportedOperationException" = (fun _ => "java/lang/UnsupportedOperationException") (sq_kW st) := rfl
    exact sq_thr (k := sq_kW st) (En := fun _ => "java/lang/UnsupportedOperationException") (cls := "java/lang/UnsupportedOperationException") (names := ["java/lang/RuntimeException", "java/lang/Exception"]) hQ hx hb hl9 hown (by decide +kernel) (by decide +kernel) (hts _ (List.mem_cons_of_mem _ mkX0_59)) (hts _ (List.mem_cons_of_mem _ mt_UnsupportedOperationException)) (hZ.2.2.2.2.1 (61, "there are 120 rows") (by decide)) (vx_hat (L := vx_atS RX0 63 "java/lang/UnsupportedOperationException" ["java/lang/RuntimeException", "java/lang/Exception"]) (B := [.castable "java/lang/UnsupportedOperationException" "java/lang/UnsupportedOperationException", .declares ⟨"java/lang/RuntimeException", "<init>", "(Ljava/lang/String;)V"⟩, .declares ⟨"java/lang/Exception", "<init>", "(Ljava/lang/String;)V"⟩, .declares ⟨"java/lang/Throwable", "<init>", "(Ljava/lang/String;)V"⟩]) (fun w hw => hts w (List.mem_cons_of_mem _ (sq_inT (sq_ax63 w hw) (List.mem_filter.mp hw).2))) (by decide +kernel) (vx_c (va_Nw.use rfl (hZ.2.2.1 ("java/lang/UnsupportedOperationException", "java/lang/UnsupportedOperationException") (by decide))) (vx_c (va_Nw.use rfl (hZ.2.2.2.1 ⟨"java/lang/RuntimeException", "<init>", "(Ljava/lang/String;)V"⟩ (by decide))) (vx_c (va_Nw.use rfl (hZ.2.2.2.1 ⟨"java/lang/Exception", "<init>", "(Ljava/lang/String;)V"⟩ (by decide))) (vx_c (va_Nw.use rfl (hZ.2.2.2.1 ⟨"java/lang/Throwable", "<init>", "(Ljava/lang/String;)V"⟩ (by decide))) (vx_n)))))) (by decide +kernel) hZ hS (hl.1.trans hml.symm) dX0_weights_9 dX0_weights_12 dX0_weights_13 dX0_weights_15 dX0_weights_18 hEx (Nat.le_of_ble_eq_true rfl) (Nat.le_of_ble_eq_true rfl) (Nat.le_of_ble_eq_true rfl) (Nat.le_of_ble_eq_true rfl) hlocks hP hK hD hk9 hE9
def rm_vector : Room := { frames := 6, cells := 1, slots := 6, locals := 90 }
set_option maxHeartbeats 4000000 in
set_option maxRecDepth 100000 in
theorem c_vector (l : Launch) (hl9 : l.stackTraces = false) (S : Nat → Nat) (dC : Nat → ClassId) (dI : Nat → Nat → Nat) (h0 : Nat) (q : Nat → Nat) (cI cZ : ClassId) (st : SqS) (b x1 x2 x3 x4 x5 x6 : Int32) (b5 : st.2 5 < 2 ^ 31) (hz1 : vp_nar .boolean b = b) : sq_Xi sq_cC sq_cD RX0 sq_cS sq_cN S l yX0_vector wsX0_vector rm_vector [.ref h0, .int b, .int x1, .int x2, .int x3, .int x4, .int x5, .int x6] (dC, dI) vwCl [(cI, .int), (cZ, .boolean)] (wX h0 q cI cZ (st.1 0) (st.1 1) (st.1 2) (st.1 3) (st.1 4) (st.1 5) (st.1 6) (st.1 7) (st.1 8) (st.1 9) (st.1 10) (st.2 0) (st.2 1) (st.2 2) (st.2 3) (st.2 4) (st.2 5) (st.2 6) (st.2 7) (st.2 8)) (wX h0 q cI cZ ((sq_vct st b x1 x2 x3 x4 x5 x6).1 0) ((sq_vct st b x1 x2 x3 x4 x5 x6).1 1) ((sq_vct st b x1 x2 x3 x4 x5 x6).1 2) ((sq_vct st b x1 x2 x3 x4 x5 x6).1 3) ((sq_vct st b x1 x2 x3 x4 x5 x6).1 4) ((sq_vct st b x1 x2 x3 x4 x5 x6).1 5) ((sq_vct st b x1 x2 x3 x4 x5 x6).1 6) ((sq_vct st b x1 x2 x3 x4 x5 x6).1 7) ((sq_vct st b x1 x2 x3 x4 x5 x6).1 8) ((sq_vct st b x1 x2 x3 x4 x5 x6).1 9) ((sq_vct st b x1 x2 x3 x4 x5 x6).1 10) ((sq_vct st b x1 x2 x3 x4 x5 x6).2 0) ((sq_vct st b x1 x2 x3 x4 x5 x6).2 1) ((sq_vct st b x1 x2 x3 x4 x5 x6).2 2) ((sq_vct st b x1 x2 x3 x4 x5 x6).2 3) ((sq_vct st b x1 x2 x3 x4 x5 x6).2 4) ((sq_vct st b x1 x2 x3 x4 x5 x6).2 5) ((sq_vct st b x1 x2 x3 x4 x5 x6).2 6) ((sq_vct st b x1 x2 x3 x4 x5 x6).2 7) ((sq_vct st b x1 x2 x3 x4 x5 x6).2 8)) (sq_kV st) (fun _ => "java/lang/UnsupportedOperationException") (nI (st.2 5)) := by
  refine sq_ofXi (cc := cX0_vector) (maxL := 10) (by decide) rfl (Nat.le_of_ble_eq_true rfl) ?_
  intro p e s m args below meth c A ls Q hx hb hts hown hml hK hP hD hS hA hl hZ hlocks hEx hend hQ
  have hl : lv_has ls 10 [(0, .ref h0), (1, .int b), (2, .int x1), (3, .int x2), (4, .int x3), (5, .int x4), (6, .int x5), (7, .int x6)] := hl
  have hin : ∀ w ∈ u_ws RX0 TX0 20, w ∈ wsX0_vector := fun w h => List.mem_cons_of_mem _ (inX0 w h)
  have k13 := hts _ (List.mem_cons_of_mem _ mfX0_13)
  have k19 := hts _ (List.mem_cons_of_mem _ mfX0_19)
  have k64 := hts _ (List.mem_cons_of_mem _ mfX0_64)
  refine lv_aload_n hx hb dX0_vector_0 rfl (lv_at hl 0 rfl) ?_
  refine va_get (D := (dC, dI)) (ci := 0) (v := .int (nI (st.2 5))) (C := RX0) (T := TX0) (N := 20) hx hb hts hin hown hK hP 0 rfl rfl 16 (by decide) k64 (fun _ h9 => h9) rfl dX0_vector_1 ?_
  refine lv_sipush (v := nI 200) hx hb dX0_vector_4 (by decide +kernel) ?_
  refine sq_icmp_lt (tgt := 20) hx hb (by omega) (by omega) dX0_vector_7 (by decide) (fun hc => ?_) (fun hc => ?_)
  · refine lv_aload_n hx hb dX0_vector_20 rfl (lv_at hl 0 rfl) ?_
    refine va_get (D := (dC, dI)) (ci := 0) (v := .int (nI (st.2 5))) (C := RX0) (T := TX0) (N := 20) hx hb hts hin hown hK hP 0 rfl rfl 16 (by decide) k64 (fun _ h9 => h9) rfl dX0_vector_21 ?_
    refine lv_istore (lv' := [(8, .int (nI (st.2 5))), (0, .ref h0), (1, .int b), (2, .int x1), (3, .int x2), (4, .int x3), (5, .int x4), (6, .int x5), (7, .int x6)]) hx hb dX0_vector_24 hl (by decide) rfl (fun ls hl => ?_)
    refine lv_iload hx hb dX0_vector_26 (lv_at hl 0 rfl) ?_
    refine lv_bipush (v := nI 6) hx hb dX0_vector_28 (by decide +kernel) ?_
    refine sq_imul hx hb dX0_vector_30 ?_
    refine lv_istore (lv' := [(9, .int (nI ((st.2 5) * 6))), (8, .int (nI (st.2 5))), (0, .ref h0), (1, .int b), (2, .int x1), (3, .int x2), (4, .int x3), (5, .int x4), (6, .int x5), (7, .int x6)]) hx hb dX0_vector_31 hl (by decide) rfl (fun ls hl => ?_)
    refine lv_aload_n hx hb dX0_vector_33 rfl (lv_at hl 2 rfl) ?_
    refine va_get (D := (dC, dI)) (ci := 0) (v := .ref (q 1)) (C := RX0) (T := TX0) (N := 20) hx hb hts hin hown hK hP 0 rfl rfl 1 (by decide) k13 (fun _ h9 => h9) rfl dX0_vector_34 ?_
    refine lv_iload hx hb dX0_vector_37 (lv_at hl 0 rfl) ?_
    refine lv_iload_n hx hb dX0_vector_39 rfl (lv_at hl 4 rfl) ?_
    refine sq_iast hx hb hK hP hD hS 2 0 rfl rfl (i := ((st.2 5) * 6)) (by omega) (by decide) dX0_vector_40 (fun H locs hP hD hS => ?_)
    have hP : va_P (dC, dI) vwCl (wX h0 q cI cZ (st.1 0) (upd (st.1 1) ((st.2 5) * 6) x1) (st.1 2) (st.1 3) (st.1 4) (st.1 5) (st.1 6) (st.1 7) (st.1 8) (st.1 9) (st.1 10) (st.2 0) (st.2 1) (st.2 2) (st.2 3) (st.2 4) (st.2 5) (st.2 6) (st.2 7) (st.2 8)) H := hP
    have hD : va_D A (wX h0 q cI cZ (st.1 0) (upd (st.1 1) ((st.2 5) * 6) x1) (st.1 2) (st.1 3) (st.1 4) (st.1 5) (st.1 6) (st.1 7) (st.1 8) (st.1 9) (st.1 10) (st.2 0) (st.2 1) (st.2 2) (st.2 3) (st.2 4) (st.2 5) (st.2 6) (st.2 7) (st.2 8)) := hD
    refine lv_aload_n hx hb dX0_vector_41 rfl (lv_at hl 2 rfl) ?_
    refine va_get (D := (dC, dI)) (ci := 0) (v := .ref (q 1)) (C := RX0) (T := TX0) (N := 20) hx hb hts hin hown hK hP 0 rfl rfl 1 (by decide) k13 (fun _ h9 => h9) rfl dX0_vector_42 ?_
    refine lv_iload hx hb dX0_vector_45 (lv_at hl 0 rfl) ?_
    refine lv_iconst (v := nI 1) hx hb dX0_vector_47 (by decide +kernel) ?_
    refine sq_iadd hx hb dX0_vector_48 ?_
    refine lv_iload_n hx hb dX0_vector_49 rfl (lv_at hl 5 rfl) ?_
    refine sq_iast hx hb hK hP hD hS 2 0 rfl rfl (i := (((st.2 5) * 6) + 1)) (by omega) (by decide) dX0_vector_50 (fun H locs hP hD hS => ?_)
    have hP : va_P (dC, dI) vwCl (wX h0 q cI cZ (st.1 0) (upd (upd (st.1 1) ((st.2 5) * 6) x1) (((st.2 5) * 6) + 1) x2) (st.1 2) (st.1 3) (st.1 4) (st.1 5) (st.1 6) (st.1 7) (st.1 8) (st.1 9) (st.1 10) (st.2 0) (st.2 1) (st.2 2) (st.2 3) (st.2 4) (st.2 5) (st.2 6) (st.2 7) (st.2 8)) H := hP
    have hD : va_D A (wX h0 q cI cZ (st.1 0) (upd (upd (st.1 1) ((st.2 5) * 6) x1) (((st.2 5) * 6) + 1) x2) (st.1 2) (st.1 3) (st.1 4) (st.1 5) (st.1 6) (st.1 7) (st.1 8) (st.1 9) (st.1 10) (st.2 0) (st.2 1) (st.2 2) (st.2 3) (st.2 4) (st.2 5) (st.2 6) (st.2 7) (st.2 8)) := hD
    refine lv_aload_n hx hb dX0_vector_51 rfl (lv_at hl 2 rfl) ?_
    refine va_get (D := (dC, dI)) (ci := 0) (v := .ref (q 1)) (C := RX0) (T := TX0) (N := 20) hx hb hts hin hown hK hP 0 rfl rfl 1 (by decide) k13 (fun _ h9 => h9) rfl dX0_vector_52 ?_
    refine lv_iload hx hb dX0_vector_55 (lv_at hl 0 rfl) ?_
    refine lv_iconst (v := nI 2) hx hb dX0_vector_57 (by decide +kernel) ?_
    refine sq_iadd hx hb dX0_vector_58 ?_
    refine lv_iload hx hb dX0_vector_59 (lv_at hl 6 rfl) ?_
    refine sq_iast hx hb hK hP hD hS 2 0 rfl rfl (i := (((st.2 5) * 6) + 2)) (by omega) (by decide) dX0_vector_61 (fun H locs hP hD hS => ?_)
    have hP : va_P (dC, dI) vwCl (wX h0 q cI cZ (st.1 0) (upd (upd (upd (st.1 1) ((st.2 5) * 6) x1) (((st.2 5) * 6) + 1) x2) (((st.2 5) * 6) + 2) x3) (st.1 2) (st.1 3) (st.1 4) (st.1 5) (st.1 6) (st.1 7) (st.1 8) (st.1 9) (st.1 10) (st.2 0) (st.2 1) (st.2 2) (st.2 3) (st.2 4) (st.2 5) (st.2 6) (st.2 7) (st.2 8)) H := hP
    have hD : va_D A (wX h0 q cI cZ (st.1 0) (upd (upd (upd (st.1 1) ((st.2 5) * 6) x1) (((st.2 5) * 6) + 1) x2) (((st.2 5) * 6) + 2) x3) (st.1 2) (st.1 3) (st.1 4) (st.1 5) (st.1 6) (st.1 7) (st.1 8) (st.1 9) (st.1 10) (st.2 0) (st.2 1) (st.2 2) (st.2 3) (st.2 4) (st.2 5) (st.2 6) (st.2 7) (st.2 8)) := hD
    refine lv_aload_n hx hb dX0_vector_62 rfl (lv_at hl 2 rfl) ?_
    refine va_get (D := (dC, dI)) (ci := 0) (v := .ref (q 1)) (C := RX0) (T := TX0) (N := 20) hx hb hts hin hown hK hP 0 rfl rfl 1 (by decide) k13 (fun _ h9 => h9) rfl dX0_vector_63 ?_
    refine lv_iload hx hb dX0_vector_66 (lv_at hl 0 rfl) ?_
    refine lv_iconst (v := nI 3) hx hb dX0_vector_68 (by decide +kernel) ?_
    refine sq_iadd hx hb dX0_vector_69 ?_
    refine lv_iload hx hb dX0_vector_70 (lv_at hl 7 rfl) ?_
    refine sq_iast hx hb hK hP hD hS 2 0 rfl rfl (i := (((st.2 5) * 6) + 3)) (by omega) (by decide) dX0_vector_72 (fun H locs hP hD hS => ?_)
    have hP : va_P (dC, dI) vwCl (wX h0 q cI cZ (st.1 0) (upd (upd (upd (upd (st.1 1) ((st.2 5) * 6) x1) (((st.2 5) * 6) + 1) x2) (((st.2 5) * 6) + 2) x3) (((st.2 5) * 6) + 3) x4) (st.1 2) (st.1 3) (st.1 4) (st.1 5) (st.1 6) (st.1 7) (st.1 8) (st.1 9) (st.1 10) (st.2 0) (st.2 1) (st.2 2) (st.2 3) (st.2 4) (st.2 5) (st.2 6) (st.2 7) (st.2 8)) H := hP
    have hD : va_D A (wX h0 q cI cZ (st.1 0) (upd (upd (upd (upd (st.1 1) ((st.2 5) * 6) x1) (((st.2 5) * 6) + 1) x2) (((st.2 5) * 6) + 2) x3) (((st.2 5) * 6) + 3) x4) (st.1 2) (st.1 3) (st.1 4) (st.1 5) (st.1 6) (st.1 7) (st.1 8) (st.1 9) (st.1 10) (st.2 0) (st.2 1) (st.2 2) (st.2 3) (st.2 4) (st.2 5) (st.2 6) (st.2 7) (st.2 8)) := hD
    refine lv_aload_n hx hb dX0_vector_73 rfl (lv_at hl 2 rfl) ?_
    refine va_get (D := (dC, dI)) (ci := 0) (v := .ref (q 1)) (C := RX0) (T := TX0) (N := 20) hx hb hts hin hown hK hP 0 rfl rfl 1 (by decide) k13 (fun _ h9 => h9) rfl dX0_vector_74 ?_
    refine lv_iload hx hb dX0_vector_77 (lv_at hl 0 rfl) ?_
    refine lv_iconst (v := nI 4) hx hb dX0_vector_79 (by decide +kernel) ?_
    refine sq_iadd hx hb dX0_vector_80 ?_
    refine lv_iload hx hb dX0_vector_81 (lv_at hl 8 rfl) ?_
    refine sq_iast hx hb hK hP hD hS 2 0 rfl rfl (i := (((st.2 5) * 6) + 4)) (by omega) (by decide) dX0_vector_83 (fun H locs hP hD hS => ?_)
    have hP : va_P (dC, dI) vwCl (wX h0 q cI cZ (st.1 0) (upd (upd (upd (upd (upd (st.1 1) ((st.2 5) * 6) x1) (((st.2 5) * 6) + 1) x2) (((st.2 5) * 6) + 2) x3) (((st.2 5) * 6) + 3) x4) (((st.2 5) * 6) + 4) x5) (st.1 2) (st.1 3) (st.1 4) (st.1 5) (st.1 6) (st.1 7) (st.1 8) (st.1 9) (st.1 10) (st.2 0) (st.2 1) (st.2 2) (st.2 3) (st.2 4) (st.2 5) (st.2 6) (st.2 7) (st.2 8)) H := hP
    have hD : va_D A (wX h0 q cI cZ (st.1 0) (upd (upd (upd (upd (upd (st.1 1) ((st.2 5) * 6) x1) (((st.2 5) * 6) + 1) x2) (((st.2 5) * 6) + 2) x3) (((st.2 5) * 6) + 3) x4) (((st.2 5) * 6) + 4) x5) (st.1 2) (st.1 3) (st.1 4) (st.1 5) (st.1 6) (st.1 7) (st.1 8) (st.1 9) (st.1 10) (st.2 0) (st.2 1) (st.2 2) (st.2 3) (st.2 4) (st.2 5) (st.2 6) (st.2 7) (st.2 8)) := hD
    refine lv_aload_n hx hb dX0_vector_84 rfl (lv_at hl 2 rfl) ?_
    refine va_get (D := (dC, dI)) (ci := 0) (v := .ref (q 1)) (C := RX0) (T := TX0) (N := 20) hx hb hts hin hown hK hP 0 rfl rfl 1 (by decide) k13 (fun _ h9 => h9) rfl dX0_vector_85 ?_
    refine lv_iload hx hb dX0_vector_88 (lv_at hl 0 rfl) ?_
    refine lv_iconst (v := nI 5) hx hb dX0_vector_90 (by decide +kernel) ?_
    refine sq_iadd hx hb dX0_vector_91 ?_
    refine lv_iload hx hb dX0_vector_92 (lv_at hl 9 rfl) ?_
    refine sq_iast hx hb hK hP hD hS 2 0 rfl rfl (i := (((st.2 5) * 6) + 5)) (by omega) (by decide) dX0_vector_94 (fun H locs hP hD hS => ?_)
    have hP : va_P (dC, dI) vwCl (wX h0 q cI cZ (st.1 0) (upd (upd (upd (upd (upd (upd (st.1 1) ((st.2 5) * 6) x1) (((st.2 5) * 6) + 1) x2) (((st.2 5) * 6) + 2) x3) (((st.2 5) * 6) + 3) x4) (((st.2 5) * 6) + 4) x5) (((st.2 5) * 6) + 5) x6) (st.1 2) (st.1 3) (st.1 4) (st.1 5) (st.1 6) (st.1 7) (st.1 8) (st.1 9) (st.1 10) (st.2 0) (st.2 1) (st.2 2) (st.2 3) (st.2 4) (st.2 5) (st.2 6) (st.2 7) (st.2 8)) H := hP
    have hD : va_D A (wX h0 q cI cZ (st.1 0) (upd (upd (upd (upd (upd (upd (st.1 1) ((st.2 5) * 6) x1) (((st.2 5) * 6) + 1) x2) (((st.2 5) * 6) + 2) x3) (((st.2 5) * 6) + 3) x4) (((st.2 5) * 6) + 4) x5) (((st.2 5) * 6) + 5) x6) (st.1 2) (st.1 3) (st.1 4) (st.1 5) (st.1 6) (st.1 7) (st.1 8) (st.1 9) (st.1 10) (st.2 0) (st.2 1) (st.2 2) (st.2 3) (st.2 4) (st.2 5) (st.2 6) (st.2 7) (st.2 8)) := hD
    refine lv_aload_n hx hb dX0_vector_95 rfl (lv_at hl 2 rfl) ?_
    refine va_get (D := (dC, dI)) (ci := 0) (v := .ref (q 3)) (C := RX0) (T := TX0) (N := 20) hx hb hts hin hown hK hP 0 rfl rfl 3 (by decide) k19 (fun _ h9 => h9) rfl dX0_vector_96 ?_
    refine lv_iload hx hb dX0_vector_99 (lv_at hl 1 rfl) ?_
    refine lv_iload_n hx hb dX0_vector_101 rfl (lv_at hl 3 rfl) ?_
    refine sq_zast hx hb hK hP hD hS 4 1 rfl rfl (i := (st.2 5)) (by omega) (by decide) hz1 dX0_vector_102 (fun H locs hP hD hS => ?_)
    have hP : va_P (dC, dI) vwCl (wX h0 q cI cZ (st.1 0) (upd (upd (upd (upd (upd (upd (st.1 1) ((st.2 5) * 6) x1) (((st.2 5) * 6) + 1) x2) (((st.2 5) * 6) + 2) x3) (((st.2 5) * 6) + 3) x4) (((st.2 5) * 6) + 4) x5) (((st.2 5) * 6) + 5) x6) (st.1 2) (upd (st.1 3) (st.2 5) b) (st.1 4) (st.1 5) (st.1 6) (st.1 7) (st.1 8) (st.1 9) (st.1 10) (st.2 0) (st.2 1) (st.2 2) (st.2 3) (st.2 4) (st.2 5) (st.2 6) (st.2 7) (st.2 8)) H := hP
    have hD : va_D A (wX h0 q cI cZ (st.1 0) (upd (upd (upd (upd (upd (upd (st.1 1) ((st.2 5) * 6) x1) (((st.2 5) * 6) + 1) x2) (((st.2 5) * 6) + 2) x3) (((st.2 5) * 6) + 3) x4) (((st.2 5) * 6) + 4) x5) (((st.2 5) * 6) + 5) x6) (st.1 2) (upd (st.1 3) (st.2 5) b) (st.1 4) (st.1 5) (st.1 6) (st.1 7) (st.1 8) (st.1 9) (st.1 10) (st.2 0) (st.2 1) (st.2 2) (st.2 3) (st.2 4) (st.2 5) (st.2 6) (st.2 7) (st.2 8)) := hD
    refine lv_aload_n hx hb dX0_vector_103 rfl (lv_at hl 2 rfl) ?_
    refine lv_iload hx hb dX0_vector_104 (lv_at hl 1 rfl) ?_
    refine lv_iconst (v := nI 1) hx hb dX0_vector_106 (by decide +kernel) ?_
    refine sq_iadd hx hb dX0_vector_107 ?_
    refine va_put (D := (dC, dI)) (ci := 0) (v := .int (nI ((st.2 5) + 1))) (ty := .int) (C := RX0) (T := TX0) (N := 20) hx hb hts hin tyX0 tyX0_ok nmX0 hown hK hP hD hS 0 rfl rfl 16 (by decide) k64 (fun _ h9 => h9) rfl (by decide +kernel) rfl rfl (Nat.le_of_ble_eq_true rfl) dX0_vector_108 (fun H locs hP hD hS => ?_)
    have hP : va_P (dC, dI) vwCl (wX h0 q cI cZ (st.1 0) (upd (upd (upd (upd (upd (upd (st.1 1) ((st.2 5) * 6) x1) (((st.2 5) * 6) + 1) x2) (((st.2 5) * 6) + 2) x3) (((st.2 5) * 6) + 3) x4) (((st.2 5) * 6) + 4) x5) (((st.2 5) * 6) + 5) x6) (st.1 2) (upd (st.1 3) (st.2 5) b) (st.1 4) (st.1 5) (st.1 6) (st.1 7) (st.1 8) (st.1 9) (st.1 10) (st.2 0) (st.2 1) (st.2 2) (st.2 3) (st.2 4) ((st.2 5) + 1) (st.2 6) (st.2 7) (st.2 8)) H := hP
    have hD : va_D A (wX h0 q cI cZ (st.1 0) (upd (upd (upd (upd (upd (upd (st.1 1) ((st.2 5) * 6) x1) (((st.2 5) * 6) + 1) x2) (((st.2 5) * 6) + 2) x3) (((st.2 5) * 6) + 3) x4) (((st.2 5) * 6) + 4) x5) (((st.2 5) * 6) + 5) x6) (st.1 2) (upd (st.1 3) (st.2 5) b) (st.1 4) (st.1 5) (st.1 6) (st.1 7) (st.1 8) (st.1 9) (st.1 10) (st.2 0) (st.2 1) (st.2 2) (st.2 3) (st.2 4) ((st.2 5) + 1) (st.2 6) (st.2 7) (st.2 8)) := hD
    refine lv_iload hx hb dX0_vector_111 (lv_at hl 1 rfl) ?_
    exact hend _ _ _ _ _ (by unfold sq_kV; rw [if_pos hc]) rfl hP hD hS dX0_vector_113
  · have hk9 : ¬ (sq_kV st) = 0 := (by unfold sq_kV; rw [if_neg (by omega)]; decide)
    have hE9 : "java/lang/UnsupportedOperationException" = (fun _ => "java/lang/UnsupportedOperationException") (sq_kV st) := rfl
    exact sq_thr (k := sq_kV st) (En := fun _ => "java/lang/UnsupportedOperationException") (cls := "java/lang/UnsupportedOperationException") (names := ["java/lang/RuntimeException", "java/lang/Exception"]) hQ hx hb hl9 hown (by decide +kernel) (by decide +kernel) (hts _ (List.mem_cons_of_mem _ mkX0_59)) (hts _ (List.mem_cons_of_mem _ mt_UnsupportedOperationException)) (hZ.2.2.2.2.1 (67, "there are 200 vectors") (by decide)) (vx_hat (L := vx_atS RX0 63 "java/lang/UnsupportedOperationException" ["java/lang/RuntimeException", "java/lang/Exception"]) (B := [.castable "java/lang/UnsupportedOperationException" "java/lang/UnsupportedOperationException", .declares ⟨"java/lang/RuntimeException", "<init>", "(Ljava/lang/String;)V"⟩, .declares ⟨"java/lang/Exception", "<init>", "(Ljava/lang/String;)V"⟩, .declares ⟨"java/lang/Throwable", "<init>", "(Ljava/lang/String;)V"⟩]) (fun w hw => hts w (List.mem_cons_of_mem _ (sq_inT (sq_ax63 w hw) (List.mem_filter.mp hw).2))) (by decide +kernel) (vx_c (va_Nw.use rfl (hZ.2.2.1 ("java/lang/UnsupportedOperationException", "java/lang/UnsupportedOperationException") (by decide))) (vx_c (va_Nw.use rfl (hZ.2.2.2.1 ⟨"java/lang/RuntimeException", "<init>", "(Ljava/lang/String;)V"⟩ (by decide))) (vx_c (va_Nw.use rfl (hZ.2.2.2.1 ⟨"java/lang/Exception", "<init>", "(Ljava/lang/String;)V"⟩ (by decide))) (vx_c (va_Nw.use rfl (hZ.2.2.2.1 ⟨"java/lang/Throwable", "<init>", "(Ljava/lang/String;)V"⟩ (by decide))) (vx_n)))))) (by decide +kernel) hZ hS (hl.1.trans hml.symm) dX0_vector_10 dX0_vector_13 dX0_vector_14 dX0_vector_16 dX0_vector_19 hEx (Nat.le_of_ble_eq_true rfl) (Nat.le_of_ble_eq_true rfl) (Nat.le_of_ble_eq_true rfl) (Nat.le_of_ble_eq_true rfl) hlocks hP hK hD hk9 hE9
def rm_entered : Room := { frames := 6, cells := 1, slots := 6, locals := 90 }
set_option maxHeartbeats 4000000 in
set_option maxRecDepth 100000 in
theorem c_entered (l : Launch) (hl9 : l.stackTraces = false) (S : Nat → Nat) (dC : Nat → ClassId) (dI : Nat → Nat → Nat) (h0 : Nat) (q : Nat → Nat) (cI cZ : ClassId) (st : SqS) (v : Int32) (hok : sq_ok st) : sq_Xi sq_cC sq_cD RX0 sq_cS sq_cN S l yX0_entered wsX0_entered rm_entered [.ref h0, .int v] (dC, dI) vwCl [(cI, .int), (cZ, .boolean)] (wX h0 q cI cZ (st.1 0) (st.1 1) (st.1 2) (st.1 3) (st.1 4) (st.1 5) (st.1 6) (st.1 7) (st.1 8) (st.1 9) (st.1 10) (st.2 0) (st.2 1) (st.2 2) (st.2 3) (st.2 4) (st.2 5) (st.2 6) (st.2 7) (st.2 8)) (wX h0 q cI cZ (st.1 0) (st.1 1) (st.1 2) (st.1 3) (st.1 4) (st.1 5) (st.1 6) (st.1 7) (st.1 8) (st.1 9) (st.1 10) (st.2 0) (st.2 1) (st.2 2) (st.2 3) (st.2 4) (st.2 5) (st.2 6) (st.2 7) (st.2 8)) (sq_kE st v) (fun _ => "java/lang/IndexOutOfBoundsException") (sq_rE st v) := by
  refine sq_ofXi (cc := cX0_entered) (maxL := 2) (by decide) rfl (Nat.le_of_ble_eq_true rfl) ?_
  intro p e s m args below meth c A ls Q hx hb hts hown hml hK hP hD hS hA hl hZ hlocks hEx hend hQ
  have hl : lv_has ls 2 [(0, .ref h0), (1, .int v)] := hl
  have hin : ∀ w ∈ u_ws RX0 TX0 20, w ∈ wsX0_entered := fun w h => List.mem_cons_of_mem _ (inX0 w h)
  have k23 := hts _ (List.mem_cons_of_mem _ mfX0_23)
  have k98 := hts _ (List.mem_cons_of_mem _ mfX0_98)
  obtain ⟨⟨o1, o2⟩, o3, ⟨o4, o5⟩, o6, ⟨o7, o8, o9⟩, o10, o11, o12, o13, o14⟩ := id hok
  refine lv_aload_n hx hb dX0_entered_0 rfl (lv_at hl 0 rfl) ?_
  refine lv_iload_n hx hb dX0_entered_1 rfl (lv_at hl 1 rfl) ?_
  refine sq_calli (As := [.int v]) (c_isVector l dC dI h0 q cI cZ (st.1 0) (st.1 1) (st.1 2) (st.1 3) (st.1 4) (st.1 5) (st.1 6) (st.1 7) (st.1 8) (st.1 9) (st.1 10) (st.2 0) (st.2 1) (st.2 2) (st.2 3) (st.2 4) (st.2 5) (st.2 6) (st.2 7) (st.2 8) v) ⟨hx, hb, hml, hown, hts⟩ (cwV 1 hts (sq_good gvX0_93) rfl rfl rfl (by decide +kernel) ⟨Nat.le_of_ble_eq_true rfl, Nat.le_of_ble_eq_true rfl⟩) hK hP hD hS hA rfl rfl rfl rfl hl.1 rfl (Nat.le_of_ble_eq_true rfl) dX0_entered_2 ⟨Nat.zero_le _, Nat.zero_le _⟩ (fun H locs hP hD hS => ?_)
  refine lv_if_ne (tgt := 18) hx hb dX0_entered_5 (by decide) (fun hc => ?_) (fun hc => ?_)
  · have hv : sq_in (st.2 5) v := sq_bnd hc
    have hk0 : sq_kE st v = 0 := by unfold sq_kE; rw [if_pos hv]
    obtain ⟨j, hj, rfl⟩ := sq_in_of hv (by omega)
    have e9 : sq_vec (nI j) = j := sq_vec_nI (by omega)
    refine lv_iload_n hx hb dX0_entered_18 rfl (lv_at hl 1 rfl) ?_
    refine lv_aload_n hx hb dX0_entered_19 rfl (lv_at hl 0 rfl) ?_
    refine va_get (D := (dC, dI)) (ci := 0) (v := .int (nI (st.2 6))) (C := RX0) (T := TX0) (N := 20) hx hb hts hin hown hK hP 0 rfl rfl 17 (by decide) k98 (fun _ h9 => h9) rfl dX0_entered_20 ?_
    refine sq_icmp_ge (tgt := 35) hx hb (by omega) (by omega) dX0_entered_23 (by decide) (fun hd => ?_) (fun hd => ?_)
    · refine lv_iconst (v := (-1)) hx hb dX0_entered_35 (by decide +kernel) ?_
      exact hend _ _ _ _ _ hk0 (by unfold sq_rE; rw [e9, if_neg (by omega)]) hP hD hS dX0_entered_36
    · refine lv_aload_n hx hb dX0_entered_26 rfl (lv_at hl 0 rfl) ?_
      refine va_get (D := (dC, dI)) (ci := 0) (v := .ref (q 4)) (C := RX0) (T := TX0) (N := 20) hx hb hts hin hown hK hP 0 rfl rfl 4 (by decide) k23 (fun _ h9 => h9) rfl dX0_entered_27 ?_
      refine lv_iload_n hx hb dX0_entered_30 rfl (lv_at hl 1 rfl) ?_
      refine sq_iald hx hb hK hP 5 0 rfl rfl (i := j) (by omega) (by decide) dX0_entered_31 ?_
      refine lv_goto (tgt := 36) hx hb dX0_entered_32 (by decide) ?_
      exact hend _ _ _ _ _ hk0 (by unfold sq_rE; rw [e9, if_pos hd]) hP hD hS dX0_entered_36
  · have hk9 : ¬ (sq_kE st v) = 0 := (by unfold sq_kE; rw [if_neg (sq_b0d hc)]; decide)
    have hE9 : "java/lang/IndexOutOfBoundsException" = (fun _ => "java/lang/IndexOutOfBoundsException") (sq_kE st v) := rfl
    exact sq_thr (k := sq_kE st v) (En := fun _ => "java/lang/IndexOutOfBoundsException") (cls := "java/lang/IndexOutOfBoundsException") (names := ["java/lang/RuntimeException", "java/lang/Exception"]) hQ hx hb hl9 hown (by decide +kernel) (by decide +kernel) (hts _ (List.mem_cons_of_mem _ mkX0_86)) (hts _ (List.mem_cons_of_mem _ mt_IndexOutOfBoundsException)) (hZ.2.2.2.2.1 (96, "there is no such vector") (by decide)) (vx_hat (L := vx_atS RX0 90 "java/lang/IndexOutOfBoundsException" ["java/lang/RuntimeException", "java/lang/Exception"]) (B := [.castable "java/lang/IndexOutOfBoundsException" "java/lang/IndexOutOfBoundsException", .declares ⟨"java/lang/RuntimeException", "<init>", "(Ljava/lang/String;)V"⟩, .declares ⟨"java/lang/Exception", "<init>", "(Ljava/lang/String;)V"⟩, .declares ⟨"java/lang/Throwable", "<init>", "(Ljava/lang/String;)V"⟩]) (fun w hw => hts w (List.mem_cons_of_mem _ (sq_inT (sq_ax90 w hw) (List.mem_filter.mp hw).2))) (by decide +kernel) (vx_c (va_Nw.use rfl (hZ.2.2.1 ("java/lang/IndexOutOfBoundsException", "java/lang/IndexOutOfBoundsException") (by decide))) (vx_c (va_Nw.use rfl (hZ.2.2.2.1 ⟨"java/lang/RuntimeException", "<init>", "(Ljava/lang/String;)V"⟩ (by decide))) (vx_c (va_Nw.use rfl (hZ.2.2.2.1 ⟨"java/lang/Exception", "<init>", "(Ljava/lang/String;)V"⟩ (by decide))) (vx_c (va_Nw.use rfl (hZ.2.2.2.1 ⟨"java/lang/Throwable", "<init>", "(Ljava/lang/String;)V"⟩ (by decide))) (vx_n)))))) (by decide +kernel) hZ hS (hl.1.trans hml.symm) dX0_entered_8 dX0_entered_11 dX0_entered_12 dX0_entered_14 dX0_entered_17 hEx (Nat.le_of_ble_eq_true rfl) (Nat.le_of_ble_eq_true rfl) (Nat.le_of_ble_eq_true rfl) (Nat.le_of_ble_eq_true rfl) hlocks hP hK hD hk9 hE9
def rm_result : Room := { frames := 6, cells := 1, slots := 6, locals := 90 }
set_option maxHeartbeats 4000000 in
set_option maxRecDepth 100000 in
theorem c_result (l : Launch) (hl9 : l.stackTraces = false) (S : Nat → Nat) (dC : Nat → ClassId) (dI : Nat → Nat → Nat) (h0 : Nat) (q : Nat → Nat) (cI cZ : ClassId) (st : SqS) (v w : Int32) (hok : sq_ok st) : sq_Xi sq_cC sq_cD RX0 sq_cS sq_cN S l yX0_result wsX0_result rm_result [.ref h0, .int v, .int w] (dC, dI) vwCl [(cI, .int), (cZ, .boolean)] (wX h0 q cI cZ (st.1 0) (st.1 1) (st.1 2) (st.1 3) (st.1 4) (st.1 5) (st.1 6) (st.1 7) (st.1 8) (st.1 9) (st.1 10) (st.2 0) (st.2 1) (st.2 2) (st.2 3) (st.2 4) (st.2 5) (st.2 6) (st.2 7) (st.2 8)) (wX h0 q cI cZ (st.1 0) (st.1 1) (st.1 2) (st.1 3) (st.1 4) (st.1 5) (st.1 6) (st.1 7) (st.1 8) (st.1 9) (st.1 10) (st.2 0) (st.2 1) (st.2 2) (st.2 3) (st.2 4) (st.2 5) (st.2 6) (st.2 7) (st.2 8)) (sq_kR st v w) (fun k => if k = 1 then "java/lang/IndexOutOfBoundsException" else "java/util/NoSuchElementException") (sq_rR st v w) := by
  refine sq_ofXi (cc := cX0_result) (maxL := 3) (by decide) rfl (Nat.le_of_ble_eq_true rfl) ?_
  intro p e s m args below meth c A ls Q hx hb hts hown hml hK hP hD hS hA hl hZ hlocks hEx hend hQ
  have hl : lv_has ls 3 [(0, .ref h0), (1, .int v), (2, .int w)] := hl
  have hin : ∀ w ∈ u_ws RX0 TX0 20, w ∈ wsX0_result := fun w h => List.mem_cons_of_mem _ (inX0 w h)
  have k16 := hts _ (List.mem_cons_of_mem _ mfX0_16)
  have k23 := hts _ (List.mem_cons_of_mem _ mfX0_23)
  have k70 := hts _ (List.mem_cons_of_mem _ mfX0_70)
  have k98 := hts _ (List.mem_cons_of_mem _ mfX0_98)
  obtain ⟨⟨o1, o2⟩, o3, ⟨o4, o5⟩, o6, ⟨o7, o8, o9⟩, o10, o11, o12, o13, o14⟩ := id hok
  refine lv_aload_n hx hb dX0_result_0 rfl (lv_at hl 0 rfl) ?_
  refine lv_iload_n hx hb dX0_result_1 rfl (lv_at hl 1 rfl) ?_
  refine sq_calli (As := [.int v]) (c_isVector l dC dI h0 q cI cZ (st.1 0) (st.1 1) (st.1 2) (st.1 3) (st.1 4) (st.1 5) (st.1 6) (st.1 7) (st.1 8) (st.1 9) (st.1 10) (st.2 0) (st.2 1) (st.2 2) (st.2 3) (st.2 4) (st.2 5) (st.2 6) (st.2 7) (st.2 8) v) ⟨hx, hb, hml, hown, hts⟩ (cwV 1 hts (sq_good gvX0_93) rfl rfl rfl (by decide +kernel) ⟨Nat.le_of_ble_eq_true rfl, Nat.le_of_ble_eq_true rfl⟩) hK hP hD hS hA rfl rfl rfl rfl hl.1 rfl (Nat.le_of_ble_eq_true rfl) dX0_result_2 ⟨Nat.zero_le _, Nat.zero_le _⟩ (fun H locs hP hD hS => ?_)
  refine lv_if_eq (tgt := 16) hx hb dX0_result_5 (by decide) (fun hc => ?_) (fun hc => ?_)
  · have hk1 : sq_kR st v w = 1 := by unfold sq_kR; rw [if_pos (fun h => sq_b0d hc h.1)]
    have hk9 : ¬ (sq_kR st v w) = 0 := (by rw [hk1]; decide)
    have hE9 : "java/lang/IndexOutOfBoundsException" = (fun k => if k = 1 then "java/lang/IndexOutOfBoundsException" else "java/util/NoSuchElementException") (sq_kR st v w) := (by rw [hk1]; rfl)
    exact sq_thr (k := sq_kR st v w) (En := fun k => if k = 1 then "java/lang/IndexOutOfBoundsException" else "java/util/NoSuchElementException") (cls := "java/lang/IndexOutOfBoundsException") (names := ["java/lang/RuntimeException", "java/lang/Exception"]) hQ hx hb hl9 hown (by decide +kernel) (by decide +kernel) (hts _ (List.mem_cons_of_mem _ mkX0_86)) (hts _ (List.mem_cons_of_mem _ mt_IndexOutOfBoundsException)) (hZ.2.2.2.2.1 (101, "there is no such vector or column") (by decide)) (vx_hat (L := vx_atS RX0 90 "java/lang/IndexOutOfBoundsException" ["java/lang/RuntimeException", "java/lang/Exception"]) (B := [.castable "java/lang/IndexOutOfBoundsException" "java/lang/IndexOutOfBoundsException", .declares ⟨"java/lang/RuntimeException", "<init>", "(Ljava/lang/String;)V"⟩, .declares ⟨"java/lang/Exception", "<init>", "(Ljava/lang/String;)V"⟩, .declares ⟨"java/lang/Throwable", "<init>", "(Ljava/lang/String;)V"⟩]) (fun w hw => hts w (List.mem_cons_of_mem _ (sq_inT (sq_ax90 w hw) (List.mem_filter.mp hw).2))) (by decide +kernel) (vx_c (va_Nw.use rfl (hZ.2.2.1 ("java/lang/IndexOutOfBoundsException", "java/lang/IndexOutOfBoundsException") (by decide))) (vx_c (va_Nw.use rfl (hZ.2.2.2.1 ⟨"java/lang/RuntimeException", "<init>", "(Ljava/lang/String;)V"⟩ (by decide))) (vx_c (va_Nw.use rfl (hZ.2.2.2.1 ⟨"java/lang/Exception", "<init>", "(Ljava/lang/String;)V"⟩ (by decide))) (vx_c (va_Nw.use rfl (hZ.2.2.2.1 ⟨"java/lang/Throwable", "<init>", "(Ljava/lang/String;)V"⟩ (by decide))) (vx_n)))))) (by decide +kernel) hZ hS (hl.1.trans hml.symm) dX0_result_16 dX0_result_19 dX0_result_20 dX0_result_22 dX0_result_25 hEx (Nat.le_of_ble_eq_true rfl) (Nat.le_of_ble_eq_true rfl) (Nat.le_of_ble_eq_true rfl) (Nat.le_of_ble_eq_true rfl) hlocks hP hK hD hk9 hE9
  · refine lv_aload_n hx hb dX0_result_8 rfl (lv_at hl 0 rfl) ?_
    refine lv_iload_n hx hb dX0_result_9 rfl (lv_at hl 2 rfl) ?_
    refine sq_calli (As := [.int w]) (c_isInSquare l dC dI h0 q cI cZ (st.1 0) (st.1 1) (st.1 2) (st.1 3) (st.1 4) (st.1 5) (st.1 6) (st.1 7) (st.1 8) (st.1 9) (st.1 10) (st.2 0) (st.2 1) (st.2 2) (st.2 3) (st.2 4) (st.2 5) (st.2 6) (st.2 7) (st.2 8) w) ⟨hx, hb, hml, hown, hts⟩ (cwV 1 hts (sq_good gvX0_82) rfl rfl rfl (by decide +kernel) ⟨Nat.le_of_ble_eq_true rfl, Nat.le_of_ble_eq_true rfl⟩) hK hP hD hS hA rfl rfl rfl rfl hl.1 rfl (Nat.le_of_ble_eq_true rfl) dX0_result_10 ⟨Nat.zero_le _, Nat.zero_le _⟩ (fun H locs hP hD hS => ?_)
    refine lv_if_ne (tgt := 26) hx hb dX0_result_13 (by decide) (fun hd => ?_) (fun hd => ?_)
    · have hv : sq_in (st.2 5) v := sq_bnd hc
      have hw : sq_in (st.2 0) w := sq_bnd hd
      have hkk : sq_kR st v w = if sq_vec v < st.2 6 ∧ 2 * st.2 0 - 2 ≤ st.2 1 - sq_vec (st.1 4 (sq_vec v)) then 0 else 2 := by unfold sq_kR; rw [if_neg (fun h => h ⟨hv, hw⟩)]
      obtain ⟨j, hj, rfl⟩ := sq_in_of hv (by omega)
      obtain ⟨i, hi, rfl⟩ := sq_in_of hw (by omega)
      have e8 : sq_vec (nI j) = j := sq_vec_nI (by omega)
      have e9 : sq_vec (nI i) = i := sq_vec_nI (by omega)
      rw [e8] at hkk
      refine lv_iload_n hx hb dX0_result_26 rfl (lv_at hl 1 rfl) ?_
      refine lv_aload_n hx hb dX0_result_27 rfl (lv_at hl 0 rfl) ?_
      refine va_get (D := (dC, dI)) (ci := 0) (v := .int (nI (st.2 6))) (C := RX0) (T := TX0) (N := 20) hx hb hts hin hown hK hP 0 rfl rfl 17 (by decide) k98 (fun _ h9 => h9) rfl dX0_result_28 ?_
      refine sq_icmp_ge (tgt := 52) hx hb (by omega) (by omega) dX0_result_31 (by decide) (fun he => ?_) (fun he => ?_)
      · rw [if_neg (fun h => absurd h.1 (by omega))] at hkk
        have hk9 : ¬ (sq_kR st (nI j) (nI i)) = 0 := (by rw [hkk]; decide)
        have hE9 : "java/util/NoSuchElementException" = (fun k => if k = 1 then "java/lang/IndexOutOfBoundsException" else "java/util/NoSuchElementException") (sq_kR st (nI j) (nI i)) := (by rw [hkk]; rfl)
        exact sq_thrN (k := sq_kR st (nI j) (nI i)) (En := fun k => if k = 1 then "java/lang/IndexOutOfBoundsException" else "java/util/NoSuchElementException") hQ hx hb hl9 hown hts hZ hS (hl.1.trans hml.symm) dX0_result_52 dX0_result_55 dX0_result_56 dX0_result_58 dX0_result_61 hEx (Nat.le_of_ble_eq_true rfl) (Nat.le_of_ble_eq_true rfl) (Nat.le_of_ble_eq_true rfl) (Nat.le_of_ble_eq_true rfl) hlocks hP hK hD hk9 hE9
      · obtain ⟨t, ht, et⟩ := o14 j he
        have e7 : sq_vec (st.1 4 j) = t := by rw [et]; exact sq_vec_nI (by omega)
        rw [e7] at hkk
        refine lv_aload_n hx hb dX0_result_34 rfl (lv_at hl 0 rfl) ?_
        refine va_get (D := (dC, dI)) (ci := 0) (v := .int (nI (st.2 1))) (C := RX0) (T := TX0) (N := 20) hx hb hts hin hown hK hP 0 rfl rfl 12 (by decide) k70 (fun _ h9 => h9) rfl dX0_result_35 ?_
        refine lv_aload_n hx hb dX0_result_38 rfl (lv_at hl 0 rfl) ?_
        refine va_get (D := (dC, dI)) (ci := 0) (v := .ref (q 4)) (C := RX0) (T := TX0) (N := 20) hx hb hts hin hown hK hP 0 rfl rfl 4 (by decide) k23 (fun _ h9 => h9) rfl dX0_result_39 ?_
        refine lv_iload_n hx hb dX0_result_42 rfl (lv_at hl 1 rfl) ?_
        refine sq_iald hx hb hK hP 5 0 rfl rfl (i := j) (by omega) (by decide) dX0_result_43 ?_
        refine sq_top et ?_
        refine sq_isub hx hb (by omega) dX0_result_44 ?_
        refine lv_aload_n hx hb dX0_result_45 rfl (lv_at hl 0 rfl) ?_
        refine sq_calli (As := []) (c_crossing l dC dI h0 q cI cZ (st.1 0) (st.1 1) (st.1 2) (st.1 3) (st.1 4) (st.1 5) (st.1 6) (st.1 7) (st.1 8) (st.1 9) (st.1 10) (st.2 0) (st.2 1) (st.2 2) (st.2 3) (st.2 4) (st.2 5) (st.2 6) (st.2 7) (st.2 8) o1) ⟨hx, hb, hml, hown, hts⟩ (cwV 0 hts (sq_good gvX0_103) rfl rfl rfl (by decide +kernel) ⟨Nat.le_of_ble_eq_true rfl, Nat.le_of_ble_eq_true rfl⟩) hK hP hD hS hA rfl rfl rfl rfl hl.1 rfl (Nat.le_of_ble_eq_true rfl) dX0_result_46 ⟨Nat.zero_le _, Nat.zero_le _⟩ (fun H locs hP hD hS => ?_)
        refine sq_icmp_ge (tgt := 62) hx hb (by omega) (by omega) dX0_result_49 (by decide) (fun hf => ?_) (fun hf => ?_)
        · rw [if_pos ⟨he, hf⟩] at hkk
          refine lv_aload_n hx hb dX0_result_62 rfl (lv_at hl 0 rfl) ?_
          refine va_get (D := (dC, dI)) (ci := 0) (v := .ref (q 2)) (C := RX0) (T := TX0) (N := 20) hx hb hts hin hown hK hP 0 rfl rfl 2 (by decide) k16 (fun _ h9 => h9) rfl dX0_result_63 ?_
          refine lv_iload_n hx hb dX0_result_66 rfl (lv_at hl 1 rfl) ?_
          refine lv_bipush (v := nI 6) hx hb dX0_result_67 (by decide +kernel) ?_
          refine sq_imul hx hb dX0_result_69 ?_
          refine lv_iload_n hx hb dX0_result_70 rfl (lv_at hl 2 rfl) ?_
          refine sq_iadd hx hb dX0_result_71 ?_
          refine sq_iald hx hb hK hP 3 0 rfl rfl (i := ((j * 6) + i)) (by omega) (by decide) dX0_result_72 ?_
          exact hend _ _ _ _ _ hkk (by unfold sq_rR; rw [e8, e9]) hP hD hS dX0_result_73
        · rw [if_neg (fun h => absurd h.2 (by omega))] at hkk
          have hk9 : ¬ (sq_kR st (nI j) (nI i)) = 0 := (by rw [hkk]; decide)
          have hE9 : "java/util/NoSuchElementException" = (fun k => if k = 1 then "java/lang/IndexOutOfBoundsException" else "java/util/NoSuchElementException") (sq_kR st (nI j) (nI i)) := (by rw [hkk]; rfl)
          exact sq_thrN (k := sq_kR st (nI j) (nI i)) (En := fun k => if k = 1 then "java/lang/IndexOutOfBoundsException" else "java/util/NoSuchElementException") hQ hx hb hl9 hown hts hZ hS (hl.1.trans hml.symm) dX0_result_52 dX0_result_55 dX0_result_56 dX0_result_58 dX0_result_61 hEx (Nat.le_of_ble_eq_true rfl) (Nat.le_of_ble_eq_true rfl) (Nat.le_of_ble_eq_true rfl) (Nat.le_of_ble_eq_true rfl) hlocks hP hK hD hk9 hE9
    · have hk1 : sq_kR st v w = 1 := by unfold sq_kR; rw [if_pos (fun h => sq_b0d hd h.2)]
      have hk9 : ¬ (sq_kR st v w) = 0 := (by rw [hk1]; decide)
      have hE9 : "java/lang/IndexOutOfBoundsException" = (fun k => if k = 1 then "java/lang/IndexOutOfBoundsException" else "java/util/NoSuchElementException") (sq_kR st v w) := (by rw [hk1]; rfl)
      exact sq_thr (k := sq_kR st v w) (En := fun k => if k = 1 then "java/lang/IndexOutOfBoundsException" else "java/util/NoSuchElementException") (cls := "java/lang/IndexOutOfBoundsException") (names := ["java/lang/RuntimeException", "java/lang/Exception"]) hQ hx hb hl9 hown (by decide +kernel) (by decide +kernel) (hts _ (List.mem_cons_of_mem _ mkX0_86)) (hts _ (List.mem_cons_of_mem _ mt_IndexOutOfBoundsException)) (hZ.2.2.2.2.1 (101, "there is no such vector or column") (by decide)) (vx_hat (L := vx_atS RX0 90 "java/lang/IndexOutOfBoundsException" ["java/lang/RuntimeException", "java/lang/Exception"]) (B := [.castable "java/lang/IndexOutOfBoundsException" "java/lang/IndexOutOfBoundsException", .declares ⟨"java/lang/RuntimeException", "<init>", "(Ljava/lang/String;)V"⟩, .declares ⟨"java/lang/Exception", "<init>", "(Ljava/lang/String;)V"⟩, .declares ⟨"java/lang/Throwable", "<init>", "(Ljava/lang/String;)V"⟩]) (fun w hw => hts w (List.mem_cons_of_mem _ (sq_inT (sq_ax90 w hw) (List.mem_filter.mp hw).2))) (by decide +kernel) (vx_c (va_Nw.use rfl (hZ.2.2.1 ("java/lang/IndexOutOfBoundsException", "java/lang/IndexOutOfBoundsException") (by decide))) (vx_c (va_Nw.use rfl (hZ.2.2.2.1 ⟨"java/lang/RuntimeException", "<init>", "(Ljava/lang/String;)V"⟩ (by decide))) (vx_c (va_Nw.use rfl (hZ.2.2.2.1 ⟨"java/lang/Exception", "<init>", "(Ljava/lang/String;)V"⟩ (by decide))) (vx_c (va_Nw.use rfl (hZ.2.2.2.1 ⟨"java/lang/Throwable", "<init>", "(Ljava/lang/String;)V"⟩ (by decide))) (vx_n)))))) (by decide +kernel) hZ hS (hl.1.trans hml.symm) dX0_result_16 dX0_result_19 dX0_result_20 dX0_result_22 dX0_result_25 hEx (Nat.le_of_ble_eq_true rfl) (Nat.le_of_ble_eq_true rfl) (Nat.le_of_ble_eq_true rfl) (Nat.le_of_ble_eq_true rfl) hlocks hP hK hD hk9 hE9
end
section
def rm_cell : Room := { frames := 6, cells := 1, slots := 6, locals := 90 }
set_option maxHeartbeats 4000000 in
set_option maxRecDepth 100000 in
theorem c_cell (l : Launch) (hl9 : l.stackTraces = false) (S : Nat → Nat) (dC : Nat → ClassId) (dI : Nat → Nat → Nat) (h0 : Nat) (q : Nat → Nat) (cI cZ : ClassId) (st : SqS) (x y w : Int32) (hok : sq_ok st) : sq_Xi sq_cC sq_cD RX0 sq_cS sq_cN S l yX0_cell wsX0_cell rm_cell [.ref h0, .int x, .int y, .int w] (dC, dI) vwCl [(cI, .int), (cZ, .boolean)] (wX h0 q cI cZ (st.1 0) (st.1 1) (st.1 2) (st.1 3) (st.1 4) (st.1 5) (st.1 6) (st.1 7) (st.1 8) (st.1 9) (st.1 10) (st.2 0) (st.2 1) (st.2 2) (st.2 3) (st.2 4) (st.2 5) (st.2 6) (st.2 7) (st.2 8)) (wX h0 q cI cZ (st.1 0) (st.1 1) (st.1 2) (st.1 3) (st.1 4) (st.1 5) (st.1 6) (st.1 7) (st.1 8) (st.1 9) (st.1 10) (st.2 0) (st.2 1) (st.2 2) (st.2 3) (st.2 4) (st.2 5) (st.2 6) (st.2 7) (st.2 8)) (sq_kL st x y w) (fun k => if k = 1 then "java/lang/IndexOutOfBoundsException" else "java/lang/IllegalArgumentException") (sq_rL st x y w) := by
  refine sq_ofXi (cc := cX0_cell) (maxL := 5) (by decide) rfl (Nat.le_of_ble_eq_true rfl) ?_
  intro p e s m args below meth c A ls Q hx hb hts hown hml hK hP hD hS hA hl hZ hlocks hEx hend hQ
  have hl : lv_has ls 5 [(0, .ref h0), (1, .int x), (2, .int y), (3, .int w)] := hl
  have hin : ∀ w ∈ u_ws RX0 TX0 20, w ∈ wsX0_cell := fun w h => List.mem_cons_of_mem _ (inX0 w h)
  have k29 := hts _ (List.mem_cons_of_mem _ mfX0_29)
  have k32 := hts _ (List.mem_cons_of_mem _ mfX0_32)
  have k35 := hts _ (List.mem_cons_of_mem _ mfX0_35)
  have k38 := hts _ (List.mem_cons_of_mem _ mfX0_38)
  have k41 := hts _ (List.mem_cons_of_mem _ mfX0_41)
  obtain ⟨⟨o1, o2⟩, o3, ⟨o4, o5⟩, o6, ⟨o7, o8, o9⟩, o10, o11, o12, o13, o14⟩ := id hok
  refine lv_aload_n hx hb dX0_cell_0 rfl (lv_at hl 0 rfl) ?_
  refine lv_iload_n hx hb dX0_cell_1 rfl (lv_at hl 1 rfl) ?_
  refine sq_calli (As := [.int x]) (c_isInSquare l dC dI h0 q cI cZ (st.1 0) (st.1 1) (st.1 2) (st.1 3) (st.1 4) (st.1 5) (st.1 6) (st.1 7) (st.1 8) (st.1 9) (st.1 10) (st.2 0) (st.2 1) (st.2 2) (st.2 3) (st.2 4) (st.2 5) (st.2 6) (st.2 7) (st.2 8) x) ⟨hx, hb, hml, hown, hts⟩ (cwV 1 hts (sq_good gvX0_82) rfl rfl rfl (by decide +kernel) ⟨Nat.le_of_ble_eq_true rfl, Nat.le_of_ble_eq_true rfl⟩) hK hP hD hS hA rfl rfl rfl rfl hl.1 rfl (Nat.le_of_ble_eq_true rfl) dX0_cell_2 ⟨Nat.zero_le _, Nat.zero_le _⟩ (fun H locs hP hD hS => ?_)
  refine lv_if_eq (tgt := 16) hx hb dX0_cell_5 (by decide) (fun hc => ?_) (fun hc => ?_)
  · have hk1 : sq_kL st x y w = 1 := by unfold sq_kL; rw [if_pos (fun h => sq_b0d hc h.1)]
    have hk9 : ¬ (sq_kL st x y w) = 0 := (by rw [hk1]; decide)
    have hE9 : "java/lang/IndexOutOfBoundsException" = (fun k => if k = 1 then "java/lang/IndexOutOfBoundsException" else "java/lang/IllegalArgumentException") (sq_kL st x y w) := (by rw [hk1]; rfl)
    exact sq_thr (k := sq_kL st x y w) (En := fun k => if k = 1 then "java/lang/IndexOutOfBoundsException" else "java/lang/IllegalArgumentException") (cls := "java/lang/IndexOutOfBoundsException") (names := ["java/lang/RuntimeException", "java/lang/Exception"]) hQ hx hb hl9 hown (by decide +kernel) (by decide +kernel) (hts _ (List.mem_cons_of_mem _ mkX0_86)) (hts _ (List.mem_cons_of_mem _ mt_IndexOutOfBoundsException)) (hZ.2.2.2.2.1 (88, "there is no such cell") (by decide)) (vx_hat (L := vx_atS RX0 90 "java/lang/IndexOutOfBoundsException" ["java/lang/RuntimeException", "java/lang/Exception"]) (B := [.castable "java/lang/IndexOutOfBoundsException" "java/lang/IndexOutOfBoundsException", .declares ⟨"java/lang/RuntimeException", "<init>", "(Ljava/lang/String;)V"⟩, .declares ⟨"java/lang/Exception", "<init>", "(Ljava/lang/String;)V"⟩, .declares ⟨"java/lang/Throwable", "<init>", "(Ljava/lang/String;)V"⟩]) (fun w hw => hts w (List.mem_cons_of_mem _ (sq_inT (sq_ax90 w hw) (List.mem_filter.mp hw).2))) (by decide +kernel) (vx_c (va_Nw.use rfl (hZ.2.2.1 ("java/lang/IndexOutOfBoundsException", "java/lang/IndexOutOfBoundsException") (by decide))) (vx_c (va_Nw.use rfl (hZ.2.2.2.1 ⟨"java/lang/RuntimeException", "<init>", "(Ljava/lang/String;)V"⟩ (by decide))) (vx_c (va_Nw.use rfl (hZ.2.2.2.1 ⟨"java/lang/Exception", "<init>", "(Ljava/lang/String;)V"⟩ (by decide))) (vx_c (va_Nw.use rfl (hZ.2.2.2.1 ⟨"java/lang/Throwable", "<init>", "(Ljava/lang/String;)V"⟩ (by decide))) (vx_n)))))) (by decide +kernel) hZ hS (hl.1.trans hml.symm) dX0_cell_16 dX0_cell_19 dX0_cell_20 dX0_cell_22 dX0_cell_25 hEx (Nat.le_of_ble_eq_true rfl) (Nat.le_of_ble_eq_true rfl) (Nat.le_of_ble_eq_true rfl) (Nat.le_of_ble_eq_true rfl) hlocks hP hK hD hk9 hE9
  · refine lv_aload_n hx hb dX0_cell_8 rfl (lv_at hl 0 rfl) ?_
    refine lv_iload_n hx hb dX0_cell_9 rfl (lv_at hl 2 rfl) ?_
    refine sq_calli (As := [.int y]) (c_isInSquare l dC dI h0 q cI cZ (st.1 0) (st.1 1) (st.1 2) (st.1 3) (st.1 4) (st.1 5) (st.1 6) (st.1 7) (st.1 8) (st.1 9) (st.1 10) (st.2 0) (st.2 1) (st.2 2) (st.2 3) (st.2 4) (st.2 5) (st.2 6) (st.2 7) (st.2 8) y) ⟨hx, hb, hml, hown, hts⟩ (cwV 1 hts (sq_good gvX0_82) rfl rfl rfl (by decide +kernel) ⟨Nat.le_of_ble_eq_true rfl, Nat.le_of_ble_eq_true rfl⟩) hK hP hD hS hA rfl rfl rfl rfl hl.1 rfl (Nat.le_of_ble_eq_true rfl) dX0_cell_10 ⟨Nat.zero_le _, Nat.zero_le _⟩ (fun H locs hP hD hS => ?_)
    refine lv_if_ne (tgt := 26) hx hb dX0_cell_13 (by decide) (fun hd => ?_) (fun hd => ?_)
    · have hv : sq_in (st.2 0) x := sq_bnd hc
      have hw : sq_in (st.2 0) y := sq_bnd hd
      have hkk : sq_kL st x y w = if w < 0 ∨ nI 4 < w then 2 else 0 := by unfold sq_kL; rw [if_neg (fun h => h ⟨hv, hw⟩)]
      obtain ⟨j, hj, rfl⟩ := sq_in_of hv (by omega)
      obtain ⟨i, hi, rfl⟩ := sq_in_of hw (by omega)
      have e8 : sq_vec (nI j) = j := sq_vec_nI (by omega)
      have e9 : sq_vec (nI i) = i := sq_vec_nI (by omega)
      refine lv_iload_n hx hb dX0_cell_26 rfl (lv_at hl 1 rfl) ?_
      refine lv_bipush (v := nI 6) hx hb dX0_cell_27 (by decide +kernel) ?_
      refine sq_imul hx hb dX0_cell_29 ?_
      refine lv_iload_n hx hb dX0_cell_30 rfl (lv_at hl 2 rfl) ?_
      refine sq_iadd hx hb dX0_cell_31 ?_
      refine lv_istore (lv' := [(4, .int (nI ((j * 6) + i))), (0, .ref h0), (1, .int (nI j)), (2, .int (nI i)), (3, .int w)]) hx hb dX0_cell_32 hl (by decide) rfl (fun ls hl => ?_)
      refine lv_iload_n hx hb dX0_cell_34 rfl (lv_at hl 4 rfl) ?_
      rcases sq_sw5 w with (rfl | rfl | rfl | rfl | rfl) | hw9
      · refine lv_tableIn (tgt := 68) hx hb dX0_cell_35 (by decide) (by decide) rfl (by decide) ?_
        rw [if_neg (by decide)] at hkk
        refine lv_aload_n hx hb dX0_cell_68 rfl (lv_at hl 1 rfl) ?_
        refine va_get (D := (dC, dI)) (ci := 0) (v := .ref (q 6)) (C := RX0) (T := TX0) (N := 20) hx hb hts hin hown hK hP 0 rfl rfl 6 (by decide) k29 (fun _ h9 => h9) rfl dX0_cell_69 ?_
        refine lv_iload hx hb dX0_cell_72 (lv_at hl 0 rfl) ?_
        refine sq_iald hx hb hK hP 7 0 rfl rfl (i := ((j * 6) + i)) (by omega) (by decide) dX0_cell_74 ?_
        exact hend _ _ _ _ _ hkk (by unfold sq_rL; rw [e8, e9, if_pos rfl]) hP hD hS dX0_cell_75
      · refine lv_tableIn (tgt := 76) hx hb dX0_cell_35 (by decide) (by decide) rfl (by decide) ?_
        rw [if_neg (by decide)] at hkk
        refine lv_aload_n hx hb dX0_cell_76 rfl (lv_at hl 1 rfl) ?_
        refine va_get (D := (dC, dI)) (ci := 0) (v := .ref (q 7)) (C := RX0) (T := TX0) (N := 20) hx hb hts hin hown hK hP 0 rfl rfl 7 (by decide) k32 (fun _ h9 => h9) rfl dX0_cell_77 ?_
        refine lv_iload hx hb dX0_cell_80 (lv_at hl 0 rfl) ?_
        refine sq_iald hx hb hK hP 8 0 rfl rfl (i := ((j * 6) + i)) (by omega) (by decide) dX0_cell_82 ?_
        exact hend _ _ _ _ _ hkk (by unfold sq_rL; rw [e8, e9, if_neg (by decide), if_pos rfl]) hP hD hS dX0_cell_83
      · refine lv_tableIn (tgt := 84) hx hb dX0_cell_35 (by decide) (by decide) rfl (by decide) ?_
        rw [if_neg (by decide)] at hkk
        refine lv_aload_n hx hb dX0_cell_84 rfl (lv_at hl 1 rfl) ?_
        refine va_get (D := (dC, dI)) (ci := 0) (v := .ref (q 8)) (C := RX0) (T := TX0) (N := 20) hx hb hts hin hown hK hP 0 rfl rfl 8 (by decide) k35 (fun _ h9 => h9) rfl dX0_cell_85 ?_
        refine lv_iload hx hb dX0_cell_88 (lv_at hl 0 rfl) ?_
        refine sq_iald hx hb hK hP 9 0 rfl rfl (i := ((j * 6) + i)) (by omega) (by decide) dX0_cell_90 ?_
        exact hend _ _ _ _ _ hkk (by unfold sq_rL; rw [e8, e9, if_neg (by decide), if_neg (by decide), if_pos rfl]) hP hD hS dX0_cell_91
      · refine lv_tableIn (tgt := 92) hx hb dX0_cell_35 (by decide) (by decide) rfl (by decide) ?_
        rw [if_neg (by decide)] at hkk
        refine lv_aload_n hx hb dX0_cell_92 rfl (lv_at hl 1 rfl) ?_
        refine va_get (D := (dC, dI)) (ci := 0) (v := .ref (q 9)) (C := RX0) (T := TX0) (N := 20) hx hb hts hin hown hK hP 0 rfl rfl 9 (by decide) k38 (fun _ h9 => h9) rfl dX0_cell_93 ?_
        refine lv_iload hx hb dX0_cell_96 (lv_at hl 0 rfl) ?_
        refine sq_iald hx hb hK hP 10 0 rfl rfl (i := ((j * 6) + i)) (by omega) (by decide) dX0_cell_98 ?_
        exact hend _ _ _ _ _ hkk (by unfold sq_rL; rw [e8, e9, if_neg (by decide), if_neg (by decide), if_neg (by decide), if_pos rfl]) hP hD hS dX0_cell_99
      · refine lv_tableIn (tgt := 100) hx hb dX0_cell_35 (by decide) (by decide) rfl (by decide) ?_
        rw [if_neg (by decide)] at hkk
        refine lv_aload_n hx hb dX0_cell_100 rfl (lv_at hl 1 rfl) ?_
        refine va_get (D := (dC, dI)) (ci := 0) (v := .ref (q 10)) (C := RX0) (T := TX0) (N := 20) hx hb hts hin hown hK hP 0 rfl rfl 10 (by decide) k41 (fun _ h9 => h9) rfl dX0_cell_101 ?_
        refine lv_iload hx hb dX0_cell_104 (lv_at hl 0 rfl) ?_
        refine sq_zald hx hb hK hP 11 1 rfl rfl (i := ((j * 6) + i)) (by omega) (by decide) dX0_cell_106 ?_
        refine lv_if_eq (tgt := 114) hx hb dX0_cell_107 (by decide) (fun hf => ?_) (fun hf => ?_)
        · refine lv_iconst (v := nI 0) hx hb dX0_cell_114 (by decide +kernel) ?_
          exact hend _ _ _ _ _ hkk (by unfold sq_rL; rw [e8, e9, if_neg (by decide), if_neg (by decide), if_neg (by decide), if_neg (by decide), if_pos hf]) hP hD hS dX0_cell_115
        · refine lv_iconst (v := nI 1) hx hb dX0_cell_110 (by decide +kernel) ?_
          refine lv_goto (tgt := 115) hx hb dX0_cell_111 (by decide) ?_
          exact hend _ _ _ _ _ hkk (by unfold sq_rL; rw [e8, e9, if_neg (by decide), if_neg (by decide), if_neg (by decide), if_neg (by decide), if_neg hf]) hP hD hS dX0_cell_115
      · refine lv_tableOut (tgt := 116) hx hb dX0_cell_35 (sq_swOut (k := 4) (by decide) hw9) (by decide) ?_
        rw [if_pos hw9] at hkk
        have hk9 : ¬ (sq_kL st (nI j) (nI i) w) = 0 := (by rw [hkk]; decide)
        have hE9 : "java/lang/IllegalArgumentException" = (fun k => if k = 1 then "java/lang/IndexOutOfBoundsException" else "java/lang/IllegalArgumentException") (sq_kL st (nI j) (nI i) w) := (by rw [hkk]; rfl)
        exact sq_thr (k := sq_kL st (nI j) (nI i) w) (En := fun k => if k = 1 then "java/lang/IndexOutOfBoundsException" else "java/lang/IllegalArgumentException") (cls := "java/lang/IllegalArgumentException") (names := ["java/lang/RuntimeException", "java/lang/Exception"]) hQ hx hb hl9 hown (by decide +kernel) (by decide +kernel) (hts _ (List.mem_cons_of_mem _ mkX0_48)) (hts _ (List.mem_cons_of_mem _ mt_IllegalArgumentException)) (hZ.2.2.2.2.1 (91, "what is not 0 .. 4") (by decide)) (vx_hat (L := vx_atS RX0 52 "java/lang/IllegalArgumentException" ["java/lang/RuntimeException", "java/lang/Exception"]) (B := [.castable "java/lang/IllegalArgumentException" "java/lang/IllegalArgumentException", .declares ⟨"java/lang/RuntimeException", "<init>", "(Ljava/lang/String;)V"⟩, .declares ⟨"java/lang/Exception", "<init>", "(Ljava/lang/String;)V"⟩, .declares ⟨"java/lang/Throwable", "<init>", "(Ljava/lang/String;)V"⟩]) (fun w hw => hts w (List.mem_cons_of_mem _ (sq_inT (sq_ax52 w hw) (List.mem_filter.mp hw).2))) (by decide +kernel) (vx_c (va_Nw.use rfl (hZ.2.2.1 ("java/lang/IllegalArgumentException", "java/lang/IllegalArgumentException") (by decide))) (vx_c (va_Nw.use rfl (hZ.2.2.2.1 ⟨"java/lang/RuntimeException", "<init>", "(Ljava/lang/String;)V"⟩ (by decide))) (vx_c (va_Nw.use rfl (hZ.2.2.2.1 ⟨"java/lang/Exception", "<init>", "(Ljava/lang/String;)V"⟩ (by decide))) (vx_c (va_Nw.use rfl (hZ.2.2.2.1 ⟨"java/lang/Throwable", "<init>", "(Ljava/lang/String;)V"⟩ (by decide))) (vx_n)))))) (by decide +kernel) hZ hS (hl.1.trans hml.symm) dX0_cell_116 dX0_cell_119 dX0_cell_120 dX0_cell_122 dX0_cell_125 hEx (Nat.le_of_ble_eq_true rfl) (Nat.le_of_ble_eq_true rfl) (Nat.le_of_ble_eq_true rfl) (Nat.le_of_ble_eq_true rfl) hlocks hP hK hD hk9 hE9
    · have hk1 : sq_kL st x y w = 1 := by unfold sq_kL; rw [if_pos (fun h => sq_b0d hd h.2)]
      have hk9 : ¬ (sq_kL st x y w) = 0 := (by rw [hk1]; decide)
      have hE9 : "java/lang/IndexOutOfBoundsException" = (fun k => if k = 1 then "java/lang/IndexOutOfBoundsException" else "java/lang/IllegalArgumentException") (sq_kL st x y w) := (by rw [hk1]; rfl)
      exact sq_thr (k := sq_kL st x y w) (En := fun k => if k = 1 then "java/lang/IndexOutOfBoundsException" else "java/lang/IllegalArgumentException") (cls := "java/lang/IndexOutOfBoundsException") (names := ["java/lang/RuntimeException", "java/lang/Exception"]) hQ hx hb hl9 hown (by decide +kernel) (by decide +kernel) (hts _ (List.mem_cons_of_mem _ mkX0_86)) (hts _ (List.mem_cons_of_mem _ mt_IndexOutOfBoundsException)) (hZ.2.2.2.2.1 (88, "there is no such cell") (by decide)) (vx_hat (L := vx_atS RX0 90 "java/lang/IndexOutOfBoundsException" ["java/lang/RuntimeException", "java/lang/Exception"]) (B := [.castable "java/lang/IndexOutOfBoundsException" "java/lang/IndexOutOfBoundsException", .declares ⟨"java/lang/RuntimeException", "<init>", "(Ljava/lang/String;)V"⟩, .declares ⟨"java/lang/Exception", "<init>", "(Ljava/lang/String;)V"⟩, .declares ⟨"java/lang/Throwable", "<init>", "(Ljava/lang/String;)V"⟩]) (fun w hw => hts w (List.mem_cons_of_mem _ (sq_inT (sq_ax90 w hw) (List.mem_filter.mp hw).2))) (by decide +kernel) (vx_c (va_Nw.use rfl (hZ.2.2.1 ("java/lang/IndexOutOfBoundsException", "java/lang/IndexOutOfBoundsException") (by decide))) (vx_c (va_Nw.use rfl (hZ.2.2.2.1 ⟨"java/lang/RuntimeException", "<init>", "(Ljava/lang/String;)V"⟩ (by decide))) (vx_c (va_Nw.use rfl (hZ.2.2.2.1 ⟨"java/lang/Exception", "<init>", "(Ljava/lang/String;)V"⟩ (by decide))) (vx_c (va_Nw.use rfl (hZ.2.2.2.1 ⟨"java/lang/Throwable", "<init>", "(Ljava/lang/String;)V"⟩ (by decide))) (vx_n)))))) (by decide +kernel) hZ hS (hl.1.trans hml.symm) dX0_cell_16 dX0_cell_19 dX0_cell_20 dX0_cell_22 dX0_cell_25 hEx (Nat.le_of_ble_eq_true rfl) (Nat.le_of_ble_eq_true rfl) (Nat.le_of_ble_eq_true rfl) (Nat.le_of_ble_eq_true rfl) hlocks hP hK hD hk9 hE9
def rm_about : Room := { frames := 6, cells := 1, slots := 6, locals := 90 }
set_option maxHeartbeats 4000000 in
set_option maxRecDepth 100000 in
theorem c_about (l : Launch) (hl9 : l.stackTraces = false) (S : Nat → Nat) (dC : Nat → ClassId) (dI : Nat → Nat → Nat) (h0 : Nat) (q : Nat → Nat) (cI cZ : ClassId) (st : SqS) (w : Int32) (hok : sq_ok st) : sq_Xi sq_cC sq_cD RX0 sq_cS sq_cN S l yX0_about wsX0_about rm_about [.ref h0, .int w] (dC, dI) vwCl [(cI, .int), (cZ, .boolean)] (wX h0 q cI cZ (st.1 0) (st.1 1) (st.1 2) (st.1 3) (st.1 4) (st.1 5) (st.1 6) (st.1 7) (st.1 8) (st.1 9) (st.1 10) (st.2 0) (st.2 1) (st.2 2) (st.2 3) (st.2 4) (st.2 5) (st.2 6) (st.2 7) (st.2 8)) (wX h0 q cI cZ (st.1 0) (st.1 1) (st.1 2) (st.1 3) (st.1 4) (st.1 5) (st.1 6) (st.1 7) (st.1 8) (st.1 9) (st.1 10) (st.2 0) (st.2 1) (st.2 2) (st.2 3) (st.2 4) (st.2 5) (st.2 6) (st.2 7) (st.2 8)) (sq_kA w) (fun _ => "java/lang/IllegalArgumentException") (sq_rA st w) := by
  refine sq_ofXi (cc := cX0_about) (maxL := 2) (by decide) rfl (Nat.le_of_ble_eq_true rfl) ?_
  intro p e s m args below meth c A ls Q hx hb hts hown hml hK hP hD hS hA hl hZ hlocks hEx hend hQ
  have hl : lv_has ls 2 [(0, .ref h0), (1, .int w)] := hl
  have hin : ∀ w ∈ u_ws RX0 TX0 20, w ∈ wsX0_about := fun w h => List.mem_cons_of_mem _ (inX0 w h)
  have k55 := hts _ (List.mem_cons_of_mem _ mfX0_55)
  have k64 := hts _ (List.mem_cons_of_mem _ mfX0_64)
  have k70 := hts _ (List.mem_cons_of_mem _ mfX0_70)
  have k98 := hts _ (List.mem_cons_of_mem _ mfX0_98)
  have k112 := hts _ (List.mem_cons_of_mem _ mfX0_112)
  have k115 := hts _ (List.mem_cons_of_mem _ mfX0_115)
  have k124 := hts _ (List.mem_cons_of_mem _ mfX0_124)
  obtain ⟨⟨o1, o2⟩, o3, ⟨o4, o5⟩, o6, ⟨o7, o8, o9⟩, o10, o11, o12, o13, o14⟩ := id hok
  refine lv_iload_n hx hb dX0_about_0 rfl (lv_at hl 1 rfl) ?_
  rcases sq_sw7 w with (rfl | rfl | rfl | rfl | rfl | rfl | rfl) | hw9
  · refine lv_tableIn (tgt := 44) hx hb dX0_about_1 (by decide) (by decide) rfl (by decide) ?_
    have hkk : sq_kA 0 = 0 := by unfold sq_kA; rw [if_neg (by decide)]
    refine lv_aload_n hx hb dX0_about_44 rfl (lv_at hl 0 rfl) ?_
    refine va_get (D := (dC, dI)) (ci := 0) (v := .int (nI (st.2 1))) (C := RX0) (T := TX0) (N := 20) hx hb hts hin hown hK hP 0 rfl rfl 12 (by decide) k70 (fun _ h9 => h9) rfl dX0_about_45 ?_
    exact hend _ _ _ _ _ hkk (by unfold sq_rA; rw [if_pos rfl]) hP hD hS dX0_about_48
  · refine lv_tableIn (tgt := 49) hx hb dX0_about_1 (by decide) (by decide) rfl (by decide) ?_
    have hkk : sq_kA 1 = 0 := by unfold sq_kA; rw [if_neg (by decide)]
    refine lv_aload_n hx hb dX0_about_49 rfl (lv_at hl 0 rfl) ?_
    refine va_get (D := (dC, dI)) (ci := 0) (v := .int (nI (st.2 5))) (C := RX0) (T := TX0) (N := 20) hx hb hts hin hown hK hP 0 rfl rfl 16 (by decide) k64 (fun _ h9 => h9) rfl dX0_about_50 ?_
    refine lv_aload_n hx hb dX0_about_53 rfl (lv_at hl 0 rfl) ?_
    refine va_get (D := (dC, dI)) (ci := 0) (v := .int (nI (st.2 6))) (C := RX0) (T := TX0) (N := 20) hx hb hts hin hown hK hP 0 rfl rfl 17 (by decide) k98 (fun _ h9 => h9) rfl dX0_about_54 ?_
    refine sq_isub hx hb (by omega) dX0_about_57 ?_
    exact hend _ _ _ _ _ hkk (by unfold sq_rA; rw [if_neg (by decide), if_pos rfl]) hP hD hS dX0_about_58
  · refine lv_tableIn (tgt := 59) hx hb dX0_about_1 (by decide) (by decide) rfl (by decide) ?_
    have hkk : sq_kA 2 = 0 := by unfold sq_kA; rw [if_neg (by decide)]
    refine lv_aload_n hx hb dX0_about_59 rfl (lv_at hl 0 rfl) ?_
    refine va_get (D := (dC, dI)) (ci := 0) (v := .int (nI (st.2 2))) (C := RX0) (T := TX0) (N := 20) hx hb hts hin hown hK hP 0 rfl rfl 13 (by decide) k55 (fun _ h9 => h9) rfl dX0_about_60 ?_
    refine lv_aload_n hx hb dX0_about_63 rfl (lv_at hl 0 rfl) ?_
    refine va_get (D := (dC, dI)) (ci := 0) (v := .int (nI (st.2 3))) (C := RX0) (T := TX0) (N := 20) hx hb hts hin hown hK hP 0 rfl rfl 14 (by decide) k112 (fun _ h9 => h9) rfl dX0_about_64 ?_
    refine sq_isub hx hb (by omega) dX0_about_67 ?_
    exact hend _ _ _ _ _ hkk (by unfold sq_rA; rw [if_neg (by decide), if_neg (by decide), if_pos rfl]) hP hD hS dX0_about_68
  · refine lv_tableIn (tgt := 69) hx hb dX0_about_1 (by decide) (by decide) rfl (by decide) ?_
    have hkk : sq_kA 3 = 0 := by unfold sq_kA; rw [if_neg (by decide)]
    refine lv_aload_n hx hb dX0_about_69 rfl (lv_at hl 0 rfl) ?_
    refine va_get (D := (dC, dI)) (ci := 0) (v := .int (nI (st.2 7))) (C := RX0) (T := TX0) (N := 20) hx hb hts hin hown hK hP 0 rfl rfl 18 (by decide) k115 (fun _ h9 => h9) rfl dX0_about_70 ?_
    exact hend _ _ _ _ _ hkk (by unfold sq_rA; rw [if_neg (by decide), if_neg (by decide), if_neg (by decide), if_pos rfl]) hP hD hS dX0_about_73
  · refine lv_tableIn (tgt := 74) hx hb dX0_about_1 (by decide) (by decide) rfl (by decide) ?_
    have hkk : sq_kA 4 = 0 := by unfold sq_kA; rw [if_neg (by decide)]
    refine lv_aload_n hx hb dX0_about_74 rfl (lv_at hl 0 rfl) ?_
    refine sq_calli (As := []) (c_isSetComplete l dC dI h0 q cI cZ (st.1 0) (st.1 1) (st.1 2) (st.1 3) (st.1 4) (st.1 5) (st.1 6) (st.1 7) (st.1 8) (st.1 9) (st.1 10) (st.2 0) (st.2 1) (st.2 2) (st.2 3) (st.2 4) (st.2 5) (st.2 6) (st.2 7) (st.2 8) (by omega) (by omega)) ⟨hx, hb, hml, hown, hts⟩ (cwV 0 hts (sq_good gvX0_118) rfl rfl rfl (by decide +kernel) ⟨Nat.le_of_ble_eq_true rfl, Nat.le_of_ble_eq_true rfl⟩) hK hP hD hS hA rfl rfl rfl rfl hl.1 rfl (Nat.le_of_ble_eq_true rfl) dX0_about_75 ⟨Nat.zero_le _, Nat.zero_le _⟩ (fun H locs hP hD hS => ?_)
    refine lv_if_eq (tgt := 85) hx hb dX0_about_78 (by decide) (fun hf => ?_) (fun hf => ?_)
    · refine lv_iconst (v := nI 0) hx hb dX0_about_85 (by decide +kernel) ?_
      exact hend _ _ _ _ _ hkk (by unfold sq_rA; rw [if_neg (by decide), if_neg (by decide), if_neg (by decide), if_neg (by decide), if_pos rfl]; exact sq_bF (sq_b0d hf)) hP hD hS dX0_about_86
    · refine lv_iconst (v := nI 1) hx hb dX0_about_81 (by decide +kernel) ?_
      refine lv_goto (tgt := 86) hx hb dX0_about_82 (by decide) ?_
      exact hend _ _ _ _ _ hkk (by unfold sq_rA; rw [if_neg (by decide), if_neg (by decide), if_neg (by decide), if_neg (by decide), if_pos rfl]; exact sq_bT (sq_bnd hf)) hP hD hS dX0_about_86
  · refine lv_tableIn (tgt := 87) hx hb dX0_about_1 (by decide) (by decide) rfl (by decide) ?_
    have hkk : sq_kA 5 = 0 := by unfold sq_kA; rw [if_neg (by decide)]
    refine lv_aload_n hx hb dX0_about_87 rfl (lv_at hl 0 rfl) ?_
    refine sq_calli (As := []) (c_countReachedCells l dC dI h0 q cI cZ (st.1 0) (st.1 1) (st.1 2) (st.1 3) (st.1 4) (st.1 5) (st.1 6) (st.1 7) (st.1 8) (st.1 9) (st.1 10) (st.2 0) (st.2 1) (st.2 2) (st.2 3) (st.2 4) (st.2 5) (st.2 6) (st.2 7) (st.2 8) o1 o2) ⟨hx, hb, hml, hown, hts⟩ (cwV 0 hts (sq_good gvX0_121) rfl rfl rfl (by decide +kernel) ⟨Nat.le_of_ble_eq_true rfl, Nat.le_of_ble_eq_true rfl⟩) hK hP hD hS hA rfl rfl rfl rfl hl.1 rfl (Nat.le_of_ble_eq_true rfl) dX0_about_88 ⟨Nat.zero_le _, Nat.zero_le _⟩ (fun H locs hP hD hS => ?_)
    exact hend _ _ _ _ _ hkk (by unfold sq_rA; rw [if_neg (by decide), if_neg (by decide), if_neg (by decide), if_neg (by decide), if_neg (by decide), if_pos rfl]) hP hD hS dX0_about_91
  · refine lv_tableIn (tgt := 92) hx hb dX0_about_1 (by decide) (by decide) rfl (by decide) ?_
    have hkk : sq_kA 6 = 0 := by unfold sq_kA; rw [if_neg (by decide)]
    refine lv_aload_n hx hb dX0_about_92 rfl (lv_at hl 0 rfl) ?_
    refine va_get (D := (dC, dI)) (ci := 0) (v := .int (nI (st.2 0))) (C := RX0) (T := TX0) (N := 20) hx hb hts hin hown hK hP 0 rfl rfl 11 (by decide) k124 (fun _ h9 => h9) rfl dX0_about_93 ?_
    exact hend _ _ _ _ _ hkk (by unfold sq_rA; rw [if_neg (by decide), if_neg (by decide), if_neg (by decide), if_neg (by decide), if_neg (by decide), if_neg (by decide)]) hP hD hS dX0_about_96
  · refine lv_tableOut (tgt := 97) hx hb dX0_about_1 (sq_swOut (k := 6) (by decide) hw9) (by decide) ?_
    have hk9 : ¬ (sq_kA w) = 0 := (by unfold sq_kA; rw [if_pos hw9]; decide)
    have hE9 : "java/lang/IllegalArgumentException" = (fun _ => "java/lang/IllegalArgumentException") (sq_kA w) := rfl
    exact sq_thr (k := sq_kA w) (En := fun _ => "java/lang/IllegalArgumentException") (cls := "java/lang/IllegalArgumentException") (names := ["java/lang/RuntimeException", "java/lang/Exception"]) hQ hx hb hl9 hown (by decide +kernel) (by decide +kernel) (hts _ (List.mem_cons_of_mem _ mkX0_48)) (hts _ (List.mem_cons_of_mem _ mt_IllegalArgumentException)) (hZ.2.2.2.2.1 (127, "what is not 0 .. 6") (by decide)) (vx_hat (L := vx_atS RX0 52 "java/lang/IllegalArgumentException" ["java/lang/RuntimeException", "java/lang/Exception"]) (B := [.castable "java/lang/IllegalArgumentException" "java/lang/IllegalArgumentException", .declares ⟨"java/lang/RuntimeException", "<init>", "(Ljava/lang/String;)V"⟩, .declares ⟨"java/lang/Exception", "<init>", "(Ljava/lang/String;)V"⟩, .declares ⟨"java/lang/Throwable", "<init>", "(Ljava/lang/String;)V"⟩]) (fun w hw => hts w (List.mem_cons_of_mem _ (sq_inT (sq_ax52 w hw) (List.mem_filter.mp hw).2))) (by decide +kernel) (vx_c (va_Nw.use rfl (hZ.2.2.1 ("java/lang/IllegalArgumentException", "java/lang/IllegalArgumentException") (by decide))) (vx_c (va_Nw.use rfl (hZ.2.2.2.1 ⟨"java/lang/RuntimeException", "<init>", "(Ljava/lang/String;)V"⟩ (by decide))) (vx_c (va_Nw.use rfl (hZ.2.2.2.1 ⟨"java/lang/Exception", "<init>", "(Ljava/lang/String;)V"⟩ (by decide))) (vx_c (va_Nw.use rfl (hZ.2.2.2.1 ⟨"java/lang/Throwable", "<init>", "(Ljava/lang/String;)V"⟩ (by decide))) (vx_n)))))) (by decide +kernel) hZ hS (hl.1.trans hml.symm) dX0_about_97 dX0_about_100 dX0_about_101 dX0_about_103 dX0_about_106 hEx (Nat.le_of_ble_eq_true rfl) (Nat.le_of_ble_eq_true rfl) (Nat.le_of_ble_eq_true rfl) (Nat.le_of_ble_eq_true rfl) hlocks hP hK hD hk9 hE9
def rm_cycle : Room := { frames := 6, cells := 1, slots := 6, locals := 90 }
set_option maxHeartbeats 4000000 in
set_option maxRecDepth 100000 in
theorem c_cycle (l : Launch) (hl9 : l.stackTraces = false) (S : Nat → Nat) (dC : Nat → ClassId) (dI : Nat → Nat → Nat) (h0 : Nat) (q : Nat → Nat) (cI cZ : ClassId) (st : SqS) (x : Int32) (hok : sq_ok st) : sq_Xi sq_cC sq_cD RX0 sq_cS sq_cN S l yX0_cycle wsX0_cycle rm_cycle [.ref h0, .int x] (dC, dI) vwCl [(cI, .int), (cZ, .boolean)] (wX h0 q cI cZ (st.1 0) (st.1 1) (st.1 2) (st.1 3) (st.1 4) (st.1 5) (st.1 6) (st.1 7) (st.1 8) (st.1 9) (st.1 10) (st.2 0) (st.2 1) (st.2 2) (st.2 3) (st.2 4) (st.2 5) (st.2 6) (st.2 7) (st.2 8)) (wX h0 q cI cZ ((sq_cyc st (sq_vec x)).1 0) ((sq_cyc st (sq_vec x)).1 1) ((sq_cyc st (sq_vec x)).1 2) ((sq_cyc st (sq_vec x)).1 3) ((sq_cyc st (sq_vec x)).1 4) ((sq_cyc st (sq_vec x)).1 5) ((sq_cyc st (sq_vec x)).1 6) ((sq_cyc st (sq_vec x)).1 7) ((sq_cyc st (sq_vec x)).1 8) ((sq_cyc st (sq_vec x)).1 9) ((sq_cyc st (sq_vec x)).1 10) ((sq_cyc st (sq_vec x)).2 0) ((sq_cyc st (sq_vec x)).2 1) ((sq_cyc st (sq_vec x)).2 2) ((sq_cyc st (sq_vec x)).2 3) ((sq_cyc st (sq_vec x)).2 4) ((sq_cyc st (sq_vec x)).2 5) ((sq_cyc st (sq_vec x)).2 6) ((sq_cyc st (sq_vec x)).2 7) ((sq_cyc st (sq_vec x)).2 8)) (sq_kC st x) (fun _ => "java/lang/IllegalArgumentException") (nI (st.2 1 + sq_vec x)) := by
  refine sq_ofXi (cc := cX0_cycle) (maxL := 4) (by decide) rfl (Nat.le_of_ble_eq_true rfl) ?_
  intro p e s m args below meth c A ls Q hx hb hts hown hml hK hP hD hS hA hl hZ hlocks hEx hend hQ
  have hl : lv_has ls 4 [(0, .ref h0), (1, .int x)] := hl
  have hin : ∀ w ∈ u_ws RX0 TX0 20, w ∈ wsX0_cycle := fun w h => List.mem_cons_of_mem _ (inX0 w h)
  have k70 := hts _ (List.mem_cons_of_mem _ mfX0_70)
  obtain ⟨⟨o1, o2⟩, o3, ⟨o4, o5⟩, o6, ⟨o7, o8, o9⟩, o10, o11, o12, o13, o14⟩ := id hok
  refine lv_iload_n hx hb dX0_cycle_0 rfl (lv_at hl 1 rfl) ?_
  refine lv_if_lt (tgt := 15) hx hb dX0_cycle_1 (by decide) (fun hc => ?_) (fun hc => ?_)
  · have hk9 : ¬ (sq_kC st x) = 0 := (by unfold sq_kC; rw [if_pos (Or.inl hc)]; decide)
    have hE9 : "java/lang/IllegalArgumentException" = (fun _ => "java/lang/IllegalArgumentException") (sq_kC st x) := rfl
    exact sq_thr (k := sq_kC st x) (En := fun _ => "java/lang/IllegalArgumentException") (cls := "java/lang/IllegalArgumentException") (names := ["java/lang/RuntimeException", "java/lang/Exception"]) hQ hx hb hl9 hown (by decide +kernel) (by decide +kernel) (hts _ (List.mem_cons_of_mem _ mkX0_48)) (hts _ (List.mem_cons_of_mem _ mt_IllegalArgumentException)) (hZ.2.2.2.2.1 (73, "n is below 0 or too many cycles") (by decide)) (vx_hat (L := vx_atS RX0 52 "java/lang/IllegalArgumentException" ["java/lang/RuntimeException", "java/lang/Exception"]) (B := [.castable "java/lang/IllegalArgumentException" "java/lang/IllegalArgumentException", .declares ⟨"java/lang/RuntimeException", "<init>", "(Ljava/lang/String;)V"⟩, .declares ⟨"java/lang/Exception", "<init>", "(Ljava/lang/String;)V"⟩, .declares ⟨"java/lang/Throwable", "<init>", "(Ljava/lang/String;)V"⟩]) (fun w hw => hts w (List.mem_cons_of_mem _ (sq_inT (sq_ax52 w hw) (List.mem_filter.mp hw).2))) (by decide +kernel) (vx_c (va_Nw.use rfl (hZ.2.2.1 ("java/lang/IllegalArgumentException", "java/lang/IllegalArgumentException") (by decide))) (vx_c (va_Nw.use rfl (hZ.2.2.2.1 ⟨"java/lang/RuntimeException", "<init>", "(Ljava/lang/String;)V"⟩ (by decide))) (vx_c (va_Nw.use rfl (hZ.2.2.2.1 ⟨"java/lang/Exception", "<init>", "(Ljava/lang/String;)V"⟩ (by decide))) (vx_c (va_Nw.use rfl (hZ.2.2.2.1 ⟨"java/lang/Throwable", "<init>", "(Ljava/lang/String;)V"⟩ (by decide))) (vx_n)))))) (by decide +kernel) hZ hS (hl.1.trans hml.symm) dX0_cycle_15 dX0_cycle_18 dX0_cycle_19 dX0_cycle_21 dX0_cycle_24 hEx (Nat.le_of_ble_eq_true rfl) (Nat.le_of_ble_eq_true rfl) (Nat.le_of_ble_eq_true rfl) (Nat.le_of_ble_eq_true rfl) hlocks hP hK hD hk9 hE9
  · obtain ⟨n, hn, rfl⟩ := nI_of hc
    have e9 : sq_vec (nI n) = n := sq_vec_nI hn
    refine lv_iload_n hx hb dX0_cycle_4 rfl (lv_at hl 1 rfl) ?_
    refine lv_ldc (v := 100000) hx hb hown (hts _ (List.mem_cons_of_mem _ mnX0_69)) dX0_cycle_5 ?_
    refine sq_top (show (100000 : Int32) = nI 100000 by decide +kernel) ?_
    refine lv_aload_n hx hb dX0_cycle_7 rfl (lv_at hl 0 rfl) ?_
    refine va_get (D := (dC, dI)) (ci := 0) (v := .int (nI (st.2 1))) (C := RX0) (T := TX0) (N := 20) hx hb hts hin hown hK hP 0 rfl rfl 12 (by decide) k70 (fun _ h9 => h9) rfl dX0_cycle_8 ?_
    refine sq_isub hx hb (by omega) dX0_cycle_11 ?_
    refine sq_icmp_le (tgt := 25) hx hb (by omega) (by omega) dX0_cycle_12 (by decide) (fun hd => ?_) (fun hd => ?_)
    · have hk0 : sq_kC st (nI n) = 0 := by unfold sq_kC; rw [if_neg (fun h => h.elim hc (fun h => h (by rw [e9]; exact hd)))]
      rw [e9] at hend
      have T56 : ∀ (s1 : SqS) (H : Heap) (locs : List Loc) (ls : Array Slot), sq_t1 s1 (st.2 1 + n) = sq_cyc st n → va_P (dC, dI) vwCl (wX h0 q cI cZ (s1.1 0) (s1.1 1) (s1.1 2) (s1.1 3) (s1.1 4) (s1.1 5) (s1.1 6) (s1.1 7) (s1.1 8) (s1.1 9) (s1.1 10) (s1.2 0) (s1.2 1) (s1.2 2) (s1.2 3) (s1.2 4) (s1.2 5) (s1.2 6) (s1.2 7) (s1.2 8)) H → va_D A (wX h0 q cI cZ (s1.1 0) (s1.1 1) (s1.1 2) (s1.1 3) (s1.1 4) (s1.1 5) (s1.1 6) (s1.1 7) (s1.1 8) (s1.1 9) (s1.1 10) (s1.2 0) (s1.2 1) (s1.2 2) (s1.2 3) (s1.2 4) (s1.2 5) (s1.2 6) (s1.2 7) (s1.2 8)) → va_S A s.heap H locs → lv_has ls 4 [(2, .int (nI (st.2 1 + n))), (0, .ref h0)] → W p l e rm_cycle s m args below meth c H locs 0 0 Q (F0 m 56 ls []) := by
        intro s1 H locs ls he hP hD hS hl
        refine lv_aload_n hx hb dX0_cycle_56 rfl (lv_at hl 1 rfl) ?_
        refine lv_iload_n hx hb dX0_cycle_57 rfl (lv_at hl 0 rfl) ?_
        refine va_put (D := (dC, dI)) (ci := 0) (v := .int (nI (st.2 1 + n))) (ty := .int) (C := RX0) (T := TX0) (N := 20) hx hb hts hin tyX0 tyX0_ok nmX0 hown hK hP hD hS 0 rfl rfl 12 (by decide) k70 (fun _ h9 => h9) rfl (by decide +kernel) rfl rfl (Nat.le_of_ble_eq_true rfl) dX0_cycle_58 (fun H locs hP hD hS => ?_)
        have hP : va_P (dC, dI) vwCl (wX h0 q cI cZ (s1.1 0) (s1.1 1) (s1.1 2) (s1.1 3) (s1.1 4) (s1.1 5) (s1.1 6) (s1.1 7) (s1.1 8) (s1.1 9) (s1.1 10) (s1.2 0) (st.2 1 + n) (s1.2 2) (s1.2 3) (s1.2 4) (s1.2 5) (s1.2 6) (s1.2 7) (s1.2 8)) H := hP
        have hD : va_D A (wX h0 q cI cZ (s1.1 0) (s1.1 1) (s1.1 2) (s1.1 3) (s1.1 4) (s1.1 5) (s1.1 6) (s1.1 7) (s1.1 8) (s1.1 9) (s1.1 10) (s1.2 0) (st.2 1 + n) (s1.2 2) (s1.2 3) (s1.2 4) (s1.2 5) (s1.2 6) (s1.2 7) (s1.2 8)) := hD
        refine lv_iload_n hx hb dX0_cycle_61 rfl (lv_at hl 0 rfl) ?_
        have hP : va_P (dC, dI) vwCl (wX h0 q cI cZ ((sq_t1 s1 (st.2 1 + n)).1 0) ((sq_t1 s1 (st.2 1 + n)).1 1) ((sq_t1 s1 (st.2 1 + n)).1 2) ((sq_t1 s1 (st.2 1 + n)).1 3) ((sq_t1 s1 (st.2 1 + n)).1 4) ((sq_t1 s1 (st.2 1 + n)).1 5) ((sq_t1 s1 (st.2 1 + n)).1 6) ((sq_t1 s1 (st.2 1 + n)).1 7) ((sq_t1 s1 (st.2 1 + n)).1 8) ((sq_t1 s1 (st.2 1 + n)).1 9) ((sq_t1 s1 (st.2 1 + n)).1 10) ((sq_t1 s1 (st.2 1 + n)).2 0) ((sq_t1 s1 (st.2 1 + n)).2 1) ((sq_t1 s1 (st.2 1 + n)).2 2) ((sq_t1 s1 (st.2 1 + n)).2 3) ((sq_t1 s1 (st.2 1 + n)).2 4) ((sq_t1 s1 (st.2 1 + n)).2 5) ((sq_t1 s1 (st.2 1 + n)).2 6) ((sq_t1 s1 (st.2 1 + n)).2 7) ((sq_t1 s1 (st.2 1 + n)).2 8)) H := hP
        have hD : va_D A (wX h0 q cI cZ ((sq_t1 s1 (st.2 1 + n)).1 0) ((sq_t1 s1 (st.2 1 + n)).1 1) ((sq_t1 s1 (st.2 1 + n)).1 2) ((sq_t1 s1 (st.2 1 + n)).1 3) ((sq_t1 s1 (st.2 1 + n)).1 4) ((sq_t1 s1 (st.2 1 + n)).1 5) ((sq_t1 s1 (st.2 1 + n)).1 6) ((sq_t1 s1 (st.2 1 + n)).1 7) ((sq_t1 s1 (st.2 1 + n)).1 8) ((sq_t1 s1 (st.2 1 + n)).1 9) ((sq_t1 s1 (st.2 1 + n)).1 10) ((sq_t1 s1 (st.2 1 + n)).2 0) ((sq_t1 s1 (st.2 1 + n)).2 1) ((sq_t1 s1 (st.2 1 + n)).2 2) ((sq_t1 s1 (st.2 1 + n)).2 3) ((sq_t1 s1 (st.2 1 + n)).2 4) ((sq_t1 s1 (st.2 1 + n)).2 5) ((sq_t1 s1 (st.2 1 + n)).2 6) ((sq_t1 s1 (st.2 1 + n)).2 7) ((sq_t1 s1 (st.2 1 + n)).2 8)) := hD
        rw [he] at hP hD
        exact hend _ _ _ _ _ hk0 rfl hP hD hS dX0_cycle_62
      have L1 : ∀ j i : Nat, i + j = n → ∀ (s1 : SqS) (H : Heap) (locs : List Loc) (ls : Array Slot), sq_ok s1 → s1.2 1 + j ≤ 100000 → sq_t1 (sq_loop j s1) (st.2 1 + n) = sq_cyc st n → va_P (dC, dI) vwCl (wX h0 q cI cZ (s1.1 0) (s1.1 1) (s1.1 2) (s1.1 3) (s1.1 4) (s1.1 5) (s1.1 6) (s1.1 7) (s1.1 8) (s1.1 9) (s1.1 10) (s1.2 0) (s1.2 1) (s1.2 2) (s1.2 3) (s1.2 4) (s1.2 5) (s1.2 6) (s1.2 7) (s1.2 8)) H → va_D A (wX h0 q cI cZ (s1.1 0) (s1.1 1) (s1.1 2) (s1.1 3) (s1.1 4) (s1.1 5) (s1.1 6) (s1.1 7) (s1.1 8) (s1.1 9) (s1.1 10) (s1.2 0) (s1.2 1) (s1.2 2) (s1.2 3) (s1.2 4) (s1.2 5) (s1.2 6) (s1.2 7) (s1.2 8)) → va_S A s.heap H locs → lv_has ls 4 [(3, .int (nI i)), (2, .int (nI (st.2 1 + n))), (0, .ref h0), (1, .int (nI n))] → W p l e rm_cycle s m args below meth c H locs 0 0 Q (F0 m 34 ls []) := by
        intro j
        induction j using Nat.strongRecOn with
        | _ j ih =>
          intro i hi s1 H locs ls hok1 ht he hP hD hS hl
          obtain ⟨⟨p1, p2⟩, p3, ⟨p4, p5⟩, p6, ⟨p7, p8, p9⟩, p10, p11, p12, p13, p14⟩ := id hok1
          refine lv_iload_n hx hb dX0_cycle_34 rfl (lv_at hl 0 rfl) ?_
          refine lv_iload_n hx hb dX0_cycle_35 rfl (lv_at hl 3 rfl) ?_
          refine sq_icmp_ge (tgt := 56) hx hb (by omega) (by omega) dX0_cycle_36 (by decide) (fun he1 => ?_) (fun he1 => ?_)
          · have ej : j = 0 := by omega
            subst ej
            exact T56 s1 H locs ls he hP hD hS (lv_sub hl [1, 2] rfl)
          · obtain ⟨j1, rfl⟩ : ∃ j1, j = j1 + 1 := ⟨j - 1, by omega⟩
            refine lv_aload_n hx hb dX0_cycle_39 rfl (lv_at hl 2 rfl) ?_
            refine sq_calli (As := []) (c_isAtRest l dC dI h0 q cI cZ (s1.1 0) (s1.1 1) (s1.1 2) (s1.1 3) (s1.1 4) (s1.1 5) (s1.1 6) (s1.1 7) (s1.1 8) (s1.1 9) (s1.1 10) (s1.2 0) (s1.2 1) (s1.2 2) (s1.2 3) (s1.2 4) (s1.2 5) (s1.2 6) (s1.2 7) (s1.2 8) p1 p2 (by omega) (by omega) (by omega) p7 (by omega) (by omega) p10 p3) ⟨hx, hb, hml, hown, hts⟩ (cwV 0 hts (sq_good gvX0_75) rfl rfl rfl (by decide +kernel) ⟨Nat.le_of_ble_eq_true rfl, Nat.le_of_ble_eq_true rfl⟩) hK hP hD hS hA rfl rfl rfl rfl hl.1 rfl (Nat.le_of_ble_eq_true rfl) dX0_cycle_40 ⟨Nat.zero_le _, Nat.zero_le _⟩ (fun H locs hP hD hS => ?_)
            refine lv_if_ne (tgt := 56) hx hb dX0_cycle_43 (by decide) (fun hf => ?_) (fun hf => ?_)
            · have hf2 : sq_at s1 = true := sq_bn0.mp hf
              rw [show sq_loop (j1 + 1) s1 = if sq_at s1 = true then s1 else sq_loop j1 (sq_run s1) from rfl, if_pos hf2] at he
              exact T56 s1 H locs ls he hP hD hS (lv_sub hl [1, 2] rfl)
            · have hf2 : sq_at s1 = false := sq_b0.mp hf
              rw [show sq_loop (j1 + 1) s1 = if sq_at s1 = true then s1 else sq_loop j1 (sq_run s1) from rfl, if_neg (by rw [hf2]; decide)] at he
              refine lv_aload_n hx hb dX0_cycle_46 rfl (lv_at hl 2 rfl) ?_
              refine sq_callv (As := []) (c_runCycle l dC dI h0 q cI cZ s1 hok1 (by omega)) ⟨hx, hb, hml, hown, hts⟩ (cwV 0 hts (sq_good gvX0_79) rfl rfl rfl (by decide +kernel) ⟨Nat.le_of_ble_eq_true rfl, Nat.le_of_ble_eq_true rfl⟩) hK hP hD hS hA rfl rfl rfl rfl hl.1 rfl (Nat.le_of_ble_eq_true rfl) dX0_cycle_47 ⟨Nat.zero_le _, Nat.zero_le _⟩ (fun H locs hP hD hS => ?_)
              have hP : va_P (dC, dI) vwCl (wX h0 q cI cZ ((sq_run s1).1 0) ((sq_run s1).1 1) ((sq_run s1).1 2) ((sq_run s1).1 3) ((sq_run s1).1 4) ((sq_run s1).1 5) ((sq_run s1).1 6) ((sq_run s1).1 7) ((sq_run s1).1 8) ((sq_run s1).1 9) ((sq_run s1).1 10) ((sq_run s1).2 0) ((sq_run s1).2 1) ((sq_run s1).2 2) ((sq_run s1).2 3) ((sq_run s1).2 4) ((sq_run s1).2 5) ((sq_run s1).2 6) ((sq_run s1).2 7) ((sq_run s1).2 8)) H := hP
              have hD : va_D A (wX h0 q cI cZ ((sq_run s1).1 0) ((sq_run s1).1 1) ((sq_run s1).1 2) ((sq_run s1).1 3) ((sq_run s1).1 4) ((sq_run s1).1 5) ((sq_run s1).1 6) ((sq_run s1).1 7) ((sq_run s1).1 8) ((sq_run s1).1 9) ((sq_run s1).1 10) ((sq_run s1).2 0) ((sq_run s1).2 1) ((sq_run s1).2 2) ((sq_run s1).2 3) ((sq_run s1).2 4) ((sq_run s1).2 5) ((sq_run s1).2 6) ((sq_run s1).2 7) ((sq_run s1).2 8)) := hD
              refine lv_iinc (v := nI (i + 1)) (lv' := [(3, .int (nI (i + 1))), (2, .int (nI (st.2 1 + n))), (0, .ref h0), (1, .int (nI n))]) hx hb dX0_cycle_50 hl (k := 0) rfl (sq_inc _) (by decide) rfl (fun ls hl => ?_)
              refine lv_goto (tgt := 34) hx hb dX0_cycle_53 (by decide) ?_
              exact ih j1 (by omega) (i + 1) (by omega) (sq_run s1) H locs ls (sq_ok_run hok1 (by omega)) (by rw [sq_run_1]; omega) he hP hD hS hl
      refine lv_aload_n hx hb dX0_cycle_25 rfl (lv_at hl 0 rfl) ?_
      refine va_get (D := (dC, dI)) (ci := 0) (v := .int (nI (st.2 1))) (C := RX0) (T := TX0) (N := 20) hx hb hts hin hown hK hP 0 rfl rfl 12 (by decide) k70 (fun _ h9 => h9) rfl dX0_cycle_26 ?_
      refine lv_iload_n hx hb dX0_cycle_29 rfl (lv_at hl 1 rfl) ?_
      refine sq_iadd hx hb dX0_cycle_30 ?_
      refine lv_istore_n (lv' := [(2, .int (nI ((st.2 1) + n))), (0, .ref h0), (1, .int (nI n))]) hx hb dX0_cycle_31 rfl hl (by decide) rfl (fun ls hl => ?_)
      refine lv_iconst (v := nI 0) hx hb dX0_cycle_32 (by decide +kernel) ?_
      refine lv_istore_n (lv' := [(3, .int (nI 0)), (2, .int (nI ((st.2 1) + n))), (0, .ref h0), (1, .int (nI n))]) hx hb dX0_cycle_33 rfl hl (by decide) rfl (fun ls hl => ?_)
      exact L1 n 0 (by omega) st _ _ ls hok (by omega) rfl hP hD hS (lv_sub hl [0, 1, 2, 3] rfl)
    · have hk9 : ¬ (sq_kC st (nI n)) = 0 := (by unfold sq_kC; rw [if_pos (Or.inr (by rw [e9]; omega))]; decide)
      have hE9 : "java/lang/IllegalArgumentException" = (fun _ => "java/lang/IllegalArgumentException") (sq_kC st (nI n)) := rfl
      exact sq_thr (k := sq_kC st (nI n)) (En := fun _ => "java/lang/IllegalArgumentException") (cls := "java/lang/IllegalArgumentException") (names := ["java/lang/RuntimeException", "java/lang/Exception"]) hQ hx hb hl9 hown (by decide +kernel) (by decide +kernel) (hts _ (List.mem_cons_of_mem _ mkX0_48)) (hts _ (List.mem_cons_of_mem _ mt_IllegalArgumentException)) (hZ.2.2.2.2.1 (73, "n is below 0 or too many cycles") (by decide)) (vx_hat (L := vx_atS RX0 52 "java/lang/IllegalArgumentException" ["java/lang/RuntimeException", "java/lang/Exception"]) (B := [.castable "java/lang/IllegalArgumentException" "java/lang/IllegalArgumentException", .declares ⟨"java/lang/RuntimeException", "<init>", "(Ljava/lang/String;)V"⟩, .declares ⟨"java/lang/Exception", "<init>", "(Ljava/lang/String;)V"⟩, .declares ⟨"java/lang/Throwable", "<init>", "(Ljava/lang/String;)V"⟩]) (fun w hw => hts w (List.mem_cons_of_mem _ (sq_inT (sq_ax52 w hw) (List.mem_filter.mp hw).2))) (by decide +kernel) (vx_c (va_Nw.use rfl (hZ.2.2.1 ("java/lang/IllegalArgumentException", "java/lang/IllegalArgumentException") (by decide))) (vx_c (va_Nw.use rfl (hZ.2.2.2.1 ⟨"java/lang/RuntimeException", "<init>", "(Ljava/lang/String;)V"⟩ (by decide))) (vx_c (va_Nw.use rfl (hZ.2.2.2.1 ⟨"java/lang/Exception", "<init>", "(Ljava/lang/String;)V"⟩ (by decide))) (vx_c (va_Nw.use rfl (hZ.2.2.2.1 ⟨"java/lang/Throwable", "<init>", "(Ljava/lang/String;)V"⟩ (by decide))) (vx_n)))))) (by decide +kernel) hZ hS (hl.1.trans hml.symm) dX0_cycle_15 dX0_cycle_18 dX0_cycle_19 dX0_cycle_21 dX0_cycle_24 hEx (Nat.le_of_ble_eq_true rfl) (Nat.le_of_ble_eq_true rfl) (Nat.le_of_ble_eq_true rfl) (Nat.le_of_ble_eq_true rfl) hlocks hP hK hD hk9 hE9
end
section
section SqMRows
variable {p : Program} {l : Launch} {e : Env} {R : Room} {s : State} {m : MethodId} {args : Array Value} {below : List Frame} {meth : Method} {c : Code} {H : Heap} {locs : List Loc} {cells slots : Nat} {Q : State → Prop} {cc : ByteArray} {pc : Nat} {ls : Array Slot} {rest : List Value}
theorem sq_imulc (hx : p.tables.exec = Jvm.exec) (hb : c.code = cc) {a b : Nat} (hd : decode cc pc = .ok (.imul, 1)) (k : W p l e R s m args below meth c H locs cells slots Q (F0 m (pc + 1) ls (.int (nI (b * a)) :: rest))) : W p l e R s m args below meth c H locs cells slots Q (F0 m pc ls (.int (nI b) :: .int (nI a) :: rest)) :=
  lv_imul hx hb hd (by rw [pk_mul, Nat.mul_comm]; exact k)
theorem sq_irem (hx : p.tables.exec = Jvm.exec) (hb : c.code = cc) {a b : Nat} (ha : a < 2 ^ 31) (h0 : 0 < b) (hbb : b < 2 ^ 31) (hd : decode cc pc = .ok (.irem, 1)) (k : W p l e R s m args below meth c H locs cells slots Q (F0 m (pc + 1) ls (.int (nI (a % b)) :: rest))) : W p l e R s m args below meth c H locs cells slots Q (F0 m pc ls (.int (nI b) :: .int (nI a) :: rest)) :=
  lv_irem hx hb hd (nI_ne0 h0 hbb) (by rw [pk_rem ha h0 hbb]; exact k)
variable {D : va_G} {cl : List vw_C} {ws w' : va_W} {tys : List (ClassId × FieldType)} {A : Nat → Prop}
variable {y : MethodName} {bytes : ByteArray} {maxL nL n index : Nat} {ret : Option FieldType} {wsy : List Cond} {rm : Room} {Ts : List Cond} {own : String} {As st0 : List Value}
theorem sq_if_ge (hx : p.tables.exec = Jvm.exec) (hb : c.code = cc) {a : Nat} {off : Int} {tgt : Nat} (ha : a < 2 ^ 31) (hd : decode cc pc = .ok (.ifCond .ge off, 3)) (ht : (pc : Int) + off = (tgt : Int))
    (kt : W p l e R s m args below meth c H locs cells slots Q (F0 m tgt ls rest)) : W p l e R s m args below meth c H locs cells slots Q (F0 m pc ls (.int (nI a) :: rest)) :=
  lv_if_ge hx hb hd ht (fun _ => kt) (fun h => absurd (nI_pos' ha) h)
theorem sq_if_gem1 (hx : p.tables.exec = Jvm.exec) (hb : c.code = cc) {off : Int} {tgt : Nat} (hd : decode cc pc = .ok (.ifCond .ge off, 3)) (ht : (pc : Int) + off = (tgt : Int))
    (kf : W p l e R s m args below meth c H locs cells slots Q (F0 m (pc + 3) ls rest)) : W p l e R s m args below meth c H locs cells slots Q (F0 m pc ls (.int (-1) :: rest)) :=
  lv_if_ge hx hb hd ht (fun h => absurd h (by decide)) (fun _ => kf)
theorem sq_callsi {r : Int32} (hM : sq_Mi l y wsy rm As D cl tys ws w' r) (S : CallFix p m c cc nL s args Ts own) (cw : CallB R s args own index y bytes maxL ret wsy rm 0 0 n ∧ (Cond.static y).before args s = true)
    (hK : va_K D cl tys s) (hP : va_P D cl ws H) (hD : va_D A ws) (hS : va_S A s.heap H locs) (hA : ∀ q : Nat, s.heap.size ≤ q → A q)
    (hn : As.length = n) (hsz : ls.size = nL) (hst : st0 = As.reverse ++ rest) (hW : (rest.map fun v => v.category).sum ≤ 8) (hdg : decode cc pc = .ok (.invokestatic index, 3)) (hf : cells ≤ R.cells ∧ slots ≤ R.slots)
    (kk : ∀ (H1 : Heap) (locs1 : List Loc), va_P D cl w' H1 → va_D A w' → va_S A s.heap H1 locs1 → W p l e R s m args below meth c H1 locs1 cells slots Q (F0 m (pc + 3) ls (.int r :: rest))) : W p l e R s m args below meth c H locs cells slots Q (F0 m pc ls st0) := by
  have hFc := va_free (wc := ws) hD hS hA (List.range ws.length) (sq_allC ws)
  refine va_calli (va_runS (As := As) (rest := rest) S (hM H.size) cw ⟨sq_blind, fun U hU hW => ⟨rfl, by rw [hU], by rw [hU]; exact hP, va_K.moved hW.alike hK, hD.weaken (fun _ _ _ _ => trivial)⟩⟩ rfl hn hsz hst (lv_room hW) hdg ⟨hf.1, hf.2⟩) hS (fun q _ h => hFc q h) hFc (fun r1 u t H1 locs ht hvm hw hB hz1 hk1 hS => ?_)
  obtain ⟨hP1, hK1, hD1⟩ := hB
  rw [ht] at hP1
  obtain ⟨hP2, hD2⟩ := va_join (wr := []) (w1 := w') hP hD (List.range ws.length) [] (sq_allC ws) rfl (by decide) (fun i h => by cases h) hk1 hFc hP1 hD1
  rw [hw]
  exact kk H1 locs hP2 hD2 hS
end SqMRows
/-- the cells of the reference -/
def wM (h0 : Nat) (q : Nat → Nat) (cI cZ : ClassId) (b0 b1 b2 b3 b4 b5 b6 b7 b8 b9 b10 b11 : Nat → Int32) (g0 g1 g2 g3 g4 g5 g6 g7 g8 g9 g10 : Nat) : va_W :=
  [(h0, .inr (1, [.int (nI g0), .int (nI g1), .int (nI g2), .int (nI g3), .int (nI g4), .int (nI g5), .int (nI g6), .ref (q 0), .int (nI g7), .int (nI g8), .int (nI g9), .int (nI g10), .ref (q 1), .ref (q 2), .ref (q 3), .ref (q 4), .ref (q 5), .ref (q 6), .ref (q 7), .ref (q 8), .ref (q 9), .ref (q 10), .ref (q 11)])), (q 0, .inl (cI, 720, .inl b0)), (q 1, .inl (cI, 1200, .inl b1)), (q 2, .inl (cZ, 200, .inl b2)), (q 3, .inl (cI, 200, .inl b3)), (q 4, .inl (cI, 1200, .inl b4)), (q 5, .inl (cI, 16, .inl b5)), (q 6, .inl (cI, 36, .inl b6)), (q 7, .inl (cI, 36, .inl b7)), (q 8, .inl (cI, 36, .inl b8)), (q 9, .inl (cI, 36, .inl b9)), (q 10, .inl (cZ, 36, .inl b10)), (q 11, .inl (cZ, 36, .inl b11))]
def sq_mm (b0 b1 b2 b3 b4 b5 b6 b7 b8 b9 b10 b11 : Nat → Int32) (g0 g1 g2 g3 g4 g5 g6 g7 g8 g9 g10 : Nat) : SqS := (fun k => match k with
  | 0 => b0
  | 1 => b1
  | 2 => b2
  | 3 => b3
  | 4 => b4
  | 5 => b5
  | 6 => b6
  | 7 => b7
  | 8 => b8
  | 9 => b9
  | 10 => b10
  | _ => b11, fun k => match k with
  | 0 => g0
  | 1 => g1
  | 2 => g2
  | 3 => g3
  | 4 => g4
  | 5 => g5
  | 6 => g6
  | 7 => g7
  | 8 => g8
  | 9 => g9
  | _ => g10)
def sq_rf (p t : Bool) : Nat := if p = true then 1 else if t = true then 2 else 0
theorem sq_rf_le (p t : Bool) : sq_rf p t ≤ 2 := by cases p <;> cases t <;> decide
def sq_mt (ms : SqS) (k : Nat) : SqS := sq_mm (ms.1 0) (ms.1 1) (ms.1 2) (ms.1 3) (ms.1 4) (ms.1 5) (ms.1 6) (ms.1 7) (ms.1 8) (ms.1 9) (ms.1 10) (ms.1 11) (k) (ms.2 1) (ms.2 2) (ms.2 3) (ms.2 4) (ms.2 5) (ms.2 6) (ms.2 7) (ms.2 8) (ms.2 9) (ms.2 10)
def sq_mclr (ms : SqS) (n : Nat) : SqS := sq_mm (ms.1 0) (ms.1 1) (ms.1 2) (ms.1 3) (ms.1 4) (sq_G (sq_dR 16) (fun _ => -1) (ms.1 5)) (sq_G (sq_dR 36) (fun _ => nI 0) (ms.1 6)) (sq_G (sq_dR 36) (fun _ => nI 0) (ms.1 7)) (sq_G (sq_dR 36) (fun _ => nI 0) (ms.1 8)) (sq_G (sq_dR 36) (fun _ => nI 0) (ms.1 9)) (sq_G (sq_dR 36) (fun _ => nI 0) (ms.1 10)) (sq_G (sq_dR 36) (fun _ => nI 0) (ms.1 11)) (ms.2 0) (n) (0) (0) (0) (0) (0) (0) (0) (0) (ms.2 10)
def sq_mw (ms : SqS) (x1 x2 x3 x4 x5 x6 : Int32) : SqS := sq_mm (sq_p6 (ms.1 0) (ms.2 3 * 6) x1 x2 x3 x4 x5 x6) (ms.1 1) (ms.1 2) (ms.1 3) (ms.1 4) (ms.1 5) (ms.1 6) (ms.1 7) (ms.1 8) (ms.1 9) (ms.1 10) (ms.1 11) (ms.2 0) (ms.2 1) (ms.2 2) (ms.2 3 + 1) (ms.2 4) (ms.2 5) (ms.2 6) (ms.2 7) (ms.2 8) (ms.2 9) (ms.2 10)
def sq_mv (ms : SqS) (b x1 x2 x3 x4 x5 x6 : Int32) : SqS := sq_mm (ms.1 0) (sq_p6 (ms.1 1) (ms.2 7 * 6) x1 x2 x3 x4 x5 x6) (upd (ms.1 2) (ms.2 7) b) (upd (ms.1 3) (ms.2 7) (-1)) (ms.1 4) (ms.1 5) (ms.1 6) (ms.1 7) (ms.1 8) (ms.1 9) (ms.1 10) (ms.1 11) (ms.2 0) (ms.2 1) (ms.2 2) (ms.2 3) (ms.2 4) (ms.2 5) (ms.2 6) (ms.2 7 + 1) (ms.2 8) (ms.2 9) (ms.2 10)
def sq_m1 (ms : SqS) : SqS := sq_mm (ms.1 0) (ms.1 1) (ms.1 2) (ms.1 3) (ms.1 4) (ms.1 5) (ms.1 6) (ms.1 7) (ms.1 8) (ms.1 9) (ms.1 10) (ms.1 11) (ms.2 0) (ms.2 1) (ms.2 2 + 1) (ms.2 3) (ms.2 4) (ms.2 5) (ms.2 6) (ms.2 7) (ms.2 8) (ms.2 9) (ms.2 10)
def sq_mcV (ms : SqS) : Bool := decide ((ms.2 8) < (ms.2 7) ∧ ((ms.1 2) (ms.2 8) = 0 ∨ ¬ (ms.2 6) = 0))
def sq_me (ms : SqS) : SqS := if sq_mcV ms = true then sq_mm (ms.1 0) (ms.1 1) (ms.1 2) (upd (ms.1 3) (ms.2 8) (nI (ms.2 2))) (ms.1 4) (upd (upd (ms.1 5) ((ms.2 2) % 16) (-1)) ((ms.2 2) % 16) (nI (ms.2 8))) (ms.1 6) (ms.1 7) (ms.1 8) (ms.1 9) (ms.1 10) (ms.1 11) (ms.2 0) (ms.2 1) (ms.2 2) (ms.2 3) (ms.2 4) (ms.2 5) (if (ms.1 2) (ms.2 8) = 0 then (ms.2 6) else 0) (ms.2 7) ((ms.2 8) + 1) (if (ms.1 2) (ms.2 8) = 0 then (ms.2 9) else (ms.2 9) + 1) (if (ms.1 2) (ms.2 8) = 0 then (ms.2 10) else (ms.2 2)) else sq_mm (ms.1 0) (ms.1 1) (ms.1 2) (ms.1 3) (ms.1 4) (upd (ms.1 5) ((ms.2 2) % 16) (-1)) (ms.1 6) (ms.1 7) (ms.1 8) (ms.1 9) (ms.1 10) (ms.1 11) (ms.2 0) (ms.2 1) (ms.2 2) (ms.2 3) (ms.2 4) (ms.2 5) (ms.2 6) (ms.2 7) (ms.2 8) (ms.2 9) (ms.2 10)
def sq_mcR (ms : SqS) : Bool := decide ((ms.2 4) < (ms.2 3) ∧ (ms.2 6) = 0 ∧ ((ms.2 9) = 0 ∨ 2 * (ms.2 1) - 2 < (ms.2 2) - (ms.2 10)))
def sq_ml (ms : SqS) : SqS := if sq_mcR ms = true then sq_mm (ms.1 0) (ms.1 1) (ms.1 2) (ms.1 3) (ms.1 4) (ms.1 5) (ms.1 6) (ms.1 7) (ms.1 8) (sq_G (sq_dR (ms.2 1)) (fun j => (ms.1 0) ((ms.2 4) * 6 + j)) (sq_G (sq_dL (ms.2 1) 0 0) (sq_dn6 (ms.1 9)) (ms.1 9))) (ms.1 10) (ms.1 11) (ms.2 0) (ms.2 1) (ms.2 2) (ms.2 3) ((ms.2 4) + 1) (if (ms.2 5) + 1 = (ms.2 1) then 0 else (ms.2 5) + 1) (if (ms.2 5) + 1 = (ms.2 1) then 1 else (ms.2 6)) (ms.2 7) (ms.2 8) (ms.2 9) (ms.2 10) else ms
/-- the vector that entered so many cycles ago, in the reference -/
def sq_mago (t : Nat) (rec : Nat → Int32) : Nat → Int32 := fun k => if k < t then rec ((t - k) % 16) else -1
def sq_mreal (ago : Nat → Int32) : Nat → Int32 := fun r => if ago r = -1 then 0 else 1
/-- the reference's order through the cells -/
def sq_dH (n r c : Nat) : Nat → Bool := fun j => decide (j / 6 < n ∧ j % 6 < n ∧ (j / 6 < r ∨ (j / 6 = r ∧ c ≤ j % 6)))
theorem sq_dH_step (n r c : Nat) (hn : n ≤ 6) (hr : r < n) (hc : c < n) : ∀ j, sq_dH n r c j = true ↔ (sq_dH n r (c + 1) j = true ∨ j = r * 6 + c) := by
  intro j; simp only [sq_dH, decide_eq_true_eq]; omega
theorem sq_dH_row (n r : Nat) : ∀ j, sq_dH n (r + 1) n j = true ↔ sq_dH n r 0 j = true := by
  intro j; simp only [sq_dH, decide_eq_true_eq]; omega
theorem sq_dH_top (n : Nat) : ∀ j, ¬ sq_dH n 0 n j = true := by
  intro j; simp only [sq_dH, decide_eq_true_eq]; omega
theorem sq_dH_left (n r c : Nat) (hc : 0 < c) (h6 : c < 6) : ¬ sq_dH n r (c + 1) (r * 6 + c - 1) = true := by
  simp only [sq_dH, decide_eq_true_eq]; omega
theorem sq_dH_all (n : Nat) : ∀ j, sq_dL n 0 n j = true ↔ sq_dH n n n j = true := by
  intro j; simp only [sq_dH, sq_dL, decide_eq_true_eq]; omega
theorem sq_dL_none (n : Nat) : ∀ j, ¬ sq_dL n n n j = true := by
  intro j; simp only [sq_dL, decide_eq_true_eq]; omega
theorem sq_dL_end (n : Nat) : ∀ j, ¬ sq_dL n n 0 j = true := by
  intro j; simp only [sq_dL, decide_eq_true_eq]; omega
theorem sq_dL_at (n r c : Nat) (h6 : c < 6) : ¬ sq_dL n r c (r * 6 + c) = true := by
  simp only [sq_dL, decide_eq_true_eq]; omega
theorem sq_dL_up (n r c : Nat) (hr : 0 < r) (h6 : c < 6) : ¬ sq_dL n r c (r * 6 + c - 6) = true := by
  simp only [sq_dL, decide_eq_true_eq]; omega
theorem sq_dH_in {n r c : Nat} (hn : n ≤ 6) (hr : r < n) (hc : c < n) : sq_dH n n n (r * 6 + c) = true := by
  simp only [sq_dH, decide_eq_true_eq]; omega
def sq_mg (ms : SqS) : SqS := sq_mm (ms.1 0) (ms.1 1) (ms.1 2) (ms.1 3) (sq_keep (ms.2 1) (sq_mago (ms.2 2) (ms.1 5)) (sq_G (sq_dH (ms.2 1) (ms.2 1) (ms.2 1)) (sq_gS (sq_mago (ms.2 2) (ms.1 5)) (ms.1 1) (ms.1 2) (ms.1 6) (ms.1 10) (ms.1 8) (ms.1 9) (ms.1 7)) (ms.1 7)) (ms.1 4) (ms.2 1)) (ms.1 5) (sq_G (sq_dH (ms.2 1) (ms.2 1) (ms.2 1)) (sq_gI (sq_mago (ms.2 2) (ms.1 5)) (ms.1 1) (ms.1 6)) (ms.1 6)) (sq_G (sq_dH (ms.2 1) (ms.2 1) (ms.2 1)) (sq_gS (sq_mago (ms.2 2) (ms.1 5)) (ms.1 1) (ms.1 2) (ms.1 6) (ms.1 10) (ms.1 8) (ms.1 9) (ms.1 7)) (ms.1 7)) (sq_G (sq_dH (ms.2 1) (ms.2 1) (ms.2 1)) (sq_gF (sq_mago (ms.2 2) (ms.1 5)) (ms.1 2) (ms.1 10) (ms.1 8) (ms.1 9)) (ms.1 8)) (ms.1 9) (sq_G (sq_dH (ms.2 1) (ms.2 1) (ms.2 1)) (sq_gM (sq_mago (ms.2 2) (ms.1 5)) (ms.1 2) (ms.1 10)) (ms.1 10)) (sq_G (sq_dH (ms.2 1) (ms.2 1) (ms.2 1)) (sq_nIn (ms.1 11) (sq_mreal (sq_mago (ms.2 2) (ms.1 5)))) (ms.1 11)) (ms.2 0) (ms.2 1) (ms.2 2) (ms.2 3) (ms.2 4) (ms.2 5) (ms.2 6) (ms.2 7) (ms.2 8) (ms.2 9) (ms.2 10)
def sq_mrun (ms : SqS) : SqS := sq_mg (sq_ml (sq_me (sq_m1 ms)))
def sq_mloop : Nat → SqS → SqS
  | 0, ms => ms
  | n + 1, ms => sq_mloop n (sq_mrun ms)
/-- what the reference's numbers keep to -/
def sq_mok (ms : SqS) : Prop := (1 ≤ ms.2 1 ∧ ms.2 1 ≤ 6) ∧ ms.2 2 ≤ 100000 ∧ (ms.2 3 ≤ 120 ∧ ms.2 4 ≤ ms.2 3) ∧ (ms.2 5 ≤ 6 ∧ ms.2 6 ≤ 1) ∧ (ms.2 7 ≤ 200 ∧ ms.2 8 ≤ ms.2 7 ∧ ms.2 9 ≤ ms.2 8) ∧ (¬ ms.2 9 = 0 → ms.2 10 ≤ ms.2 2) ∧ (∀ i, ms.1 5 i = -1 ∨ ∃ v : Nat, v < ms.2 8 ∧ ms.1 5 i = nI v) ∧ sq_01 (ms.1 2) ∧ sq_01 (ms.1 10) ∧ sq_01 (ms.1 11) ∧ (∀ v, v < ms.2 7 → ms.1 3 v = -1 ∨ ∃ e : Nat, e ≤ ms.2 2 ∧ ms.1 3 v = nI e)
end
section
def rmm_thrown : Room := { frames := 0, cells := 0, slots := 0, locals := 0 }
set_option maxHeartbeats 4000000 in
set_option maxRecDepth 100000 in
theorem k_thrown (l : Launch) (dC : Nat → ClassId) (dI : Nat → Nat → Nat) (h0 : Nat) (q : Nat → Nat) (cI cZ : ClassId) (ms : SqS)   : sq_Mi l yX1_thrown wsX1_thrown rmm_thrown [.ref h0] (dC, dI) vwCl [(cI, .int), (cZ, .boolean)] (wM h0 q cI cZ (ms.1 0) (ms.1 1) (ms.1 2) (ms.1 3) (ms.1 4) (ms.1 5) (ms.1 6) (ms.1 7) (ms.1 8) (ms.1 9) (ms.1 10) (ms.1 11) (ms.2 0) (ms.2 1) (ms.2 2) (ms.2 3) (ms.2 4) (ms.2 5) (ms.2 6) (ms.2 7) (ms.2 8) (ms.2 9) (ms.2 10)) (wM h0 q cI cZ (ms.1 0) (ms.1 1) (ms.1 2) (ms.1 3) (ms.1 4) (ms.1 5) (ms.1 6) (ms.1 7) (ms.1 8) (ms.1 9) (ms.1 10) (ms.1 11) (ms.2 0) (ms.2 1) (ms.2 2) (ms.2 3) (ms.2 4) (ms.2 5) (ms.2 6) (ms.2 7) (ms.2 8) (ms.2 9) (ms.2 10)) (nI (ms.2 0)) := by
  refine sq_ofWi (cc := cX1_thrown) (maxL := 1) (by decide) rfl (Nat.le_of_ble_eq_true rfl) (vp_nar_int _) ?_
  intro p e s m args below meth c A ls Q hx hb hts hown hml hK hP hD hS hA hl hend
  have hl : lv_has ls 1 [(0, .ref h0)] := hl
  have hin : ∀ w ∈ u_ws RX1 TX1 23, w ∈ wsX1_thrown := fun w h => List.mem_cons_of_mem _ (inX1 w h)
  have k54 := hts _ (List.mem_cons_of_mem _ mfX1_54)
  refine lv_aload_n hx hb dX1_thrown_0 rfl (lv_at hl 0 rfl) ?_
  refine va_get (D := (dC, dI)) (ci := 1) (v := .int (nI (ms.2 0))) (C := RX1) (T := TX1) (N := 23) hx hb hts hin hown hK hP 0 rfl rfl 0 (by decide) k54 (fun _ h9 => h9) rfl dX1_thrown_1 ?_
  exact hend _ _ _ _ _ rfl hP hD hS dX1_thrown_4
def rmm_refuse : Room := { frames := 0, cells := 0, slots := 0, locals := 0 }
set_option maxHeartbeats 4000000 in
set_option maxRecDepth 100000 in
theorem k_refuse (l : Launch) (dC : Nat → ClassId) (dI : Nat → Nat → Nat) (h0 : Nat) (q : Nat → Nat) (cI cZ : ClassId) (b0 b1 b2 b3 b4 b5 b6 b7 b8 b9 b10 b11 : Nat → Int32) (g0 g1 g2 g3 g4 g5 g6 g7 g8 g9 g10 : Nat) (p1 p2 : Bool)  : sq_Mi l yX1_refuse wsX1_refuse rmm_refuse [.ref h0, .int (sq_b p1), .int (sq_b p2)] (dC, dI) vwCl [(cI, .int), (cZ, .boolean)] (wM h0 q cI cZ b0 b1 b2 b3 b4 b5 b6 b7 b8 b9 b10 b11 g0 g1 g2 g3 g4 g5 g6 g7 g8 g9 g10) (wM h0 q cI cZ b0 b1 b2 b3 b4 b5 b6 b7 b8 b9 b10 b11 (sq_rf p1 p2) g1 g2 g3 g4 g5 g6 g7 g8 g9 g10) (sq_b (decide (0 < sq_rf p1 p2))) := by
  refine sq_ofWi (cc := cX1_refuse) (maxL := 3) (by decide) rfl (Nat.le_of_ble_eq_true rfl) (sq_b_narrow _) ?_
  intro p e s m args below meth c A ls Q hx hb hts hown hml hK hP hD hS hA hl hend
  have hl : lv_has ls 3 [(0, .ref h0), (1, .int (sq_b p1)), (2, .int (sq_b p2))] := hl
  have hin : ∀ w ∈ u_ws RX1 TX1 23, w ∈ wsX1_refuse := fun w h => List.mem_cons_of_mem _ (inX1 w h)
  have k54 := hts _ (List.mem_cons_of_mem _ mfX1_54)
  have r2 := sq_rf_le p1 p2
  refine lv_aload_n hx hb dX1_refuse_0 rfl (lv_at hl 0 rfl) ?_
  have T18 : ∀ (v : Nat) (H : Heap) (locs : List Loc) (ls : Array Slot), v = sq_rf p1 p2 → va_P (dC, dI) vwCl (wM h0 q cI cZ b0 b1 b2 b3 b4 b5 b6 b7 b8 b9 b10 b11 g0 g1 g2 g3 g4 g5 g6 g7 g8 g9 g10) H → va_D A (wM h0 q cI cZ b0 b1 b2 b3 b4 b5 b6 b7 b8 b9 b10 b11 g0 g1 g2 g3 g4 g5 g6 g7 g8 g9 g10) → va_S A s.heap H locs → lv_has ls 3 [(0, .ref h0), (1, .int (sq_b p1)), (2, .int (sq_b p2))] → W p l e rmm_refuse s m args below meth c H locs 0 0 Q (F0 m 18 ls [.int (nI v), .ref h0]) := by
    intro v H locs ls hpre hP hD hS hl
    subst hpre
    refine va_put (D := (dC, dI)) (ci := 1) (v := .int (nI (sq_rf p1 p2))) (ty := .int) (C := RX1) (T := TX1) (N := 23) hx hb hts hin tyX1 tyX1_ok nmX1 hown hK hP hD hS 0 rfl rfl 0 (by decide) k54 (fun _ h9 => h9) rfl (by decide +kernel) rfl rfl (Nat.le_of_ble_eq_true rfl) dX1_refuse_18 (fun H locs hP hD hS => ?_)
    have hP : va_P (dC, dI) vwCl (wM h0 q cI cZ b0 b1 b2 b3 b4 b5 b6 b7 b8 b9 b10 b11 (sq_rf p1 p2) g1 g2 g3 g4 g5 g6 g7 g8 g9 g10) H := hP
    have hD : va_D A (wM h0 q cI cZ b0 b1 b2 b3 b4 b5 b6 b7 b8 b9 b10 b11 (sq_rf p1 p2) g1 g2 g3 g4 g5 g6 g7 g8 g9 g10) := hD
    refine lv_aload_n hx hb dX1_refuse_21 rfl (lv_at hl 0 rfl) ?_
    refine va_get (D := (dC, dI)) (ci := 1) (v := .int (nI (sq_rf p1 p2))) (C := RX1) (T := TX1) (N := 23) hx hb hts hin hown hK hP 0 rfl rfl 0 (by decide) k54 (fun _ h9 => h9) rfl dX1_refuse_22 ?_
    refine sq_if_le (tgt := 32) hx hb (by omega) dX1_refuse_25 (by decide) (fun hc => ?_) (fun hc => ?_)
    · refine lv_iconst (v := nI 0) hx hb dX1_refuse_32 (by decide +kernel) ?_
      exact hend _ _ _ _ _ (sq_bF (by omega)) hP hD hS dX1_refuse_33
    · refine lv_iconst (v := nI 1) hx hb dX1_refuse_28 (by decide +kernel) ?_
      refine lv_goto (tgt := 33) hx hb dX1_refuse_29 (by decide) ?_
      exact hend _ _ _ _ _ (sq_bT hc) hP hD hS dX1_refuse_33
  refine lv_iload_n hx hb dX1_refuse_1 rfl (lv_at hl 1 rfl) ?_
  refine lv_if_eq (tgt := 9) hx hb dX1_refuse_2 (by decide) (fun hc => ?_) (fun hc => ?_)
  · refine lv_iload_n hx hb dX1_refuse_9 rfl (lv_at hl 2 rfl) ?_
    refine lv_if_eq (tgt := 17) hx hb dX1_refuse_10 (by decide) (fun hd => ?_) (fun hd => ?_)
    · refine lv_iconst (v := nI 0) hx hb dX1_refuse_17 (by decide +kernel) ?_
      exact T18 0 _ _ ls (by rw [sq_b0.mp hc, sq_b0.mp hd]; rfl) hP hD hS hl
    · refine lv_iconst (v := nI 2) hx hb dX1_refuse_13 (by decide +kernel) ?_
      refine lv_goto (tgt := 18) hx hb dX1_refuse_14 (by decide) ?_
      exact T18 2 _ _ ls (by rw [sq_b0.mp hc, sq_bn0.mp hd]; rfl) hP hD hS hl
  · refine lv_iconst (v := nI 1) hx hb dX1_refuse_5 (by decide +kernel) ?_
    refine lv_goto (tgt := 18) hx hb dX1_refuse_6 (by decide) ?_
    exact T18 1 _ _ ls (by rw [sq_bn0.mp hc]; rfl) hP hD hS hl
def rmm_in_ : Room := { frames := 0, cells := 0, slots := 0, locals := 0 }
def rmm_six : Room := { frames := 0, cells := 0, slots := 0, locals := 0 }
set_option maxHeartbeats 4000000 in
set_option maxRecDepth 100000 in
theorem k_in (l : Launch) (D : va_G) (cl : List vw_C) (tys : List (ClassId × FieldType)) (ws : va_W) (v lo hi : Int32) : sq_Mi l yX1_in_ wsX1_in_ rmm_in_ [.int v, .int lo, .int hi] D cl tys ws ws (sq_b (decide (¬ v < lo ∧ ¬ hi < v))) := by
  refine sq_ofWi (cc := cX1_in_) (maxL := 3) (by decide) rfl (Nat.le_of_ble_eq_true rfl) (sq_b_narrow _) ?_
  intro p e s m args below meth c A ls Q hx hb hts hown hml hK hP hD hS hA hl hend
  have hl : lv_has ls 3 [(0, .int v), (1, .int lo), (2, .int hi)] := hl
  refine lv_iload_n hx hb dX1_in__0 rfl (lv_at hl 0 rfl) ?_
  refine lv_iload_n hx hb dX1_in__1 rfl (lv_at hl 1 rfl) ?_
  refine lv_icmp_lt (tgt := 14) hx hb dX1_in__2 (by decide) (fun hc => ?_) (fun hc => ?_)
  · refine lv_iconst (v := nI 0) hx hb dX1_in__14 (by decide +kernel) ?_
    exact hend _ _ _ _ _ (sq_bF (fun h => h.1 hc)) hP hD hS dX1_in__15
  · refine lv_iload_n hx hb dX1_in__5 rfl (lv_at hl 0 rfl) ?_
    refine lv_iload_n hx hb dX1_in__6 rfl (lv_at hl 2 rfl) ?_
    refine lv_icmp_gt (tgt := 14) hx hb dX1_in__7 (by decide) (fun hd => ?_) (fun hd => ?_)
    · refine lv_iconst (v := nI 0) hx hb dX1_in__14 (by decide +kernel) ?_
      exact hend _ _ _ _ _ (sq_bF (fun h => h.2 hd)) hP hD hS dX1_in__15
    · refine lv_iconst (v := nI 1) hx hb dX1_in__10 (by decide +kernel) ?_
      refine lv_goto (tgt := 15) hx hb dX1_in__11 (by decide) ?_
      exact hend _ _ _ _ _ (sq_bT ⟨hc, hd⟩) hP hD hS dX1_in__15
set_option maxHeartbeats 4000000 in
set_option maxRecDepth 100000 in
theorem k_six (l : Launch) (D : va_G) (cl : List vw_C) (tys : List (ClassId × FieldType)) (ws : va_W) (k t0 a : Nat) (cI : ClassId) (n : Nat) (f : Nat → Int32) (i : Nat) (x1 x2 x3 x4 x5 x6 : Int32) (ha : ws[k]? = some (a, .inl (cI, n, .inl f))) (ht : tys[t0]? = some (cI, .int)) (hi : i + 5 < n) (hn : n < 2 ^ 31) : sq_Mv l yX1_six wsX1_six rmm_six [.ref a, .int (nI i), .int x1, .int x2, .int x3, .int x4, .int x5, .int x6] D cl tys ws (ws.set k (a, .inl (cI, n, .inl (sq_p6 f i x1 x2 x3 x4 x5 x6)))) := by
  refine sq_ofWv (cc := cX1_six) (maxL := 8) (by decide) rfl (Nat.le_of_ble_eq_true rfl) ?_
  intro p e s m args below meth c A ls Q hx hb hts hown hml hK hP hD hS hA hl hend
  have hl : lv_has ls 8 [(0, .ref a), (1, .int (nI i)), (2, .int x1), (3, .int x2), (4, .int x3), (5, .int x4), (6, .int x5), (7, .int x6)] := hl
  have hkl : k < ws.length := (List.getElem?_eq_some_iff.mp ha).1
  refine lv_aload_n hx hb dX1_six_0 rfl (lv_at hl 0 rfl) ?_
  refine lv_iload_n hx hb dX1_six_1 rfl (lv_at hl 1 rfl) ?_
  refine lv_iload_n hx hb dX1_six_2 rfl (lv_at hl 2 rfl) ?_
  refine sq_iast hx hb hK hP hD hS k t0 ha ht (i := i) (by omega) hn dX1_six_3 (fun H locs hP hD hS => ?_)
  refine lv_aload_n hx hb dX1_six_4 rfl (lv_at hl 0 rfl) ?_
  refine lv_iload_n hx hb dX1_six_5 rfl (lv_at hl 1 rfl) ?_
  refine lv_iconst (v := nI 1) hx hb dX1_six_6 (by decide +kernel) ?_
  refine sq_iadd hx hb dX1_six_7 ?_
  refine lv_iload_n hx hb dX1_six_8 rfl (lv_at hl 3 rfl) ?_
  refine sq_iast hx hb hK hP hD hS k t0 (List.getElem?_set_self hkl) ht (i := (i + 1)) (by omega) hn dX1_six_9 (fun H locs hP hD hS => ?_)
  rw [List.set_set] at hP hD
  refine lv_aload_n hx hb dX1_six_10 rfl (lv_at hl 0 rfl) ?_
  refine lv_iload_n hx hb dX1_six_11 rfl (lv_at hl 1 rfl) ?_
  refine lv_iconst (v := nI 2) hx hb dX1_six_12 (by decide +kernel) ?_
  refine sq_iadd hx hb dX1_six_13 ?_
  refine lv_iload hx hb dX1_six_14 (lv_at hl 4 rfl) ?_
  refine sq_iast hx hb hK hP hD hS k t0 (List.getElem?_set_self hkl) ht (i := (i + 2)) (by omega) hn dX1_six_16 (fun H locs hP hD hS => ?_)
  rw [List.set_set] at hP hD
  refine lv_aload_n hx hb dX1_six_17 rfl (lv_at hl 0 rfl) ?_
  refine lv_iload_n hx hb dX1_six_18 rfl (lv_at hl 1 rfl) ?_
  refine lv_iconst (v := nI 3) hx hb dX1_six_19 (by decide +kernel) ?_
  refine sq_iadd hx hb dX1_six_20 ?_
  refine lv_iload hx hb dX1_six_21 (lv_at hl 5 rfl) ?_
  refine sq_iast hx hb hK hP hD hS k t0 (List.getElem?_set_self hkl) ht (i := (i + 3)) (by omega) hn dX1_six_23 (fun H locs hP hD hS => ?_)
  rw [List.set_set] at hP hD
  refine lv_aload_n hx hb dX1_six_24 rfl (lv_at hl 0 rfl) ?_
  refine lv_iload_n hx hb dX1_six_25 rfl (lv_at hl 1 rfl) ?_
  refine lv_iconst (v := nI 4) hx hb dX1_six_26 (by decide +kernel) ?_
  refine sq_iadd hx hb dX1_six_27 ?_
  refine lv_iload hx hb dX1_six_28 (lv_at hl 6 rfl) ?_
  refine sq_iast hx hb hK hP hD hS k t0 (List.getElem?_set_self hkl) ht (i := (i + 4)) (by omega) hn dX1_six_30 (fun H locs hP hD hS => ?_)
  rw [List.set_set] at hP hD
  refine lv_aload_n hx hb dX1_six_31 rfl (lv_at hl 0 rfl) ?_
  refine lv_iload_n hx hb dX1_six_32 rfl (lv_at hl 1 rfl) ?_
  refine lv_iconst (v := nI 5) hx hb dX1_six_33 (by decide +kernel) ?_
  refine sq_iadd hx hb dX1_six_34 ?_
  refine lv_iload hx hb dX1_six_35 (lv_at hl 7 rfl) ?_
  refine sq_iast hx hb hK hP hD hS k t0 (List.getElem?_set_self hkl) ht (i := (i + 5)) (by omega) hn dX1_six_37 (fun H locs hP hD hS => ?_)
  rw [List.set_set] at hP hD
  exact hend _ _ _ _ hP hD hS dX1_six_38
def rmm_clear : Room := { frames := 0, cells := 0, slots := 0, locals := 0 }
set_option maxHeartbeats 4000000 in
set_option maxRecDepth 100000 in
theorem k_clear (l : Launch) (dC : Nat → ClassId) (dI : Nat → Nat → Nat) (h0 : Nat) (q : Nat → Nat) (cI cZ : ClassId) (ms : SqS)   : sq_Mv l yX1_clear wsX1_clear rmm_clear [.ref h0] (dC, dI) vwCl [(cI, .int), (cZ, .boolean)] (wM h0 q cI cZ (ms.1 0) (ms.1 1) (ms.1 2) (ms.1 3) (ms.1 4) (ms.1 5) (ms.1 6) (ms.1 7) (ms.1 8) (ms.1 9) (ms.1 10) (ms.1 11) (ms.2 0) (ms.2 1) (ms.2 2) (ms.2 3) (ms.2 4) (ms.2 5) (ms.2 6) (ms.2 7) (ms.2 8) (ms.2 9) (ms.2 10)) (wM h0 q cI cZ ((sq_mclr ms (ms.2 1)).1 0) ((sq_mclr ms (ms.2 1)).1 1) ((sq_mclr ms (ms.2 1)).1 2) ((sq_mclr ms (ms.2 1)).1 3) ((sq_mclr ms (ms.2 1)).1 4) ((sq_mclr ms (ms.2 1)).1 5) ((sq_mclr ms (ms.2 1)).1 6) ((sq_mclr ms (ms.2 1)).1 7) ((sq_mclr ms (ms.2 1)).1 8) ((sq_mclr ms (ms.2 1)).1 9) ((sq_mclr ms (ms.2 1)).1 10) ((sq_mclr ms (ms.2 1)).1 11) ((sq_mclr ms (ms.2 1)).2 0) ((sq_mclr ms (ms.2 1)).2 1) ((sq_mclr ms (ms.2 1)).2 2) ((sq_mclr ms (ms.2 1)).2 3) ((sq_mclr ms (ms.2 1)).2 4) ((sq_mclr ms (ms.2 1)).2 5) ((sq_mclr ms (ms.2 1)).2 6) ((sq_mclr ms (ms.2 1)).2 7) ((sq_mclr ms (ms.2 1)).2 8) ((sq_mclr ms (ms.2 1)).2 9) ((sq_mclr ms (ms.2 1)).2 10)) := by
  refine sq_ofWv (cc := cX1_clear) (maxL := 2) (by decide) rfl (Nat.le_of_ble_eq_true rfl) ?_
  intro p e s m args below meth c A ls Q hx hb hts hown hml hK hP hD hS hA hl hend
  have hl : lv_has ls 2 [(0, .ref h0)] := hl
  have hin : ∀ w ∈ u_ws RX1 TX1 23, w ∈ wsX1_clear := fun w h => List.mem_cons_of_mem _ (inX1 w h)
  have k30 := hts _ (List.mem_cons_of_mem _ mfX1_30)
  have k33 := hts _ (List.mem_cons_of_mem _ mfX1_33)
  have k36 := hts _ (List.mem_cons_of_mem _ mfX1_36)
  have k39 := hts _ (List.mem_cons_of_mem _ mfX1_39)
  have k42 := hts _ (List.mem_cons_of_mem _ mfX1_42)
  have k45 := hts _ (List.mem_cons_of_mem _ mfX1_45)
  have k48 := hts _ (List.mem_cons_of_mem _ mfX1_48)
  have k57 := hts _ (List.mem_cons_of_mem _ mfX1_57)
  have k60 := hts _ (List.mem_cons_of_mem _ mfX1_60)
  have k63 := hts _ (List.mem_cons_of_mem _ mfX1_63)
  have k66 := hts _ (List.mem_cons_of_mem _ mfX1_66)
  have k69 := hts _ (List.mem_cons_of_mem _ mfX1_69)
  have k73 := hts _ (List.mem_cons_of_mem _ mfX1_73)
  have k76 := hts _ (List.mem_cons_of_mem _ mfX1_76)
  have k79 := hts _ (List.mem_cons_of_mem _ mfX1_79)
  refine lv_aload_n hx hb dX1_clear_0 rfl (lv_at hl 0 rfl) ?_
  refine lv_iconst (v := nI 0) hx hb dX1_clear_1 (by decide +kernel) ?_
  refine va_put (D := (dC, dI)) (ci := 1) (v := .int (nI 0)) (ty := .int) (C := RX1) (T := TX1) (N := 23) hx hb hts hin tyX1 tyX1_ok nmX1 hown hK hP hD hS 0 rfl rfl 2 (by decide) k57 (fun _ h9 => h9) rfl (by decide +kernel) rfl rfl (Nat.le_of_ble_eq_true rfl) dX1_clear_2 (fun H locs hP hD hS => ?_)
  have hP : va_P (dC, dI) vwCl (wM h0 q cI cZ (ms.1 0) (ms.1 1) (ms.1 2) (ms.1 3) (ms.1 4) (ms.1 5) (ms.1 6) (ms.1 7) (ms.1 8) (ms.1 9) (ms.1 10) (ms.1 11) (ms.2 0) (ms.2 1) 0 (ms.2 3) (ms.2 4) (ms.2 5) (ms.2 6) (ms.2 7) (ms.2 8) (ms.2 9) (ms.2 10)) H := hP
  have hD : va_D A (wM h0 q cI cZ (ms.1 0) (ms.1 1) (ms.1 2) (ms.1 3) (ms.1 4) (ms.1 5) (ms.1 6) (ms.1 7) (ms.1 8) (ms.1 9) (ms.1 10) (ms.1 11) (ms.2 0) (ms.2 1) 0 (ms.2 3) (ms.2 4) (ms.2 5) (ms.2 6) (ms.2 7) (ms.2 8) (ms.2 9) (ms.2 10)) := hD
  refine lv_aload_n hx hb dX1_clear_5 rfl (lv_at hl 0 rfl) ?_
  refine lv_iconst (v := nI 0) hx hb dX1_clear_6 (by decide +kernel) ?_
  refine va_put (D := (dC, dI)) (ci := 1) (v := .int (nI 0)) (ty := .int) (C := RX1) (T := TX1) (N := 23) hx hb hts hin tyX1 tyX1_ok nmX1 hown hK hP hD hS 0 rfl rfl 3 (by decide) k60 (fun _ h9 => h9) rfl (by decide +kernel) rfl rfl (Nat.le_of_ble_eq_true rfl) dX1_clear_7 (fun H locs hP hD hS => ?_)
  have hP : va_P (dC, dI) vwCl (wM h0 q cI cZ (ms.1 0) (ms.1 1) (ms.1 2) (ms.1 3) (ms.1 4) (ms.1 5) (ms.1 6) (ms.1 7) (ms.1 8) (ms.1 9) (ms.1 10) (ms.1 11) (ms.2 0) (ms.2 1) 0 0 (ms.2 4) (ms.2 5) (ms.2 6) (ms.2 7) (ms.2 8) (ms.2 9) (ms.2 10)) H := hP
  have hD : va_D A (wM h0 q cI cZ (ms.1 0) (ms.1 1) (ms.1 2) (ms.1 3) (ms.1 4) (ms.1 5) (ms.1 6) (ms.1 7) (ms.1 8) (ms.1 9) (ms.1 10) (ms.1 11) (ms.2 0) (ms.2 1) 0 0 (ms.2 4) (ms.2 5) (ms.2 6) (ms.2 7) (ms.2 8) (ms.2 9) (ms.2 10)) := hD
  refine lv_aload_n hx hb dX1_clear_10 rfl (lv_at hl 0 rfl) ?_
  refine lv_iconst (v := nI 0) hx hb dX1_clear_11 (by decide +kernel) ?_
  refine va_put (D := (dC, dI)) (ci := 1) (v := .int (nI 0)) (ty := .int) (C := RX1) (T := TX1) (N := 23) hx hb hts hin tyX1 tyX1_ok nmX1 hown hK hP hD hS 0 rfl rfl 4 (by decide) k63 (fun _ h9 => h9) rfl (by decide +kernel) rfl rfl (Nat.le_of_ble_eq_true rfl) dX1_clear_12 (fun H locs hP hD hS => ?_)
  have hP : va_P (dC, dI) vwCl (wM h0 q cI cZ (ms.1 0) (ms.1 1) (ms.1 2) (ms.1 3) (ms.1 4) (ms.1 5) (ms.1 6) (ms.1 7) (ms.1 8) (ms.1 9) (ms.1 10) (ms.1 11) (ms.2 0) (ms.2 1) 0 0 0 (ms.2 5) (ms.2 6) (ms.2 7) (ms.2 8) (ms.2 9) (ms.2 10)) H := hP
  have hD : va_D A (wM h0 q cI cZ (ms.1 0) (ms.1 1) (ms.1 2) (ms.1 3) (ms.1 4) (ms.1 5) (ms.1 6) (ms.1 7) (ms.1 8) (ms.1 9) (ms.1 10) (ms.1 11) (ms.2 0) (ms.2 1) 0 0 0 (ms.2 5) (ms.2 6) (ms.2 7) (ms.2 8) (ms.2 9) (ms.2 10)) := hD
  refine lv_aload_n hx hb dX1_clear_15 rfl (lv_at hl 0 rfl) ?_
  refine lv_iconst (v := nI 0) hx hb dX1_clear_16 (by decide +kernel) ?_
  refine va_put (D := (dC, dI)) (ci := 1) (v := .int (nI 0)) (ty := .int) (C := RX1) (T := TX1) (N := 23) hx hb hts hin tyX1 tyX1_ok nmX1 hown hK hP hD hS 0 rfl rfl 5 (by decide) k66 (fun _ h9 => h9) rfl (by decide +kernel) rfl rfl (Nat.le_of_ble_eq_true rfl) dX1_clear_17 (fun H locs hP hD hS => ?_)
  have hP : va_P (dC, dI) vwCl (wM h0 q cI cZ (ms.1 0) (ms.1 1) (ms.1 2) (ms.1 3) (ms.1 4) (ms.1 5) (ms.1 6) (ms.1 7) (ms.1 8) (ms.1 9) (ms.1 10) (ms.1 11) (ms.2 0) (ms.2 1) 0 0 0 0 (ms.2 6) (ms.2 7) (ms.2 8) (ms.2 9) (ms.2 10)) H := hP
  have hD : va_D A (wM h0 q cI cZ (ms.1 0) (ms.1 1) (ms.1 2) (ms.1 3) (ms.1 4) (ms.1 5) (ms.1 6) (ms.1 7) (ms.1 8) (ms.1 9) (ms.1 10) (ms.1 11) (ms.2 0) (ms.2 1) 0 0 0 0 (ms.2 6) (ms.2 7) (ms.2 8) (ms.2 9) (ms.2 10)) := hD
  refine lv_aload_n hx hb dX1_clear_20 rfl (lv_at hl 0 rfl) ?_
  refine lv_iconst (v := nI 0) hx hb dX1_clear_21 (by decide +kernel) ?_
  refine va_put (D := (dC, dI)) (ci := 1) (v := .int (nI 0)) (ty := .boolean) (C := RX1) (T := TX1) (N := 23) hx hb hts hin tyX1 tyX1_ok nmX1 hown hK hP hD hS 0 rfl rfl 6 (by decide) k69 (fun _ h9 => h9) rfl (by decide +kernel) rfl rfl (Nat.le_of_ble_eq_true rfl) dX1_clear_22 (fun H locs hP hD hS => ?_)
  have hP : va_P (dC, dI) vwCl (wM h0 q cI cZ (ms.1 0) (ms.1 1) (ms.1 2) (ms.1 3) (ms.1 4) (ms.1 5) (ms.1 6) (ms.1 7) (ms.1 8) (ms.1 9) (ms.1 10) (ms.1 11) (ms.2 0) (ms.2 1) 0 0 0 0 0 (ms.2 7) (ms.2 8) (ms.2 9) (ms.2 10)) H := hP
  have hD : va_D A (wM h0 q cI cZ (ms.1 0) (ms.1 1) (ms.1 2) (ms.1 3) (ms.1 4) (ms.1 5) (ms.1 6) (ms.1 7) (ms.1 8) (ms.1 9) (ms.1 10) (ms.1 11) (ms.2 0) (ms.2 1) 0 0 0 0 0 (ms.2 7) (ms.2 8) (ms.2 9) (ms.2 10)) := hD
  refine lv_aload_n hx hb dX1_clear_25 rfl (lv_at hl 0 rfl) ?_
  refine lv_iconst (v := nI 0) hx hb dX1_clear_26 (by decide +kernel) ?_
  refine va_put (D := (dC, dI)) (ci := 1) (v := .int (nI 0)) (ty := .int) (C := RX1) (T := TX1) (N := 23) hx hb hts hin tyX1 tyX1_ok nmX1 hown hK hP hD hS 0 rfl rfl 8 (by decide) k73 (fun _ h9 => h9) rfl (by decide +kernel) rfl rfl (Nat.le_of_ble_eq_true rfl) dX1_clear_27 (fun H locs hP hD hS => ?_)
  have hP : va_P (dC, dI) vwCl (wM h0 q cI cZ (ms.1 0) (ms.1 1) (ms.1 2) (ms.1 3) (ms.1 4) (ms.1 5) (ms.1 6) (ms.1 7) (ms.1 8) (ms.1 9) (ms.1 10) (ms.1 11) (ms.2 0) (ms.2 1) 0 0 0 0 0 0 (ms.2 8) (ms.2 9) (ms.2 10)) H := hP
  have hD : va_D A (wM h0 q cI cZ (ms.1 0) (ms.1 1) (ms.1 2) (ms.1 3) (ms.1 4) (ms.1 5) (ms.1 6) (ms.1 7) (ms.1 8) (ms.1 9) (ms.1 10) (ms.1 11) (ms.2 0) (ms.2 1) 0 0 0 0 0 0 (ms.2 8) (ms.2 9) (ms.2 10)) := hD
  refine lv_aload_n hx hb dX1_clear_30 rfl (lv_at hl 0 rfl) ?_
  refine lv_iconst (v := nI 0) hx hb dX1_clear_31 (by decide +kernel) ?_
  refine va_put (D := (dC, dI)) (ci := 1) (v := .int (nI 0)) (ty := .int) (C := RX1) (T := TX1) (N := 23) hx hb hts hin tyX1 tyX1_ok nmX1 hown hK hP hD hS 0 rfl rfl 9 (by decide) k76 (fun _ h9 => h9) rfl (by decide +kernel) rfl rfl (Nat.le_of_ble_eq_true rfl) dX1_clear_32 (fun H locs hP hD hS => ?_)
  have hP : va_P (dC, dI) vwCl (wM h0 q cI cZ (ms.1 0) (ms.1 1) (ms.1 2) (ms.1 3) (ms.1 4) (ms.1 5) (ms.1 6) (ms.1 7) (ms.1 8) (ms.1 9) (ms.1 10) (ms.1 11) (ms.2 0) (ms.2 1) 0 0 0 0 0 0 0 (ms.2 9) (ms.2 10)) H := hP
  have hD : va_D A (wM h0 q cI cZ (ms.1 0) (ms.1 1) (ms.1 2) (ms.1 3) (ms.1 4) (ms.1 5) (ms.1 6) (ms.1 7) (ms.1 8) (ms.1 9) (ms.1 10) (ms.1 11) (ms.2 0) (ms.2 1) 0 0 0 0 0 0 0 (ms.2 9) (ms.2 10)) := hD
  refine lv_aload_n hx hb dX1_clear_35 rfl (lv_at hl 0 rfl) ?_
  refine lv_iconst (v := nI 0) hx hb dX1_clear_36 (by decide +kernel) ?_
  refine va_put (D := (dC, dI)) (ci := 1) (v := .int (nI 0)) (ty := .int) (C := RX1) (T := TX1) (N := 23) hx hb hts hin tyX1 tyX1_ok nmX1 hown hK hP hD hS 0 rfl rfl 10 (by decide) k79 (fun _ h9 => h9) rfl (by decide +kernel) rfl rfl (Nat.le_of_ble_eq_true rfl) dX1_clear_37 (fun H locs hP hD hS => ?_)
  have hP : va_P (dC, dI) vwCl (wM h0 q cI cZ (ms.1 0) (ms.1 1) (ms.1 2) (ms.1 3) (ms.1 4) (ms.1 5) (ms.1 6) (ms.1 7) (ms.1 8) (ms.1 9) (ms.1 10) (ms.1 11) (ms.2 0) (ms.2 1) 0 0 0 0 0 0 0 0 (ms.2 10)) H := hP
  have hD : va_D A (wM h0 q cI cZ (ms.1 0) (ms.1 1) (ms.1 2) (ms.1 3) (ms.1 4) (ms.1 5) (ms.1 6) (ms.1 7) (ms.1 8) (ms.1 9) (ms.1 10) (ms.1 11) (ms.2 0) (ms.2 1) 0 0 0 0 0 0 0 0 (ms.2 10)) := hD
  refine lv_iconst (v := nI 0) hx hb dX1_clear_40 (by decide +kernel) ?_
  refine lv_istore_n (lv' := [(1, .int (nI 0)), (0, .ref h0)]) hx hb dX1_clear_41 rfl hl (by decide) rfl (fun ls hl => ?_)
  have L2 : ∀ j t : Nat, t + j = 36 → ∀ (H : Heap) (locs : List Loc) (ls : Array Slot), va_P (dC, dI) vwCl (wM h0 q cI cZ (ms.1 0) (ms.1 1) (ms.1 2) (ms.1 3) (ms.1 4) (sq_G (sq_dR 16) (fun _ => -1) (ms.1 5)) (sq_G (sq_dR t) (fun _ => nI 0) (ms.1 6)) (sq_G (sq_dR t) (fun _ => nI 0) (ms.1 7)) (sq_G (sq_dR t) (fun _ => nI 0) (ms.1 8)) (sq_G (sq_dR t) (fun _ => nI 0) (ms.1 9)) (sq_G (sq_dR t) (fun _ => nI 0) (ms.1 10)) (sq_G (sq_dR t) (fun _ => nI 0) (ms.1 11)) (ms.2 0) (ms.2 1) 0 0 0 0 0 0 0 0 (ms.2 10)) H → va_D A (wM h0 q cI cZ (ms.1 0) (ms.1 1) (ms.1 2) (ms.1 3) (ms.1 4) (sq_G (sq_dR 16) (fun _ => -1) (ms.1 5)) (sq_G (sq_dR t) (fun _ => nI 0) (ms.1 6)) (sq_G (sq_dR t) (fun _ => nI 0) (ms.1 7)) (sq_G (sq_dR t) (fun _ => nI 0) (ms.1 8)) (sq_G (sq_dR t) (fun _ => nI 0) (ms.1 9)) (sq_G (sq_dR t) (fun _ => nI 0) (ms.1 10)) (sq_G (sq_dR t) (fun _ => nI 0) (ms.1 11)) (ms.2 0) (ms.2 1) 0 0 0 0 0 0 0 0 (ms.2 10)) → va_S A s.heap H locs → lv_has ls 2 [(1, .int (nI t)), (0, .ref h0)] → W p l e rmm_clear s m args below meth c H locs 0 0 Q (F0 m 63 ls []) := by
    intro j
    induction j using Nat.strongRecOn with
    | _ j ih =>
      intro t ht H locs ls hP hD hS hl
      refine lv_iload_n hx hb dX1_clear_63 rfl (lv_at hl 0 rfl) ?_
      refine lv_bipush (v := nI 36) hx hb dX1_clear_64 (by decide +kernel) ?_
      refine sq_icmp_ge (tgt := 117) hx hb (by omega) (by omega) dX1_clear_66 (by decide) (fun hc => ?_) (fun hc => ?_)
      · rw [show t = 36 by omega] at hP hD
        exact hend _ _ _ _ hP hD hS dX1_clear_117
      · refine lv_aload_n hx hb dX1_clear_69 rfl (lv_at hl 1 rfl) ?_
        refine va_get (D := (dC, dI)) (ci := 1) (v := .ref (q 6)) (C := RX1) (T := TX1) (N := 23) hx hb hts hin hown hK hP 0 rfl rfl 17 (by decide) k33 (fun _ h9 => h9) rfl dX1_clear_70 ?_
        refine lv_iload_n hx hb dX1_clear_73 rfl (lv_at hl 0 rfl) ?_
        refine lv_iconst (v := nI 0) hx hb dX1_clear_74 (by decide +kernel) ?_
        refine sq_iast hx hb hK hP hD hS 7 0 rfl rfl (i := t) (by omega) (by decide) dX1_clear_75 (fun H locs hP hD hS => ?_)
        have hP : va_P (dC, dI) vwCl (wM h0 q cI cZ (ms.1 0) (ms.1 1) (ms.1 2) (ms.1 3) (ms.1 4) (sq_G (sq_dR 16) (fun _ => -1) (ms.1 5)) (upd (sq_G (sq_dR t) (fun _ => nI 0) (ms.1 6)) t (nI 0)) (sq_G (sq_dR t) (fun _ => nI 0) (ms.1 7)) (sq_G (sq_dR t) (fun _ => nI 0) (ms.1 8)) (sq_G (sq_dR t) (fun _ => nI 0) (ms.1 9)) (sq_G (sq_dR t) (fun _ => nI 0) (ms.1 10)) (sq_G (sq_dR t) (fun _ => nI 0) (ms.1 11)) (ms.2 0) (ms.2 1) 0 0 0 0 0 0 0 0 (ms.2 10)) H := hP
        have hD : va_D A (wM h0 q cI cZ (ms.1 0) (ms.1 1) (ms.1 2) (ms.1 3) (ms.1 4) (sq_G (sq_dR 16) (fun _ => -1) (ms.1 5)) (upd (sq_G (sq_dR t) (fun _ => nI 0) (ms.1 6)) t (nI 0)) (sq_G (sq_dR t) (fun _ => nI 0) (ms.1 7)) (sq_G (sq_dR t) (fun _ => nI 0) (ms.1 8)) (sq_G (sq_dR t) (fun _ => nI 0) (ms.1 9)) (sq_G (sq_dR t) (fun _ => nI 0) (ms.1 10)) (sq_G (sq_dR t) (fun _ => nI 0) (ms.1 11)) (ms.2 0) (ms.2 1) 0 0 0 0 0 0 0 0 (ms.2 10)) := hD
        refine lv_aload_n hx hb dX1_clear_76 rfl (lv_at hl 1 rfl) ?_
        refine va_get (D := (dC, dI)) (ci := 1) (v := .ref (q 7)) (C := RX1) (T := TX1) (N := 23) hx hb hts hin hown hK hP 0 rfl rfl 18 (by decide) k36 (fun _ h9 => h9) rfl dX1_clear_77 ?_
        refine lv_iload_n hx hb dX1_clear_80 rfl (lv_at hl 0 rfl) ?_
        refine lv_iconst (v := nI 0) hx hb dX1_clear_81 (by decide +kernel) ?_
        refine sq_iast hx hb hK hP hD hS 8 0 rfl rfl (i := t) (by omega) (by decide) dX1_clear_82 (fun H locs hP hD hS => ?_)
        have hP : va_P (dC, dI) vwCl (wM h0 q cI cZ (ms.1 0) (ms.1 1) (ms.1 2) (ms.1 3) (ms.1 4) (sq_G (sq_dR 16) (fun _ => -1) (ms.1 5)) (upd (sq_G (sq_dR t) (fun _ => nI 0) (ms.1 6)) t (nI 0)) (upd (sq_G (sq_dR t) (fun _ => nI 0) (ms.1 7)) t (nI 0)) (sq_G (sq_dR t) (fun _ => nI 0) (ms.1 8)) (sq_G (sq_dR t) (fun _ => nI 0) (ms.1 9)) (sq_G (sq_dR t) (fun _ => nI 0) (ms.1 10)) (sq_G (sq_dR t) (fun _ => nI 0) (ms.1 11)) (ms.2 0) (ms.2 1) 0 0 0 0 0 0 0 0 (ms.2 10)) H := hP
        have hD : va_D A (wM h0 q cI cZ (ms.1 0) (ms.1 1) (ms.1 2) (ms.1 3) (ms.1 4) (sq_G (sq_dR 16) (fun _ => -1) (ms.1 5)) (upd (sq_G (sq_dR t) (fun _ => nI 0) (ms.1 6)) t (nI 0)) (upd (sq_G (sq_dR t) (fun _ => nI 0) (ms.1 7)) t (nI 0)) (sq_G (sq_dR t) (fun _ => nI 0) (ms.1 8)) (sq_G (sq_dR t) (fun _ => nI 0) (ms.1 9)) (sq_G (sq_dR t) (fun _ => nI 0) (ms.1 10)) (sq_G (sq_dR t) (fun _ => nI 0) (ms.1 11)) (ms.2 0) (ms.2 1) 0 0 0 0 0 0 0 0 (ms.2 10)) := hD
        refine lv_aload_n hx hb dX1_clear_83 rfl (lv_at hl 1 rfl) ?_
        refine va_get (D := (dC, dI)) (ci := 1) (v := .ref (q 8)) (C := RX1) (T := TX1) (N := 23) hx hb hts hin hown hK hP 0 rfl rfl 19 (by decide) k39 (fun _ h9 => h9) rfl dX1_clear_84 ?_
        refine lv_iload_n hx hb dX1_clear_87 rfl (lv_at hl 0 rfl) ?_
        refine lv_iconst (v := nI 0) hx hb dX1_clear_88 (by decide +kernel) ?_
        refine sq_iast hx hb hK hP hD hS 9 0 rfl rfl (i := t) (by omega) (by decide) dX1_clear_89 (fun H locs hP hD hS => ?_)
        have hP : va_P (dC, dI) vwCl (wM h0 q cI cZ (ms.1 0) (ms.1 1) (ms.1 2) (ms.1 3) (ms.1 4) (sq_G (sq_dR 16) (fun _ => -1) (ms.1 5)) (upd (sq_G (sq_dR t) (fun _ => nI 0) (ms.1 6)) t (nI 0)) (upd (sq_G (sq_dR t) (fun _ => nI 0) (ms.1 7)) t (nI 0)) (upd (sq_G (sq_dR t) (fun _ => nI 0) (ms.1 8)) t (nI 0)) (sq_G (sq_dR t) (fun _ => nI 0) (ms.1 9)) (sq_G (sq_dR t) (fun _ => nI 0) (ms.1 10)) (sq_G (sq_dR t) (fun _ => nI 0) (ms.1 11)) (ms.2 0) (ms.2 1) 0 0 0 0 0 0 0 0 (ms.2 10)) H := hP
        have hD : va_D A (wM h0 q cI cZ (ms.1 0) (ms.1 1) (ms.1 2) (ms.1 3) (ms.1 4) (sq_G (sq_dR 16) (fun _ => -1) (ms.1 5)) (upd (sq_G (sq_dR t) (fun _ => nI 0) (ms.1 6)) t (nI 0)) (upd (sq_G (sq_dR t) (fun _ => nI 0) (ms.1 7)) t (nI 0)) (upd (sq_G (sq_dR t) (fun _ => nI 0) (ms.1 8)) t (nI 0)) (sq_G (sq_dR t) (fun _ => nI 0) (ms.1 9)) (sq_G (sq_dR t) (fun _ => nI 0) (ms.1 10)) (sq_G (sq_dR t) (fun _ => nI 0) (ms.1 11)) (ms.2 0) (ms.2 1) 0 0 0 0 0 0 0 0 (ms.2 10)) := hD
        refine lv_aload_n hx hb dX1_clear_90 rfl (lv_at hl 1 rfl) ?_
        refine va_get (D := (dC, dI)) (ci := 1) (v := .ref (q 9)) (C := RX1) (T := TX1) (N := 23) hx hb hts hin hown hK hP 0 rfl rfl 20 (by decide) k42 (fun _ h9 => h9) rfl dX1_clear_91 ?_
        refine lv_iload_n hx hb dX1_clear_94 rfl (lv_at hl 0 rfl) ?_
        refine lv_iconst (v := nI 0) hx hb dX1_clear_95 (by decide +kernel) ?_
        refine sq_iast hx hb hK hP hD hS 10 0 rfl rfl (i := t) (by omega) (by decide) dX1_clear_96 (fun H locs hP hD hS => ?_)
        have hP : va_P (dC, dI) vwCl (wM h0 q cI cZ (ms.1 0) (ms.1 1) (ms.1 2) (ms.1 3) (ms.1 4) (sq_G (sq_dR 16) (fun _ => -1) (ms.1 5)) (upd (sq_G (sq_dR t) (fun _ => nI 0) (ms.1 6)) t (nI 0)) (upd (sq_G (sq_dR t) (fun _ => nI 0) (ms.1 7)) t (nI 0)) (upd (sq_G (sq_dR t) (fun _ => nI 0) (ms.1 8)) t (nI 0)) (upd (sq_G (sq_dR t) (fun _ => nI 0) (ms.1 9)) t (nI 0)) (sq_G (sq_dR t) (fun _ => nI 0) (ms.1 10)) (sq_G (sq_dR t) (fun _ => nI 0) (ms.1 11)) (ms.2 0) (ms.2 1) 0 0 0 0 0 0 0 0 (ms.2 10)) H := hP
        have hD : va_D A (wM h0 q cI cZ (ms.1 0) (ms.1 1) (ms.1 2) (ms.1 3) (ms.1 4) (sq_G (sq_dR 16) (fun _ => -1) (ms.1 5)) (upd (sq_G (sq_dR t) (fun _ => nI 0) (ms.1 6)) t (nI 0)) (upd (sq_G (sq_dR t) (fun _ => nI 0) (ms.1 7)) t (nI 0)) (upd (sq_G (sq_dR t) (fun _ => nI 0) (ms.1 8)) t (nI 0)) (upd (sq_G (sq_dR t) (fun _ => nI 0) (ms.1 9)) t (nI 0)) (sq_G (sq_dR t) (fun _ => nI 0) (ms.1 10)) (sq_G (sq_dR t) (fun _ => nI 0) (ms.1 11)) (ms.2 0) (ms.2 1) 0 0 0 0 0 0 0 0 (ms.2 10)) := hD
        refine lv_aload_n hx hb dX1_clear_97 rfl (lv_at hl 1 rfl) ?_
        refine va_get (D := (dC, dI)) (ci := 1) (v := .ref (q 10)) (C := RX1) (T := TX1) (N := 23) hx hb hts hin hown hK hP 0 rfl rfl 21 (by decide) k45 (fun _ h9 => h9) rfl dX1_clear_98 ?_
        refine lv_iload_n hx hb dX1_clear_101 rfl (lv_at hl 0 rfl) ?_
        refine lv_iconst (v := nI 0) hx hb dX1_clear_102 (by decide +kernel) ?_
        refine sq_zast hx hb hK hP hD hS 11 1 rfl rfl (i := t) (by omega) (by decide) (by decide) dX1_clear_103 (fun H locs hP hD hS => ?_)
        have hP : va_P (dC, dI) vwCl (wM h0 q cI cZ (ms.1 0) (ms.1 1) (ms.1 2) (ms.1 3) (ms.1 4) (sq_G (sq_dR 16) (fun _ => -1) (ms.1 5)) (upd (sq_G (sq_dR t) (fun _ => nI 0) (ms.1 6)) t (nI 0)) (upd (sq_G (sq_dR t) (fun _ => nI 0) (ms.1 7)) t (nI 0)) (upd (sq_G (sq_dR t) (fun _ => nI 0) (ms.1 8)) t (nI 0)) (upd (sq_G (sq_dR t) (fun _ => nI 0) (ms.1 9)) t (nI 0)) (upd (sq_G (sq_dR t) (fun _ => nI 0) (ms.1 10)) t (nI 0)) (sq_G (sq_dR t) (fun _ => nI 0) (ms.1 11)) (ms.2 0) (ms.2 1) 0 0 0 0 0 0 0 0 (ms.2 10)) H := hP
        have hD : va_D A (wM h0 q cI cZ (ms.1 0) (ms.1 1) (ms.1 2) (ms.1 3) (ms.1 4) (sq_G (sq_dR 16) (fun _ => -1) (ms.1 5)) (upd (sq_G (sq_dR t) (fun _ => nI 0) (ms.1 6)) t (nI 0)) (upd (sq_G (sq_dR t) (fun _ => nI 0) (ms.1 7)) t (nI 0)) (upd (sq_G (sq_dR t) (fun _ => nI 0) (ms.1 8)) t (nI 0)) (upd (sq_G (sq_dR t) (fun _ => nI 0) (ms.1 9)) t (nI 0)) (upd (sq_G (sq_dR t) (fun _ => nI 0) (ms.1 10)) t (nI 0)) (sq_G (sq_dR t) (fun _ => nI 0) (ms.1 11)) (ms.2 0) (ms.2 1) 0 0 0 0 0 0 0 0 (ms.2 10)) := hD
        refine lv_aload_n hx hb dX1_clear_104 rfl (lv_at hl 1 rfl) ?_
        refine va_get (D := (dC, dI)) (ci := 1) (v := .ref (q 11)) (C := RX1) (T := TX1) (N := 23) hx hb hts hin hown hK hP 0 rfl rfl 22 (by decide) k48 (fun _ h9 => h9) rfl dX1_clear_105 ?_
        refine lv_iload_n hx hb dX1_clear_108 rfl (lv_at hl 0 rfl) ?_
        refine lv_iconst (v := nI 0) hx hb dX1_clear_109 (by decide +kernel) ?_
        refine sq_zast hx hb hK hP hD hS 12 1 rfl rfl (i := t) (by omega) (by decide) (by decide) dX1_clear_110 (fun H locs hP hD hS => ?_)
        have hP : va_P (dC, dI) vwCl (wM h0 q cI cZ (ms.1 0) (ms.1 1) (ms.1 2) (ms.1 3) (ms.1 4) (sq_G (sq_dR 16) (fun _ => -1) (ms.1 5)) (upd (sq_G (sq_dR t) (fun _ => nI 0) (ms.1 6)) t (nI 0)) (upd (sq_G (sq_dR t) (fun _ => nI 0) (ms.1 7)) t (nI 0)) (upd (sq_G (sq_dR t) (fun _ => nI 0) (ms.1 8)) t (nI 0)) (upd (sq_G (sq_dR t) (fun _ => nI 0) (ms.1 9)) t (nI 0)) (upd (sq_G (sq_dR t) (fun _ => nI 0) (ms.1 10)) t (nI 0)) (upd (sq_G (sq_dR t) (fun _ => nI 0) (ms.1 11)) t (nI 0)) (ms.2 0) (ms.2 1) 0 0 0 0 0 0 0 0 (ms.2 10)) H := hP
        have hD : va_D A (wM h0 q cI cZ (ms.1 0) (ms.1 1) (ms.1 2) (ms.1 3) (ms.1 4) (sq_G (sq_dR 16) (fun _ => -1) (ms.1 5)) (upd (sq_G (sq_dR t) (fun _ => nI 0) (ms.1 6)) t (nI 0)) (upd (sq_G (sq_dR t) (fun _ => nI 0) (ms.1 7)) t (nI 0)) (upd (sq_G (sq_dR t) (fun _ => nI 0) (ms.1 8)) t (nI 0)) (upd (sq_G (sq_dR t) (fun _ => nI 0) (ms.1 9)) t (nI 0)) (upd (sq_G (sq_dR t) (fun _ => nI 0) (ms.1 10)) t (nI 0)) (upd (sq_G (sq_dR t) (fun _ => nI 0) (ms.1 11)) t (nI 0)) (ms.2 0) (ms.2 1) 0 0 0 0 0 0 0 0 (ms.2 10)) := hD
        have eA : upd (sq_G (sq_dR t) (fun _ => nI 0) (ms.1 6)) t (nI 0) = sq_G (sq_dR (t + 1)) (fun _ => nI 0) (ms.1 6) := sq_G_step rfl (sq_dR_step t)
        rw [eA] at hP hD
        clear eA
        have eA : upd (sq_G (sq_dR t) (fun _ => nI 0) (ms.1 7)) t (nI 0) = sq_G (sq_dR (t + 1)) (fun _ => nI 0) (ms.1 7) := sq_G_step rfl (sq_dR_step t)
        rw [eA] at hP hD
        clear eA
        have eA : upd (sq_G (sq_dR t) (fun _ => nI 0) (ms.1 8)) t (nI 0) = sq_G (sq_dR (t + 1)) (fun _ => nI 0) (ms.1 8) := sq_G_step rfl (sq_dR_step t)
        rw [eA] at hP hD
        clear eA
        have eA : upd (sq_G (sq_dR t) (fun _ => nI 0) (ms.1 9)) t (nI 0) = sq_G (sq_dR (t + 1)) (fun _ => nI 0) (ms.1 9) := sq_G_step rfl (sq_dR_step t)
        rw [eA] at hP hD
        clear eA
        have eA : upd (sq_G (sq_dR t) (fun _ => nI 0) (ms.1 10)) t (nI 0) = sq_G (sq_dR (t + 1)) (fun _ => nI 0) (ms.1 10) := sq_G_step rfl (sq_dR_step t)
        rw [eA] at hP hD
        clear eA
        have eA : upd (sq_G (sq_dR t) (fun _ => nI 0) (ms.1 11)) t (nI 0) = sq_G (sq_dR (t + 1)) (fun _ => nI 0) (ms.1 11) := sq_G_step rfl (sq_dR_step t)
        rw [eA] at hP hD
        clear eA
        refine lv_iinc (v := nI (t + 1)) (lv' := [(1, .int (nI (t + 1))), (0, .ref h0)]) hx hb dX1_clear_111 hl (k := 0) rfl (sq_inc _) (by decide) rfl (fun ls hl => ?_)
        refine lv_goto (tgt := 63) hx hb dX1_clear_114 (by decide) ?_
        exact ih (j - 1) (by omega) (t + 1) (by omega) H locs ls hP hD hS hl
  have L1 : ∀ j t : Nat, t + j = 16 → ∀ (H : Heap) (locs : List Loc) (ls : Array Slot), va_P (dC, dI) vwCl (wM h0 q cI cZ (ms.1 0) (ms.1 1) (ms.1 2) (ms.1 3) (ms.1 4) (sq_G (sq_dR t) (fun _ => -1) (ms.1 5)) (ms.1 6) (ms.1 7) (ms.1 8) (ms.1 9) (ms.1 10) (ms.1 11) (ms.2 0) (ms.2 1) 0 0 0 0 0 0 0 0 (ms.2 10)) H → va_D A (wM h0 q cI cZ (ms.1 0) (ms.1 1) (ms.1 2) (ms.1 3) (ms.1 4) (sq_G (sq_dR t) (fun _ => -1) (ms.1 5)) (ms.1 6) (ms.1 7) (ms.1 8) (ms.1 9) (ms.1 10) (ms.1 11) (ms.2 0) (ms.2 1) 0 0 0 0 0 0 0 0 (ms.2 10)) → va_S A s.heap H locs → lv_has ls 2 [(1, .int (nI t)), (0, .ref h0)] → W p l e rmm_clear s m args below meth c H locs 0 0 Q (F0 m 42 ls []) := by
    intro j
    induction j using Nat.strongRecOn with
    | _ j ih =>
      intro t ht H locs ls hP hD hS hl
      refine lv_iload_n hx hb dX1_clear_42 rfl (lv_at hl 0 rfl) ?_
      refine lv_bipush (v := nI 16) hx hb dX1_clear_43 (by decide +kernel) ?_
      refine sq_icmp_ge (tgt := 61) hx hb (by omega) (by omega) dX1_clear_45 (by decide) (fun hc => ?_) (fun hc => ?_)
      · rw [show t = 16 by omega] at hP hD
        refine lv_iconst (v := nI 0) hx hb dX1_clear_61 (by decide +kernel) ?_
        refine lv_istore_n (lv' := [(1, .int (nI 0)), (0, .ref h0)]) hx hb dX1_clear_62 rfl hl (by decide) rfl (fun ls hl => ?_)
        have e9 : (wM h0 q cI cZ (ms.1 0) (ms.1 1) (ms.1 2) (ms.1 3) (ms.1 4) (sq_G (sq_dR 16) (fun _ => -1) (ms.1 5)) (sq_G (sq_dR 0) (fun _ => nI 0) (ms.1 6)) (sq_G (sq_dR 0) (fun _ => nI 0) (ms.1 7)) (sq_G (sq_dR 0) (fun _ => nI 0) (ms.1 8)) (sq_G (sq_dR 0) (fun _ => nI 0) (ms.1 9)) (sq_G (sq_dR 0) (fun _ => nI 0) (ms.1 10)) (sq_G (sq_dR 0) (fun _ => nI 0) (ms.1 11)) (ms.2 0) (ms.2 1) 0 0 0 0 0 0 0 0 (ms.2 10)) = (wM h0 q cI cZ (ms.1 0) (ms.1 1) (ms.1 2) (ms.1 3) (ms.1 4) (sq_G (sq_dR 16) (fun _ => -1) (ms.1 5)) (ms.1 6) (ms.1 7) (ms.1 8) (ms.1 9) (ms.1 10) (ms.1 11) (ms.2 0) (ms.2 1) 0 0 0 0 0 0 0 0 (ms.2 10)) := by simp only [sq_G_none (d := sq_dR 0) (fun j => by simp [sq_dR])]
        rw [← e9] at hP hD
        exact L2 36 0 (by omega) H locs ls hP hD hS (lv_sub hl [0, 1] rfl)
      · refine lv_aload_n hx hb dX1_clear_48 rfl (lv_at hl 1 rfl) ?_
        refine va_get (D := (dC, dI)) (ci := 1) (v := .ref (q 5)) (C := RX1) (T := TX1) (N := 23) hx hb hts hin hown hK hP 0 rfl rfl 16 (by decide) k30 (fun _ h9 => h9) rfl dX1_clear_49 ?_
        refine lv_iload_n hx hb dX1_clear_52 rfl (lv_at hl 0 rfl) ?_
        refine lv_iconst (v := (-1)) hx hb dX1_clear_53 (by decide +kernel) ?_
        refine sq_iast hx hb hK hP hD hS 6 0 rfl rfl (i := t) (by omega) (by decide) dX1_clear_54 (fun H locs hP hD hS => ?_)
        have hP : va_P (dC, dI) vwCl (wM h0 q cI cZ (ms.1 0) (ms.1 1) (ms.1 2) (ms.1 3) (ms.1 4) (upd (sq_G (sq_dR t) (fun _ => -1) (ms.1 5)) t (-1)) (ms.1 6) (ms.1 7) (ms.1 8) (ms.1 9) (ms.1 10) (ms.1 11) (ms.2 0) (ms.2 1) 0 0 0 0 0 0 0 0 (ms.2 10)) H := hP
        have hD : va_D A (wM h0 q cI cZ (ms.1 0) (ms.1 1) (ms.1 2) (ms.1 3) (ms.1 4) (upd (sq_G (sq_dR t) (fun _ => -1) (ms.1 5)) t (-1)) (ms.1 6) (ms.1 7) (ms.1 8) (ms.1 9) (ms.1 10) (ms.1 11) (ms.2 0) (ms.2 1) 0 0 0 0 0 0 0 0 (ms.2 10)) := hD
        have eA : upd (sq_G (sq_dR t) (fun _ => -1) (ms.1 5)) t (-1) = sq_G (sq_dR (t + 1)) (fun _ => -1) (ms.1 5) := sq_G_step rfl (sq_dR_step t)
        rw [eA] at hP hD
        clear eA
        refine lv_iinc (v := nI (t + 1)) (lv' := [(1, .int (nI (t + 1))), (0, .ref h0)]) hx hb dX1_clear_55 hl (k := 0) rfl (sq_inc _) (by decide) rfl (fun ls hl => ?_)
        refine lv_goto (tgt := 42) hx hb dX1_clear_58 (by decide) ?_
        exact ih (j - 1) (by omega) (t + 1) (by omega) H locs ls hP hD hS hl
  have e9 : (wM h0 q cI cZ (ms.1 0) (ms.1 1) (ms.1 2) (ms.1 3) (ms.1 4) (sq_G (sq_dR 0) (fun _ => -1) (ms.1 5)) (ms.1 6) (ms.1 7) (ms.1 8) (ms.1 9) (ms.1 10) (ms.1 11) (ms.2 0) (ms.2 1) 0 0 0 0 0 0 0 0 (ms.2 10)) = (wM h0 q cI cZ (ms.1 0) (ms.1 1) (ms.1 2) (ms.1 3) (ms.1 4) (ms.1 5) (ms.1 6) (ms.1 7) (ms.1 8) (ms.1 9) (ms.1 10) (ms.1 11) (ms.2 0) (ms.2 1) 0 0 0 0 0 0 0 0 (ms.2 10)) := by simp only [sq_G_none (d := sq_dR 0) (fun j => by simp [sq_dR])]
  rw [← e9] at hP hD
  exact L1 16 0 (by omega) _ _ ls hP hD hS hl
def sq_mkB (x : Int32) : Nat := sq_rf (!decide (¬ x < nI 1 ∧ ¬ nI 6 < x)) false
def sq_mB (ms : SqS) (x : Int32) : SqS := if sq_mkB x = 0 then sq_mclr (sq_mt ms 0) (sq_vec x) else sq_mt ms (sq_mkB x)
def rmm_begin : Room := { frames := 1, cells := 0, slots := 0, locals := 22 }
set_option maxHeartbeats 4000000 in
set_option maxRecDepth 100000 in
theorem k_begin (l : Launch) (dC : Nat → ClassId) (dI : Nat → Nat → Nat) (h0 : Nat) (q : Nat → Nat) (cI cZ : ClassId) (ms : SqS) (x : Int32)  : sq_Mv l yX1_begin wsX1_begin rmm_begin [.ref h0, .int x] (dC, dI) vwCl [(cI, .int), (cZ, .boolean)] (wM h0 q cI cZ (ms.1 0) (ms.1 1) (ms.1 2) (ms.1 3) (ms.1 4) (ms.1 5) (ms.1 6) (ms.1 7) (ms.1 8) (ms.1 9) (ms.1 10) (ms.1 11) (ms.2 0) (ms.2 1) (ms.2 2) (ms.2 3) (ms.2 4) (ms.2 5) (ms.2 6) (ms.2 7) (ms.2 8) (ms.2 9) (ms.2 10)) (wM h0 q cI cZ ((sq_mB ms x).1 0) ((sq_mB ms x).1 1) ((sq_mB ms x).1 2) ((sq_mB ms x).1 3) ((sq_mB ms x).1 4) ((sq_mB ms x).1 5) ((sq_mB ms x).1 6) ((sq_mB ms x).1 7) ((sq_mB ms x).1 8) ((sq_mB ms x).1 9) ((sq_mB ms x).1 10) ((sq_mB ms x).1 11) ((sq_mB ms x).2 0) ((sq_mB ms x).2 1) ((sq_mB ms x).2 2) ((sq_mB ms x).2 3) ((sq_mB ms x).2 4) ((sq_mB ms x).2 5) ((sq_mB ms x).2 6) ((sq_mB ms x).2 7) ((sq_mB ms x).2 8) ((sq_mB ms x).2 9) ((sq_mB ms x).2 10)) := by
  refine sq_ofWv (cc := cX1_begin) (maxL := 2) (by decide) rfl (Nat.le_of_ble_eq_true rfl) ?_
  intro p e s m args below meth c A ls Q hx hb hts hown hml hK hP hD hS hA hl hend
  have hl : lv_has ls 2 [(0, .ref h0), (1, .int x)] := hl
  have hin : ∀ w ∈ u_ws RX1 TX1 23, w ∈ wsX1_begin := fun w h => List.mem_cons_of_mem _ (inX1 w h)
  have k7 := hts _ (List.mem_cons_of_mem _ mfX1_7)
  have T16 : ∀ (b : Bool) (H : Heap) (locs : List Loc) (ls : Array Slot), b = !decide (¬ x < nI 1 ∧ ¬ nI 6 < x) → va_P (dC, dI) vwCl (wM h0 q cI cZ (ms.1 0) (ms.1 1) (ms.1 2) (ms.1 3) (ms.1 4) (ms.1 5) (ms.1 6) (ms.1 7) (ms.1 8) (ms.1 9) (ms.1 10) (ms.1 11) (ms.2 0) (ms.2 1) (ms.2 2) (ms.2 3) (ms.2 4) (ms.2 5) (ms.2 6) (ms.2 7) (ms.2 8) (ms.2 9) (ms.2 10)) H → va_D A (wM h0 q cI cZ (ms.1 0) (ms.1 1) (ms.1 2) (ms.1 3) (ms.1 4) (ms.1 5) (ms.1 6) (ms.1 7) (ms.1 8) (ms.1 9) (ms.1 10) (ms.1 11) (ms.2 0) (ms.2 1) (ms.2 2) (ms.2 3) (ms.2 4) (ms.2 5) (ms.2 6) (ms.2 7) (ms.2 8) (ms.2 9) (ms.2 10)) → va_S A s.heap H locs → lv_has ls 2 [(0, .ref h0), (1, .int x)] → W p l e rmm_begin s m args below meth c H locs 0 0 Q (F0 m 16 ls [.int (sq_b b), .ref h0]) := by
    intro b H locs ls hpre hP hD hS hl
    subst hpre
    refine lv_iconst (v := nI 0) hx hb dX1_begin_16 (by decide +kernel) ?_
    refine sq_calli (As := [.int (sq_b (!decide (¬ x < nI 1 ∧ ¬ nI 6 < x))), .int (sq_b false)]) (k_refuse l dC dI h0 q cI cZ (ms.1 0) (ms.1 1) (ms.1 2) (ms.1 3) (ms.1 4) (ms.1 5) (ms.1 6) (ms.1 7) (ms.1 8) (ms.1 9) (ms.1 10) (ms.1 11) (ms.2 0) (ms.2 1) (ms.2 2) (ms.2 3) (ms.2 4) (ms.2 5) (ms.2 6) (ms.2 7) (ms.2 8) (ms.2 9) (ms.2 10) (!decide (¬ x < nI 1 ∧ ¬ nI 6 < x)) false) ⟨hx, hb, hml, hown, hts⟩ (cwV 2 hts (sq_good gvX1_86) rfl rfl rfl (by decide +kernel) ⟨Nat.le_of_ble_eq_true rfl, Nat.le_of_ble_eq_true rfl⟩) hK hP hD hS hA rfl rfl rfl rfl hl.1 rfl (Nat.le_of_ble_eq_true rfl) dX1_begin_17 ⟨Nat.zero_le _, Nat.zero_le _⟩ (fun H locs hP hD hS => ?_)
    refine lv_if_ne (tgt := 32) hx hb dX1_begin_20 (by decide) (fun hc => ?_) (fun hc => ?_)
    · have hP : va_P (dC, dI) vwCl (wM h0 q cI cZ ((sq_mt ms (sq_mkB x)).1 0) ((sq_mt ms (sq_mkB x)).1 1) ((sq_mt ms (sq_mkB x)).1 2) ((sq_mt ms (sq_mkB x)).1 3) ((sq_mt ms (sq_mkB x)).1 4) ((sq_mt ms (sq_mkB x)).1 5) ((sq_mt ms (sq_mkB x)).1 6) ((sq_mt ms (sq_mkB x)).1 7) ((sq_mt ms (sq_mkB x)).1 8) ((sq_mt ms (sq_mkB x)).1 9) ((sq_mt ms (sq_mkB x)).1 10) ((sq_mt ms (sq_mkB x)).1 11) ((sq_mt ms (sq_mkB x)).2 0) ((sq_mt ms (sq_mkB x)).2 1) ((sq_mt ms (sq_mkB x)).2 2) ((sq_mt ms (sq_mkB x)).2 3) ((sq_mt ms (sq_mkB x)).2 4) ((sq_mt ms (sq_mkB x)).2 5) ((sq_mt ms (sq_mkB x)).2 6) ((sq_mt ms (sq_mkB x)).2 7) ((sq_mt ms (sq_mkB x)).2 8) ((sq_mt ms (sq_mkB x)).2 9) ((sq_mt ms (sq_mkB x)).2 10)) H := hP
      have hD : va_D A (wM h0 q cI cZ ((sq_mt ms (sq_mkB x)).1 0) ((sq_mt ms (sq_mkB x)).1 1) ((sq_mt ms (sq_mkB x)).1 2) ((sq_mt ms (sq_mkB x)).1 3) ((sq_mt ms (sq_mkB x)).1 4) ((sq_mt ms (sq_mkB x)).1 5) ((sq_mt ms (sq_mkB x)).1 6) ((sq_mt ms (sq_mkB x)).1 7) ((sq_mt ms (sq_mkB x)).1 8) ((sq_mt ms (sq_mkB x)).1 9) ((sq_mt ms (sq_mkB x)).1 10) ((sq_mt ms (sq_mkB x)).1 11) ((sq_mt ms (sq_mkB x)).2 0) ((sq_mt ms (sq_mkB x)).2 1) ((sq_mt ms (sq_mkB x)).2 2) ((sq_mt ms (sq_mkB x)).2 3) ((sq_mt ms (sq_mkB x)).2 4) ((sq_mt ms (sq_mkB x)).2 5) ((sq_mt ms (sq_mkB x)).2 6) ((sq_mt ms (sq_mkB x)).2 7) ((sq_mt ms (sq_mkB x)).2 8) ((sq_mt ms (sq_mkB x)).2 9) ((sq_mt ms (sq_mkB x)).2 10)) := hD
      have e9 : sq_mB ms x = sq_mt ms (sq_mkB x) := by unfold sq_mB; rw [if_neg (fun h => by have h2 : 0 < sq_mkB x := sq_bnd hc; omega)]
      rw [← e9] at hP hD
      exact hend _ _ _ _ hP hD hS dX1_begin_32
    · have hk : sq_mkB x = 0 := by have h2 : ¬ 0 < sq_mkB x := sq_b0d hc; omega
      have hp : ¬ x < nI 1 ∧ ¬ nI 6 < x := Decidable.byContradiction (fun h => by unfold sq_mkB at hk; rw [decide_eq_false h] at hk; exact absurd hk (by decide))
      obtain ⟨n, hn, rfl⟩ := nI_of (x := x) (fun h => hp.1 (by rw [Int32.lt_iff_toInt_lt] at h ⊢; rw [nI_toInt (by decide)]; rw [Int32.toInt_zero] at h; omega))
      have hP : va_P (dC, dI) vwCl (wM h0 q cI cZ (ms.1 0) (ms.1 1) (ms.1 2) (ms.1 3) (ms.1 4) (ms.1 5) (ms.1 6) (ms.1 7) (ms.1 8) (ms.1 9) (ms.1 10) (ms.1 11) (sq_mkB (nI n)) (ms.2 1) (ms.2 2) (ms.2 3) (ms.2 4) (ms.2 5) (ms.2 6) (ms.2 7) (ms.2 8) (ms.2 9) (ms.2 10)) H := hP
      have hD : va_D A (wM h0 q cI cZ (ms.1 0) (ms.1 1) (ms.1 2) (ms.1 3) (ms.1 4) (ms.1 5) (ms.1 6) (ms.1 7) (ms.1 8) (ms.1 9) (ms.1 10) (ms.1 11) (sq_mkB (nI n)) (ms.2 1) (ms.2 2) (ms.2 3) (ms.2 4) (ms.2 5) (ms.2 6) (ms.2 7) (ms.2 8) (ms.2 9) (ms.2 10)) := hD
      rw [hk] at hP hD
      refine lv_aload_n hx hb dX1_begin_23 rfl (lv_at hl 0 rfl) ?_
      refine lv_iload_n hx hb dX1_begin_24 rfl (lv_at hl 1 rfl) ?_
      refine va_put (D := (dC, dI)) (ci := 1) (v := .int (nI n)) (ty := .int) (C := RX1) (T := TX1) (N := 23) hx hb hts hin tyX1 tyX1_ok nmX1 hown hK hP hD hS 0 rfl rfl 1 (by decide) k7 (fun _ h9 => h9) rfl (by decide +kernel) rfl rfl (Nat.le_of_ble_eq_true rfl) dX1_begin_25 (fun H locs hP hD hS => ?_)
      have hP : va_P (dC, dI) vwCl (wM h0 q cI cZ (ms.1 0) (ms.1 1) (ms.1 2) (ms.1 3) (ms.1 4) (ms.1 5) (ms.1 6) (ms.1 7) (ms.1 8) (ms.1 9) (ms.1 10) (ms.1 11) 0 n (ms.2 2) (ms.2 3) (ms.2 4) (ms.2 5) (ms.2 6) (ms.2 7) (ms.2 8) (ms.2 9) (ms.2 10)) H := hP
      have hD : va_D A (wM h0 q cI cZ (ms.1 0) (ms.1 1) (ms.1 2) (ms.1 3) (ms.1 4) (ms.1 5) (ms.1 6) (ms.1 7) (ms.1 8) (ms.1 9) (ms.1 10) (ms.1 11) 0 n (ms.2 2) (ms.2 3) (ms.2 4) (ms.2 5) (ms.2 6) (ms.2 7) (ms.2 8) (ms.2 9) (ms.2 10)) := hD
      refine lv_aload_n hx hb dX1_begin_28 rfl (lv_at hl 0 rfl) ?_
      have hP : va_P (dC, dI) vwCl (wM h0 q cI cZ ((sq_mm (ms.1 0) (ms.1 1) (ms.1 2) (ms.1 3) (ms.1 4) (ms.1 5) (ms.1 6) (ms.1 7) (ms.1 8) (ms.1 9) (ms.1 10) (ms.1 11) 0 n (ms.2 2) (ms.2 3) (ms.2 4) (ms.2 5) (ms.2 6) (ms.2 7) (ms.2 8) (ms.2 9) (ms.2 10)).1 0) ((sq_mm (ms.1 0) (ms.1 1) (ms.1 2) (ms.1 3) (ms.1 4) (ms.1 5) (ms.1 6) (ms.1 7) (ms.1 8) (ms.1 9) (ms.1 10) (ms.1 11) 0 n (ms.2 2) (ms.2 3) (ms.2 4) (ms.2 5) (ms.2 6) (ms.2 7) (ms.2 8) (ms.2 9) (ms.2 10)).1 1) ((sq_mm (ms.1 0) (ms.1 1) (ms.1 2) (ms.1 3) (ms.1 4) (ms.1 5) (ms.1 6) (ms.1 7) (ms.1 8) (ms.1 9) (ms.1 10) (ms.1 11) 0 n (ms.2 2) (ms.2 3) (ms.2 4) (ms.2 5) (ms.2 6) (ms.2 7) (ms.2 8) (ms.2 9) (ms.2 10)).1 2) ((sq_mm (ms.1 0) (ms.1 1) (ms.1 2) (ms.1 3) (ms.1 4) (ms.1 5) (ms.1 6) (ms.1 7) (ms.1 8) (ms.1 9) (ms.1 10) (ms.1 11) 0 n (ms.2 2) (ms.2 3) (ms.2 4) (ms.2 5) (ms.2 6) (ms.2 7) (ms.2 8) (ms.2 9) (ms.2 10)).1 3) ((sq_mm (ms.1 0) (ms.1 1) (ms.1 2) (ms.1 3) (ms.1 4) (ms.1 5) (ms.1 6) (ms.1 7) (ms.1 8) (ms.1 9) (ms.1 10) (ms.1 11) 0 n (ms.2 2) (ms.2 3) (ms.2 4) (ms.2 5) (ms.2 6) (ms.2 7) (ms.2 8) (ms.2 9) (ms.2 10)).1 4) ((sq_mm (ms.1 0) (ms.1 1) (ms.1 2) (ms.1 3) (ms.1 4) (ms.1 5) (ms.1 6) (ms.1 7) (ms.1 8) (ms.1 9) (ms.1 10) (ms.1 11) 0 n (ms.2 2) (ms.2 3) (ms.2 4) (ms.2 5) (ms.2 6) (ms.2 7) (ms.2 8) (ms.2 9) (ms.2 10)).1 5) ((sq_mm (ms.1 0) (ms.1 1) (ms.1 2) (ms.1 3) (ms.1 4) (ms.1 5) (ms.1 6) (ms.1 7) (ms.1 8) (ms.1 9) (ms.1 10) (ms.1 11) 0 n (ms.2 2) (ms.2 3) (ms.2 4) (ms.2 5) (ms.2 6) (ms.2 7) (ms.2 8) (ms.2 9) (ms.2 10)).1 6) ((sq_mm (ms.1 0) (ms.1 1) (ms.1 2) (ms.1 3) (ms.1 4) (ms.1 5) (ms.1 6) (ms.1 7) (ms.1 8) (ms.1 9) (ms.1 10) (ms.1 11) 0 n (ms.2 2) (ms.2 3) (ms.2 4) (ms.2 5) (ms.2 6) (ms.2 7) (ms.2 8) (ms.2 9) (ms.2 10)).1 7) ((sq_mm (ms.1 0) (ms.1 1) (ms.1 2) (ms.1 3) (ms.1 4) (ms.1 5) (ms.1 6) (ms.1 7) (ms.1 8) (ms.1 9) (ms.1 10) (ms.1 11) 0 n (ms.2 2) (ms.2 3) (ms.2 4) (ms.2 5) (ms.2 6) (ms.2 7) (ms.2 8) (ms.2 9) (ms.2 10)).1 8) ((sq_mm (ms.1 0) (ms.1 1) (ms.1 2) (ms.1 3) (ms.1 4) (ms.1 5) (ms.1 6) (ms.1 7) (ms.1 8) (ms.1 9) (ms.1 10) (ms.1 11) 0 n (ms.2 2) (ms.2 3) (ms.2 4) (ms.2 5) (ms.2 6) (ms.2 7) (ms.2 8) (ms.2 9) (ms.2 10)).1 9) ((sq_mm (ms.1 0) (ms.1 1) (ms.1 2) (ms.1 3) (ms.1 4) (ms.1 5) (ms.1 6) (ms.1 7) (ms.1 8) (ms.1 9) (ms.1 10) (ms.1 11) 0 n (ms.2 2) (ms.2 3) (ms.2 4) (ms.2 5) (ms.2 6) (ms.2 7) (ms.2 8) (ms.2 9) (ms.2 10)).1 10) ((sq_mm (ms.1 0) (ms.1 1) (ms.1 2) (ms.1 3) (ms.1 4) (ms.1 5) (ms.1 6) (ms.1 7) (ms.1 8) (ms.1 9) (ms.1 10) (ms.1 11) 0 n (ms.2 2) (ms.2 3) (ms.2 4) (ms.2 5) (ms.2 6) (ms.2 7) (ms.2 8) (ms.2 9) (ms.2 10)).1 11) ((sq_mm (ms.1 0) (ms.1 1) (ms.1 2) (ms.1 3) (ms.1 4) (ms.1 5) (ms.1 6) (ms.1 7) (ms.1 8) (ms.1 9) (ms.1 10) (ms.1 11) 0 n (ms.2 2) (ms.2 3) (ms.2 4) (ms.2 5) (ms.2 6) (ms.2 7) (ms.2 8) (ms.2 9) (ms.2 10)).2 0) ((sq_mm (ms.1 0) (ms.1 1) (ms.1 2) (ms.1 3) (ms.1 4) (ms.1 5) (ms.1 6) (ms.1 7) (ms.1 8) (ms.1 9) (ms.1 10) (ms.1 11) 0 n (ms.2 2) (ms.2 3) (ms.2 4) (ms.2 5) (ms.2 6) (ms.2 7) (ms.2 8) (ms.2 9) (ms.2 10)).2 1) ((sq_mm (ms.1 0) (ms.1 1) (ms.1 2) (ms.1 3) (ms.1 4) (ms.1 5) (ms.1 6) (ms.1 7) (ms.1 8) (ms.1 9) (ms.1 10) (ms.1 11) 0 n (ms.2 2) (ms.2 3) (ms.2 4) (ms.2 5) (ms.2 6) (ms.2 7) (ms.2 8) (ms.2 9) (ms.2 10)).2 2) ((sq_mm (ms.1 0) (ms.1 1) (ms.1 2) (ms.1 3) (ms.1 4) (ms.1 5) (ms.1 6) (ms.1 7) (ms.1 8) (ms.1 9) (ms.1 10) (ms.1 11) 0 n (ms.2 2) (ms.2 3) (ms.2 4) (ms.2 5) (ms.2 6) (ms.2 7) (ms.2 8) (ms.2 9) (ms.2 10)).2 3) ((sq_mm (ms.1 0) (ms.1 1) (ms.1 2) (ms.1 3) (ms.1 4) (ms.1 5) (ms.1 6) (ms.1 7) (ms.1 8) (ms.1 9) (ms.1 10) (ms.1 11) 0 n (ms.2 2) (ms.2 3) (ms.2 4) (ms.2 5) (ms.2 6) (ms.2 7) (ms.2 8) (ms.2 9) (ms.2 10)).2 4) ((sq_mm (ms.1 0) (ms.1 1) (ms.1 2) (ms.1 3) (ms.1 4) (ms.1 5) (ms.1 6) (ms.1 7) (ms.1 8) (ms.1 9) (ms.1 10) (ms.1 11) 0 n (ms.2 2) (ms.2 3) (ms.2 4) (ms.2 5) (ms.2 6) (ms.2 7) (ms.2 8) (ms.2 9) (ms.2 10)).2 5) ((sq_mm (ms.1 0) (ms.1 1) (ms.1 2) (ms.1 3) (ms.1 4) (ms.1 5) (ms.1 6) (ms.1 7) (ms.1 8) (ms.1 9) (ms.1 10) (ms.1 11) 0 n (ms.2 2) (ms.2 3) (ms.2 4) (ms.2 5) (ms.2 6) (ms.2 7) (ms.2 8) (ms.2 9) (ms.2 10)).2 6) ((sq_mm (ms.1 0) (ms.1 1) (ms.1 2) (ms.1 3) (ms.1 4) (ms.1 5) (ms.1 6) (ms.1 7) (ms.1 8) (ms.1 9) (ms.1 10) (ms.1 11) 0 n (ms.2 2) (ms.2 3) (ms.2 4) (ms.2 5) (ms.2 6) (ms.2 7) (ms.2 8) (ms.2 9) (ms.2 10)).2 7) ((sq_mm (ms.1 0) (ms.1 1) (ms.1 2) (ms.1 3) (ms.1 4) (ms.1 5) (ms.1 6) (ms.1 7) (ms.1 8) (ms.1 9) (ms.1 10) (ms.1 11) 0 n (ms.2 2) (ms.2 3) (ms.2 4) (ms.2 5) (ms.2 6) (ms.2 7) (ms.2 8) (ms.2 9) (ms.2 10)).2 8) ((sq_mm (ms.1 0) (ms.1 1) (ms.1 2) (ms.1 3) (ms.1 4) (ms.1 5) (ms.1 6) (ms.1 7) (ms.1 8) (ms.1 9) (ms.1 10) (ms.1 11) 0 n (ms.2 2) (ms.2 3) (ms.2 4) (ms.2 5) (ms.2 6) (ms.2 7) (ms.2 8) (ms.2 9) (ms.2 10)).2 9) ((sq_mm (ms.1 0) (ms.1 1) (ms.1 2) (ms.1 3) (ms.1 4) (ms.1 5) (ms.1 6) (ms.1 7) (ms.1 8) (ms.1 9) (ms.1 10) (ms.1 11) 0 n (ms.2 2) (ms.2 3) (ms.2 4) (ms.2 5) (ms.2 6) (ms.2 7) (ms.2 8) (ms.2 9) (ms.2 10)).2 10)) H := hP
      have hD : va_D A (wM h0 q cI cZ ((sq_mm (ms.1 0) (ms.1 1) (ms.1 2) (ms.1 3) (ms.1 4) (ms.1 5) (ms.1 6) (ms.1 7) (ms.1 8) (ms.1 9) (ms.1 10) (ms.1 11) 0 n (ms.2 2) (ms.2 3) (ms.2 4) (ms.2 5) (ms.2 6) (ms.2 7) (ms.2 8) (ms.2 9) (ms.2 10)).1 0) ((sq_mm (ms.1 0) (ms.1 1) (ms.1 2) (ms.1 3) (ms.1 4) (ms.1 5) (ms.1 6) (ms.1 7) (ms.1 8) (ms.1 9) (ms.1 10) (ms.1 11) 0 n (ms.2 2) (ms.2 3) (ms.2 4) (ms.2 5) (ms.2 6) (ms.2 7) (ms.2 8) (ms.2 9) (ms.2 10)).1 1) ((sq_mm (ms.1 0) (ms.1 1) (ms.1 2) (ms.1 3) (ms.1 4) (ms.1 5) (ms.1 6) (ms.1 7) (ms.1 8) (ms.1 9) (ms.1 10) (ms.1 11) 0 n (ms.2 2) (ms.2 3) (ms.2 4) (ms.2 5) (ms.2 6) (ms.2 7) (ms.2 8) (ms.2 9) (ms.2 10)).1 2) ((sq_mm (ms.1 0) (ms.1 1) (ms.1 2) (ms.1 3) (ms.1 4) (ms.1 5) (ms.1 6) (ms.1 7) (ms.1 8) (ms.1 9) (ms.1 10) (ms.1 11) 0 n (ms.2 2) (ms.2 3) (ms.2 4) (ms.2 5) (ms.2 6) (ms.2 7) (ms.2 8) (ms.2 9) (ms.2 10)).1 3) ((sq_mm (ms.1 0) (ms.1 1) (ms.1 2) (ms.1 3) (ms.1 4) (ms.1 5) (ms.1 6) (ms.1 7) (ms.1 8) (ms.1 9) (ms.1 10) (ms.1 11) 0 n (ms.2 2) (ms.2 3) (ms.2 4) (ms.2 5) (ms.2 6) (ms.2 7) (ms.2 8) (ms.2 9) (ms.2 10)).1 4) ((sq_mm (ms.1 0) (ms.1 1) (ms.1 2) (ms.1 3) (ms.1 4) (ms.1 5) (ms.1 6) (ms.1 7) (ms.1 8) (ms.1 9) (ms.1 10) (ms.1 11) 0 n (ms.2 2) (ms.2 3) (ms.2 4) (ms.2 5) (ms.2 6) (ms.2 7) (ms.2 8) (ms.2 9) (ms.2 10)).1 5) ((sq_mm (ms.1 0) (ms.1 1) (ms.1 2) (ms.1 3) (ms.1 4) (ms.1 5) (ms.1 6) (ms.1 7) (ms.1 8) (ms.1 9) (ms.1 10) (ms.1 11) 0 n (ms.2 2) (ms.2 3) (ms.2 4) (ms.2 5) (ms.2 6) (ms.2 7) (ms.2 8) (ms.2 9) (ms.2 10)).1 6) ((sq_mm (ms.1 0) (ms.1 1) (ms.1 2) (ms.1 3) (ms.1 4) (ms.1 5) (ms.1 6) (ms.1 7) (ms.1 8) (ms.1 9) (ms.1 10) (ms.1 11) 0 n (ms.2 2) (ms.2 3) (ms.2 4) (ms.2 5) (ms.2 6) (ms.2 7) (ms.2 8) (ms.2 9) (ms.2 10)).1 7) ((sq_mm (ms.1 0) (ms.1 1) (ms.1 2) (ms.1 3) (ms.1 4) (ms.1 5) (ms.1 6) (ms.1 7) (ms.1 8) (ms.1 9) (ms.1 10) (ms.1 11) 0 n (ms.2 2) (ms.2 3) (ms.2 4) (ms.2 5) (ms.2 6) (ms.2 7) (ms.2 8) (ms.2 9) (ms.2 10)).1 8) ((sq_mm (ms.1 0) (ms.1 1) (ms.1 2) (ms.1 3) (ms.1 4) (ms.1 5) (ms.1 6) (ms.1 7) (ms.1 8) (ms.1 9) (ms.1 10) (ms.1 11) 0 n (ms.2 2) (ms.2 3) (ms.2 4) (ms.2 5) (ms.2 6) (ms.2 7) (ms.2 8) (ms.2 9) (ms.2 10)).1 9) ((sq_mm (ms.1 0) (ms.1 1) (ms.1 2) (ms.1 3) (ms.1 4) (ms.1 5) (ms.1 6) (ms.1 7) (ms.1 8) (ms.1 9) (ms.1 10) (ms.1 11) 0 n (ms.2 2) (ms.2 3) (ms.2 4) (ms.2 5) (ms.2 6) (ms.2 7) (ms.2 8) (ms.2 9) (ms.2 10)).1 10) ((sq_mm (ms.1 0) (ms.1 1) (ms.1 2) (ms.1 3) (ms.1 4) (ms.1 5) (ms.1 6) (ms.1 7) (ms.1 8) (ms.1 9) (ms.1 10) (ms.1 11) 0 n (ms.2 2) (ms.2 3) (ms.2 4) (ms.2 5) (ms.2 6) (ms.2 7) (ms.2 8) (ms.2 9) (ms.2 10)).1 11) ((sq_mm (ms.1 0) (ms.1 1) (ms.1 2) (ms.1 3) (ms.1 4) (ms.1 5) (ms.1 6) (ms.1 7) (ms.1 8) (ms.1 9) (ms.1 10) (ms.1 11) 0 n (ms.2 2) (ms.2 3) (ms.2 4) (ms.2 5) (ms.2 6) (ms.2 7) (ms.2 8) (ms.2 9) (ms.2 10)).2 0) ((sq_mm (ms.1 0) (ms.1 1) (ms.1 2) (ms.1 3) (ms.1 4) (ms.1 5) (ms.1 6) (ms.1 7) (ms.1 8) (ms.1 9) (ms.1 10) (ms.1 11) 0 n (ms.2 2) (ms.2 3) (ms.2 4) (ms.2 5) (ms.2 6) (ms.2 7) (ms.2 8) (ms.2 9) (ms.2 10)).2 1) ((sq_mm (ms.1 0) (ms.1 1) (ms.1 2) (ms.1 3) (ms.1 4) (ms.1 5) (ms.1 6) (ms.1 7) (ms.1 8) (ms.1 9) (ms.1 10) (ms.1 11) 0 n (ms.2 2) (ms.2 3) (ms.2 4) (ms.2 5) (ms.2 6) (ms.2 7) (ms.2 8) (ms.2 9) (ms.2 10)).2 2) ((sq_mm (ms.1 0) (ms.1 1) (ms.1 2) (ms.1 3) (ms.1 4) (ms.1 5) (ms.1 6) (ms.1 7) (ms.1 8) (ms.1 9) (ms.1 10) (ms.1 11) 0 n (ms.2 2) (ms.2 3) (ms.2 4) (ms.2 5) (ms.2 6) (ms.2 7) (ms.2 8) (ms.2 9) (ms.2 10)).2 3) ((sq_mm (ms.1 0) (ms.1 1) (ms.1 2) (ms.1 3) (ms.1 4) (ms.1 5) (ms.1 6) (ms.1 7) (ms.1 8) (ms.1 9) (ms.1 10) (ms.1 11) 0 n (ms.2 2) (ms.2 3) (ms.2 4) (ms.2 5) (ms.2 6) (ms.2 7) (ms.2 8) (ms.2 9) (ms.2 10)).2 4) ((sq_mm (ms.1 0) (ms.1 1) (ms.1 2) (ms.1 3) (ms.1 4) (ms.1 5) (ms.1 6) (ms.1 7) (ms.1 8) (ms.1 9) (ms.1 10) (ms.1 11) 0 n (ms.2 2) (ms.2 3) (ms.2 4) (ms.2 5) (ms.2 6) (ms.2 7) (ms.2 8) (ms.2 9) (ms.2 10)).2 5) ((sq_mm (ms.1 0) (ms.1 1) (ms.1 2) (ms.1 3) (ms.1 4) (ms.1 5) (ms.1 6) (ms.1 7) (ms.1 8) (ms.1 9) (ms.1 10) (ms.1 11) 0 n (ms.2 2) (ms.2 3) (ms.2 4) (ms.2 5) (ms.2 6) (ms.2 7) (ms.2 8) (ms.2 9) (ms.2 10)).2 6) ((sq_mm (ms.1 0) (ms.1 1) (ms.1 2) (ms.1 3) (ms.1 4) (ms.1 5) (ms.1 6) (ms.1 7) (ms.1 8) (ms.1 9) (ms.1 10) (ms.1 11) 0 n (ms.2 2) (ms.2 3) (ms.2 4) (ms.2 5) (ms.2 6) (ms.2 7) (ms.2 8) (ms.2 9) (ms.2 10)).2 7) ((sq_mm (ms.1 0) (ms.1 1) (ms.1 2) (ms.1 3) (ms.1 4) (ms.1 5) (ms.1 6) (ms.1 7) (ms.1 8) (ms.1 9) (ms.1 10) (ms.1 11) 0 n (ms.2 2) (ms.2 3) (ms.2 4) (ms.2 5) (ms.2 6) (ms.2 7) (ms.2 8) (ms.2 9) (ms.2 10)).2 8) ((sq_mm (ms.1 0) (ms.1 1) (ms.1 2) (ms.1 3) (ms.1 4) (ms.1 5) (ms.1 6) (ms.1 7) (ms.1 8) (ms.1 9) (ms.1 10) (ms.1 11) 0 n (ms.2 2) (ms.2 3) (ms.2 4) (ms.2 5) (ms.2 6) (ms.2 7) (ms.2 8) (ms.2 9) (ms.2 10)).2 9) ((sq_mm (ms.1 0) (ms.1 1) (ms.1 2) (ms.1 3) (ms.1 4) (ms.1 5) (ms.1 6) (ms.1 7) (ms.1 8) (ms.1 9) (ms.1 10) (ms.1 11) 0 n (ms.2 2) (ms.2 3) (ms.2 4) (ms.2 5) (ms.2 6) (ms.2 7) (ms.2 8) (ms.2 9) (ms.2 10)).2 10)) := hD
      refine sq_callv (As := []) (k_clear l dC dI h0 q cI cZ (sq_mm (ms.1 0) (ms.1 1) (ms.1 2) (ms.1 3) (ms.1 4) (ms.1 5) (ms.1 6) (ms.1 7) (ms.1 8) (ms.1 9) (ms.1 10) (ms.1 11) 0 n (ms.2 2) (ms.2 3) (ms.2 4) (ms.2 5) (ms.2 6) (ms.2 7) (ms.2 8) (ms.2 9) (ms.2 10))) ⟨hx, hb, hml, hown, hts⟩ (cwV 0 hts (sq_good gvX1_51) rfl rfl rfl (by decide +kernel) ⟨Nat.le_of_ble_eq_true rfl, Nat.le_of_ble_eq_true rfl⟩) hK hP hD hS hA rfl rfl rfl rfl hl.1 rfl (Nat.le_of_ble_eq_true rfl) dX1_begin_29 ⟨Nat.zero_le _, Nat.zero_le _⟩ (fun H locs hP hD hS => ?_)
      have e9 : sq_mB ms (nI n) = sq_mclr (sq_mt ms 0) n := by unfold sq_mB; rw [if_pos hk, sq_vec_nI hn]
      exact hend _ _ _ _ (by rw [e9]; exact hP) (by rw [e9]; exact hD) hS dX1_begin_32
  refine lv_aload_n hx hb dX1_begin_0 rfl (lv_at hl 0 rfl) ?_
  refine lv_iload_n hx hb dX1_begin_1 rfl (lv_at hl 1 rfl) ?_
  refine lv_iconst (v := nI 1) hx hb dX1_begin_2 (by decide +kernel) ?_
  refine lv_bipush (v := nI 6) hx hb dX1_begin_3 (by decide +kernel) ?_
  refine sq_callsi (As := [.int x, .int (nI 1), .int (nI 6)]) (k_in l (dC, dI) vwCl [(cI, .int), (cZ, .boolean)] (wM h0 q cI cZ (ms.1 0) (ms.1 1) (ms.1 2) (ms.1 3) (ms.1 4) (ms.1 5) (ms.1 6) (ms.1 7) (ms.1 8) (ms.1 9) (ms.1 10) (ms.1 11) (ms.2 0) (ms.2 1) (ms.2 2) (ms.2 3) (ms.2 4) (ms.2 5) (ms.2 6) (ms.2 7) (ms.2 8) (ms.2 9) (ms.2 10)) x (nI 1) (nI 6)) ⟨hx, hb, hml, hown, hts⟩ (va_cwS 3 hts (sq_good gsX1_82) rfl rfl rfl (by decide +kernel) ⟨Nat.le_of_ble_eq_true rfl, Nat.le_of_ble_eq_true rfl⟩) hK hP hD hS hA rfl hl.1 rfl (Nat.le_of_ble_eq_true rfl) dX1_begin_5 ⟨Nat.zero_le _, Nat.zero_le _⟩ (fun H locs hP hD hS => ?_)
  refine lv_if_ne (tgt := 15) hx hb dX1_begin_8 (by decide) (fun hc => ?_) (fun hc => ?_)
  · refine lv_iconst (v := nI 0) hx hb dX1_begin_15 (by decide +kernel) ?_
    exact T16 false _ _ ls (by rw [decide_eq_true (sq_bnd hc)]; rfl) hP hD hS hl
  · refine lv_iconst (v := nI 1) hx hb dX1_begin_11 (by decide +kernel) ?_
    refine lv_goto (tgt := 16) hx hb dX1_begin_12 (by decide) ?_
    exact T16 true _ _ ls (by rw [decide_eq_false (sq_b0d hc)]; rfl) hP hD hS hl
def sq_mkW (ms : SqS) : Nat := sq_rf (decide (ms.2 3 = 120)) false
def sq_mW (ms : SqS) (x1 x2 x3 x4 x5 x6 : Int32) : SqS := if sq_mkW ms = 0 then sq_mw (sq_mt ms 0) x1 x2 x3 x4 x5 x6 else sq_mt ms (sq_mkW ms)
def sq_mrW (ms : SqS) : Int32 := if sq_mkW ms = 0 then nI (ms.2 3) else 0
def sq_mkV (ms : SqS) : Nat := sq_rf (decide (ms.2 7 = 200)) false
def sq_mV (ms : SqS) (b x1 x2 x3 x4 x5 x6 : Int32) : SqS := if sq_mkV ms = 0 then sq_mv (sq_mt ms 0) b x1 x2 x3 x4 x5 x6 else sq_mt ms (sq_mkV ms)
def sq_mrV (ms : SqS) : Int32 := if sq_mkV ms = 0 then nI (ms.2 7) else 0
def rmm_weights : Room := { frames := 1, cells := 0, slots := 0, locals := 27 }
set_option maxHeartbeats 4000000 in
set_option maxRecDepth 100000 in
theorem k_weights (l : Launch) (dC : Nat → ClassId) (dI : Nat → Nat → Nat) (h0 : Nat) (q : Nat → Nat) (cI cZ : ClassId) (ms : SqS) (x1 x2 x3 x4 x5 x6 : Int32) (b3 : ms.2 3 ≤ 120) : sq_Mi l yX1_weights wsX1_weights rmm_weights [.ref h0, .int x1, .int x2, .int x3, .int x4, .int x5, .int x6] (dC, dI) vwCl [(cI, .int), (cZ, .boolean)] (wM h0 q cI cZ (ms.1 0) (ms.1 1) (ms.1 2) (ms.1 3) (ms.1 4) (ms.1 5) (ms.1 6) (ms.1 7) (ms.1 8) (ms.1 9) (ms.1 10) (ms.1 11) (ms.2 0) (ms.2 1) (ms.2 2) (ms.2 3) (ms.2 4) (ms.2 5) (ms.2 6) (ms.2 7) (ms.2 8) (ms.2 9) (ms.2 10)) (wM h0 q cI cZ ((sq_mW ms x1 x2 x3 x4 x5 x6).1 0) ((sq_mW ms x1 x2 x3 x4 x5 x6).1 1) ((sq_mW ms x1 x2 x3 x4 x5 x6).1 2) ((sq_mW ms x1 x2 x3 x4 x5 x6).1 3) ((sq_mW ms x1 x2 x3 x4 x5 x6).1 4) ((sq_mW ms x1 x2 x3 x4 x5 x6).1 5) ((sq_mW ms x1 x2 x3 x4 x5 x6).1 6) ((sq_mW ms x1 x2 x3 x4 x5 x6).1 7) ((sq_mW ms x1 x2 x3 x4 x5 x6).1 8) ((sq_mW ms x1 x2 x3 x4 x5 x6).1 9) ((sq_mW ms x1 x2 x3 x4 x5 x6).1 10) ((sq_mW ms x1 x2 x3 x4 x5 x6).1 11) ((sq_mW ms x1 x2 x3 x4 x5 x6).2 0) ((sq_mW ms x1 x2 x3 x4 x5 x6).2 1) ((sq_mW ms x1 x2 x3 x4 x5 x6).2 2) ((sq_mW ms x1 x2 x3 x4 x5 x6).2 3) ((sq_mW ms x1 x2 x3 x4 x5 x6).2 4) ((sq_mW ms x1 x2 x3 x4 x5 x6).2 5) ((sq_mW ms x1 x2 x3 x4 x5 x6).2 6) ((sq_mW ms x1 x2 x3 x4 x5 x6).2 7) ((sq_mW ms x1 x2 x3 x4 x5 x6).2 8) ((sq_mW ms x1 x2 x3 x4 x5 x6).2 9) ((sq_mW ms x1 x2 x3 x4 x5 x6).2 10)) (sq_mrW ms) := by
  refine sq_ofWi (cc := cX1_weights) (maxL := 7) (by decide) rfl (Nat.le_of_ble_eq_true rfl) (vp_nar_int _) ?_
  intro p e s m args below meth c A ls Q hx hb hts hown hml hK hP hD hS hA hl hend
  have hl : lv_has ls 7 [(0, .ref h0), (1, .int x1), (2, .int x2), (3, .int x3), (4, .int x4), (5, .int x5), (6, .int x6)] := hl
  have hin : ∀ w ∈ u_ws RX1 TX1 23, w ∈ wsX1_weights := fun w h => List.mem_cons_of_mem _ (inX1 w h)
  have k13 := hts _ (List.mem_cons_of_mem _ mfX1_13)
  have k60 := hts _ (List.mem_cons_of_mem _ mfX1_60)
  have T1 : ∀ (c9 : Bool) (H : Heap) (locs : List Loc) (ls : Array Slot), c9 = decide (ms.2 3 = 120) → va_P (dC, dI) vwCl (wM h0 q cI cZ (ms.1 0) (ms.1 1) (ms.1 2) (ms.1 3) (ms.1 4) (ms.1 5) (ms.1 6) (ms.1 7) (ms.1 8) (ms.1 9) (ms.1 10) (ms.1 11) (ms.2 0) (ms.2 1) (ms.2 2) (ms.2 3) (ms.2 4) (ms.2 5) (ms.2 6) (ms.2 7) (ms.2 8) (ms.2 9) (ms.2 10)) H → va_D A (wM h0 q cI cZ (ms.1 0) (ms.1 1) (ms.1 2) (ms.1 3) (ms.1 4) (ms.1 5) (ms.1 6) (ms.1 7) (ms.1 8) (ms.1 9) (ms.1 10) (ms.1 11) (ms.2 0) (ms.2 1) (ms.2 2) (ms.2 3) (ms.2 4) (ms.2 5) (ms.2 6) (ms.2 7) (ms.2 8) (ms.2 9) (ms.2 10)) → va_S A s.heap H locs → lv_has ls 7 [(0, .ref h0), (1, .int x1), (2, .int x2), (3, .int x3), (4, .int x4), (5, .int x5), (6, .int x6)] → W p l e rmm_weights s m args below meth c H locs 0 0 Q (F0 m 15 ls [.int (sq_b c9), .ref h0]) := by
    intro c9 H locs ls hpre hP hD hS hl
    subst hpre
    refine lv_iconst (v := nI 0) hx hb dX1_weights_15 (by decide +kernel) ?_
    refine sq_calli (As := [.int (sq_b (decide (ms.2 3 = 120))), .int (sq_b false)]) (k_refuse l dC dI h0 q cI cZ (ms.1 0) (ms.1 1) (ms.1 2) (ms.1 3) (ms.1 4) (ms.1 5) (ms.1 6) (ms.1 7) (ms.1 8) (ms.1 9) (ms.1 10) (ms.1 11) (ms.2 0) (ms.2 1) (ms.2 2) (ms.2 3) (ms.2 4) (ms.2 5) (ms.2 6) (ms.2 7) (ms.2 8) (ms.2 9) (ms.2 10) (decide (ms.2 3 = 120)) false) ⟨hx, hb, hml, hown, hts⟩ (cwV 2 hts (sq_good gvX1_86) rfl rfl rfl (by decide +kernel) ⟨Nat.le_of_ble_eq_true rfl, Nat.le_of_ble_eq_true rfl⟩) hK hP hD hS hA rfl rfl rfl rfl hl.1 rfl (Nat.le_of_ble_eq_true rfl) dX1_weights_16 ⟨Nat.zero_le _, Nat.zero_le _⟩ (fun H locs hP hD hS => ?_)
    refine lv_if_eq (tgt := 24) hx hb dX1_weights_19 (by decide) (fun hc => ?_) (fun hc => ?_)
    · have hk : sq_mkW ms = 0 := by have h2 : ¬ 0 < sq_mkW ms := sq_b0d hc; omega
      have hp : ¬ ms.2 3 = 120 := fun h => by unfold sq_mkW at hk; rw [decide_eq_true h] at hk; exact absurd hk (by decide)
      have hP : va_P (dC, dI) vwCl (wM h0 q cI cZ (ms.1 0) (ms.1 1) (ms.1 2) (ms.1 3) (ms.1 4) (ms.1 5) (ms.1 6) (ms.1 7) (ms.1 8) (ms.1 9) (ms.1 10) (ms.1 11) (sq_mkW ms) (ms.2 1) (ms.2 2) (ms.2 3) (ms.2 4) (ms.2 5) (ms.2 6) (ms.2 7) (ms.2 8) (ms.2 9) (ms.2 10)) H := hP
      have hD : va_D A (wM h0 q cI cZ (ms.1 0) (ms.1 1) (ms.1 2) (ms.1 3) (ms.1 4) (ms.1 5) (ms.1 6) (ms.1 7) (ms.1 8) (ms.1 9) (ms.1 10) (ms.1 11) (sq_mkW ms) (ms.2 1) (ms.2 2) (ms.2 3) (ms.2 4) (ms.2 5) (ms.2 6) (ms.2 7) (ms.2 8) (ms.2 9) (ms.2 10)) := hD
      rw [hk] at hP hD
      refine lv_aload_n hx hb dX1_weights_24 rfl (lv_at hl 0 rfl) ?_
      refine va_get (D := (dC, dI)) (ci := 1) (v := .ref (q 0)) (C := RX1) (T := TX1) (N := 23) hx hb hts hin hown hK hP 0 rfl rfl 7 (by decide) k13 (fun _ h9 => h9) rfl dX1_weights_25 ?_
      refine lv_bipush (v := nI 6) hx hb dX1_weights_28 (by decide +kernel) ?_
      refine lv_aload_n hx hb dX1_weights_30 rfl (lv_at hl 0 rfl) ?_
      refine va_get (D := (dC, dI)) (ci := 1) (v := .int (nI (ms.2 3))) (C := RX1) (T := TX1) (N := 23) hx hb hts hin hown hK hP 0 rfl rfl 3 (by decide) k60 (fun _ h9 => h9) rfl dX1_weights_31 ?_
      refine sq_imulc hx hb dX1_weights_34 ?_
      refine lv_iload_n hx hb dX1_weights_35 rfl (lv_at hl 1 rfl) ?_
      refine lv_iload_n hx hb dX1_weights_36 rfl (lv_at hl 2 rfl) ?_
      refine lv_iload_n hx hb dX1_weights_37 rfl (lv_at hl 3 rfl) ?_
      refine lv_iload hx hb dX1_weights_38 (lv_at hl 4 rfl) ?_
      refine lv_iload hx hb dX1_weights_40 (lv_at hl 5 rfl) ?_
      refine lv_iload hx hb dX1_weights_42 (lv_at hl 6 rfl) ?_
      refine sq_callsv (As := [.ref (q 0), .int (nI ((ms.2 3) * 6)), .int x1, .int x2, .int x3, .int x4, .int x5, .int x6]) (k_six l (dC, dI) vwCl [(cI, .int), (cZ, .boolean)] (wM h0 q cI cZ (ms.1 0) (ms.1 1) (ms.1 2) (ms.1 3) (ms.1 4) (ms.1 5) (ms.1 6) (ms.1 7) (ms.1 8) (ms.1 9) (ms.1 10) (ms.1 11) 0 (ms.2 1) (ms.2 2) (ms.2 3) (ms.2 4) (ms.2 5) (ms.2 6) (ms.2 7) (ms.2 8) (ms.2 9) (ms.2 10)) 1 0 (q 0) cI 720 (ms.1 0) ((ms.2 3) * 6) x1 x2 x3 x4 x5 x6 rfl rfl (by omega) (by decide)) ⟨hx, hb, hml, hown, hts⟩ (va_cwS 8 hts (sq_good gsX1_90) rfl rfl rfl (by decide +kernel) ⟨Nat.le_of_ble_eq_true rfl, Nat.le_of_ble_eq_true rfl⟩) hK hP hD hS hA rfl hl.1 rfl (Nat.le_of_ble_eq_true rfl) dX1_weights_44 ⟨Nat.zero_le _, Nat.zero_le _⟩ (fun H locs hP hD hS => ?_)
      have hP : va_P (dC, dI) vwCl (wM h0 q cI cZ (sq_p6 (ms.1 0) ((ms.2 3) * 6) x1 x2 x3 x4 x5 x6) (ms.1 1) (ms.1 2) (ms.1 3) (ms.1 4) (ms.1 5) (ms.1 6) (ms.1 7) (ms.1 8) (ms.1 9) (ms.1 10) (ms.1 11) 0 (ms.2 1) (ms.2 2) (ms.2 3) (ms.2 4) (ms.2 5) (ms.2 6) (ms.2 7) (ms.2 8) (ms.2 9) (ms.2 10)) H := hP
      have hD : va_D A (wM h0 q cI cZ (sq_p6 (ms.1 0) ((ms.2 3) * 6) x1 x2 x3 x4 x5 x6) (ms.1 1) (ms.1 2) (ms.1 3) (ms.1 4) (ms.1 5) (ms.1 6) (ms.1 7) (ms.1 8) (ms.1 9) (ms.1 10) (ms.1 11) 0 (ms.2 1) (ms.2 2) (ms.2 3) (ms.2 4) (ms.2 5) (ms.2 6) (ms.2 7) (ms.2 8) (ms.2 9) (ms.2 10)) := hD
      refine lv_aload_n hx hb dX1_weights_47 rfl (lv_at hl 0 rfl) ?_
      refine lv_dup hx hb dX1_weights_48 rfl ?_
      refine va_get (D := (dC, dI)) (ci := 1) (v := .int (nI (ms.2 3))) (C := RX1) (T := TX1) (N := 23) hx hb hts hin hown hK hP 0 rfl rfl 3 (by decide) k60 (fun _ h9 => h9) rfl dX1_weights_49 ?_
      refine lv_iconst (v := nI 1) hx hb dX1_weights_52 (by decide +kernel) ?_
      refine sq_iadd hx hb dX1_weights_53 ?_
      refine va_put (D := (dC, dI)) (ci := 1) (v := .int (nI ((ms.2 3) + 1))) (ty := .int) (C := RX1) (T := TX1) (N := 23) hx hb hts hin tyX1 tyX1_ok nmX1 hown hK hP hD hS 0 rfl rfl 3 (by decide) k60 (fun _ h9 => h9) rfl (by decide +kernel) rfl rfl (Nat.le_of_ble_eq_true rfl) dX1_weights_54 (fun H locs hP hD hS => ?_)
      have hP : va_P (dC, dI) vwCl (wM h0 q cI cZ (sq_p6 (ms.1 0) ((ms.2 3) * 6) x1 x2 x3 x4 x5 x6) (ms.1 1) (ms.1 2) (ms.1 3) (ms.1 4) (ms.1 5) (ms.1 6) (ms.1 7) (ms.1 8) (ms.1 9) (ms.1 10) (ms.1 11) 0 (ms.2 1) (ms.2 2) ((ms.2 3) + 1) (ms.2 4) (ms.2 5) (ms.2 6) (ms.2 7) (ms.2 8) (ms.2 9) (ms.2 10)) H := hP
      have hD : va_D A (wM h0 q cI cZ (sq_p6 (ms.1 0) ((ms.2 3) * 6) x1 x2 x3 x4 x5 x6) (ms.1 1) (ms.1 2) (ms.1 3) (ms.1 4) (ms.1 5) (ms.1 6) (ms.1 7) (ms.1 8) (ms.1 9) (ms.1 10) (ms.1 11) 0 (ms.2 1) (ms.2 2) ((ms.2 3) + 1) (ms.2 4) (ms.2 5) (ms.2 6) (ms.2 7) (ms.2 8) (ms.2 9) (ms.2 10)) := hD
      refine lv_aload_n hx hb dX1_weights_57 rfl (lv_at hl 0 rfl) ?_
      refine va_get (D := (dC, dI)) (ci := 1) (v := .int (nI ((ms.2 3) + 1))) (C := RX1) (T := TX1) (N := 23) hx hb hts hin hown hK hP 0 rfl rfl 3 (by decide) k60 (fun _ h9 => h9) rfl dX1_weights_58 ?_
      refine lv_iconst (v := nI 1) hx hb dX1_weights_61 (by decide +kernel) ?_
      refine sq_isub hx hb (by omega) dX1_weights_62 ?_
      have hP : va_P (dC, dI) vwCl (wM h0 q cI cZ ((sq_mw (sq_mt ms 0) x1 x2 x3 x4 x5 x6).1 0) ((sq_mw (sq_mt ms 0) x1 x2 x3 x4 x5 x6).1 1) ((sq_mw (sq_mt ms 0) x1 x2 x3 x4 x5 x6).1 2) ((sq_mw (sq_mt ms 0) x1 x2 x3 x4 x5 x6).1 3) ((sq_mw (sq_mt ms 0) x1 x2 x3 x4 x5 x6).1 4) ((sq_mw (sq_mt ms 0) x1 x2 x3 x4 x5 x6).1 5) ((sq_mw (sq_mt ms 0) x1 x2 x3 x4 x5 x6).1 6) ((sq_mw (sq_mt ms 0) x1 x2 x3 x4 x5 x6).1 7) ((sq_mw (sq_mt ms 0) x1 x2 x3 x4 x5 x6).1 8) ((sq_mw (sq_mt ms 0) x1 x2 x3 x4 x5 x6).1 9) ((sq_mw (sq_mt ms 0) x1 x2 x3 x4 x5 x6).1 10) ((sq_mw (sq_mt ms 0) x1 x2 x3 x4 x5 x6).1 11) ((sq_mw (sq_mt ms 0) x1 x2 x3 x4 x5 x6).2 0) ((sq_mw (sq_mt ms 0) x1 x2 x3 x4 x5 x6).2 1) ((sq_mw (sq_mt ms 0) x1 x2 x3 x4 x5 x6).2 2) ((sq_mw (sq_mt ms 0) x1 x2 x3 x4 x5 x6).2 3) ((sq_mw (sq_mt ms 0) x1 x2 x3 x4 x5 x6).2 4) ((sq_mw (sq_mt ms 0) x1 x2 x3 x4 x5 x6).2 5) ((sq_mw (sq_mt ms 0) x1 x2 x3 x4 x5 x6).2 6) ((sq_mw (sq_mt ms 0) x1 x2 x3 x4 x5 x6).2 7) ((sq_mw (sq_mt ms 0) x1 x2 x3 x4 x5 x6).2 8) ((sq_mw (sq_mt ms 0) x1 x2 x3 x4 x5 x6).2 9) ((sq_mw (sq_mt ms 0) x1 x2 x3 x4 x5 x6).2 10)) H := hP
      have hD : va_D A (wM h0 q cI cZ ((sq_mw (sq_mt ms 0) x1 x2 x3 x4 x5 x6).1 0) ((sq_mw (sq_mt ms 0) x1 x2 x3 x4 x5 x6).1 1) ((sq_mw (sq_mt ms 0) x1 x2 x3 x4 x5 x6).1 2) ((sq_mw (sq_mt ms 0) x1 x2 x3 x4 x5 x6).1 3) ((sq_mw (sq_mt ms 0) x1 x2 x3 x4 x5 x6).1 4) ((sq_mw (sq_mt ms 0) x1 x2 x3 x4 x5 x6).1 5) ((sq_mw (sq_mt ms 0) x1 x2 x3 x4 x5 x6).1 6) ((sq_mw (sq_mt ms 0) x1 x2 x3 x4 x5 x6).1 7) ((sq_mw (sq_mt ms 0) x1 x2 x3 x4 x5 x6).1 8) ((sq_mw (sq_mt ms 0) x1 x2 x3 x4 x5 x6).1 9) ((sq_mw (sq_mt ms 0) x1 x2 x3 x4 x5 x6).1 10) ((sq_mw (sq_mt ms 0) x1 x2 x3 x4 x5 x6).1 11) ((sq_mw (sq_mt ms 0) x1 x2 x3 x4 x5 x6).2 0) ((sq_mw (sq_mt ms 0) x1 x2 x3 x4 x5 x6).2 1) ((sq_mw (sq_mt ms 0) x1 x2 x3 x4 x5 x6).2 2) ((sq_mw (sq_mt ms 0) x1 x2 x3 x4 x5 x6).2 3) ((sq_mw (sq_mt ms 0) x1 x2 x3 x4 x5 x6).2 4) ((sq_mw (sq_mt ms 0) x1 x2 x3 x4 x5 x6).2 5) ((sq_mw (sq_mt ms 0) x1 x2 x3 x4 x5 x6).2 6) ((sq_mw (sq_mt ms 0) x1 x2 x3 x4 x5 x6).2 7) ((sq_mw (sq_mt ms 0) x1 x2 x3 x4 x5 x6).2 8) ((sq_mw (sq_mt ms 0) x1 x2 x3 x4 x5 x6).2 9) ((sq_mw (sq_mt ms 0) x1 x2 x3 x4 x5 x6).2 10)) := hD
      have e9 : (sq_mW ms x1 x2 x3 x4 x5 x6) = sq_mw (sq_mt ms 0) x1 x2 x3 x4 x5 x6 := by unfold sq_mW; rw [if_pos hk]
      rw [← e9] at hP hD
      have e8 : sq_mrW ms = nI (ms.2 3) := by unfold sq_mrW; rw [if_pos hk]
      exact hend _ _ _ _ _ (by rw [e8, Nat.add_sub_cancel]) hP hD hS dX1_weights_63
    · refine lv_iconst (v := nI 0) hx hb dX1_weights_22 (by decide +kernel) ?_
      have hP : va_P (dC, dI) vwCl (wM h0 q cI cZ ((sq_mt ms (sq_mkW ms)).1 0) ((sq_mt ms (sq_mkW ms)).1 1) ((sq_mt ms (sq_mkW ms)).1 2) ((sq_mt ms (sq_mkW ms)).1 3) ((sq_mt ms (sq_mkW ms)).1 4) ((sq_mt ms (sq_mkW ms)).1 5) ((sq_mt ms (sq_mkW ms)).1 6) ((sq_mt ms (sq_mkW ms)).1 7) ((sq_mt ms (sq_mkW ms)).1 8) ((sq_mt ms (sq_mkW ms)).1 9) ((sq_mt ms (sq_mkW ms)).1 10) ((sq_mt ms (sq_mkW ms)).1 11) ((sq_mt ms (sq_mkW ms)).2 0) ((sq_mt ms (sq_mkW ms)).2 1) ((sq_mt ms (sq_mkW ms)).2 2) ((sq_mt ms (sq_mkW ms)).2 3) ((sq_mt ms (sq_mkW ms)).2 4) ((sq_mt ms (sq_mkW ms)).2 5) ((sq_mt ms (sq_mkW ms)).2 6) ((sq_mt ms (sq_mkW ms)).2 7) ((sq_mt ms (sq_mkW ms)).2 8) ((sq_mt ms (sq_mkW ms)).2 9) ((sq_mt ms (sq_mkW ms)).2 10)) H := hP
      have hD : va_D A (wM h0 q cI cZ ((sq_mt ms (sq_mkW ms)).1 0) ((sq_mt ms (sq_mkW ms)).1 1) ((sq_mt ms (sq_mkW ms)).1 2) ((sq_mt ms (sq_mkW ms)).1 3) ((sq_mt ms (sq_mkW ms)).1 4) ((sq_mt ms (sq_mkW ms)).1 5) ((sq_mt ms (sq_mkW ms)).1 6) ((sq_mt ms (sq_mkW ms)).1 7) ((sq_mt ms (sq_mkW ms)).1 8) ((sq_mt ms (sq_mkW ms)).1 9) ((sq_mt ms (sq_mkW ms)).1 10) ((sq_mt ms (sq_mkW ms)).1 11) ((sq_mt ms (sq_mkW ms)).2 0) ((sq_mt ms (sq_mkW ms)).2 1) ((sq_mt ms (sq_mkW ms)).2 2) ((sq_mt ms (sq_mkW ms)).2 3) ((sq_mt ms (sq_mkW ms)).2 4) ((sq_mt ms (sq_mkW ms)).2 5) ((sq_mt ms (sq_mkW ms)).2 6) ((sq_mt ms (sq_mkW ms)).2 7) ((sq_mt ms (sq_mkW ms)).2 8) ((sq_mt ms (sq_mkW ms)).2 9) ((sq_mt ms (sq_mkW ms)).2 10)) := hD
      have hk : ¬ sq_mkW ms = 0 := by have h2 : 0 < sq_mkW ms := sq_bnd hc; omega
      have e9 : (sq_mW ms x1 x2 x3 x4 x5 x6) = sq_mt ms (sq_mkW ms) := by unfold sq_mW; rw [if_neg hk]
      rw [← e9] at hP hD
      exact hend _ _ _ _ _ (by unfold sq_mrW; rw [if_neg hk]; rfl) hP hD hS dX1_weights_23
  refine lv_aload_n hx hb dX1_weights_0 rfl (lv_at hl 0 rfl) ?_
  refine lv_aload_n hx hb dX1_weights_1 rfl (lv_at hl 0 rfl) ?_
  refine va_get (D := (dC, dI)) (ci := 1) (v := .int (nI (ms.2 3))) (C := RX1) (T := TX1) (N := 23) hx hb hts hin hown hK hP 0 rfl rfl 3 (by decide) k60 (fun _ h9 => h9) rfl dX1_weights_2 ?_
  refine lv_bipush (v := nI 120) hx hb dX1_weights_5 (by decide +kernel) ?_
  refine sq_icmp_ne (tgt := 14) hx hb (by omega) (by omega) dX1_weights_7 (by decide) (fun hc => ?_) (fun hc => ?_)
  · refine lv_iconst (v := nI 0) hx hb dX1_weights_14 (by decide +kernel) ?_
    exact T1 false _ _ ls (decide_eq_false hc).symm hP hD hS hl
  · refine lv_iconst (v := nI 1) hx hb dX1_weights_10 (by decide +kernel) ?_
    refine lv_goto (tgt := 15) hx hb dX1_weights_11 (by decide) ?_
    exact T1 true _ _ ls (decide_eq_true hc).symm hP hD hS hl
def rmm_vector : Room := { frames := 1, cells := 0, slots := 0, locals := 27 }
set_option maxHeartbeats 4000000 in
set_option maxRecDepth 100000 in
theorem k_vector (l : Launch) (dC : Nat → ClassId) (dI : Nat → Nat → Nat) (h0 : Nat) (q : Nat → Nat) (cI cZ : ClassId) (ms : SqS) (b x1 x2 x3 x4 x5 x6 : Int32) (b7 : ms.2 7 ≤ 200) (hz1 : vp_nar .boolean b = b) : sq_Mi l yX1_vector wsX1_vector rmm_vector [.ref h0, .int b, .int x1, .int x2, .int x3, .int x4, .int x5, .int x6] (dC, dI) vwCl [(cI, .int), (cZ, .boolean)] (wM h0 q cI cZ (ms.1 0) (ms.1 1) (ms.1 2) (ms.1 3) (ms.1 4) (ms.1 5) (ms.1 6) (ms.1 7) (ms.1 8) (ms.1 9) (ms.1 10) (ms.1 11) (ms.2 0) (ms.2 1) (ms.2 2) (ms.2 3) (ms.2 4) (ms.2 5) (ms.2 6) (ms.2 7) (ms.2 8) (ms.2 9) (ms.2 10)) (wM h0 q cI cZ ((sq_mV ms b x1 x2 x3 x4 x5 x6).1 0) ((sq_mV ms b x1 x2 x3 x4 x5 x6).1 1) ((sq_mV ms b x1 x2 x3 x4 x5 x6).1 2) ((sq_mV ms b x1 x2 x3 x4 x5 x6).1 3) ((sq_mV ms b x1 x2 x3 x4 x5 x6).1 4) ((sq_mV ms b x1 x2 x3 x4 x5 x6).1 5) ((sq_mV ms b x1 x2 x3 x4 x5 x6).1 6) ((sq_mV ms b x1 x2 x3 x4 x5 x6).1 7) ((sq_mV ms b x1 x2 x3 x4 x5 x6).1 8) ((sq_mV ms b x1 x2 x3 x4 x5 x6).1 9) ((sq_mV ms b x1 x2 x3 x4 x5 x6).1 10) ((sq_mV ms b x1 x2 x3 x4 x5 x6).1 11) ((sq_mV ms b x1 x2 x3 x4 x5 x6).2 0) ((sq_mV ms b x1 x2 x3 x4 x5 x6).2 1) ((sq_mV ms b x1 x2 x3 x4 x5 x6).2 2) ((sq_mV ms b x1 x2 x3 x4 x5 x6).2 3) ((sq_mV ms b x1 x2 x3 x4 x5 x6).2 4) ((sq_mV ms b x1 x2 x3 x4 x5 x6).2 5) ((sq_mV ms b x1 x2 x3 x4 x5 x6).2 6) ((sq_mV ms b x1 x2 x3 x4 x5 x6).2 7) ((sq_mV ms b x1 x2 x3 x4 x5 x6).2 8) ((sq_mV ms b x1 x2 x3 x4 x5 x6).2 9) ((sq_mV ms b x1 x2 x3 x4 x5 x6).2 10)) (sq_mrV ms) := by
  refine sq_ofWi (cc := cX1_vector) (maxL := 8) (by decide) rfl (Nat.le_of_ble_eq_true rfl) (vp_nar_int _) ?_
  intro p e s m args below meth c A ls Q hx hb hts hown hml hK hP hD hS hA hl hend
  have hl : lv_has ls 8 [(0, .ref h0), (1, .int b), (2, .int x1), (3, .int x2), (4, .int x3), (5, .int x4), (6, .int x5), (7, .int x6)] := hl
  have hin : ∀ w ∈ u_ws RX1 TX1 23, w ∈ wsX1_vector := fun w h => List.mem_cons_of_mem _ (inX1 w h)
  have k17 := hts _ (List.mem_cons_of_mem _ mfX1_17)
  have k20 := hts _ (List.mem_cons_of_mem _ mfX1_20)
  have k24 := hts _ (List.mem_cons_of_mem _ mfX1_24)
  have k73 := hts _ (List.mem_cons_of_mem _ mfX1_73)
  have T1 : ∀ (c9 : Bool) (H : Heap) (locs : List Loc) (ls : Array Slot), c9 = decide (ms.2 7 = 200) → va_P (dC, dI) vwCl (wM h0 q cI cZ (ms.1 0) (ms.1 1) (ms.1 2) (ms.1 3) (ms.1 4) (ms.1 5) (ms.1 6) (ms.1 7) (ms.1 8) (ms.1 9) (ms.1 10) (ms.1 11) (ms.2 0) (ms.2 1) (ms.2 2) (ms.2 3) (ms.2 4) (ms.2 5) (ms.2 6) (ms.2 7) (ms.2 8) (ms.2 9) (ms.2 10)) H → va_D A (wM h0 q cI cZ (ms.1 0) (ms.1 1) (ms.1 2) (ms.1 3) (ms.1 4) (ms.1 5) (ms.1 6) (ms.1 7) (ms.1 8) (ms.1 9) (ms.1 10) (ms.1 11) (ms.2 0) (ms.2 1) (ms.2 2) (ms.2 3) (ms.2 4) (ms.2 5) (ms.2 6) (ms.2 7) (ms.2 8) (ms.2 9) (ms.2 10)) → va_S A s.heap H locs → lv_has ls 8 [(0, .ref h0), (1, .int b), (2, .int x1), (3, .int x2), (4, .int x3), (5, .int x4), (6, .int x5), (7, .int x6)] → W p l e rmm_vector s m args below meth c H locs 0 0 Q (F0 m 16 ls [.int (sq_b c9), .ref h0]) := by
    intro c9 H locs ls hpre hP hD hS hl
    subst hpre
    refine lv_iconst (v := nI 0) hx hb dX1_vector_16 (by decide +kernel) ?_
    refine sq_calli (As := [.int (sq_b (decide (ms.2 7 = 200))), .int (sq_b false)]) (k_refuse l dC dI h0 q cI cZ (ms.1 0) (ms.1 1) (ms.1 2) (ms.1 3) (ms.1 4) (ms.1 5) (ms.1 6) (ms.1 7) (ms.1 8) (ms.1 9) (ms.1 10) (ms.1 11) (ms.2 0) (ms.2 1) (ms.2 2) (ms.2 3) (ms.2 4) (ms.2 5) (ms.2 6) (ms.2 7) (ms.2 8) (ms.2 9) (ms.2 10) (decide (ms.2 7 = 200)) false) ⟨hx, hb, hml, hown, hts⟩ (cwV 2 hts (sq_good gvX1_86) rfl rfl rfl (by decide +kernel) ⟨Nat.le_of_ble_eq_true rfl, Nat.le_of_ble_eq_true rfl⟩) hK hP hD hS hA rfl rfl rfl rfl hl.1 rfl (Nat.le_of_ble_eq_true rfl) dX1_vector_17 ⟨Nat.zero_le _, Nat.zero_le _⟩ (fun H locs hP hD hS => ?_)
    refine lv_if_eq (tgt := 25) hx hb dX1_vector_20 (by decide) (fun hc => ?_) (fun hc => ?_)
    · have hk : sq_mkV ms = 0 := by have h2 : ¬ 0 < sq_mkV ms := sq_b0d hc; omega
      have hp : ¬ ms.2 7 = 200 := fun h => by unfold sq_mkV at hk; rw [decide_eq_true h] at hk; exact absurd hk (by decide)
      have hP : va_P (dC, dI) vwCl (wM h0 q cI cZ (ms.1 0) (ms.1 1) (ms.1 2) (ms.1 3) (ms.1 4) (ms.1 5) (ms.1 6) (ms.1 7) (ms.1 8) (ms.1 9) (ms.1 10) (ms.1 11) (sq_mkV ms) (ms.2 1) (ms.2 2) (ms.2 3) (ms.2 4) (ms.2 5) (ms.2 6) (ms.2 7) (ms.2 8) (ms.2 9) (ms.2 10)) H := hP
      have hD : va_D A (wM h0 q cI cZ (ms.1 0) (ms.1 1) (ms.1 2) (ms.1 3) (ms.1 4) (ms.1 5) (ms.1 6) (ms.1 7) (ms.1 8) (ms.1 9) (ms.1 10) (ms.1 11) (sq_mkV ms) (ms.2 1) (ms.2 2) (ms.2 3) (ms.2 4) (ms.2 5) (ms.2 6) (ms.2 7) (ms.2 8) (ms.2 9) (ms.2 10)) := hD
      rw [hk] at hP hD
      refine lv_aload_n hx hb dX1_vector_25 rfl (lv_at hl 0 rfl) ?_
      refine va_get (D := (dC, dI)) (ci := 1) (v := .ref (q 1)) (C := RX1) (T := TX1) (N := 23) hx hb hts hin hown hK hP 0 rfl rfl 12 (by decide) k17 (fun _ h9 => h9) rfl dX1_vector_26 ?_
      refine lv_bipush (v := nI 6) hx hb dX1_vector_29 (by decide +kernel) ?_
      refine lv_aload_n hx hb dX1_vector_31 rfl (lv_at hl 0 rfl) ?_
      refine va_get (D := (dC, dI)) (ci := 1) (v := .int (nI (ms.2 7))) (C := RX1) (T := TX1) (N := 23) hx hb hts hin hown hK hP 0 rfl rfl 8 (by decide) k73 (fun _ h9 => h9) rfl dX1_vector_32 ?_
      refine sq_imulc hx hb dX1_vector_35 ?_
      refine lv_iload_n hx hb dX1_vector_36 rfl (lv_at hl 2 rfl) ?_
      refine lv_iload_n hx hb dX1_vector_37 rfl (lv_at hl 3 rfl) ?_
      refine lv_iload hx hb dX1_vector_38 (lv_at hl 4 rfl) ?_
      refine lv_iload hx hb dX1_vector_40 (lv_at hl 5 rfl) ?_
      refine lv_iload hx hb dX1_vector_42 (lv_at hl 6 rfl) ?_
      refine lv_iload hx hb dX1_vector_44 (lv_at hl 7 rfl) ?_
      refine sq_callsv (As := [.ref (q 1), .int (nI ((ms.2 7) * 6)), .int x1, .int x2, .int x3, .int x4, .int x5, .int x6]) (k_six l (dC, dI) vwCl [(cI, .int), (cZ, .boolean)] (wM h0 q cI cZ (ms.1 0) (ms.1 1) (ms.1 2) (ms.1 3) (ms.1 4) (ms.1 5) (ms.1 6) (ms.1 7) (ms.1 8) (ms.1 9) (ms.1 10) (ms.1 11) 0 (ms.2 1) (ms.2 2) (ms.2 3) (ms.2 4) (ms.2 5) (ms.2 6) (ms.2 7) (ms.2 8) (ms.2 9) (ms.2 10)) 2 0 (q 1) cI 1200 (ms.1 1) ((ms.2 7) * 6) x1 x2 x3 x4 x5 x6 rfl rfl (by omega) (by decide)) ⟨hx, hb, hml, hown, hts⟩ (va_cwS 8 hts (sq_good gsX1_90) rfl rfl rfl (by decide +kernel) ⟨Nat.le_of_ble_eq_true rfl, Nat.le_of_ble_eq_true rfl⟩) hK hP hD hS hA rfl hl.1 rfl (Nat.le_of_ble_eq_true rfl) dX1_vector_46 ⟨Nat.zero_le _, Nat.zero_le _⟩ (fun H locs hP hD hS => ?_)
      have hP : va_P (dC, dI) vwCl (wM h0 q cI cZ (ms.1 0) (sq_p6 (ms.1 1) ((ms.2 7) * 6) x1 x2 x3 x4 x5 x6) (ms.1 2) (ms.1 3) (ms.1 4) (ms.1 5) (ms.1 6) (ms.1 7) (ms.1 8) (ms.1 9) (ms.1 10) (ms.1 11) 0 (ms.2 1) (ms.2 2) (ms.2 3) (ms.2 4) (ms.2 5) (ms.2 6) (ms.2 7) (ms.2 8) (ms.2 9) (ms.2 10)) H := hP
      have hD : va_D A (wM h0 q cI cZ (ms.1 0) (sq_p6 (ms.1 1) ((ms.2 7) * 6) x1 x2 x3 x4 x5 x6) (ms.1 2) (ms.1 3) (ms.1 4) (ms.1 5) (ms.1 6) (ms.1 7) (ms.1 8) (ms.1 9) (ms.1 10) (ms.1 11) 0 (ms.2 1) (ms.2 2) (ms.2 3) (ms.2 4) (ms.2 5) (ms.2 6) (ms.2 7) (ms.2 8) (ms.2 9) (ms.2 10)) := hD
      refine lv_aload_n hx hb dX1_vector_49 rfl (lv_at hl 0 rfl) ?_
      refine va_get (D := (dC, dI)) (ci := 1) (v := .ref (q 2)) (C := RX1) (T := TX1) (N := 23) hx hb hts hin hown hK hP 0 rfl rfl 13 (by decide) k20 (fun _ h9 => h9) rfl dX1_vector_50 ?_
      refine lv_aload_n hx hb dX1_vector_53 rfl (lv_at hl 0 rfl) ?_
      refine va_get (D := (dC, dI)) (ci := 1) (v := .int (nI (ms.2 7))) (C := RX1) (T := TX1) (N := 23) hx hb hts hin hown hK hP 0 rfl rfl 8 (by decide) k73 (fun _ h9 => h9) rfl dX1_vector_54 ?_
      refine lv_iload_n hx hb dX1_vector_57 rfl (lv_at hl 1 rfl) ?_
      refine sq_zast hx hb hK hP hD hS 3 1 rfl rfl (i := (ms.2 7)) (by omega) (by decide) hz1 dX1_vector_58 (fun H locs hP hD hS => ?_)
      have hP : va_P (dC, dI) vwCl (wM h0 q cI cZ (ms.1 0) (sq_p6 (ms.1 1) ((ms.2 7) * 6) x1 x2 x3 x4 x5 x6) (upd (ms.1 2) (ms.2 7) b) (ms.1 3) (ms.1 4) (ms.1 5) (ms.1 6) (ms.1 7) (ms.1 8) (ms.1 9) (ms.1 10) (ms.1 11) 0 (ms.2 1) (ms.2 2) (ms.2 3) (ms.2 4) (ms.2 5) (ms.2 6) (ms.2 7) (ms.2 8) (ms.2 9) (ms.2 10)) H := hP
      have hD : va_D A (wM h0 q cI cZ (ms.1 0) (sq_p6 (ms.1 1) ((ms.2 7) * 6) x1 x2 x3 x4 x5 x6) (upd (ms.1 2) (ms.2 7) b) (ms.1 3) (ms.1 4) (ms.1 5) (ms.1 6) (ms.1 7) (ms.1 8) (ms.1 9) (ms.1 10) (ms.1 11) 0 (ms.2 1) (ms.2 2) (ms.2 3) (ms.2 4) (ms.2 5) (ms.2 6) (ms.2 7) (ms.2 8) (ms.2 9) (ms.2 10)) := hD
      refine lv_aload_n hx hb dX1_vector_59 rfl (lv_at hl 0 rfl) ?_
      refine va_get (D := (dC, dI)) (ci := 1) (v := .ref (q 3)) (C := RX1) (T := TX1) (N := 23) hx hb hts hin hown hK hP 0 rfl rfl 14 (by decide) k24 (fun _ h9 => h9) rfl dX1_vector_60 ?_
      refine lv_aload_n hx hb dX1_vector_63 rfl (lv_at hl 0 rfl) ?_
      refine va_get (D := (dC, dI)) (ci := 1) (v := .int (nI (ms.2 7))) (C := RX1) (T := TX1) (N := 23) hx hb hts hin hown hK hP 0 rfl rfl 8 (by decide) k73 (fun _ h9 => h9) rfl dX1_vector_64 ?_
      refine lv_iconst (v := (-1)) hx hb dX1_vector_67 (by decide +kernel) ?_
      refine sq_iast hx hb hK hP hD hS 4 0 rfl rfl (i := (ms.2 7)) (by omega) (by decide) dX1_vector_68 (fun H locs hP hD hS => ?_)
      have hP : va_P (dC, dI) vwCl (wM h0 q cI cZ (ms.1 0) (sq_p6 (ms.1 1) ((ms.2 7) * 6) x1 x2 x3 x4 x5 x6) (upd (ms.1 2) (ms.2 7) b) (upd (ms.1 3) (ms.2 7) (-1)) (ms.1 4) (ms.1 5) (ms.1 6) (ms.1 7) (ms.1 8) (ms.1 9) (ms.1 10) (ms.1 11) 0 (ms.2 1) (ms.2 2) (ms.2 3) (ms.2 4) (ms.2 5) (ms.2 6) (ms.2 7) (ms.2 8) (ms.2 9) (ms.2 10)) H := hP
      have hD : va_D A (wM h0 q cI cZ (ms.1 0) (sq_p6 (ms.1 1) ((ms.2 7) * 6) x1 x2 x3 x4 x5 x6) (upd (ms.1 2) (ms.2 7) b) (upd (ms.1 3) (ms.2 7) (-1)) (ms.1 4) (ms.1 5) (ms.1 6) (ms.1 7) (ms.1 8) (ms.1 9) (ms.1 10) (ms.1 11) 0 (ms.2 1) (ms.2 2) (ms.2 3) (ms.2 4) (ms.2 5) (ms.2 6) (ms.2 7) (ms.2 8) (ms.2 9) (ms.2 10)) := hD
      refine lv_aload_n hx hb dX1_vector_69 rfl (lv_at hl 0 rfl) ?_
      refine lv_dup hx hb dX1_vector_70 rfl ?_
      refine va_get (D := (dC, dI)) (ci := 1) (v := .int (nI (ms.2 7))) (C := RX1) (T := TX1) (N := 23) hx hb hts hin hown hK hP 0 rfl rfl 8 (by decide) k73 (fun _ h9 => h9) rfl dX1_vector_71 ?_
      refine lv_iconst (v := nI 1) hx hb dX1_vector_74 (by decide +kernel) ?_
      refine sq_iadd hx hb dX1_vector_75 ?_
      refine va_put (D := (dC, dI)) (ci := 1) (v := .int (nI ((ms.2 7) + 1))) (ty := .int) (C := RX1) (T := TX1) (N := 23) hx hb hts hin tyX1 tyX1_ok nmX1 hown hK hP hD hS 0 rfl rfl 8 (by decide) k73 (fun _ h9 => h9) rfl (by decide +kernel) rfl rfl (Nat.le_of_ble_eq_true rfl) dX1_vector_76 (fun H locs hP hD hS => ?_)
      have hP : va_P (dC, dI) vwCl (wM h0 q cI cZ (ms.1 0) (sq_p6 (ms.1 1) ((ms.2 7) * 6) x1 x2 x3 x4 x5 x6) (upd (ms.1 2) (ms.2 7) b) (upd (ms.1 3) (ms.2 7) (-1)) (ms.1 4) (ms.1 5) (ms.1 6) (ms.1 7) (ms.1 8) (ms.1 9) (ms.1 10) (ms.1 11) 0 (ms.2 1) (ms.2 2) (ms.2 3) (ms.2 4) (ms.2 5) (ms.2 6) ((ms.2 7) + 1) (ms.2 8) (ms.2 9) (ms.2 10)) H := hP
      have hD : va_D A (wM h0 q cI cZ (ms.1 0) (sq_p6 (ms.1 1) ((ms.2 7) * 6) x1 x2 x3 x4 x5 x6) (upd (ms.1 2) (ms.2 7) b) (upd (ms.1 3) (ms.2 7) (-1)) (ms.1 4) (ms.1 5) (ms.1 6) (ms.1 7) (ms.1 8) (ms.1 9) (ms.1 10) (ms.1 11) 0 (ms.2 1) (ms.2 2) (ms.2 3) (ms.2 4) (ms.2 5) (ms.2 6) ((ms.2 7) + 1) (ms.2 8) (ms.2 9) (ms.2 10)) := hD
      refine lv_aload_n hx hb dX1_vector_79 rfl (lv_at hl 0 rfl) ?_
      refine va_get (D := (dC, dI)) (ci := 1) (v := .int (nI ((ms.2 7) + 1))) (C := RX1) (T := TX1) (N := 23) hx hb hts hin hown hK hP 0 rfl rfl 8 (by decide) k73 (fun _ h9 => h9) rfl dX1_vector_80 ?_
      refine lv_iconst (v := nI 1) hx hb dX1_vector_83 (by decide +kernel) ?_
      refine sq_isub hx hb (by omega) dX1_vector_84 ?_
      have hP : va_P (dC, dI) vwCl (wM h0 q cI cZ ((sq_mv (sq_mt ms 0) b x1 x2 x3 x4 x5 x6).1 0) ((sq_mv (sq_mt ms 0) b x1 x2 x3 x4 x5 x6).1 1) ((sq_mv (sq_mt ms 0) b x1 x2 x3 x4 x5 x6).1 2) ((sq_mv (sq_mt ms 0) b x1 x2 x3 x4 x5 x6).1 3) ((sq_mv (sq_mt ms 0) b x1 x2 x3 x4 x5 x6).1 4) ((sq_mv (sq_mt ms 0) b x1 x2 x3 x4 x5 x6).1 5) ((sq_mv (sq_mt ms 0) b x1 x2 x3 x4 x5 x6).1 6) ((sq_mv (sq_mt ms 0) b x1 x2 x3 x4 x5 x6).1 7) ((sq_mv (sq_mt ms 0) b x1 x2 x3 x4 x5 x6).1 8) ((sq_mv (sq_mt ms 0) b x1 x2 x3 x4 x5 x6).1 9) ((sq_mv (sq_mt ms 0) b x1 x2 x3 x4 x5 x6).1 10) ((sq_mv (sq_mt ms 0) b x1 x2 x3 x4 x5 x6).1 11) ((sq_mv (sq_mt ms 0) b x1 x2 x3 x4 x5 x6).2 0) ((sq_mv (sq_mt ms 0) b x1 x2 x3 x4 x5 x6).2 1) ((sq_mv (sq_mt ms 0) b x1 x2 x3 x4 x5 x6).2 2) ((sq_mv (sq_mt ms 0) b x1 x2 x3 x4 x5 x6).2 3) ((sq_mv (sq_mt ms 0) b x1 x2 x3 x4 x5 x6).2 4) ((sq_mv (sq_mt ms 0) b x1 x2 x3 x4 x5 x6).2 5) ((sq_mv (sq_mt ms 0) b x1 x2 x3 x4 x5 x6).2 6) ((sq_mv (sq_mt ms 0) b x1 x2 x3 x4 x5 x6).2 7) ((sq_mv (sq_mt ms 0) b x1 x2 x3 x4 x5 x6).2 8) ((sq_mv (sq_mt ms 0) b x1 x2 x3 x4 x5 x6).2 9) ((sq_mv (sq_mt ms 0) b x1 x2 x3 x4 x5 x6).2 10)) H := hP
      have hD : va_D A (wM h0 q cI cZ ((sq_mv (sq_mt ms 0) b x1 x2 x3 x4 x5 x6).1 0) ((sq_mv (sq_mt ms 0) b x1 x2 x3 x4 x5 x6).1 1) ((sq_mv (sq_mt ms 0) b x1 x2 x3 x4 x5 x6).1 2) ((sq_mv (sq_mt ms 0) b x1 x2 x3 x4 x5 x6).1 3) ((sq_mv (sq_mt ms 0) b x1 x2 x3 x4 x5 x6).1 4) ((sq_mv (sq_mt ms 0) b x1 x2 x3 x4 x5 x6).1 5) ((sq_mv (sq_mt ms 0) b x1 x2 x3 x4 x5 x6).1 6) ((sq_mv (sq_mt ms 0) b x1 x2 x3 x4 x5 x6).1 7) ((sq_mv (sq_mt ms 0) b x1 x2 x3 x4 x5 x6).1 8) ((sq_mv (sq_mt ms 0) b x1 x2 x3 x4 x5 x6).1 9) ((sq_mv (sq_mt ms 0) b x1 x2 x3 x4 x5 x6).1 10) ((sq_mv (sq_mt ms 0) b x1 x2 x3 x4 x5 x6).1 11) ((sq_mv (sq_mt ms 0) b x1 x2 x3 x4 x5 x6).2 0) ((sq_mv (sq_mt ms 0) b x1 x2 x3 x4 x5 x6).2 1) ((sq_mv (sq_mt ms 0) b x1 x2 x3 x4 x5 x6).2 2) ((sq_mv (sq_mt ms 0) b x1 x2 x3 x4 x5 x6).2 3) ((sq_mv (sq_mt ms 0) b x1 x2 x3 x4 x5 x6).2 4) ((sq_mv (sq_mt ms 0) b x1 x2 x3 x4 x5 x6).2 5) ((sq_mv (sq_mt ms 0) b x1 x2 x3 x4 x5 x6).2 6) ((sq_mv (sq_mt ms 0) b x1 x2 x3 x4 x5 x6).2 7) ((sq_mv (sq_mt ms 0) b x1 x2 x3 x4 x5 x6).2 8) ((sq_mv (sq_mt ms 0) b x1 x2 x3 x4 x5 x6).2 9) ((sq_mv (sq_mt ms 0) b x1 x2 x3 x4 x5 x6).2 10)) := hD
      have e9 : (sq_mV ms b x1 x2 x3 x4 x5 x6) = sq_mv (sq_mt ms 0) b x1 x2 x3 x4 x5 x6 := by unfold sq_mV; rw [if_pos hk]
      rw [← e9] at hP hD
      have e8 : sq_mrV ms = nI (ms.2 7) := by unfold sq_mrV; rw [if_pos hk]
      exact hend _ _ _ _ _ (by rw [e8, Nat.add_sub_cancel]) hP hD hS dX1_vector_85
    · refine lv_iconst (v := nI 0) hx hb dX1_vector_23 (by decide +kernel) ?_
      have hP : va_P (dC, dI) vwCl (wM h0 q cI cZ ((sq_mt ms (sq_mkV ms)).1 0) ((sq_mt ms (sq_mkV ms)).1 1) ((sq_mt ms (sq_mkV ms)).1 2) ((sq_mt ms (sq_mkV ms)).1 3) ((sq_mt ms (sq_mkV ms)).1 4) ((sq_mt ms (sq_mkV ms)).1 5) ((sq_mt ms (sq_mkV ms)).1 6) ((sq_mt ms (sq_mkV ms)).1 7) ((sq_mt ms (sq_mkV ms)).1 8) ((sq_mt ms (sq_mkV ms)).1 9) ((sq_mt ms (sq_mkV ms)).1 10) ((sq_mt ms (sq_mkV ms)).1 11) ((sq_mt ms (sq_mkV ms)).2 0) ((sq_mt ms (sq_mkV ms)).2 1) ((sq_mt ms (sq_mkV ms)).2 2) ((sq_mt ms (sq_mkV ms)).2 3) ((sq_mt ms (sq_mkV ms)).2 4) ((sq_mt ms (sq_mkV ms)).2 5) ((sq_mt ms (sq_mkV ms)).2 6) ((sq_mt ms (sq_mkV ms)).2 7) ((sq_mt ms (sq_mkV ms)).2 8) ((sq_mt ms (sq_mkV ms)).2 9) ((sq_mt ms (sq_mkV ms)).2 10)) H := hP
      have hD : va_D A (wM h0 q cI cZ ((sq_mt ms (sq_mkV ms)).1 0) ((sq_mt ms (sq_mkV ms)).1 1) ((sq_mt ms (sq_mkV ms)).1 2) ((sq_mt ms (sq_mkV ms)).1 3) ((sq_mt ms (sq_mkV ms)).1 4) ((sq_mt ms (sq_mkV ms)).1 5) ((sq_mt ms (sq_mkV ms)).1 6) ((sq_mt ms (sq_mkV ms)).1 7) ((sq_mt ms (sq_mkV ms)).1 8) ((sq_mt ms (sq_mkV ms)).1 9) ((sq_mt ms (sq_mkV ms)).1 10) ((sq_mt ms (sq_mkV ms)).1 11) ((sq_mt ms (sq_mkV ms)).2 0) ((sq_mt ms (sq_mkV ms)).2 1) ((sq_mt ms (sq_mkV ms)).2 2) ((sq_mt ms (sq_mkV ms)).2 3) ((sq_mt ms (sq_mkV ms)).2 4) ((sq_mt ms (sq_mkV ms)).2 5) ((sq_mt ms (sq_mkV ms)).2 6) ((sq_mt ms (sq_mkV ms)).2 7) ((sq_mt ms (sq_mkV ms)).2 8) ((sq_mt ms (sq_mkV ms)).2 9) ((sq_mt ms (sq_mkV ms)).2 10)) := hD
      have hk : ¬ sq_mkV ms = 0 := by have h2 : 0 < sq_mkV ms := sq_bnd hc; omega
      have e9 : (sq_mV ms b x1 x2 x3 x4 x5 x6) = sq_mt ms (sq_mkV ms) := by unfold sq_mV; rw [if_neg hk]
      rw [← e9] at hP hD
      exact hend _ _ _ _ _ (by unfold sq_mrV; rw [if_neg hk]; rfl) hP hD hS dX1_vector_24
  refine lv_aload_n hx hb dX1_vector_0 rfl (lv_at hl 0 rfl) ?_
  refine lv_aload_n hx hb dX1_vector_1 rfl (lv_at hl 0 rfl) ?_
  refine va_get (D := (dC, dI)) (ci := 1) (v := .int (nI (ms.2 7))) (C := RX1) (T := TX1) (N := 23) hx hb hts hin hown hK hP 0 rfl rfl 8 (by decide) k73 (fun _ h9 => h9) rfl dX1_vector_2 ?_
  refine lv_sipush (v := nI 200) hx hb dX1_vector_5 (by decide +kernel) ?_
  refine sq_icmp_ne (tgt := 15) hx hb (by omega) (by omega) dX1_vector_8 (by decide) (fun hc => ?_) (fun hc => ?_)
  · refine lv_iconst (v := nI 0) hx hb dX1_vector_15 (by decide +kernel) ?_
    exact T1 false _ _ ls (decide_eq_false hc).symm hP hD hS hl
  · refine lv_iconst (v := nI 1) hx hb dX1_vector_11 (by decide +kernel) ?_
    refine lv_goto (tgt := 16) hx hb dX1_vector_12 (by decide) ?_
    exact T1 true _ _ ls (decide_eq_true hc).symm hP hD hS hl
end
section
def rmm_enter : Room := { frames := 0, cells := 0, slots := 0, locals := 0 }
set_option maxHeartbeats 4000000 in
set_option maxRecDepth 100000 in
theorem k_enter (l : Launch) (dC : Nat → ClassId) (dI : Nat → Nat → Nat) (h0 : Nat) (q : Nat → Nat) (cI cZ : ClassId) (ms : SqS)  (hok : sq_mok ms) : sq_Mv l yX1_enter wsX1_enter rmm_enter [.ref h0] (dC, dI) vwCl [(cI, .int), (cZ, .boolean)] (wM h0 q cI cZ (ms.1 0) (ms.1 1) (ms.1 2) (ms.1 3) (ms.1 4) (ms.1 5) (ms.1 6) (ms.1 7) (ms.1 8) (ms.1 9) (ms.1 10) (ms.1 11) (ms.2 0) (ms.2 1) (ms.2 2) (ms.2 3) (ms.2 4) (ms.2 5) (ms.2 6) (ms.2 7) (ms.2 8) (ms.2 9) (ms.2 10)) (wM h0 q cI cZ ((sq_me ms).1 0) ((sq_me ms).1 1) ((sq_me ms).1 2) ((sq_me ms).1 3) ((sq_me ms).1 4) ((sq_me ms).1 5) ((sq_me ms).1 6) ((sq_me ms).1 7) ((sq_me ms).1 8) ((sq_me ms).1 9) ((sq_me ms).1 10) ((sq_me ms).1 11) ((sq_me ms).2 0) ((sq_me ms).2 1) ((sq_me ms).2 2) ((sq_me ms).2 3) ((sq_me ms).2 4) ((sq_me ms).2 5) ((sq_me ms).2 6) ((sq_me ms).2 7) ((sq_me ms).2 8) ((sq_me ms).2 9) ((sq_me ms).2 10)) := by
  refine sq_ofWv (cc := cX1_enter) (maxL := 2) (by decide) rfl (Nat.le_of_ble_eq_true rfl) ?_
  intro p e s m args below meth c A ls Q hx hb hts hown hml hK hP hD hS hA hl hend
  have hl : lv_has ls 2 [(0, .ref h0)] := hl
  have hin : ∀ w ∈ u_ws RX1 TX1 23, w ∈ wsX1_enter := fun w h => List.mem_cons_of_mem _ (inX1 w h)
  have k20 := hts _ (List.mem_cons_of_mem _ mfX1_20)
  have k24 := hts _ (List.mem_cons_of_mem _ mfX1_24)
  have k30 := hts _ (List.mem_cons_of_mem _ mfX1_30)
  have k57 := hts _ (List.mem_cons_of_mem _ mfX1_57)
  have k69 := hts _ (List.mem_cons_of_mem _ mfX1_69)
  have k73 := hts _ (List.mem_cons_of_mem _ mfX1_73)
  have k76 := hts _ (List.mem_cons_of_mem _ mfX1_76)
  have k79 := hts _ (List.mem_cons_of_mem _ mfX1_79)
  have k94 := hts _ (List.mem_cons_of_mem _ mfX1_94)
  obtain ⟨⟨o1, o2⟩, o3, ⟨o4, o5⟩, ⟨o6, o7⟩, ⟨o8, o9, o10⟩, o11, o12, o13, o14, o15, o16⟩ := id hok
  refine lv_aload_n hx hb dX1_enter_0 rfl (lv_at hl 0 rfl) ?_
  refine va_get (D := (dC, dI)) (ci := 1) (v := .ref (q 5)) (C := RX1) (T := TX1) (N := 23) hx hb hts hin hown hK hP 0 rfl rfl 16 (by decide) k30 (fun _ h9 => h9) rfl dX1_enter_1 ?_
  refine lv_aload_n hx hb dX1_enter_4 rfl (lv_at hl 0 rfl) ?_
  refine va_get (D := (dC, dI)) (ci := 1) (v := .int (nI (ms.2 2))) (C := RX1) (T := TX1) (N := 23) hx hb hts hin hown hK hP 0 rfl rfl 2 (by decide) k57 (fun _ h9 => h9) rfl dX1_enter_5 ?_
  refine lv_bipush (v := nI 16) hx hb dX1_enter_8 (by decide +kernel) ?_
  refine sq_irem hx hb (by omega) (by decide) (by decide) dX1_enter_10 ?_
  refine lv_iconst (v := (-1)) hx hb dX1_enter_11 (by decide +kernel) ?_
  refine sq_iast hx hb hK hP hD hS 6 0 rfl rfl (i := ((ms.2 2) % 16)) (by omega) (by decide) dX1_enter_12 (fun H locs hP hD hS => ?_)
  have hP : va_P (dC, dI) vwCl (wM h0 q cI cZ (ms.1 0) (ms.1 1) (ms.1 2) (ms.1 3) (ms.1 4) (upd (ms.1 5) ((ms.2 2) % 16) (-1)) (ms.1 6) (ms.1 7) (ms.1 8) (ms.1 9) (ms.1 10) (ms.1 11) (ms.2 0) (ms.2 1) (ms.2 2) (ms.2 3) (ms.2 4) (ms.2 5) (ms.2 6) (ms.2 7) (ms.2 8) (ms.2 9) (ms.2 10)) H := hP
  have hD : va_D A (wM h0 q cI cZ (ms.1 0) (ms.1 1) (ms.1 2) (ms.1 3) (ms.1 4) (upd (ms.1 5) ((ms.2 2) % 16) (-1)) (ms.1 6) (ms.1 7) (ms.1 8) (ms.1 9) (ms.1 10) (ms.1 11) (ms.2 0) (ms.2 1) (ms.2 2) (ms.2 3) (ms.2 4) (ms.2 5) (ms.2 6) (ms.2 7) (ms.2 8) (ms.2 9) (ms.2 10)) := hD
  have T54 : ∀ (H : Heap) (locs : List Loc) (ls : Array Slot), sq_mcV ms = true → va_P (dC, dI) vwCl (wM h0 q cI cZ (ms.1 0) (ms.1 1) (ms.1 2) (ms.1 3) (ms.1 4) (upd (ms.1 5) ((ms.2 2) % 16) (-1)) (ms.1 6) (ms.1 7) (ms.1 8) (ms.1 9) (ms.1 10) (ms.1 11) (ms.2 0) (ms.2 1) (ms.2 2) (ms.2 3) (ms.2 4) (ms.2 5) (ms.2 6) (ms.2 7) (ms.2 8) (ms.2 9) (ms.2 10)) H → va_D A (wM h0 q cI cZ (ms.1 0) (ms.1 1) (ms.1 2) (ms.1 3) (ms.1 4) (upd (ms.1 5) ((ms.2 2) % 16) (-1)) (ms.1 6) (ms.1 7) (ms.1 8) (ms.1 9) (ms.1 10) (ms.1 11) (ms.2 0) (ms.2 1) (ms.2 2) (ms.2 3) (ms.2 4) (ms.2 5) (ms.2 6) (ms.2 7) (ms.2 8) (ms.2 9) (ms.2 10)) → va_S A s.heap H locs → lv_has ls 2 [(0, .ref h0)] → W p l e rmm_enter s m args below meth c H locs 0 0 Q (F0 m 54 ls []) := by
    intro H locs ls hpre hP hD hS hl
    have hc3 := of_decide_eq_true hpre
    refine lv_aload_n hx hb dX1_enter_54 rfl (lv_at hl 0 rfl) ?_
    refine va_get (D := (dC, dI)) (ci := 1) (v := .ref (q 5)) (C := RX1) (T := TX1) (N := 23) hx hb hts hin hown hK hP 0 rfl rfl 16 (by decide) k30 (fun _ h9 => h9) rfl dX1_enter_55 ?_
    refine lv_aload_n hx hb dX1_enter_58 rfl (lv_at hl 0 rfl) ?_
    refine va_get (D := (dC, dI)) (ci := 1) (v := .int (nI (ms.2 2))) (C := RX1) (T := TX1) (N := 23) hx hb hts hin hown hK hP 0 rfl rfl 2 (by decide) k57 (fun _ h9 => h9) rfl dX1_enter_59 ?_
    refine lv_bipush (v := nI 16) hx hb dX1_enter_62 (by decide +kernel) ?_
    refine sq_irem hx hb (by omega) (by decide) (by decide) dX1_enter_64 ?_
    refine lv_aload_n hx hb dX1_enter_65 rfl (lv_at hl 0 rfl) ?_
    refine va_get (D := (dC, dI)) (ci := 1) (v := .int (nI (ms.2 8))) (C := RX1) (T := TX1) (N := 23) hx hb hts hin hown hK hP 0 rfl rfl 9 (by decide) k76 (fun _ h9 => h9) rfl dX1_enter_66 ?_
    refine sq_iast hx hb hK hP hD hS 6 0 rfl rfl (i := ((ms.2 2) % 16)) (by omega) (by decide) dX1_enter_69 (fun H locs hP hD hS => ?_)
    have hP : va_P (dC, dI) vwCl (wM h0 q cI cZ (ms.1 0) (ms.1 1) (ms.1 2) (ms.1 3) (ms.1 4) (upd (upd (ms.1 5) ((ms.2 2) % 16) (-1)) ((ms.2 2) % 16) (nI (ms.2 8))) (ms.1 6) (ms.1 7) (ms.1 8) (ms.1 9) (ms.1 10) (ms.1 11) (ms.2 0) (ms.2 1) (ms.2 2) (ms.2 3) (ms.2 4) (ms.2 5) (ms.2 6) (ms.2 7) (ms.2 8) (ms.2 9) (ms.2 10)) H := hP
    have hD : va_D A (wM h0 q cI cZ (ms.1 0) (ms.1 1) (ms.1 2) (ms.1 3) (ms.1 4) (upd (upd (ms.1 5) ((ms.2 2) % 16) (-1)) ((ms.2 2) % 16) (nI (ms.2 8))) (ms.1 6) (ms.1 7) (ms.1 8) (ms.1 9) (ms.1 10) (ms.1 11) (ms.2 0) (ms.2 1) (ms.2 2) (ms.2 3) (ms.2 4) (ms.2 5) (ms.2 6) (ms.2 7) (ms.2 8) (ms.2 9) (ms.2 10)) := hD
    refine lv_aload_n hx hb dX1_enter_70 rfl (lv_at hl 0 rfl) ?_
    refine va_get (D := (dC, dI)) (ci := 1) (v := .ref (q 3)) (C := RX1) (T := TX1) (N := 23) hx hb hts hin hown hK hP 0 rfl rfl 14 (by decide) k24 (fun _ h9 => h9) rfl dX1_enter_71 ?_
    refine lv_aload_n hx hb dX1_enter_74 rfl (lv_at hl 0 rfl) ?_
    refine va_get (D := (dC, dI)) (ci := 1) (v := .int (nI (ms.2 8))) (C := RX1) (T := TX1) (N := 23) hx hb hts hin hown hK hP 0 rfl rfl 9 (by decide) k76 (fun _ h9 => h9) rfl dX1_enter_75 ?_
    refine lv_aload_n hx hb dX1_enter_78 rfl (lv_at hl 0 rfl) ?_
    refine va_get (D := (dC, dI)) (ci := 1) (v := .int (nI (ms.2 2))) (C := RX1) (T := TX1) (N := 23) hx hb hts hin hown hK hP 0 rfl rfl 2 (by decide) k57 (fun _ h9 => h9) rfl dX1_enter_79 ?_
    refine sq_iast hx hb hK hP hD hS 4 0 rfl rfl (i := (ms.2 8)) (by omega) (by decide) dX1_enter_82 (fun H locs hP hD hS => ?_)
    have hP : va_P (dC, dI) vwCl (wM h0 q cI cZ (ms.1 0) (ms.1 1) (ms.1 2) (upd (ms.1 3) (ms.2 8) (nI (ms.2 2))) (ms.1 4) (upd (upd (ms.1 5) ((ms.2 2) % 16) (-1)) ((ms.2 2) % 16) (nI (ms.2 8))) (ms.1 6) (ms.1 7) (ms.1 8) (ms.1 9) (ms.1 10) (ms.1 11) (ms.2 0) (ms.2 1) (ms.2 2) (ms.2 3) (ms.2 4) (ms.2 5) (ms.2 6) (ms.2 7) (ms.2 8) (ms.2 9) (ms.2 10)) H := hP
    have hD : va_D A (wM h0 q cI cZ (ms.1 0) (ms.1 1) (ms.1 2) (upd (ms.1 3) (ms.2 8) (nI (ms.2 2))) (ms.1 4) (upd (upd (ms.1 5) ((ms.2 2) % 16) (-1)) ((ms.2 2) % 16) (nI (ms.2 8))) (ms.1 6) (ms.1 7) (ms.1 8) (ms.1 9) (ms.1 10) (ms.1 11) (ms.2 0) (ms.2 1) (ms.2 2) (ms.2 3) (ms.2 4) (ms.2 5) (ms.2 6) (ms.2 7) (ms.2 8) (ms.2 9) (ms.2 10)) := hD
    refine lv_aload_n hx hb dX1_enter_83 rfl (lv_at hl 0 rfl) ?_
    refine va_get (D := (dC, dI)) (ci := 1) (v := .ref (q 2)) (C := RX1) (T := TX1) (N := 23) hx hb hts hin hown hK hP 0 rfl rfl 13 (by decide) k20 (fun _ h9 => h9) rfl dX1_enter_84 ?_
    refine lv_aload_n hx hb dX1_enter_87 rfl (lv_at hl 0 rfl) ?_
    refine va_get (D := (dC, dI)) (ci := 1) (v := .int (nI (ms.2 8))) (C := RX1) (T := TX1) (N := 23) hx hb hts hin hown hK hP 0 rfl rfl 9 (by decide) k76 (fun _ h9 => h9) rfl dX1_enter_88 ?_
    refine sq_zald hx hb hK hP 3 1 rfl rfl (i := (ms.2 8)) (by omega) (by decide) dX1_enter_91 ?_
    refine lv_if_eq (tgt := 118) hx hb dX1_enter_92 (by decide) (fun hc => ?_) (fun hc => ?_)
    · refine lv_aload_n hx hb dX1_enter_118 rfl (lv_at hl 0 rfl) ?_
      refine lv_dup hx hb dX1_enter_119 rfl ?_
      refine va_get (D := (dC, dI)) (ci := 1) (v := .int (nI (ms.2 8))) (C := RX1) (T := TX1) (N := 23) hx hb hts hin hown hK hP 0 rfl rfl 9 (by decide) k76 (fun _ h9 => h9) rfl dX1_enter_120 ?_
      refine lv_iconst (v := nI 1) hx hb dX1_enter_123 (by decide +kernel) ?_
      refine sq_iadd hx hb dX1_enter_124 ?_
      refine va_put (D := (dC, dI)) (ci := 1) (v := .int (nI ((ms.2 8) + 1))) (ty := .int) (C := RX1) (T := TX1) (N := 23) hx hb hts hin tyX1 tyX1_ok nmX1 hown hK hP hD hS 0 rfl rfl 9 (by decide) k76 (fun _ h9 => h9) rfl (by decide +kernel) rfl rfl (Nat.le_of_ble_eq_true rfl) dX1_enter_125 (fun H locs hP hD hS => ?_)
      have hP : va_P (dC, dI) vwCl (wM h0 q cI cZ (ms.1 0) (ms.1 1) (ms.1 2) (upd (ms.1 3) (ms.2 8) (nI (ms.2 2))) (ms.1 4) (upd (upd (ms.1 5) ((ms.2 2) % 16) (-1)) ((ms.2 2) % 16) (nI (ms.2 8))) (ms.1 6) (ms.1 7) (ms.1 8) (ms.1 9) (ms.1 10) (ms.1 11) (ms.2 0) (ms.2 1) (ms.2 2) (ms.2 3) (ms.2 4) (ms.2 5) (ms.2 6) (ms.2 7) ((ms.2 8) + 1) (ms.2 9) (ms.2 10)) H := hP
      have hD : va_D A (wM h0 q cI cZ (ms.1 0) (ms.1 1) (ms.1 2) (upd (ms.1 3) (ms.2 8) (nI (ms.2 2))) (ms.1 4) (upd (upd (ms.1 5) ((ms.2 2) % 16) (-1)) ((ms.2 2) % 16) (nI (ms.2 8))) (ms.1 6) (ms.1 7) (ms.1 8) (ms.1 9) (ms.1 10) (ms.1 11) (ms.2 0) (ms.2 1) (ms.2 2) (ms.2 3) (ms.2 4) (ms.2 5) (ms.2 6) (ms.2 7) ((ms.2 8) + 1) (ms.2 9) (ms.2 10)) := hD
      have e9 : (wM h0 q cI cZ ((sq_me ms).1 0) ((sq_me ms).1 1) ((sq_me ms).1 2) ((sq_me ms).1 3) ((sq_me ms).1 4) ((sq_me ms).1 5) ((sq_me ms).1 6) ((sq_me ms).1 7) ((sq_me ms).1 8) ((sq_me ms).1 9) ((sq_me ms).1 10) ((sq_me ms).1 11) ((sq_me ms).2 0) ((sq_me ms).2 1) ((sq_me ms).2 2) ((sq_me ms).2 3) ((sq_me ms).2 4) ((sq_me ms).2 5) ((sq_me ms).2 6) ((sq_me ms).2 7) ((sq_me ms).2 8) ((sq_me ms).2 9) ((sq_me ms).2 10)) = (wM h0 q cI cZ (ms.1 0) (ms.1 1) (ms.1 2) (upd (ms.1 3) (ms.2 8) (nI (ms.2 2))) (ms.1 4) (upd (upd (ms.1 5) ((ms.2 2) % 16) (-1)) ((ms.2 2) % 16) (nI (ms.2 8))) (ms.1 6) (ms.1 7) (ms.1 8) (ms.1 9) (ms.1 10) (ms.1 11) (ms.2 0) (ms.2 1) (ms.2 2) (ms.2 3) (ms.2 4) (ms.2 5) (ms.2 6) (ms.2 7) ((ms.2 8) + 1) (ms.2 9) (ms.2 10)) := by unfold sq_me; rw [if_pos hpre]; show (wM h0 q cI cZ (ms.1 0) (ms.1 1) (ms.1 2) (upd (ms.1 3) (ms.2 8) (nI (ms.2 2))) (ms.1 4) (upd (upd (ms.1 5) (ms.2 2 % 16) (-1)) (ms.2 2 % 16) (nI (ms.2 8))) (ms.1 6) (ms.1 7) (ms.1 8) (ms.1 9) (ms.1 10) (ms.1 11) (ms.2 0) (ms.2 1) (ms.2 2) (ms.2 3) (ms.2 4) (ms.2 5) (if ms.1 2 (ms.2 8) = 0 then ms.2 6 else 0) (ms.2 7) (ms.2 8 + 1) (if ms.1 2 (ms.2 8) = 0 then ms.2 9 else ms.2 9 + 1) (if ms.1 2 (ms.2 8) = 0 then ms.2 10 else ms.2 2)) = _; rw [if_pos hc, if_pos hc, if_pos hc]
      rw [← e9] at hP hD
      exact hend _ _ _ _ hP hD hS dX1_enter_128
    · refine lv_aload_n hx hb dX1_enter_95 rfl (lv_at hl 0 rfl) ?_
      refine lv_iconst (v := nI 0) hx hb dX1_enter_96 (by decide +kernel) ?_
      refine va_put (D := (dC, dI)) (ci := 1) (v := .int (nI 0)) (ty := .boolean) (C := RX1) (T := TX1) (N := 23) hx hb hts hin tyX1 tyX1_ok nmX1 hown hK hP hD hS 0 rfl rfl 6 (by decide) k69 (fun _ h9 => h9) rfl (by decide +kernel) rfl rfl (Nat.le_of_ble_eq_true rfl) dX1_enter_97 (fun H locs hP hD hS => ?_)
      have hP : va_P (dC, dI) vwCl (wM h0 q cI cZ (ms.1 0) (ms.1 1) (ms.1 2) (upd (ms.1 3) (ms.2 8) (nI (ms.2 2))) (ms.1 4) (upd (upd (ms.1 5) ((ms.2 2) % 16) (-1)) ((ms.2 2) % 16) (nI (ms.2 8))) (ms.1 6) (ms.1 7) (ms.1 8) (ms.1 9) (ms.1 10) (ms.1 11) (ms.2 0) (ms.2 1) (ms.2 2) (ms.2 3) (ms.2 4) (ms.2 5) 0 (ms.2 7) (ms.2 8) (ms.2 9) (ms.2 10)) H := hP
      have hD : va_D A (wM h0 q cI cZ (ms.1 0) (ms.1 1) (ms.1 2) (upd (ms.1 3) (ms.2 8) (nI (ms.2 2))) (ms.1 4) (upd (upd (ms.1 5) ((ms.2 2) % 16) (-1)) ((ms.2 2) % 16) (nI (ms.2 8))) (ms.1 6) (ms.1 7) (ms.1 8) (ms.1 9) (ms.1 10) (ms.1 11) (ms.2 0) (ms.2 1) (ms.2 2) (ms.2 3) (ms.2 4) (ms.2 5) 0 (ms.2 7) (ms.2 8) (ms.2 9) (ms.2 10)) := hD
      refine lv_aload_n hx hb dX1_enter_100 rfl (lv_at hl 0 rfl) ?_
      refine lv_dup hx hb dX1_enter_101 rfl ?_
      refine va_get (D := (dC, dI)) (ci := 1) (v := .int (nI (ms.2 9))) (C := RX1) (T := TX1) (N := 23) hx hb hts hin hown hK hP 0 rfl rfl 10 (by decide) k79 (fun _ h9 => h9) rfl dX1_enter_102 ?_
      refine lv_iconst (v := nI 1) hx hb dX1_enter_105 (by decide +kernel) ?_
      refine sq_iadd hx hb dX1_enter_106 ?_
      refine va_put (D := (dC, dI)) (ci := 1) (v := .int (nI ((ms.2 9) + 1))) (ty := .int) (C := RX1) (T := TX1) (N := 23) hx hb hts hin tyX1 tyX1_ok nmX1 hown hK hP hD hS 0 rfl rfl 10 (by decide) k79 (fun _ h9 => h9) rfl (by decide +kernel) rfl rfl (Nat.le_of_ble_eq_true rfl) dX1_enter_107 (fun H locs hP hD hS => ?_)
      have hP : va_P (dC, dI) vwCl (wM h0 q cI cZ (ms.1 0) (ms.1 1) (ms.1 2) (upd (ms.1 3) (ms.2 8) (nI (ms.2 2))) (ms.1 4) (upd (upd (ms.1 5) ((ms.2 2) % 16) (-1)) ((ms.2 2) % 16) (nI (ms.2 8))) (ms.1 6) (ms.1 7) (ms.1 8) (ms.1 9) (ms.1 10) (ms.1 11) (ms.2 0) (ms.2 1) (ms.2 2) (ms.2 3) (ms.2 4) (ms.2 5) 0 (ms.2 7) (ms.2 8) ((ms.2 9) + 1) (ms.2 10)) H := hP
      have hD : va_D A (wM h0 q cI cZ (ms.1 0) (ms.1 1) (ms.1 2) (upd (ms.1 3) (ms.2 8) (nI (ms.2 2))) (ms.1 4) (upd (upd (ms.1 5) ((ms.2 2) % 16) (-1)) ((ms.2 2) % 16) (nI (ms.2 8))) (ms.1 6) (ms.1 7) (ms.1 8) (ms.1 9) (ms.1 10) (ms.1 11) (ms.2 0) (ms.2 1) (ms.2 2) (ms.2 3) (ms.2 4) (ms.2 5) 0 (ms.2 7) (ms.2 8) ((ms.2 9) + 1) (ms.2 10)) := hD
      refine lv_aload_n hx hb dX1_enter_110 rfl (lv_at hl 0 rfl) ?_
      refine lv_aload_n hx hb dX1_enter_111 rfl (lv_at hl 0 rfl) ?_
      refine va_get (D := (dC, dI)) (ci := 1) (v := .int (nI (ms.2 2))) (C := RX1) (T := TX1) (N := 23) hx hb hts hin hown hK hP 0 rfl rfl 2 (by decide) k57 (fun _ h9 => h9) rfl dX1_enter_112 ?_
      refine va_put (D := (dC, dI)) (ci := 1) (v := .int (nI (ms.2 2))) (ty := .int) (C := RX1) (T := TX1) (N := 23) hx hb hts hin tyX1 tyX1_ok nmX1 hown hK hP hD hS 0 rfl rfl 11 (by decide) k94 (fun _ h9 => h9) rfl (by decide +kernel) rfl rfl (Nat.le_of_ble_eq_true rfl) dX1_enter_115 (fun H locs hP hD hS => ?_)
      have hP : va_P (dC, dI) vwCl (wM h0 q cI cZ (ms.1 0) (ms.1 1) (ms.1 2) (upd (ms.1 3) (ms.2 8) (nI (ms.2 2))) (ms.1 4) (upd (upd (ms.1 5) ((ms.2 2) % 16) (-1)) ((ms.2 2) % 16) (nI (ms.2 8))) (ms.1 6) (ms.1 7) (ms.1 8) (ms.1 9) (ms.1 10) (ms.1 11) (ms.2 0) (ms.2 1) (ms.2 2) (ms.2 3) (ms.2 4) (ms.2 5) 0 (ms.2 7) (ms.2 8) ((ms.2 9) + 1) (ms.2 2)) H := hP
      have hD : va_D A (wM h0 q cI cZ (ms.1 0) (ms.1 1) (ms.1 2) (upd (ms.1 3) (ms.2 8) (nI (ms.2 2))) (ms.1 4) (upd (upd (ms.1 5) ((ms.2 2) % 16) (-1)) ((ms.2 2) % 16) (nI (ms.2 8))) (ms.1 6) (ms.1 7) (ms.1 8) (ms.1 9) (ms.1 10) (ms.1 11) (ms.2 0) (ms.2 1) (ms.2 2) (ms.2 3) (ms.2 4) (ms.2 5) 0 (ms.2 7) (ms.2 8) ((ms.2 9) + 1) (ms.2 2)) := hD
      refine lv_aload_n hx hb dX1_enter_118 rfl (lv_at hl 0 rfl) ?_
      refine lv_dup hx hb dX1_enter_119 rfl ?_
      refine va_get (D := (dC, dI)) (ci := 1) (v := .int (nI (ms.2 8))) (C := RX1) (T := TX1) (N := 23) hx hb hts hin hown hK hP 0 rfl rfl 9 (by decide) k76 (fun _ h9 => h9) rfl dX1_enter_120 ?_
      refine lv_iconst (v := nI 1) hx hb dX1_enter_123 (by decide +kernel) ?_
      refine sq_iadd hx hb dX1_enter_124 ?_
      refine va_put (D := (dC, dI)) (ci := 1) (v := .int (nI ((ms.2 8) + 1))) (ty := .int) (C := RX1) (T := TX1) (N := 23) hx hb hts hin tyX1 tyX1_ok nmX1 hown hK hP hD hS 0 rfl rfl 9 (by decide) k76 (fun _ h9 => h9) rfl (by decide +kernel) rfl rfl (Nat.le_of_ble_eq_true rfl) dX1_enter_125 (fun H locs hP hD hS => ?_)
      have hP : va_P (dC, dI) vwCl (wM h0 q cI cZ (ms.1 0) (ms.1 1) (ms.1 2) (upd (ms.1 3) (ms.2 8) (nI (ms.2 2))) (ms.1 4) (upd (upd (ms.1 5) ((ms.2 2) % 16) (-1)) ((ms.2 2) % 16) (nI (ms.2 8))) (ms.1 6) (ms.1 7) (ms.1 8) (ms.1 9) (ms.1 10) (ms.1 11) (ms.2 0) (ms.2 1) (ms.2 2) (ms.2 3) (ms.2 4) (ms.2 5) 0 (ms.2 7) ((ms.2 8) + 1) ((ms.2 9) + 1) (ms.2 2)) H := hP
      have hD : va_D A (wM h0 q cI cZ (ms.1 0) (ms.1 1) (ms.1 2) (upd (ms.1 3) (ms.2 8) (nI (ms.2 2))) (ms.1 4) (upd (upd (ms.1 5) ((ms.2 2) % 16) (-1)) ((ms.2 2) % 16) (nI (ms.2 8))) (ms.1 6) (ms.1 7) (ms.1 8) (ms.1 9) (ms.1 10) (ms.1 11) (ms.2 0) (ms.2 1) (ms.2 2) (ms.2 3) (ms.2 4) (ms.2 5) 0 (ms.2 7) ((ms.2 8) + 1) ((ms.2 9) + 1) (ms.2 2)) := hD
      have e9 : (wM h0 q cI cZ ((sq_me ms).1 0) ((sq_me ms).1 1) ((sq_me ms).1 2) ((sq_me ms).1 3) ((sq_me ms).1 4) ((sq_me ms).1 5) ((sq_me ms).1 6) ((sq_me ms).1 7) ((sq_me ms).1 8) ((sq_me ms).1 9) ((sq_me ms).1 10) ((sq_me ms).1 11) ((sq_me ms).2 0) ((sq_me ms).2 1) ((sq_me ms).2 2) ((sq_me ms).2 3) ((sq_me ms).2 4) ((sq_me ms).2 5) ((sq_me ms).2 6) ((sq_me ms).2 7) ((sq_me ms).2 8) ((sq_me ms).2 9) ((sq_me ms).2 10)) = (wM h0 q cI cZ (ms.1 0) (ms.1 1) (ms.1 2) (upd (ms.1 3) (ms.2 8) (nI (ms.2 2))) (ms.1 4) (upd (upd (ms.1 5) ((ms.2 2) % 16) (-1)) ((ms.2 2) % 16) (nI (ms.2 8))) (ms.1 6) (ms.1 7) (ms.1 8) (ms.1 9) (ms.1 10) (ms.1 11) (ms.2 0) (ms.2 1) (ms.2 2) (ms.2 3) (ms.2 4) (ms.2 5) 0 (ms.2 7) ((ms.2 8) + 1) ((ms.2 9) + 1) (ms.2 2)) := by unfold sq_me; rw [if_pos hpre]; show (wM h0 q cI cZ (ms.1 0) (ms.1 1) (ms.1 2) (upd (ms.1 3) (ms.2 8) (nI (ms.2 2))) (ms.1 4) (upd (upd (ms.1 5) (ms.2 2 % 16) (-1)) (ms.2 2 % 16) (nI (ms.2 8))) (ms.1 6) (ms.1 7) (ms.1 8) (ms.1 9) (ms.1 10) (ms.1 11) (ms.2 0) (ms.2 1) (ms.2 2) (ms.2 3) (ms.2 4) (ms.2 5) (if ms.1 2 (ms.2 8) = 0 then ms.2 6 else 0) (ms.2 7) (ms.2 8 + 1) (if ms.1 2 (ms.2 8) = 0 then ms.2 9 else ms.2 9 + 1) (if ms.1 2 (ms.2 8) = 0 then ms.2 10 else ms.2 2)) = _; rw [if_neg hc, if_neg hc, if_neg hc]
      rw [← e9] at hP hD
      exact hend _ _ _ _ hP hD hS dX1_enter_128
  have T47 : ∀ (H : Heap) (locs : List Loc) (ls : Array Slot), ¬ sq_mcV ms = true → va_P (dC, dI) vwCl (wM h0 q cI cZ (ms.1 0) (ms.1 1) (ms.1 2) (ms.1 3) (ms.1 4) (upd (ms.1 5) ((ms.2 2) % 16) (-1)) (ms.1 6) (ms.1 7) (ms.1 8) (ms.1 9) (ms.1 10) (ms.1 11) (ms.2 0) (ms.2 1) (ms.2 2) (ms.2 3) (ms.2 4) (ms.2 5) (ms.2 6) (ms.2 7) (ms.2 8) (ms.2 9) (ms.2 10)) H → va_D A (wM h0 q cI cZ (ms.1 0) (ms.1 1) (ms.1 2) (ms.1 3) (ms.1 4) (upd (ms.1 5) ((ms.2 2) % 16) (-1)) (ms.1 6) (ms.1 7) (ms.1 8) (ms.1 9) (ms.1 10) (ms.1 11) (ms.2 0) (ms.2 1) (ms.2 2) (ms.2 3) (ms.2 4) (ms.2 5) (ms.2 6) (ms.2 7) (ms.2 8) (ms.2 9) (ms.2 10)) → va_S A s.heap H locs → lv_has ls 2 [(0, .ref h0)] → W p l e rmm_enter s m args below meth c H locs 0 0 Q (F0 m 47 ls []) := by
    intro H locs ls hpre hP hD hS hl
    refine lv_iconst (v := nI 0) hx hb dX1_enter_47 (by decide +kernel) ?_
    refine lv_istore_n (lv' := [(1, .int (nI 0)), (0, .ref h0)]) hx hb dX1_enter_48 rfl hl (by decide) rfl (fun ls hl => ?_)
    refine lv_iload_n hx hb dX1_enter_49 rfl (lv_at hl 0 rfl) ?_
    refine sq_if_ne (tgt := 54) hx hb (by omega) dX1_enter_50 (by decide) (fun hc => ?_) (fun hc => ?_)
    · exact absurd rfl hc
    · have e9 : (wM h0 q cI cZ ((sq_me ms).1 0) ((sq_me ms).1 1) ((sq_me ms).1 2) ((sq_me ms).1 3) ((sq_me ms).1 4) ((sq_me ms).1 5) ((sq_me ms).1 6) ((sq_me ms).1 7) ((sq_me ms).1 8) ((sq_me ms).1 9) ((sq_me ms).1 10) ((sq_me ms).1 11) ((sq_me ms).2 0) ((sq_me ms).2 1) ((sq_me ms).2 2) ((sq_me ms).2 3) ((sq_me ms).2 4) ((sq_me ms).2 5) ((sq_me ms).2 6) ((sq_me ms).2 7) ((sq_me ms).2 8) ((sq_me ms).2 9) ((sq_me ms).2 10)) = (wM h0 q cI cZ (ms.1 0) (ms.1 1) (ms.1 2) (ms.1 3) (ms.1 4) (upd (ms.1 5) ((ms.2 2) % 16) (-1)) (ms.1 6) (ms.1 7) (ms.1 8) (ms.1 9) (ms.1 10) (ms.1 11) (ms.2 0) (ms.2 1) (ms.2 2) (ms.2 3) (ms.2 4) (ms.2 5) (ms.2 6) (ms.2 7) (ms.2 8) (ms.2 9) (ms.2 10)) := by unfold sq_me; rw [if_neg hpre]; rfl
      rw [← e9] at hP hD
      exact hend _ _ _ _ hP hD hS dX1_enter_53
  refine lv_aload_n hx hb dX1_enter_13 rfl (lv_at hl 0 rfl) ?_
  refine va_get (D := (dC, dI)) (ci := 1) (v := .int (nI (ms.2 8))) (C := RX1) (T := TX1) (N := 23) hx hb hts hin hown hK hP 0 rfl rfl 9 (by decide) k76 (fun _ h9 => h9) rfl dX1_enter_14 ?_
  refine lv_aload_n hx hb dX1_enter_17 rfl (lv_at hl 0 rfl) ?_
  refine va_get (D := (dC, dI)) (ci := 1) (v := .int (nI (ms.2 7))) (C := RX1) (T := TX1) (N := 23) hx hb hts hin hown hK hP 0 rfl rfl 8 (by decide) k73 (fun _ h9 => h9) rfl dX1_enter_18 ?_
  refine sq_icmp_ge (tgt := 47) hx hb (by omega) (by omega) dX1_enter_21 (by decide) (fun hc => ?_) (fun hc => ?_)
  · exact T47 _ _ ls (fun h => absurd (of_decide_eq_true h).1 (by omega)) hP hD hS hl
  · refine lv_aload_n hx hb dX1_enter_24 rfl (lv_at hl 0 rfl) ?_
    refine va_get (D := (dC, dI)) (ci := 1) (v := .ref (q 2)) (C := RX1) (T := TX1) (N := 23) hx hb hts hin hown hK hP 0 rfl rfl 13 (by decide) k20 (fun _ h9 => h9) rfl dX1_enter_25 ?_
    refine lv_aload_n hx hb dX1_enter_28 rfl (lv_at hl 0 rfl) ?_
    refine va_get (D := (dC, dI)) (ci := 1) (v := .int (nI (ms.2 8))) (C := RX1) (T := TX1) (N := 23) hx hb hts hin hown hK hP 0 rfl rfl 9 (by decide) k76 (fun _ h9 => h9) rfl dX1_enter_29 ?_
    refine sq_zald hx hb hK hP 3 1 rfl rfl (i := (ms.2 8)) (by omega) (by decide) dX1_enter_32 ?_
    refine lv_if_eq (tgt := 43) hx hb dX1_enter_33 (by decide) (fun hd => ?_) (fun hd => ?_)
    · refine lv_iconst (v := nI 1) hx hb dX1_enter_43 (by decide +kernel) ?_
      refine lv_goto (tgt := 48) hx hb dX1_enter_44 (by decide) ?_
      refine lv_istore_n (lv' := [(1, .int (nI 1)), (0, .ref h0)]) hx hb dX1_enter_48 rfl hl (by decide) rfl (fun ls hl => ?_)
      refine lv_iload_n hx hb dX1_enter_49 rfl (lv_at hl 0 rfl) ?_
      refine sq_if_ne (tgt := 54) hx hb (by omega) dX1_enter_50 (by decide) (fun hq => ?_) (fun hq => ?_)
      · exact T54 _ _ ls (decide_eq_true ⟨hc, Or.inl hd⟩) hP hD hS (lv_sub hl [1] rfl)
      · exact absurd hq (by decide)
    · refine lv_aload_n hx hb dX1_enter_36 rfl (lv_at hl 0 rfl) ?_
      refine va_get (D := (dC, dI)) (ci := 1) (v := .int (nI (ms.2 6))) (C := RX1) (T := TX1) (N := 23) hx hb hts hin hown hK hP 0 rfl rfl 6 (by decide) k69 (fun _ h9 => h9) rfl dX1_enter_37 ?_
      refine sq_if_eq (tgt := 47) hx hb (by omega) dX1_enter_40 (by decide) (fun he => ?_) (fun he => ?_)
      · exact T47 _ _ ls (fun h => (of_decide_eq_true h).2.elim hd (fun h => h he)) hP hD hS hl
      · refine lv_iconst (v := nI 1) hx hb dX1_enter_43 (by decide +kernel) ?_
        refine lv_goto (tgt := 48) hx hb dX1_enter_44 (by decide) ?_
        refine lv_istore_n (lv' := [(1, .int (nI 1)), (0, .ref h0)]) hx hb dX1_enter_48 rfl hl (by decide) rfl (fun ls hl => ?_)
        refine lv_iload_n hx hb dX1_enter_49 rfl (lv_at hl 0 rfl) ?_
        refine sq_if_ne (tgt := 54) hx hb (by omega) dX1_enter_50 (by decide) (fun hq => ?_) (fun hq => ?_)
        · exact T54 _ _ ls (decide_eq_true ⟨hc, Or.inr he⟩) hP hD hS (lv_sub hl [1] rfl)
        · exact absurd hq (by decide)
def rmm_letIn : Room := { frames := 0, cells := 0, slots := 0, locals := 0 }
set_option maxHeartbeats 4000000 in
set_option maxRecDepth 100000 in
theorem k_letIn (l : Launch) (dC : Nat → ClassId) (dI : Nat → Nat → Nat) (h0 : Nat) (q : Nat → Nat) (cI cZ : ClassId) (ms : SqS)  (hok : sq_mok ms) : sq_Mv l yX1_letIn wsX1_letIn rmm_letIn [.ref h0] (dC, dI) vwCl [(cI, .int), (cZ, .boolean)] (wM h0 q cI cZ (ms.1 0) (ms.1 1) (ms.1 2) (ms.1 3) (ms.1 4) (ms.1 5) (ms.1 6) (ms.1 7) (ms.1 8) (ms.1 9) (ms.1 10) (ms.1 11) (ms.2 0) (ms.2 1) (ms.2 2) (ms.2 3) (ms.2 4) (ms.2 5) (ms.2 6) (ms.2 7) (ms.2 8) (ms.2 9) (ms.2 10)) (wM h0 q cI cZ ((sq_ml ms).1 0) ((sq_ml ms).1 1) ((sq_ml ms).1 2) ((sq_ml ms).1 3) ((sq_ml ms).1 4) ((sq_ml ms).1 5) ((sq_ml ms).1 6) ((sq_ml ms).1 7) ((sq_ml ms).1 8) ((sq_ml ms).1 9) ((sq_ml ms).1 10) ((sq_ml ms).1 11) ((sq_ml ms).2 0) ((sq_ml ms).2 1) ((sq_ml ms).2 2) ((sq_ml ms).2 3) ((sq_ml ms).2 4) ((sq_ml ms).2 5) ((sq_ml ms).2 6) ((sq_ml ms).2 7) ((sq_ml ms).2 8) ((sq_ml ms).2 9) ((sq_ml ms).2 10)) := by
  refine sq_ofWv (cc := cX1_letIn) (maxL := 4) (by decide) rfl (Nat.le_of_ble_eq_true rfl) ?_
  intro p e s m args below meth c A ls Q hx hb hts hown hml hK hP hD hS hA hl hend
  have hl : lv_has ls 4 [(0, .ref h0)] := hl
  have hin : ∀ w ∈ u_ws RX1 TX1 23, w ∈ wsX1_letIn := fun w h => List.mem_cons_of_mem _ (inX1 w h)
  have k7 := hts _ (List.mem_cons_of_mem _ mfX1_7)
  have k13 := hts _ (List.mem_cons_of_mem _ mfX1_13)
  have k42 := hts _ (List.mem_cons_of_mem _ mfX1_42)
  have k57 := hts _ (List.mem_cons_of_mem _ mfX1_57)
  have k60 := hts _ (List.mem_cons_of_mem _ mfX1_60)
  have k63 := hts _ (List.mem_cons_of_mem _ mfX1_63)
  have k66 := hts _ (List.mem_cons_of_mem _ mfX1_66)
  have k69 := hts _ (List.mem_cons_of_mem _ mfX1_69)
  have k79 := hts _ (List.mem_cons_of_mem _ mfX1_79)
  have k94 := hts _ (List.mem_cons_of_mem _ mfX1_94)
  obtain ⟨⟨o1, o2⟩, o3, ⟨o4, o5⟩, ⟨o6, o7⟩, ⟨o8, o9, o10⟩, o11, o12, o13, o14, o15, o16⟩ := id hok
  have T56 : ∀ (H : Heap) (locs : List Loc) (ls : Array Slot), sq_mcR ms = true → va_P (dC, dI) vwCl (wM h0 q cI cZ (ms.1 0) (ms.1 1) (ms.1 2) (ms.1 3) (ms.1 4) (ms.1 5) (ms.1 6) (ms.1 7) (ms.1 8) (ms.1 9) (ms.1 10) (ms.1 11) (ms.2 0) (ms.2 1) (ms.2 2) (ms.2 3) (ms.2 4) (ms.2 5) (ms.2 6) (ms.2 7) (ms.2 8) (ms.2 9) (ms.2 10)) H → va_D A (wM h0 q cI cZ (ms.1 0) (ms.1 1) (ms.1 2) (ms.1 3) (ms.1 4) (ms.1 5) (ms.1 6) (ms.1 7) (ms.1 8) (ms.1 9) (ms.1 10) (ms.1 11) (ms.2 0) (ms.2 1) (ms.2 2) (ms.2 3) (ms.2 4) (ms.2 5) (ms.2 6) (ms.2 7) (ms.2 8) (ms.2 9) (ms.2 10)) → va_S A s.heap H locs → lv_has ls 4 [(0, .ref h0)] → W p l e rmm_letIn s m args below meth c H locs 0 0 Q (F0 m 56 ls []) := by
    intro H locs ls hpre hP hD hS hl
    have hc3 := of_decide_eq_true hpre
    refine lv_aload_n hx hb dX1_letIn_56 rfl (lv_at hl 0 rfl) ?_
    refine va_get (D := (dC, dI)) (ci := 1) (v := .int (nI (ms.2 1))) (C := RX1) (T := TX1) (N := 23) hx hb hts hin hown hK hP 0 rfl rfl 1 (by decide) k7 (fun _ h9 => h9) rfl dX1_letIn_57 ?_
    refine lv_iconst (v := nI 1) hx hb dX1_letIn_60 (by decide +kernel) ?_
    refine sq_isub hx hb (by omega) dX1_letIn_61 ?_
    refine lv_istore_n (lv' := [(2, .int (nI ((ms.2 1) - 1))), (0, .ref h0)]) hx hb dX1_letIn_62 rfl hl (by decide) rfl (fun ls hl => ?_)
    have L3 : ∀ j t : Nat, t + j = ms.2 1 → ∀ (H : Heap) (locs : List Loc) (ls : Array Slot), va_P (dC, dI) vwCl (wM h0 q cI cZ (ms.1 0) (ms.1 1) (ms.1 2) (ms.1 3) (ms.1 4) (ms.1 5) (ms.1 6) (ms.1 7) (ms.1 8) (sq_G (sq_dR t) (fun j => ms.1 0 (ms.2 4 * 6 + j)) (sq_G (sq_dL (ms.2 1) 0 0) (sq_dn6 (ms.1 9)) (ms.1 9))) (ms.1 10) (ms.1 11) (ms.2 0) (ms.2 1) (ms.2 2) (ms.2 3) (ms.2 4) (ms.2 5) (ms.2 6) (ms.2 7) (ms.2 8) (ms.2 9) (ms.2 10)) H → va_D A (wM h0 q cI cZ (ms.1 0) (ms.1 1) (ms.1 2) (ms.1 3) (ms.1 4) (ms.1 5) (ms.1 6) (ms.1 7) (ms.1 8) (sq_G (sq_dR t) (fun j => ms.1 0 (ms.2 4 * 6 + j)) (sq_G (sq_dL (ms.2 1) 0 0) (sq_dn6 (ms.1 9)) (ms.1 9))) (ms.1 10) (ms.1 11) (ms.2 0) (ms.2 1) (ms.2 2) (ms.2 3) (ms.2 4) (ms.2 5) (ms.2 6) (ms.2 7) (ms.2 8) (ms.2 9) (ms.2 10)) → va_S A s.heap H locs → lv_has ls 4 [(2, .int (nI t)), (0, .ref h0)] → W p l e rmm_letIn s m args below meth c H locs 0 0 Q (F0 m 116 ls []) := by
      intro j
      induction j using Nat.strongRecOn with
      | _ j ih =>
        intro t ht H locs ls hP hD hS hl
        refine lv_iload_n hx hb dX1_letIn_116 rfl (lv_at hl 0 rfl) ?_
        refine lv_aload_n hx hb dX1_letIn_117 rfl (lv_at hl 1 rfl) ?_
        refine va_get (D := (dC, dI)) (ci := 1) (v := .int (nI (ms.2 1))) (C := RX1) (T := TX1) (N := 23) hx hb hts hin hown hK hP 0 rfl rfl 1 (by decide) k7 (fun _ h9 => h9) rfl dX1_letIn_118 ?_
        refine sq_icmp_ge (tgt := 150) hx hb (by omega) (by omega) dX1_letIn_121 (by decide) (fun hc => ?_) (fun hc => ?_)
        · have et : t = ms.2 1 := by omega
          rw [et] at hP hD
          refine lv_aload_n hx hb dX1_letIn_150 rfl (lv_at hl 1 rfl) ?_
          refine lv_dup hx hb dX1_letIn_151 rfl ?_
          refine va_get (D := (dC, dI)) (ci := 1) (v := .int (nI (ms.2 4))) (C := RX1) (T := TX1) (N := 23) hx hb hts hin hown hK hP 0 rfl rfl 4 (by decide) k63 (fun _ h9 => h9) rfl dX1_letIn_152 ?_
          refine lv_iconst (v := nI 1) hx hb dX1_letIn_155 (by decide +kernel) ?_
          refine sq_iadd hx hb dX1_letIn_156 ?_
          refine va_put (D := (dC, dI)) (ci := 1) (v := .int (nI ((ms.2 4) + 1))) (ty := .int) (C := RX1) (T := TX1) (N := 23) hx hb hts hin tyX1 tyX1_ok nmX1 hown hK hP hD hS 0 rfl rfl 4 (by decide) k63 (fun _ h9 => h9) rfl (by decide +kernel) rfl rfl (Nat.le_of_ble_eq_true rfl) dX1_letIn_157 (fun H locs hP hD hS => ?_)
          have hP : va_P (dC, dI) vwCl (wM h0 q cI cZ (ms.1 0) (ms.1 1) (ms.1 2) (ms.1 3) (ms.1 4) (ms.1 5) (ms.1 6) (ms.1 7) (ms.1 8) (sq_G (sq_dR (ms.2 1)) (fun j => ms.1 0 (ms.2 4 * 6 + j)) (sq_G (sq_dL (ms.2 1) 0 0) (sq_dn6 (ms.1 9)) (ms.1 9))) (ms.1 10) (ms.1 11) (ms.2 0) (ms.2 1) (ms.2 2) (ms.2 3) ((ms.2 4) + 1) (ms.2 5) (ms.2 6) (ms.2 7) (ms.2 8) (ms.2 9) (ms.2 10)) H := hP
          have hD : va_D A (wM h0 q cI cZ (ms.1 0) (ms.1 1) (ms.1 2) (ms.1 3) (ms.1 4) (ms.1 5) (ms.1 6) (ms.1 7) (ms.1 8) (sq_G (sq_dR (ms.2 1)) (fun j => ms.1 0 (ms.2 4 * 6 + j)) (sq_G (sq_dL (ms.2 1) 0 0) (sq_dn6 (ms.1 9)) (ms.1 9))) (ms.1 10) (ms.1 11) (ms.2 0) (ms.2 1) (ms.2 2) (ms.2 3) ((ms.2 4) + 1) (ms.2 5) (ms.2 6) (ms.2 7) (ms.2 8) (ms.2 9) (ms.2 10)) := hD
          refine lv_aload_n hx hb dX1_letIn_160 rfl (lv_at hl 1 rfl) ?_
          refine lv_dup hx hb dX1_letIn_161 rfl ?_
          refine va_get (D := (dC, dI)) (ci := 1) (v := .int (nI (ms.2 5))) (C := RX1) (T := TX1) (N := 23) hx hb hts hin hown hK hP 0 rfl rfl 5 (by decide) k66 (fun _ h9 => h9) rfl dX1_letIn_162 ?_
          refine lv_iconst (v := nI 1) hx hb dX1_letIn_165 (by decide +kernel) ?_
          refine sq_iadd hx hb dX1_letIn_166 ?_
          refine va_put (D := (dC, dI)) (ci := 1) (v := .int (nI ((ms.2 5) + 1))) (ty := .int) (C := RX1) (T := TX1) (N := 23) hx hb hts hin tyX1 tyX1_ok nmX1 hown hK hP hD hS 0 rfl rfl 5 (by decide) k66 (fun _ h9 => h9) rfl (by decide +kernel) rfl rfl (Nat.le_of_ble_eq_true rfl) dX1_letIn_167 (fun H locs hP hD hS => ?_)
          have hP : va_P (dC, dI) vwCl (wM h0 q cI cZ (ms.1 0) (ms.1 1) (ms.1 2) (ms.1 3) (ms.1 4) (ms.1 5) (ms.1 6) (ms.1 7) (ms.1 8) (sq_G (sq_dR (ms.2 1)) (fun j => ms.1 0 (ms.2 4 * 6 + j)) (sq_G (sq_dL (ms.2 1) 0 0) (sq_dn6 (ms.1 9)) (ms.1 9))) (ms.1 10) (ms.1 11) (ms.2 0) (ms.2 1) (ms.2 2) (ms.2 3) ((ms.2 4) + 1) ((ms.2 5) + 1) (ms.2 6) (ms.2 7) (ms.2 8) (ms.2 9) (ms.2 10)) H := hP
          have hD : va_D A (wM h0 q cI cZ (ms.1 0) (ms.1 1) (ms.1 2) (ms.1 3) (ms.1 4) (ms.1 5) (ms.1 6) (ms.1 7) (ms.1 8) (sq_G (sq_dR (ms.2 1)) (fun j => ms.1 0 (ms.2 4 * 6 + j)) (sq_G (sq_dL (ms.2 1) 0 0) (sq_dn6 (ms.1 9)) (ms.1 9))) (ms.1 10) (ms.1 11) (ms.2 0) (ms.2 1) (ms.2 2) (ms.2 3) ((ms.2 4) + 1) ((ms.2 5) + 1) (ms.2 6) (ms.2 7) (ms.2 8) (ms.2 9) (ms.2 10)) := hD
          refine lv_aload_n hx hb dX1_letIn_170 rfl (lv_at hl 1 rfl) ?_
          refine va_get (D := (dC, dI)) (ci := 1) (v := .int (nI ((ms.2 5) + 1))) (C := RX1) (T := TX1) (N := 23) hx hb hts hin hown hK hP 0 rfl rfl 5 (by decide) k66 (fun _ h9 => h9) rfl dX1_letIn_171 ?_
          refine lv_aload_n hx hb dX1_letIn_174 rfl (lv_at hl 1 rfl) ?_
          refine va_get (D := (dC, dI)) (ci := 1) (v := .int (nI (ms.2 1))) (C := RX1) (T := TX1) (N := 23) hx hb hts hin hown hK hP 0 rfl rfl 1 (by decide) k7 (fun _ h9 => h9) rfl dX1_letIn_175 ?_
          refine sq_icmp_ne (tgt := 191) hx hb (by omega) (by omega) dX1_letIn_178 (by decide) (fun hd => ?_) (fun hd => ?_)
          · have e9 : (wM h0 q cI cZ ((sq_ml ms).1 0) ((sq_ml ms).1 1) ((sq_ml ms).1 2) ((sq_ml ms).1 3) ((sq_ml ms).1 4) ((sq_ml ms).1 5) ((sq_ml ms).1 6) ((sq_ml ms).1 7) ((sq_ml ms).1 8) ((sq_ml ms).1 9) ((sq_ml ms).1 10) ((sq_ml ms).1 11) ((sq_ml ms).2 0) ((sq_ml ms).2 1) ((sq_ml ms).2 2) ((sq_ml ms).2 3) ((sq_ml ms).2 4) ((sq_ml ms).2 5) ((sq_ml ms).2 6) ((sq_ml ms).2 7) ((sq_ml ms).2 8) ((sq_ml ms).2 9) ((sq_ml ms).2 10)) = (wM h0 q cI cZ (ms.1 0) (ms.1 1) (ms.1 2) (ms.1 3) (ms.1 4) (ms.1 5) (ms.1 6) (ms.1 7) (ms.1 8) (sq_G (sq_dR (ms.2 1)) (fun j => ms.1 0 (ms.2 4 * 6 + j)) (sq_G (sq_dL (ms.2 1) 0 0) (sq_dn6 (ms.1 9)) (ms.1 9))) (ms.1 10) (ms.1 11) (ms.2 0) (ms.2 1) (ms.2 2) (ms.2 3) ((ms.2 4) + 1) ((ms.2 5) + 1) (ms.2 6) (ms.2 7) (ms.2 8) (ms.2 9) (ms.2 10)) := by unfold sq_ml; rw [if_pos hpre]; show (wM h0 q cI cZ (ms.1 0) (ms.1 1) (ms.1 2) (ms.1 3) (ms.1 4) (ms.1 5) (ms.1 6) (ms.1 7) (ms.1 8) (sq_G (sq_dR (ms.2 1)) (fun j => ms.1 0 (ms.2 4 * 6 + j)) (sq_G (sq_dL (ms.2 1) 0 0) (sq_dn6 (ms.1 9)) (ms.1 9))) (ms.1 10) (ms.1 11) (ms.2 0) (ms.2 1) (ms.2 2) (ms.2 3) (ms.2 4 + 1) (if ms.2 5 + 1 = ms.2 1 then 0 else ms.2 5 + 1) (if ms.2 5 + 1 = ms.2 1 then 1 else ms.2 6) (ms.2 7) (ms.2 8) (ms.2 9) (ms.2 10)) = _; rw [if_neg hd, if_neg hd]
            rw [← e9] at hP hD
            exact hend _ _ _ _ hP hD hS dX1_letIn_191
          · refine lv_aload_n hx hb dX1_letIn_181 rfl (lv_at hl 1 rfl) ?_
            refine lv_iconst (v := nI 0) hx hb dX1_letIn_182 (by decide +kernel) ?_
            refine va_put (D := (dC, dI)) (ci := 1) (v := .int (nI 0)) (ty := .int) (C := RX1) (T := TX1) (N := 23) hx hb hts hin tyX1 tyX1_ok nmX1 hown hK hP hD hS 0 rfl rfl 5 (by decide) k66 (fun _ h9 => h9) rfl (by decide +kernel) rfl rfl (Nat.le_of_ble_eq_true rfl) dX1_letIn_183 (fun H locs hP hD hS => ?_)
            have hP : va_P (dC, dI) vwCl (wM h0 q cI cZ (ms.1 0) (ms.1 1) (ms.1 2) (ms.1 3) (ms.1 4) (ms.1 5) (ms.1 6) (ms.1 7) (ms.1 8) (sq_G (sq_dR (ms.2 1)) (fun j => ms.1 0 (ms.2 4 * 6 + j)) (sq_G (sq_dL (ms.2 1) 0 0) (sq_dn6 (ms.1 9)) (ms.1 9))) (ms.1 10) (ms.1 11) (ms.2 0) (ms.2 1) (ms.2 2) (ms.2 3) ((ms.2 4) + 1) 0 (ms.2 6) (ms.2 7) (ms.2 8) (ms.2 9) (ms.2 10)) H := hP
            have hD : va_D A (wM h0 q cI cZ (ms.1 0) (ms.1 1) (ms.1 2) (ms.1 3) (ms.1 4) (ms.1 5) (ms.1 6) (ms.1 7) (ms.1 8) (sq_G (sq_dR (ms.2 1)) (fun j => ms.1 0 (ms.2 4 * 6 + j)) (sq_G (sq_dL (ms.2 1) 0 0) (sq_dn6 (ms.1 9)) (ms.1 9))) (ms.1 10) (ms.1 11) (ms.2 0) (ms.2 1) (ms.2 2) (ms.2 3) ((ms.2 4) + 1) 0 (ms.2 6) (ms.2 7) (ms.2 8) (ms.2 9) (ms.2 10)) := hD
            refine lv_aload_n hx hb dX1_letIn_186 rfl (lv_at hl 1 rfl) ?_
            refine lv_iconst (v := nI 1) hx hb dX1_letIn_187 (by decide +kernel) ?_
            refine va_put (D := (dC, dI)) (ci := 1) (v := .int (nI 1)) (ty := .boolean) (C := RX1) (T := TX1) (N := 23) hx hb hts hin tyX1 tyX1_ok nmX1 hown hK hP hD hS 0 rfl rfl 6 (by decide) k69 (fun _ h9 => h9) rfl (by decide +kernel) rfl rfl (Nat.le_of_ble_eq_true rfl) dX1_letIn_188 (fun H locs hP hD hS => ?_)
            have hP : va_P (dC, dI) vwCl (wM h0 q cI cZ (ms.1 0) (ms.1 1) (ms.1 2) (ms.1 3) (ms.1 4) (ms.1 5) (ms.1 6) (ms.1 7) (ms.1 8) (sq_G (sq_dR (ms.2 1)) (fun j => ms.1 0 (ms.2 4 * 6 + j)) (sq_G (sq_dL (ms.2 1) 0 0) (sq_dn6 (ms.1 9)) (ms.1 9))) (ms.1 10) (ms.1 11) (ms.2 0) (ms.2 1) (ms.2 2) (ms.2 3) ((ms.2 4) + 1) 0 1 (ms.2 7) (ms.2 8) (ms.2 9) (ms.2 10)) H := hP
            have hD : va_D A (wM h0 q cI cZ (ms.1 0) (ms.1 1) (ms.1 2) (ms.1 3) (ms.1 4) (ms.1 5) (ms.1 6) (ms.1 7) (ms.1 8) (sq_G (sq_dR (ms.2 1)) (fun j => ms.1 0 (ms.2 4 * 6 + j)) (sq_G (sq_dL (ms.2 1) 0 0) (sq_dn6 (ms.1 9)) (ms.1 9))) (ms.1 10) (ms.1 11) (ms.2 0) (ms.2 1) (ms.2 2) (ms.2 3) ((ms.2 4) + 1) 0 1 (ms.2 7) (ms.2 8) (ms.2 9) (ms.2 10)) := hD
            have e9 : (wM h0 q cI cZ ((sq_ml ms).1 0) ((sq_ml ms).1 1) ((sq_ml ms).1 2) ((sq_ml ms).1 3) ((sq_ml ms).1 4) ((sq_ml ms).1 5) ((sq_ml ms).1 6) ((sq_ml ms).1 7) ((sq_ml ms).1 8) ((sq_ml ms).1 9) ((sq_ml ms).1 10) ((sq_ml ms).1 11) ((sq_ml ms).2 0) ((sq_ml ms).2 1) ((sq_ml ms).2 2) ((sq_ml ms).2 3) ((sq_ml ms).2 4) ((sq_ml ms).2 5) ((sq_ml ms).2 6) ((sq_ml ms).2 7) ((sq_ml ms).2 8) ((sq_ml ms).2 9) ((sq_ml ms).2 10)) = (wM h0 q cI cZ (ms.1 0) (ms.1 1) (ms.1 2) (ms.1 3) (ms.1 4) (ms.1 5) (ms.1 6) (ms.1 7) (ms.1 8) (sq_G (sq_dR (ms.2 1)) (fun j => ms.1 0 (ms.2 4 * 6 + j)) (sq_G (sq_dL (ms.2 1) 0 0) (sq_dn6 (ms.1 9)) (ms.1 9))) (ms.1 10) (ms.1 11) (ms.2 0) (ms.2 1) (ms.2 2) (ms.2 3) ((ms.2 4) + 1) 0 1 (ms.2 7) (ms.2 8) (ms.2 9) (ms.2 10)) := by unfold sq_ml; rw [if_pos hpre]; show (wM h0 q cI cZ (ms.1 0) (ms.1 1) (ms.1 2) (ms.1 3) (ms.1 4) (ms.1 5) (ms.1 6) (ms.1 7) (ms.1 8) (sq_G (sq_dR (ms.2 1)) (fun j => ms.1 0 (ms.2 4 * 6 + j)) (sq_G (sq_dL (ms.2 1) 0 0) (sq_dn6 (ms.1 9)) (ms.1 9))) (ms.1 10) (ms.1 11) (ms.2 0) (ms.2 1) (ms.2 2) (ms.2 3) (ms.2 4 + 1) (if ms.2 5 + 1 = ms.2 1 then 0 else ms.2 5 + 1) (if ms.2 5 + 1 = ms.2 1 then 1 else ms.2 6) (ms.2 7) (ms.2 8) (ms.2 9) (ms.2 10)) = _; rw [if_pos hd, if_pos hd]
            rw [← e9] at hP hD
            exact hend _ _ _ _ hP hD hS dX1_letIn_191
        · refine lv_aload_n hx hb dX1_letIn_124 rfl (lv_at hl 1 rfl) ?_
          refine va_get (D := (dC, dI)) (ci := 1) (v := .ref (q 9)) (C := RX1) (T := TX1) (N := 23) hx hb hts hin hown hK hP 0 rfl rfl 20 (by decide) k42 (fun _ h9 => h9) rfl dX1_letIn_125 ?_
          refine lv_iload_n hx hb dX1_letIn_128 rfl (lv_at hl 0 rfl) ?_
          refine lv_aload_n hx hb dX1_letIn_129 rfl (lv_at hl 1 rfl) ?_
          refine va_get (D := (dC, dI)) (ci := 1) (v := .ref (q 0)) (C := RX1) (T := TX1) (N := 23) hx hb hts hin hown hK hP 0 rfl rfl 7 (by decide) k13 (fun _ h9 => h9) rfl dX1_letIn_130 ?_
          refine lv_bipush (v := nI 6) hx hb dX1_letIn_133 (by decide +kernel) ?_
          refine lv_aload_n hx hb dX1_letIn_135 rfl (lv_at hl 1 rfl) ?_
          refine va_get (D := (dC, dI)) (ci := 1) (v := .int (nI (ms.2 4))) (C := RX1) (T := TX1) (N := 23) hx hb hts hin hown hK hP 0 rfl rfl 4 (by decide) k63 (fun _ h9 => h9) rfl dX1_letIn_136 ?_
          refine sq_imulc hx hb dX1_letIn_139 ?_
          refine lv_iload_n hx hb dX1_letIn_140 rfl (lv_at hl 0 rfl) ?_
          refine sq_iadd hx hb dX1_letIn_141 ?_
          refine sq_iald hx hb hK hP 1 0 rfl rfl (i := (((ms.2 4) * 6) + t)) (by omega) (by decide) dX1_letIn_142 ?_
          refine sq_iast hx hb hK hP hD hS 10 0 rfl rfl (i := t) (by omega) (by decide) dX1_letIn_143 (fun H locs hP hD hS => ?_)
          have hP : va_P (dC, dI) vwCl (wM h0 q cI cZ (ms.1 0) (ms.1 1) (ms.1 2) (ms.1 3) (ms.1 4) (ms.1 5) (ms.1 6) (ms.1 7) (ms.1 8) (upd (sq_G (sq_dR t) (fun j => ms.1 0 (ms.2 4 * 6 + j)) (sq_G (sq_dL (ms.2 1) 0 0) (sq_dn6 (ms.1 9)) (ms.1 9))) t ((ms.1 0) (((ms.2 4) * 6) + t))) (ms.1 10) (ms.1 11) (ms.2 0) (ms.2 1) (ms.2 2) (ms.2 3) (ms.2 4) (ms.2 5) (ms.2 6) (ms.2 7) (ms.2 8) (ms.2 9) (ms.2 10)) H := hP
          have hD : va_D A (wM h0 q cI cZ (ms.1 0) (ms.1 1) (ms.1 2) (ms.1 3) (ms.1 4) (ms.1 5) (ms.1 6) (ms.1 7) (ms.1 8) (upd (sq_G (sq_dR t) (fun j => ms.1 0 (ms.2 4 * 6 + j)) (sq_G (sq_dL (ms.2 1) 0 0) (sq_dn6 (ms.1 9)) (ms.1 9))) t ((ms.1 0) (((ms.2 4) * 6) + t))) (ms.1 10) (ms.1 11) (ms.2 0) (ms.2 1) (ms.2 2) (ms.2 3) (ms.2 4) (ms.2 5) (ms.2 6) (ms.2 7) (ms.2 8) (ms.2 9) (ms.2 10)) := hD
          have eA : upd (sq_G (sq_dR t) (fun j => ms.1 0 (ms.2 4 * 6 + j)) (sq_G (sq_dL (ms.2 1) 0 0) (sq_dn6 (ms.1 9)) (ms.1 9))) t ((ms.1 0) (((ms.2 4) * 6) + t)) = sq_G (sq_dR (t + 1)) (fun j => ms.1 0 (ms.2 4 * 6 + j)) (sq_G (sq_dL (ms.2 1) 0 0) (sq_dn6 (ms.1 9)) (ms.1 9)) := sq_G_step rfl (sq_dR_step t)
          rw [eA] at hP hD
          clear eA
          refine lv_iinc (v := nI (t + 1)) (lv' := [(2, .int (nI (t + 1))), (0, .ref h0)]) hx hb dX1_letIn_144 hl (k := 0) rfl (sq_inc _) (by decide) rfl (fun ls hl => ?_)
          refine lv_goto (tgt := 116) hx hb dX1_letIn_147 (by decide) ?_
          exact ih (j - 1) (by omega) (t + 1) (by omega) H locs ls hP hD hS hl
    have L1 : ∀ r : Nat, r < ms.2 1 → ∀ (H : Heap) (locs : List Loc) (ls : Array Slot), va_P (dC, dI) vwCl (wM h0 q cI cZ (ms.1 0) (ms.1 1) (ms.1 2) (ms.1 3) (ms.1 4) (ms.1 5) (ms.1 6) (ms.1 7) (ms.1 8) (sq_G (sq_dL (ms.2 1) r 0) (sq_dn6 (ms.1 9)) (ms.1 9)) (ms.1 10) (ms.1 11) (ms.2 0) (ms.2 1) (ms.2 2) (ms.2 3) (ms.2 4) (ms.2 5) (ms.2 6) (ms.2 7) (ms.2 8) (ms.2 9) (ms.2 10)) H → va_D A (wM h0 q cI cZ (ms.1 0) (ms.1 1) (ms.1 2) (ms.1 3) (ms.1 4) (ms.1 5) (ms.1 6) (ms.1 7) (ms.1 8) (sq_G (sq_dL (ms.2 1) r 0) (sq_dn6 (ms.1 9)) (ms.1 9)) (ms.1 10) (ms.1 11) (ms.2 0) (ms.2 1) (ms.2 2) (ms.2 3) (ms.2 4) (ms.2 5) (ms.2 6) (ms.2 7) (ms.2 8) (ms.2 9) (ms.2 10)) → va_S A s.heap H locs → lv_has ls 4 [(2, .int (nI r)), (0, .ref h0)] → W p l e rmm_letIn s m args below meth c H locs 0 0 Q (F0 m 63 ls []) := by
      intro r
      induction r using Nat.strongRecOn with
      | _ r ih =>
        intro hr H locs ls hP hD hS hl
        refine lv_iload_n hx hb dX1_letIn_63 rfl (lv_at hl 0 rfl) ?_
        refine sq_if_le (tgt := 114) hx hb (by omega) dX1_letIn_64 (by decide) (fun hc => ?_) (fun hc => ?_)
        · have er : r = 0 := hc
          subst er
          refine lv_iconst (v := nI 0) hx hb dX1_letIn_114 (by decide +kernel) ?_
          refine lv_istore_n (lv' := [(2, .int (nI 0)), (0, .ref h0)]) hx hb dX1_letIn_115 rfl hl (by decide) rfl (fun ls hl => ?_)
          rw [← sq_G_none (d := sq_dR 0) (new := (fun j => ms.1 0 (ms.2 4 * 6 + j))) (old := sq_G (sq_dL (ms.2 1) 0 0) (sq_dn6 (ms.1 9)) (ms.1 9)) (fun j => by simp [sq_dR])] at hP hD
          exact L3 (ms.2 1) 0 (by omega) H locs ls hP hD hS hl
        · obtain ⟨k, rfl⟩ : ∃ k, r = k + 1 := ⟨r - 1, by omega⟩
          refine lv_iconst (v := nI 0) hx hb dX1_letIn_67 (by decide +kernel) ?_
          refine lv_istore_n (lv' := [(3, .int (nI 0)), (2, .int (nI (k + 1))), (0, .ref h0)]) hx hb dX1_letIn_68 rfl hl (by decide) rfl (fun ls hl => ?_)
          have L2 : ∀ j t : Nat, t + j = ms.2 1 → ∀ (H : Heap) (locs : List Loc) (ls : Array Slot), va_P (dC, dI) vwCl (wM h0 q cI cZ (ms.1 0) (ms.1 1) (ms.1 2) (ms.1 3) (ms.1 4) (ms.1 5) (ms.1 6) (ms.1 7) (ms.1 8) (sq_G (sq_dL (ms.2 1) (k + 1) t) (sq_dn6 (ms.1 9)) (ms.1 9)) (ms.1 10) (ms.1 11) (ms.2 0) (ms.2 1) (ms.2 2) (ms.2 3) (ms.2 4) (ms.2 5) (ms.2 6) (ms.2 7) (ms.2 8) (ms.2 9) (ms.2 10)) H → va_D A (wM h0 q cI cZ (ms.1 0) (ms.1 1) (ms.1 2) (ms.1 3) (ms.1 4) (ms.1 5) (ms.1 6) (ms.1 7) (ms.1 8) (sq_G (sq_dL (ms.2 1) (k + 1) t) (sq_dn6 (ms.1 9)) (ms.1 9)) (ms.1 10) (ms.1 11) (ms.2 0) (ms.2 1) (ms.2 2) (ms.2 3) (ms.2 4) (ms.2 5) (ms.2 6) (ms.2 7) (ms.2 8) (ms.2 9) (ms.2 10)) → va_S A s.heap H locs → lv_has ls 4 [(3, .int (nI t)), (2, .int (nI (k + 1))), (0, .ref h0)] → W p l e rmm_letIn s m args below meth c H locs 0 0 Q (F0 m 69 ls []) := by
            intro j
            induction j using Nat.strongRecOn with
            | _ j ih2 =>
              intro t ht H locs ls hP hD hS hl
              refine lv_iload_n hx hb dX1_letIn_69 rfl (lv_at hl 0 rfl) ?_
              refine lv_aload_n hx hb dX1_letIn_70 rfl (lv_at hl 2 rfl) ?_
              refine va_get (D := (dC, dI)) (ci := 1) (v := .int (nI (ms.2 1))) (C := RX1) (T := TX1) (N := 23) hx hb hts hin hown hK hP 0 rfl rfl 1 (by decide) k7 (fun _ h9 => h9) rfl dX1_letIn_71 ?_
              refine sq_icmp_ge (tgt := 108) hx hb (by omega) (by omega) dX1_letIn_74 (by decide) (fun hd => ?_) (fun hd => ?_)
              · have et : t = ms.2 1 := by omega
                rw [et] at hP hD
                have eA : sq_G (sq_dL (ms.2 1) (k + 1) (ms.2 1)) (sq_dn6 (ms.1 9)) (ms.1 9) = sq_G (sq_dL (ms.2 1) k 0) (sq_dn6 (ms.1 9)) (ms.1 9) := sq_G_eq (sq_dL_row (ms.2 1) k)
                rw [eA] at hP hD
                clear eA
                refine lv_iinc (v := nI k) (lv' := [(2, .int (nI k)), (3, .int (nI t)), (0, .ref h0)]) hx hb dX1_letIn_108 hl (k := 1) rfl (sq_dec _) (by decide) rfl (fun ls hl => ?_)
                refine lv_goto (tgt := 63) hx hb dX1_letIn_111 (by decide) ?_
                exact ih k (by omega) (by omega) H locs ls hP hD hS (lv_sub hl [0, 2] rfl)
              · refine lv_aload_n hx hb dX1_letIn_77 rfl (lv_at hl 2 rfl) ?_
                refine va_get (D := (dC, dI)) (ci := 1) (v := .ref (q 9)) (C := RX1) (T := TX1) (N := 23) hx hb hts hin hown hK hP 0 rfl rfl 20 (by decide) k42 (fun _ h9 => h9) rfl dX1_letIn_78 ?_
                refine lv_bipush (v := nI 6) hx hb dX1_letIn_81 (by decide +kernel) ?_
                refine lv_iload_n hx hb dX1_letIn_83 rfl (lv_at hl 1 rfl) ?_
                refine sq_imulc hx hb dX1_letIn_84 ?_
                refine lv_iload_n hx hb dX1_letIn_85 rfl (lv_at hl 0 rfl) ?_
                refine sq_iadd hx hb dX1_letIn_86 ?_
                refine lv_aload_n hx hb dX1_letIn_87 rfl (lv_at hl 2 rfl) ?_
                refine va_get (D := (dC, dI)) (ci := 1) (v := .ref (q 9)) (C := RX1) (T := TX1) (N := 23) hx hb hts hin hown hK hP 0 rfl rfl 20 (by decide) k42 (fun _ h9 => h9) rfl dX1_letIn_88 ?_
                refine lv_bipush (v := nI 6) hx hb dX1_letIn_91 (by decide +kernel) ?_
                refine lv_iload_n hx hb dX1_letIn_93 rfl (lv_at hl 1 rfl) ?_
                refine sq_imulc hx hb dX1_letIn_94 ?_
                refine lv_bipush (v := nI 6) hx hb dX1_letIn_95 (by decide +kernel) ?_
                refine sq_isub hx hb (by omega) dX1_letIn_97 ?_
                refine lv_iload_n hx hb dX1_letIn_98 rfl (lv_at hl 0 rfl) ?_
                refine sq_iadd hx hb dX1_letIn_99 ?_
                refine sq_iald hx hb hK hP 10 0 rfl rfl (i := ((((k + 1) * 6) - 6) + t)) (by omega) (by decide) dX1_letIn_100 ?_
                refine sq_iast hx hb hK hP hD hS 10 0 rfl rfl (i := (((k + 1) * 6) + t)) (by omega) (by decide) dX1_letIn_101 (fun H locs hP hD hS => ?_)
                have hP : va_P (dC, dI) vwCl (wM h0 q cI cZ (ms.1 0) (ms.1 1) (ms.1 2) (ms.1 3) (ms.1 4) (ms.1 5) (ms.1 6) (ms.1 7) (ms.1 8) (upd (sq_G (sq_dL (ms.2 1) (k + 1) t) (sq_dn6 (ms.1 9)) (ms.1 9)) (((k + 1) * 6) + t) ((sq_G (sq_dL (ms.2 1) (k + 1) t) (sq_dn6 (ms.1 9)) (ms.1 9)) ((((k + 1) * 6) - 6) + t))) (ms.1 10) (ms.1 11) (ms.2 0) (ms.2 1) (ms.2 2) (ms.2 3) (ms.2 4) (ms.2 5) (ms.2 6) (ms.2 7) (ms.2 8) (ms.2 9) (ms.2 10)) H := hP
                have hD : va_D A (wM h0 q cI cZ (ms.1 0) (ms.1 1) (ms.1 2) (ms.1 3) (ms.1 4) (ms.1 5) (ms.1 6) (ms.1 7) (ms.1 8) (upd (sq_G (sq_dL (ms.2 1) (k + 1) t) (sq_dn6 (ms.1 9)) (ms.1 9)) (((k + 1) * 6) + t) ((sq_G (sq_dL (ms.2 1) (k + 1) t) (sq_dn6 (ms.1 9)) (ms.1 9)) ((((k + 1) * 6) - 6) + t))) (ms.1 10) (ms.1 11) (ms.2 0) (ms.2 1) (ms.2 2) (ms.2 3) (ms.2 4) (ms.2 5) (ms.2 6) (ms.2 7) (ms.2 8) (ms.2 9) (ms.2 10)) := hD
                have eA : upd (sq_G (sq_dL (ms.2 1) (k + 1) t) (sq_dn6 (ms.1 9)) (ms.1 9)) (((k + 1) * 6) + t) ((sq_G (sq_dL (ms.2 1) (k + 1) t) (sq_dn6 (ms.1 9)) (ms.1 9)) ((((k + 1) * 6) - 6) + t)) = sq_G (sq_dL (ms.2 1) (k + 1) (t + 1)) (sq_dn6 (ms.1 9)) (ms.1 9) := sq_G_step (by rw [sq_G_old (by simp only [sq_dL, decide_eq_true_eq]; omega)]; exact congrArg (ms.1 9) (by omega)) (sq_dL_step (ms.2 1) (k + 1) t o2 (by omega) (by omega))
                rw [eA] at hP hD
                clear eA
                refine lv_iinc (v := nI (t + 1)) (lv' := [(3, .int (nI (t + 1))), (2, .int (nI (k + 1))), (0, .ref h0)]) hx hb dX1_letIn_102 hl (k := 0) rfl (sq_inc _) (by decide) rfl (fun ls hl => ?_)
                refine lv_goto (tgt := 69) hx hb dX1_letIn_105 (by decide) ?_
                exact ih2 (j - 1) (by omega) (t + 1) (by omega) H locs ls hP hD hS hl
          exact L2 (ms.2 1) 0 (by omega) H locs ls hP hD hS hl
    have e9 : (wM h0 q cI cZ (ms.1 0) (ms.1 1) (ms.1 2) (ms.1 3) (ms.1 4) (ms.1 5) (ms.1 6) (ms.1 7) (ms.1 8) (sq_G (sq_dL (ms.2 1) (ms.2 1 - 1) 0) (sq_dn6 (ms.1 9)) (ms.1 9)) (ms.1 10) (ms.1 11) (ms.2 0) (ms.2 1) (ms.2 2) (ms.2 3) (ms.2 4) (ms.2 5) (ms.2 6) (ms.2 7) (ms.2 8) (ms.2 9) (ms.2 10)) = (wM h0 q cI cZ (ms.1 0) (ms.1 1) (ms.1 2) (ms.1 3) (ms.1 4) (ms.1 5) (ms.1 6) (ms.1 7) (ms.1 8) (ms.1 9) (ms.1 10) (ms.1 11) (ms.2 0) (ms.2 1) (ms.2 2) (ms.2 3) (ms.2 4) (ms.2 5) (ms.2 6) (ms.2 7) (ms.2 8) (ms.2 9) (ms.2 10)) := by rw [sq_G_none (sq_dL_top (ms.2 1) o1)]
    rw [← e9] at hP hD
    exact L1 (ms.2 1 - 1) (by omega) _ _ ls hP hD hS hl
  have T49 : ∀ (H : Heap) (locs : List Loc) (ls : Array Slot), ¬ sq_mcR ms = true → va_P (dC, dI) vwCl (wM h0 q cI cZ (ms.1 0) (ms.1 1) (ms.1 2) (ms.1 3) (ms.1 4) (ms.1 5) (ms.1 6) (ms.1 7) (ms.1 8) (ms.1 9) (ms.1 10) (ms.1 11) (ms.2 0) (ms.2 1) (ms.2 2) (ms.2 3) (ms.2 4) (ms.2 5) (ms.2 6) (ms.2 7) (ms.2 8) (ms.2 9) (ms.2 10)) H → va_D A (wM h0 q cI cZ (ms.1 0) (ms.1 1) (ms.1 2) (ms.1 3) (ms.1 4) (ms.1 5) (ms.1 6) (ms.1 7) (ms.1 8) (ms.1 9) (ms.1 10) (ms.1 11) (ms.2 0) (ms.2 1) (ms.2 2) (ms.2 3) (ms.2 4) (ms.2 5) (ms.2 6) (ms.2 7) (ms.2 8) (ms.2 9) (ms.2 10)) → va_S A s.heap H locs → lv_has ls 4 [(0, .ref h0)] → W p l e rmm_letIn s m args below meth c H locs 0 0 Q (F0 m 49 ls []) := by
    intro H locs ls hpre hP hD hS hl
    refine lv_iconst (v := nI 0) hx hb dX1_letIn_49 (by decide +kernel) ?_
    refine lv_istore_n (lv' := [(1, .int (nI 0)), (0, .ref h0)]) hx hb dX1_letIn_50 rfl hl (by decide) rfl (fun ls hl => ?_)
    refine lv_iload_n hx hb dX1_letIn_51 rfl (lv_at hl 0 rfl) ?_
    refine sq_if_ne (tgt := 56) hx hb (by omega) dX1_letIn_52 (by decide) (fun hc => ?_) (fun hc => ?_)
    · exact absurd rfl hc
    · have e9 : (wM h0 q cI cZ ((sq_ml ms).1 0) ((sq_ml ms).1 1) ((sq_ml ms).1 2) ((sq_ml ms).1 3) ((sq_ml ms).1 4) ((sq_ml ms).1 5) ((sq_ml ms).1 6) ((sq_ml ms).1 7) ((sq_ml ms).1 8) ((sq_ml ms).1 9) ((sq_ml ms).1 10) ((sq_ml ms).1 11) ((sq_ml ms).2 0) ((sq_ml ms).2 1) ((sq_ml ms).2 2) ((sq_ml ms).2 3) ((sq_ml ms).2 4) ((sq_ml ms).2 5) ((sq_ml ms).2 6) ((sq_ml ms).2 7) ((sq_ml ms).2 8) ((sq_ml ms).2 9) ((sq_ml ms).2 10)) = (wM h0 q cI cZ (ms.1 0) (ms.1 1) (ms.1 2) (ms.1 3) (ms.1 4) (ms.1 5) (ms.1 6) (ms.1 7) (ms.1 8) (ms.1 9) (ms.1 10) (ms.1 11) (ms.2 0) (ms.2 1) (ms.2 2) (ms.2 3) (ms.2 4) (ms.2 5) (ms.2 6) (ms.2 7) (ms.2 8) (ms.2 9) (ms.2 10)) := by unfold sq_ml; rw [if_neg hpre]
      rw [← e9] at hP hD
      exact hend _ _ _ _ hP hD hS dX1_letIn_55
  refine lv_aload_n hx hb dX1_letIn_0 rfl (lv_at hl 0 rfl) ?_
  refine va_get (D := (dC, dI)) (ci := 1) (v := .int (nI (ms.2 4))) (C := RX1) (T := TX1) (N := 23) hx hb hts hin hown hK hP 0 rfl rfl 4 (by decide) k63 (fun _ h9 => h9) rfl dX1_letIn_1 ?_
  refine lv_aload_n hx hb dX1_letIn_4 rfl (lv_at hl 0 rfl) ?_
  refine va_get (D := (dC, dI)) (ci := 1) (v := .int (nI (ms.2 3))) (C := RX1) (T := TX1) (N := 23) hx hb hts hin hown hK hP 0 rfl rfl 3 (by decide) k60 (fun _ h9 => h9) rfl dX1_letIn_5 ?_
  refine sq_icmp_ge (tgt := 49) hx hb (by omega) (by omega) dX1_letIn_8 (by decide) (fun hc => ?_) (fun hc => ?_)
  · exact T49 _ _ ls (fun h => absurd (of_decide_eq_true h).1 (by omega)) hP hD hS hl
  · refine lv_aload_n hx hb dX1_letIn_11 rfl (lv_at hl 0 rfl) ?_
    refine va_get (D := (dC, dI)) (ci := 1) (v := .int (nI (ms.2 6))) (C := RX1) (T := TX1) (N := 23) hx hb hts hin hown hK hP 0 rfl rfl 6 (by decide) k69 (fun _ h9 => h9) rfl dX1_letIn_12 ?_
    refine sq_if_ne (tgt := 49) hx hb (by omega) dX1_letIn_15 (by decide) (fun hd => ?_) (fun hd => ?_)
    · exact T49 _ _ ls (fun h => hd (of_decide_eq_true h).2.1) hP hD hS hl
    · refine lv_aload_n hx hb dX1_letIn_18 rfl (lv_at hl 0 rfl) ?_
      refine va_get (D := (dC, dI)) (ci := 1) (v := .int (nI (ms.2 9))) (C := RX1) (T := TX1) (N := 23) hx hb hts hin hown hK hP 0 rfl rfl 10 (by decide) k79 (fun _ h9 => h9) rfl dX1_letIn_19 ?_
      refine sq_if_eq (tgt := 45) hx hb (by omega) dX1_letIn_22 (by decide) (fun he => ?_) (fun he => ?_)
      · refine lv_iconst (v := nI 1) hx hb dX1_letIn_45 (by decide +kernel) ?_
        refine lv_goto (tgt := 50) hx hb dX1_letIn_46 (by decide) ?_
        refine lv_istore_n (lv' := [(1, .int (nI 1)), (0, .ref h0)]) hx hb dX1_letIn_50 rfl hl (by decide) rfl (fun ls hl => ?_)
        refine lv_iload_n hx hb dX1_letIn_51 rfl (lv_at hl 0 rfl) ?_
        refine sq_if_ne (tgt := 56) hx hb (by omega) dX1_letIn_52 (by decide) (fun hq => ?_) (fun hq => ?_)
        · exact T56 _ _ ls (decide_eq_true ⟨hc, hd, Or.inl he⟩) hP hD hS (lv_sub hl [1] rfl)
        · exact absurd hq (by decide)
      · have h10 := o11 he
        refine lv_aload_n hx hb dX1_letIn_25 rfl (lv_at hl 0 rfl) ?_
        refine va_get (D := (dC, dI)) (ci := 1) (v := .int (nI (ms.2 2))) (C := RX1) (T := TX1) (N := 23) hx hb hts hin hown hK hP 0 rfl rfl 2 (by decide) k57 (fun _ h9 => h9) rfl dX1_letIn_26 ?_
        refine lv_aload_n hx hb dX1_letIn_29 rfl (lv_at hl 0 rfl) ?_
        refine va_get (D := (dC, dI)) (ci := 1) (v := .int (nI (ms.2 10))) (C := RX1) (T := TX1) (N := 23) hx hb hts hin hown hK hP 0 rfl rfl 11 (by decide) k94 (fun _ h9 => h9) rfl dX1_letIn_30 ?_
        refine sq_isub hx hb (by omega) dX1_letIn_33 ?_
        refine lv_iconst (v := nI 2) hx hb dX1_letIn_34 (by decide +kernel) ?_
        refine lv_aload_n hx hb dX1_letIn_35 rfl (lv_at hl 0 rfl) ?_
        refine va_get (D := (dC, dI)) (ci := 1) (v := .int (nI (ms.2 1))) (C := RX1) (T := TX1) (N := 23) hx hb hts hin hown hK hP 0 rfl rfl 1 (by decide) k7 (fun _ h9 => h9) rfl dX1_letIn_36 ?_
        refine sq_imul hx hb dX1_letIn_39 ?_
        refine lv_iconst (v := nI 2) hx hb dX1_letIn_40 (by decide +kernel) ?_
        refine sq_isub hx hb (by omega) dX1_letIn_41 ?_
        refine sq_icmp_le (tgt := 49) hx hb (by omega) (by omega) dX1_letIn_42 (by decide) (fun hf => ?_) (fun hf => ?_)
        · exact T49 _ _ ls (fun h => (of_decide_eq_true h).2.2.elim he (fun h => absurd h (by omega))) hP hD hS hl
        · refine lv_iconst (v := nI 1) hx hb dX1_letIn_45 (by decide +kernel) ?_
          refine lv_goto (tgt := 50) hx hb dX1_letIn_46 (by decide) ?_
          refine lv_istore_n (lv' := [(1, .int (nI 1)), (0, .ref h0)]) hx hb dX1_letIn_50 rfl hl (by decide) rfl (fun ls hl => ?_)
          refine lv_iload_n hx hb dX1_letIn_51 rfl (lv_at hl 0 rfl) ?_
          refine sq_if_ne (tgt := 56) hx hb (by omega) dX1_letIn_52 (by decide) (fun hq => ?_) (fun hq => ?_)
          · exact T56 _ _ ls (decide_eq_true ⟨hc, hd, Or.inr hf⟩) hP hD hS (lv_sub hl [1] rfl)
          · exact absurd hq (by decide)
def rmm_enteredAgo : Room := { frames := 0, cells := 0, slots := 0, locals := 0 }
set_option maxHeartbeats 4000000 in
set_option maxRecDepth 100000 in
theorem k_enteredAgo (l : Launch) (dC : Nat → ClassId) (dI : Nat → Nat → Nat) (h0 : Nat) (q : Nat → Nat) (cI cZ : ClassId) (ms : SqS) (k : Nat) (bk : k < 2 ^ 31) (b2 : ms.2 2 < 2 ^ 31) : sq_Mi l yX1_enteredAgo wsX1_enteredAgo rmm_enteredAgo [.ref h0, .int (nI k)] (dC, dI) vwCl [(cI, .int), (cZ, .boolean)] (wM h0 q cI cZ (ms.1 0) (ms.1 1) (ms.1 2) (ms.1 3) (ms.1 4) (ms.1 5) (ms.1 6) (ms.1 7) (ms.1 8) (ms.1 9) (ms.1 10) (ms.1 11) (ms.2 0) (ms.2 1) (ms.2 2) (ms.2 3) (ms.2 4) (ms.2 5) (ms.2 6) (ms.2 7) (ms.2 8) (ms.2 9) (ms.2 10)) (wM h0 q cI cZ (ms.1 0) (ms.1 1) (ms.1 2) (ms.1 3) (ms.1 4) (ms.1 5) (ms.1 6) (ms.1 7) (ms.1 8) (ms.1 9) (ms.1 10) (ms.1 11) (ms.2 0) (ms.2 1) (ms.2 2) (ms.2 3) (ms.2 4) (ms.2 5) (ms.2 6) (ms.2 7) (ms.2 8) (ms.2 9) (ms.2 10)) (sq_mago (ms.2 2) (ms.1 5) k) := by
  refine sq_ofWi (cc := cX1_enteredAgo) (maxL := 2) (by decide) rfl (Nat.le_of_ble_eq_true rfl) (vp_nar_int _) ?_
  intro p e s m args below meth c A ls Q hx hb hts hown hml hK hP hD hS hA hl hend
  have hl : lv_has ls 2 [(0, .ref h0), (1, .int (nI k))] := hl
  have hin : ∀ w ∈ u_ws RX1 TX1 23, w ∈ wsX1_enteredAgo := fun w h => List.mem_cons_of_mem _ (inX1 w h)
  have k30 := hts _ (List.mem_cons_of_mem _ mfX1_30)
  have k57 := hts _ (List.mem_cons_of_mem _ mfX1_57)
  refine lv_iload_n hx hb dX1_enteredAgo_0 rfl (lv_at hl 1 rfl) ?_
  refine lv_aload_n hx hb dX1_enteredAgo_1 rfl (lv_at hl 0 rfl) ?_
  refine va_get (D := (dC, dI)) (ci := 1) (v := .int (nI (ms.2 2))) (C := RX1) (T := TX1) (N := 23) hx hb hts hin hown hK hP 0 rfl rfl 2 (by decide) k57 (fun _ h9 => h9) rfl dX1_enteredAgo_2 ?_
  refine sq_icmp_ge (tgt := 25) hx hb (by omega) (by omega) dX1_enteredAgo_5 (by decide) (fun hc => ?_) (fun hc => ?_)
  · refine lv_iconst (v := (-1)) hx hb dX1_enteredAgo_25 (by decide +kernel) ?_
    exact hend _ _ _ _ _ (by unfold sq_mago; rw [if_neg (by omega)]) hP hD hS dX1_enteredAgo_26
  · refine lv_aload_n hx hb dX1_enteredAgo_8 rfl (lv_at hl 0 rfl) ?_
    refine va_get (D := (dC, dI)) (ci := 1) (v := .ref (q 5)) (C := RX1) (T := TX1) (N := 23) hx hb hts hin hown hK hP 0 rfl rfl 16 (by decide) k30 (fun _ h9 => h9) rfl dX1_enteredAgo_9 ?_
    refine lv_aload_n hx hb dX1_enteredAgo_12 rfl (lv_at hl 0 rfl) ?_
    refine va_get (D := (dC, dI)) (ci := 1) (v := .int (nI (ms.2 2))) (C := RX1) (T := TX1) (N := 23) hx hb hts hin hown hK hP 0 rfl rfl 2 (by decide) k57 (fun _ h9 => h9) rfl dX1_enteredAgo_13 ?_
    refine lv_iload_n hx hb dX1_enteredAgo_16 rfl (lv_at hl 1 rfl) ?_
    refine sq_isub hx hb (by omega) dX1_enteredAgo_17 ?_
    refine lv_bipush (v := nI 16) hx hb dX1_enteredAgo_18 (by decide +kernel) ?_
    refine sq_irem hx hb (by omega) (by decide) (by decide) dX1_enteredAgo_20 ?_
    refine sq_iald hx hb hK hP 6 0 rfl rfl (i := (((ms.2 2) - k) % 16)) (by omega) (by decide) dX1_enteredAgo_21 ?_
    refine lv_goto (tgt := 26) hx hb dX1_enteredAgo_22 (by decide) ?_
    exact hend _ _ _ _ _ (by unfold sq_mago; rw [if_pos hc]) hP hD hS dX1_enteredAgo_26
end
section
def rmm_goOn : Room := { frames := 1, cells := 0, slots := 0, locals := 21 }
set_option maxHeartbeats 4000000 in
set_option maxRecDepth 100000 in
theorem k_goOn (l : Launch) (dC : Nat → ClassId) (dI : Nat → Nat → Nat) (h0 : Nat) (q : Nat → Nat) (cI cZ : ClassId) (ms : SqS)  (hok : sq_mok ms) : sq_Mv l yX1_goOn wsX1_goOn rmm_goOn [.ref h0] (dC, dI) vwCl [(cI, .int), (cZ, .boolean)] (wM h0 q cI cZ (ms.1 0) (ms.1 1) (ms.1 2) (ms.1 3) (ms.1 4) (ms.1 5) (ms.1 6) (ms.1 7) (ms.1 8) (ms.1 9) (ms.1 10) (ms.1 11) (ms.2 0) (ms.2 1) (ms.2 2) (ms.2 3) (ms.2 4) (ms.2 5) (ms.2 6) (ms.2 7) (ms.2 8) (ms.2 9) (ms.2 10)) (wM h0 q cI cZ ((sq_mg ms).1 0) ((sq_mg ms).1 1) ((sq_mg ms).1 2) ((sq_mg ms).1 3) ((sq_mg ms).1 4) ((sq_mg ms).1 5) ((sq_mg ms).1 6) ((sq_mg ms).1 7) ((sq_mg ms).1 8) ((sq_mg ms).1 9) ((sq_mg ms).1 10) ((sq_mg ms).1 11) ((sq_mg ms).2 0) ((sq_mg ms).2 1) ((sq_mg ms).2 2) ((sq_mg ms).2 3) ((sq_mg ms).2 4) ((sq_mg ms).2 5) ((sq_mg ms).2 6) ((sq_mg ms).2 7) ((sq_mg ms).2 8) ((sq_mg ms).2 9) ((sq_mg ms).2 10)) := by
  refine sq_ofWv (cc := cX1_goOn) (maxL := 4) (by decide) rfl (Nat.le_of_ble_eq_true rfl) ?_
  intro p e s m args below meth c A ls Q hx hb hts hown hml hK hP hD hS hA hl hend
  have hl : lv_has ls 4 [(0, .ref h0)] := hl
  have hin : ∀ w ∈ u_ws RX1 TX1 23, w ∈ wsX1_goOn := fun w h => List.mem_cons_of_mem _ (inX1 w h)
  have k7 := hts _ (List.mem_cons_of_mem _ mfX1_7)
  have k17 := hts _ (List.mem_cons_of_mem _ mfX1_17)
  have k20 := hts _ (List.mem_cons_of_mem _ mfX1_20)
  have k27 := hts _ (List.mem_cons_of_mem _ mfX1_27)
  have k33 := hts _ (List.mem_cons_of_mem _ mfX1_33)
  have k36 := hts _ (List.mem_cons_of_mem _ mfX1_36)
  have k39 := hts _ (List.mem_cons_of_mem _ mfX1_39)
  have k42 := hts _ (List.mem_cons_of_mem _ mfX1_42)
  have k45 := hts _ (List.mem_cons_of_mem _ mfX1_45)
  have k48 := hts _ (List.mem_cons_of_mem _ mfX1_48)
  obtain ⟨⟨o1, o2⟩, o3, ⟨o4, o5⟩, ⟨o6, o7⟩, ⟨o8, o9, o10⟩, o11, o12, o13, o14, o15, o16⟩ := id hok
  have hag : ∀ k : Nat, (sq_mago (ms.2 2) (ms.1 5)) k = -1 ∨ ∃ v : Nat, v < ms.2 8 ∧ (sq_mago (ms.2 2) (ms.1 5)) k = nI v := fun k => by unfold sq_mago; split; exact o12 _; exact Or.inl rfl
  have LC : ∀ j t : Nat, t + j = ms.2 1 → ∀ (H : Heap) (locs : List Loc) (ls : Array Slot), va_P (dC, dI) vwCl (wM h0 q cI cZ (ms.1 0) (ms.1 1) (ms.1 2) (ms.1 3) (sq_keep (ms.2 1) (sq_mago (ms.2 2) (ms.1 5)) (sq_G (sq_dH (ms.2 1) (ms.2 1) (ms.2 1)) (sq_gS (sq_mago (ms.2 2) (ms.1 5)) (ms.1 1) (ms.1 2) (ms.1 6) (ms.1 10) (ms.1 8) (ms.1 9) (ms.1 7)) (ms.1 7)) (ms.1 4) t) (ms.1 5) (sq_G (sq_dH (ms.2 1) (ms.2 1) (ms.2 1)) (sq_gI (sq_mago (ms.2 2) (ms.1 5)) (ms.1 1) (ms.1 6)) (ms.1 6)) (sq_G (sq_dH (ms.2 1) (ms.2 1) (ms.2 1)) (sq_gS (sq_mago (ms.2 2) (ms.1 5)) (ms.1 1) (ms.1 2) (ms.1 6) (ms.1 10) (ms.1 8) (ms.1 9) (ms.1 7)) (ms.1 7)) (sq_G (sq_dH (ms.2 1) (ms.2 1) (ms.2 1)) (sq_gF (sq_mago (ms.2 2) (ms.1 5)) (ms.1 2) (ms.1 10) (ms.1 8) (ms.1 9)) (ms.1 8)) (ms.1 9) (sq_G (sq_dH (ms.2 1) (ms.2 1) (ms.2 1)) (sq_gM (sq_mago (ms.2 2) (ms.1 5)) (ms.1 2) (ms.1 10)) (ms.1 10)) (sq_G (sq_dH (ms.2 1) (ms.2 1) (ms.2 1)) (sq_nIn (ms.1 11) (sq_mreal (sq_mago (ms.2 2) (ms.1 5)))) (ms.1 11)) (ms.2 0) (ms.2 1) (ms.2 2) (ms.2 3) (ms.2 4) (ms.2 5) (ms.2 6) (ms.2 7) (ms.2 8) (ms.2 9) (ms.2 10)) H → va_D A (wM h0 q cI cZ (ms.1 0) (ms.1 1) (ms.1 2) (ms.1 3) (sq_keep (ms.2 1) (sq_mago (ms.2 2) (ms.1 5)) (sq_G (sq_dH (ms.2 1) (ms.2 1) (ms.2 1)) (sq_gS (sq_mago (ms.2 2) (ms.1 5)) (ms.1 1) (ms.1 2) (ms.1 6) (ms.1 10) (ms.1 8) (ms.1 9) (ms.1 7)) (ms.1 7)) (ms.1 4) t) (ms.1 5) (sq_G (sq_dH (ms.2 1) (ms.2 1) (ms.2 1)) (sq_gI (sq_mago (ms.2 2) (ms.1 5)) (ms.1 1) (ms.1 6)) (ms.1 6)) (sq_G (sq_dH (ms.2 1) (ms.2 1) (ms.2 1)) (sq_gS (sq_mago (ms.2 2) (ms.1 5)) (ms.1 1) (ms.1 2) (ms.1 6) (ms.1 10) (ms.1 8) (ms.1 9) (ms.1 7)) (ms.1 7)) (sq_G (sq_dH (ms.2 1) (ms.2 1) (ms.2 1)) (sq_gF (sq_mago (ms.2 2) (ms.1 5)) (ms.1 2) (ms.1 10) (ms.1 8) (ms.1 9)) (ms.1 8)) (ms.1 9) (sq_G (sq_dH (ms.2 1) (ms.2 1) (ms.2 1)) (sq_gM (sq_mago (ms.2 2) (ms.1 5)) (ms.1 2) (ms.1 10)) (ms.1 10)) (sq_G (sq_dH (ms.2 1) (ms.2 1) (ms.2 1)) (sq_nIn (ms.1 11) (sq_mreal (sq_mago (ms.2 2) (ms.1 5)))) (ms.1 11)) (ms.2 0) (ms.2 1) (ms.2 2) (ms.2 3) (ms.2 4) (ms.2 5) (ms.2 6) (ms.2 7) (ms.2 8) (ms.2 9) (ms.2 10)) → va_S A s.heap H locs → lv_has ls 4 [(1, .int (nI t)), (0, .ref h0)] → W p l e rmm_goOn s m args below meth c H locs 0 0 Q (F0 m 270 ls []) := by
    intro j
    induction j using Nat.strongRecOn with
    | _ j ih =>
      intro t ht H locs ls hP hD hS hl
      refine lv_iload_n hx hb dX1_goOn_270 rfl (lv_at hl 0 rfl) ?_
      refine lv_aload_n hx hb dX1_goOn_271 rfl (lv_at hl 1 rfl) ?_
      refine va_get (D := (dC, dI)) (ci := 1) (v := .int (nI (ms.2 1))) (C := RX1) (T := TX1) (N := 23) hx hb hts hin hown hK hP 0 rfl rfl 1 (by decide) k7 (fun _ h9 => h9) rfl dX1_goOn_272 ?_
      refine sq_icmp_ge (tgt := 329) hx hb (by omega) (by omega) dX1_goOn_275 (by decide) (fun hc => ?_) (fun hc => ?_)
      · rw [show t = ms.2 1 by omega] at hP hD
        exact hend _ _ _ _ hP hD hS dX1_goOn_329
      · refine lv_aload_n hx hb dX1_goOn_278 rfl (lv_at hl 1 rfl) ?_
        refine lv_aload_n hx hb dX1_goOn_279 rfl (lv_at hl 1 rfl) ?_
        refine va_get (D := (dC, dI)) (ci := 1) (v := .int (nI (ms.2 1))) (C := RX1) (T := TX1) (N := 23) hx hb hts hin hown hK hP 0 rfl rfl 1 (by decide) k7 (fun _ h9 => h9) rfl dX1_goOn_280 ?_
        refine lv_iconst (v := nI 1) hx hb dX1_goOn_283 (by decide +kernel) ?_
        refine sq_isub hx hb (by omega) dX1_goOn_284 ?_
        refine lv_iload_n hx hb dX1_goOn_285 rfl (lv_at hl 0 rfl) ?_
        refine sq_iadd hx hb dX1_goOn_286 ?_
        refine sq_calli (As := [.int (nI (((ms.2 1) - 1) + t))]) (k_enteredAgo l dC dI h0 q cI cZ (sq_mm (ms.1 0) (ms.1 1) (ms.1 2) (ms.1 3) (sq_keep (ms.2 1) (sq_mago (ms.2 2) (ms.1 5)) (sq_G (sq_dH (ms.2 1) (ms.2 1) (ms.2 1)) (sq_gS (sq_mago (ms.2 2) (ms.1 5)) (ms.1 1) (ms.1 2) (ms.1 6) (ms.1 10) (ms.1 8) (ms.1 9) (ms.1 7)) (ms.1 7)) (ms.1 4) t) (ms.1 5) (sq_G (sq_dH (ms.2 1) (ms.2 1) (ms.2 1)) (sq_gI (sq_mago (ms.2 2) (ms.1 5)) (ms.1 1) (ms.1 6)) (ms.1 6)) (sq_G (sq_dH (ms.2 1) (ms.2 1) (ms.2 1)) (sq_gS (sq_mago (ms.2 2) (ms.1 5)) (ms.1 1) (ms.1 2) (ms.1 6) (ms.1 10) (ms.1 8) (ms.1 9) (ms.1 7)) (ms.1 7)) (sq_G (sq_dH (ms.2 1) (ms.2 1) (ms.2 1)) (sq_gF (sq_mago (ms.2 2) (ms.1 5)) (ms.1 2) (ms.1 10) (ms.1 8) (ms.1 9)) (ms.1 8)) (ms.1 9) (sq_G (sq_dH (ms.2 1) (ms.2 1) (ms.2 1)) (sq_gM (sq_mago (ms.2 2) (ms.1 5)) (ms.1 2) (ms.1 10)) (ms.1 10)) (sq_G (sq_dH (ms.2 1) (ms.2 1) (ms.2 1)) (sq_nIn (ms.1 11) (sq_mreal (sq_mago (ms.2 2) (ms.1 5)))) (ms.1 11)) (ms.2 0) (ms.2 1) (ms.2 2) (ms.2 3) (ms.2 4) (ms.2 5) (ms.2 6) (ms.2 7) (ms.2 8) (ms.2 9) (ms.2 10)) (((ms.2 1) - 1) + t) (by omega) (show ms.2 2 < 2 ^ 31 by omega)) ⟨hx, hb, hml, hown, hts⟩ (cwV 1 hts (sq_good gvX1_97) rfl rfl rfl (by decide +kernel) ⟨Nat.le_of_ble_eq_true rfl, Nat.le_of_ble_eq_true rfl⟩) hK hP hD hS hA rfl rfl rfl rfl hl.1 rfl (Nat.le_of_ble_eq_true rfl) dX1_goOn_287 ⟨Nat.zero_le _, Nat.zero_le _⟩ (fun H locs hP hD hS => ?_)
        have hP : va_P (dC, dI) vwCl (wM h0 q cI cZ (ms.1 0) (ms.1 1) (ms.1 2) (ms.1 3) (sq_keep (ms.2 1) (sq_mago (ms.2 2) (ms.1 5)) (sq_G (sq_dH (ms.2 1) (ms.2 1) (ms.2 1)) (sq_gS (sq_mago (ms.2 2) (ms.1 5)) (ms.1 1) (ms.1 2) (ms.1 6) (ms.1 10) (ms.1 8) (ms.1 9) (ms.1 7)) (ms.1 7)) (ms.1 4) t) (ms.1 5) (sq_G (sq_dH (ms.2 1) (ms.2 1) (ms.2 1)) (sq_gI (sq_mago (ms.2 2) (ms.1 5)) (ms.1 1) (ms.1 6)) (ms.1 6)) (sq_G (sq_dH (ms.2 1) (ms.2 1) (ms.2 1)) (sq_gS (sq_mago (ms.2 2) (ms.1 5)) (ms.1 1) (ms.1 2) (ms.1 6) (ms.1 10) (ms.1 8) (ms.1 9) (ms.1 7)) (ms.1 7)) (sq_G (sq_dH (ms.2 1) (ms.2 1) (ms.2 1)) (sq_gF (sq_mago (ms.2 2) (ms.1 5)) (ms.1 2) (ms.1 10) (ms.1 8) (ms.1 9)) (ms.1 8)) (ms.1 9) (sq_G (sq_dH (ms.2 1) (ms.2 1) (ms.2 1)) (sq_gM (sq_mago (ms.2 2) (ms.1 5)) (ms.1 2) (ms.1 10)) (ms.1 10)) (sq_G (sq_dH (ms.2 1) (ms.2 1) (ms.2 1)) (sq_nIn (ms.1 11) (sq_mreal (sq_mago (ms.2 2) (ms.1 5)))) (ms.1 11)) (ms.2 0) (ms.2 1) (ms.2 2) (ms.2 3) (ms.2 4) (ms.2 5) (ms.2 6) (ms.2 7) (ms.2 8) (ms.2 9) (ms.2 10)) H := hP
        have hD : va_D A (wM h0 q cI cZ (ms.1 0) (ms.1 1) (ms.1 2) (ms.1 3) (sq_keep (ms.2 1) (sq_mago (ms.2 2) (ms.1 5)) (sq_G (sq_dH (ms.2 1) (ms.2 1) (ms.2 1)) (sq_gS (sq_mago (ms.2 2) (ms.1 5)) (ms.1 1) (ms.1 2) (ms.1 6) (ms.1 10) (ms.1 8) (ms.1 9) (ms.1 7)) (ms.1 7)) (ms.1 4) t) (ms.1 5) (sq_G (sq_dH (ms.2 1) (ms.2 1) (ms.2 1)) (sq_gI (sq_mago (ms.2 2) (ms.1 5)) (ms.1 1) (ms.1 6)) (ms.1 6)) (sq_G (sq_dH (ms.2 1) (ms.2 1) (ms.2 1)) (sq_gS (sq_mago (ms.2 2) (ms.1 5)) (ms.1 1) (ms.1 2) (ms.1 6) (ms.1 10) (ms.1 8) (ms.1 9) (ms.1 7)) (ms.1 7)) (sq_G (sq_dH (ms.2 1) (ms.2 1) (ms.2 1)) (sq_gF (sq_mago (ms.2 2) (ms.1 5)) (ms.1 2) (ms.1 10) (ms.1 8) (ms.1 9)) (ms.1 8)) (ms.1 9) (sq_G (sq_dH (ms.2 1) (ms.2 1) (ms.2 1)) (sq_gM (sq_mago (ms.2 2) (ms.1 5)) (ms.1 2) (ms.1 10)) (ms.1 10)) (sq_G (sq_dH (ms.2 1) (ms.2 1) (ms.2 1)) (sq_nIn (ms.1 11) (sq_mreal (sq_mago (ms.2 2) (ms.1 5)))) (ms.1 11)) (ms.2 0) (ms.2 1) (ms.2 2) (ms.2 3) (ms.2 4) (ms.2 5) (ms.2 6) (ms.2 7) (ms.2 8) (ms.2 9) (ms.2 10)) := hD
        rcases hag (ms.2 1 - 1 + t) with ev | ⟨v, hv, ev⟩
        · refine sq_top ev ?_
          refine lv_istore_n (lv' := [(2, .int (-1)), (1, .int (nI t)), (0, .ref h0)]) hx hb dX1_goOn_290 rfl hl (by decide) rfl (fun ls hl => ?_)
          refine lv_iload_n hx hb dX1_goOn_291 rfl (lv_at hl 0 rfl) ?_
          refine sq_if_m1 (tgt := 323) hx hb dX1_goOn_292 (by decide) ?_
          have eA : sq_keep (ms.2 1) (sq_mago (ms.2 2) (ms.1 5)) (sq_G (sq_dH (ms.2 1) (ms.2 1) (ms.2 1)) (sq_gS (sq_mago (ms.2 2) (ms.1 5)) (ms.1 1) (ms.1 2) (ms.1 6) (ms.1 10) (ms.1 8) (ms.1 9) (ms.1 7)) (ms.1 7)) (ms.1 4) t = sq_keep (ms.2 1) (sq_mago (ms.2 2) (ms.1 5)) (sq_G (sq_dH (ms.2 1) (ms.2 1) (ms.2 1)) (sq_gS (sq_mago (ms.2 2) (ms.1 5)) (ms.1 1) (ms.1 2) (ms.1 6) (ms.1 10) (ms.1 8) (ms.1 9) (ms.1 7)) (ms.1 7)) (ms.1 4) (t + 1) := by rw [show sq_keep (ms.2 1) (sq_mago (ms.2 2) (ms.1 5)) (sq_G (sq_dH (ms.2 1) (ms.2 1) (ms.2 1)) (sq_gS (sq_mago (ms.2 2) (ms.1 5)) (ms.1 1) (ms.1 2) (ms.1 6) (ms.1 10) (ms.1 8) (ms.1 9) (ms.1 7)) (ms.1 7)) (ms.1 4) (t + 1) = if (sq_mago (ms.2 2) (ms.1 5)) (ms.2 1 - 1 + t) = -1 then sq_keep (ms.2 1) (sq_mago (ms.2 2) (ms.1 5)) (sq_G (sq_dH (ms.2 1) (ms.2 1) (ms.2 1)) (sq_gS (sq_mago (ms.2 2) (ms.1 5)) (ms.1 1) (ms.1 2) (ms.1 6) (ms.1 10) (ms.1 8) (ms.1 9) (ms.1 7)) (ms.1 7)) (ms.1 4) t else upd (sq_keep (ms.2 1) (sq_mago (ms.2 2) (ms.1 5)) (sq_G (sq_dH (ms.2 1) (ms.2 1) (ms.2 1)) (sq_gS (sq_mago (ms.2 2) (ms.1 5)) (ms.1 1) (ms.1 2) (ms.1 6) (ms.1 10) (ms.1 8) (ms.1 9) (ms.1 7)) (ms.1 7)) (ms.1 4) t) (sq_vec ((sq_mago (ms.2 2) (ms.1 5)) (ms.2 1 - 1 + t)) * 6 + t) ((sq_G (sq_dH (ms.2 1) (ms.2 1) (ms.2 1)) (sq_gS (sq_mago (ms.2 2) (ms.1 5)) (ms.1 1) (ms.1 2) (ms.1 6) (ms.1 10) (ms.1 8) (ms.1 9) (ms.1 7)) (ms.1 7)) ((ms.2 1 - 1) * 6 + t)) from rfl, if_pos ev]
          rw [eA] at hP hD
          clear eA
          refine lv_iinc (v := nI (t + 1)) (lv' := [(1, .int (nI (t + 1))), (2, .int (-1)), (0, .ref h0)]) hx hb dX1_goOn_323 hl (k := 1) rfl (sq_inc _) (by decide) rfl (fun ls hl => ?_)
          refine lv_goto (tgt := 270) hx hb dX1_goOn_326 (by decide) ?_
          exact ih (j - 1) (by omega) (t + 1) (by omega) H locs ls hP hD hS (lv_sub hl [0, 2] rfl)
        · refine sq_top ev ?_
          refine lv_istore_n (lv' := [(2, .int (nI v)), (1, .int (nI t)), (0, .ref h0)]) hx hb dX1_goOn_290 rfl hl (by decide) rfl (fun ls hl => ?_)
          refine lv_iload_n hx hb dX1_goOn_291 rfl (lv_at hl 0 rfl) ?_
          refine sq_if_lt (tgt := 323) hx hb (by omega) dX1_goOn_292 (by decide) ?_
          refine lv_aload_n hx hb dX1_goOn_295 rfl (lv_at hl 2 rfl) ?_
          refine va_get (D := (dC, dI)) (ci := 1) (v := .ref (q 4)) (C := RX1) (T := TX1) (N := 23) hx hb hts hin hown hK hP 0 rfl rfl 15 (by decide) k27 (fun _ h9 => h9) rfl dX1_goOn_296 ?_
          refine lv_bipush (v := nI 6) hx hb dX1_goOn_299 (by decide +kernel) ?_
          refine lv_iload_n hx hb dX1_goOn_301 rfl (lv_at hl 0 rfl) ?_
          refine sq_imulc hx hb dX1_goOn_302 ?_
          refine lv_iload_n hx hb dX1_goOn_303 rfl (lv_at hl 1 rfl) ?_
          refine sq_iadd hx hb dX1_goOn_304 ?_
          refine lv_aload_n hx hb dX1_goOn_305 rfl (lv_at hl 2 rfl) ?_
          refine va_get (D := (dC, dI)) (ci := 1) (v := .ref (q 7)) (C := RX1) (T := TX1) (N := 23) hx hb hts hin hown hK hP 0 rfl rfl 18 (by decide) k36 (fun _ h9 => h9) rfl dX1_goOn_306 ?_
          refine lv_bipush (v := nI 6) hx hb dX1_goOn_309 (by decide +kernel) ?_
          refine lv_aload_n hx hb dX1_goOn_311 rfl (lv_at hl 2 rfl) ?_
          refine va_get (D := (dC, dI)) (ci := 1) (v := .int (nI (ms.2 1))) (C := RX1) (T := TX1) (N := 23) hx hb hts hin hown hK hP 0 rfl rfl 1 (by decide) k7 (fun _ h9 => h9) rfl dX1_goOn_312 ?_
          refine sq_imulc hx hb dX1_goOn_315 ?_
          refine lv_bipush (v := nI 6) hx hb dX1_goOn_316 (by decide +kernel) ?_
          refine sq_isub hx hb (by omega) dX1_goOn_318 ?_
          refine lv_iload_n hx hb dX1_goOn_319 rfl (lv_at hl 1 rfl) ?_
          refine sq_iadd hx hb dX1_goOn_320 ?_
          refine sq_top (congrArg nI (show (((ms.2 1) * 6) - 6) + t = (ms.2 1 - 1) * 6 + t by omega)) ?_
          refine sq_iald hx hb hK hP 8 0 rfl rfl (i := ((ms.2 1 - 1) * 6 + t)) (by omega) (by decide) dX1_goOn_321 ?_
          refine sq_iast hx hb hK hP hD hS 5 0 rfl rfl (i := ((v * 6) + t)) (by omega) (by decide) dX1_goOn_322 (fun H locs hP hD hS => ?_)
          have hP : va_P (dC, dI) vwCl (wM h0 q cI cZ (ms.1 0) (ms.1 1) (ms.1 2) (ms.1 3) (upd (sq_keep (ms.2 1) (sq_mago (ms.2 2) (ms.1 5)) (sq_G (sq_dH (ms.2 1) (ms.2 1) (ms.2 1)) (sq_gS (sq_mago (ms.2 2) (ms.1 5)) (ms.1 1) (ms.1 2) (ms.1 6) (ms.1 10) (ms.1 8) (ms.1 9) (ms.1 7)) (ms.1 7)) (ms.1 4) t) ((v * 6) + t) ((sq_G (sq_dH (ms.2 1) (ms.2 1) (ms.2 1)) (sq_gS (sq_mago (ms.2 2) (ms.1 5)) (ms.1 1) (ms.1 2) (ms.1 6) (ms.1 10) (ms.1 8) (ms.1 9) (ms.1 7)) (ms.1 7)) ((ms.2 1 - 1) * 6 + t))) (ms.1 5) (sq_G (sq_dH (ms.2 1) (ms.2 1) (ms.2 1)) (sq_gI (sq_mago (ms.2 2) (ms.1 5)) (ms.1 1) (ms.1 6)) (ms.1 6)) (sq_G (sq_dH (ms.2 1) (ms.2 1) (ms.2 1)) (sq_gS (sq_mago (ms.2 2) (ms.1 5)) (ms.1 1) (ms.1 2) (ms.1 6) (ms.1 10) (ms.1 8) (ms.1 9) (ms.1 7)) (ms.1 7)) (sq_G (sq_dH (ms.2 1) (ms.2 1) (ms.2 1)) (sq_gF (sq_mago (ms.2 2) (ms.1 5)) (ms.1 2) (ms.1 10) (ms.1 8) (ms.1 9)) (ms.1 8)) (ms.1 9) (sq_G (sq_dH (ms.2 1) (ms.2 1) (ms.2 1)) (sq_gM (sq_mago (ms.2 2) (ms.1 5)) (ms.1 2) (ms.1 10)) (ms.1 10)) (sq_G (sq_dH (ms.2 1) (ms.2 1) (ms.2 1)) (sq_nIn (ms.1 11) (sq_mreal (sq_mago (ms.2 2) (ms.1 5)))) (ms.1 11)) (ms.2 0) (ms.2 1) (ms.2 2) (ms.2 3) (ms.2 4) (ms.2 5) (ms.2 6) (ms.2 7) (ms.2 8) (ms.2 9) (ms.2 10)) H := hP
          have hD : va_D A (wM h0 q cI cZ (ms.1 0) (ms.1 1) (ms.1 2) (ms.1 3) (upd (sq_keep (ms.2 1) (sq_mago (ms.2 2) (ms.1 5)) (sq_G (sq_dH (ms.2 1) (ms.2 1) (ms.2 1)) (sq_gS (sq_mago (ms.2 2) (ms.1 5)) (ms.1 1) (ms.1 2) (ms.1 6) (ms.1 10) (ms.1 8) (ms.1 9) (ms.1 7)) (ms.1 7)) (ms.1 4) t) ((v * 6) + t) ((sq_G (sq_dH (ms.2 1) (ms.2 1) (ms.2 1)) (sq_gS (sq_mago (ms.2 2) (ms.1 5)) (ms.1 1) (ms.1 2) (ms.1 6) (ms.1 10) (ms.1 8) (ms.1 9) (ms.1 7)) (ms.1 7)) ((ms.2 1 - 1) * 6 + t))) (ms.1 5) (sq_G (sq_dH (ms.2 1) (ms.2 1) (ms.2 1)) (sq_gI (sq_mago (ms.2 2) (ms.1 5)) (ms.1 1) (ms.1 6)) (ms.1 6)) (sq_G (sq_dH (ms.2 1) (ms.2 1) (ms.2 1)) (sq_gS (sq_mago (ms.2 2) (ms.1 5)) (ms.1 1) (ms.1 2) (ms.1 6) (ms.1 10) (ms.1 8) (ms.1 9) (ms.1 7)) (ms.1 7)) (sq_G (sq_dH (ms.2 1) (ms.2 1) (ms.2 1)) (sq_gF (sq_mago (ms.2 2) (ms.1 5)) (ms.1 2) (ms.1 10) (ms.1 8) (ms.1 9)) (ms.1 8)) (ms.1 9) (sq_G (sq_dH (ms.2 1) (ms.2 1) (ms.2 1)) (sq_gM (sq_mago (ms.2 2) (ms.1 5)) (ms.1 2) (ms.1 10)) (ms.1 10)) (sq_G (sq_dH (ms.2 1) (ms.2 1) (ms.2 1)) (sq_nIn (ms.1 11) (sq_mreal (sq_mago (ms.2 2) (ms.1 5)))) (ms.1 11)) (ms.2 0) (ms.2 1) (ms.2 2) (ms.2 3) (ms.2 4) (ms.2 5) (ms.2 6) (ms.2 7) (ms.2 8) (ms.2 9) (ms.2 10)) := hD
          have eA : upd (sq_keep (ms.2 1) (sq_mago (ms.2 2) (ms.1 5)) (sq_G (sq_dH (ms.2 1) (ms.2 1) (ms.2 1)) (sq_gS (sq_mago (ms.2 2) (ms.1 5)) (ms.1 1) (ms.1 2) (ms.1 6) (ms.1 10) (ms.1 8) (ms.1 9) (ms.1 7)) (ms.1 7)) (ms.1 4) t) ((v * 6) + t) ((sq_G (sq_dH (ms.2 1) (ms.2 1) (ms.2 1)) (sq_gS (sq_mago (ms.2 2) (ms.1 5)) (ms.1 1) (ms.1 2) (ms.1 6) (ms.1 10) (ms.1 8) (ms.1 9) (ms.1 7)) (ms.1 7)) ((ms.2 1 - 1) * 6 + t)) = sq_keep (ms.2 1) (sq_mago (ms.2 2) (ms.1 5)) (sq_G (sq_dH (ms.2 1) (ms.2 1) (ms.2 1)) (sq_gS (sq_mago (ms.2 2) (ms.1 5)) (ms.1 1) (ms.1 2) (ms.1 6) (ms.1 10) (ms.1 8) (ms.1 9) (ms.1 7)) (ms.1 7)) (ms.1 4) (t + 1) := by rw [show sq_keep (ms.2 1) (sq_mago (ms.2 2) (ms.1 5)) (sq_G (sq_dH (ms.2 1) (ms.2 1) (ms.2 1)) (sq_gS (sq_mago (ms.2 2) (ms.1 5)) (ms.1 1) (ms.1 2) (ms.1 6) (ms.1 10) (ms.1 8) (ms.1 9) (ms.1 7)) (ms.1 7)) (ms.1 4) (t + 1) = if (sq_mago (ms.2 2) (ms.1 5)) (ms.2 1 - 1 + t) = -1 then sq_keep (ms.2 1) (sq_mago (ms.2 2) (ms.1 5)) (sq_G (sq_dH (ms.2 1) (ms.2 1) (ms.2 1)) (sq_gS (sq_mago (ms.2 2) (ms.1 5)) (ms.1 1) (ms.1 2) (ms.1 6) (ms.1 10) (ms.1 8) (ms.1 9) (ms.1 7)) (ms.1 7)) (ms.1 4) t else upd (sq_keep (ms.2 1) (sq_mago (ms.2 2) (ms.1 5)) (sq_G (sq_dH (ms.2 1) (ms.2 1) (ms.2 1)) (sq_gS (sq_mago (ms.2 2) (ms.1 5)) (ms.1 1) (ms.1 2) (ms.1 6) (ms.1 10) (ms.1 8) (ms.1 9) (ms.1 7)) (ms.1 7)) (ms.1 4) t) (sq_vec ((sq_mago (ms.2 2) (ms.1 5)) (ms.2 1 - 1 + t)) * 6 + t) ((sq_G (sq_dH (ms.2 1) (ms.2 1) (ms.2 1)) (sq_gS (sq_mago (ms.2 2) (ms.1 5)) (ms.1 1) (ms.1 2) (ms.1 6) (ms.1 10) (ms.1 8) (ms.1 9) (ms.1 7)) (ms.1 7)) ((ms.2 1 - 1) * 6 + t)) from rfl, if_neg (by rw [ev]; exact sq_m1_ne (by omega)), ev, sq_vec_nI (by omega)]
          rw [eA] at hP hD
          clear eA
          refine lv_iinc (v := nI (t + 1)) (lv' := [(1, .int (nI (t + 1))), (2, .int (nI v)), (0, .ref h0)]) hx hb dX1_goOn_323 hl (k := 1) rfl (sq_inc _) (by decide) rfl (fun ls hl => ?_)
          refine lv_goto (tgt := 270) hx hb dX1_goOn_326 (by decide) ?_
          exact ih (j - 1) (by omega) (t + 1) (by omega) H locs ls hP hD hS (lv_sub hl [0, 2] rfl)
  have LB : ∀ k : Nat, k ≤ ms.2 1 → ∀ (x1 : Int32), x1 = nI k - 1 → ∀ (H : Heap) (locs : List Loc) (ls : Array Slot), va_P (dC, dI) vwCl (wM h0 q cI cZ (ms.1 0) (ms.1 1) (ms.1 2) (ms.1 3) (ms.1 4) (ms.1 5) (sq_G (sq_dH (ms.2 1) (ms.2 1) (ms.2 1)) (sq_gI (sq_mago (ms.2 2) (ms.1 5)) (ms.1 1) (ms.1 6)) (ms.1 6)) (sq_G (sq_dL (ms.2 1) k (ms.2 1)) (sq_gS (sq_mago (ms.2 2) (ms.1 5)) (ms.1 1) (ms.1 2) (ms.1 6) (ms.1 10) (ms.1 8) (ms.1 9) (ms.1 7)) (ms.1 7)) (sq_G (sq_dL (ms.2 1) k (ms.2 1)) (sq_gF (sq_mago (ms.2 2) (ms.1 5)) (ms.1 2) (ms.1 10) (ms.1 8) (ms.1 9)) (ms.1 8)) (ms.1 9) (sq_G (sq_dH (ms.2 1) (ms.2 1) (ms.2 1)) (sq_gM (sq_mago (ms.2 2) (ms.1 5)) (ms.1 2) (ms.1 10)) (ms.1 10)) (sq_G (sq_dH (ms.2 1) (ms.2 1) (ms.2 1)) (sq_nIn (ms.1 11) (sq_mreal (sq_mago (ms.2 2) (ms.1 5)))) (ms.1 11)) (ms.2 0) (ms.2 1) (ms.2 2) (ms.2 3) (ms.2 4) (ms.2 5) (ms.2 6) (ms.2 7) (ms.2 8) (ms.2 9) (ms.2 10)) H → va_D A (wM h0 q cI cZ (ms.1 0) (ms.1 1) (ms.1 2) (ms.1 3) (ms.1 4) (ms.1 5) (sq_G (sq_dH (ms.2 1) (ms.2 1) (ms.2 1)) (sq_gI (sq_mago (ms.2 2) (ms.1 5)) (ms.1 1) (ms.1 6)) (ms.1 6)) (sq_G (sq_dL (ms.2 1) k (ms.2 1)) (sq_gS (sq_mago (ms.2 2) (ms.1 5)) (ms.1 1) (ms.1 2) (ms.1 6) (ms.1 10) (ms.1 8) (ms.1 9) (ms.1 7)) (ms.1 7)) (sq_G (sq_dL (ms.2 1) k (ms.2 1)) (sq_gF (sq_mago (ms.2 2) (ms.1 5)) (ms.1 2) (ms.1 10) (ms.1 8) (ms.1 9)) (ms.1 8)) (ms.1 9) (sq_G (sq_dH (ms.2 1) (ms.2 1) (ms.2 1)) (sq_gM (sq_mago (ms.2 2) (ms.1 5)) (ms.1 2) (ms.1 10)) (ms.1 10)) (sq_G (sq_dH (ms.2 1) (ms.2 1) (ms.2 1)) (sq_nIn (ms.1 11) (sq_mreal (sq_mago (ms.2 2) (ms.1 5)))) (ms.1 11)) (ms.2 0) (ms.2 1) (ms.2 2) (ms.2 3) (ms.2 4) (ms.2 5) (ms.2 6) (ms.2 7) (ms.2 8) (ms.2 9) (ms.2 10)) → va_S A s.heap H locs → lv_has ls 4 [(1, .int x1), (0, .ref h0)] → W p l e rmm_goOn s m args below meth c H locs 0 0 Q (F0 m 168 ls []) := by
    intro k
    induction k with
    | zero =>
      intro _ x1 e1 H locs ls hP hD hS hl
      refine lv_iload_n hx hb dX1_goOn_168 rfl (lv_at hl 0 rfl) ?_
      refine lv_if_lt (tgt := 268) hx hb dX1_goOn_169 (by decide) (fun _ => ?_) (fun hn => absurd (by rw [e1]; decide) hn)
      have eA : sq_G (sq_dL (ms.2 1) 0 (ms.2 1)) (sq_gF (sq_mago (ms.2 2) (ms.1 5)) (ms.1 2) (ms.1 10) (ms.1 8) (ms.1 9)) (ms.1 8) = sq_G (sq_dH (ms.2 1) (ms.2 1) (ms.2 1)) (sq_gF (sq_mago (ms.2 2) (ms.1 5)) (ms.1 2) (ms.1 10) (ms.1 8) (ms.1 9)) (ms.1 8) := (sq_G_eq (sq_dH_all (ms.2 1))).symm
      rw [eA] at hP hD
      clear eA
      have eA : sq_G (sq_dL (ms.2 1) 0 (ms.2 1)) (sq_gS (sq_mago (ms.2 2) (ms.1 5)) (ms.1 1) (ms.1 2) (ms.1 6) (ms.1 10) (ms.1 8) (ms.1 9) (ms.1 7)) (ms.1 7) = (sq_G (sq_dH (ms.2 1) (ms.2 1) (ms.2 1)) (sq_gS (sq_mago (ms.2 2) (ms.1 5)) (ms.1 1) (ms.1 2) (ms.1 6) (ms.1 10) (ms.1 8) (ms.1 9) (ms.1 7)) (ms.1 7)) := (sq_G_eq (sq_dH_all (ms.2 1))).symm
      rw [eA] at hP hD
      clear eA
      refine lv_iconst (v := nI 0) hx hb dX1_goOn_268 (by decide +kernel) ?_
      refine lv_istore_n (lv' := [(1, .int (nI 0)), (0, .ref h0)]) hx hb dX1_goOn_269 rfl hl (by decide) rfl (fun ls hl => ?_)
      exact LC (ms.2 1) 0 (by omega) H locs ls hP hD hS hl
    | succ r ih =>
      intro hr x1 e1 H locs ls hP hD hS hl
      have e2 : x1 = nI r := by rw [e1]; exact nI_pred r
      subst e2
      refine lv_iload_n hx hb dX1_goOn_168 rfl (lv_at hl 0 rfl) ?_
      refine sq_if_lt (tgt := 268) hx hb (by omega) dX1_goOn_169 (by decide) ?_
      have eA : sq_G (sq_dL (ms.2 1) (r + 1) (ms.2 1)) (sq_gF (sq_mago (ms.2 2) (ms.1 5)) (ms.1 2) (ms.1 10) (ms.1 8) (ms.1 9)) (ms.1 8) = sq_G (sq_dL (ms.2 1) r 0) (sq_gF (sq_mago (ms.2 2) (ms.1 5)) (ms.1 2) (ms.1 10) (ms.1 8) (ms.1 9)) (ms.1 8) := sq_G_eq (sq_dL_row (ms.2 1) r)
      rw [eA] at hP hD
      clear eA
      have eA : sq_G (sq_dL (ms.2 1) (r + 1) (ms.2 1)) (sq_gS (sq_mago (ms.2 2) (ms.1 5)) (ms.1 1) (ms.1 2) (ms.1 6) (ms.1 10) (ms.1 8) (ms.1 9) (ms.1 7)) (ms.1 7) = sq_G (sq_dL (ms.2 1) r 0) (sq_gS (sq_mago (ms.2 2) (ms.1 5)) (ms.1 1) (ms.1 2) (ms.1 6) (ms.1 10) (ms.1 8) (ms.1 9) (ms.1 7)) (ms.1 7) := sq_G_eq (sq_dL_row (ms.2 1) r)
      rw [eA] at hP hD
      clear eA
      refine lv_iconst (v := nI 0) hx hb dX1_goOn_172 (by decide +kernel) ?_
      refine lv_istore_n (lv' := [(2, .int (nI 0)), (1, .int (nI r)), (0, .ref h0)]) hx hb dX1_goOn_173 rfl hl (by decide) rfl (fun ls hl => ?_)
      have L2 : ∀ j t : Nat, t + j = ms.2 1 → ∀ (H : Heap) (locs : List Loc) (ls : Array Slot), va_P (dC, dI) vwCl (wM h0 q cI cZ (ms.1 0) (ms.1 1) (ms.1 2) (ms.1 3) (ms.1 4) (ms.1 5) (sq_G (sq_dH (ms.2 1) (ms.2 1) (ms.2 1)) (sq_gI (sq_mago (ms.2 2) (ms.1 5)) (ms.1 1) (ms.1 6)) (ms.1 6)) (sq_G (sq_dL (ms.2 1) r t) (sq_gS (sq_mago (ms.2 2) (ms.1 5)) (ms.1 1) (ms.1 2) (ms.1 6) (ms.1 10) (ms.1 8) (ms.1 9) (ms.1 7)) (ms.1 7)) (sq_G (sq_dL (ms.2 1) r t) (sq_gF (sq_mago (ms.2 2) (ms.1 5)) (ms.1 2) (ms.1 10) (ms.1 8) (ms.1 9)) (ms.1 8)) (ms.1 9) (sq_G (sq_dH (ms.2 1) (ms.2 1) (ms.2 1)) (sq_gM (sq_mago (ms.2 2) (ms.1 5)) (ms.1 2) (ms.1 10)) (ms.1 10)) (sq_G (sq_dH (ms.2 1) (ms.2 1) (ms.2 1)) (sq_nIn (ms.1 11) (sq_mreal (sq_mago (ms.2 2) (ms.1 5)))) (ms.1 11)) (ms.2 0) (ms.2 1) (ms.2 2) (ms.2 3) (ms.2 4) (ms.2 5) (ms.2 6) (ms.2 7) (ms.2 8) (ms.2 9) (ms.2 10)) H → va_D A (wM h0 q cI cZ (ms.1 0) (ms.1 1) (ms.1 2) (ms.1 3) (ms.1 4) (ms.1 5) (sq_G (sq_dH (ms.2 1) (ms.2 1) (ms.2 1)) (sq_gI (sq_mago (ms.2 2) (ms.1 5)) (ms.1 1) (ms.1 6)) (ms.1 6)) (sq_G (sq_dL (ms.2 1) r t) (sq_gS (sq_mago (ms.2 2) (ms.1 5)) (ms.1 1) (ms.1 2) (ms.1 6) (ms.1 10) (ms.1 8) (ms.1 9) (ms.1 7)) (ms.1 7)) (sq_G (sq_dL (ms.2 1) r t) (sq_gF (sq_mago (ms.2 2) (ms.1 5)) (ms.1 2) (ms.1 10) (ms.1 8) (ms.1 9)) (ms.1 8)) (ms.1 9) (sq_G (sq_dH (ms.2 1) (ms.2 1) (ms.2 1)) (sq_gM (sq_mago (ms.2 2) (ms.1 5)) (ms.1 2) (ms.1 10)) (ms.1 10)) (sq_G (sq_dH (ms.2 1) (ms.2 1) (ms.2 1)) (sq_nIn (ms.1 11) (sq_mreal (sq_mago (ms.2 2) (ms.1 5)))) (ms.1 11)) (ms.2 0) (ms.2 1) (ms.2 2) (ms.2 3) (ms.2 4) (ms.2 5) (ms.2 6) (ms.2 7) (ms.2 8) (ms.2 9) (ms.2 10)) → va_S A s.heap H locs → lv_has ls 4 [(2, .int (nI t)), (1, .int (nI r)), (0, .ref h0)] → W p l e rmm_goOn s m args below meth c H locs 0 0 Q (F0 m 174 ls []) := by
        intro j
        induction j using Nat.strongRecOn with
        | _ j ih2 =>
          intro t ht H locs ls hP hD hS hl
          refine lv_iload_n hx hb dX1_goOn_174 rfl (lv_at hl 0 rfl) ?_
          refine lv_aload_n hx hb dX1_goOn_175 rfl (lv_at hl 2 rfl) ?_
          refine va_get (D := (dC, dI)) (ci := 1) (v := .int (nI (ms.2 1))) (C := RX1) (T := TX1) (N := 23) hx hb hts hin hown hK hP 0 rfl rfl 1 (by decide) k7 (fun _ h9 => h9) rfl dX1_goOn_176 ?_
          refine sq_icmp_ge (tgt := 262) hx hb (by omega) (by omega) dX1_goOn_179 (by decide) (fun hd => ?_) (fun hd => ?_)
          · rw [show t = ms.2 1 by omega] at hP hD
            refine lv_iinc (v := (nI r) + Int32.ofInt (-1)) (lv' := [(1, .int ((nI r) + Int32.ofInt (-1))), (2, .int (nI t)), (0, .ref h0)]) hx hb dX1_goOn_262 hl (k := 1) rfl rfl (by decide) rfl (fun ls hl => ?_)
            refine lv_goto (tgt := 168) hx hb dX1_goOn_265 (by decide) ?_
            exact ih (by omega) _ (by rw [Int32.sub_eq_add_neg]; rfl) H locs ls hP hD hS (lv_sub hl [0, 2] rfl)
          · refine lv_bipush (v := nI 6) hx hb dX1_goOn_182 (by decide +kernel) ?_
            refine lv_iload_n hx hb dX1_goOn_184 rfl (lv_at hl 1 rfl) ?_
            refine sq_imulc hx hb dX1_goOn_185 ?_
            refine lv_iload_n hx hb dX1_goOn_186 rfl (lv_at hl 0 rfl) ?_
            refine sq_iadd hx hb dX1_goOn_187 ?_
            refine lv_istore_n (lv' := [(3, .int (nI ((r * 6) + t))), (2, .int (nI t)), (1, .int (nI r)), (0, .ref h0)]) hx hb dX1_goOn_188 rfl hl (by decide) rfl (fun ls hl => ?_)
            have dS := sq_dL_step (ms.2 1) r t o2 (by omega) (by omega)
            have xM : sq_G (sq_dH (ms.2 1) (ms.2 1) (ms.2 1)) (sq_gM (sq_mago (ms.2 2) (ms.1 5)) (ms.1 2) (ms.1 10)) (ms.1 10) (r * 6 + t) = (sq_gM (sq_mago (ms.2 2) (ms.1 5)) (ms.1 2) (ms.1 10)) (r * 6 + t) := sq_G_new (sq_dH_in o2 (by omega) (by omega))
            have xI : sq_G (sq_dH (ms.2 1) (ms.2 1) (ms.2 1)) (sq_gI (sq_mago (ms.2 2) (ms.1 5)) (ms.1 1) (ms.1 6)) (ms.1 6) (r * 6 + t) = (sq_gI (sq_mago (ms.2 2) (ms.1 5)) (ms.1 1) (ms.1 6)) (r * 6 + t) := sq_G_new (sq_dH_in o2 (by omega) (by omega))
            have T219 : ∀ (H : Heap) (locs : List Loc) (ls : Array Slot), va_P (dC, dI) vwCl (wM h0 q cI cZ (ms.1 0) (ms.1 1) (ms.1 2) (ms.1 3) (ms.1 4) (ms.1 5) (sq_G (sq_dH (ms.2 1) (ms.2 1) (ms.2 1)) (sq_gI (sq_mago (ms.2 2) (ms.1 5)) (ms.1 1) (ms.1 6)) (ms.1 6)) (sq_G (sq_dL (ms.2 1) r t) (sq_gS (sq_mago (ms.2 2) (ms.1 5)) (ms.1 1) (ms.1 2) (ms.1 6) (ms.1 10) (ms.1 8) (ms.1 9) (ms.1 7)) (ms.1 7)) (sq_G (sq_dL (ms.2 1) r (t + 1)) (sq_gF (sq_mago (ms.2 2) (ms.1 5)) (ms.1 2) (ms.1 10) (ms.1 8) (ms.1 9)) (ms.1 8)) (ms.1 9) (sq_G (sq_dH (ms.2 1) (ms.2 1) (ms.2 1)) (sq_gM (sq_mago (ms.2 2) (ms.1 5)) (ms.1 2) (ms.1 10)) (ms.1 10)) (sq_G (sq_dH (ms.2 1) (ms.2 1) (ms.2 1)) (sq_nIn (ms.1 11) (sq_mreal (sq_mago (ms.2 2) (ms.1 5)))) (ms.1 11)) (ms.2 0) (ms.2 1) (ms.2 2) (ms.2 3) (ms.2 4) (ms.2 5) (ms.2 6) (ms.2 7) (ms.2 8) (ms.2 9) (ms.2 10)) H → va_D A (wM h0 q cI cZ (ms.1 0) (ms.1 1) (ms.1 2) (ms.1 3) (ms.1 4) (ms.1 5) (sq_G (sq_dH (ms.2 1) (ms.2 1) (ms.2 1)) (sq_gI (sq_mago (ms.2 2) (ms.1 5)) (ms.1 1) (ms.1 6)) (ms.1 6)) (sq_G (sq_dL (ms.2 1) r t) (sq_gS (sq_mago (ms.2 2) (ms.1 5)) (ms.1 1) (ms.1 2) (ms.1 6) (ms.1 10) (ms.1 8) (ms.1 9) (ms.1 7)) (ms.1 7)) (sq_G (sq_dL (ms.2 1) r (t + 1)) (sq_gF (sq_mago (ms.2 2) (ms.1 5)) (ms.1 2) (ms.1 10) (ms.1 8) (ms.1 9)) (ms.1 8)) (ms.1 9) (sq_G (sq_dH (ms.2 1) (ms.2 1) (ms.2 1)) (sq_gM (sq_mago (ms.2 2) (ms.1 5)) (ms.1 2) (ms.1 10)) (ms.1 10)) (sq_G (sq_dH (ms.2 1) (ms.2 1) (ms.2 1)) (sq_nIn (ms.1 11) (sq_mreal (sq_mago (ms.2 2) (ms.1 5)))) (ms.1 11)) (ms.2 0) (ms.2 1) (ms.2 2) (ms.2 3) (ms.2 4) (ms.2 5) (ms.2 6) (ms.2 7) (ms.2 8) (ms.2 9) (ms.2 10)) → va_S A s.heap H locs → lv_has ls 4 [(3, .int (nI ((r * 6) + t))), (2, .int (nI t)), (1, .int (nI r)), (0, .ref h0)] → W p l e rmm_goOn s m args below meth c H locs 0 0 Q (F0 m 219 ls []) := by
              intro H locs ls hP hD hS hl
              refine lv_aload_n hx hb dX1_goOn_219 rfl (lv_at hl 3 rfl) ?_
              refine va_get (D := (dC, dI)) (ci := 1) (v := .ref (q 7)) (C := RX1) (T := TX1) (N := 23) hx hb hts hin hown hK hP 0 rfl rfl 18 (by decide) k36 (fun _ h9 => h9) rfl dX1_goOn_220 ?_
              refine lv_iload_n hx hb dX1_goOn_223 rfl (lv_at hl 0 rfl) ?_
              refine lv_iload_n hx hb dX1_goOn_224 rfl (lv_at hl 2 rfl) ?_
              refine sq_if_ne (tgt := 232) hx hb (by omega) dX1_goOn_225 (by decide) (fun he => ?_) (fun he => ?_)
              · refine lv_aload_n hx hb dX1_goOn_232 rfl (lv_at hl 3 rfl) ?_
                refine va_get (D := (dC, dI)) (ci := 1) (v := .ref (q 7)) (C := RX1) (T := TX1) (N := 23) hx hb hts hin hown hK hP 0 rfl rfl 18 (by decide) k36 (fun _ h9 => h9) rfl dX1_goOn_233 ?_
                refine lv_iload_n hx hb dX1_goOn_236 rfl (lv_at hl 0 rfl) ?_
                refine lv_bipush (v := nI 6) hx hb dX1_goOn_237 (by decide +kernel) ?_
                refine sq_isub hx hb (by omega) dX1_goOn_239 ?_
                refine sq_iald hx hb hK hP 8 0 rfl rfl (i := (((r * 6) + t) - 6)) (by omega) (by decide) dX1_goOn_240 ?_
                refine lv_aload_n hx hb dX1_goOn_241 rfl (lv_at hl 3 rfl) ?_
                refine va_get (D := (dC, dI)) (ci := 1) (v := .ref (q 8)) (C := RX1) (T := TX1) (N := 23) hx hb hts hin hown hK hP 0 rfl rfl 19 (by decide) k39 (fun _ h9 => h9) rfl dX1_goOn_242 ?_
                refine lv_iload_n hx hb dX1_goOn_245 rfl (lv_at hl 0 rfl) ?_
                refine sq_iald hx hb hK hP 9 0 rfl rfl (i := ((r * 6) + t)) (by omega) (by decide) dX1_goOn_246 ?_
                refine lv_aload_n hx hb dX1_goOn_247 rfl (lv_at hl 3 rfl) ?_
                refine va_get (D := (dC, dI)) (ci := 1) (v := .ref (q 6)) (C := RX1) (T := TX1) (N := 23) hx hb hts hin hown hK hP 0 rfl rfl 17 (by decide) k33 (fun _ h9 => h9) rfl dX1_goOn_248 ?_
                refine lv_iload_n hx hb dX1_goOn_251 rfl (lv_at hl 0 rfl) ?_
                refine sq_iald hx hb hK hP 7 0 rfl rfl (i := ((r * 6) + t)) (by omega) (by decide) dX1_goOn_252 ?_
                refine lv_imul hx hb dX1_goOn_253 ?_
                refine lv_iadd hx hb dX1_goOn_254 ?_
                refine sq_iast hx hb hK hP hD hS 8 0 rfl rfl (i := ((r * 6) + t)) (by omega) (by decide) dX1_goOn_255 (fun H locs hP hD hS => ?_)
                have hP : va_P (dC, dI) vwCl (wM h0 q cI cZ (ms.1 0) (ms.1 1) (ms.1 2) (ms.1 3) (ms.1 4) (ms.1 5) (sq_G (sq_dH (ms.2 1) (ms.2 1) (ms.2 1)) (sq_gI (sq_mago (ms.2 2) (ms.1 5)) (ms.1 1) (ms.1 6)) (ms.1 6)) (upd (sq_G (sq_dL (ms.2 1) r t) (sq_gS (sq_mago (ms.2 2) (ms.1 5)) (ms.1 1) (ms.1 2) (ms.1 6) (ms.1 10) (ms.1 8) (ms.1 9) (ms.1 7)) (ms.1 7)) ((r * 6) + t) (((sq_G (sq_dL (ms.2 1) r t) (sq_gS (sq_mago (ms.2 2) (ms.1 5)) (ms.1 1) (ms.1 2) (ms.1 6) (ms.1 10) (ms.1 8) (ms.1 9) (ms.1 7)) (ms.1 7)) (((r * 6) + t) - 6)) + (((sq_G (sq_dL (ms.2 1) r (t + 1)) (sq_gF (sq_mago (ms.2 2) (ms.1 5)) (ms.1 2) (ms.1 10) (ms.1 8) (ms.1 9)) (ms.1 8)) ((r * 6) + t)) * ((sq_G (sq_dH (ms.2 1) (ms.2 1) (ms.2 1)) (sq_gI (sq_mago (ms.2 2) (ms.1 5)) (ms.1 1) (ms.1 6)) (ms.1 6)) ((r * 6) + t))))) (sq_G (sq_dL (ms.2 1) r (t + 1)) (sq_gF (sq_mago (ms.2 2) (ms.1 5)) (ms.1 2) (ms.1 10) (ms.1 8) (ms.1 9)) (ms.1 8)) (ms.1 9) (sq_G (sq_dH (ms.2 1) (ms.2 1) (ms.2 1)) (sq_gM (sq_mago (ms.2 2) (ms.1 5)) (ms.1 2) (ms.1 10)) (ms.1 10)) (sq_G (sq_dH (ms.2 1) (ms.2 1) (ms.2 1)) (sq_nIn (ms.1 11) (sq_mreal (sq_mago (ms.2 2) (ms.1 5)))) (ms.1 11)) (ms.2 0) (ms.2 1) (ms.2 2) (ms.2 3) (ms.2 4) (ms.2 5) (ms.2 6) (ms.2 7) (ms.2 8) (ms.2 9) (ms.2 10)) H := hP
                have hD : va_D A (wM h0 q cI cZ (ms.1 0) (ms.1 1) (ms.1 2) (ms.1 3) (ms.1 4) (ms.1 5) (sq_G (sq_dH (ms.2 1) (ms.2 1) (ms.2 1)) (sq_gI (sq_mago (ms.2 2) (ms.1 5)) (ms.1 1) (ms.1 6)) (ms.1 6)) (upd (sq_G (sq_dL (ms.2 1) r t) (sq_gS (sq_mago (ms.2 2) (ms.1 5)) (ms.1 1) (ms.1 2) (ms.1 6) (ms.1 10) (ms.1 8) (ms.1 9) (ms.1 7)) (ms.1 7)) ((r * 6) + t) (((sq_G (sq_dL (ms.2 1) r t) (sq_gS (sq_mago (ms.2 2) (ms.1 5)) (ms.1 1) (ms.1 2) (ms.1 6) (ms.1 10) (ms.1 8) (ms.1 9) (ms.1 7)) (ms.1 7)) (((r * 6) + t) - 6)) + (((sq_G (sq_dL (ms.2 1) r (t + 1)) (sq_gF (sq_mago (ms.2 2) (ms.1 5)) (ms.1 2) (ms.1 10) (ms.1 8) (ms.1 9)) (ms.1 8)) ((r * 6) + t)) * ((sq_G (sq_dH (ms.2 1) (ms.2 1) (ms.2 1)) (sq_gI (sq_mago (ms.2 2) (ms.1 5)) (ms.1 1) (ms.1 6)) (ms.1 6)) ((r * 6) + t))))) (sq_G (sq_dL (ms.2 1) r (t + 1)) (sq_gF (sq_mago (ms.2 2) (ms.1 5)) (ms.1 2) (ms.1 10) (ms.1 8) (ms.1 9)) (ms.1 8)) (ms.1 9) (sq_G (sq_dH (ms.2 1) (ms.2 1) (ms.2 1)) (sq_gM (sq_mago (ms.2 2) (ms.1 5)) (ms.1 2) (ms.1 10)) (ms.1 10)) (sq_G (sq_dH (ms.2 1) (ms.2 1) (ms.2 1)) (sq_nIn (ms.1 11) (sq_mreal (sq_mago (ms.2 2) (ms.1 5)))) (ms.1 11)) (ms.2 0) (ms.2 1) (ms.2 2) (ms.2 3) (ms.2 4) (ms.2 5) (ms.2 6) (ms.2 7) (ms.2 8) (ms.2 9) (ms.2 10)) := hD
                have eA : upd (sq_G (sq_dL (ms.2 1) r t) (sq_gS (sq_mago (ms.2 2) (ms.1 5)) (ms.1 1) (ms.1 2) (ms.1 6) (ms.1 10) (ms.1 8) (ms.1 9) (ms.1 7)) (ms.1 7)) ((r * 6) + t) (((sq_G (sq_dL (ms.2 1) r t) (sq_gS (sq_mago (ms.2 2) (ms.1 5)) (ms.1 1) (ms.1 2) (ms.1 6) (ms.1 10) (ms.1 8) (ms.1 9) (ms.1 7)) (ms.1 7)) (((r * 6) + t) - 6)) + (((sq_G (sq_dL (ms.2 1) r (t + 1)) (sq_gF (sq_mago (ms.2 2) (ms.1 5)) (ms.1 2) (ms.1 10) (ms.1 8) (ms.1 9)) (ms.1 8)) ((r * 6) + t)) * ((sq_G (sq_dH (ms.2 1) (ms.2 1) (ms.2 1)) (sq_gI (sq_mago (ms.2 2) (ms.1 5)) (ms.1 1) (ms.1 6)) (ms.1 6)) ((r * 6) + t)))) = sq_G (sq_dL (ms.2 1) r (t + 1)) (sq_gS (sq_mago (ms.2 2) (ms.1 5)) (ms.1 1) (ms.1 2) (ms.1 6) (ms.1 10) (ms.1 8) (ms.1 9) (ms.1 7)) (ms.1 7) := sq_G_step (by rw [sq_G_old (sq_dL_up _ r t (by omega) (by omega))]; rw [xI, sq_G_new ((dS _).mpr (Or.inr rfl))]; unfold sq_gS sq_nSu; rw [if_neg (by omega)]) dS
                rw [eA] at hP hD
                clear eA
                refine lv_iinc (v := nI (t + 1)) (lv' := [(2, .int (nI (t + 1))), (3, .int (nI ((r * 6) + t))), (1, .int (nI r)), (0, .ref h0)]) hx hb dX1_goOn_256 hl (k := 1) rfl (sq_inc _) (by decide) rfl (fun ls hl => ?_)
                refine lv_goto (tgt := 174) hx hb dX1_goOn_259 (by decide) ?_
                exact ih2 (j - 1) (by omega) (t + 1) (by omega) H locs ls hP hD hS (lv_sub hl [0, 2, 3] rfl)
              · refine lv_iconst (v := nI 0) hx hb dX1_goOn_228 (by decide +kernel) ?_
                refine lv_goto (tgt := 241) hx hb dX1_goOn_229 (by decide) ?_
                refine lv_aload_n hx hb dX1_goOn_241 rfl (lv_at hl 3 rfl) ?_
                refine va_get (D := (dC, dI)) (ci := 1) (v := .ref (q 8)) (C := RX1) (T := TX1) (N := 23) hx hb hts hin hown hK hP 0 rfl rfl 19 (by decide) k39 (fun _ h9 => h9) rfl dX1_goOn_242 ?_
                refine lv_iload_n hx hb dX1_goOn_245 rfl (lv_at hl 0 rfl) ?_
                refine sq_iald hx hb hK hP 9 0 rfl rfl (i := ((r * 6) + t)) (by omega) (by decide) dX1_goOn_246 ?_
                refine lv_aload_n hx hb dX1_goOn_247 rfl (lv_at hl 3 rfl) ?_
                refine va_get (D := (dC, dI)) (ci := 1) (v := .ref (q 6)) (C := RX1) (T := TX1) (N := 23) hx hb hts hin hown hK hP 0 rfl rfl 17 (by decide) k33 (fun _ h9 => h9) rfl dX1_goOn_248 ?_
                refine lv_iload_n hx hb dX1_goOn_251 rfl (lv_at hl 0 rfl) ?_
                refine sq_iald hx hb hK hP 7 0 rfl rfl (i := ((r * 6) + t)) (by omega) (by decide) dX1_goOn_252 ?_
                refine lv_imul hx hb dX1_goOn_253 ?_
                refine lv_iadd hx hb dX1_goOn_254 ?_
                refine sq_iast hx hb hK hP hD hS 8 0 rfl rfl (i := ((r * 6) + t)) (by omega) (by decide) dX1_goOn_255 (fun H locs hP hD hS => ?_)
                have hP : va_P (dC, dI) vwCl (wM h0 q cI cZ (ms.1 0) (ms.1 1) (ms.1 2) (ms.1 3) (ms.1 4) (ms.1 5) (sq_G (sq_dH (ms.2 1) (ms.2 1) (ms.2 1)) (sq_gI (sq_mago (ms.2 2) (ms.1 5)) (ms.1 1) (ms.1 6)) (ms.1 6)) (upd (sq_G (sq_dL (ms.2 1) r t) (sq_gS (sq_mago (ms.2 2) (ms.1 5)) (ms.1 1) (ms.1 2) (ms.1 6) (ms.1 10) (ms.1 8) (ms.1 9) (ms.1 7)) (ms.1 7)) ((r * 6) + t) ((nI 0) + (((sq_G (sq_dL (ms.2 1) r (t + 1)) (sq_gF (sq_mago (ms.2 2) (ms.1 5)) (ms.1 2) (ms.1 10) (ms.1 8) (ms.1 9)) (ms.1 8)) ((r * 6) + t)) * ((sq_G (sq_dH (ms.2 1) (ms.2 1) (ms.2 1)) (sq_gI (sq_mago (ms.2 2) (ms.1 5)) (ms.1 1) (ms.1 6)) (ms.1 6)) ((r * 6) + t))))) (sq_G (sq_dL (ms.2 1) r (t + 1)) (sq_gF (sq_mago (ms.2 2) (ms.1 5)) (ms.1 2) (ms.1 10) (ms.1 8) (ms.1 9)) (ms.1 8)) (ms.1 9) (sq_G (sq_dH (ms.2 1) (ms.2 1) (ms.2 1)) (sq_gM (sq_mago (ms.2 2) (ms.1 5)) (ms.1 2) (ms.1 10)) (ms.1 10)) (sq_G (sq_dH (ms.2 1) (ms.2 1) (ms.2 1)) (sq_nIn (ms.1 11) (sq_mreal (sq_mago (ms.2 2) (ms.1 5)))) (ms.1 11)) (ms.2 0) (ms.2 1) (ms.2 2) (ms.2 3) (ms.2 4) (ms.2 5) (ms.2 6) (ms.2 7) (ms.2 8) (ms.2 9) (ms.2 10)) H := hP
                have hD : va_D A (wM h0 q cI cZ (ms.1 0) (ms.1 1) (ms.1 2) (ms.1 3) (ms.1 4) (ms.1 5) (sq_G (sq_dH (ms.2 1) (ms.2 1) (ms.2 1)) (sq_gI (sq_mago (ms.2 2) (ms.1 5)) (ms.1 1) (ms.1 6)) (ms.1 6)) (upd (sq_G (sq_dL (ms.2 1) r t) (sq_gS (sq_mago (ms.2 2) (ms.1 5)) (ms.1 1) (ms.1 2) (ms.1 6) (ms.1 10) (ms.1 8) (ms.1 9) (ms.1 7)) (ms.1 7)) ((r * 6) + t) ((nI 0) + (((sq_G (sq_dL (ms.2 1) r (t + 1)) (sq_gF (sq_mago (ms.2 2) (ms.1 5)) (ms.1 2) (ms.1 10) (ms.1 8) (ms.1 9)) (ms.1 8)) ((r * 6) + t)) * ((sq_G (sq_dH (ms.2 1) (ms.2 1) (ms.2 1)) (sq_gI (sq_mago (ms.2 2) (ms.1 5)) (ms.1 1) (ms.1 6)) (ms.1 6)) ((r * 6) + t))))) (sq_G (sq_dL (ms.2 1) r (t + 1)) (sq_gF (sq_mago (ms.2 2) (ms.1 5)) (ms.1 2) (ms.1 10) (ms.1 8) (ms.1 9)) (ms.1 8)) (ms.1 9) (sq_G (sq_dH (ms.2 1) (ms.2 1) (ms.2 1)) (sq_gM (sq_mago (ms.2 2) (ms.1 5)) (ms.1 2) (ms.1 10)) (ms.1 10)) (sq_G (sq_dH (ms.2 1) (ms.2 1) (ms.2 1)) (sq_nIn (ms.1 11) (sq_mreal (sq_mago (ms.2 2) (ms.1 5)))) (ms.1 11)) (ms.2 0) (ms.2 1) (ms.2 2) (ms.2 3) (ms.2 4) (ms.2 5) (ms.2 6) (ms.2 7) (ms.2 8) (ms.2 9) (ms.2 10)) := hD
                have eA : upd (sq_G (sq_dL (ms.2 1) r t) (sq_gS (sq_mago (ms.2 2) (ms.1 5)) (ms.1 1) (ms.1 2) (ms.1 6) (ms.1 10) (ms.1 8) (ms.1 9) (ms.1 7)) (ms.1 7)) ((r * 6) + t) ((nI 0) + (((sq_G (sq_dL (ms.2 1) r (t + 1)) (sq_gF (sq_mago (ms.2 2) (ms.1 5)) (ms.1 2) (ms.1 10) (ms.1 8) (ms.1 9)) (ms.1 8)) ((r * 6) + t)) * ((sq_G (sq_dH (ms.2 1) (ms.2 1) (ms.2 1)) (sq_gI (sq_mago (ms.2 2) (ms.1 5)) (ms.1 1) (ms.1 6)) (ms.1 6)) ((r * 6) + t)))) = sq_G (sq_dL (ms.2 1) r (t + 1)) (sq_gS (sq_mago (ms.2 2) (ms.1 5)) (ms.1 1) (ms.1 2) (ms.1 6) (ms.1 10) (ms.1 8) (ms.1 9) (ms.1 7)) (ms.1 7) := sq_G_step (by rw [xI, sq_G_new ((dS _).mpr (Or.inr rfl))]; unfold sq_gS sq_nSu; rw [if_pos (by omega)]; rfl) dS
                rw [eA] at hP hD
                clear eA
                refine lv_iinc (v := nI (t + 1)) (lv' := [(2, .int (nI (t + 1))), (3, .int (nI ((r * 6) + t))), (1, .int (nI r)), (0, .ref h0)]) hx hb dX1_goOn_256 hl (k := 1) rfl (sq_inc _) (by decide) rfl (fun ls hl => ?_)
                refine lv_goto (tgt := 174) hx hb dX1_goOn_259 (by decide) ?_
                exact ih2 (j - 1) (by omega) (t + 1) (by omega) H locs ls hP hD hS (lv_sub hl [0, 2, 3] rfl)
            refine lv_aload_n hx hb dX1_goOn_189 rfl (lv_at hl 3 rfl) ?_
            refine va_get (D := (dC, dI)) (ci := 1) (v := .ref (q 8)) (C := RX1) (T := TX1) (N := 23) hx hb hts hin hown hK hP 0 rfl rfl 19 (by decide) k39 (fun _ h9 => h9) rfl dX1_goOn_190 ?_
            refine lv_iload_n hx hb dX1_goOn_193 rfl (lv_at hl 0 rfl) ?_
            refine lv_aload_n hx hb dX1_goOn_194 rfl (lv_at hl 3 rfl) ?_
            refine va_get (D := (dC, dI)) (ci := 1) (v := .ref (q 10)) (C := RX1) (T := TX1) (N := 23) hx hb hts hin hown hK hP 0 rfl rfl 21 (by decide) k45 (fun _ h9 => h9) rfl dX1_goOn_195 ?_
            refine lv_iload_n hx hb dX1_goOn_198 rfl (lv_at hl 0 rfl) ?_
            refine sq_zald hx hb hK hP 11 1 rfl rfl (i := ((r * 6) + t)) (by omega) (by decide) dX1_goOn_199 ?_
            refine lv_if_eq (tgt := 212) hx hb dX1_goOn_200 (by decide) (fun hf => ?_) (fun hf => ?_)
            · refine lv_aload_n hx hb dX1_goOn_212 rfl (lv_at hl 3 rfl) ?_
              refine va_get (D := (dC, dI)) (ci := 1) (v := .ref (q 8)) (C := RX1) (T := TX1) (N := 23) hx hb hts hin hown hK hP 0 rfl rfl 19 (by decide) k39 (fun _ h9 => h9) rfl dX1_goOn_213 ?_
              refine lv_iload_n hx hb dX1_goOn_216 rfl (lv_at hl 0 rfl) ?_
              refine sq_iald hx hb hK hP 9 0 rfl rfl (i := ((r * 6) + t)) (by omega) (by decide) dX1_goOn_217 ?_
              refine sq_iast hx hb hK hP hD hS 9 0 rfl rfl (i := ((r * 6) + t)) (by omega) (by decide) dX1_goOn_218 (fun H locs hP hD hS => ?_)
              have hP : va_P (dC, dI) vwCl (wM h0 q cI cZ (ms.1 0) (ms.1 1) (ms.1 2) (ms.1 3) (ms.1 4) (ms.1 5) (sq_G (sq_dH (ms.2 1) (ms.2 1) (ms.2 1)) (sq_gI (sq_mago (ms.2 2) (ms.1 5)) (ms.1 1) (ms.1 6)) (ms.1 6)) (sq_G (sq_dL (ms.2 1) r t) (sq_gS (sq_mago (ms.2 2) (ms.1 5)) (ms.1 1) (ms.1 2) (ms.1 6) (ms.1 10) (ms.1 8) (ms.1 9) (ms.1 7)) (ms.1 7)) (upd (sq_G (sq_dL (ms.2 1) r t) (sq_gF (sq_mago (ms.2 2) (ms.1 5)) (ms.1 2) (ms.1 10) (ms.1 8) (ms.1 9)) (ms.1 8)) ((r * 6) + t) ((sq_G (sq_dL (ms.2 1) r t) (sq_gF (sq_mago (ms.2 2) (ms.1 5)) (ms.1 2) (ms.1 10) (ms.1 8) (ms.1 9)) (ms.1 8)) ((r * 6) + t))) (ms.1 9) (sq_G (sq_dH (ms.2 1) (ms.2 1) (ms.2 1)) (sq_gM (sq_mago (ms.2 2) (ms.1 5)) (ms.1 2) (ms.1 10)) (ms.1 10)) (sq_G (sq_dH (ms.2 1) (ms.2 1) (ms.2 1)) (sq_nIn (ms.1 11) (sq_mreal (sq_mago (ms.2 2) (ms.1 5)))) (ms.1 11)) (ms.2 0) (ms.2 1) (ms.2 2) (ms.2 3) (ms.2 4) (ms.2 5) (ms.2 6) (ms.2 7) (ms.2 8) (ms.2 9) (ms.2 10)) H := hP
              have hD : va_D A (wM h0 q cI cZ (ms.1 0) (ms.1 1) (ms.1 2) (ms.1 3) (ms.1 4) (ms.1 5) (sq_G (sq_dH (ms.2 1) (ms.2 1) (ms.2 1)) (sq_gI (sq_mago (ms.2 2) (ms.1 5)) (ms.1 1) (ms.1 6)) (ms.1 6)) (sq_G (sq_dL (ms.2 1) r t) (sq_gS (sq_mago (ms.2 2) (ms.1 5)) (ms.1 1) (ms.1 2) (ms.1 6) (ms.1 10) (ms.1 8) (ms.1 9) (ms.1 7)) (ms.1 7)) (upd (sq_G (sq_dL (ms.2 1) r t) (sq_gF (sq_mago (ms.2 2) (ms.1 5)) (ms.1 2) (ms.1 10) (ms.1 8) (ms.1 9)) (ms.1 8)) ((r * 6) + t) ((sq_G (sq_dL (ms.2 1) r t) (sq_gF (sq_mago (ms.2 2) (ms.1 5)) (ms.1 2) (ms.1 10) (ms.1 8) (ms.1 9)) (ms.1 8)) ((r * 6) + t))) (ms.1 9) (sq_G (sq_dH (ms.2 1) (ms.2 1) (ms.2 1)) (sq_gM (sq_mago (ms.2 2) (ms.1 5)) (ms.1 2) (ms.1 10)) (ms.1 10)) (sq_G (sq_dH (ms.2 1) (ms.2 1) (ms.2 1)) (sq_nIn (ms.1 11) (sq_mreal (sq_mago (ms.2 2) (ms.1 5)))) (ms.1 11)) (ms.2 0) (ms.2 1) (ms.2 2) (ms.2 3) (ms.2 4) (ms.2 5) (ms.2 6) (ms.2 7) (ms.2 8) (ms.2 9) (ms.2 10)) := hD
              have eA : upd (sq_G (sq_dL (ms.2 1) r t) (sq_gF (sq_mago (ms.2 2) (ms.1 5)) (ms.1 2) (ms.1 10) (ms.1 8) (ms.1 9)) (ms.1 8)) ((r * 6) + t) ((sq_G (sq_dL (ms.2 1) r t) (sq_gF (sq_mago (ms.2 2) (ms.1 5)) (ms.1 2) (ms.1 10) (ms.1 8) (ms.1 9)) (ms.1 8)) ((r * 6) + t)) = sq_G (sq_dL (ms.2 1) r (t + 1)) (sq_gF (sq_mago (ms.2 2) (ms.1 5)) (ms.1 2) (ms.1 10) (ms.1 8) (ms.1 9)) (ms.1 8) := sq_G_step (by rw [sq_G_old (sq_dL_at (ms.2 1) r t (by omega))]; unfold sq_gF sq_nFa; rw [← xM, if_pos hf]) dS
              rw [eA] at hP hD
              clear eA
              exact T219 H locs ls hP hD hS hl
            · refine lv_aload_n hx hb dX1_goOn_203 rfl (lv_at hl 3 rfl) ?_
              refine va_get (D := (dC, dI)) (ci := 1) (v := .ref (q 9)) (C := RX1) (T := TX1) (N := 23) hx hb hts hin hown hK hP 0 rfl rfl 20 (by decide) k42 (fun _ h9 => h9) rfl dX1_goOn_204 ?_
              refine lv_iload_n hx hb dX1_goOn_207 rfl (lv_at hl 0 rfl) ?_
              refine sq_iald hx hb hK hP 10 0 rfl rfl (i := ((r * 6) + t)) (by omega) (by decide) dX1_goOn_208 ?_
              refine lv_goto (tgt := 218) hx hb dX1_goOn_209 (by decide) ?_
              refine sq_iast hx hb hK hP hD hS 9 0 rfl rfl (i := ((r * 6) + t)) (by omega) (by decide) dX1_goOn_218 (fun H locs hP hD hS => ?_)
              have hP : va_P (dC, dI) vwCl (wM h0 q cI cZ (ms.1 0) (ms.1 1) (ms.1 2) (ms.1 3) (ms.1 4) (ms.1 5) (sq_G (sq_dH (ms.2 1) (ms.2 1) (ms.2 1)) (sq_gI (sq_mago (ms.2 2) (ms.1 5)) (ms.1 1) (ms.1 6)) (ms.1 6)) (sq_G (sq_dL (ms.2 1) r t) (sq_gS (sq_mago (ms.2 2) (ms.1 5)) (ms.1 1) (ms.1 2) (ms.1 6) (ms.1 10) (ms.1 8) (ms.1 9) (ms.1 7)) (ms.1 7)) (upd (sq_G (sq_dL (ms.2 1) r t) (sq_gF (sq_mago (ms.2 2) (ms.1 5)) (ms.1 2) (ms.1 10) (ms.1 8) (ms.1 9)) (ms.1 8)) ((r * 6) + t) ((ms.1 9) ((r * 6) + t))) (ms.1 9) (sq_G (sq_dH (ms.2 1) (ms.2 1) (ms.2 1)) (sq_gM (sq_mago (ms.2 2) (ms.1 5)) (ms.1 2) (ms.1 10)) (ms.1 10)) (sq_G (sq_dH (ms.2 1) (ms.2 1) (ms.2 1)) (sq_nIn (ms.1 11) (sq_mreal (sq_mago (ms.2 2) (ms.1 5)))) (ms.1 11)) (ms.2 0) (ms.2 1) (ms.2 2) (ms.2 3) (ms.2 4) (ms.2 5) (ms.2 6) (ms.2 7) (ms.2 8) (ms.2 9) (ms.2 10)) H := hP
              have hD : va_D A (wM h0 q cI cZ (ms.1 0) (ms.1 1) (ms.1 2) (ms.1 3) (ms.1 4) (ms.1 5) (sq_G (sq_dH (ms.2 1) (ms.2 1) (ms.2 1)) (sq_gI (sq_mago (ms.2 2) (ms.1 5)) (ms.1 1) (ms.1 6)) (ms.1 6)) (sq_G (sq_dL (ms.2 1) r t) (sq_gS (sq_mago (ms.2 2) (ms.1 5)) (ms.1 1) (ms.1 2) (ms.1 6) (ms.1 10) (ms.1 8) (ms.1 9) (ms.1 7)) (ms.1 7)) (upd (sq_G (sq_dL (ms.2 1) r t) (sq_gF (sq_mago (ms.2 2) (ms.1 5)) (ms.1 2) (ms.1 10) (ms.1 8) (ms.1 9)) (ms.1 8)) ((r * 6) + t) ((ms.1 9) ((r * 6) + t))) (ms.1 9) (sq_G (sq_dH (ms.2 1) (ms.2 1) (ms.2 1)) (sq_gM (sq_mago (ms.2 2) (ms.1 5)) (ms.1 2) (ms.1 10)) (ms.1 10)) (sq_G (sq_dH (ms.2 1) (ms.2 1) (ms.2 1)) (sq_nIn (ms.1 11) (sq_mreal (sq_mago (ms.2 2) (ms.1 5)))) (ms.1 11)) (ms.2 0) (ms.2 1) (ms.2 2) (ms.2 3) (ms.2 4) (ms.2 5) (ms.2 6) (ms.2 7) (ms.2 8) (ms.2 9) (ms.2 10)) := hD
              have eA : upd (sq_G (sq_dL (ms.2 1) r t) (sq_gF (sq_mago (ms.2 2) (ms.1 5)) (ms.1 2) (ms.1 10) (ms.1 8) (ms.1 9)) (ms.1 8)) ((r * 6) + t) ((ms.1 9) ((r * 6) + t)) = sq_G (sq_dL (ms.2 1) r (t + 1)) (sq_gF (sq_mago (ms.2 2) (ms.1 5)) (ms.1 2) (ms.1 10) (ms.1 8) (ms.1 9)) (ms.1 8) := sq_G_step (by unfold sq_gF sq_nFa; rw [← xM, if_neg hf]) dS
              rw [eA] at hP hD
              clear eA
              exact T219 H locs ls hP hD hS hl
      exact L2 (ms.2 1) 0 (by omega) H locs ls hP hD hS hl
  have LA : ∀ j r : Nat, r + j = ms.2 1 → ∀ (H : Heap) (locs : List Loc) (ls : Array Slot), va_P (dC, dI) vwCl (wM h0 q cI cZ (ms.1 0) (ms.1 1) (ms.1 2) (ms.1 3) (ms.1 4) (ms.1 5) (sq_G (sq_dH (ms.2 1) r (ms.2 1)) (sq_gI (sq_mago (ms.2 2) (ms.1 5)) (ms.1 1) (ms.1 6)) (ms.1 6)) (ms.1 7) (ms.1 8) (ms.1 9) (sq_G (sq_dH (ms.2 1) r (ms.2 1)) (sq_gM (sq_mago (ms.2 2) (ms.1 5)) (ms.1 2) (ms.1 10)) (ms.1 10)) (sq_G (sq_dH (ms.2 1) r (ms.2 1)) (sq_nIn (ms.1 11) (sq_mreal (sq_mago (ms.2 2) (ms.1 5)))) (ms.1 11)) (ms.2 0) (ms.2 1) (ms.2 2) (ms.2 3) (ms.2 4) (ms.2 5) (ms.2 6) (ms.2 7) (ms.2 8) (ms.2 9) (ms.2 10)) H → va_D A (wM h0 q cI cZ (ms.1 0) (ms.1 1) (ms.1 2) (ms.1 3) (ms.1 4) (ms.1 5) (sq_G (sq_dH (ms.2 1) r (ms.2 1)) (sq_gI (sq_mago (ms.2 2) (ms.1 5)) (ms.1 1) (ms.1 6)) (ms.1 6)) (ms.1 7) (ms.1 8) (ms.1 9) (sq_G (sq_dH (ms.2 1) r (ms.2 1)) (sq_gM (sq_mago (ms.2 2) (ms.1 5)) (ms.1 2) (ms.1 10)) (ms.1 10)) (sq_G (sq_dH (ms.2 1) r (ms.2 1)) (sq_nIn (ms.1 11) (sq_mreal (sq_mago (ms.2 2) (ms.1 5)))) (ms.1 11)) (ms.2 0) (ms.2 1) (ms.2 2) (ms.2 3) (ms.2 4) (ms.2 5) (ms.2 6) (ms.2 7) (ms.2 8) (ms.2 9) (ms.2 10)) → va_S A s.heap H locs → lv_has ls 4 [(1, .int (nI r)), (0, .ref h0)] → W p l e rmm_goOn s m args below meth c H locs 0 0 Q (F0 m 2 ls []) := by
    intro j
    induction j using Nat.strongRecOn with
    | _ j ih =>
      intro r hr H locs ls hP hD hS hl
      refine lv_iload_n hx hb dX1_goOn_2 rfl (lv_at hl 0 rfl) ?_
      refine lv_aload_n hx hb dX1_goOn_3 rfl (lv_at hl 1 rfl) ?_
      refine va_get (D := (dC, dI)) (ci := 1) (v := .int (nI (ms.2 1))) (C := RX1) (T := TX1) (N := 23) hx hb hts hin hown hK hP 0 rfl rfl 1 (by decide) k7 (fun _ h9 => h9) rfl dX1_goOn_4 ?_
      refine sq_icmp_ge (tgt := 161) hx hb (by omega) (by omega) dX1_goOn_7 (by decide) (fun hc => ?_) (fun hc => ?_)
      · rw [show r = ms.2 1 by omega] at hP hD
        refine lv_aload_n hx hb dX1_goOn_161 rfl (lv_at hl 1 rfl) ?_
        refine va_get (D := (dC, dI)) (ci := 1) (v := .int (nI (ms.2 1))) (C := RX1) (T := TX1) (N := 23) hx hb hts hin hown hK hP 0 rfl rfl 1 (by decide) k7 (fun _ h9 => h9) rfl dX1_goOn_162 ?_
        refine lv_iconst (v := nI 1) hx hb dX1_goOn_165 (by decide +kernel) ?_
        refine sq_isub hx hb (by omega) dX1_goOn_166 ?_
        refine lv_istore_n (lv' := [(1, .int (nI ((ms.2 1) - 1))), (0, .ref h0)]) hx hb dX1_goOn_167 rfl hl (by decide) rfl (fun ls hl => ?_)
        have e9 : (wM h0 q cI cZ (ms.1 0) (ms.1 1) (ms.1 2) (ms.1 3) (ms.1 4) (ms.1 5) (sq_G (sq_dH (ms.2 1) (ms.2 1) (ms.2 1)) (sq_gI (sq_mago (ms.2 2) (ms.1 5)) (ms.1 1) (ms.1 6)) (ms.1 6)) (sq_G (sq_dL (ms.2 1) (ms.2 1) (ms.2 1)) (sq_gS (sq_mago (ms.2 2) (ms.1 5)) (ms.1 1) (ms.1 2) (ms.1 6) (ms.1 10) (ms.1 8) (ms.1 9) (ms.1 7)) (ms.1 7)) (sq_G (sq_dL (ms.2 1) (ms.2 1) (ms.2 1)) (sq_gF (sq_mago (ms.2 2) (ms.1 5)) (ms.1 2) (ms.1 10) (ms.1 8) (ms.1 9)) (ms.1 8)) (ms.1 9) (sq_G (sq_dH (ms.2 1) (ms.2 1) (ms.2 1)) (sq_gM (sq_mago (ms.2 2) (ms.1 5)) (ms.1 2) (ms.1 10)) (ms.1 10)) (sq_G (sq_dH (ms.2 1) (ms.2 1) (ms.2 1)) (sq_nIn (ms.1 11) (sq_mreal (sq_mago (ms.2 2) (ms.1 5)))) (ms.1 11)) (ms.2 0) (ms.2 1) (ms.2 2) (ms.2 3) (ms.2 4) (ms.2 5) (ms.2 6) (ms.2 7) (ms.2 8) (ms.2 9) (ms.2 10)) = (wM h0 q cI cZ (ms.1 0) (ms.1 1) (ms.1 2) (ms.1 3) (ms.1 4) (ms.1 5) (sq_G (sq_dH (ms.2 1) (ms.2 1) (ms.2 1)) (sq_gI (sq_mago (ms.2 2) (ms.1 5)) (ms.1 1) (ms.1 6)) (ms.1 6)) (ms.1 7) (ms.1 8) (ms.1 9) (sq_G (sq_dH (ms.2 1) (ms.2 1) (ms.2 1)) (sq_gM (sq_mago (ms.2 2) (ms.1 5)) (ms.1 2) (ms.1 10)) (ms.1 10)) (sq_G (sq_dH (ms.2 1) (ms.2 1) (ms.2 1)) (sq_nIn (ms.1 11) (sq_mreal (sq_mago (ms.2 2) (ms.1 5)))) (ms.1 11)) (ms.2 0) (ms.2 1) (ms.2 2) (ms.2 3) (ms.2 4) (ms.2 5) (ms.2 6) (ms.2 7) (ms.2 8) (ms.2 9) (ms.2 10)) := by rw [sq_G_none (sq_dL_none (ms.2 1)), sq_G_none (sq_dL_none (ms.2 1))]
        rw [← e9] at hP hD
        exact LB (ms.2 1) (Nat.le_refl _) _ (by rw [← pk_sub o1]; rfl) H locs ls hP hD hS (lv_sub hl [0, 1] rfl)
      · refine lv_aload_n hx hb dX1_goOn_10 rfl (lv_at hl 1 rfl) ?_
        refine va_get (D := (dC, dI)) (ci := 1) (v := .int (nI (ms.2 1))) (C := RX1) (T := TX1) (N := 23) hx hb hts hin hown hK hP 0 rfl rfl 1 (by decide) k7 (fun _ h9 => h9) rfl dX1_goOn_11 ?_
        refine lv_iconst (v := nI 1) hx hb dX1_goOn_14 (by decide +kernel) ?_
        refine sq_isub hx hb (by omega) dX1_goOn_15 ?_
        refine lv_istore_n (lv' := [(2, .int (nI ((ms.2 1) - 1))), (1, .int (nI r)), (0, .ref h0)]) hx hb dX1_goOn_16 rfl hl (by decide) rfl (fun ls hl => ?_)
        have L2 : ∀ t : Nat, t < ms.2 1 → ∀ (H : Heap) (locs : List Loc) (ls : Array Slot), va_P (dC, dI) vwCl (wM h0 q cI cZ (ms.1 0) (ms.1 1) (ms.1 2) (ms.1 3) (ms.1 4) (ms.1 5) (sq_G (sq_dH (ms.2 1) r (t + 1)) (sq_gI (sq_mago (ms.2 2) (ms.1 5)) (ms.1 1) (ms.1 6)) (ms.1 6)) (ms.1 7) (ms.1 8) (ms.1 9) (sq_G (sq_dH (ms.2 1) r (t + 1)) (sq_gM (sq_mago (ms.2 2) (ms.1 5)) (ms.1 2) (ms.1 10)) (ms.1 10)) (sq_G (sq_dH (ms.2 1) r (t + 1)) (sq_nIn (ms.1 11) (sq_mreal (sq_mago (ms.2 2) (ms.1 5)))) (ms.1 11)) (ms.2 0) (ms.2 1) (ms.2 2) (ms.2 3) (ms.2 4) (ms.2 5) (ms.2 6) (ms.2 7) (ms.2 8) (ms.2 9) (ms.2 10)) H → va_D A (wM h0 q cI cZ (ms.1 0) (ms.1 1) (ms.1 2) (ms.1 3) (ms.1 4) (ms.1 5) (sq_G (sq_dH (ms.2 1) r (t + 1)) (sq_gI (sq_mago (ms.2 2) (ms.1 5)) (ms.1 1) (ms.1 6)) (ms.1 6)) (ms.1 7) (ms.1 8) (ms.1 9) (sq_G (sq_dH (ms.2 1) r (t + 1)) (sq_gM (sq_mago (ms.2 2) (ms.1 5)) (ms.1 2) (ms.1 10)) (ms.1 10)) (sq_G (sq_dH (ms.2 1) r (t + 1)) (sq_nIn (ms.1 11) (sq_mreal (sq_mago (ms.2 2) (ms.1 5)))) (ms.1 11)) (ms.2 0) (ms.2 1) (ms.2 2) (ms.2 3) (ms.2 4) (ms.2 5) (ms.2 6) (ms.2 7) (ms.2 8) (ms.2 9) (ms.2 10)) → va_S A s.heap H locs → lv_has ls 4 [(2, .int (nI t)), (1, .int (nI r)), (0, .ref h0)] → W p l e rmm_goOn s m args below meth c H locs 0 0 Q (F0 m 17 ls []) := by
          intro t
          induction t using Nat.strongRecOn with
          | _ t ih2 =>
            intro ht H locs ls hP hD hS hl
            refine lv_iload_n hx hb dX1_goOn_17 rfl (lv_at hl 0 rfl) ?_
            refine sq_if_le (tgt := 76) hx hb (by omega) dX1_goOn_18 (by decide) (fun hd => ?_) (fun hd => ?_)
            · subst hd
              refine lv_aload_n hx hb dX1_goOn_76 rfl (lv_at hl 2 rfl) ?_
              refine lv_iload_n hx hb dX1_goOn_77 rfl (lv_at hl 1 rfl) ?_
              refine sq_calli (As := [.int (nI r)]) (k_enteredAgo l dC dI h0 q cI cZ (sq_mm (ms.1 0) (ms.1 1) (ms.1 2) (ms.1 3) (ms.1 4) (ms.1 5) (sq_G (sq_dH (ms.2 1) r (0 + 1)) (sq_gI (sq_mago (ms.2 2) (ms.1 5)) (ms.1 1) (ms.1 6)) (ms.1 6)) (ms.1 7) (ms.1 8) (ms.1 9) (sq_G (sq_dH (ms.2 1) r (0 + 1)) (sq_gM (sq_mago (ms.2 2) (ms.1 5)) (ms.1 2) (ms.1 10)) (ms.1 10)) (sq_G (sq_dH (ms.2 1) r (0 + 1)) (sq_nIn (ms.1 11) (sq_mreal (sq_mago (ms.2 2) (ms.1 5)))) (ms.1 11)) (ms.2 0) (ms.2 1) (ms.2 2) (ms.2 3) (ms.2 4) (ms.2 5) (ms.2 6) (ms.2 7) (ms.2 8) (ms.2 9) (ms.2 10)) r (by omega) (show ms.2 2 < 2 ^ 31 by omega)) ⟨hx, hb, hml, hown, hts⟩ (cwV 1 hts (sq_good gvX1_97) rfl rfl rfl (by decide +kernel) ⟨Nat.le_of_ble_eq_true rfl, Nat.le_of_ble_eq_true rfl⟩) hK hP hD hS hA rfl rfl rfl rfl hl.1 rfl (Nat.le_of_ble_eq_true rfl) dX1_goOn_78 ⟨Nat.zero_le _, Nat.zero_le _⟩ (fun H locs hP hD hS => ?_)
              have hP : va_P (dC, dI) vwCl (wM h0 q cI cZ (ms.1 0) (ms.1 1) (ms.1 2) (ms.1 3) (ms.1 4) (ms.1 5) (sq_G (sq_dH (ms.2 1) r (0 + 1)) (sq_gI (sq_mago (ms.2 2) (ms.1 5)) (ms.1 1) (ms.1 6)) (ms.1 6)) (ms.1 7) (ms.1 8) (ms.1 9) (sq_G (sq_dH (ms.2 1) r (0 + 1)) (sq_gM (sq_mago (ms.2 2) (ms.1 5)) (ms.1 2) (ms.1 10)) (ms.1 10)) (sq_G (sq_dH (ms.2 1) r (0 + 1)) (sq_nIn (ms.1 11) (sq_mreal (sq_mago (ms.2 2) (ms.1 5)))) (ms.1 11)) (ms.2 0) (ms.2 1) (ms.2 2) (ms.2 3) (ms.2 4) (ms.2 5) (ms.2 6) (ms.2 7) (ms.2 8) (ms.2 9) (ms.2 10)) H := hP
              have hD : va_D A (wM h0 q cI cZ (ms.1 0) (ms.1 1) (ms.1 2) (ms.1 3) (ms.1 4) (ms.1 5) (sq_G (sq_dH (ms.2 1) r (0 + 1)) (sq_gI (sq_mago (ms.2 2) (ms.1 5)) (ms.1 1) (ms.1 6)) (ms.1 6)) (ms.1 7) (ms.1 8) (ms.1 9) (sq_G (sq_dH (ms.2 1) r (0 + 1)) (sq_gM (sq_mago (ms.2 2) (ms.1 5)) (ms.1 2) (ms.1 10)) (ms.1 10)) (sq_G (sq_dH (ms.2 1) r (0 + 1)) (sq_nIn (ms.1 11) (sq_mreal (sq_mago (ms.2 2) (ms.1 5)))) (ms.1 11)) (ms.2 0) (ms.2 1) (ms.2 2) (ms.2 3) (ms.2 4) (ms.2 5) (ms.2 6) (ms.2 7) (ms.2 8) (ms.2 9) (ms.2 10)) := hD
              have dS := sq_dH_step (ms.2 1) r 0 o2 (by omega) (by omega)
              rcases hag r with ev | ⟨v, hv, ev⟩
              · refine sq_top ev ?_
                refine lv_istore_n (lv' := [(2, .int (-1)), (1, .int (nI r)), (0, .ref h0)]) hx hb dX1_goOn_81 rfl hl (by decide) rfl (fun ls hl => ?_)
                refine lv_aload_n hx hb dX1_goOn_82 rfl (lv_at hl 2 rfl) ?_
                refine va_get (D := (dC, dI)) (ci := 1) (v := .ref (q 6)) (C := RX1) (T := TX1) (N := 23) hx hb hts hin hown hK hP 0 rfl rfl 17 (by decide) k33 (fun _ h9 => h9) rfl dX1_goOn_83 ?_
                refine lv_bipush (v := nI 6) hx hb dX1_goOn_86 (by decide +kernel) ?_
                refine lv_iload_n hx hb dX1_goOn_88 rfl (lv_at hl 1 rfl) ?_
                refine sq_imulc hx hb dX1_goOn_89 ?_
                refine lv_iload_n hx hb dX1_goOn_90 rfl (lv_at hl 0 rfl) ?_
                refine sq_if_gem1 (tgt := 98) hx hb dX1_goOn_91 (by decide) ?_
                refine lv_iconst (v := nI 0) hx hb dX1_goOn_94 (by decide +kernel) ?_
                refine lv_goto (tgt := 109) hx hb dX1_goOn_95 (by decide) ?_
                refine sq_iast hx hb hK hP hD hS 7 0 rfl rfl (i := (r * 6)) (by omega) (by decide) dX1_goOn_109 (fun H locs hP hD hS => ?_)
                have hP : va_P (dC, dI) vwCl (wM h0 q cI cZ (ms.1 0) (ms.1 1) (ms.1 2) (ms.1 3) (ms.1 4) (ms.1 5) (upd (sq_G (sq_dH (ms.2 1) r (0 + 1)) (sq_gI (sq_mago (ms.2 2) (ms.1 5)) (ms.1 1) (ms.1 6)) (ms.1 6)) (r * 6) (nI 0)) (ms.1 7) (ms.1 8) (ms.1 9) (sq_G (sq_dH (ms.2 1) r (0 + 1)) (sq_gM (sq_mago (ms.2 2) (ms.1 5)) (ms.1 2) (ms.1 10)) (ms.1 10)) (sq_G (sq_dH (ms.2 1) r (0 + 1)) (sq_nIn (ms.1 11) (sq_mreal (sq_mago (ms.2 2) (ms.1 5)))) (ms.1 11)) (ms.2 0) (ms.2 1) (ms.2 2) (ms.2 3) (ms.2 4) (ms.2 5) (ms.2 6) (ms.2 7) (ms.2 8) (ms.2 9) (ms.2 10)) H := hP
                have hD : va_D A (wM h0 q cI cZ (ms.1 0) (ms.1 1) (ms.1 2) (ms.1 3) (ms.1 4) (ms.1 5) (upd (sq_G (sq_dH (ms.2 1) r (0 + 1)) (sq_gI (sq_mago (ms.2 2) (ms.1 5)) (ms.1 1) (ms.1 6)) (ms.1 6)) (r * 6) (nI 0)) (ms.1 7) (ms.1 8) (ms.1 9) (sq_G (sq_dH (ms.2 1) r (0 + 1)) (sq_gM (sq_mago (ms.2 2) (ms.1 5)) (ms.1 2) (ms.1 10)) (ms.1 10)) (sq_G (sq_dH (ms.2 1) r (0 + 1)) (sq_nIn (ms.1 11) (sq_mreal (sq_mago (ms.2 2) (ms.1 5)))) (ms.1 11)) (ms.2 0) (ms.2 1) (ms.2 2) (ms.2 3) (ms.2 4) (ms.2 5) (ms.2 6) (ms.2 7) (ms.2 8) (ms.2 9) (ms.2 10)) := hD
                refine lv_aload_n hx hb dX1_goOn_110 rfl (lv_at hl 2 rfl) ?_
                refine va_get (D := (dC, dI)) (ci := 1) (v := .ref (q 10)) (C := RX1) (T := TX1) (N := 23) hx hb hts hin hown hK hP 0 rfl rfl 21 (by decide) k45 (fun _ h9 => h9) rfl dX1_goOn_111 ?_
                refine lv_bipush (v := nI 6) hx hb dX1_goOn_114 (by decide +kernel) ?_
                refine lv_iload_n hx hb dX1_goOn_116 rfl (lv_at hl 1 rfl) ?_
                refine sq_imulc hx hb dX1_goOn_117 ?_
                refine lv_iload_n hx hb dX1_goOn_118 rfl (lv_at hl 0 rfl) ?_
                refine sq_if_m1 (tgt := 135) hx hb dX1_goOn_119 (by decide) ?_
                refine lv_iconst (v := nI 0) hx hb dX1_goOn_135 (by decide +kernel) ?_
                refine sq_zast hx hb hK hP hD hS 11 1 rfl rfl (i := (r * 6)) (by omega) (by decide) (by decide) dX1_goOn_136 (fun H locs hP hD hS => ?_)
                have hP : va_P (dC, dI) vwCl (wM h0 q cI cZ (ms.1 0) (ms.1 1) (ms.1 2) (ms.1 3) (ms.1 4) (ms.1 5) (upd (sq_G (sq_dH (ms.2 1) r (0 + 1)) (sq_gI (sq_mago (ms.2 2) (ms.1 5)) (ms.1 1) (ms.1 6)) (ms.1 6)) (r * 6) (nI 0)) (ms.1 7) (ms.1 8) (ms.1 9) (upd (sq_G (sq_dH (ms.2 1) r (0 + 1)) (sq_gM (sq_mago (ms.2 2) (ms.1 5)) (ms.1 2) (ms.1 10)) (ms.1 10)) (r * 6) (nI 0)) (sq_G (sq_dH (ms.2 1) r (0 + 1)) (sq_nIn (ms.1 11) (sq_mreal (sq_mago (ms.2 2) (ms.1 5)))) (ms.1 11)) (ms.2 0) (ms.2 1) (ms.2 2) (ms.2 3) (ms.2 4) (ms.2 5) (ms.2 6) (ms.2 7) (ms.2 8) (ms.2 9) (ms.2 10)) H := hP
                have hD : va_D A (wM h0 q cI cZ (ms.1 0) (ms.1 1) (ms.1 2) (ms.1 3) (ms.1 4) (ms.1 5) (upd (sq_G (sq_dH (ms.2 1) r (0 + 1)) (sq_gI (sq_mago (ms.2 2) (ms.1 5)) (ms.1 1) (ms.1 6)) (ms.1 6)) (r * 6) (nI 0)) (ms.1 7) (ms.1 8) (ms.1 9) (upd (sq_G (sq_dH (ms.2 1) r (0 + 1)) (sq_gM (sq_mago (ms.2 2) (ms.1 5)) (ms.1 2) (ms.1 10)) (ms.1 10)) (r * 6) (nI 0)) (sq_G (sq_dH (ms.2 1) r (0 + 1)) (sq_nIn (ms.1 11) (sq_mreal (sq_mago (ms.2 2) (ms.1 5)))) (ms.1 11)) (ms.2 0) (ms.2 1) (ms.2 2) (ms.2 3) (ms.2 4) (ms.2 5) (ms.2 6) (ms.2 7) (ms.2 8) (ms.2 9) (ms.2 10)) := hD
                refine lv_aload_n hx hb dX1_goOn_137 rfl (lv_at hl 2 rfl) ?_
                refine va_get (D := (dC, dI)) (ci := 1) (v := .ref (q 11)) (C := RX1) (T := TX1) (N := 23) hx hb hts hin hown hK hP 0 rfl rfl 22 (by decide) k48 (fun _ h9 => h9) rfl dX1_goOn_138 ?_
                refine lv_bipush (v := nI 6) hx hb dX1_goOn_141 (by decide +kernel) ?_
                refine lv_iload_n hx hb dX1_goOn_143 rfl (lv_at hl 1 rfl) ?_
                refine sq_imulc hx hb dX1_goOn_144 ?_
                refine lv_iload_n hx hb dX1_goOn_145 rfl (lv_at hl 0 rfl) ?_
                refine sq_if_m1 (tgt := 153) hx hb dX1_goOn_146 (by decide) ?_
                refine lv_iconst (v := nI 0) hx hb dX1_goOn_153 (by decide +kernel) ?_
                refine sq_zast hx hb hK hP hD hS 12 1 rfl rfl (i := (r * 6)) (by omega) (by decide) (by decide) dX1_goOn_154 (fun H locs hP hD hS => ?_)
                have hP : va_P (dC, dI) vwCl (wM h0 q cI cZ (ms.1 0) (ms.1 1) (ms.1 2) (ms.1 3) (ms.1 4) (ms.1 5) (upd (sq_G (sq_dH (ms.2 1) r (0 + 1)) (sq_gI (sq_mago (ms.2 2) (ms.1 5)) (ms.1 1) (ms.1 6)) (ms.1 6)) (r * 6) (nI 0)) (ms.1 7) (ms.1 8) (ms.1 9) (upd (sq_G (sq_dH (ms.2 1) r (0 + 1)) (sq_gM (sq_mago (ms.2 2) (ms.1 5)) (ms.1 2) (ms.1 10)) (ms.1 10)) (r * 6) (nI 0)) (upd (sq_G (sq_dH (ms.2 1) r (0 + 1)) (sq_nIn (ms.1 11) (sq_mreal (sq_mago (ms.2 2) (ms.1 5)))) (ms.1 11)) (r * 6) (nI 0)) (ms.2 0) (ms.2 1) (ms.2 2) (ms.2 3) (ms.2 4) (ms.2 5) (ms.2 6) (ms.2 7) (ms.2 8) (ms.2 9) (ms.2 10)) H := hP
                have hD : va_D A (wM h0 q cI cZ (ms.1 0) (ms.1 1) (ms.1 2) (ms.1 3) (ms.1 4) (ms.1 5) (upd (sq_G (sq_dH (ms.2 1) r (0 + 1)) (sq_gI (sq_mago (ms.2 2) (ms.1 5)) (ms.1 1) (ms.1 6)) (ms.1 6)) (r * 6) (nI 0)) (ms.1 7) (ms.1 8) (ms.1 9) (upd (sq_G (sq_dH (ms.2 1) r (0 + 1)) (sq_gM (sq_mago (ms.2 2) (ms.1 5)) (ms.1 2) (ms.1 10)) (ms.1 10)) (r * 6) (nI 0)) (upd (sq_G (sq_dH (ms.2 1) r (0 + 1)) (sq_nIn (ms.1 11) (sq_mreal (sq_mago (ms.2 2) (ms.1 5)))) (ms.1 11)) (r * 6) (nI 0)) (ms.2 0) (ms.2 1) (ms.2 2) (ms.2 3) (ms.2 4) (ms.2 5) (ms.2 6) (ms.2 7) (ms.2 8) (ms.2 9) (ms.2 10)) := hD
                have eA : upd (sq_G (sq_dH (ms.2 1) r (0 + 1)) (sq_gI (sq_mago (ms.2 2) (ms.1 5)) (ms.1 1) (ms.1 6)) (ms.1 6)) (r * 6) (nI 0) = sq_G (sq_dH (ms.2 1) r 0) (sq_gI (sq_mago (ms.2 2) (ms.1 5)) (ms.1 1) (ms.1 6)) (ms.1 6) := sq_G_step (i := r * 6) (by unfold sq_gI sq_nIn; rw [if_pos (by omega), show r * 6 / 6 = r by omega]; unfold sq_fedI; rw [if_pos ev]; rfl) dS
                rw [eA] at hP hD
                clear eA
                have eA : upd (sq_G (sq_dH (ms.2 1) r (0 + 1)) (sq_gM (sq_mago (ms.2 2) (ms.1 5)) (ms.1 2) (ms.1 10)) (ms.1 10)) (r * 6) (nI 0) = sq_G (sq_dH (ms.2 1) r 0) (sq_gM (sq_mago (ms.2 2) (ms.1 5)) (ms.1 2) (ms.1 10)) (ms.1 10) := sq_G_step (i := r * 6) (by unfold sq_gM sq_nIn; rw [if_pos (by omega), show r * 6 / 6 = r by omega]; unfold sq_fedM; rw [if_pos ev]; rfl) dS
                rw [eA] at hP hD
                clear eA
                have eA : upd (sq_G (sq_dH (ms.2 1) r (0 + 1)) (sq_nIn (ms.1 11) (sq_mreal (sq_mago (ms.2 2) (ms.1 5)))) (ms.1 11)) (r * 6) (nI 0) = sq_G (sq_dH (ms.2 1) r 0) (sq_nIn (ms.1 11) (sq_mreal (sq_mago (ms.2 2) (ms.1 5)))) (ms.1 11) := sq_G_step (i := r * 6) (by unfold sq_nIn; rw [if_pos (by omega), show r * 6 / 6 = r by omega]; unfold sq_mreal; rw [if_pos ev]; rfl) dS
                rw [eA] at hP hD
                clear eA
                have eA : sq_G (sq_dH (ms.2 1) r 0) (sq_gI (sq_mago (ms.2 2) (ms.1 5)) (ms.1 1) (ms.1 6)) (ms.1 6) = sq_G (sq_dH (ms.2 1) (r + 1) (ms.2 1)) (sq_gI (sq_mago (ms.2 2) (ms.1 5)) (ms.1 1) (ms.1 6)) (ms.1 6) := sq_G_eq (sq_dH_row (ms.2 1) r)
                rw [eA] at hP hD
                clear eA
                have eA : sq_G (sq_dH (ms.2 1) r 0) (sq_gM (sq_mago (ms.2 2) (ms.1 5)) (ms.1 2) (ms.1 10)) (ms.1 10) = sq_G (sq_dH (ms.2 1) (r + 1) (ms.2 1)) (sq_gM (sq_mago (ms.2 2) (ms.1 5)) (ms.1 2) (ms.1 10)) (ms.1 10) := sq_G_eq (sq_dH_row (ms.2 1) r)
                rw [eA] at hP hD
                clear eA
                have eA : sq_G (sq_dH (ms.2 1) r 0) (sq_nIn (ms.1 11) (sq_mreal (sq_mago (ms.2 2) (ms.1 5)))) (ms.1 11) = sq_G (sq_dH (ms.2 1) (r + 1) (ms.2 1)) (sq_nIn (ms.1 11) (sq_mreal (sq_mago (ms.2 2) (ms.1 5)))) (ms.1 11) := sq_G_eq (sq_dH_row (ms.2 1) r)
                rw [eA] at hP hD
                clear eA
                refine lv_iinc (v := nI (r + 1)) (lv' := [(1, .int (nI (r + 1))), (2, .int (-1)), (0, .ref h0)]) hx hb dX1_goOn_155 hl (k := 1) rfl (sq_inc _) (by decide) rfl (fun ls hl => ?_)
                refine lv_goto (tgt := 2) hx hb dX1_goOn_158 (by decide) ?_
                exact ih (j - 1) (by omega) (r + 1) (by omega) H locs ls hP hD hS (lv_sub hl [0, 2] rfl)
              · have en : ¬ (sq_mago (ms.2 2) (ms.1 5)) r = -1 := by rw [ev]; exact sq_m1_ne (by omega)
                refine sq_top ev ?_
                refine lv_istore_n (lv' := [(2, .int (nI v)), (1, .int (nI r)), (0, .ref h0)]) hx hb dX1_goOn_81 rfl hl (by decide) rfl (fun ls hl => ?_)
                refine lv_aload_n hx hb dX1_goOn_82 rfl (lv_at hl 2 rfl) ?_
                refine va_get (D := (dC, dI)) (ci := 1) (v := .ref (q 6)) (C := RX1) (T := TX1) (N := 23) hx hb hts hin hown hK hP 0 rfl rfl 17 (by decide) k33 (fun _ h9 => h9) rfl dX1_goOn_83 ?_
                refine lv_bipush (v := nI 6) hx hb dX1_goOn_86 (by decide +kernel) ?_
                refine lv_iload_n hx hb dX1_goOn_88 rfl (lv_at hl 1 rfl) ?_
                refine sq_imulc hx hb dX1_goOn_89 ?_
                refine lv_iload_n hx hb dX1_goOn_90 rfl (lv_at hl 0 rfl) ?_
                refine sq_if_ge (tgt := 98) hx hb (by omega) dX1_goOn_91 (by decide) ?_
                refine lv_aload_n hx hb dX1_goOn_98 rfl (lv_at hl 2 rfl) ?_
                refine va_get (D := (dC, dI)) (ci := 1) (v := .ref (q 1)) (C := RX1) (T := TX1) (N := 23) hx hb hts hin hown hK hP 0 rfl rfl 12 (by decide) k17 (fun _ h9 => h9) rfl dX1_goOn_99 ?_
                refine lv_bipush (v := nI 6) hx hb dX1_goOn_102 (by decide +kernel) ?_
                refine lv_iload_n hx hb dX1_goOn_104 rfl (lv_at hl 0 rfl) ?_
                refine sq_imulc hx hb dX1_goOn_105 ?_
                refine lv_iload_n hx hb dX1_goOn_106 rfl (lv_at hl 1 rfl) ?_
                refine sq_iadd hx hb dX1_goOn_107 ?_
                refine sq_iald hx hb hK hP 2 0 rfl rfl (i := ((v * 6) + r)) (by omega) (by decide) dX1_goOn_108 ?_
                refine sq_iast hx hb hK hP hD hS 7 0 rfl rfl (i := (r * 6)) (by omega) (by decide) dX1_goOn_109 (fun H locs hP hD hS => ?_)
                have hP : va_P (dC, dI) vwCl (wM h0 q cI cZ (ms.1 0) (ms.1 1) (ms.1 2) (ms.1 3) (ms.1 4) (ms.1 5) (upd (sq_G (sq_dH (ms.2 1) r (0 + 1)) (sq_gI (sq_mago (ms.2 2) (ms.1 5)) (ms.1 1) (ms.1 6)) (ms.1 6)) (r * 6) ((ms.1 1) ((v * 6) + r))) (ms.1 7) (ms.1 8) (ms.1 9) (sq_G (sq_dH (ms.2 1) r (0 + 1)) (sq_gM (sq_mago (ms.2 2) (ms.1 5)) (ms.1 2) (ms.1 10)) (ms.1 10)) (sq_G (sq_dH (ms.2 1) r (0 + 1)) (sq_nIn (ms.1 11) (sq_mreal (sq_mago (ms.2 2) (ms.1 5)))) (ms.1 11)) (ms.2 0) (ms.2 1) (ms.2 2) (ms.2 3) (ms.2 4) (ms.2 5) (ms.2 6) (ms.2 7) (ms.2 8) (ms.2 9) (ms.2 10)) H := hP
                have hD : va_D A (wM h0 q cI cZ (ms.1 0) (ms.1 1) (ms.1 2) (ms.1 3) (ms.1 4) (ms.1 5) (upd (sq_G (sq_dH (ms.2 1) r (0 + 1)) (sq_gI (sq_mago (ms.2 2) (ms.1 5)) (ms.1 1) (ms.1 6)) (ms.1 6)) (r * 6) ((ms.1 1) ((v * 6) + r))) (ms.1 7) (ms.1 8) (ms.1 9) (sq_G (sq_dH (ms.2 1) r (0 + 1)) (sq_gM (sq_mago (ms.2 2) (ms.1 5)) (ms.1 2) (ms.1 10)) (ms.1 10)) (sq_G (sq_dH (ms.2 1) r (0 + 1)) (sq_nIn (ms.1 11) (sq_mreal (sq_mago (ms.2 2) (ms.1 5)))) (ms.1 11)) (ms.2 0) (ms.2 1) (ms.2 2) (ms.2 3) (ms.2 4) (ms.2 5) (ms.2 6) (ms.2 7) (ms.2 8) (ms.2 9) (ms.2 10)) := hD
                refine lv_aload_n hx hb dX1_goOn_110 rfl (lv_at hl 2 rfl) ?_
                refine va_get (D := (dC, dI)) (ci := 1) (v := .ref (q 10)) (C := RX1) (T := TX1) (N := 23) hx hb hts hin hown hK hP 0 rfl rfl 21 (by decide) k45 (fun _ h9 => h9) rfl dX1_goOn_111 ?_
                refine lv_bipush (v := nI 6) hx hb dX1_goOn_114 (by decide +kernel) ?_
                refine lv_iload_n hx hb dX1_goOn_116 rfl (lv_at hl 1 rfl) ?_
                refine sq_imulc hx hb dX1_goOn_117 ?_
                refine lv_iload_n hx hb dX1_goOn_118 rfl (lv_at hl 0 rfl) ?_
                refine sq_if_lt (tgt := 135) hx hb (by omega) dX1_goOn_119 (by decide) ?_
                refine lv_aload_n hx hb dX1_goOn_122 rfl (lv_at hl 2 rfl) ?_
                refine va_get (D := (dC, dI)) (ci := 1) (v := .ref (q 2)) (C := RX1) (T := TX1) (N := 23) hx hb hts hin hown hK hP 0 rfl rfl 13 (by decide) k20 (fun _ h9 => h9) rfl dX1_goOn_123 ?_
                refine lv_iload_n hx hb dX1_goOn_126 rfl (lv_at hl 0 rfl) ?_
                refine sq_zald hx hb hK hP 3 1 rfl rfl (i := v) (by omega) (by decide) dX1_goOn_127 ?_
                refine lv_if_eq (tgt := 135) hx hb dX1_goOn_128 (by decide) (fun hf => ?_) (fun hf => ?_)
                · refine lv_iconst (v := nI 0) hx hb dX1_goOn_135 (by decide +kernel) ?_
                  refine sq_zast hx hb hK hP hD hS 11 1 rfl rfl (i := (r * 6)) (by omega) (by decide) (by decide) dX1_goOn_136 (fun H locs hP hD hS => ?_)
                  have hP : va_P (dC, dI) vwCl (wM h0 q cI cZ (ms.1 0) (ms.1 1) (ms.1 2) (ms.1 3) (ms.1 4) (ms.1 5) (upd (sq_G (sq_dH (ms.2 1) r (0 + 1)) (sq_gI (sq_mago (ms.2 2) (ms.1 5)) (ms.1 1) (ms.1 6)) (ms.1 6)) (r * 6) ((ms.1 1) ((v * 6) + r))) (ms.1 7) (ms.1 8) (ms.1 9) (upd (sq_G (sq_dH (ms.2 1) r (0 + 1)) (sq_gM (sq_mago (ms.2 2) (ms.1 5)) (ms.1 2) (ms.1 10)) (ms.1 10)) (r * 6) (nI 0)) (sq_G (sq_dH (ms.2 1) r (0 + 1)) (sq_nIn (ms.1 11) (sq_mreal (sq_mago (ms.2 2) (ms.1 5)))) (ms.1 11)) (ms.2 0) (ms.2 1) (ms.2 2) (ms.2 3) (ms.2 4) (ms.2 5) (ms.2 6) (ms.2 7) (ms.2 8) (ms.2 9) (ms.2 10)) H := hP
                  have hD : va_D A (wM h0 q cI cZ (ms.1 0) (ms.1 1) (ms.1 2) (ms.1 3) (ms.1 4) (ms.1 5) (upd (sq_G (sq_dH (ms.2 1) r (0 + 1)) (sq_gI (sq_mago (ms.2 2) (ms.1 5)) (ms.1 1) (ms.1 6)) (ms.1 6)) (r * 6) ((ms.1 1) ((v * 6) + r))) (ms.1 7) (ms.1 8) (ms.1 9) (upd (sq_G (sq_dH (ms.2 1) r (0 + 1)) (sq_gM (sq_mago (ms.2 2) (ms.1 5)) (ms.1 2) (ms.1 10)) (ms.1 10)) (r * 6) (nI 0)) (sq_G (sq_dH (ms.2 1) r (0 + 1)) (sq_nIn (ms.1 11) (sq_mreal (sq_mago (ms.2 2) (ms.1 5)))) (ms.1 11)) (ms.2 0) (ms.2 1) (ms.2 2) (ms.2 3) (ms.2 4) (ms.2 5) (ms.2 6) (ms.2 7) (ms.2 8) (ms.2 9) (ms.2 10)) := hD
                  refine lv_aload_n hx hb dX1_goOn_137 rfl (lv_at hl 2 rfl) ?_
                  refine va_get (D := (dC, dI)) (ci := 1) (v := .ref (q 11)) (C := RX1) (T := TX1) (N := 23) hx hb hts hin hown hK hP 0 rfl rfl 22 (by decide) k48 (fun _ h9 => h9) rfl dX1_goOn_138 ?_
                  refine lv_bipush (v := nI 6) hx hb dX1_goOn_141 (by decide +kernel) ?_
                  refine lv_iload_n hx hb dX1_goOn_143 rfl (lv_at hl 1 rfl) ?_
                  refine sq_imulc hx hb dX1_goOn_144 ?_
                  refine lv_iload_n hx hb dX1_goOn_145 rfl (lv_at hl 0 rfl) ?_
                  refine sq_if_lt (tgt := 153) hx hb (by omega) dX1_goOn_146 (by decide) ?_
                  refine lv_iconst (v := nI 1) hx hb dX1_goOn_149 (by decide +kernel) ?_
                  refine lv_goto (tgt := 154) hx hb dX1_goOn_150 (by decide) ?_
                  refine sq_zast hx hb hK hP hD hS 12 1 rfl rfl (i := (r * 6)) (by omega) (by decide) (by decide) dX1_goOn_154 (fun H locs hP hD hS => ?_)
                  have hP : va_P (dC, dI) vwCl (wM h0 q cI cZ (ms.1 0) (ms.1 1) (ms.1 2) (ms.1 3) (ms.1 4) (ms.1 5) (upd (sq_G (sq_dH (ms.2 1) r (0 + 1)) (sq_gI (sq_mago (ms.2 2) (ms.1 5)) (ms.1 1) (ms.1 6)) (ms.1 6)) (r * 6) ((ms.1 1) ((v * 6) + r))) (ms.1 7) (ms.1 8) (ms.1 9) (upd (sq_G (sq_dH (ms.2 1) r (0 + 1)) (sq_gM (sq_mago (ms.2 2) (ms.1 5)) (ms.1 2) (ms.1 10)) (ms.1 10)) (r * 6) (nI 0)) (upd (sq_G (sq_dH (ms.2 1) r (0 + 1)) (sq_nIn (ms.1 11) (sq_mreal (sq_mago (ms.2 2) (ms.1 5)))) (ms.1 11)) (r * 6) (nI 1)) (ms.2 0) (ms.2 1) (ms.2 2) (ms.2 3) (ms.2 4) (ms.2 5) (ms.2 6) (ms.2 7) (ms.2 8) (ms.2 9) (ms.2 10)) H := hP
                  have hD : va_D A (wM h0 q cI cZ (ms.1 0) (ms.1 1) (ms.1 2) (ms.1 3) (ms.1 4) (ms.1 5) (upd (sq_G (sq_dH (ms.2 1) r (0 + 1)) (sq_gI (sq_mago (ms.2 2) (ms.1 5)) (ms.1 1) (ms.1 6)) (ms.1 6)) (r * 6) ((ms.1 1) ((v * 6) + r))) (ms.1 7) (ms.1 8) (ms.1 9) (upd (sq_G (sq_dH (ms.2 1) r (0 + 1)) (sq_gM (sq_mago (ms.2 2) (ms.1 5)) (ms.1 2) (ms.1 10)) (ms.1 10)) (r * 6) (nI 0)) (upd (sq_G (sq_dH (ms.2 1) r (0 + 1)) (sq_nIn (ms.1 11) (sq_mreal (sq_mago (ms.2 2) (ms.1 5)))) (ms.1 11)) (r * 6) (nI 1)) (ms.2 0) (ms.2 1) (ms.2 2) (ms.2 3) (ms.2 4) (ms.2 5) (ms.2 6) (ms.2 7) (ms.2 8) (ms.2 9) (ms.2 10)) := hD
                  have eA : upd (sq_G (sq_dH (ms.2 1) r (0 + 1)) (sq_gI (sq_mago (ms.2 2) (ms.1 5)) (ms.1 1) (ms.1 6)) (ms.1 6)) (r * 6) ((ms.1 1) ((v * 6) + r)) = sq_G (sq_dH (ms.2 1) r 0) (sq_gI (sq_mago (ms.2 2) (ms.1 5)) (ms.1 1) (ms.1 6)) (ms.1 6) := sq_G_step (i := r * 6) (by unfold sq_gI sq_nIn; rw [if_pos (by omega), show r * 6 / 6 = r by omega]; unfold sq_fedI; rw [if_neg en, ev, sq_vec_nI (by omega)]) dS
                  rw [eA] at hP hD
                  clear eA
                  have eA : upd (sq_G (sq_dH (ms.2 1) r (0 + 1)) (sq_gM (sq_mago (ms.2 2) (ms.1 5)) (ms.1 2) (ms.1 10)) (ms.1 10)) (r * 6) (nI 0) = sq_G (sq_dH (ms.2 1) r 0) (sq_gM (sq_mago (ms.2 2) (ms.1 5)) (ms.1 2) (ms.1 10)) (ms.1 10) := sq_G_step (i := r * 6) (by unfold sq_gM sq_nIn; rw [if_pos (by omega), show r * 6 / 6 = r by omega]; unfold sq_fedM; rw [if_neg en, ev, sq_vec_nI (by omega), hf]; rfl) dS
                  rw [eA] at hP hD
                  clear eA
                  have eA : upd (sq_G (sq_dH (ms.2 1) r (0 + 1)) (sq_nIn (ms.1 11) (sq_mreal (sq_mago (ms.2 2) (ms.1 5)))) (ms.1 11)) (r * 6) (nI 1) = sq_G (sq_dH (ms.2 1) r 0) (sq_nIn (ms.1 11) (sq_mreal (sq_mago (ms.2 2) (ms.1 5)))) (ms.1 11) := sq_G_step (i := r * 6) (by unfold sq_nIn; rw [if_pos (by omega), show r * 6 / 6 = r by omega]; unfold sq_mreal; rw [if_neg en]; rfl) dS
                  rw [eA] at hP hD
                  clear eA
                  have eA : sq_G (sq_dH (ms.2 1) r 0) (sq_gI (sq_mago (ms.2 2) (ms.1 5)) (ms.1 1) (ms.1 6)) (ms.1 6) = sq_G (sq_dH (ms.2 1) (r + 1) (ms.2 1)) (sq_gI (sq_mago (ms.2 2) (ms.1 5)) (ms.1 1) (ms.1 6)) (ms.1 6) := sq_G_eq (sq_dH_row (ms.2 1) r)
                  rw [eA] at hP hD
                  clear eA
                  have eA : sq_G (sq_dH (ms.2 1) r 0) (sq_gM (sq_mago (ms.2 2) (ms.1 5)) (ms.1 2) (ms.1 10)) (ms.1 10) = sq_G (sq_dH (ms.2 1) (r + 1) (ms.2 1)) (sq_gM (sq_mago (ms.2 2) (ms.1 5)) (ms.1 2) (ms.1 10)) (ms.1 10) := sq_G_eq (sq_dH_row (ms.2 1) r)
                  rw [eA] at hP hD
                  clear eA
                  have eA : sq_G (sq_dH (ms.2 1) r 0) (sq_nIn (ms.1 11) (sq_mreal (sq_mago (ms.2 2) (ms.1 5)))) (ms.1 11) = sq_G (sq_dH (ms.2 1) (r + 1) (ms.2 1)) (sq_nIn (ms.1 11) (sq_mreal (sq_mago (ms.2 2) (ms.1 5)))) (ms.1 11) := sq_G_eq (sq_dH_row (ms.2 1) r)
                  rw [eA] at hP hD
                  clear eA
                  refine lv_iinc (v := nI (r + 1)) (lv' := [(1, .int (nI (r + 1))), (2, .int (nI v)), (0, .ref h0)]) hx hb dX1_goOn_155 hl (k := 1) rfl (sq_inc _) (by decide) rfl (fun ls hl => ?_)
                  refine lv_goto (tgt := 2) hx hb dX1_goOn_158 (by decide) ?_
                  exact ih (j - 1) (by omega) (r + 1) (by omega) H locs ls hP hD hS (lv_sub hl [0, 2] rfl)
                · refine lv_iconst (v := nI 1) hx hb dX1_goOn_131 (by decide +kernel) ?_
                  refine lv_goto (tgt := 136) hx hb dX1_goOn_132 (by decide) ?_
                  refine sq_zast hx hb hK hP hD hS 11 1 rfl rfl (i := (r * 6)) (by omega) (by decide) (by decide) dX1_goOn_136 (fun H locs hP hD hS => ?_)
                  have hP : va_P (dC, dI) vwCl (wM h0 q cI cZ (ms.1 0) (ms.1 1) (ms.1 2) (ms.1 3) (ms.1 4) (ms.1 5) (upd (sq_G (sq_dH (ms.2 1) r (0 + 1)) (sq_gI (sq_mago (ms.2 2) (ms.1 5)) (ms.1 1) (ms.1 6)) (ms.1 6)) (r * 6) ((ms.1 1) ((v * 6) + r))) (ms.1 7) (ms.1 8) (ms.1 9) (upd (sq_G (sq_dH (ms.2 1) r (0 + 1)) (sq_gM (sq_mago (ms.2 2) (ms.1 5)) (ms.1 2) (ms.1 10)) (ms.1 10)) (r * 6) (nI 1)) (sq_G (sq_dH (ms.2 1) r (0 + 1)) (sq_nIn (ms.1 11) (sq_mreal (sq_mago (ms.2 2) (ms.1 5)))) (ms.1 11)) (ms.2 0) (ms.2 1) (ms.2 2) (ms.2 3) (ms.2 4) (ms.2 5) (ms.2 6) (ms.2 7) (ms.2 8) (ms.2 9) (ms.2 10)) H := hP
                  have hD : va_D A (wM h0 q cI cZ (ms.1 0) (ms.1 1) (ms.1 2) (ms.1 3) (ms.1 4) (ms.1 5) (upd (sq_G (sq_dH (ms.2 1) r (0 + 1)) (sq_gI (sq_mago (ms.2 2) (ms.1 5)) (ms.1 1) (ms.1 6)) (ms.1 6)) (r * 6) ((ms.1 1) ((v * 6) + r))) (ms.1 7) (ms.1 8) (ms.1 9) (upd (sq_G (sq_dH (ms.2 1) r (0 + 1)) (sq_gM (sq_mago (ms.2 2) (ms.1 5)) (ms.1 2) (ms.1 10)) (ms.1 10)) (r * 6) (nI 1)) (sq_G (sq_dH (ms.2 1) r (0 + 1)) (sq_nIn (ms.1 11) (sq_mreal (sq_mago (ms.2 2) (ms.1 5)))) (ms.1 11)) (ms.2 0) (ms.2 1) (ms.2 2) (ms.2 3) (ms.2 4) (ms.2 5) (ms.2 6) (ms.2 7) (ms.2 8) (ms.2 9) (ms.2 10)) := hD
                  refine lv_aload_n hx hb dX1_goOn_137 rfl (lv_at hl 2 rfl) ?_
                  refine va_get (D := (dC, dI)) (ci := 1) (v := .ref (q 11)) (C := RX1) (T := TX1) (N := 23) hx hb hts hin hown hK hP 0 rfl rfl 22 (by decide) k48 (fun _ h9 => h9) rfl dX1_goOn_138 ?_
                  refine lv_bipush (v := nI 6) hx hb dX1_goOn_141 (by decide +kernel) ?_
                  refine lv_iload_n hx hb dX1_goOn_143 rfl (lv_at hl 1 rfl) ?_
                  refine sq_imulc hx hb dX1_goOn_144 ?_
                  refine lv_iload_n hx hb dX1_goOn_145 rfl (lv_at hl 0 rfl) ?_
                  refine sq_if_lt (tgt := 153) hx hb (by omega) dX1_goOn_146 (by decide) ?_
                  refine lv_iconst (v := nI 1) hx hb dX1_goOn_149 (by decide +kernel) ?_
                  refine lv_goto (tgt := 154) hx hb dX1_goOn_150 (by decide) ?_
                  refine sq_zast hx hb hK hP hD hS 12 1 rfl rfl (i := (r * 6)) (by omega) (by decide) (by decide) dX1_goOn_154 (fun H locs hP hD hS => ?_)
                  have hP : va_P (dC, dI) vwCl (wM h0 q cI cZ (ms.1 0) (ms.1 1) (ms.1 2) (ms.1 3) (ms.1 4) (ms.1 5) (upd (sq_G (sq_dH (ms.2 1) r (0 + 1)) (sq_gI (sq_mago (ms.2 2) (ms.1 5)) (ms.1 1) (ms.1 6)) (ms.1 6)) (r * 6) ((ms.1 1) ((v * 6) + r))) (ms.1 7) (ms.1 8) (ms.1 9) (upd (sq_G (sq_dH (ms.2 1) r (0 + 1)) (sq_gM (sq_mago (ms.2 2) (ms.1 5)) (ms.1 2) (ms.1 10)) (ms.1 10)) (r * 6) (nI 1)) (upd (sq_G (sq_dH (ms.2 1) r (0 + 1)) (sq_nIn (ms.1 11) (sq_mreal (sq_mago (ms.2 2) (ms.1 5)))) (ms.1 11)) (r * 6) (nI 1)) (ms.2 0) (ms.2 1) (ms.2 2) (ms.2 3) (ms.2 4) (ms.2 5) (ms.2 6) (ms.2 7) (ms.2 8) (ms.2 9) (ms.2 10)) H := hP
                  have hD : va_D A (wM h0 q cI cZ (ms.1 0) (ms.1 1) (ms.1 2) (ms.1 3) (ms.1 4) (ms.1 5) (upd (sq_G (sq_dH (ms.2 1) r (0 + 1)) (sq_gI (sq_mago (ms.2 2) (ms.1 5)) (ms.1 1) (ms.1 6)) (ms.1 6)) (r * 6) ((ms.1 1) ((v * 6) + r))) (ms.1 7) (ms.1 8) (ms.1 9) (upd (sq_G (sq_dH (ms.2 1) r (0 + 1)) (sq_gM (sq_mago (ms.2 2) (ms.1 5)) (ms.1 2) (ms.1 10)) (ms.1 10)) (r * 6) (nI 1)) (upd (sq_G (sq_dH (ms.2 1) r (0 + 1)) (sq_nIn (ms.1 11) (sq_mreal (sq_mago (ms.2 2) (ms.1 5)))) (ms.1 11)) (r * 6) (nI 1)) (ms.2 0) (ms.2 1) (ms.2 2) (ms.2 3) (ms.2 4) (ms.2 5) (ms.2 6) (ms.2 7) (ms.2 8) (ms.2 9) (ms.2 10)) := hD
                  have eA : upd (sq_G (sq_dH (ms.2 1) r (0 + 1)) (sq_gI (sq_mago (ms.2 2) (ms.1 5)) (ms.1 1) (ms.1 6)) (ms.1 6)) (r * 6) ((ms.1 1) ((v * 6) + r)) = sq_G (sq_dH (ms.2 1) r 0) (sq_gI (sq_mago (ms.2 2) (ms.1 5)) (ms.1 1) (ms.1 6)) (ms.1 6) := sq_G_step (i := r * 6) (by unfold sq_gI sq_nIn; rw [if_pos (by omega), show r * 6 / 6 = r by omega]; unfold sq_fedI; rw [if_neg en, ev, sq_vec_nI (by omega)]) dS
                  rw [eA] at hP hD
                  clear eA
                  have eA : upd (sq_G (sq_dH (ms.2 1) r (0 + 1)) (sq_gM (sq_mago (ms.2 2) (ms.1 5)) (ms.1 2) (ms.1 10)) (ms.1 10)) (r * 6) (nI 1) = sq_G (sq_dH (ms.2 1) r 0) (sq_gM (sq_mago (ms.2 2) (ms.1 5)) (ms.1 2) (ms.1 10)) (ms.1 10) := sq_G_step (i := r * 6) (by unfold sq_gM sq_nIn; rw [if_pos (by omega), show r * 6 / 6 = r by omega]; unfold sq_fedM; rw [if_neg en, ev, sq_vec_nI (by omega), (o13 v).resolve_left hf]; rfl) dS
                  rw [eA] at hP hD
                  clear eA
                  have eA : upd (sq_G (sq_dH (ms.2 1) r (0 + 1)) (sq_nIn (ms.1 11) (sq_mreal (sq_mago (ms.2 2) (ms.1 5)))) (ms.1 11)) (r * 6) (nI 1) = sq_G (sq_dH (ms.2 1) r 0) (sq_nIn (ms.1 11) (sq_mreal (sq_mago (ms.2 2) (ms.1 5)))) (ms.1 11) := sq_G_step (i := r * 6) (by unfold sq_nIn; rw [if_pos (by omega), show r * 6 / 6 = r by omega]; unfold sq_mreal; rw [if_neg en]; rfl) dS
                  rw [eA] at hP hD
                  clear eA
                  have eA : sq_G (sq_dH (ms.2 1) r 0) (sq_gI (sq_mago (ms.2 2) (ms.1 5)) (ms.1 1) (ms.1 6)) (ms.1 6) = sq_G (sq_dH (ms.2 1) (r + 1) (ms.2 1)) (sq_gI (sq_mago (ms.2 2) (ms.1 5)) (ms.1 1) (ms.1 6)) (ms.1 6) := sq_G_eq (sq_dH_row (ms.2 1) r)
                  rw [eA] at hP hD
                  clear eA
                  have eA : sq_G (sq_dH (ms.2 1) r 0) (sq_gM (sq_mago (ms.2 2) (ms.1 5)) (ms.1 2) (ms.1 10)) (ms.1 10) = sq_G (sq_dH (ms.2 1) (r + 1) (ms.2 1)) (sq_gM (sq_mago (ms.2 2) (ms.1 5)) (ms.1 2) (ms.1 10)) (ms.1 10) := sq_G_eq (sq_dH_row (ms.2 1) r)
                  rw [eA] at hP hD
                  clear eA
                  have eA : sq_G (sq_dH (ms.2 1) r 0) (sq_nIn (ms.1 11) (sq_mreal (sq_mago (ms.2 2) (ms.1 5)))) (ms.1 11) = sq_G (sq_dH (ms.2 1) (r + 1) (ms.2 1)) (sq_nIn (ms.1 11) (sq_mreal (sq_mago (ms.2 2) (ms.1 5)))) (ms.1 11) := sq_G_eq (sq_dH_row (ms.2 1) r)
                  rw [eA] at hP hD
                  clear eA
                  refine lv_iinc (v := nI (r + 1)) (lv' := [(1, .int (nI (r + 1))), (2, .int (nI v)), (0, .ref h0)]) hx hb dX1_goOn_155 hl (k := 1) rfl (sq_inc _) (by decide) rfl (fun ls hl => ?_)
                  refine lv_goto (tgt := 2) hx hb dX1_goOn_158 (by decide) ?_
                  exact ih (j - 1) (by omega) (r + 1) (by omega) H locs ls hP hD hS (lv_sub hl [0, 2] rfl)
            · obtain ⟨t1, rfl⟩ : ∃ t1, t = t1 + 1 := ⟨t - 1, by omega⟩
              have dS := sq_dH_step (ms.2 1) r (t1 + 1) o2 (by omega) (by omega)
              have dl := sq_dH_left (ms.2 1) r (t1 + 1) (by omega) (by omega)
              have n10 : vp_nar .boolean (sq_G (sq_dH (ms.2 1) r (t1 + 1 + 1)) (sq_gM (sq_mago (ms.2 2) (ms.1 5)) (ms.1 2) (ms.1 10)) (ms.1 10) (r * 6 + (t1 + 1) - 1)) = sq_G (sq_dH (ms.2 1) r (t1 + 1 + 1)) (sq_gM (sq_mago (ms.2 2) (ms.1 5)) (ms.1 2) (ms.1 10)) (ms.1 10) (r * 6 + (t1 + 1) - 1) := by rw [sq_G_old dl]; rcases o14 (r * 6 + (t1 + 1) - 1) with e | e <;> rw [e] <;> decide
              have n11 : vp_nar .boolean (sq_G (sq_dH (ms.2 1) r (t1 + 1 + 1)) (sq_nIn (ms.1 11) (sq_mreal (sq_mago (ms.2 2) (ms.1 5)))) (ms.1 11) (r * 6 + (t1 + 1) - 1)) = sq_G (sq_dH (ms.2 1) r (t1 + 1 + 1)) (sq_nIn (ms.1 11) (sq_mreal (sq_mago (ms.2 2) (ms.1 5)))) (ms.1 11) (r * 6 + (t1 + 1) - 1) := by rw [sq_G_old dl]; rcases o15 (r * 6 + (t1 + 1) - 1) with e | e <;> rw [e] <;> decide
              refine lv_bipush (v := nI 6) hx hb dX1_goOn_21 (by decide +kernel) ?_
              refine lv_iload_n hx hb dX1_goOn_23 rfl (lv_at hl 1 rfl) ?_
              refine sq_imulc hx hb dX1_goOn_24 ?_
              refine lv_iload_n hx hb dX1_goOn_25 rfl (lv_at hl 0 rfl) ?_
              refine sq_iadd hx hb dX1_goOn_26 ?_
              refine lv_istore_n (lv' := [(3, .int (nI ((r * 6) + (t1 + 1)))), (2, .int (nI (t1 + 1))), (1, .int (nI r)), (0, .ref h0)]) hx hb dX1_goOn_27 rfl hl (by decide) rfl (fun ls hl => ?_)
              refine lv_aload_n hx hb dX1_goOn_28 rfl (lv_at hl 3 rfl) ?_
              refine va_get (D := (dC, dI)) (ci := 1) (v := .ref (q 6)) (C := RX1) (T := TX1) (N := 23) hx hb hts hin hown hK hP 0 rfl rfl 17 (by decide) k33 (fun _ h9 => h9) rfl dX1_goOn_29 ?_
              refine lv_iload_n hx hb dX1_goOn_32 rfl (lv_at hl 0 rfl) ?_
              refine lv_aload_n hx hb dX1_goOn_33 rfl (lv_at hl 3 rfl) ?_
              refine va_get (D := (dC, dI)) (ci := 1) (v := .ref (q 6)) (C := RX1) (T := TX1) (N := 23) hx hb hts hin hown hK hP 0 rfl rfl 17 (by decide) k33 (fun _ h9 => h9) rfl dX1_goOn_34 ?_
              refine lv_iload_n hx hb dX1_goOn_37 rfl (lv_at hl 0 rfl) ?_
              refine lv_iconst (v := nI 1) hx hb dX1_goOn_38 (by decide +kernel) ?_
              refine sq_isub hx hb (by omega) dX1_goOn_39 ?_
              refine sq_iald hx hb hK hP 7 0 rfl rfl (i := (((r * 6) + (t1 + 1)) - 1)) (by omega) (by decide) dX1_goOn_40 ?_
              refine sq_iast hx hb hK hP hD hS 7 0 rfl rfl (i := ((r * 6) + (t1 + 1))) (by omega) (by decide) dX1_goOn_41 (fun H locs hP hD hS => ?_)
              have hP : va_P (dC, dI) vwCl (wM h0 q cI cZ (ms.1 0) (ms.1 1) (ms.1 2) (ms.1 3) (ms.1 4) (ms.1 5) (upd (sq_G (sq_dH (ms.2 1) r (t1 + 1 + 1)) (sq_gI (sq_mago (ms.2 2) (ms.1 5)) (ms.1 1) (ms.1 6)) (ms.1 6)) ((r * 6) + (t1 + 1)) ((sq_G (sq_dH (ms.2 1) r (t1 + 1 + 1)) (sq_gI (sq_mago (ms.2 2) (ms.1 5)) (ms.1 1) (ms.1 6)) (ms.1 6)) (((r * 6) + (t1 + 1)) - 1))) (ms.1 7) (ms.1 8) (ms.1 9) (sq_G (sq_dH (ms.2 1) r (t1 + 1 + 1)) (sq_gM (sq_mago (ms.2 2) (ms.1 5)) (ms.1 2) (ms.1 10)) (ms.1 10)) (sq_G (sq_dH (ms.2 1) r (t1 + 1 + 1)) (sq_nIn (ms.1 11) (sq_mreal (sq_mago (ms.2 2) (ms.1 5)))) (ms.1 11)) (ms.2 0) (ms.2 1) (ms.2 2) (ms.2 3) (ms.2 4) (ms.2 5) (ms.2 6) (ms.2 7) (ms.2 8) (ms.2 9) (ms.2 10)) H := hP
              have hD : va_D A (wM h0 q cI cZ (ms.1 0) (ms.1 1) (ms.1 2) (ms.1 3) (ms.1 4) (ms.1 5) (upd (sq_G (sq_dH (ms.2 1) r (t1 + 1 + 1)) (sq_gI (sq_mago (ms.2 2) (ms.1 5)) (ms.1 1) (ms.1 6)) (ms.1 6)) ((r * 6) + (t1 + 1)) ((sq_G (sq_dH (ms.2 1) r (t1 + 1 + 1)) (sq_gI (sq_mago (ms.2 2) (ms.1 5)) (ms.1 1) (ms.1 6)) (ms.1 6)) (((r * 6) + (t1 + 1)) - 1))) (ms.1 7) (ms.1 8) (ms.1 9) (sq_G (sq_dH (ms.2 1) r (t1 + 1 + 1)) (sq_gM (sq_mago (ms.2 2) (ms.1 5)) (ms.1 2) (ms.1 10)) (ms.1 10)) (sq_G (sq_dH (ms.2 1) r (t1 + 1 + 1)) (sq_nIn (ms.1 11) (sq_mreal (sq_mago (ms.2 2) (ms.1 5)))) (ms.1 11)) (ms.2 0) (ms.2 1) (ms.2 2) (ms.2 3) (ms.2 4) (ms.2 5) (ms.2 6) (ms.2 7) (ms.2 8) (ms.2 9) (ms.2 10)) := hD
              have eA : upd (sq_G (sq_dH (ms.2 1) r (t1 + 1 + 1)) (sq_gI (sq_mago (ms.2 2) (ms.1 5)) (ms.1 1) (ms.1 6)) (ms.1 6)) ((r * 6) + (t1 + 1)) ((sq_G (sq_dH (ms.2 1) r (t1 + 1 + 1)) (sq_gI (sq_mago (ms.2 2) (ms.1 5)) (ms.1 1) (ms.1 6)) (ms.1 6)) (((r * 6) + (t1 + 1)) - 1)) = sq_G (sq_dH (ms.2 1) r (t1 + 1)) (sq_gI (sq_mago (ms.2 2) (ms.1 5)) (ms.1 1) (ms.1 6)) (ms.1 6) := sq_G_step (by rw [sq_G_old dl]; unfold sq_gI sq_nIn; rw [if_neg (by omega)]) dS
              rw [eA] at hP hD
              clear eA
              refine lv_aload_n hx hb dX1_goOn_42 rfl (lv_at hl 3 rfl) ?_
              refine va_get (D := (dC, dI)) (ci := 1) (v := .ref (q 10)) (C := RX1) (T := TX1) (N := 23) hx hb hts hin hown hK hP 0 rfl rfl 21 (by decide) k45 (fun _ h9 => h9) rfl dX1_goOn_43 ?_
              refine lv_iload_n hx hb dX1_goOn_46 rfl (lv_at hl 0 rfl) ?_
              refine lv_aload_n hx hb dX1_goOn_47 rfl (lv_at hl 3 rfl) ?_
              refine va_get (D := (dC, dI)) (ci := 1) (v := .ref (q 10)) (C := RX1) (T := TX1) (N := 23) hx hb hts hin hown hK hP 0 rfl rfl 21 (by decide) k45 (fun _ h9 => h9) rfl dX1_goOn_48 ?_
              refine lv_iload_n hx hb dX1_goOn_51 rfl (lv_at hl 0 rfl) ?_
              refine lv_iconst (v := nI 1) hx hb dX1_goOn_52 (by decide +kernel) ?_
              refine sq_isub hx hb (by omega) dX1_goOn_53 ?_
              refine sq_zald hx hb hK hP 11 1 rfl rfl (i := (((r * 6) + (t1 + 1)) - 1)) (by omega) (by decide) dX1_goOn_54 ?_
              refine sq_zast hx hb hK hP hD hS 11 1 rfl rfl (i := ((r * 6) + (t1 + 1))) (by omega) (by decide) n10 dX1_goOn_55 (fun H locs hP hD hS => ?_)
              have hP : va_P (dC, dI) vwCl (wM h0 q cI cZ (ms.1 0) (ms.1 1) (ms.1 2) (ms.1 3) (ms.1 4) (ms.1 5) (sq_G (sq_dH (ms.2 1) r (t1 + 1)) (sq_gI (sq_mago (ms.2 2) (ms.1 5)) (ms.1 1) (ms.1 6)) (ms.1 6)) (ms.1 7) (ms.1 8) (ms.1 9) (upd (sq_G (sq_dH (ms.2 1) r (t1 + 1 + 1)) (sq_gM (sq_mago (ms.2 2) (ms.1 5)) (ms.1 2) (ms.1 10)) (ms.1 10)) ((r * 6) + (t1 + 1)) ((sq_G (sq_dH (ms.2 1) r (t1 + 1 + 1)) (sq_gM (sq_mago (ms.2 2) (ms.1 5)) (ms.1 2) (ms.1 10)) (ms.1 10)) (((r * 6) + (t1 + 1)) - 1))) (sq_G (sq_dH (ms.2 1) r (t1 + 1 + 1)) (sq_nIn (ms.1 11) (sq_mreal (sq_mago (ms.2 2) (ms.1 5)))) (ms.1 11)) (ms.2 0) (ms.2 1) (ms.2 2) (ms.2 3) (ms.2 4) (ms.2 5) (ms.2 6) (ms.2 7) (ms.2 8) (ms.2 9) (ms.2 10)) H := hP
              have hD : va_D A (wM h0 q cI cZ (ms.1 0) (ms.1 1) (ms.1 2) (ms.1 3) (ms.1 4) (ms.1 5) (sq_G (sq_dH (ms.2 1) r (t1 + 1)) (sq_gI (sq_mago (ms.2 2) (ms.1 5)) (ms.1 1) (ms.1 6)) (ms.1 6)) (ms.1 7) (ms.1 8) (ms.1 9) (upd (sq_G (sq_dH (ms.2 1) r (t1 + 1 + 1)) (sq_gM (sq_mago (ms.2 2) (ms.1 5)) (ms.1 2) (ms.1 10)) (ms.1 10)) ((r * 6) + (t1 + 1)) ((sq_G (sq_dH (ms.2 1) r (t1 + 1 + 1)) (sq_gM (sq_mago (ms.2 2) (ms.1 5)) (ms.1 2) (ms.1 10)) (ms.1 10)) (((r * 6) + (t1 + 1)) - 1))) (sq_G (sq_dH (ms.2 1) r (t1 + 1 + 1)) (sq_nIn (ms.1 11) (sq_mreal (sq_mago (ms.2 2) (ms.1 5)))) (ms.1 11)) (ms.2 0) (ms.2 1) (ms.2 2) (ms.2 3) (ms.2 4) (ms.2 5) (ms.2 6) (ms.2 7) (ms.2 8) (ms.2 9) (ms.2 10)) := hD
              have eA : upd (sq_G (sq_dH (ms.2 1) r (t1 + 1 + 1)) (sq_gM (sq_mago (ms.2 2) (ms.1 5)) (ms.1 2) (ms.1 10)) (ms.1 10)) ((r * 6) + (t1 + 1)) ((sq_G (sq_dH (ms.2 1) r (t1 + 1 + 1)) (sq_gM (sq_mago (ms.2 2) (ms.1 5)) (ms.1 2) (ms.1 10)) (ms.1 10)) (((r * 6) + (t1 + 1)) - 1)) = sq_G (sq_dH (ms.2 1) r (t1 + 1)) (sq_gM (sq_mago (ms.2 2) (ms.1 5)) (ms.1 2) (ms.1 10)) (ms.1 10) := sq_G_step (by rw [sq_G_old dl]; unfold sq_gM sq_nIn; rw [if_neg (by omega)]) dS
              rw [eA] at hP hD
              clear eA
              refine lv_aload_n hx hb dX1_goOn_56 rfl (lv_at hl 3 rfl) ?_
              refine va_get (D := (dC, dI)) (ci := 1) (v := .ref (q 11)) (C := RX1) (T := TX1) (N := 23) hx hb hts hin hown hK hP 0 rfl rfl 22 (by decide) k48 (fun _ h9 => h9) rfl dX1_goOn_57 ?_
              refine lv_iload_n hx hb dX1_goOn_60 rfl (lv_at hl 0 rfl) ?_
              refine lv_aload_n hx hb dX1_goOn_61 rfl (lv_at hl 3 rfl) ?_
              refine va_get (D := (dC, dI)) (ci := 1) (v := .ref (q 11)) (C := RX1) (T := TX1) (N := 23) hx hb hts hin hown hK hP 0 rfl rfl 22 (by decide) k48 (fun _ h9 => h9) rfl dX1_goOn_62 ?_
              refine lv_iload_n hx hb dX1_goOn_65 rfl (lv_at hl 0 rfl) ?_
              refine lv_iconst (v := nI 1) hx hb dX1_goOn_66 (by decide +kernel) ?_
              refine sq_isub hx hb (by omega) dX1_goOn_67 ?_
              refine sq_zald hx hb hK hP 12 1 rfl rfl (i := (((r * 6) + (t1 + 1)) - 1)) (by omega) (by decide) dX1_goOn_68 ?_
              refine sq_zast hx hb hK hP hD hS 12 1 rfl rfl (i := ((r * 6) + (t1 + 1))) (by omega) (by decide) n11 dX1_goOn_69 (fun H locs hP hD hS => ?_)
              have hP : va_P (dC, dI) vwCl (wM h0 q cI cZ (ms.1 0) (ms.1 1) (ms.1 2) (ms.1 3) (ms.1 4) (ms.1 5) (sq_G (sq_dH (ms.2 1) r (t1 + 1)) (sq_gI (sq_mago (ms.2 2) (ms.1 5)) (ms.1 1) (ms.1 6)) (ms.1 6)) (ms.1 7) (ms.1 8) (ms.1 9) (sq_G (sq_dH (ms.2 1) r (t1 + 1)) (sq_gM (sq_mago (ms.2 2) (ms.1 5)) (ms.1 2) (ms.1 10)) (ms.1 10)) (upd (sq_G (sq_dH (ms.2 1) r (t1 + 1 + 1)) (sq_nIn (ms.1 11) (sq_mreal (sq_mago (ms.2 2) (ms.1 5)))) (ms.1 11)) ((r * 6) + (t1 + 1)) ((sq_G (sq_dH (ms.2 1) r (t1 + 1 + 1)) (sq_nIn (ms.1 11) (sq_mreal (sq_mago (ms.2 2) (ms.1 5)))) (ms.1 11)) (((r * 6) + (t1 + 1)) - 1))) (ms.2 0) (ms.2 1) (ms.2 2) (ms.2 3) (ms.2 4) (ms.2 5) (ms.2 6) (ms.2 7) (ms.2 8) (ms.2 9) (ms.2 10)) H := hP
              have hD : va_D A (wM h0 q cI cZ (ms.1 0) (ms.1 1) (ms.1 2) (ms.1 3) (ms.1 4) (ms.1 5) (sq_G (sq_dH (ms.2 1) r (t1 + 1)) (sq_gI (sq_mago (ms.2 2) (ms.1 5)) (ms.1 1) (ms.1 6)) (ms.1 6)) (ms.1 7) (ms.1 8) (ms.1 9) (sq_G (sq_dH (ms.2 1) r (t1 + 1)) (sq_gM (sq_mago (ms.2 2) (ms.1 5)) (ms.1 2) (ms.1 10)) (ms.1 10)) (upd (sq_G (sq_dH (ms.2 1) r (t1 + 1 + 1)) (sq_nIn (ms.1 11) (sq_mreal (sq_mago (ms.2 2) (ms.1 5)))) (ms.1 11)) ((r * 6) + (t1 + 1)) ((sq_G (sq_dH (ms.2 1) r (t1 + 1 + 1)) (sq_nIn (ms.1 11) (sq_mreal (sq_mago (ms.2 2) (ms.1 5)))) (ms.1 11)) (((r * 6) + (t1 + 1)) - 1))) (ms.2 0) (ms.2 1) (ms.2 2) (ms.2 3) (ms.2 4) (ms.2 5) (ms.2 6) (ms.2 7) (ms.2 8) (ms.2 9) (ms.2 10)) := hD
              have eA : upd (sq_G (sq_dH (ms.2 1) r (t1 + 1 + 1)) (sq_nIn (ms.1 11) (sq_mreal (sq_mago (ms.2 2) (ms.1 5)))) (ms.1 11)) ((r * 6) + (t1 + 1)) ((sq_G (sq_dH (ms.2 1) r (t1 + 1 + 1)) (sq_nIn (ms.1 11) (sq_mreal (sq_mago (ms.2 2) (ms.1 5)))) (ms.1 11)) (((r * 6) + (t1 + 1)) - 1)) = sq_G (sq_dH (ms.2 1) r (t1 + 1)) (sq_nIn (ms.1 11) (sq_mreal (sq_mago (ms.2 2) (ms.1 5)))) (ms.1 11) := sq_G_step (by rw [sq_G_old dl]; unfold sq_nIn; rw [if_neg (by omega)]) dS
              rw [eA] at hP hD
              clear eA
              refine lv_iinc (v := nI t1) (lv' := [(2, .int (nI t1)), (3, .int (nI ((r * 6) + (t1 + 1)))), (1, .int (nI r)), (0, .ref h0)]) hx hb dX1_goOn_70 hl (k := 1) rfl (sq_dec _) (by decide) rfl (fun ls hl => ?_)
              refine lv_goto (tgt := 17) hx hb dX1_goOn_73 (by decide) ?_
              exact ih2 t1 (by omega) (by omega) H locs ls hP hD hS (lv_sub hl [0, 2, 3] rfl)
        have e9 : (wM h0 q cI cZ (ms.1 0) (ms.1 1) (ms.1 2) (ms.1 3) (ms.1 4) (ms.1 5) (sq_G (sq_dH (ms.2 1) r (ms.2 1)) (sq_gI (sq_mago (ms.2 2) (ms.1 5)) (ms.1 1) (ms.1 6)) (ms.1 6)) (ms.1 7) (ms.1 8) (ms.1 9) (sq_G (sq_dH (ms.2 1) r (ms.2 1)) (sq_gM (sq_mago (ms.2 2) (ms.1 5)) (ms.1 2) (ms.1 10)) (ms.1 10)) (sq_G (sq_dH (ms.2 1) r (ms.2 1)) (sq_nIn (ms.1 11) (sq_mreal (sq_mago (ms.2 2) (ms.1 5)))) (ms.1 11)) (ms.2 0) (ms.2 1) (ms.2 2) (ms.2 3) (ms.2 4) (ms.2 5) (ms.2 6) (ms.2 7) (ms.2 8) (ms.2 9) (ms.2 10)) = (wM h0 q cI cZ (ms.1 0) (ms.1 1) (ms.1 2) (ms.1 3) (ms.1 4) (ms.1 5) (sq_G (sq_dH (ms.2 1) r (ms.2 1 - 1 + 1)) (sq_gI (sq_mago (ms.2 2) (ms.1 5)) (ms.1 1) (ms.1 6)) (ms.1 6)) (ms.1 7) (ms.1 8) (ms.1 9) (sq_G (sq_dH (ms.2 1) r (ms.2 1 - 1 + 1)) (sq_gM (sq_mago (ms.2 2) (ms.1 5)) (ms.1 2) (ms.1 10)) (ms.1 10)) (sq_G (sq_dH (ms.2 1) r (ms.2 1 - 1 + 1)) (sq_nIn (ms.1 11) (sq_mreal (sq_mago (ms.2 2) (ms.1 5)))) (ms.1 11)) (ms.2 0) (ms.2 1) (ms.2 2) (ms.2 3) (ms.2 4) (ms.2 5) (ms.2 6) (ms.2 7) (ms.2 8) (ms.2 9) (ms.2 10)) := by rw [show ms.2 1 - 1 + 1 = ms.2 1 by omega]
        rw [e9] at hP hD
        exact L2 (ms.2 1 - 1) (by omega) H locs ls hP hD hS hl
  refine lv_iconst (v := nI 0) hx hb dX1_goOn_0 (by decide +kernel) ?_
  refine lv_istore_n (lv' := [(1, .int (nI 0)), (0, .ref h0)]) hx hb dX1_goOn_1 rfl hl (by decide) rfl (fun ls hl => ?_)
  have e9 : (wM h0 q cI cZ (ms.1 0) (ms.1 1) (ms.1 2) (ms.1 3) (ms.1 4) (ms.1 5) (sq_G (sq_dH (ms.2 1) 0 (ms.2 1)) (sq_gI (sq_mago (ms.2 2) (ms.1 5)) (ms.1 1) (ms.1 6)) (ms.1 6)) (ms.1 7) (ms.1 8) (ms.1 9) (sq_G (sq_dH (ms.2 1) 0 (ms.2 1)) (sq_gM (sq_mago (ms.2 2) (ms.1 5)) (ms.1 2) (ms.1 10)) (ms.1 10)) (sq_G (sq_dH (ms.2 1) 0 (ms.2 1)) (sq_nIn (ms.1 11) (sq_mreal (sq_mago (ms.2 2) (ms.1 5)))) (ms.1 11)) (ms.2 0) (ms.2 1) (ms.2 2) (ms.2 3) (ms.2 4) (ms.2 5) (ms.2 6) (ms.2 7) (ms.2 8) (ms.2 9) (ms.2 10)) = (wM h0 q cI cZ (ms.1 0) (ms.1 1) (ms.1 2) (ms.1 3) (ms.1 4) (ms.1 5) (ms.1 6) (ms.1 7) (ms.1 8) (ms.1 9) (ms.1 10) (ms.1 11) (ms.2 0) (ms.2 1) (ms.2 2) (ms.2 3) (ms.2 4) (ms.2 5) (ms.2 6) (ms.2 7) (ms.2 8) (ms.2 9) (ms.2 10)) := by rw [sq_G_none (sq_dH_top (ms.2 1)), sq_G_none (sq_dH_top (ms.2 1)), sq_G_none (sq_dH_top (ms.2 1))]
  rw [← e9] at hP hD
  exact LA (ms.2 1) 0 (by omega) _ _ ls hP hD hS hl
end
