section
-- ===== PART A: goes FIRST, ahead of the names: the tables' words, and 'selects' of the private methods out of them =====
/-- a private method of a class that the tables say can be made, by its rows of tables_1 -/
def lw_okq (q : MethodName × Nat) : Prop := (q.1.cls ≠ "java/lang/invoke/MethodHandle" ∧ q.1.cls ≠ "java/lang/invoke/VarHandle") ∧ Cond.instantiable q.1.cls q.2 ∈ tables_1 ∧ Cond.privateMethod q.1 ∈ tables_1 ∧ Cond.instanceMethod q.1 ∈ tables_1
theorem lw_p0 : lw_okq (⟨"ChartroomSpc", "restart", "(I)V"⟩, 16) := ⟨⟨by decide +kernel, by decide +kernel⟩, List.mem_of_getElem? (i := 14) (by decide +kernel), List.mem_of_getElem? (i := 138) (by decide +kernel), List.mem_of_getElem? (i := 139) (by decide +kernel)⟩
theorem lw_p1 : lw_okq (⟨"java/lang/Throwable", "fillInStackTrace", "(I)Ljava/lang/Throwable;"⟩, 6) := ⟨⟨by decide +kernel, by decide +kernel⟩, List.mem_of_getElem? (i := 240) (by decide +kernel), List.mem_of_getElem? (i := 238) (by decide +kernel), List.mem_of_getElem? (i := 239) (by decide +kernel)⟩
theorem lw_p2 : lw_okq (⟨"ChartroomSpc", "takeMeasurement", "(I)V"⟩, 16) := ⟨⟨by decide +kernel, by decide +kernel⟩, List.mem_of_getElem? (i := 14) (by decide +kernel), List.mem_of_getElem? (i := 286) (by decide +kernel), List.mem_of_getElem? (i := 287) (by decide +kernel)⟩
theorem lw_p3 : lw_okq (⟨"ChartroomSpc", "finishSubgroup", "()V"⟩, 16) := ⟨⟨by decide +kernel, by decide +kernel⟩, List.mem_of_getElem? (i := 14) (by decide +kernel), List.mem_of_getElem? (i := 296) (by decide +kernel), List.mem_of_getElem? (i := 297) (by decide +kernel)⟩
theorem lw_p4 : lw_okq (⟨"ChartroomSpc", "countPoint", "(II)V"⟩, 16) := ⟨⟨by decide +kernel, by decide +kernel⟩, List.mem_of_getElem? (i := 14) (by decide +kernel), List.mem_of_getElem? (i := 311) (by decide +kernel), List.mem_of_getElem? (i := 312) (by decide +kernel)⟩
theorem lw_p5 : lw_okq (⟨"ChartroomSpc", "phaseHolding", "(I)LChartroomSpc$Phase;"⟩, 16) := ⟨⟨by decide +kernel, by decide +kernel⟩, List.mem_of_getElem? (i := 14) (by decide +kernel), List.mem_of_getElem? (i := 315) (by decide +kernel), List.mem_of_getElem? (i := 316) (by decide +kernel)⟩
theorem lw_p6 : lw_okq (⟨"ChartroomSpc", "isPoint", "(I)Z"⟩, 16) := ⟨⟨by decide +kernel, by decide +kernel⟩, List.mem_of_getElem? (i := 14) (by decide +kernel), List.mem_of_getElem? (i := 360) (by decide +kernel), List.mem_of_getElem? (i := 361) (by decide +kernel)⟩
theorem lw_p7 : lw_okq (⟨"ChartroomSpc$RunCounts", "takeCenterSide", "(I)V"⟩, 16) := ⟨⟨by decide +kernel, by decide +kernel⟩, List.mem_of_getElem? (i := 67) (by decide +kernel), List.mem_of_getElem? (i := 375) (by decide +kernel), List.mem_of_getElem? (i := 376) (by decide +kernel)⟩
theorem lw_p8 : lw_okq (⟨"ChartroomSpc$RunCounts", "takeDirection", "(I)V"⟩, 16) := ⟨⟨by decide +kernel, by decide +kernel⟩, List.mem_of_getElem? (i := 67) (by decide +kernel), List.mem_of_getElem? (i := 380) (by decide +kernel), List.mem_of_getElem? (i := 381) (by decide +kernel)⟩
theorem lw_p9 : lw_okq (⟨"ChartroomSpc$RunCounts", "takeSidesBeyond", "(ILChartroomSpc$Phase;)V"⟩, 16) := ⟨⟨by decide +kernel, by decide +kernel⟩, List.mem_of_getElem? (i := 67) (by decide +kernel), List.mem_of_getElem? (i := 384) (by decide +kernel), List.mem_of_getElem? (i := 385) (by decide +kernel)⟩
theorem lw_p10 : lw_okq (⟨"ChartroomSpc", "findPhase", "(I)LChartroomSpc$Phase;"⟩, 16) := ⟨⟨by decide +kernel, by decide +kernel⟩, List.mem_of_getElem? (i := 14) (by decide +kernel), List.mem_of_getElem? (i := 428) (by decide +kernel), List.mem_of_getElem? (i := 429) (by decide +kernel)⟩
theorem lw_p11 : lw_okq (⟨"ChartroomSpc", "lastPhase", "()LChartroomSpc$Phase;"⟩, 16) := ⟨⟨by decide +kernel, by decide +kernel⟩, List.mem_of_getElem? (i := 14) (by decide +kernel), List.mem_of_getElem? (i := 467) (by decide +kernel), List.mem_of_getElem? (i := 468) (by decide +kernel)⟩
theorem lw_p12 : lw_okq (⟨"ChartroomSpc", "checkSubgroup", "(I)V"⟩, 16) := ⟨⟨by decide +kernel, by decide +kernel⟩, List.mem_of_getElem? (i := 14) (by decide +kernel), List.mem_of_getElem? (i := 476) (by decide +kernel), List.mem_of_getElem? (i := 477) (by decide +kernel)⟩
theorem lw_p13 : lw_okq (⟨"ChartroomSpc", "findLimits", "(I)LChartroomSpc$Phase;"⟩, 16) := ⟨⟨by decide +kernel, by decide +kernel⟩, List.mem_of_getElem? (i := 14) (by decide +kernel), List.mem_of_getElem? (i := 502) (by decide +kernel), List.mem_of_getElem? (i := 503) (by decide +kernel)⟩
theorem lw_p14 : lw_okq (⟨"ChartroomSpc", "lookBack", "(ILChartroomSpc$Phase;)V"⟩, 16) := ⟨⟨by decide +kernel, by decide +kernel⟩, List.mem_of_getElem? (i := 14) (by decide +kernel), List.mem_of_getElem? (i := 527) (by decide +kernel), List.mem_of_getElem? (i := 528) (by decide +kernel)⟩
theorem lw_p15 : lw_okq (⟨"ChartroomSpc$Window", "isOnOneSide", "(ILChartroomSpc$Phase;)Z"⟩, 3) := ⟨⟨by decide +kernel, by decide +kernel⟩, List.mem_of_getElem? (i := 122) (by decide +kernel), List.mem_of_getElem? (i := 550) (by decide +kernel), List.mem_of_getElem? (i := 551) (by decide +kernel)⟩
def lw_privs_1 : List (MethodName × Nat) := [(⟨"ChartroomSpc", "restart", "(I)V"⟩, 16), (⟨"java/lang/Throwable", "fillInStackTrace", "(I)Ljava/lang/Throwable;"⟩, 6), (⟨"ChartroomSpc", "takeMeasurement", "(I)V"⟩, 16), (⟨"ChartroomSpc", "finishSubgroup", "()V"⟩, 16), (⟨"ChartroomSpc", "countPoint", "(II)V"⟩, 16), (⟨"ChartroomSpc", "phaseHolding", "(I)LChartroomSpc$Phase;"⟩, 16), (⟨"ChartroomSpc", "isPoint", "(I)Z"⟩, 16), (⟨"ChartroomSpc$RunCounts", "takeCenterSide", "(I)V"⟩, 16), (⟨"ChartroomSpc$RunCounts", "takeDirection", "(I)V"⟩, 16), (⟨"ChartroomSpc$RunCounts", "takeSidesBeyond", "(ILChartroomSpc$Phase;)V"⟩, 16), (⟨"ChartroomSpc", "findPhase", "(I)LChartroomSpc$Phase;"⟩, 16), (⟨"ChartroomSpc", "lastPhase", "()LChartroomSpc$Phase;"⟩, 16), (⟨"ChartroomSpc", "checkSubgroup", "(I)V"⟩, 16), (⟨"ChartroomSpc", "findLimits", "(I)LChartroomSpc$Phase;"⟩, 16), (⟨"ChartroomSpc", "lookBack", "(ILChartroomSpc$Phase;)V"⟩, 16), (⟨"ChartroomSpc$Window", "isOnOneSide", "(ILChartroomSpc$Phase;)Z"⟩, 3)]
theorem lw_r1 : ∀ q ∈ lw_privs_1, lw_okq q := List.forall_mem_cons.mpr ⟨lw_p0, List.forall_mem_cons.mpr ⟨lw_p1, List.forall_mem_cons.mpr ⟨lw_p2, List.forall_mem_cons.mpr ⟨lw_p3, List.forall_mem_cons.mpr ⟨lw_p4, List.forall_mem_cons.mpr ⟨lw_p5, List.forall_mem_cons.mpr ⟨lw_p6, List.forall_mem_cons.mpr ⟨lw_p7, List.forall_mem_cons.mpr ⟨lw_p8, List.forall_mem_cons.mpr ⟨lw_p9, List.forall_mem_cons.mpr ⟨lw_p10, List.forall_mem_cons.mpr ⟨lw_p11, List.forall_mem_cons.mpr ⟨lw_p12, List.forall_mem_cons.mpr ⟨lw_p13, List.forall_mem_cons.mpr ⟨lw_p14, List.forall_mem_cons.mpr ⟨lw_p15, fun _ h => absurd h List.not_mem_nil⟩⟩⟩⟩⟩⟩⟩⟩⟩⟩⟩⟩⟩⟩⟩⟩
theorem lw_p16 : lw_okq (⟨"ChartroomSpc$Window", "isSteady", "(I)Z"⟩, 3) := ⟨⟨by decide +kernel, by decide +kernel⟩, List.mem_of_getElem? (i := 122) (by decide +kernel), List.mem_of_getElem? (i := 555) (by decide +kernel), List.mem_of_getElem? (i := 556) (by decide +kernel)⟩
theorem lw_p17 : lw_okq (⟨"ChartroomSpc$Window", "isTurning", "(I)Z"⟩, 3) := ⟨⟨by decide +kernel, by decide +kernel⟩, List.mem_of_getElem? (i := 122) (by decide +kernel), List.mem_of_getElem? (i := 560) (by decide +kernel), List.mem_of_getElem? (i := 561) (by decide +kernel)⟩
theorem lw_p18 : lw_okq (⟨"ChartroomSpc$Window", "isOften", "(IIILChartroomSpc$Phase;)Z"⟩, 3) := ⟨⟨by decide +kernel, by decide +kernel⟩, List.mem_of_getElem? (i := 122) (by decide +kernel), List.mem_of_getElem? (i := 564) (by decide +kernel), List.mem_of_getElem? (i := 565) (by decide +kernel)⟩
theorem lw_p19 : lw_okq (⟨"ChartroomSpc$Window", "beyondSome", "(ILChartroomSpc$Phase;)I"⟩, 3) := ⟨⟨by decide +kernel, by decide +kernel⟩, List.mem_of_getElem? (i := 122) (by decide +kernel), List.mem_of_getElem? (i := 568) (by decide +kernel), List.mem_of_getElem? (i := 569) (by decide +kernel)⟩
theorem lw_p20 : lw_okq (⟨"ChartroomSpc", "checkPoint", "(I)V"⟩, 16) := ⟨⟨by decide +kernel, by decide +kernel⟩, List.mem_of_getElem? (i := 14) (by decide +kernel), List.mem_of_getElem? (i := 595) (by decide +kernel), List.mem_of_getElem? (i := 596) (by decide +kernel)⟩
def lw_privs_2 : List (MethodName × Nat) := [(⟨"ChartroomSpc$Window", "isSteady", "(I)Z"⟩, 3), (⟨"ChartroomSpc$Window", "isTurning", "(I)Z"⟩, 3), (⟨"ChartroomSpc$Window", "isOften", "(IIILChartroomSpc$Phase;)Z"⟩, 3), (⟨"ChartroomSpc$Window", "beyondSome", "(ILChartroomSpc$Phase;)I"⟩, 3), (⟨"ChartroomSpc", "checkPoint", "(I)V"⟩, 16)]
theorem lw_r2 : ∀ q ∈ lw_privs_2, lw_okq q := List.forall_mem_cons.mpr ⟨lw_p16, List.forall_mem_cons.mpr ⟨lw_p17, List.forall_mem_cons.mpr ⟨lw_p18, List.forall_mem_cons.mpr ⟨lw_p19, List.forall_mem_cons.mpr ⟨lw_p20, fun _ h => absurd h List.not_mem_nil⟩⟩⟩⟩⟩
def lw_privs : List (MethodName × Nat) := lw_privs_1 ++ (lw_privs_2)
def lw_tbl : List Cond := k2_sels lw_privs ++ tables_1
theorem lw_privs_ok : ∀ q ∈ lw_privs, lw_okq q := by
  show ∀ q ∈ lw_privs_1 ++ (lw_privs_2), lw_okq q
  exact List.forall_mem_append.mpr ⟨lw_r1, lw_r2⟩
/-! ===== BEGIN words of one list among another's, by their places ===== -/
theorem goodIn_r {big : List Cond} (ws : List Cond) (ps : List Nat) (hp : ws = ps.filterMap (fun i => big[i]?)) (h : ws.all goodWord = true) : GoodIn big ws := by
  intro w hw
  have h1 := List.all_eq_true.mp h w hw
  rw [hp] at hw
  obtain ⟨i, -, hi⟩ := List.mem_filterMap.mp hw
  have hm : w ∈ big := by first | exact List.mem_of_getElem? hi | exact List.getElem?_mem hi
  exact ⟨hm, good_of_word h1⟩
theorem goodIn_app {big a b : List Cond} (ha : GoodIn big a) (hb : GoodIn big b) : GoodIn big (a ++ b) := fun w h => (List.mem_append.mp h).elim (ha w) (hb w)
theorem goodIn_ca {big a b : List Cond} {c : Cond} (ha : GoodIn big (c :: a)) (hb : GoodIn big b) : GoodIn big (c :: (a ++ b)) := fun w h => (List.mem_cons.mp h).elim (fun e => ha w (List.mem_cons.mpr (Or.inl e))) (fun h => (List.mem_append.mp h).elim (fun h => ha w (List.mem_cons.mpr (Or.inr h))) (hb w))
theorem goodIn_sub {big ws : List Cond} (hm : ∀ w ∈ ws, w ∈ big) (h : ws.all goodWord = true) : GoodIn big ws := fun w hw => ⟨hm w hw, good_of_word (List.all_eq_true.mp h w hw)⟩
/-! ===== END ===== -/

/-! ===== BEGIN exceptions that leave a method, and their catching by the caller (launches without stack traces) ===== -/
section VXA
/-! The laws vx_back, vx_callV, vx_callS, vx_callSW, vx_throw0, vx_throwS follow proofs of the library, with one case more: JvmDerived/Free/Laws.lean (Back.of_free), Shelf42/LK1.lean (callV, callS), Shelf/KitTraced.lean (throwNew0V, throwNewS). -/
/-- where a method has thrown q: the class by its name, the cell, what was written, the world -/
def vx_T (XC : String → State → State → Prop) (st : State) (q : Addr) (t : State) (mc ms : Nat) (free : Addr → Prop) : Prop :=
  ∃ (E : String) (ce : Cell) (L : List Loc), XC E st t ∧ t.heap[q]? = some ce ∧ ce.vm = .none ∧ st.vm.findClass E = some ce.cls ∧ st.WarmedH t.vm ∧ st.sameButNew ({ t with vm := st.vm } : State) L mc ms ∧ ∀ z ∈ L, free z.base
def vx_Q (Qc : Array Value → State → Outcome → State → Prop) (XC : String → State → State → Prop) (mc ms : Nat) (free : Addr → Prop) : Array Value → State → Outcome → State → Prop := fun a st o t =>
  (Qc a st o t ∧ ∃ L, FrameEnd st o t L mc ms ∧ ∀ q ∈ L, free q.base) ∨ ∃ q, o = .threw q ∧ vx_T XC st q t mc ms free
/-- a callee that returns or throws -/
def vx_Met (l : Launch) (y : MethodName) (ws : List Cond) (rm : Room) (Pc : Array Value → State → Prop) (Qc : Array Value → State → Outcome → State → Prop) (XC : String → State → State → Prop) (mc ms : Nat) (free : Addr → Prop) : Prop :=
  MetFree l y (headSpec ws rm) Pc (fun _ _ _ _ _ => True) (vx_Q Qc XC mc ms free)
def vx_Post (XC : String → State → State → Prop) (mc ms : Nat) (free : Addr → Prop) : Pt → Array Value → Addr → Pt → Prop := fun A a q B =>
  ∃ (g : JFrame) (mk : MethodId) (t : State) (L : List Loc) (E : String) (ce : Cell), B.U.heap = t.heap ∧ B.U.vm = t.vm ∧ XC E (A.U.calling g mk a) t ∧ t.heap[q]? = some ce ∧ ce.vm = .none ∧ A.U.vm.findClass E = some ce.cls ∧ B.locs = A.locs ++ L ∧ (∀ z ∈ L, free z.base) ∧ B.cells = A.cells + mc ∧ B.slots = A.slots + ms
def vx_Back (l : Launch) (R : Room) (p : Program) (e : Env) (below : List Frame) (s : State) (sargs : Array Value) (y : MethodName) (len W9 : Nat)
    (Pre : Pt → Array Value → Prop) (Post : Pt → Array Value → Option Value → Pt → Prop) (PostX : Pt → Array Value → Addr → Pt → Prop) : Prop :=
  ∀ (m : MethodId) (meth : Method) (c : Code) (A : Pt) (g : JFrame) (ig : Instr) (mk : MethodId) (a : Array Value),
    Stand p l e R s m sargs below meth c A.U A.locs A.cells A.slots → g.method = m → g.locals.size = c.maxLocals → decode c.code g.pc = .ok (ig, len) →
    2 * g.monitorRoom + (g.stack.map fun v => v.category).sum ≤ W9 → A.U.methodNamed? y = some mk → Pre A a →
    (∃ (v : Option Value) (B : Pt), Stand p l e R s m sargs below meth c B.U B.locs B.cells B.slots ∧ Post A a v B ∧
      Steps p.tables e below (doInvoke e (A.U.setTop g) [] mk a).1 (B.U.setTop { g with pc := g.pc + len, stack := v.toList ++ g.stack })) ∨
    (∃ (q : Addr) (B : Pt), Stand p l e R s m sargs below meth c B.U B.locs B.cells B.slots ∧ PostX A a q B ∧
      Steps p.tables e below (doInvoke e (A.U.setTop g) [] mk a).1 ((B.U.setTop g).pushFrame (.throwing q)))
section Payer
variable {l : Launch} {R : Room} {p : Program} {e : Env} {below : List Frame} {s : State} {sargs : Array Value} {y : MethodName} {len W9 : Nat}
theorem vx_back {ws : List Cond} {rm : Room} {Pc : Array Value → State → Prop} {Qc : Array Value → State → Outcome → State → Prop} {XC : String → State → State → Prop} {mc ms : Nat} {free : Addr → Prop} {bytes : ByteArray} {maxL : Nat} {ret : Option FieldType}
    (hM : vx_Met l y ws rm Pc Qc XC mc ms free) (hblind : FrameBlind Pc) (hrc : rm.cells = mc) (hrs : rm.slots = ms)
    (hframes : rm.frames + 1 ≤ R.frames) (hlocals : W9 + (maxL + 11) + rm.locals ≤ R.locals)
    (hws : ∀ w ∈ ws, ∀ a' U, s.WarmedH U.vm → w.before a' U = true) (hcode : Cond.code y bytes maxL ret ∈ ws) (hinit : ∀ a' U, s.WarmedH U.vm → (Cond.initialized y.cls).before a' U = true) :
    vx_Back l R p e below s sargs y len W9 (PreOf R mc ms Pc) (PostOf Qc mc ms free) (vx_Post XC mc ms free) := by
  intro m meth c A g ig mk a X hg hsize hdg hW hn hp
  have h1 : (headSpec ws rm).pre.before a A.U = true := atoms_intro fun w hw => hws w hw _ _ X.warmed
  have h2 : (Cond.code y bytes maxL ret).before a A.U = true := hws _ hcode _ _ X.warmed
  have h3 : (Cond.initialized y.cls).before a A.U = true := hinit _ _ X.warmed
  have h4 : A.cells + (headSpec ws rm).room.cells ≤ R.cells := by rw [show (headSpec ws rm).room.cells = mc from hrc]; exact hp.1
  have h5 : A.slots + (headSpec ws rm).room.slots ≤ R.slots := by rw [show (headSpec ws rm).room.slots = ms from hrs]; exact hp.2.1
  have hPc : Pc a (A.U.calling g mk a) := hblind _ _ _ _ hp.2.2
  obtain ⟨U, Ls, c0, s0⟩ := A
  dsimp only [Pt.U, Pt.locs, Pt.cells, Pt.slots] at h1 h2 h3 h4 h5 X hn hPc ⊢
  obtain ⟨methY, cY, hmY, hcY, -, hlY, -, -, -, -⟩ := Cond.code_spec hn h2
  obtain ⟨kY, hkY, -⟩ := className_of_methodNamed hn
  have hinitY : kY.init = .initialized := Cond.initialized_spec (findClass_of_methodNamed hn) hkY h3
  have h : At U g.method c below := by rw [hg]; exact X.here
  have hlocals9 : W9 + (maxL + 11) + (headSpec ws rm).room.locals ≤ R.locals := hlocals
  have happ : (headSpec ws rm).appliesLoose y e.platform (U.calling g mk a) = true :=
    Spec.appliesLoose_calling (g := g) h hdg hn hkY hinitY
      (X.room_calling (g := g) (R' := (headSpec ws rm).room) hsize hmY hcY hframes (by rw [hlY]; omega) h4 h5) h1
  obtain ⟨mid, hmid⟩ := h.above
  have hfr : (U.setTop g).frames = (.java g :: mid) ++ below := by rw [State.frames_setTop' g h.top, hmid]; rfl
  obtain ⟨o, s₂, hsteps, -, hend, hq⟩ := Steps.callFree hM p X.admits X.cas X.clock (acts := []) hfr happ hPc trivial
  have hq' : vx_Q Qc XC mc ms free a (U.calling g mk a) o s₂ := hq
  rw [State.frames_setTop' g h.top] at hend
  obtain ⟨g₀, hg0⟩ := Option.isSome_iff_exists.mp h.top
  obtain ⟨r, hr⟩ := State.topJava?_eq_some.mp hg0
  have hr' : (({ U with heap := s₂.heap, slotsUsed := s₂.slotsUsed } : State).setVm s₂.vm).frames = .java g₀ :: r := hr
  rcases hq' with ⟨hqc, L, hfe, hL⟩ | ⟨q, rfl, E, ce, L, hx, hce, hcv, hcl, hW₂, hsm, hL⟩
  · obtain ⟨⟨v, rfl⟩, hW₂, e2, q2, q3, q4, q5, q6⟩ := id hfe
    have e3 : s₂ = ({ (U.calling g mk a).setFrames s₂.frames with heap := s₂.heap, slotsUsed := s₂.slotsUsed } : State).setVm s₂.vm := by
      have : s₂ = ({ s₂ with vm := (U.calling g mk a).vm } : State).setVm s₂.vm := rfl
      rw [e2] at this
      exact this
    obtain ⟨c₂, i₂, len₂, hc₂, hd₂, hf₂⟩ := hend
    have hW' : U.WarmedH s₂.vm := hW₂
    have hcc : c₂ = c := by
      have h1 : s₂.code? g.method = U.code? g.method := by
        rw [State.code?_eq, State.code?_eq, hW'.alike.method?]
      exact Option.some.inj (hc₂.symm.trans (h1.trans h.code))
    subst hcc
    have hlen : len₂ = len := by rw [hdg] at hd₂; cases hd₂; rfl
    subst hlen
    have hs₂ : s₂ = (({ U with heap := s₂.heap, slotsUsed := s₂.slotsUsed } : State).setVm s₂.vm).setTop { g with pc := g.pc + len₂, stack := v.toList ++ g.stack } := by
      refine e3.trans ?_
      rw [hf₂, State.calling_eq h.top, State.setFrames_setFrames, State.setTop_of_frames _ hr', hr]
      rfl
    have hsame : U.sameButNew ({ U with heap := s₂.heap, slotsUsed := s₂.slotsUsed } : State) L mc ms := by
      refine ⟨?_, q2, q3, q4, q5, q6⟩
      obtain ⟨t, ht, -⟩ := State.frames_cons hr
      show ({ U with heap := s₂.heap, slotsUsed := s₂.slotsUsed } : State) = { U.setFrames U.frames with heap := s₂.heap, slotsUsed := s₂.slotsUsed }
      rw [State.setFrames_self ht]
    subst hg
    refine Or.inl ⟨v, ⟨(({ U with heap := s₂.heap, slotsUsed := s₂.slotsUsed } : State).setVm s₂.vm), Ls ++ L, c0 + mc, s0 + ms⟩,
      ⟨X.admits, X.cas, X.clock, X.frames, X.room, X.hears, X.method, X.code, (X.here.setHeapUsed s₂.heap s₂.slotsUsed).setVm hW'.alike, X.tail, State.WarmedH.trans X.warmed hW', X.limits, X.bytes, X.same.trans (hsame.setVm s.vm)⟩,
      ⟨g, mk, s₂, L, rfl, rfl, hqc, rfl, hL, rfl, rfl⟩, ?_⟩
    show Steps p.tables e below _ ((({ U with heap := s₂.heap, slotsUsed := s₂.slotsUsed } : State).setVm s₂.vm).setTop { g with pc := g.pc + len₂, stack := v.toList ++ g.stack })
    rw [← hs₂]
    exact hsteps
  · obtain ⟨e2, q2, q3, q4, q5, q6⟩ := id hsm
    have e3 : s₂ = ({ (U.calling g mk a).setFrames s₂.frames with heap := s₂.heap, slotsUsed := s₂.slotsUsed } : State).setVm s₂.vm := by
      have : s₂ = ({ s₂ with vm := (U.calling g mk a).vm } : State).setVm s₂.vm := rfl
      rw [e2] at this
      exact this
    have hf₂ : s₂.frames = .throwing q :: .java g :: U.frames.tail := hend
    have hW' : U.WarmedH s₂.vm := hW₂
    have hs₂ : s₂ = ((({ U with heap := s₂.heap, slotsUsed := s₂.slotsUsed } : State).setVm s₂.vm).setTop g).pushFrame (.throwing q) := by
      refine e3.trans ?_
      rw [hf₂, State.calling_eq h.top, State.setFrames_setFrames, State.pushFrame, State.frames_setTop _ hr', State.setTop_of_frames _ hr', State.setFrames_setFrames, hr]
      rfl
    have hsame : U.sameButNew ({ U with heap := s₂.heap, slotsUsed := s₂.slotsUsed } : State) L mc ms := by
      refine ⟨?_, q2, q3, q4, q5, q6⟩
      obtain ⟨t, ht, -⟩ := State.frames_cons hr
      show ({ U with heap := s₂.heap, slotsUsed := s₂.slotsUsed } : State) = { U.setFrames U.frames with heap := s₂.heap, slotsUsed := s₂.slotsUsed }
      rw [State.setFrames_self ht]
    subst hg
    refine Or.inr ⟨q, ⟨(({ U with heap := s₂.heap, slotsUsed := s₂.slotsUsed } : State).setVm s₂.vm), Ls ++ L, c0 + mc, s0 + ms⟩,
      ⟨X.admits, X.cas, X.clock, X.frames, X.room, X.hears, X.method, X.code, (X.here.setHeapUsed s₂.heap s₂.slotsUsed).setVm hW'.alike, X.tail, State.WarmedH.trans X.warmed hW', X.limits, X.bytes, X.same.trans (hsame.setVm s.vm)⟩,
      ⟨g, mk, s₂, L, E, ce, rfl, rfl, hx, hce, hcv, hcl, rfl, hL, rfl, rfl⟩, ?_⟩
    show Steps p.tables e below _ (((({ U with heap := s₂.heap, slotsUsed := s₂.slotsUsed } : State).setVm s₂.vm).setTop g).pushFrame (.throwing q))
    rw [← hs₂]
    exact hsteps
end Payer
section Calls
variable {p : Program} {l : Launch} {e : Env} {R : Room} {s : State} {m : MethodId} {args : Array Value} {below : List Frame} {meth : Method} {c : Code} {T : State} {locs : List Loc} {cells slots : Nat}
theorem vx_callV (X : Stand p l e R s m args below meth c T locs cells slots) (hexec : p.tables.exec = Jvm.exec) {own C : String} {index : Nat} {y : MethodName} {bytes : ByteArray} {maxL : Nat} {ret : Option FieldType}
    (hown : s.vm.findClass own = some m.cls) (hlink : (Cond.methodLink own index y).before args s = true) (hinst : (Cond.instanceMethod y).before args s = true) (hsel : (Cond.selects C y y).before args s = true)
    (hcode : (Cond.code y bytes maxL ret).before args s = true) (hy : y.cls ≠ "java/lang/invoke/MethodHandle" ∧ y.cls ≠ "java/lang/invoke/VarHandle")
    {W9 : Nat} {Pre : Pt → Array Value → Prop} {Post : Pt → Array Value → Option Value → Pt → Prop} {PostX : Pt → Array Value → Addr → Pt → Prop} (hK : vx_Back l R p e below s args y 3 W9 Pre Post PostX)
    {b : Addr} {cellB : Cell} (hcell : T.heap[b]? = some cellB) (hobj : cellB.vm.isStatics = false) (hcls : s.vm.findClass C = some cellB.cls)
    {g : JFrame} (hg : g.method = m) (hsize : g.locals.size = c.maxLocals) {argsL rest : List Value} (hlen : ∀ sig, parseMethodDescriptor y.desc = some sig → argsL.length = sig.parameters.length)
    (hstack : g.stack = argsL.reverse ++ .ref b :: rest) (hW : 2 * g.monitorRoom + (rest.map fun v => v.category).sum ≤ W9) (hdg : decode c.code g.pc = .ok (.invokevirtual index, 3))
    (hpre : ∀ vm₁, s.WarmedH vm₁ → Pre ⟨T.setVm vm₁, locs, cells, slots⟩ (Value.ref b :: argsL).toArray) :
    (∃ (v : Option Value) (vm₁ : Vm) (B : Pt), s.WarmedH vm₁ ∧ Stand p l e R s m args below meth c B.U B.locs B.cells B.slots ∧ Post ⟨T.setVm vm₁, locs, cells, slots⟩ (Value.ref b :: argsL).toArray v B ∧
      ∀ target, Steps p.tables e below (B.U.setTop { g with pc := g.pc + 3, stack := v.toList ++ rest }) target → Steps p.tables e below (T.setTop g) target) ∨
    (∃ (q : Addr) (vm₁ : Vm) (B : Pt), s.WarmedH vm₁ ∧ Stand p l e R s m args below meth c B.U B.locs B.cells B.slots ∧ PostX ⟨T.setVm vm₁, locs, cells, slots⟩ (Value.ref b :: argsL).toArray q B ∧
      Steps p.tables e below (T.setTop g) ((B.U.setTop { g with stack := rest }).pushFrame (.throwing q))) := by
  obtain ⟨mk, methM, hnamed, hmethM, hstM, habM⟩ := Cond.instanceMethod_spec hinst
  obtain ⟨methM', cM, hmethM', -, -, -, -, -, -, hsigM⟩ := Cond.code_spec hnamed hcode
  cases hmethM.symm.trans hmethM'
  obtain ⟨c2, r2, m2, q1, q2, q3, q4, kP, hkP, hkPi⟩ := Cond.selects_spec hsel
  cases hcls.symm.trans q1
  cases (State.methodFound?_of_named hnamed hy).symm.trans q2
  cases hnamed.symm.trans q3
  have hselP : selectMethod e.platform s.vm cellB.cls mk = .method mk := by rw [Launch.admits_selectMethod X.admits]; exact q4
  obtain ⟨vm₁, X₁, hstep₁⟩ := X.invokevirtual hexec hown hlink hnamed hmethM hstM hkP hkPi hy (a := b) (cell := cellB) hcell
    (fun z h => by rw [h] at hobj; cases hobj) hselP hmethM habM hkP hkPi (g := g) hg (argsL := argsL) (rest := rest) (hlen _ hsigM) hstack hdg
  rcases hK m meth c ⟨T.setVm vm₁, locs, cells, slots⟩ { g with stack := rest } (.invokevirtual index) mk (Value.ref b :: argsL).toArray X₁ hg hsize hdg hW (X₁.named hnamed) (hpre vm₁ X₁.warmed) with ⟨v, B, X', hpost, hsteps⟩ | ⟨q, B, X', hpost, hsteps⟩
  · exact Or.inl ⟨v, vm₁, B, X₁.warmed, X', hpost, fun target h => hstep₁ _ fun acts => by rw [doInvoke_state]; exact hsteps.trans h⟩
  · exact Or.inr ⟨q, vm₁, B, X₁.warmed, X', hpost, hstep₁ _ fun acts => by rw [doInvoke_state]; exact hsteps⟩
theorem vx_callS (X : Stand p l e R s m args below meth c T locs cells slots) (hexec : p.tables.exec = Jvm.exec) {own : String} {index : Nat} {y : MethodName} {bytes : ByteArray} {maxL : Nat} {ret : Option FieldType}
    (hown : s.vm.findClass own = some m.cls) (hlink : (Cond.methodLink own index y).before args s = true) (hstat : (Cond.static y).before args s = true) (hinit : (Cond.initialized y.cls).before args s = true)
    (hcode : (Cond.code y bytes maxL ret).before args s = true) (hy : y.cls ≠ "java/lang/invoke/MethodHandle" ∧ y.cls ≠ "java/lang/invoke/VarHandle")
    {W9 : Nat} {Pre : Pt → Array Value → Prop} {Post : Pt → Array Value → Option Value → Pt → Prop} {PostX : Pt → Array Value → Addr → Pt → Prop} (hK : vx_Back l R p e below s args y 3 W9 Pre Post PostX)
    {g : JFrame} (hg : g.method = m) (hsize : g.locals.size = c.maxLocals) {argsL rest : List Value} (hlen : ∀ sig, parseMethodDescriptor y.desc = some sig → argsL.length = sig.parameters.length)
    (hstack : g.stack = argsL.reverse ++ rest) (hW : 2 * g.monitorRoom + (rest.map fun v => v.category).sum ≤ W9) (hdg : decode c.code g.pc = .ok (.invokestatic index, 3))
    (hpre : ∀ vm₁, s.WarmedH vm₁ → Pre ⟨T.setVm vm₁, locs, cells, slots⟩ argsL.toArray) :
    (∃ (v : Option Value) (vm₁ : Vm) (B : Pt), s.WarmedH vm₁ ∧ Stand p l e R s m args below meth c B.U B.locs B.cells B.slots ∧ Post ⟨T.setVm vm₁, locs, cells, slots⟩ argsL.toArray v B ∧
      ∀ target, Steps p.tables e below (B.U.setTop { g with pc := g.pc + 3, stack := v.toList ++ rest }) target → Steps p.tables e below (T.setTop g) target) ∨
    (∃ (q : Addr) (vm₁ : Vm) (B : Pt), s.WarmedH vm₁ ∧ Stand p l e R s m args below meth c B.U B.locs B.cells B.slots ∧ PostX ⟨T.setVm vm₁, locs, cells, slots⟩ argsL.toArray q B ∧
      Steps p.tables e below (T.setTop g) ((B.U.setTop { g with stack := rest }).pushFrame (.throwing q))) := by
  obtain ⟨mk, hnamed⟩ := Cond.code_named hcode
  obtain ⟨methM, cM, hmethM, -, -, -, -, -, -, hsigM⟩ := Cond.code_spec hnamed hcode
  have hstatic : methM.isStatic = true := Cond.static_spec hnamed hmethM hstat
  obtain ⟨kP, hkP, -⟩ := className_of_methodNamed hnamed
  have hinitP : kP.init = .initialized := Cond.initialized_spec (findClass_of_methodNamed hnamed) hkP hinit
  obtain ⟨vm₁, X₁, hstep₁⟩ := X.invokestatic hexec hown hlink hnamed hmethM hstatic hkP hinitP hy (g := g) hg (argsL := argsL) (rest := rest) (hlen _ hsigM) hstack hdg
  rcases hK m meth c ⟨T.setVm vm₁, locs, cells, slots⟩ { g with stack := rest } (.invokestatic index) mk argsL.toArray X₁ hg hsize hdg hW (X₁.named hnamed) (hpre vm₁ X₁.warmed) with ⟨v, B, X', hpost, hsteps⟩ | ⟨q, B, X', hpost, hsteps⟩
  · exact Or.inl ⟨v, vm₁, B, X₁.warmed, X', hpost, fun target h => hstep₁ _ fun acts => by rw [doInvoke_state]; exact hsteps.trans h⟩
  · exact Or.inr ⟨q, vm₁, B, X₁.warmed, X', hpost, hstep₁ _ fun acts => by rw [doInvoke_state]; exact hsteps⟩
end Calls
theorem vx_cls {s : State} {T : State} {vm₁ : Vm} {E : String} {k : ClassId} (hW : s.WarmedH vm₁) (h : (T.setVm vm₁).vm.findClass E = some k) : s.vm.findClass E = some k := by
  have h1 : vm₁.findClass E = some k := h
  rw [hW.alike.findClass] at h1
  exact h1
/-- the method's frame g, with q thrown over it -/
def vx_W (p : Program) (l : Launch) (e : Env) (R : Room) (s : State) (m : MethodId) (args : Array Value) (below : List Frame) (meth : Method) (c : Code) (H : Heap) (locs : List Loc) (cells slots : Nat) (Q : State → Prop) (g : JFrame) (q : Addr) : Prop :=
  ∀ T : State, T.heap = H → Stand p l e R s m args below meth c T locs cells slots → ∃ t, Steps p.tables e below ((T.setTop g).pushFrame (.throwing q)) t ∧ Q t
def vx_Run (p : Program) (l : Launch) (e : Env) (R : Room) (s : State) (m : MethodId) (args : Array Value) (below : List Frame) (meth : Method) (c : Code) (H : Heap) (locs : List Loc) (cells slots mc ms : Nat) (g : JFrame) (rest : List Value) (Qa : State → Outcome → State → Prop) (XC : String → State → State → Prop) (free : Addr → Prop) : Prop :=
  ∀ T : State, T.heap = H → Stand p l e R s m args below meth c T locs cells slots →
    (∃ (v : Option Value) (st₀ t T' : State) (L : List Loc), st₀.heap = H ∧ Stand p l e R s m args below meth c T' (locs ++ L) (cells + mc) (slots + ms) ∧ (∀ q ∈ L, free q.base) ∧ T'.heap = t.heap ∧ T'.vm = t.vm ∧ Qa st₀ (.returned v) t ∧
      Goes p e below T g T' { g with pc := g.pc + 3, stack := v.toList ++ rest }) ∨
    (∃ (q : Addr) (st₀ t T' : State) (L : List Loc) (E : String) (ce : Cell), st₀.heap = H ∧ Stand p l e R s m args below meth c T' (locs ++ L) (cells + mc) (slots + ms) ∧ (∀ z ∈ L, free z.base) ∧ T'.heap = t.heap ∧ T'.vm = t.vm ∧ XC E st₀ t ∧ t.heap[q]? = some ce ∧ ce.vm = .none ∧ s.vm.findClass E = some ce.cls ∧
      Steps p.tables e below (T.setTop g) ((T'.setTop { g with stack := rest }).pushFrame (.throwing q)))
def vx_X {S : Type} (px : S → Prop) (B : String → S → State → Prop) (A : Nat → Prop) : String → State → State → Prop := fun E st t => ∃ u : S, px u ∧ B E u t ∧ va_F A st t
section Runs
variable {p : Program} {l : Launch} {e : Env} {R : Room} {s : State} {m : MethodId} {args : Array Value} {below : List Frame} {meth : Method} {c : Code} {H : Heap} {locs : List Loc} {cells slots : Nat}
variable {y : MethodName} {bytes cc : ByteArray} {maxL nL mc ms n index : Nat} {ret : Option FieldType} {ws : List Cond} {rm : Room} {Pc : Array Value → State → Prop} {Qc : Array Value → State → Outcome → State → Prop} {XC : String → State → State → Prop} {free : Addr → Prop} {Ts : List Cond} {own C : String} {b : Addr} {As rest : List Value} {g : JFrame}
theorem vx_callBack (cb : CallB R s args own index y bytes maxL ret ws rm mc ms n) (hM : vx_Met l y ws rm Pc Qc XC mc ms free) (hbl : FrameBlind Pc) : vx_Back l R p e below s args y 3 8 (PreOf R mc ms Pc) (PostOf Qc mc ms free) (vx_Post XC mc ms free) := by
  obtain ⟨hrc, hrs, hfr, hlo, hws, hcw, -, hini, -⟩ := cb
  exact vx_back (bytes := bytes) (maxL := maxL) (ret := ret) hM hbl hrc hrs hfr hlo hws hcw (fun a' U hW => word_at hW (Or.inl (by first | rfl | simp [Cond.onTables, Cond.keeps, Cond.steady])) hini)
theorem vx_runV (S : CallFix p m c cc nL s args Ts own) (hM : vx_Met l y ws rm Pc Qc XC mc ms free) (cw : CallW R s args own C index y bytes maxL ret ws rm mc ms n) (hp : PreV s H C b Pc As)
    (hg : g.method = m) (hn : As.length = n) (hsize : g.locals.size = nL) (hstack : g.stack = As.reverse ++ .ref b :: rest) (hW : 2 * g.monitorRoom + (rest.map fun v => v.category).sum ≤ 8) (hdg : decode cc g.pc = .ok (.invokevirtual index, 3)) (hf : cells + mc ≤ R.cells ∧ slots + ms ≤ R.slots) :
    vx_Run p l e R s m args below meth c H locs cells slots mc ms g rest (Qc (Value.ref b :: As).toArray) XC free := by
  have hK : vx_Back l R p e below s args y 3 8 (PreOf R mc ms Pc) (PostOf Qc mc ms free) (vx_Post XC mc ms free) := vx_callBack cw.1 hM hp.1
  obtain ⟨⟨-, -, -, -, -, -, hcode, -, hy, hlen, hl⟩, hin, hse⟩ := cw
  obtain ⟨hx, hb, hml, ho, -⟩ := S
  obtain ⟨-, ⟨cellB, hcB, hoB, hclB⟩, hPc⟩ := hp
  intro T hT X
  rcases vx_callV X hx (C := C) (bytes := bytes) (maxL := maxL) (ret := ret) ho hl hin hse hcode hy hK (by rw [hT]; exact hcB) hoB hclB hg (hsize.trans hml.symm) (argsL := As) (rest := rest) (fun sig h => hn.trans (hlen sig h)) hstack hW (by rw [hb]; exact hdg)
    (fun vm₁ hW₁ => ⟨hf.1, hf.2, hPc (T.setVm vm₁) hT hW₁⟩) with ⟨v, vm₁, ⟨U', l2, c2, s2⟩, hW₁, X', ⟨g', mk, t, L, e1, e2, hq, h1, hL, h2, h3⟩, st⟩ | ⟨q, vm₁, ⟨U', l2, c2, s2⟩, hW₁, X', ⟨g', mk, t, L, E, ce, e1, e2, hq, hce, hcv, hcl, h1, hL, h2, h3⟩, st⟩
  · dsimp only [Pt.U, Pt.locs, Pt.cells, Pt.slots] at X' e1 e2 h1 h2 h3 st
    subst h1; subst h2; subst h3
    exact Or.inl ⟨v, (T.setVm vm₁).calling g' mk (Value.ref b :: As).toArray, t, U', L, hT, X', hL, e1, e2, hq, st⟩
  · dsimp only [Pt.U, Pt.locs, Pt.cells, Pt.slots] at X' e1 e2 h1 h2 h3 st hcl
    subst h1; subst h2; subst h3
    exact Or.inr ⟨q, (T.setVm vm₁).calling g' mk (Value.ref b :: As).toArray, t, U', L, E, ce, hT, X', hL, e1, e2, hq, hce, hcv, vx_cls hW₁ hcl, st⟩
theorem vx_runS (S : CallFix p m c cc nL s args Ts own) (hM : vx_Met l y ws rm Pc Qc XC mc ms free) (cw : CallB R s args own index y bytes maxL ret ws rm mc ms n ∧ (Cond.static y).before args s = true) (hp : PreS s H Pc As)
    (hg : g.method = m) (hn : As.length = n) (hsize : g.locals.size = nL) (hstack : g.stack = As.reverse ++ rest) (hW : 2 * g.monitorRoom + (rest.map fun v => v.category).sum ≤ 8) (hdg : decode cc g.pc = .ok (.invokestatic index, 3)) (hf : cells + mc ≤ R.cells ∧ slots + ms ≤ R.slots) :
    vx_Run p l e R s m args below meth c H locs cells slots mc ms g rest (Qc As.toArray) XC free := by
  have hK : vx_Back l R p e below s args y 3 8 (PreOf R mc ms Pc) (PostOf Qc mc ms free) (vx_Post XC mc ms free) := vx_callBack cw.1 hM hp.1
  obtain ⟨⟨-, -, -, -, -, -, hcode, hini, hy, hlen, hl⟩, hstt⟩ := cw
  obtain ⟨hx, hb, hml, ho, -⟩ := S
  intro T hT X
  rcases vx_callS X hx (bytes := bytes) (maxL := maxL) (ret := ret) ho hl hstt hini hcode hy hK hg (hsize.trans hml.symm) (argsL := As) (rest := rest) (fun sig h => hn.trans (hlen sig h)) hstack hW (by rw [hb]; exact hdg)
    (fun vm₁ hW₁ => ⟨hf.1, hf.2, hp.2 (T.setVm vm₁) hT hW₁⟩) with ⟨v, vm₁, ⟨U', l2, c2, s2⟩, hW₁, X', ⟨g', mk, t, L, e1, e2, hq, h1, hL, h2, h3⟩, st⟩ | ⟨q, vm₁, ⟨U', l2, c2, s2⟩, hW₁, X', ⟨g', mk, t, L, E, ce, e1, e2, hq, hce, hcv, hcl, h1, hL, h2, h3⟩, st⟩
  · dsimp only [Pt.U, Pt.locs, Pt.cells, Pt.slots] at X' e1 e2 h1 h2 h3 st
    subst h1; subst h2; subst h3
    exact Or.inl ⟨v, (T.setVm vm₁).calling g' mk As.toArray, t, U', L, hT, X', hL, e1, e2, hq, st⟩
  · dsimp only [Pt.U, Pt.locs, Pt.cells, Pt.slots] at X' e1 e2 h1 h2 h3 st hcl
    subst h1; subst h2; subst h3
    exact Or.inr ⟨q, (T.setVm vm₁).calling g' mk As.toArray, t, U', L, E, ce, hT, X', hL, e1, e2, hq, hce, hcv, vx_cls hW₁ hcl, st⟩
end Runs
section Rows
variable {p : Program} {l : Launch} {e : Env} {R : Room} {s : State} {m : MethodId} {args : Array Value} {below : List Frame} {meth : Method} {c : Code} {H : Heap} {locs : List Loc} {cells slots : Nat} {Q : State → Prop}
variable {mc ms : Nat} {free : Addr → Prop} {A0 A1 : Nat → Prop} {H0 : Heap} {a : Array Value} {pc : Nat} {ls : Array Slot} {st0 rest : List Value}
theorem vx_keep {st₀ t T' : State} {L : List Loc} (h0 : st₀.heap = H) (e1 : T'.heap = t.heap) (hS : va_S A0 H0 H locs) (hA : ∀ q, q < H.size → A1 q → A0 q) (hf : ∀ q, free q → A0 q) (hL : ∀ q ∈ L, free q.base) (hF : va_F A1 st₀ t) :
    H.size ≤ T'.heap.size ∧ (∀ q : Nat, q < H.size → ¬ A1 q → T'.heap[q]? = H[q]?) ∧ va_S A0 H0 T'.heap (locs ++ L) := by
  obtain ⟨hz, hk⟩ := hF
  rw [h0] at hz hk
  exact ⟨by rw [e1]; exact hz, fun q h1 h2 => by rw [e1]; exact hk q h1 h2,
    ⟨Nat.le_trans hS.1 (by rw [e1]; exact hz), fun q h1 h2 => by rw [e1, hk q (Nat.lt_of_lt_of_le h1 hS.1) (fun z => h2 (hA q (Nat.lt_of_lt_of_le h1 hS.1) z))]; exact hS.2.1 q h1 h2, fun q hq => by
      rcases List.mem_append.mp hq with h | h
      · exact hS.2.2 q h
      · exact hf _ (hL q h)⟩⟩
theorem vx_calli {S SX : Type} {post : Int32 → S → Prop} {px : SX → Prop} {B : S → State → Prop} {BX : String → SX → State → Prop} {AX : Nat → Prop} (hr : vx_Run p l e R s m args below meth c H locs cells slots mc ms (F0 m pc ls st0) rest (va_Qi post B A1 a) (vx_X px BX AX) free) (hS : va_S A0 H0 H locs) (hA : ∀ q, q < H.size → A1 q → A0 q) (hf : ∀ q, free q → A0 q) (hAX : ∀ q, q < H.size → AX q → A0 q)
    (kx : ∀ (E : String) (ce : Cell) (q9 : Addr) (u : SX) (t : State) (H1 : Heap) (locs1 : List Loc), t.heap = H1 → s.vm.Alike t.vm → px u → BX E u t → H.size ≤ H1.size → (∀ q : Nat, q < H.size → ¬ AX q → H1[q]? = H[q]?) → va_S A0 H0 H1 locs1 → H1[q9]? = some ce → ce.vm = .none → s.vm.findClass E = some ce.cls → vx_W p l e R s m args below meth c H1 locs1 (cells + mc) (slots + ms) Q (F0 m pc ls rest) q9)
    (kk : ∀ (r : Int32) (u : S) (t : State) (H1 : Heap) (locs1 : List Loc), t.heap = H1 → s.vm.Alike t.vm → post r u → B u t → H.size ≤ H1.size → (∀ q : Nat, q < H.size → ¬ A1 q → H1[q]? = H[q]?) → va_S A0 H0 H1 locs1 → W p l e R s m args below meth c H1 locs1 (cells + mc) (slots + ms) Q (F0 m (pc + 3) ls (.int r :: rest))) : W p l e R s m args below meth c H locs cells slots Q (F0 m pc ls st0) := by
  intro T hT X
  rcases hr T hT X with ⟨v, st₀, t, T', L, h0, X', hL, e1, e2, ⟨⟨r, u, hv, hp, hb⟩, hF⟩, st⟩ | ⟨q, st₀, t, T', L, E, ce, h0, X', hL, e1, e2, ⟨u, hp, hb, hF⟩, hce, hcv, hcl, st⟩
  · cases hv
    obtain ⟨k1, k2, k3⟩ := vx_keep h0 e1 hS hA hf hL hF
    obtain ⟨t2, a1, b1⟩ := kk r u t T'.heap (locs ++ L) e1.symm (by rw [← e2]; exact X'.warmed.alike) hp hb k1 k2 k3 T' rfl X'
    exact ⟨t2, st t2 a1, b1⟩
  · obtain ⟨k1, k2, k3⟩ := vx_keep h0 e1 hS hAX hf hL hF
    obtain ⟨t2, a1, b1⟩ := kx E ce q u t T'.heap (locs ++ L) e1.symm (by rw [← e2]; exact X'.warmed.alike) hp hb k1 k2 k3 (by rw [e1]; exact hce) hcv hcl T' rfl X'
    exact ⟨t2, st.trans a1, b1⟩
theorem vx_calll {S SX : Type} {post : Int64 → S → Prop} {px : SX → Prop} {B : S → State → Prop} {BX : String → SX → State → Prop} {AX : Nat → Prop} (hr : vx_Run p l e R s m args below meth c H locs cells slots mc ms (F0 m pc ls st0) rest (va_Ql post B A1 a) (vx_X px BX AX) free) (hS : va_S A0 H0 H locs) (hA : ∀ q, q < H.size → A1 q → A0 q) (hf : ∀ q, free q → A0 q) (hAX : ∀ q, q < H.size → AX q → A0 q)
    (kx : ∀ (E : String) (ce : Cell) (q9 : Addr) (u : SX) (t : State) (H1 : Heap) (locs1 : List Loc), t.heap = H1 → s.vm.Alike t.vm → px u → BX E u t → H.size ≤ H1.size → (∀ q : Nat, q < H.size → ¬ AX q → H1[q]? = H[q]?) → va_S A0 H0 H1 locs1 → H1[q9]? = some ce → ce.vm = .none → s.vm.findClass E = some ce.cls → vx_W p l e R s m args below meth c H1 locs1 (cells + mc) (slots + ms) Q (F0 m pc ls rest) q9)
    (kk : ∀ (r : Int64) (u : S) (t : State) (H1 : Heap) (locs1 : List Loc), t.heap = H1 → s.vm.Alike t.vm → post r u → B u t → H.size ≤ H1.size → (∀ q : Nat, q < H.size → ¬ A1 q → H1[q]? = H[q]?) → va_S A0 H0 H1 locs1 → W p l e R s m args below meth c H1 locs1 (cells + mc) (slots + ms) Q (F0 m (pc + 3) ls (.long r :: rest))) : W p l e R s m args below meth c H locs cells slots Q (F0 m pc ls st0) := by
  intro T hT X
  rcases hr T hT X with ⟨v, st₀, t, T', L, h0, X', hL, e1, e2, ⟨⟨r, u, hv, hp, hb⟩, hF⟩, st⟩ | ⟨q, st₀, t, T', L, E, ce, h0, X', hL, e1, e2, ⟨u, hp, hb, hF⟩, hce, hcv, hcl, st⟩
  · cases hv
    obtain ⟨k1, k2, k3⟩ := vx_keep h0 e1 hS hA hf hL hF
    obtain ⟨t2, a1, b1⟩ := kk r u t T'.heap (locs ++ L) e1.symm (by rw [← e2]; exact X'.warmed.alike) hp hb k1 k2 k3 T' rfl X'
    exact ⟨t2, st t2 a1, b1⟩
  · obtain ⟨k1, k2, k3⟩ := vx_keep h0 e1 hS hAX hf hL hF
    obtain ⟨t2, a1, b1⟩ := kx E ce q u t T'.heap (locs ++ L) e1.symm (by rw [← e2]; exact X'.warmed.alike) hp hb k1 k2 k3 (by rw [e1]; exact hce) hcv hcl T' rfl X'
    exact ⟨t2, st.trans a1, b1⟩
theorem vx_callf {S SX : Type} {post : UInt32 → S → Prop} {px : SX → Prop} {B : S → State → Prop} {BX : String → SX → State → Prop} {AX : Nat → Prop} (hr : vx_Run p l e R s m args below meth c H locs cells slots mc ms (F0 m pc ls st0) rest (va_Qf post B A1 a) (vx_X px BX AX) free) (hS : va_S A0 H0 H locs) (hA : ∀ q, q < H.size → A1 q → A0 q) (hf : ∀ q, free q → A0 q) (hAX : ∀ q, q < H.size → AX q → A0 q)
    (kx : ∀ (E : String) (ce : Cell) (q9 : Addr) (u : SX) (t : State) (H1 : Heap) (locs1 : List Loc), t.heap = H1 → s.vm.Alike t.vm → px u → BX E u t → H.size ≤ H1.size → (∀ q : Nat, q < H.size → ¬ AX q → H1[q]? = H[q]?) → va_S A0 H0 H1 locs1 → H1[q9]? = some ce → ce.vm = .none → s.vm.findClass E = some ce.cls → vx_W p l e R s m args below meth c H1 locs1 (cells + mc) (slots + ms) Q (F0 m pc ls rest) q9)
    (kk : ∀ (r : UInt32) (u : S) (t : State) (H1 : Heap) (locs1 : List Loc), t.heap = H1 → s.vm.Alike t.vm → post r u → B u t → H.size ≤ H1.size → (∀ q : Nat, q < H.size → ¬ A1 q → H1[q]? = H[q]?) → va_S A0 H0 H1 locs1 → W p l e R s m args below meth c H1 locs1 (cells + mc) (slots + ms) Q (F0 m (pc + 3) ls (.float r :: rest))) : W p l e R s m args below meth c H locs cells slots Q (F0 m pc ls st0) := by
  intro T hT X
  rcases hr T hT X with ⟨v, st₀, t, T', L, h0, X', hL, e1, e2, ⟨⟨r, u, hv, hp, hb⟩, hF⟩, st⟩ | ⟨q, st₀, t, T', L, E, ce, h0, X', hL, e1, e2, ⟨u, hp, hb, hF⟩, hce, hcv, hcl, st⟩
  · cases hv
    obtain ⟨k1, k2, k3⟩ := vx_keep h0 e1 hS hA hf hL hF
    obtain ⟨t2, a1, b1⟩ := kk r u t T'.heap (locs ++ L) e1.symm (by rw [← e2]; exact X'.warmed.alike) hp hb k1 k2 k3 T' rfl X'
    exact ⟨t2, st t2 a1, b1⟩
  · obtain ⟨k1, k2, k3⟩ := vx_keep h0 e1 hS hAX hf hL hF
    obtain ⟨t2, a1, b1⟩ := kx E ce q u t T'.heap (locs ++ L) e1.symm (by rw [← e2]; exact X'.warmed.alike) hp hb k1 k2 k3 (by rw [e1]; exact hce) hcv hcl T' rfl X'
    exact ⟨t2, st.trans a1, b1⟩
theorem vx_calld {S SX : Type} {post : UInt64 → S → Prop} {px : SX → Prop} {B : S → State → Prop} {BX : String → SX → State → Prop} {AX : Nat → Prop} (hr : vx_Run p l e R s m args below meth c H locs cells slots mc ms (F0 m pc ls st0) rest (va_Qd post B A1 a) (vx_X px BX AX) free) (hS : va_S A0 H0 H locs) (hA : ∀ q, q < H.size → A1 q → A0 q) (hf : ∀ q, free q → A0 q) (hAX : ∀ q, q < H.size → AX q → A0 q)
    (kx : ∀ (E : String) (ce : Cell) (q9 : Addr) (u : SX) (t : State) (H1 : Heap) (locs1 : List Loc), t.heap = H1 → s.vm.Alike t.vm → px u → BX E u t → H.size ≤ H1.size → (∀ q : Nat, q < H.size → ¬ AX q → H1[q]? = H[q]?) → va_S A0 H0 H1 locs1 → H1[q9]? = some ce → ce.vm = .none → s.vm.findClass E = some ce.cls → vx_W p l e R s m args below meth c H1 locs1 (cells + mc) (slots + ms) Q (F0 m pc ls rest) q9)
    (kk : ∀ (r : UInt64) (u : S) (t : State) (H1 : Heap) (locs1 : List Loc), t.heap = H1 → s.vm.Alike t.vm → post r u → B u t → H.size ≤ H1.size → (∀ q : Nat, q < H.size → ¬ A1 q → H1[q]? = H[q]?) → va_S A0 H0 H1 locs1 → W p l e R s m args below meth c H1 locs1 (cells + mc) (slots + ms) Q (F0 m (pc + 3) ls (.double r :: rest))) : W p l e R s m args below meth c H locs cells slots Q (F0 m pc ls st0) := by
  intro T hT X
  rcases hr T hT X with ⟨v, st₀, t, T', L, h0, X', hL, e1, e2, ⟨⟨r, u, hv, hp, hb⟩, hF⟩, st⟩ | ⟨q, st₀, t, T', L, E, ce, h0, X', hL, e1, e2, ⟨u, hp, hb, hF⟩, hce, hcv, hcl, st⟩
  · cases hv
    obtain ⟨k1, k2, k3⟩ := vx_keep h0 e1 hS hA hf hL hF
    obtain ⟨t2, a1, b1⟩ := kk r u t T'.heap (locs ++ L) e1.symm (by rw [← e2]; exact X'.warmed.alike) hp hb k1 k2 k3 T' rfl X'
    exact ⟨t2, st t2 a1, b1⟩
  · obtain ⟨k1, k2, k3⟩ := vx_keep h0 e1 hS hAX hf hL hF
    obtain ⟨t2, a1, b1⟩ := kx E ce q u t T'.heap (locs ++ L) e1.symm (by rw [← e2]; exact X'.warmed.alike) hp hb k1 k2 k3 (by rw [e1]; exact hce) hcv hcl T' rfl X'
    exact ⟨t2, st.trans a1, b1⟩
theorem vx_callv {S SX : Type} {post : S → Prop} {px : SX → Prop} {B : S → State → Prop} {BX : String → SX → State → Prop} {AX : Nat → Prop} (hr : vx_Run p l e R s m args below meth c H locs cells slots mc ms (F0 m pc ls st0) rest (va_Qv post B A1 a) (vx_X px BX AX) free) (hS : va_S A0 H0 H locs) (hA : ∀ q, q < H.size → A1 q → A0 q) (hf : ∀ q, free q → A0 q) (hAX : ∀ q, q < H.size → AX q → A0 q)
    (kx : ∀ (E : String) (ce : Cell) (q9 : Addr) (u : SX) (t : State) (H1 : Heap) (locs1 : List Loc), t.heap = H1 → s.vm.Alike t.vm → px u → BX E u t → H.size ≤ H1.size → (∀ q : Nat, q < H.size → ¬ AX q → H1[q]? = H[q]?) → va_S A0 H0 H1 locs1 → H1[q9]? = some ce → ce.vm = .none → s.vm.findClass E = some ce.cls → vx_W p l e R s m args below meth c H1 locs1 (cells + mc) (slots + ms) Q (F0 m pc ls rest) q9)
    (kk : ∀ (u : S) (t : State) (H1 : Heap) (locs1 : List Loc), t.heap = H1 → s.vm.Alike t.vm → post u → B u t → H.size ≤ H1.size → (∀ q : Nat, q < H.size → ¬ A1 q → H1[q]? = H[q]?) → va_S A0 H0 H1 locs1 → W p l e R s m args below meth c H1 locs1 (cells + mc) (slots + ms) Q (F0 m (pc + 3) ls (rest))) : W p l e R s m args below meth c H locs cells slots Q (F0 m pc ls st0) := by
  intro T hT X
  rcases hr T hT X with ⟨v, st₀, t, T', L, h0, X', hL, e1, e2, ⟨⟨u, hv, hp, hb⟩, hF⟩, st⟩ | ⟨q, st₀, t, T', L, E, ce, h0, X', hL, e1, e2, ⟨u, hp, hb, hF⟩, hce, hcv, hcl, st⟩
  · cases hv
    obtain ⟨k1, k2, k3⟩ := vx_keep h0 e1 hS hA hf hL hF
    obtain ⟨t2, a1, b1⟩ := kk u t T'.heap (locs ++ L) e1.symm (by rw [← e2]; exact X'.warmed.alike) hp hb k1 k2 k3 T' rfl X'
    exact ⟨t2, st t2 a1, b1⟩
  · obtain ⟨k1, k2, k3⟩ := vx_keep h0 e1 hS hAX hf hL hF
    obtain ⟨t2, a1, b1⟩ := kx E ce q u t T'.heap (locs ++ L) e1.symm (by rw [← e2]; exact X'.warmed.alike) hp hb k1 k2 k3 (by rw [e1]; exact hce) hcv hcl T' rfl X'
    exact ⟨t2, st.trans a1, b1⟩
/-- caught by the row x of this method's table; the rows ahead don't take it -/
theorem vx_catch {own name : String} {E : String} {ce : Cell} {q : Addr} (hown : s.vm.findClass own = some m.cls) (pre : List ExceptionTableEntry) (x : ExceptionTableEntry) (suf : List ExceptionTableEntry) (hsplit : c.exceptionTable.toList = pre ++ x :: suf)
    (hpass : ∀ z ∈ pre, covers z pc = false ∨ (z.catchType ≠ 0 ∧ ∃ nm : String, (Cond.classLink own z.catchType nm).before args s = true ∧ va_Nc E nm s)) (hx : covers x pc = true) (h0 : x.catchType ≠ 0)
    (hlink : (Cond.classLink own x.catchType name).before args s = true) (hcast : (Cond.castable E name).before args s = true) (hcell : H[q]? = some ce) (hv : ce.vm = .none) (hcl : s.vm.findClass E = some ce.cls)
    (kk : W p l e R s m args below meth c H locs cells slots Q (F0 m x.handlerPc ls [.ref q])) : vx_W p l e R s m args below meth c H locs cells slots Q (F0 m pc ls rest) q := by
  intro T hT X
  have hpl : e.platform.magicAccessors = ({} : Platform).magicAccessors := by rw [X.admits.platform]
  obtain ⟨c3, c4, hc3, hc4, hasg⟩ := Cond.castable_spec hcast
  cases Option.some.inj (hc3.symm.trans hcl)
  obtain ⟨c5, hc5, hcl5⟩ := Cond.classLink_spec hown hlink e.platform hpl
  cases Option.some.inj (hc4.symm.trans hc5)
  obtain ⟨vm', X', st⟩ := X.thenCaughtThrough q (g := F0 m pc ls rest) rfl (Steps.refl _) (by rw [hT]; exact hcell) (by rw [hv]; rfl) (by obtain ⟨k9, h9, -⟩ := Vm.findClass_spec hcl; exact ⟨k9, h9⟩) pre x suf hsplit
    (fun z hz => by
      rcases hpass z hz with h | ⟨hz0, nm, hl1, hn1⟩
      · exact Or.inl h
      · obtain ⟨c6, hc6, hcl6⟩ := Cond.classLink_spec hown hl1 e.platform hpl
        obtain ⟨a8, b8, h1, h2, h3⟩ := hn1
        cases Option.some.inj (h1.symm.trans hcl)
        cases Option.some.inj (h2.symm.trans hc6)
        exact Or.inr ⟨hz0, _, hcl6, h3⟩) hx (Or.inr ⟨h0, c4, hcl5, hasg⟩)
  obtain ⟨t, a1, b1⟩ := kk (T.setVm vm') hT X'
  exact ⟨t, st.trans a1, b1⟩
end Rows
section Ends
variable {p : Program} {l : Launch} {e : Env} {R : Room} {s : State} {m : MethodId} {args : Array Value} {below : List Frame} {meth : Method} {c : Code} {H : Heap} {locs : List Loc} {cells slots : Nat} {Q : State → Prop}
variable {mc ms : Nat} {free : Addr → Prop} {A0 A1 : Nat → Prop} {H0 : Heap} {a : Array Value} {ls : Array Slot} {st0 rest : List Value}
variable {Qc : Array Value → State → Outcome → State → Prop} {XC : String → State → State → Prop}
/-- what a body that may throw owes at its end -/
def vx_MQ (below : List Frame) (Qc : Array Value → State → Outcome → State → Prop) (XC : String → State → State → Prop) (a : Array Value) (s : State) (mc ms : Nat) (free : Addr → Prop) : State → Prop := fun t =>
  ∃ o, t.status = .running ∧ Ended t below o ∧ vx_Q Qc XC mc ms free a s o t
theorem vx_ret {g : JFrame} {mc ms : Nat} (k : W p l e R s m args below meth c H locs cells slots (MQ below Qc args s mc ms free) g) : W p l e R s m args below meth c H locs cells slots (vx_MQ below Qc XC args s mc ms free) g := by
  intro T hT X
  obtain ⟨t, a1, o, b1, b2, b3, b4⟩ := k T hT X
  exact ⟨t, a1, o, b1, b2, Or.inl ⟨b3, b4⟩⟩
/-- not caught here: it goes on to the caller -/
theorem vx_widen {g : JFrame} {q : Addr} {k n : Nat} (h1 : cells ≤ k) (h2 : slots ≤ n) (kk : vx_W p l e R s m args below meth c H locs k n Q g q) : vx_W p l e R s m args below meth c H locs cells slots Q g q := fun T hT X => kk T hT (stand_widen X h1 h2)
theorem vx_out {pc : Nat} {E : String} {ce : Cell} {q : Addr} {mc ms : Nat} (hout : ∀ x ∈ c.exceptionTable.toList, covers x pc = false) (hlocks : meth.locks = false) (hcell : H[q]? = some ce) (hv : ce.vm = .none) (hcl : s.vm.findClass E = some ce.cls)
    (hx : ∀ t : State, t.heap = H → s.vm.Alike t.vm → XC E s t) (hf : ∀ z ∈ locs, free z.base) (hc : cells ≤ mc) (hs : slots ≤ ms) :
    vx_W p l e R s m args below meth c H locs cells slots (vx_MQ below Qc XC args s mc ms free) (F0 m pc ls rest) q := by
  intro T hT X
  obtain ⟨st1, hrun, hend, hW, hsm⟩ := X.leaveThrown q (g := F0 m pc ls rest) rfl rfl rfl hout hlocks
  have hcell9 : (T.setFrames (.throwing q :: below)).heap[q]? = some ce := by
    show T.heap[q]? = some ce
    rw [hT]; exact hcell
  exact ⟨_, st1, .threw q, hrun, hend, Or.inr ⟨q, rfl, E, ce, locs, hx _ hT hW.alike, hcell9, hv, hcl, hW, hsm.mono hc hs, hf⟩⟩
theorem vx_frame {U : State} {k n : Nat} (h : s.sameButNew ({ U with vm := s.vm } : State) locs k n) : s.heap.size ≤ U.heap.size ∧ ∀ q : Nat, q < s.heap.size → (∀ z ∈ locs, z.base ≠ q) → U.heap[q]? = s.heap[q]? := by
  obtain ⟨-, h2, -, -, -, h6⟩ := h
  refine ⟨h2, fun q hq hz => ?_⟩
  obtain ⟨c9, e1, e2, e3, e4⟩ := h6 q _ (Array.getElem?_eq_getElem hq)
  have hs : c9.slots = (s.heap[q]).slots := Array.ext_getElem? fun i => e4 i fun hm => hz _ hm rfl
  have h9 : c9 = s.heap[q] := by
    rw [hs] at e2
    exact e2
  have e5 : U.heap[q]? = some c9 := e1
  rw [e5, h9, Array.getElem?_eq_getElem hq]
/-- the words of a throw but the four that speak of the heap -/
def vx_no (w : Cond) : Bool := decide (w ≠ .isRef (.static Bundle.tN "UNASSIGNED_STACK" Bundle.steD)) && decide (w ≠ .isRef (.static Bundle.tN "SUPPRESSED_SENTINEL" Bundle.listD)) && decide (w ≠ .laysStatic Bundle.tN "UNASSIGNED_STACK" Bundle.steD) && decide (w ≠ .laysStatic Bundle.tN "SUPPRESSED_SENTINEL" Bundle.listD)
def vx_at0 (own : String) (ic : Nat) (X : String) (names : List String) : List Cond := (Bundle.ownAtoms0 own ic X names).filter vx_no
def vx_atS (own : String) (ic : Nat) (X : String) (names : List String) : List Cond := (Bundle.ownAtoms own ic X names).filter vx_no
/-- a word that the tables alone decide, or a good one -/
def vx_ot (w : Cond) : Bool := w.onTables || goodWord w
theorem vx_ot_at {args a' : Array Value} {s U : State} {w : Cond} (hW : s.WarmedH U.vm) (hvm : s.vm = U.vm) (hg : vx_ot w = true) (h : w.before args s = true) : w.before a' U = true := by
  simp only [vx_ot, Bool.or_eq_true] at hg
  rcases hg with hg | hg
  · exact va_tabs hg hvm h
  · exact word_at hW (good_of_word hg) h
/-- a list's words: the good ones out of the method's own list, the others by premises of their own -/
theorem vx_hat {args : Array Value} {s : State} {L B : List Cond} (h1 : ∀ w ∈ L.filter goodWord, w.before args s = true) (h2 : ∀ w ∈ L.filter (fun w => !goodWord w), w ∈ B) (h3 : ∀ w ∈ B, w.before args s = true) : ∀ w ∈ L, w.before args s = true := by
  intro w hw
  by_cases g : goodWord w = true
  · exact h1 w (List.mem_filter.mpr ⟨hw, g⟩)
  · refine h3 w (h2 w (List.mem_filter.mpr ⟨hw, ?_⟩))
    show (!goodWord w) = true
    cases hgw : goodWord w
    · rfl
    · exact absurd hgw g
theorem vx_c {args : Array Value} {s : State} {w : Cond} {B : List Cond} (h : w.before args s = true) (t : ∀ w ∈ B, w.before args s = true) : ∀ w' ∈ w :: B, w'.before args s = true := fun w' h' => (List.mem_cons.mp h').elim (fun e => by rw [e]; exact h) (t w')
theorem vx_n {args : Array Value} {s : State} : ∀ w ∈ ([] : List Cond), w.before args s = true := fun _ h => nomatch h
theorem vx_own {args : Array Value} {s : State} {L : List Cond} (h1 : ∀ w ∈ L.filter vx_no, w.before args s = true)
    (hU : (Cond.isRef (.static Bundle.tN "UNASSIGNED_STACK" Bundle.steD)).before args s = true) (hN : (Cond.isRef (.static Bundle.tN "SUPPRESSED_SENTINEL" Bundle.listD)).before args s = true)
    (lU : (Cond.laysStatic Bundle.tN "UNASSIGNED_STACK" Bundle.steD).before args s = true) (lN : (Cond.laysStatic Bundle.tN "SUPPRESSED_SENTINEL" Bundle.listD).before args s = true) : ∀ w ∈ L, w.before args s = true := by
  intro w hw
  by_cases e1 : w = .isRef (.static Bundle.tN "UNASSIGNED_STACK" Bundle.steD)
  · rw [e1]; exact hU
  · by_cases e2 : w = .isRef (.static Bundle.tN "SUPPRESSED_SENTINEL" Bundle.listD)
    · rw [e2]; exact hN
    · by_cases e3 : w = .laysStatic Bundle.tN "UNASSIGNED_STACK" Bundle.steD
      · rw [e3]; exact lU
      · by_cases e4 : w = .laysStatic Bundle.tN "SUPPRESSED_SENTINEL" Bundle.listD
        · rw [e4]; exact lN
        · exact h1 w (List.mem_filter.mpr ⟨hw, by unfold vx_no; rw [decide_eq_true e1, decide_eq_true e2, decide_eq_true e3, decide_eq_true e4]; rfl⟩)
/-- where a static field lies, its class's statics cell in H -/
def vx_L (C n d : String) (A : Nat → Prop) (U : State) (H : Heap) : Prop := ∃ (c : ClassId) (k : Class) (i : Nat) (f : Field) (a : Nat) (cell : Cell), U.vm.findClass C = some c ∧ U.fieldFound? C n d = some (c, k, i, f) ∧ f.isStatic = true ∧ k.statics = some a ∧ H[a]? = some cell ∧ cell.vm.isStatics = true ∧ cell.cls = c ∧ f.slot < cell.slots.size ∧ k.staticTypes[f.slot]? = some f.type ∧ ¬ A a
theorem vx_L.moved {C n d : String} {A : Nat → Prop} {u U : State} {H : Heap} (hvm : u.vm.Alike U.vm) (h : vx_L C n d A u H) : vx_L C n d A U H := by
  obtain ⟨c, k, i, f, a, cell, h1, h2, h3, h4, h5, h6, h7, h8, h9, h10⟩ := h
  obtain ⟨k', hi', he⟩ := State.fieldFound?_setVm hvm h2
  exact ⟨c, k', i, f, a, cell, by rw [hvm.findClass]; exact h1, hi', h3, by rw [he]; exact h4, h5, h6, h7, h8, by rw [he]; exact h9, h10⟩
theorem vx_L.kept {C n d : String} {A : Nat → Prop} {U : State} {H H1 : Heap} (h : vx_L C n d A U H) (hq : ∀ a : Nat, a < H.size → ¬ A a → H1[a]? = H[a]?) : vx_L C n d A U H1 := by
  obtain ⟨c, k, i, f, a, cell, h1, h2, h3, h4, h5, h6, h7, h8, h9, h10⟩ := h
  exact ⟨c, k, i, f, a, cell, h1, h2, h3, h4, by rw [hq a (Array.getElem?_eq_some_iff.mp h5).1 h10]; exact h5, h6, h7, h8, h9, h10⟩
theorem vx_L.narrow {C n d : String} {A B : Nat → Prop} {U : State} {H : Heap} (h : vx_L C n d A U H) (hAB : ∀ q, B q → A q) : vx_L C n d B U H := by
  obtain ⟨c, k, i, f, a, cell, h1, h2, h3, h4, h5, h6, h7, h8, h9, h10⟩ := h
  exact ⟨c, k, i, f, a, cell, h1, h2, h3, h4, h5, h6, h7, h8, h9, fun z => h10 (hAB _ z)⟩
theorem vx_L.word {C n d : String} {A : Nat → Prop} {s : State} {args : Array Value} (h : vx_L C n d A s s.heap) : (Cond.laysStatic C n d).before args s = true := by
  obtain ⟨c, k, i, f, a, cell, h1, h2, h3, h4, h5, h6, h7, h8, h9, -⟩ := h
  show (Cond.laysStatic C n d).holds args s none s [] = true
  exact Cond.laysStatic_of h1 h2 h3 h4 h5 h6 h7 h8 h9
/-- .. and what it holds: null or some reference -/
def vx_Zq (C n d : String) (A : Nat → Prop) (U : State) (H : Heap) : Prop := va_Zq C n d A U H ∧ vx_L C n d A U H
theorem vx_Zq.moved {C n d : String} {A : Nat → Prop} {u U : State} {H : Heap} (hvm : u.vm.Alike U.vm) (h : vx_Zq C n d A u H) : vx_Zq C n d A U H := ⟨va_Zq.moved hvm h.1, vx_L.moved hvm h.2⟩
theorem vx_Zq.kept {C n d : String} {A : Nat → Prop} {U : State} {H H1 : Heap} (h : vx_Zq C n d A U H) (hq : ∀ a : Nat, a < H.size → ¬ A a → H1[a]? = H[a]?) : vx_Zq C n d A U H1 := ⟨va_Zq.kept h.1 hq, vx_L.kept h.2 hq⟩
theorem vx_Zq.narrow {C n d : String} {A B : Nat → Prop} {U : State} {H : Heap} (h : vx_Zq C n d A U H) (hAB : ∀ q, B q → A q) : vx_Zq C n d B U H := ⟨va_Zq.narrow h.1 hAB, vx_L.narrow h.2 hAB⟩
theorem vx_Zqof {args : Array Value} {s : State} {C n d : String} {A : Nat → Prop} (hl : (Cond.laysStatic C n d).before args s = true) (hini : (Cond.initialized C).before args s = true) (h : (Cond.isRef (.static C n d)).before args s = true) (hA : ∀ a : Nat, a < s.heap.size → ¬ A a) : vx_Zq C n d A s s.heap := by
  refine ⟨va_Zqof hl hini h hA, ?_⟩
  obtain ⟨c, k, i, f, a, cell, h1, h2, h3, h4, h5, h6, h7, h8, h9⟩ := Cond.laysStatic_spec hl
  exact ⟨c, k, i, f, a, cell, h1, h2, h3, h4, h5, h6, h7, h8, h9, hA a (Array.getElem?_eq_some_iff.mp h5).1⟩
theorem vx_isRef {C n d : String} {v : Value} {A : Nat → Prop} {s : State} {args : Array Value} (h : va_Z C n d v A s s.heap) (hv : v.isRef = true) : (Cond.isRef (.static C n d)).before args s = true := by
  obtain ⟨cf, kf, fi, f, a, cell, h1, h2, h3, h4, h5, h6, h7, -⟩ := h
  have he : (Term.static C n d).eval args s none [] s = some v := by
    simp [Term.eval, State.fieldNamed?, h1, h2, h4, h5, h6, h7]
  simp only [Cond.before, Cond.holds, Cond.value, he]
  cases v <;> simp_all [Value.isRef]
theorem vx_isRefq {C n d : String} {A : Nat → Prop} {s : State} {args : Array Value} (h : va_Zq C n d A s s.heap) : (Cond.isRef (.static C n d)).before args s = true := by
  rcases h with h | ⟨t, h⟩
  · exact vx_isRef h rfl
  · exact vx_isRef h rfl
/-- the same frame, seen from here: as if the method were called anew in this heap -/
theorem vx_rebase {T : State} (X : Stand p l e R s m args below meth c T locs cells slots) {R' : Room} (hf : R'.frames ≤ R.frames) (hl : R'.locals ≤ R.locals) (hc : cells + R'.cells ≤ R.cells) (hs : slots + R'.slots ≤ R.slots) :
    Stand p l e R' ((T.setVm s.vm).setFrames (.invoking m args :: below)) m args below meth c T [] 0 0 := by
  have htop : (T.setVm s.vm).topJava?.isSome := X.here.top
  have hF : ((T.setVm s.vm).setFrames (.invoking m args :: below)).frames = .invoking m args :: below := State.frames_setFrames _ (State.cur_lt_of_top htop)
  obtain ⟨g₀, hg0⟩ := Option.isSome_iff_exists.mp htop
  obtain ⟨r, hr⟩ := State.topJava?_eq_some.mp hg0
  have hl9 : e.platform.stackLimits (T.setVm s.vm).me = e.platform.stackLimits s.me := X.limits
  have hb9 : (T.setVm s.vm).me.stackBytes = s.me.stackBytes := X.bytes
  refine ⟨X.admits, X.cas, X.clock, hF, ?_, X.hears, X.method, X.code, X.here, X.tail, X.warmed, ?_, ?_, ?_⟩
  · have h := X.room
    have hU : ((T.setVm s.vm).setFrames (.invoking m args :: below)).localsInUse = s.localsInUse := by
      rw [State.localsInUse_invoking hF (meth := meth) (c := c) X.method X.code, State.localsInUse_invoking X.frames X.method X.code]
    simp only [State.hasRoom, Bool.and_eq_true, decide_eq_true_eq] at h ⊢
    obtain ⟨⟨⟨⟨h1, h2, h3, h4, h5, h6⟩, h7⟩, h8⟩, h9⟩ := h
    rw [X.frames, List.length_cons] at h2 h3
    have q1 := X.heapSize
    have q2 := X.used
    simp only [hF, hU, List.length_cons, State.stackLimits_setFrames, State.stackBytes_setFrames, hl9, hb9]
    refine ⟨⟨⟨⟨by omega, by omega, by omega, by omega, by omega, h6⟩, ?_⟩, ?_⟩, X.book⟩
    · show T.heap.size + R'.cells ≤ e.platform.maxCells
      omega
    · show T.slotsUsed + R'.slots ≤ e.platform.maxSlots
      omega
  · rw [State.stackLimits_setFrames]; rfl
  · rw [State.stackBytes_setFrames]; rfl
  · refine ⟨?_, Nat.le_refl _, Nat.le_refl _, ?_, ?_, fun a c9 h9 => ⟨c9, h9, rfl, rfl, fun _ _ => rfl⟩⟩
    · obtain ⟨t, ht, -⟩ := State.frames_cons hr
      show T.setVm s.vm = { ((T.setVm s.vm).setFrames (.invoking m args :: below)).setFrames (T.setVm s.vm).frames with heap := T.heap, slotsUsed := T.slotsUsed }
      rw [State.setFrames_setFrames, State.setFrames_self ht]
      rfl
    · show T.slotsUsed = T.slotsUsed + ((T.heap.toList.drop T.heap.size).map (·.slots.size)).sum
      rw [List.drop_eq_nil_of_le (Nat.le_of_eq Array.length_toList)]
      rfl
    · show ((T.heap.toList.drop T.heap.size).map (·.slots.size)).sum ≤ 0
      rw [List.drop_eq_nil_of_le (Nat.le_of_eq Array.length_toList)]
      exact Nat.le_refl _
/-- 'throw new E()': new; dup; invokespecial; athrow -/
theorem vx_throw0 {cc : ByteArray} {pc : Nat} (hexec : p.tables.exec = Jvm.exec) (hb : c.code = cc) (hl : l.stackTraces = false) {own cls : String} {names : List String} {ik ic mc ms : Nat} {A : Nat → Prop}
    (hown : s.vm.findClass own = some m.cls) (hcls : Bundle.fit cls = true) (hnames : ∀ n ∈ names, Bundle.fit n = true)
    (hk : (Cond.classLink own ik cls).before args s = true) (hini : (Cond.initialized cls).before args s = true) (hat : ∀ w ∈ vx_at0 own ic cls names, w.before args s = true)
    (hgood : ∀ w ∈ Cond.classLink own ik cls :: Cond.initialized cls :: vx_at0 own ic cls names, vx_ot w = true)
    (hU : vx_Zq Bundle.tN "UNASSIGNED_STACK" Bundle.steD A s s.heap) (hN : vx_Zq Bundle.tN "SUPPRESSED_SENTINEL" Bundle.listD A s s.heap) (hS : va_S A s.heap H locs) (hsize : ls.size = c.maxLocals)
    (d0 : decode cc pc = .ok (.new ik, 3)) (d3 : decode cc (pc + 3) = .ok (.dup, 1)) (d4 : decode cc (pc + 4) = .ok (.invokespecial ic, 3)) (d7 : decode cc (pc + 7) = .ok (.athrow, 1))
    (hout : ∀ x ∈ c.exceptionTable.toList, covers x (pc + 7) = false)
    (hRframes : names.length + 3 < R.frames) (hRlocals : (rest.map fun v => v.category).sum + (13 * (names.length + 1) + 42) ≤ R.locals) (hRcells : cells + 1 ≤ R.cells) (hRslots : slots + 6 ≤ R.slots) (hlocks : meth.locks = false)
    (hx : ∀ t : State, s.vm.Alike t.vm → H.size ≤ t.heap.size → (∀ q : Nat, q < H.size → t.heap[q]? = H[q]?) → XC cls s t)
    (hf : ∀ z ∈ locs, free z.base) (hc : cells + 1 ≤ mc) (hs : slots + 6 ≤ ms) :
    W p l e R s m args below meth c H locs cells slots (vx_MQ below Qc XC args s mc ms free) (F0 m pc ls rest) := by
  intro T hT X
  have htr : e.platform.stackTraces = false := (show e.platform.stackTraces = l.stackTraces by rw [X.admits.platform]).trans hl
  have Y := vx_rebase X (R' := { frames := R.frames, locals := R.locals, cells := 1, slots := 6 }) (Nat.le_refl _) (Nat.le_refl _) hRcells hRslots
  obtain ⟨s', hA⟩ : ∃ z, z = (T.setVm s.vm).setFrames (.invoking m args :: below) := ⟨_, rfl⟩
  rw [← hA] at Y
  have hvm : s'.vm = s.vm := by rw [hA]; rfl
  have hhp : s'.heap = H := by rw [hA]; exact hT
  have hW0 : s.WarmedH s'.vm := by rw [hvm]; exact State.WarmedH.refl s
  have hat' : ∀ w ∈ vx_at0 own ic cls names, w.before args s' = true := fun w hw => vx_ot_at hW0 hvm.symm (hgood w (List.mem_cons_of_mem _ (List.mem_cons_of_mem _ hw))) (hat w hw)
  have hk' : (Cond.classLink own ik cls).before args s' = true := vx_ot_at hW0 hvm.symm (hgood _ List.mem_cons_self) hk
  have hini' : (Cond.initialized cls).before args s' = true := vx_ot_at hW0 hvm.symm (hgood _ (List.mem_cons_of_mem _ List.mem_cons_self)) hini
  have hU' : vx_Zq Bundle.tN "UNASSIGNED_STACK" Bundle.steD A s' s'.heap := by rw [hhp]; exact vx_Zq.moved hW0.alike (hU.kept hS.2.1)
  have hN' : vx_Zq Bundle.tN "SUPPRESSED_SENTINEL" Bundle.listD A s' s'.heap := by rw [hhp]; exact vx_Zq.moved hW0.alike (hN.kept hS.2.1)
  have h : ∀ w ∈ Bundle.ownAtoms0 own ic cls names, w.before args s' = true := vx_own hat' (vx_isRefq hU'.1) (vx_isRefq hN'.1) hU'.2.word hN'.2.word
  have hown' : s'.vm.findClass own = some m.cls := by rw [hvm]; exact hown
  have hins : (Cond.instantiable cls 6).before args s' = true := h _ (by simp [Bundle.ownAtoms0])
  obtain ⟨vm₁, cX, kX, hfX, hkX, -, -, X₁, st1⟩ := Y.newCold hexec (own := own) (C := cls) (index := ik) (n := 6) hown' hk' hins hini'
    (g := F0 m pc ls rest) rfl (by rw [hb]; exact d0) (Nat.le_refl _) (Nat.le_refl _)
  generalize hT1 : (T.setVm vm₁).pushCell { cls := cX, slots := kX.instanceTypes.map defaultValue, vm := .none } = T1 at X₁ st1
  have hcat : (Value.ref T.heap.size).category = 1 := rfl
  have hcellA : T1.heap[T.heap.size]? = some (freshCell cX kX) := by rw [← hT1]; exact State.heap_pushCell_size _ _
  have d3' : decode c.code (pc + 3) = .ok (.dup, 1) := by rw [hb]; exact d3
  obtain ⟨U, hsteps, hrun, hend, hW, hsame, ce, hce, hO⟩ := X₁.ctorThrow0 hexec htr (own := own) (cls := cls) (names := names) (ic := ic) hown' hcls hnames h (fun x hx => nomatch hx) hfX hkX hcellA (by rw [hhp, hT]; exact Nat.le_refl _)
    (g := { method := m, pc := pc + 4, locals := ls, stack := .ref T.heap.size :: .ref T.heap.size :: rest, locked := none }) rfl hsize rfl rfl (rest := rest) rfl
    (by rw [hb]; exact d4) (by rw [hb]; exact d7) hout hRframes (by simp only [List.map_cons, List.sum_cons, hcat]; omega) hlocks
  obtain ⟨f1, f2⟩ := vx_frame hsame
  rw [hhp] at f1 f2
  have hWs : s.WarmedH U.vm := State.WarmedH.trans hW0 hW
  have hcl : s.vm.findClass cls = some ce.cls := by
    have h9 := hO.cls
    rw [hvm] at h9
    exact h9
  have hall : s.sameButNew ({ U with vm := s.vm } : State) locs mc ms := by
    subst hA
    obtain ⟨e1, e2⟩ := hsame
    rw [State.setFrames_setFrames] at e1
    have h2 : (T.setVm s.vm).sameButNew ({ U with vm := s.vm } : State) [] (0 + 1) (0 + 6) := ⟨e1, e2⟩
    have h3 := X.same.trans h2
    rw [List.append_nil] at h3
    exact h3.mono hc hs
  refine ⟨U, ?_, .threw T.heap.size, hrun, hend, Or.inr ⟨T.heap.size, rfl, cls, ce, locs, hx U hWs.alike f1 (fun q hq => f2 q hq (fun z hz => nomatch hz)), hce, hO.vm, hcl, hWs, hall, hf⟩⟩
  refine st1 _ ?_
  show Steps p.tables e below (T1.setTop { method := m, pc := pc + 3, locals := ls, stack := .ref T.heap.size :: rest, locked := none }) _
  jvm_step X₁.here [X₁.here.top, hexec, d3', Value.category]
  exact hsteps
/-- 'throw new E("text")': new; dup; ldc; invokespecial; athrow -/
theorem vx_throwS {cc : ByteArray} {pc : Nat} (hexec : p.tables.exec = Jvm.exec) (hb : c.code = cc) (hl : l.stackTraces = false) {own cls text : String} {names : List String} {ik is ic mc ms sa : Nat} {A : Nat → Prop}
    (hown : s.vm.findClass own = some m.cls) (hcls : Bundle.fit cls = true) (hnames : ∀ n ∈ names, Bundle.fit n = true)
    (hk : (Cond.classLink own ik cls).before args s = true) (hini : (Cond.initialized cls).before args s = true) (hstr : vk_R own is text sa s) (hat : ∀ w ∈ vx_atS own ic cls names, w.before args s = true)
    (hgood : ∀ w ∈ Cond.classLink own ik cls :: Cond.initialized cls :: vx_atS own ic cls names, vx_ot w = true)
    (hU : vx_Zq Bundle.tN "UNASSIGNED_STACK" Bundle.steD A s s.heap) (hN : vx_Zq Bundle.tN "SUPPRESSED_SENTINEL" Bundle.listD A s s.heap) (hS : va_S A s.heap H locs) (hsize : ls.size = c.maxLocals)
    (d0 : decode cc pc = .ok (.new ik, 3)) (d3 : decode cc (pc + 3) = .ok (.dup, 1)) (d4 : decode cc (pc + 4) = .ok (.ldc is, 2)) (d6 : decode cc (pc + 6) = .ok (.invokespecial ic, 3)) (d9 : decode cc (pc + 9) = .ok (.athrow, 1))
    (hout : ∀ x ∈ c.exceptionTable.toList, covers x (pc + 9) = false)
    (hRframes : names.length + 3 < R.frames) (hRlocals : (rest.map fun v => v.category).sum + (13 * (names.length + 1) + 43) ≤ R.locals) (hRcells : cells + 1 ≤ R.cells) (hRslots : slots + 6 ≤ R.slots) (hlocks : meth.locks = false)
    (hx : ∀ t : State, s.vm.Alike t.vm → H.size ≤ t.heap.size → (∀ q : Nat, q < H.size → t.heap[q]? = H[q]?) → XC cls s t)
    (hf : ∀ z ∈ locs, free z.base) (hc : cells + 1 ≤ mc) (hs : slots + 6 ≤ ms) :
    W p l e R s m args below meth c H locs cells slots (vx_MQ below Qc XC args s mc ms free) (F0 m pc ls rest) := by
  intro T hT X
  have htr : e.platform.stackTraces = false := (show e.platform.stackTraces = l.stackTraces by rw [X.admits.platform]).trans hl
  have Y := vx_rebase X (R' := { frames := R.frames, locals := R.locals, cells := 1, slots := 6 }) (Nat.le_refl _) (Nat.le_refl _) hRcells hRslots
  obtain ⟨s', hA⟩ : ∃ z, z = (T.setVm s.vm).setFrames (.invoking m args :: below) := ⟨_, rfl⟩
  rw [← hA] at Y
  have hvm : s'.vm = s.vm := by rw [hA]; rfl
  have hhp : s'.heap = H := by rw [hA]; exact hT
  have hW0 : s.WarmedH s'.vm := by rw [hvm]; exact State.WarmedH.refl s
  have hat' : ∀ w ∈ vx_atS own ic cls names, w.before args s' = true := fun w hw => vx_ot_at hW0 hvm.symm (hgood w (List.mem_cons_of_mem _ (List.mem_cons_of_mem _ hw))) (hat w hw)
  have hk' : (Cond.classLink own ik cls).before args s' = true := vx_ot_at hW0 hvm.symm (hgood _ List.mem_cons_self) hk
  have hini' : (Cond.initialized cls).before args s' = true := vx_ot_at hW0 hvm.symm (hgood _ (List.mem_cons_of_mem _ List.mem_cons_self)) hini
  have hU' : vx_Zq Bundle.tN "UNASSIGNED_STACK" Bundle.steD A s' s'.heap := by rw [hhp]; exact vx_Zq.moved hW0.alike (hU.kept hS.2.1)
  have hN' : vx_Zq Bundle.tN "SUPPRESSED_SENTINEL" Bundle.listD A s' s'.heap := by rw [hhp]; exact vx_Zq.moved hW0.alike (hN.kept hS.2.1)
  have h : ∀ w ∈ Bundle.ownAtoms own ic cls names, w.before args s' = true := vx_own hat' (vx_isRefq hU'.1) (vx_isRefq hN'.1) hU'.2.word hN'.2.word
  have hown' : s'.vm.findClass own = some m.cls := by rw [hvm]; exact hown
  have hins : (Cond.instantiable cls 6).before args s' = true := h _ (by simp [Bundle.ownAtoms])
  obtain ⟨vm₁, cX, kX, hfX, hkX, -, -, X₁, st1⟩ := Y.newCold hexec (own := own) (C := cls) (index := ik) (n := 6) hown' hk' hins hini'
    (g := F0 m pc ls rest) rfl (by rw [hb]; exact d0) (Nat.le_refl _) (Nat.le_refl _)
  generalize hT1 : (T.setVm vm₁).pushCell { cls := cX, slots := kX.instanceTypes.map defaultValue, vm := .none } = T1 at X₁ st1
  have hcat : (Value.ref T.heap.size).category = 1 := rfl
  have hcellA : T1.heap[T.heap.size]? = some (freshCell cX kX) := by rw [← hT1]; exact State.heap_pushCell_size _ _
  have d3' : decode c.code (pc + 3) = .ok (.dup, 1) := by rw [hb]; exact d3
  have d4' : decode c.code (pc + 4) = .ok (.ldc is, 2) := by rw [hb]; exact d4
  have hstr' : vk_R own is text sa s' := vk_R.warm hW0 hstr
  obtain ⟨U, hsteps, hrun, hend, hW, hsame, ce, hce, hO⟩ := X₁.ctorThrowS hexec htr (own := own) (cls := cls) (names := names) (ic := ic) hown' hcls hnames h (fun x hx => nomatch hx) hfX hkX hcellA (by rw [hhp, hT]; exact Nat.le_refl _) (msg := .ref sa) rfl
    (g := { method := m, pc := pc + 6, locals := ls, stack := .ref sa :: .ref T.heap.size :: .ref T.heap.size :: rest, locked := none }) rfl hsize rfl rfl (rest := rest) rfl
    (by rw [hb]; exact d6) (by rw [hb]; exact d9) hout hRframes (by simp only [List.map_cons, List.sum_cons, hcat]; omega) hlocks
  obtain ⟨f1, f2⟩ := vx_frame hsame
  rw [hhp] at f1 f2
  have hWs : s.WarmedH U.vm := State.WarmedH.trans hW0 hW
  have hcl : s.vm.findClass cls = some ce.cls := by
    have h9 := hO.cls
    rw [hvm] at h9
    exact h9
  have hall : s.sameButNew ({ U with vm := s.vm } : State) locs mc ms := by
    subst hA
    obtain ⟨e1, e2⟩ := hsame
    rw [State.setFrames_setFrames] at e1
    have h2 : (T.setVm s.vm).sameButNew ({ U with vm := s.vm } : State) [] (0 + 1) (0 + 6) := ⟨e1, e2⟩
    have h3 := X.same.trans h2
    rw [List.append_nil] at h3
    exact h3.mono hc hs
  refine ⟨U, ?_, .threw T.heap.size, hrun, hend, Or.inr ⟨T.heap.size, rfl, cls, ce, locs, hx U hWs.alike f1 (fun q hq => f2 q hq (fun z hz => nomatch hz)), hce, hO.vm, hcl, hWs, hall, hf⟩⟩
  refine st1 _ ?_
  show Steps p.tables e below (T1.setTop { method := m, pc := pc + 3, locals := ls, stack := .ref T.heap.size :: rest, locked := none }) _
  jvm_step X₁.here [X₁.here.top, hexec, d3', Value.category]
  exact X₁.ldcString hexec (own := own) (text := text) (index := is) (a := sa) hown' hstr'.1 hstr'.2
    (g := { method := m, pc := pc + 4, locals := ls, stack := .ref T.heap.size :: .ref T.heap.size :: rest, locked := none }) rfl d4' _ hsteps
/-- 'throw new E("text")', the text by a wide index -/
theorem vx_throwSW {cc : ByteArray} {pc : Nat} (hexec : p.tables.exec = Jvm.exec) (hb : c.code = cc) (hl : l.stackTraces = false) {own cls text : String} {names : List String} {ik is ic mc ms sa : Nat} {A : Nat → Prop}
    (hown : s.vm.findClass own = some m.cls) (hcls : Bundle.fit cls = true) (hnames : ∀ n ∈ names, Bundle.fit n = true)
    (hk : (Cond.classLink own ik cls).before args s = true) (hini : (Cond.initialized cls).before args s = true) (hstr : vk_R own is text sa s) (hat : ∀ w ∈ vx_atS own ic cls names, w.before args s = true)
    (hgood : ∀ w ∈ Cond.classLink own ik cls :: Cond.initialized cls :: vx_atS own ic cls names, vx_ot w = true)
    (hU : vx_Zq Bundle.tN "UNASSIGNED_STACK" Bundle.steD A s s.heap) (hN : vx_Zq Bundle.tN "SUPPRESSED_SENTINEL" Bundle.listD A s s.heap) (hS : va_S A s.heap H locs) (hsize : ls.size = c.maxLocals)
    (d0 : decode cc pc = .ok (.new ik, 3)) (d3 : decode cc (pc + 3) = .ok (.dup, 1)) (d4 : decode cc (pc + 4) = .ok (.ldc_w is, 3)) (d7 : decode cc (pc + 7) = .ok (.invokespecial ic, 3)) (d10 : decode cc (pc + 10) = .ok (.athrow, 1))
    (hout : ∀ x ∈ c.exceptionTable.toList, covers x (pc + 10) = false)
    (hRframes : names.length + 3 < R.frames) (hRlocals : (rest.map fun v => v.category).sum + (13 * (names.length + 1) + 43) ≤ R.locals) (hRcells : cells + 1 ≤ R.cells) (hRslots : slots + 6 ≤ R.slots) (hlocks : meth.locks = false)
    (hx : ∀ t : State, s.vm.Alike t.vm → H.size ≤ t.heap.size → (∀ q : Nat, q < H.size → t.heap[q]? = H[q]?) → XC cls s t)
    (hf : ∀ z ∈ locs, free z.base) (hc : cells + 1 ≤ mc) (hs : slots + 6 ≤ ms) :
    W p l e R s m args below meth c H locs cells slots (vx_MQ below Qc XC args s mc ms free) (F0 m pc ls rest) := by
  intro T hT X
  have htr : e.platform.stackTraces = false := (show e.platform.stackTraces = l.stackTraces by rw [X.admits.platform]).trans hl
  have Y := vx_rebase X (R' := { frames := R.frames, locals := R.locals, cells := 1, slots := 6 }) (Nat.le_refl _) (Nat.le_refl _) hRcells hRslots
  obtain ⟨s', hA⟩ : ∃ z, z = (T.setVm s.vm).setFrames (.invoking m args :: below) := ⟨_, rfl⟩
  rw [← hA] at Y
  have hvm : s'.vm = s.vm := by rw [hA]; rfl
  have hhp : s'.heap = H := by rw [hA]; exact hT
  have hW0 : s.WarmedH s'.vm := by rw [hvm]; exact State.WarmedH.refl s
  have hat' : ∀ w ∈ vx_atS own ic cls names, w.before args s' = true := fun w hw => vx_ot_at hW0 hvm.symm (hgood w (List.mem_cons_of_mem _ (List.mem_cons_of_mem _ hw))) (hat w hw)
  have hk' : (Cond.classLink own ik cls).before args s' = true := vx_ot_at hW0 hvm.symm (hgood _ List.mem_cons_self) hk
  have hini' : (Cond.initialized cls).before args s' = true := vx_ot_at hW0 hvm.symm (hgood _ (List.mem_cons_of_mem _ List.mem_cons_self)) hini
  have hU' : vx_Zq Bundle.tN "UNASSIGNED_STACK" Bundle.steD A s' s'.heap := by rw [hhp]; exact vx_Zq.moved hW0.alike (hU.kept hS.2.1)
  have hN' : vx_Zq Bundle.tN "SUPPRESSED_SENTINEL" Bundle.listD A s' s'.heap := by rw [hhp]; exact vx_Zq.moved hW0.alike (hN.kept hS.2.1)
  have h : ∀ w ∈ Bundle.ownAtoms own ic cls names, w.before args s' = true := vx_own hat' (vx_isRefq hU'.1) (vx_isRefq hN'.1) hU'.2.word hN'.2.word
  have hown' : s'.vm.findClass own = some m.cls := by rw [hvm]; exact hown
  have hins : (Cond.instantiable cls 6).before args s' = true := h _ (by simp [Bundle.ownAtoms])
  obtain ⟨vm₁, cX, kX, hfX, hkX, -, -, X₁, st1⟩ := Y.newCold hexec (own := own) (C := cls) (index := ik) (n := 6) hown' hk' hins hini'
    (g := F0 m pc ls rest) rfl (by rw [hb]; exact d0) (Nat.le_refl _) (Nat.le_refl _)
  generalize hT1 : (T.setVm vm₁).pushCell { cls := cX, slots := kX.instanceTypes.map defaultValue, vm := .none } = T1 at X₁ st1
  have hcat : (Value.ref T.heap.size).category = 1 := rfl
  have hcellA : T1.heap[T.heap.size]? = some (freshCell cX kX) := by rw [← hT1]; exact State.heap_pushCell_size _ _
  have d3' : decode c.code (pc + 3) = .ok (.dup, 1) := by rw [hb]; exact d3
  have d4' : decode c.code (pc + 4) = .ok (.ldc_w is, 3) := by rw [hb]; exact d4
  have hstr' : vk_R own is text sa s' := vk_R.warm hW0 hstr
  obtain ⟨U, hsteps, hrun, hend, hW, hsame, ce, hce, hO⟩ := X₁.ctorThrowS hexec htr (own := own) (cls := cls) (names := names) (ic := ic) hown' hcls hnames h (fun x hx => nomatch hx) hfX hkX hcellA (by rw [hhp, hT]; exact Nat.le_refl _) (msg := .ref sa) rfl
    (g := { method := m, pc := pc + 7, locals := ls, stack := .ref sa :: .ref T.heap.size :: .ref T.heap.size :: rest, locked := none }) rfl hsize rfl rfl (rest := rest) rfl
    (by rw [hb]; exact d7) (by rw [hb]; exact d10) hout hRframes (by simp only [List.map_cons, List.sum_cons, hcat]; omega) hlocks
  obtain ⟨f1, f2⟩ := vx_frame hsame
  rw [hhp] at f1 f2
  have hWs : s.WarmedH U.vm := State.WarmedH.trans hW0 hW
  have hcl : s.vm.findClass cls = some ce.cls := by
    have h9 := hO.cls
    rw [hvm] at h9
    exact h9
  have hall : s.sameButNew ({ U with vm := s.vm } : State) locs mc ms := by
    subst hA
    obtain ⟨e1, e2⟩ := hsame
    rw [State.setFrames_setFrames] at e1
    have h2 : (T.setVm s.vm).sameButNew ({ U with vm := s.vm } : State) [] (0 + 1) (0 + 6) := ⟨e1, e2⟩
    have h3 := X.same.trans h2
    rw [List.append_nil] at h3
    exact h3.mono hc hs
  refine ⟨U, ?_, .threw T.heap.size, hrun, hend, Or.inr ⟨T.heap.size, rfl, cls, ce, locs, hx U hWs.alike f1 (fun q hq => f2 q hq (fun z hz => nomatch hz)), hce, hO.vm, hcl, hWs, hall, hf⟩⟩
  refine st1 _ ?_
  show Steps p.tables e below (T1.setTop { method := m, pc := pc + 3, locals := ls, stack := .ref T.heap.size :: rest, locked := none }) _
  jvm_step X₁.here [X₁.here.top, hexec, d3', Value.category]
  exact X₁.ldcStringW hexec (own := own) (text := text) (index := is) (a := sa) hown' hstr'.1 hstr'.2
    (g := { method := m, pc := pc + 4, locals := ls, stack := .ref T.heap.size :: .ref T.heap.size :: rest, locked := none }) rfl d4' _ hsteps
end Ends
section Bodies
variable {l : Launch}
theorem vx_ofW {y : MethodName} {ws ws' : List Cond} {rm : Room} {Pc : Array Value → State → Prop} {Qc : Array Value → State → Outcome → State → Prop} {XC : String → State → State → Prop} {mc ms : Nat} {free : Addr → Prop} {cc : ByteArray} {maxL : Nat} {ret : Option FieldType}
    (hy : plainName y.cls = true) (hw : ws = Cond.code y cc maxL ret :: ws')
    (body : ∀ p e s m args below meth c s₁, BodyLoose p l y (headSpec ws rm) cc maxL ret e s m args below meth c s₁ → c.maxLocals = maxL → (∀ x ∈ c.exceptionTable.toList, False) → Pc args s →
      W p l e (headSpec ws rm).room s m args below meth c s.heap [] 0 0 (vx_MQ below Qc XC args s mc ms free) (entryFrame m args maxL)) : vx_Met l y ws rm Pc Qc XC mc ms free := by
  refine MetFree.of_bodyS (code := cc) (maxLocals := maxL) (ret := ret) hy ?_ ?_
  · intro args s m h hn
    obtain ⟨meth, c, h1, h2, h3, h4, h5, h6, -, -⟩ := Cond.code_spec hn (atoms_spec (ws := ws) h _ (by rw [hw]; exact List.mem_cons_self))
    exact ⟨meth, c, h1, h2, h3, h4, h5, h6⟩
  · intro p e s m args below meth c s₁ B hml hP _
    have hh0 : s₁.heap = s.heap := by rw [B.state]; rfl
    have ht : ∀ x ∈ c.exceptionTable.toList, False := by
      obtain ⟨meth9, c9, h1, h2, -, -, -, -, h7, -⟩ := Cond.code_spec B.named (atoms_spec (ws := ws) B.pre _ (by rw [hw]; exact List.mem_cons_self))
      cases Option.some.inj (h1.symm.trans B.method)
      cases Option.some.inj (h2.symm.trans (Stand.of_body B).code)
      intro x hx
      rw [Array.isEmpty_iff.mp h7] at hx
      cases hx
    obtain ⟨t, a1, o, b1, b2, b3⟩ := body p e s m args below meth c s₁ B hml ht hP s₁ hh0 (Stand.of_body B)
    exact ⟨t, o, a1, b1, b2, b3⟩
/-- the table of a body with handlers -/
theorem vx_table {p : Program} {x y : MethodName} {S : Spec} {cc bytes : ByteArray} {maxL maxL' : Nat} {ret ret' : Option FieldType} {e : Env} {s s₁ : State} {m : MethodId} {args : Array Value} {below : List Frame} {meth : Method} {c : Code} {hh : List (Nat × Nat × Nat × Nat)}
    (B : BodyLoose p l y S cc maxL ret e s m args below meth c s₁) (h : (Cond.codeWith y bytes maxL' ret' hh).before args s = true) : c.exceptionTable.toList = tableOf hh := by
  obtain ⟨m9, meth9, c9, hn9, h1, h2, -, -, h6, -⟩ := Cond.codeWith_spec h
  cases Option.some.inj (hn9.symm.trans B.named)
  cases Option.some.inj (h1.symm.trans B.method)
  cases Option.some.inj (h2.symm.trans (Stand.of_body B).code)
  rw [← h6, table_eq]
end Bodies
end VXA
/-! ===== END ===== -/
/-! ===== BEGIN a static call of a method with an exception table ===== -/
section VXS
variable {p : Program} {l : Launch} {e : Env} {R : Room} {s : State} {m : MethodId} {args : Array Value} {below : List Frame} {meth : Method} {c : Code} {T : State} {H : Heap} {locs : List Loc} {cells slots : Nat}
abbrev vx_CSW (R : Room) (s : State) (args : Array Value) (own : String) (index : Nat) (y : MethodName) (bytes : ByteArray) (maxL : Nat) (ret : Option FieldType) (hh : List (Nat × Nat × Nat × Nat)) (ws : List Cond) (rm : Room) (mc ms n : Nat) : Prop :=
  (rm.cells = mc ∧ rm.slots = ms ∧ rm.frames + 1 ≤ R.frames ∧ 8 + (maxL + 11) + rm.locals ≤ R.locals ∧ (∀ w ∈ ws, ∀ (a' : Array Value) (U : State), s.WarmedH U.vm → w.before a' U = true) ∧ Cond.codeWith y bytes maxL ret hh ∈ ws) ∧
  (Cond.codeWith y bytes maxL ret hh).before args s = true ∧ (Cond.initialized y.cls).before args s = true ∧ (y.cls ≠ "java/lang/invoke/MethodHandle" ∧ y.cls ≠ "java/lang/invoke/VarHandle") ∧
  (∀ sig, parseMethodDescriptor y.desc = some sig → n = sig.parameters.length) ∧ (Cond.methodLink own index y).before args s = true ∧ (Cond.static y).before args s = true
theorem vx_cwSW {own : String} {index maxL mc ms : Nat} {y : MethodName} {bytes : ByteArray} {ret : Option FieldType} {hh : List (Nat × Nat × Nat × Nat)} {Ts ws ws' : List Cond} {rm : Room} (n : Nat) (ht : ∀ w ∈ Ts, w.before args s = true) (hT : GoodIn Ts (va_wsS own index y ws)) (hw : ws = Cond.codeWith y bytes maxL ret hh :: ws') (hrc : rm.cells = mc) (hrs : rm.slots = ms)
    (hd : y.cls ≠ "java/lang/invoke/MethodHandle" ∧ y.cls ≠ "java/lang/invoke/VarHandle" ∧ (parseMethodDescriptor y.desc).map (fun d => d.parameters.length) = some n) (hR : rm.frames + 1 ≤ R.frames ∧ 8 + (maxL + 11) + rm.locals ≤ R.locals) :
    vx_CSW R s args own index y bytes maxL ret hh ws rm mc ms n := by
  have ok : ∀ w ∈ va_wsS own index y ws, w.before args s = true := fun w h => ht w (hT w h).1
  have hG : GoodIn Ts ws := fun w h => hT w (by unfold va_wsS; exact List.mem_append_right _ h)
  have hc : Cond.codeWith y bytes maxL ret hh ∈ ws := by rw [hw]; exact List.mem_cons_self
  refine ⟨⟨hrc, hrs, hR.1, hR.2, pay_in ht hG, hc⟩, ht _ (hG _ hc).1, ok _ (by simp [va_wsS]), ⟨hd.1, hd.2.1⟩, fun sig h => ?_, ok _ (by simp [va_wsS]), ok _ (by simp [va_wsS])⟩
  have h2 := hd.2.2
  rw [h] at h2
  exact (Option.some.inj h2).symm
theorem vx_callSW (X : Stand p l e R s m args below meth c T locs cells slots) (hexec : p.tables.exec = Jvm.exec) {own : String} {index : Nat} {y : MethodName} {bytes : ByteArray} {maxL : Nat} {ret : Option FieldType} {hh : List (Nat × Nat × Nat × Nat)}
    (hown : s.vm.findClass own = some m.cls) (hlink : (Cond.methodLink own index y).before args s = true) (hstat : (Cond.static y).before args s = true) (hinit : (Cond.initialized y.cls).before args s = true)
    (hcode : (Cond.codeWith y bytes maxL ret hh).before args s = true) (hy : y.cls ≠ "java/lang/invoke/MethodHandle" ∧ y.cls ≠ "java/lang/invoke/VarHandle")
    {W9 : Nat} {Pre : Pt → Array Value → Prop} {Post : Pt → Array Value → Option Value → Pt → Prop} (hK : Back l R p e below s args y 3 W9 Pre Post)
    {g : JFrame} (hg : g.method = m) (hsize : g.locals.size = c.maxLocals) {argsL rest : List Value} (hlen : ∀ sig, parseMethodDescriptor y.desc = some sig → argsL.length = sig.parameters.length)
    (hstack : g.stack = argsL.reverse ++ rest) (hW : 2 * g.monitorRoom + (rest.map fun v => v.category).sum ≤ W9) (hdg : decode c.code g.pc = .ok (.invokestatic index, 3))
    (hpre : ∀ vm₁, s.WarmedH vm₁ → Pre ⟨T.setVm vm₁, locs, cells, slots⟩ argsL.toArray) :
    ∃ (v : Option Value) (vm₁ : Vm) (B : Pt), s.WarmedH vm₁ ∧ Stand p l e R s m args below meth c B.U B.locs B.cells B.slots ∧ Post ⟨T.setVm vm₁, locs, cells, slots⟩ argsL.toArray v B ∧
      ∀ target, Steps p.tables e below (B.U.setTop { g with pc := g.pc + 3, stack := v.toList ++ rest }) target → Steps p.tables e below (T.setTop g) target := by
  obtain ⟨mk, methM, cM, hnamed, hmethM, -, -, -, -, -, -, hsigM⟩ := Cond.codeWith_spec hcode
  have hstatic : methM.isStatic = true := Cond.static_spec hnamed hmethM hstat
  obtain ⟨kP, hkP, -⟩ := className_of_methodNamed hnamed
  have hinitP : kP.init = .initialized := Cond.initialized_spec (findClass_of_methodNamed hnamed) hkP hinit
  obtain ⟨vm₁, X₁, hstep₁⟩ := X.invokestatic hexec hown hlink hnamed hmethM hstatic hkP hinitP hy (g := g) hg (argsL := argsL) (rest := rest) (hlen _ hsigM) hstack hdg
  obtain ⟨v, B, X', hpost, hsteps⟩ := hK m meth c ⟨T.setVm vm₁, locs, cells, slots⟩ { g with stack := rest } (.invokestatic index) mk argsL.toArray X₁ hg hsize hdg hW (X₁.named hnamed) (hpre vm₁ X₁.warmed)
  exact ⟨v, vm₁, B, X₁.warmed, X', hpost, fun target h => hstep₁ _ fun acts => by rw [doInvoke_state]; exact hsteps.trans h⟩
theorem vx_runSW {y : MethodName} {bytes cc : ByteArray} {maxL nL mc ms n index : Nat} {ret : Option FieldType} {hh : List (Nat × Nat × Nat × Nat)} {ws : List Cond} {rm : Room} {Pc : Array Value → State → Prop} {Qc : Array Value → State → Outcome → State → Prop} {free : Addr → Prop} {Ts : List Cond} {own : String} {As rest : List Value} {g : JFrame}
    (S : CallFix p m c cc nL s args Ts own) (hM : Met l y ws rm Pc Qc mc ms free) (cw : vx_CSW R s args own index y bytes maxL ret hh ws rm mc ms n) (hp : PreS s H Pc As)
    (hg : g.method = m) (hn : As.length = n) (hsize : g.locals.size = nL) (hstack : g.stack = As.reverse ++ rest) (hW : 2 * g.monitorRoom + (rest.map fun v => v.category).sum ≤ 8) (hdg : decode cc g.pc = .ok (.invokestatic index, 3)) (hf : cells + mc ≤ R.cells ∧ slots + ms ≤ R.slots) :
    va_Run p l e R s m args below meth c H locs cells slots mc ms g rest (Qc As.toArray) (free) := by
  obtain ⟨⟨hrc, hrs, hfr, hlo, hws, hcw⟩, hcode, hini, hy, hlen, hl, hstt⟩ := cw
  have hK : Back l R p e below s args y 3 8 (PreOf R mc ms Pc) (PostOf Qc mc ms free) := va_backW (hh := hh) (bytes := bytes) (maxL := maxL) (ret := ret) hM hp.1 hrc hrs hfr hlo hws hcw (fun a' U hW => word_at hW (Or.inl (by first | rfl | simp [Cond.onTables, Cond.keeps, Cond.steady])) hini)
  obtain ⟨hx, hb, hml, ho, -⟩ := S
  intro T hT X
  obtain ⟨v, vm₁, ⟨U', l2, c2, s2⟩, hW₁, X', ⟨g', mk, t, L, e1, e2, hq, h1, hL, h2, h3⟩, st⟩ := vx_callSW X hx (hh := hh) (bytes := bytes) (maxL := maxL) (ret := ret) ho hl hstt hini hcode hy hK hg (hsize.trans hml.symm) (argsL := As) (rest := rest) (fun sig h => hn.trans (hlen sig h)) hstack hW (by rw [hb]; exact hdg)
    (fun vm₁ hW₁ => ⟨hf.1, hf.2, hp.2 (T.setVm vm₁) hT hW₁⟩)
  dsimp only [Pt.U, Pt.locs, Pt.cells, Pt.slots] at X' e1 e2 h1 h2 h3 st
  subst h1; subst h2; subst h3
  exact ⟨v, (T.setVm vm₁).calling g' mk As.toArray, t, U', L, hT, X', hL, e1, e2, hq, st⟩
/-- not caught here, past rows that name other classes: it goes on to the caller -/
theorem vx_outP {p : Program} {l : Launch} {e : Env} {R : Room} {s : State} {m : MethodId} {args : Array Value} {below : List Frame} {meth : Method} {c : Code} {H : Heap} {locs : List Loc} {cells slots : Nat} {free : Addr → Prop} {ls : Array Slot} {rest : List Value} {Qc : Array Value → State → Outcome → State → Prop} {XC : String → State → State → Prop}
    {pc : Nat} {own E : String} {ce : Cell} {q : Addr} {mc ms : Nat} (hown : s.vm.findClass own = some m.cls) (hlocks : meth.locks = false)
    (hpass : ∀ z ∈ c.exceptionTable.toList, covers z pc = false ∨ (z.catchType ≠ 0 ∧ ∃ nm : String, (Cond.classLink own z.catchType nm).before args s = true ∧ va_Nc E nm s)) (hcell : H[q]? = some ce) (hv : ce.vm = .none) (hcl : s.vm.findClass E = some ce.cls)
    (hx : ∀ t : State, t.heap = H → s.vm.Alike t.vm → XC E s t) (hf : ∀ z ∈ locs, free z.base) (hc : cells ≤ mc) (hs : slots ≤ ms) :
    vx_W p l e R s m args below meth c H locs cells slots (vx_MQ below Qc XC args s mc ms free) (F0 m pc ls rest) q := by
  intro T hT X
  have hpl : e.platform.magicAccessors = ({} : Platform).magicAccessors := by rw [X.admits.platform]
  obtain ⟨vm', hW', X', st⟩ := X.outThrough hlocks q (g := F0 m pc ls rest) rfl rfl rfl (cell := ce) (by rw [hT]; exact hcell) (by rw [hv]; rfl)
    (by obtain ⟨k9, h9, -⟩ := Vm.findClass_spec hcl; exact ⟨k9, h9⟩) (fun z hz => by
      rcases hpass z hz with h | ⟨hz0, nm, hl1, hn1⟩
      · exact Or.inl h
      · obtain ⟨c6, hc6, hcl6⟩ := Cond.classLink_spec hown hl1 e.platform hpl
        obtain ⟨a8, b8, h1, h2, h3⟩ := hn1
        cases Option.some.inj (h1.symm.trans hcl)
        cases Option.some.inj (h2.symm.trans hc6)
        exact Or.inr ⟨hz0, _, hcl6, h3⟩)
  obtain ⟨g₀, hfr⟩ := X'.frames_eq
  have hcell9 : ((T.setVm vm').setFrames (.throwing q :: below)).heap[q]? = some ce := by
    show T.heap[q]? = some ce
    rw [hT]; exact hcell
  have hend : Ended ((T.setVm vm').setFrames (.throwing q :: below)) below (.threw q) := State.frames_setFrames _ (State.cur_lt_of_frames hfr)
  refine ⟨(T.setVm vm').setFrames (.throwing q :: below), ?_, .threw q, X'.here.running, hend, Or.inr ⟨q, rfl, E, ce, locs, hx _ hT (X'.ends _).1.alike, hcell9, hv, hcl, (X'.ends _).1, (X'.ends _).2.mono hc hs, hf⟩⟩
  rw [X.pushThrowing_eq]
  exact st
/-- a thing of a world lies in the heap -/
theorem vx_lt {D : va_G} {cl : List vw_C} {ws : va_W} {H1 : Heap} (h : va_P D cl ws H1) {k : Nat} {q : Nat × va_E} (hk : ws[k]? = some q) : q.1 < H1.size := (h k q hk).lt
end VXS
/-! ===== END ===== -/
/-! ===== BEGIN methods with a table of their own: called by a name, returning or throwing ===== -/
section VXH
/-! vx_backW, vx_callVX, vx_callSX, vx_callVW, vx_runVW, vx_runVX, vx_runSX, vx_ofWH follow the same proofs as their sisters above (Free/Laws.lean, Shelf42/LK1.lean); vx_outP calls Shelf42/NT130.lean (outThrough). -/
section
variable {l : Launch} {R : Room} {p : Program} {e : Env} {below : List Frame} {s : State} {sargs : Array Value} {y : MethodName} {len W9 : Nat}
theorem vx_backW {ws : List Cond} {rm : Room} {Pc : Array Value → State → Prop} {Qc : Array Value → State → Outcome → State → Prop} {XC : String → State → State → Prop} {mc ms : Nat} {free : Addr → Prop} {bytes : ByteArray} {maxL : Nat} {ret : Option FieldType} {hh : List (Nat × Nat × Nat × Nat)}
    (hM : vx_Met l y ws rm Pc Qc XC mc ms free) (hblind : FrameBlind Pc) (hrc : rm.cells = mc) (hrs : rm.slots = ms)
    (hframes : rm.frames + 1 ≤ R.frames) (hlocals : W9 + (maxL + 11) + rm.locals ≤ R.locals)
    (hws : ∀ w ∈ ws, ∀ a' U, s.WarmedH U.vm → w.before a' U = true) (hcode : Cond.codeWith y bytes maxL ret hh ∈ ws) (hinit : ∀ a' U, s.WarmedH U.vm → (Cond.initialized y.cls).before a' U = true) :
    vx_Back l R p e below s sargs y len W9 (PreOf R mc ms Pc) (PostOf Qc mc ms free) (vx_Post XC mc ms free) := by
  intro m meth c A g ig mk a X hg hsize hdg hW hn hp
  have h1 : (headSpec ws rm).pre.before a A.U = true := atoms_intro fun w hw => hws w hw _ _ X.warmed
  have h2 : (Cond.codeWith y bytes maxL ret hh).before a A.U = true := hws _ hcode _ _ X.warmed
  have h3 : (Cond.initialized y.cls).before a A.U = true := hinit _ _ X.warmed
  have h4 : A.cells + (headSpec ws rm).room.cells ≤ R.cells := by rw [show (headSpec ws rm).room.cells = mc from hrc]; exact hp.1
  have h5 : A.slots + (headSpec ws rm).room.slots ≤ R.slots := by rw [show (headSpec ws rm).room.slots = ms from hrs]; exact hp.2.1
  have hPc : Pc a (A.U.calling g mk a) := hblind _ _ _ _ hp.2.2
  obtain ⟨U, Ls, c0, s0⟩ := A
  dsimp only [Pt.U, Pt.locs, Pt.cells, Pt.slots] at h1 h2 h3 h4 h5 X hn hPc ⊢
  obtain ⟨m9, methY, cY, hn9, hmY, hcY, -, hlY, -⟩ := Cond.codeWith_spec h2
  cases Option.some.inj (hn9.symm.trans hn)
  obtain ⟨kY, hkY, -⟩ := className_of_methodNamed hn
  have hinitY : kY.init = .initialized := Cond.initialized_spec (findClass_of_methodNamed hn) hkY h3
  have h : At U g.method c below := by rw [hg]; exact X.here
  have hlocals9 : W9 + (maxL + 11) + (headSpec ws rm).room.locals ≤ R.locals := hlocals
  have happ : (headSpec ws rm).appliesLoose y e.platform (U.calling g mk a) = true :=
    Spec.appliesLoose_calling (g := g) h hdg hn hkY hinitY
      (X.room_calling (g := g) (R' := (headSpec ws rm).room) hsize hmY hcY hframes (by rw [hlY]; omega) h4 h5) h1
  obtain ⟨mid, hmid⟩ := h.above
  have hfr : (U.setTop g).frames = (.java g :: mid) ++ below := by rw [State.frames_setTop' g h.top, hmid]; rfl
  obtain ⟨o, s₂, hsteps, -, hend, hq⟩ := Steps.callFree hM p X.admits X.cas X.clock (acts := []) hfr happ hPc trivial
  have hq' : vx_Q Qc XC mc ms free a (U.calling g mk a) o s₂ := hq
  rw [State.frames_setTop' g h.top] at hend
  obtain ⟨g₀, hg0⟩ := Option.isSome_iff_exists.mp h.top
  obtain ⟨r, hr⟩ := State.topJava?_eq_some.mp hg0
  have hr' : (({ U with heap := s₂.heap, slotsUsed := s₂.slotsUsed } : State).setVm s₂.vm).frames = .java g₀ :: r := hr
  rcases hq' with ⟨hqc, L, hfe, hL⟩ | ⟨q, rfl, E, ce, L, hx, hce, hcv, hcl, hW₂, hsm, hL⟩
  · obtain ⟨⟨v, rfl⟩, hW₂, e2, q2, q3, q4, q5, q6⟩ := id hfe
    have e3 : s₂ = ({ (U.calling g mk a).setFrames s₂.frames with heap := s₂.heap, slotsUsed := s₂.slotsUsed } : State).setVm s₂.vm := by
      have : s₂ = ({ s₂ with vm := (U.calling g mk a).vm } : State).setVm s₂.vm := rfl
      rw [e2] at this
      exact this
    obtain ⟨c₂, i₂, len₂, hc₂, hd₂, hf₂⟩ := hend
    have hW' : U.WarmedH s₂.vm := hW₂
    have hcc : c₂ = c := by
      have h1 : s₂.code? g.method = U.code? g.method := by
        rw [State.code?_eq, State.code?_eq, hW'.alike.method?]
      exact Option.some.inj (hc₂.symm.trans (h1.trans h.code))
    subst hcc
    have hlen : len₂ = len := by rw [hdg] at hd₂; cases hd₂; rfl
    subst hlen
    have hs₂ : s₂ = (({ U with heap := s₂.heap, slotsUsed := s₂.slotsUsed } : State).setVm s₂.vm).setTop { g with pc := g.pc + len₂, stack := v.toList ++ g.stack } := by
      refine e3.trans ?_
      rw [hf₂, State.calling_eq h.top, State.setFrames_setFrames, State.setTop_of_frames _ hr', hr]
      rfl
    have hsame : U.sameButNew ({ U with heap := s₂.heap, slotsUsed := s₂.slotsUsed } : State) L mc ms := by
      refine ⟨?_, q2, q3, q4, q5, q6⟩
      obtain ⟨t, ht, -⟩ := State.frames_cons hr
      show ({ U with heap := s₂.heap, slotsUsed := s₂.slotsUsed } : State) = { U.setFrames U.frames with heap := s₂.heap, slotsUsed := s₂.slotsUsed }
      rw [State.setFrames_self ht]
    subst hg
    refine Or.inl ⟨v, ⟨(({ U with heap := s₂.heap, slotsUsed := s₂.slotsUsed } : State).setVm s₂.vm), Ls ++ L, c0 + mc, s0 + ms⟩,
      ⟨X.admits, X.cas, X.clock, X.frames, X.room, X.hears, X.method, X.code, (X.here.setHeapUsed s₂.heap s₂.slotsUsed).setVm hW'.alike, X.tail, State.WarmedH.trans X.warmed hW', X.limits, X.bytes, X.same.trans (hsame.setVm s.vm)⟩,
      ⟨g, mk, s₂, L, rfl, rfl, hqc, rfl, hL, rfl, rfl⟩, ?_⟩
    show Steps p.tables e below _ ((({ U with heap := s₂.heap, slotsUsed := s₂.slotsUsed } : State).setVm s₂.vm).setTop { g with pc := g.pc + len₂, stack := v.toList ++ g.stack })
    rw [← hs₂]
    exact hsteps
  · obtain ⟨e2, q2, q3, q4, q5, q6⟩ := id hsm
    have e3 : s₂ = ({ (U.calling g mk a).setFrames s₂.frames with heap := s₂.heap, slotsUsed := s₂.slotsUsed } : State).setVm s₂.vm := by
      have : s₂ = ({ s₂ with vm := (U.calling g mk a).vm } : State).setVm s₂.vm := rfl
      rw [e2] at this
      exact this
    have hf₂ : s₂.frames = .throwing q :: .java g :: U.frames.tail := hend
    have hW' : U.WarmedH s₂.vm := hW₂
    have hs₂ : s₂ = ((({ U with heap := s₂.heap, slotsUsed := s₂.slotsUsed } : State).setVm s₂.vm).setTop g).pushFrame (.throwing q) := by
      refine e3.trans ?_
      rw [hf₂, State.calling_eq h.top, State.setFrames_setFrames, State.pushFrame, State.frames_setTop _ hr', State.setTop_of_frames _ hr', State.setFrames_setFrames, hr]
      rfl
    have hsame : U.sameButNew ({ U with heap := s₂.heap, slotsUsed := s₂.slotsUsed } : State) L mc ms := by
      refine ⟨?_, q2, q3, q4, q5, q6⟩
      obtain ⟨t, ht, -⟩ := State.frames_cons hr
      show ({ U with heap := s₂.heap, slotsUsed := s₂.slotsUsed } : State) = { U.setFrames U.frames with heap := s₂.heap, slotsUsed := s₂.slotsUsed }
      rw [State.setFrames_self ht]
    subst hg
    refine Or.inr ⟨q, ⟨(({ U with heap := s₂.heap, slotsUsed := s₂.slotsUsed } : State).setVm s₂.vm), Ls ++ L, c0 + mc, s0 + ms⟩,
      ⟨X.admits, X.cas, X.clock, X.frames, X.room, X.hears, X.method, X.code, (X.here.setHeapUsed s₂.heap s₂.slotsUsed).setVm hW'.alike, X.tail, State.WarmedH.trans X.warmed hW', X.limits, X.bytes, X.same.trans (hsame.setVm s.vm)⟩,
      ⟨g, mk, s₂, L, E, ce, rfl, rfl, hx, hce, hcv, hcl, rfl, hL, rfl, rfl⟩, ?_⟩
    show Steps p.tables e below _ (((({ U with heap := s₂.heap, slotsUsed := s₂.slotsUsed } : State).setVm s₂.vm).setTop g).pushFrame (.throwing q))
    rw [← hs₂]
    exact hsteps
end
variable {p : Program} {l : Launch} {e : Env} {R : Room} {s : State} {m : MethodId} {args : Array Value} {below : List Frame} {meth : Method} {c : Code} {T : State} {H : Heap} {locs : List Loc} {cells slots : Nat}
theorem vx_callVX (X : Stand p l e R s m args below meth c T locs cells slots) (hexec : p.tables.exec = Jvm.exec) {own C : String} {index : Nat} {y : MethodName} {bytes : ByteArray} {maxL : Nat} {ret : Option FieldType} {hh : List (Nat × Nat × Nat × Nat)}
    (hown : s.vm.findClass own = some m.cls) (hlink : (Cond.methodLink own index y).before args s = true) (hinst : (Cond.instanceMethod y).before args s = true) (hsel : (Cond.selects C y y).before args s = true)
    (hcode : (Cond.codeWith y bytes maxL ret hh).before args s = true) (hy : y.cls ≠ "java/lang/invoke/MethodHandle" ∧ y.cls ≠ "java/lang/invoke/VarHandle")
    {W9 : Nat} {Pre : Pt → Array Value → Prop} {Post : Pt → Array Value → Option Value → Pt → Prop} {PostX : Pt → Array Value → Addr → Pt → Prop} (hK : vx_Back l R p e below s args y 3 W9 Pre Post PostX)
    {b : Addr} {cellB : Cell} (hcell : T.heap[b]? = some cellB) (hobj : cellB.vm.isStatics = false) (hcls : s.vm.findClass C = some cellB.cls)
    {g : JFrame} (hg : g.method = m) (hsize : g.locals.size = c.maxLocals) {argsL rest : List Value} (hlen : ∀ sig, parseMethodDescriptor y.desc = some sig → argsL.length = sig.parameters.length)
    (hstack : g.stack = argsL.reverse ++ .ref b :: rest) (hW : 2 * g.monitorRoom + (rest.map fun v => v.category).sum ≤ W9) (hdg : decode c.code g.pc = .ok (.invokevirtual index, 3))
    (hpre : ∀ vm₁, s.WarmedH vm₁ → Pre ⟨T.setVm vm₁, locs, cells, slots⟩ (Value.ref b :: argsL).toArray) :
    (∃ (v : Option Value) (vm₁ : Vm) (B : Pt), s.WarmedH vm₁ ∧ Stand p l e R s m args below meth c B.U B.locs B.cells B.slots ∧ Post ⟨T.setVm vm₁, locs, cells, slots⟩ (Value.ref b :: argsL).toArray v B ∧
      ∀ target, Steps p.tables e below (B.U.setTop { g with pc := g.pc + 3, stack := v.toList ++ rest }) target → Steps p.tables e below (T.setTop g) target) ∨
    (∃ (q : Addr) (vm₁ : Vm) (B : Pt), s.WarmedH vm₁ ∧ Stand p l e R s m args below meth c B.U B.locs B.cells B.slots ∧ PostX ⟨T.setVm vm₁, locs, cells, slots⟩ (Value.ref b :: argsL).toArray q B ∧
      Steps p.tables e below (T.setTop g) ((B.U.setTop { g with stack := rest }).pushFrame (.throwing q))) := by
  obtain ⟨mk, methM, hnamed, hmethM, hstM, habM⟩ := Cond.instanceMethod_spec hinst
  obtain ⟨m8, methM', cM, hn8, hmethM', -, -, -, -, -, -, hsigM⟩ := Cond.codeWith_spec hcode
  cases Option.some.inj (hn8.symm.trans hnamed)
  cases hmethM.symm.trans hmethM'
  obtain ⟨c2, r2, m2, q1, q2, q3, q4, kP, hkP, hkPi⟩ := Cond.selects_spec hsel
  cases hcls.symm.trans q1
  cases (State.methodFound?_of_named hnamed hy).symm.trans q2
  cases hnamed.symm.trans q3
  have hselP : selectMethod e.platform s.vm cellB.cls mk = .method mk := by rw [Launch.admits_selectMethod X.admits]; exact q4
  obtain ⟨vm₁, X₁, hstep₁⟩ := X.invokevirtual hexec hown hlink hnamed hmethM hstM hkP hkPi hy (a := b) (cell := cellB) hcell
    (fun z h => by rw [h] at hobj; cases hobj) hselP hmethM habM hkP hkPi (g := g) hg (argsL := argsL) (rest := rest) (hlen _ hsigM) hstack hdg
  rcases hK m meth c ⟨T.setVm vm₁, locs, cells, slots⟩ { g with stack := rest } (.invokevirtual index) mk (Value.ref b :: argsL).toArray X₁ hg hsize hdg hW (X₁.named hnamed) (hpre vm₁ X₁.warmed) with ⟨v, B, X', hpost, hsteps⟩ | ⟨q, B, X', hpost, hsteps⟩
  · exact Or.inl ⟨v, vm₁, B, X₁.warmed, X', hpost, fun target h => hstep₁ _ fun acts => by rw [doInvoke_state]; exact hsteps.trans h⟩
  · exact Or.inr ⟨q, vm₁, B, X₁.warmed, X', hpost, hstep₁ _ fun acts => by rw [doInvoke_state]; exact hsteps⟩
theorem vx_callSX (X : Stand p l e R s m args below meth c T locs cells slots) (hexec : p.tables.exec = Jvm.exec) {own : String} {index : Nat} {y : MethodName} {bytes : ByteArray} {maxL : Nat} {ret : Option FieldType} {hh : List (Nat × Nat × Nat × Nat)}
    (hown : s.vm.findClass own = some m.cls) (hlink : (Cond.methodLink own index y).before args s = true) (hstat : (Cond.static y).before args s = true) (hinit : (Cond.initialized y.cls).before args s = true)
    (hcode : (Cond.codeWith y bytes maxL ret hh).before args s = true) (hy : y.cls ≠ "java/lang/invoke/MethodHandle" ∧ y.cls ≠ "java/lang/invoke/VarHandle")
    {W9 : Nat} {Pre : Pt → Array Value → Prop} {Post : Pt → Array Value → Option Value → Pt → Prop} {PostX : Pt → Array Value → Addr → Pt → Prop} (hK : vx_Back l R p e below s args y 3 W9 Pre Post PostX)
    {g : JFrame} (hg : g.method = m) (hsize : g.locals.size = c.maxLocals) {argsL rest : List Value} (hlen : ∀ sig, parseMethodDescriptor y.desc = some sig → argsL.length = sig.parameters.length)
    (hstack : g.stack = argsL.reverse ++ rest) (hW : 2 * g.monitorRoom + (rest.map fun v => v.category).sum ≤ W9) (hdg : decode c.code g.pc = .ok (.invokestatic index, 3))
    (hpre : ∀ vm₁, s.WarmedH vm₁ → Pre ⟨T.setVm vm₁, locs, cells, slots⟩ argsL.toArray) :
    (∃ (v : Option Value) (vm₁ : Vm) (B : Pt), s.WarmedH vm₁ ∧ Stand p l e R s m args below meth c B.U B.locs B.cells B.slots ∧ Post ⟨T.setVm vm₁, locs, cells, slots⟩ argsL.toArray v B ∧
      ∀ target, Steps p.tables e below (B.U.setTop { g with pc := g.pc + 3, stack := v.toList ++ rest }) target → Steps p.tables e below (T.setTop g) target) ∨
    (∃ (q : Addr) (vm₁ : Vm) (B : Pt), s.WarmedH vm₁ ∧ Stand p l e R s m args below meth c B.U B.locs B.cells B.slots ∧ PostX ⟨T.setVm vm₁, locs, cells, slots⟩ argsL.toArray q B ∧
      Steps p.tables e below (T.setTop g) ((B.U.setTop { g with stack := rest }).pushFrame (.throwing q))) := by
  obtain ⟨mk, methM, cM, hnamed, hmethM, -, -, -, -, -, -, hsigM⟩ := Cond.codeWith_spec hcode
  have hstatic : methM.isStatic = true := Cond.static_spec hnamed hmethM hstat
  obtain ⟨kP, hkP, -⟩ := className_of_methodNamed hnamed
  have hinitP : kP.init = .initialized := Cond.initialized_spec (findClass_of_methodNamed hnamed) hkP hinit
  obtain ⟨vm₁, X₁, hstep₁⟩ := X.invokestatic hexec hown hlink hnamed hmethM hstatic hkP hinitP hy (g := g) hg (argsL := argsL) (rest := rest) (hlen _ hsigM) hstack hdg
  rcases hK m meth c ⟨T.setVm vm₁, locs, cells, slots⟩ { g with stack := rest } (.invokestatic index) mk argsL.toArray X₁ hg hsize hdg hW (X₁.named hnamed) (hpre vm₁ X₁.warmed) with ⟨v, B, X', hpost, hsteps⟩ | ⟨q, B, X', hpost, hsteps⟩
  · exact Or.inl ⟨v, vm₁, B, X₁.warmed, X', hpost, fun target h => hstep₁ _ fun acts => by rw [doInvoke_state]; exact hsteps.trans h⟩
  · exact Or.inr ⟨q, vm₁, B, X₁.warmed, X', hpost, hstep₁ _ fun acts => by rw [doInvoke_state]; exact hsteps⟩
theorem vx_callVW (X : Stand p l e R s m args below meth c T locs cells slots) (hexec : p.tables.exec = Jvm.exec) {own C : String} {index : Nat} {y : MethodName} {bytes : ByteArray} {maxL : Nat} {ret : Option FieldType} {hh : List (Nat × Nat × Nat × Nat)}
    (hown : s.vm.findClass own = some m.cls) (hlink : (Cond.methodLink own index y).before args s = true) (hinst : (Cond.instanceMethod y).before args s = true) (hsel : (Cond.selects C y y).before args s = true)
    (hcode : (Cond.codeWith y bytes maxL ret hh).before args s = true) (hy : y.cls ≠ "java/lang/invoke/MethodHandle" ∧ y.cls ≠ "java/lang/invoke/VarHandle")
    {W9 : Nat} {Pre : Pt → Array Value → Prop} {Post : Pt → Array Value → Option Value → Pt → Prop} (hK : Back l R p e below s args y 3 W9 Pre Post)
    {b : Addr} {cellB : Cell} (hcell : T.heap[b]? = some cellB) (hobj : cellB.vm.isStatics = false) (hcls : s.vm.findClass C = some cellB.cls)
    {g : JFrame} (hg : g.method = m) (hsize : g.locals.size = c.maxLocals) {argsL rest : List Value} (hlen : ∀ sig, parseMethodDescriptor y.desc = some sig → argsL.length = sig.parameters.length)
    (hstack : g.stack = argsL.reverse ++ .ref b :: rest) (hW : 2 * g.monitorRoom + (rest.map fun v => v.category).sum ≤ W9) (hdg : decode c.code g.pc = .ok (.invokevirtual index, 3))
    (hpre : ∀ vm₁, s.WarmedH vm₁ → Pre ⟨T.setVm vm₁, locs, cells, slots⟩ (Value.ref b :: argsL).toArray) :
    ∃ (v : Option Value) (vm₁ : Vm) (B : Pt), s.WarmedH vm₁ ∧ Stand p l e R s m args below meth c B.U B.locs B.cells B.slots ∧ Post ⟨T.setVm vm₁, locs, cells, slots⟩ (Value.ref b :: argsL).toArray v B ∧
      ∀ target, Steps p.tables e below (B.U.setTop { g with pc := g.pc + 3, stack := v.toList ++ rest }) target → Steps p.tables e below (T.setTop g) target := by
  obtain ⟨mk, methM, hnamed, hmethM, hstM, habM⟩ := Cond.instanceMethod_spec hinst
  obtain ⟨m8, methM', cM, hn8, hmethM', -, -, -, -, -, -, hsigM⟩ := Cond.codeWith_spec hcode
  cases Option.some.inj (hn8.symm.trans hnamed)
  cases hmethM.symm.trans hmethM'
  obtain ⟨c2, r2, m2, q1, q2, q3, q4, kP, hkP, hkPi⟩ := Cond.selects_spec hsel
  cases hcls.symm.trans q1
  cases (State.methodFound?_of_named hnamed hy).symm.trans q2
  cases hnamed.symm.trans q3
  have hselP : selectMethod e.platform s.vm cellB.cls mk = .method mk := by rw [Launch.admits_selectMethod X.admits]; exact q4
  obtain ⟨vm₁, X₁, hstep₁⟩ := X.invokevirtual hexec hown hlink hnamed hmethM hstM hkP hkPi hy (a := b) (cell := cellB) hcell
    (fun z h => by rw [h] at hobj; cases hobj) hselP hmethM habM hkP hkPi (g := g) hg (argsL := argsL) (rest := rest) (hlen _ hsigM) hstack hdg
  obtain ⟨v, B, X', hpost, hsteps⟩ := hK m meth c ⟨T.setVm vm₁, locs, cells, slots⟩ { g with stack := rest } (.invokevirtual index) mk (Value.ref b :: argsL).toArray X₁ hg hsize hdg hW (X₁.named hnamed) (hpre vm₁ X₁.warmed)
  exact ⟨v, vm₁, B, X₁.warmed, X', hpost, fun target h => hstep₁ _ fun acts => by rw [doInvoke_state]; exact hsteps.trans h⟩
abbrev vx_CVW (R : Room) (s : State) (args : Array Value) (own C : String) (index : Nat) (y : MethodName) (bytes : ByteArray) (maxL : Nat) (ret : Option FieldType) (hh : List (Nat × Nat × Nat × Nat)) (ws : List Cond) (rm : Room) (mc ms n : Nat) : Prop :=
  (rm.cells = mc ∧ rm.slots = ms ∧ rm.frames + 1 ≤ R.frames ∧ 8 + (maxL + 11) + rm.locals ≤ R.locals ∧ (∀ w ∈ ws, ∀ (a' : Array Value) (U : State), s.WarmedH U.vm → w.before a' U = true) ∧ Cond.codeWith y bytes maxL ret hh ∈ ws) ∧
  (Cond.codeWith y bytes maxL ret hh).before args s = true ∧ (Cond.initialized y.cls).before args s = true ∧ (y.cls ≠ "java/lang/invoke/MethodHandle" ∧ y.cls ≠ "java/lang/invoke/VarHandle") ∧
  (∀ sig, parseMethodDescriptor y.desc = some sig → n = sig.parameters.length) ∧ (Cond.methodLink own index y).before args s = true ∧ (Cond.instanceMethod y).before args s = true ∧ (Cond.selects C y y).before args s = true
theorem vx_cwVW {own C : String} {index maxL mc ms : Nat} {y : MethodName} {bytes : ByteArray} {ret : Option FieldType} {hh : List (Nat × Nat × Nat × Nat)} {Ts ws ws' : List Cond} {rm : Room} (n : Nat) (ht : ∀ w ∈ Ts, w.before args s = true) (hT : GoodIn Ts (wsV own index C y ws)) (hw : ws = Cond.codeWith y bytes maxL ret hh :: ws') (hrc : rm.cells = mc) (hrs : rm.slots = ms)
    (hd : y.cls = C ∧ y.cls ≠ "java/lang/invoke/MethodHandle" ∧ y.cls ≠ "java/lang/invoke/VarHandle" ∧ (parseMethodDescriptor y.desc).map (fun d => d.parameters.length) = some n) (hR : rm.frames + 1 ≤ R.frames ∧ 8 + (maxL + 11) + rm.locals ≤ R.locals) :
    vx_CVW R s args own C index y bytes maxL ret hh ws rm mc ms n := by
  obtain ⟨hC, hd⟩ := hd
  subst hC
  have ok : ∀ w ∈ wsV own index y.cls y ws, w.before args s = true := fun w h => ht w (hT w h).1
  have hG : GoodIn Ts ws := fun w h => hT w (by unfold wsV; exact List.mem_append_right _ h)
  have hc : Cond.codeWith y bytes maxL ret hh ∈ ws := by rw [hw]; exact List.mem_cons_self
  refine ⟨⟨hrc, hrs, hR.1, hR.2, pay_in ht hG, hc⟩, ht _ (hG _ hc).1, ok _ (by simp [wsV]), ⟨hd.1, hd.2.1⟩, fun sig h => ?_, ok _ (by simp [wsV]), ok _ (by simp [wsV]), ok _ (by simp [wsV])⟩
  have h2 := hd.2.2
  rw [h] at h2
  exact (Option.some.inj h2).symm
theorem vx_runVW {y : MethodName} {bytes cc : ByteArray} {maxL nL mc ms n index : Nat} {ret : Option FieldType} {hh : List (Nat × Nat × Nat × Nat)} {ws : List Cond} {rm : Room} {Pc : Array Value → State → Prop} {Qc : Array Value → State → Outcome → State → Prop} {free : Addr → Prop} {Ts : List Cond} {own C : String} {b : Addr} {As rest : List Value} {g : JFrame}
    (S : CallFix p m c cc nL s args Ts own) (hM : Met l y ws rm Pc Qc mc ms free) (cw : vx_CVW R s args own C index y bytes maxL ret hh ws rm mc ms n) (hp : PreV s H C b Pc As)
    (hg : g.method = m) (hn : As.length = n) (hsize : g.locals.size = nL) (hstack : g.stack = As.reverse ++ .ref b :: rest) (hW : 2 * g.monitorRoom + (rest.map fun v => v.category).sum ≤ 8) (hdg : decode cc g.pc = .ok (.invokevirtual index, 3)) (hf : cells + mc ≤ R.cells ∧ slots + ms ≤ R.slots) :
    va_Run p l e R s m args below meth c H locs cells slots mc ms g rest (Qc (Value.ref b :: As).toArray) free := by
  obtain ⟨⟨hrc, hrs, hfr, hlo, hws, hcw⟩, hcode, hini, hy, hlen, hl, hin, hse⟩ := cw
  have hK : Back l R p e below s args y 3 8 (PreOf R mc ms Pc) (PostOf Qc mc ms free) := va_backW (hh := hh) (bytes := bytes) (maxL := maxL) (ret := ret) hM hp.1 hrc hrs hfr hlo hws hcw (fun a' U hW => word_at hW (Or.inl (by first | rfl | simp [Cond.onTables, Cond.keeps, Cond.steady])) hini)
  obtain ⟨hx, hb, hml, ho, -⟩ := S
  obtain ⟨-, ⟨cellB, hcB, hoB, hclB⟩, hPc⟩ := hp
  intro T hT X
  obtain ⟨v, vm₁, ⟨U', l2, c2, s2⟩, hW₁, X', ⟨g', mk, t, L, e1, e2, hq, h1, hL, h2, h3⟩, st⟩ := vx_callVW X hx (C := C) (hh := hh) (bytes := bytes) (maxL := maxL) (ret := ret) ho hl hin hse hcode hy hK (by rw [hT]; exact hcB) hoB hclB hg (hsize.trans hml.symm) (argsL := As) (rest := rest) (fun sig h => hn.trans (hlen sig h)) hstack hW (by rw [hb]; exact hdg)
    (fun vm₁ hW₁ => ⟨hf.1, hf.2, hPc (T.setVm vm₁) hT hW₁⟩)
  dsimp only [Pt.U, Pt.locs, Pt.cells, Pt.slots] at X' e1 e2 h1 h2 h3 st
  subst h1; subst h2; subst h3
  exact ⟨v, (T.setVm vm₁).calling g' mk (Value.ref b :: As).toArray, t, U', L, hT, X', hL, e1, e2, hq, st⟩
section
variable {y : MethodName} {bytes cc : ByteArray} {maxL nL mc ms n index : Nat} {ret : Option FieldType} {ws : List Cond} {rm : Room} {Pc : Array Value → State → Prop} {Qc : Array Value → State → Outcome → State → Prop} {XC : String → State → State → Prop} {free : Addr → Prop} {Ts : List Cond} {own C : String} {b : Addr} {As rest : List Value} {g : JFrame}
theorem vx_runVX {hh : List (Nat × Nat × Nat × Nat)} (S : CallFix p m c cc nL s args Ts own) (hM : vx_Met l y ws rm Pc Qc XC mc ms free) (cw : vx_CVW R s args own C index y bytes maxL ret hh ws rm mc ms n) (hp : PreV s H C b Pc As)
    (hg : g.method = m) (hn : As.length = n) (hsize : g.locals.size = nL) (hstack : g.stack = As.reverse ++ .ref b :: rest) (hW : 2 * g.monitorRoom + (rest.map fun v => v.category).sum ≤ 8) (hdg : decode cc g.pc = .ok (.invokevirtual index, 3)) (hf : cells + mc ≤ R.cells ∧ slots + ms ≤ R.slots) :
    vx_Run p l e R s m args below meth c H locs cells slots mc ms g rest (Qc (Value.ref b :: As).toArray) XC free := by
  obtain ⟨⟨hrc, hrs, hfr, hlo, hws, hcw⟩, hcode, hini, hy, hlen, hl, hin, hse⟩ := cw
  have hK : vx_Back l R p e below s args y 3 8 (PreOf R mc ms Pc) (PostOf Qc mc ms free) (vx_Post XC mc ms free) := vx_backW (hh := hh) (bytes := bytes) (maxL := maxL) (ret := ret) hM hp.1 hrc hrs hfr hlo hws hcw (fun a' U hW => word_at hW (Or.inl (by first | rfl | simp [Cond.onTables, Cond.keeps, Cond.steady])) hini)
  obtain ⟨hx, hb, hml, ho, -⟩ := S
  obtain ⟨-, ⟨cellB, hcB, hoB, hclB⟩, hPc⟩ := hp
  intro T hT X
  rcases vx_callVX X hx (C := C) (hh := hh) (bytes := bytes) (maxL := maxL) (ret := ret) ho hl hin hse hcode hy hK (by rw [hT]; exact hcB) hoB hclB hg (hsize.trans hml.symm) (argsL := As) (rest := rest) (fun sig h => hn.trans (hlen sig h)) hstack hW (by rw [hb]; exact hdg)
    (fun vm₁ hW₁ => ⟨hf.1, hf.2, hPc (T.setVm vm₁) hT hW₁⟩) with ⟨v, vm₁, ⟨U', l2, c2, s2⟩, hW₁, X', ⟨g', mk, t, L, e1, e2, hq, h1, hL, h2, h3⟩, st⟩ | ⟨q, vm₁, ⟨U', l2, c2, s2⟩, hW₁, X', ⟨g', mk, t, L, E, ce, e1, e2, hq, hce, hcv, hcl, h1, hL, h2, h3⟩, st⟩
  · dsimp only [Pt.U, Pt.locs, Pt.cells, Pt.slots] at X' e1 e2 h1 h2 h3 st
    subst h1; subst h2; subst h3
    exact Or.inl ⟨v, (T.setVm vm₁).calling g' mk (Value.ref b :: As).toArray, t, U', L, hT, X', hL, e1, e2, hq, st⟩
  · dsimp only [Pt.U, Pt.locs, Pt.cells, Pt.slots] at X' e1 e2 h1 h2 h3 st hcl
    subst h1; subst h2; subst h3
    exact Or.inr ⟨q, (T.setVm vm₁).calling g' mk (Value.ref b :: As).toArray, t, U', L, E, ce, hT, X', hL, e1, e2, hq, hce, hcv, vx_cls hW₁ hcl, st⟩
theorem vx_runSX {hh : List (Nat × Nat × Nat × Nat)} (S : CallFix p m c cc nL s args Ts own) (hM : vx_Met l y ws rm Pc Qc XC mc ms free) (cw : vx_CSW R s args own index y bytes maxL ret hh ws rm mc ms n) (hp : PreS s H Pc As)
    (hg : g.method = m) (hn : As.length = n) (hsize : g.locals.size = nL) (hstack : g.stack = As.reverse ++ rest) (hW : 2 * g.monitorRoom + (rest.map fun v => v.category).sum ≤ 8) (hdg : decode cc g.pc = .ok (.invokestatic index, 3)) (hf : cells + mc ≤ R.cells ∧ slots + ms ≤ R.slots) :
    vx_Run p l e R s m args below meth c H locs cells slots mc ms g rest (Qc As.toArray) XC free := by
  obtain ⟨⟨hrc, hrs, hfr, hlo, hws, hcw⟩, hcode, hini, hy, hlen, hl, hstt⟩ := cw
  have hK : vx_Back l R p e below s args y 3 8 (PreOf R mc ms Pc) (PostOf Qc mc ms free) (vx_Post XC mc ms free) := vx_backW (hh := hh) (bytes := bytes) (maxL := maxL) (ret := ret) hM hp.1 hrc hrs hfr hlo hws hcw (fun a' U hW => word_at hW (Or.inl (by first | rfl | simp [Cond.onTables, Cond.keeps, Cond.steady])) hini)
  obtain ⟨hx, hb, hml, ho, -⟩ := S
  intro T hT X
  rcases vx_callSX X hx (hh := hh) (bytes := bytes) (maxL := maxL) (ret := ret) ho hl hstt hini hcode hy hK hg (hsize.trans hml.symm) (argsL := As) (rest := rest) (fun sig h => hn.trans (hlen sig h)) hstack hW (by rw [hb]; exact hdg)
    (fun vm₁ hW₁ => ⟨hf.1, hf.2, hp.2 (T.setVm vm₁) hT hW₁⟩) with ⟨v, vm₁, ⟨U', l2, c2, s2⟩, hW₁, X', ⟨g', mk, t, L, e1, e2, hq, h1, hL, h2, h3⟩, st⟩ | ⟨q, vm₁, ⟨U', l2, c2, s2⟩, hW₁, X', ⟨g', mk, t, L, E, ce, e1, e2, hq, hce, hcv, hcl, h1, hL, h2, h3⟩, st⟩
  · dsimp only [Pt.U, Pt.locs, Pt.cells, Pt.slots] at X' e1 e2 h1 h2 h3 st
    subst h1; subst h2; subst h3
    exact Or.inl ⟨v, (T.setVm vm₁).calling g' mk As.toArray, t, U', L, hT, X', hL, e1, e2, hq, st⟩
  · dsimp only [Pt.U, Pt.locs, Pt.cells, Pt.slots] at X' e1 e2 h1 h2 h3 st hcl
    subst h1; subst h2; subst h3
    exact Or.inr ⟨q, (T.setVm vm₁).calling g' mk As.toArray, t, U', L, E, ce, hT, X', hL, e1, e2, hq, hce, hcv, vx_cls hW₁ hcl, st⟩
end
end VXH
theorem vx_ofWH {l : Launch} {y : MethodName} {ws ws' : List Cond} {rm : Room} {Pc : Array Value → State → Prop} {Qc : Array Value → State → Outcome → State → Prop} {XC : String → State → State → Prop} {mc ms : Nat} {free : Addr → Prop} {cc : ByteArray} {maxL : Nat} {ret : Option FieldType} {hh : List (Nat × Nat × Nat × Nat)}
    (hy : plainName y.cls = true) (hw : ws = Cond.codeWith y cc maxL ret hh :: ws')
    (body : ∀ p e s m args below meth c s₁, BodyLoose p l y (headSpec ws rm) cc maxL ret e s m args below meth c s₁ → c.maxLocals = maxL → Pc args s →
      W p l e (headSpec ws rm).room s m args below meth c s.heap [] 0 0 (vx_MQ below Qc XC args s mc ms free) (entryFrame m args maxL)) : vx_Met l y ws rm Pc Qc XC mc ms free := by
  refine MetFree.of_bodyS (code := cc) (maxLocals := maxL) (ret := ret) hy ?_ ?_
  · intro args s m h hn
    obtain ⟨m9, meth, c, hn9, h1, h2, h3, h4, -, h5, h6, -⟩ := Cond.codeWith_spec (atoms_spec (ws := ws) h _ (by rw [hw]; exact List.mem_cons_self))
    cases hn.symm.trans hn9
    exact ⟨meth, c, h1, h2, h3, h4, h5, h6⟩
  · intro p e s m args below meth c s₁ B hml hP _
    have hh0 : s₁.heap = s.heap := by rw [B.state]; rfl
    obtain ⟨t, a1, o, b1, b2, b3⟩ := body p e s m args below meth c s₁ B hml hP s₁ hh0 (Stand.of_body B)
    exact ⟨t, o, a1, b1, b2, b3⟩
/-! ===== END ===== -/
end
section
/-! ===== BEGIN printed: names, fields, word lists, decode rows ===== -/
def RX0 : String := "ChartroomSpc$Phase"
def TX0 : u_T := fun k => match k with
  | 0 => ("ChartroomSpc$Phase", "first", "I", false)
  | 1 => ("ChartroomSpc$Phase", "pointCount", "I", false)
  | 2 => ("ChartroomSpc$Phase", "sum", "I", false)
  | 3 => ("ChartroomSpc$Phase", "rangeSum", "I", false)
  | 4 => ("ChartroomSpc$Phase", "isFrozen", "Z", false)
  | 5 => ("ChartroomSpc$Phase", "center", "I", false)
  | 6 => ("ChartroomSpc$Phase", "meanRange", "I", false)
  | 7 => ("ChartroomSpc$Phase", "width", "I", false)
  | _ => ("ChartroomSpc$Phase", "rangeLimit", "I", false)
def tyX0 : Nat → FieldType := fun k => match k with
  | 0 => .int
  | 1 => .int
  | 2 => .int
  | 3 => .int
  | 4 => .boolean
  | 5 => .int
  | 6 => .int
  | 7 => .int
  | _ => .int
abbrev wsX00 : List Cond := u_ws RX0 TX0 9
theorem nmX0 : ∀ a, a < 9 → ∀ b, b < 9 → a ≠ b → (TX0 a).2.1 ≠ (TX0 b).2.1 := by decide +kernel
theorem tyX0_ok : ∀ k, k < 9 → parseFieldDescriptor (TX0 k).2.2.1 = some (tyX0 k) := by decide +kernel
abbrev cX0_init : ByteArray := prog_2_method_1_code
def yX0_init : MethodName := ⟨RX0, "<init>", "()V"⟩
abbrev cX0_restart : ByteArray := prog_2_method_2_code
def yX0_restart : MethodName := ⟨RX0, "restart", "(I)V"⟩
abbrev cX0_hasLimits : ByteArray := prog_2_method_3_code
def yX0_hasLimits : MethodName := ⟨RX0, "hasLimits", "()Z"⟩
abbrev cX0_settle : ByteArray := prog_2_method_4_code
def yX0_settle : MethodName := ⟨RX0, "settle", "(I)V"⟩
abbrev cX0_sideOfCenter : ByteArray := prog_2_method_5_code
def yX0_sideOfCenter : MethodName := ⟨RX0, "sideOfCenter", "(I)I"⟩
abbrev cX0_sideBeyond : ByteArray := prog_2_method_6_code
def yX0_sideBeyond : MethodName := ⟨RX0, "sideBeyond", "(II)I"⟩
def RX1 : String := "ChartroomSpc$RunCounts"
def TX1 : u_T := fun k => match k with
  | 0 => ("ChartroomSpc$RunCounts", "taken", "I", false)
  | 1 => ("ChartroomSpc$RunCounts", "lastMean", "I", false)
  | 2 => ("ChartroomSpc$RunCounts", "lastDirection", "I", false)
  | 3 => ("ChartroomSpc$RunCounts", "centerSide", "I", false)
  | 4 => ("ChartroomSpc$RunCounts", "onSide", "I", false)
  | 5 => ("ChartroomSpc$RunCounts", "steady", "I", false)
  | 6 => ("ChartroomSpc$RunCounts", "turning", "I", false)
  | 7 => ("ChartroomSpc$RunCounts", "near", "I", false)
  | 8 => ("ChartroomSpc$RunCounts", "far", "I", false)
  | 9 => ("ChartroomSpc$RunCounts", "sideBeyond3", "I", false)
  | 10 => ("ChartroomSpc$RunCounts", "sideBeyond2", "I", false)
  | 11 => ("ChartroomSpc$RunCounts", "sideBeyond1", "I", false)
  | 12 => ("ChartroomSpc$RunCounts", "upper2", "I", false)
  | 13 => ("ChartroomSpc$RunCounts", "lower2", "I", false)
  | 14 => ("ChartroomSpc$RunCounts", "upper1", "I", false)
  | _ => ("ChartroomSpc$RunCounts", "lower1", "I", false)
def tyX1 : Nat → FieldType := fun k => match k with
  | 0 => .int
  | 1 => .int
  | 2 => .int
  | 3 => .int
  | 4 => .int
  | 5 => .int
  | 6 => .int
  | 7 => .int
  | 8 => .int
  | 9 => .int
  | 10 => .int
  | 11 => .int
  | 12 => .int
  | 13 => .int
  | 14 => .int
  | _ => .int
abbrev wsX10 : List Cond := u_ws RX1 TX1 16
theorem nmX1 : ∀ a, a < 16 → ∀ b, b < 16 → a ≠ b → (TX1 a).2.1 ≠ (TX1 b).2.1 := by decide +kernel
theorem tyX1_ok : ∀ k, k < 16 → parseFieldDescriptor (TX1 k).2.2.1 = some (tyX1 k) := by decide +kernel
abbrev cX1_init : ByteArray := prog_3_method_1_code
def yX1_init : MethodName := ⟨RX1, "<init>", "()V"⟩
abbrev cX1_restart : ByteArray := prog_3_method_2_code
def yX1_restart : MethodName := ⟨RX1, "restart", "()V"⟩
abbrev cX1_take : ByteArray := prog_3_method_3_code
def yX1_take : MethodName := ⟨RX1, "take", "(ILChartroomSpc$Phase;)V"⟩
abbrev cX1_takeCenterSide : ByteArray := prog_3_method_4_code
def yX1_takeCenterSide : MethodName := ⟨RX1, "takeCenterSide", "(I)V"⟩
abbrev cX1_takeDirection : ByteArray := prog_3_method_5_code
def yX1_takeDirection : MethodName := ⟨RX1, "takeDirection", "(I)V"⟩
abbrev cX1_takeSidesBeyond : ByteArray := prog_3_method_6_code
def yX1_takeSidesBeyond : MethodName := ⟨RX1, "takeSidesBeyond", "(ILChartroomSpc$Phase;)V"⟩
abbrev cX1_pushed : ByteArray := prog_3_method_7_code
def yX1_pushed : MethodName := ⟨RX1, "pushed", "(IZI)I"⟩
abbrev cX1_brokenRules : ByteArray := prog_3_method_8_code
def yX1_brokenRules : MethodName := ⟨RX1, "brokenRules", "()I"⟩
abbrev cX1_bitOf : ByteArray := prog_3_method_9_code
def yX1_bitOf : MethodName := ⟨RX1, "bitOf", "(IZ)I"⟩
abbrev cX1_isOften : ByteArray := prog_3_method_10_code
def yX1_isOften : MethodName := ⟨RX1, "isOften", "(IIII)Z"⟩
def RX2 : String := "ChartroomSpc$Window"
def TX2 : u_T := fun k => match k with
  | 0 => ("ChartroomSpc$Window", "numbers", "[I", true)
  | 1 => ("ChartroomSpc$Window", "levels", "[I", true)
  | _ => ("ChartroomSpc$Window", "count", "I", false)
def tyX2 : Nat → FieldType := fun k => match k with
  | 0 => .array .int
  | 1 => .array .int
  | _ => .int
abbrev wsX20 : List Cond := u_ws RX2 TX2 3
theorem nmX2 : ∀ a, a < 3 → ∀ b, b < 3 → a ≠ b → (TX2 a).2.1 ≠ (TX2 b).2.1 := by decide +kernel
theorem tyX2_ok : ∀ k, k < 3 → parseFieldDescriptor (TX2 k).2.2.1 = some (tyX2 k) := by decide +kernel
abbrev cX2_init : ByteArray := prog_4_method_1_code
def yX2_init : MethodName := ⟨RX2, "<init>", "()V"⟩
abbrev cX2_restart : ByteArray := prog_4_method_2_code
def yX2_restart : MethodName := ⟨RX2, "restart", "()V"⟩
abbrev cX2_isFull : ByteArray := prog_4_method_3_code
def yX2_isFull : MethodName := ⟨RX2, "isFull", "()Z"⟩
abbrev cX2_add : ByteArray := prog_4_method_4_code
def yX2_add : MethodName := ⟨RX2, "add", "(II)V"⟩
abbrev cX2_subgroupAt : ByteArray := prog_4_method_5_code
def yX2_subgroupAt : MethodName := ⟨RX2, "subgroupAt", "(I)I"⟩
abbrev cX2_breaks : ByteArray := prog_4_method_6_code
def yX2_breaks : MethodName := ⟨RX2, "breaks", "(ILChartroomSpc$Phase;)Z"⟩
abbrev cX2_isOnOneSide : ByteArray := prog_4_method_7_code
def yX2_isOnOneSide : MethodName := ⟨RX2, "isOnOneSide", "(ILChartroomSpc$Phase;)Z"⟩
abbrev cX2_isSteady : ByteArray := prog_4_method_8_code
def yX2_isSteady : MethodName := ⟨RX2, "isSteady", "(I)Z"⟩
abbrev cX2_isTurning : ByteArray := prog_4_method_9_code
def yX2_isTurning : MethodName := ⟨RX2, "isTurning", "(I)Z"⟩
abbrev cX2_isOften : ByteArray := prog_4_method_10_code
def yX2_isOften : MethodName := ⟨RX2, "isOften", "(IIILChartroomSpc$Phase;)Z"⟩
abbrev cX2_beyondSome : ByteArray := prog_4_method_11_code
def yX2_beyondSome : MethodName := ⟨RX2, "beyondSome", "(ILChartroomSpc$Phase;)I"⟩
def RX3 : String := "ChartroomSpc"
def TX3 : u_T := fun k => match k with
  | 0 => ("ChartroomSpc", "size", "I", false)
  | 1 => ("ChartroomSpc", "weight", "I", false)
  | 2 => ("ChartroomSpc", "begun", "I", false)
  | 3 => ("ChartroomSpc", "begunSum", "I", false)
  | 4 => ("ChartroomSpc", "begunLeast", "I", false)
  | 5 => ("ChartroomSpc", "begunGreatest", "I", false)
  | 6 => ("ChartroomSpc", "done", "I", false)
  | 7 => ("ChartroomSpc", "sums", "[I", true)
  | 8 => ("ChartroomSpc", "rangeRow", "[I", true)
  | 9 => ("ChartroomSpc", "meanRow", "[I", true)
  | 10 => ("ChartroomSpc", "reasons", "[I", true)
  | 11 => ("ChartroomSpc", "phaseNumbers", "[I", true)
  | 12 => ("ChartroomSpc", "phaseCount", "I", false)
  | 13 => ("ChartroomSpc", "phaseRow", "[LChartroomSpc$Phase;", true)
  | 14 => ("ChartroomSpc", "counts", "LChartroomSpc$RunCounts;", true)
  | _ => ("ChartroomSpc", "window", "LChartroomSpc$Window;", true)
def tyX3 : Nat → FieldType := fun k => match k with
  | 0 => .int
  | 1 => .int
  | 2 => .int
  | 3 => .int
  | 4 => .int
  | 5 => .int
  | 6 => .int
  | 7 => .array .int
  | 8 => .array .int
  | 9 => .array .int
  | 10 => .array .int
  | 11 => .array .int
  | 12 => .int
  | 13 => .array (.object "ChartroomSpc$Phase")
  | 14 => .object "ChartroomSpc$RunCounts"
  | _ => .object "ChartroomSpc$Window"
abbrev wsX30 : List Cond := u_ws RX3 TX3 16
theorem nmX3 : ∀ a, a < 16 → ∀ b, b < 16 → a ≠ b → (TX3 a).2.1 ≠ (TX3 b).2.1 := by decide +kernel
theorem tyX3_ok : ∀ k, k < 16 → parseFieldDescriptor (TX3 k).2.2.1 = some (tyX3 k) := by decide +kernel
abbrev cX3_init : ByteArray := prog_1_method_1_code
def yX3_init : MethodName := ⟨RX3, "<init>", "()V"⟩
abbrev cX3_begin : ByteArray := prog_1_method_2_code
def yX3_begin : MethodName := ⟨RX3, "begin", "(I)V"⟩
abbrev cX3_put : ByteArray := prog_1_method_3_code
def yX3_put : MethodName := ⟨RX3, "put", "(I)Z"⟩
abbrev cX3_newPhase : ByteArray := prog_1_method_4_code
def yX3_newPhase : MethodName := ⟨RX3, "newPhase", "()I"⟩
abbrev cX3_freeze : ByteArray := prog_1_method_5_code
def yX3_freeze : MethodName := ⟨RX3, "freeze", "(I)V"⟩
abbrev cX3_thaw : ByteArray := prog_1_method_6_code
def yX3_thaw : MethodName := ⟨RX3, "thaw", "(I)V"⟩
abbrev cX3_exclude : ByteArray := prog_1_method_7_code
def yX3_exclude : MethodName := ⟨RX3, "exclude", "(II)I"⟩
abbrev cX3_subgroups : ByteArray := prog_1_method_8_code
def yX3_subgroups : MethodName := ⟨RX3, "subgroups", "()I"⟩
abbrev cX3_phases : ByteArray := prog_1_method_9_code
def yX3_phases : MethodName := ⟨RX3, "phases", "()I"⟩
abbrev cX3_mean : ByteArray := prog_1_method_10_code
def yX3_mean : MethodName := ⟨RX3, "mean", "(I)I"⟩
abbrev cX3_range : ByteArray := prog_1_method_11_code
def yX3_range : MethodName := ⟨RX3, "range", "(I)I"⟩
abbrev cX3_phaseOf : ByteArray := prog_1_method_12_code
def yX3_phaseOf : MethodName := ⟨RX3, "phaseOf", "(I)I"⟩
abbrev cX3_points : ByteArray := prog_1_method_13_code
def yX3_points : MethodName := ⟨RX3, "points", "(I)I"⟩
abbrev cX3_center : ByteArray := prog_1_method_14_code
def yX3_center : MethodName := ⟨RX3, "center", "(I)I"⟩
abbrev cX3_width : ByteArray := prog_1_method_15_code
def yX3_width : MethodName := ⟨RX3, "width", "(I)I"⟩
abbrev cX3_rangeLimit : ByteArray := prog_1_method_16_code
def yX3_rangeLimit : MethodName := ⟨RX3, "rangeLimit", "(I)I"⟩
abbrev cX3_signals : ByteArray := prog_1_method_17_code
def yX3_signals : MethodName := ⟨RX3, "signals", "(I)I"⟩
abbrev cX3_signalsByWindows : ByteArray := prog_1_method_18_code
def yX3_signalsByWindows : MethodName := ⟨RX3, "signalsByWindows", "(I)I"⟩
abbrev cX3_firstOf : ByteArray := prog_1_method_19_code
def yX3_firstOf : MethodName := ⟨RX3, "firstOf", "(II)I"⟩
abbrev cX3_isWide : ByteArray := prog_1_method_20_code
def yX3_isWide : MethodName := ⟨RX3, "isWide", "(I)Z"⟩
abbrev cX3_alarms : ByteArray := prog_1_method_21_code
def yX3_alarms : MethodName := ⟨RX3, "alarms", "()I"⟩
abbrev cX3_setWeight : ByteArray := prog_1_method_22_code
def yX3_setWeight : MethodName := ⟨RX3, "setWeight", "(I)I"⟩
abbrev cX3_weighted : ByteArray := prog_1_method_23_code
def yX3_weighted : MethodName := ⟨RX3, "weighted", "(I)I"⟩
abbrev cX3_cumulative : ByteArray := prog_1_method_24_code
def yX3_cumulative : MethodName := ⟨RX3, "cumulative", "(IZ)I"⟩
abbrev cX3_capability : ByteArray := prog_1_method_25_code
def yX3_capability : MethodName := ⟨RX3, "capability", "(IIIZ)J"⟩
abbrev cX3_restart : ByteArray := prog_1_method_26_code
def yX3_restart : MethodName := ⟨RX3, "restart", "(I)V"⟩
abbrev cX3_takeMeasurement : ByteArray := prog_1_method_27_code
def yX3_takeMeasurement : MethodName := ⟨RX3, "takeMeasurement", "(I)V"⟩
abbrev cX3_finishSubgroup : ByteArray := prog_1_method_28_code
def yX3_finishSubgroup : MethodName := ⟨RX3, "finishSubgroup", "()V"⟩
abbrev cX3_countPoint : ByteArray := prog_1_method_29_code
def yX3_countPoint : MethodName := ⟨RX3, "countPoint", "(II)V"⟩
abbrev cX3_lookBack : ByteArray := prog_1_method_30_code
def yX3_lookBack : MethodName := ⟨RX3, "lookBack", "(ILChartroomSpc$Phase;)V"⟩
abbrev cX3_checkSubgroup : ByteArray := prog_1_method_31_code
def yX3_checkSubgroup : MethodName := ⟨RX3, "checkSubgroup", "(I)V"⟩
abbrev cX3_checkPoint : ByteArray := prog_1_method_32_code
def yX3_checkPoint : MethodName := ⟨RX3, "checkPoint", "(I)V"⟩
abbrev cX3_isPoint : ByteArray := prog_1_method_33_code
def yX3_isPoint : MethodName := ⟨RX3, "isPoint", "(I)Z"⟩
abbrev cX3_findPhase : ByteArray := prog_1_method_34_code
def yX3_findPhase : MethodName := ⟨RX3, "findPhase", "(I)LChartroomSpc$Phase;"⟩
abbrev cX3_findLimits : ByteArray := prog_1_method_35_code
def yX3_findLimits : MethodName := ⟨RX3, "findLimits", "(I)LChartroomSpc$Phase;"⟩
abbrev cX3_phaseHolding : ByteArray := prog_1_method_36_code
def yX3_phaseHolding : MethodName := ⟨RX3, "phaseHolding", "(I)LChartroomSpc$Phase;"⟩
abbrev cX3_lastPhase : ByteArray := prog_1_method_37_code
def yX3_lastPhase : MethodName := ⟨RX3, "lastPhase", "()LChartroomSpc$Phase;"⟩
abbrev cX3_isMeasurement : ByteArray := prog_1_method_38_code
def yX3_isMeasurement : MethodName := ⟨RX3, "isMeasurement", "(I)Z"⟩
abbrev cX3_bySize : ByteArray := prog_1_method_39_code
def yX3_bySize : MethodName := ⟨RX3, "bySize", "([II)I"⟩
abbrev cX3_pointsOfRule : ByteArray := prog_1_method_40_code
def yX3_pointsOfRule : MethodName := ⟨RX3, "pointsOfRule", "(I)I"⟩
abbrev cX3_floored : ByteArray := prog_1_method_41_code
def yX3_floored : MethodName := ⟨RX3, "floored", "(JJ)J"⟩
abbrev cX3_rounded : ByteArray := prog_1_method_42_code
def yX3_rounded : MethodName := ⟨RX3, "rounded", "(JJ)J"⟩
abbrev cX3_direction : ByteArray := prog_1_method_43_code
def yX3_direction : MethodName := ⟨RX3, "direction", "(II)I"⟩
def RX4 : String := "ChartroomSpcModel"
def TX4 : u_T := fun k => match k with
  | _ => ("", "", "", false)
def tyX4 : Nat → FieldType := fun k => match k with
  | _ => .int
abbrev wsX40 : List Cond := u_ws RX4 TX4 0
theorem nmX4 : ∀ a, a < 0 → ∀ b, b < 0 → a ≠ b → (TX4 a).2.1 ≠ (TX4 b).2.1 := by decide +kernel
theorem tyX4_ok : ∀ k, k < 0 → parseFieldDescriptor (TX4 k).2.2.1 = some (tyX4 k) := by decide +kernel
def RJ6 : String := "java/lang/Integer"
def TJ6 : u_T := fun k => match k with
  | _ => ("", "", "", false)
def tyJ6 : Nat → FieldType := fun k => match k with
  | _ => .int
abbrev wsJ60 : List Cond := u_ws RJ6 TJ6 0
theorem nmJ6 : ∀ a, a < 0 → ∀ b, b < 0 → a ≠ b → (TJ6 a).2.1 ≠ (TJ6 b).2.1 := by decide +kernel
theorem tyJ6_ok : ∀ k, k < 0 → parseFieldDescriptor (TJ6 k).2.2.1 = some (tyJ6 k) := by decide +kernel
abbrev cJ6_bitCount_0f7a4 : ByteArray := prog_11_method_49_code
def yJ6_bitCount_0f7a4 : MethodName := ⟨RJ6, "bitCount", "(I)I"⟩
def RJ9 : String := "java/lang/Math"
def TJ9 : u_T := fun k => match k with
  | _ => ("", "", "", false)
def tyJ9 : Nat → FieldType := fun k => match k with
  | _ => .int
abbrev wsJ90 : List Cond := u_ws RJ9 TJ9 0
theorem nmJ9 : ∀ a, a < 0 → ∀ b, b < 0 → a ≠ b → (TJ9 a).2.1 ≠ (TJ9 b).2.1 := by decide +kernel
theorem tyJ9_ok : ∀ k, k < 0 → parseFieldDescriptor (TJ9 k).2.2.1 = some (tyJ9 k) := by decide +kernel
abbrev cJ9_floorDiv_7cf53 : ByteArray := prog_12_method_47_code
def yJ9_floorDiv_7cf53 : MethodName := ⟨RJ9, "floorDiv", "(II)I"⟩
abbrev cJ9_floorDiv_f86c9 : ByteArray := prog_12_method_49_code
def yJ9_floorDiv_f86c9 : MethodName := ⟨RJ9, "floorDiv", "(JJ)J"⟩
abbrev cJ9_max_7cf53 : ByteArray := prog_12_method_65_code
def yJ9_max_7cf53 : MethodName := ⟨RJ9, "max", "(II)I"⟩
abbrev cJ9_min_7cf53 : ByteArray := prog_12_method_69_code
def yJ9_min_7cf53 : MethodName := ⟨RJ9, "min", "(II)I"⟩
abbrev cJ9_min_f86c9 : ByteArray := prog_12_method_70_code
def yJ9_min_f86c9 : MethodName := ⟨RJ9, "min", "(JJ)J"⟩
def RJ0 : String := "java/lang/String"
def TJ0 : u_T := fun k => match k with
  | _ => ("", "", "", false)
def tyJ0 : Nat → FieldType := fun k => match k with
  | _ => .int
abbrev wsJ00 : List Cond := u_ws RJ0 TJ0 0
theorem nmJ0 : ∀ a, a < 0 → ∀ b, b < 0 → a ≠ b → (TJ0 a).2.1 ≠ (TJ0 b).2.1 := by decide +kernel
theorem tyJ0_ok : ∀ k, k < 0 → parseFieldDescriptor (TJ0 k).2.2.1 = some (tyJ0 k) := by decide +kernel
def RL : String := "ChartroomSpcLaw"
abbrev cL_begin : ByteArray := method_2_code
def yL_begin : MethodName := ⟨RL, "begin", "(LChartroomSpc;I)I"⟩
abbrev cL_holds : ByteArray := method_3_code
def yL_holds : MethodName := ⟨RL, "holds", "(LChartroomSpc;I)I"⟩
abbrev cL_thaws : ByteArray := method_4_code
def yL_thaws : MethodName := ⟨RL, "thaws", "(LChartroomSpc;I)I"⟩
abbrev cL_act : ByteArray := method_5_code
def yL_act : MethodName := ⟨RL, "act", "(LChartroomSpc;IIII)J"⟩
abbrev cL_refuses : ByteArray := method_6_code
def yL_refuses : MethodName := ⟨RL, "refuses", "(LChartroomSpc;)Z"⟩
abbrev cL_two : ByteArray := method_7_code
def yL_two : MethodName := ⟨RL, "two", "(LChartroomSpc;II)Z"⟩
abbrev cL_limits : ByteArray := method_8_code
def yL_limits : MethodName := ⟨RL, "limits", "(LChartroomSpc;III)Z"⟩
abbrev cL_breaks : ByteArray := method_9_code
def yL_breaks : MethodName := ⟨RL, "breaks", "(LChartroomSpc;II)Z"⟩
abbrev cL_charts : ByteArray := method_10_code
def yL_charts : MethodName := ⟨RL, "charts", "()Z"⟩
abbrev cL_rules : ByteArray := method_11_code
def yL_rules : MethodName := ⟨RL, "rules", "()Z"⟩
abbrev cL_law : ByteArray := code
def yL_law : MethodName := ⟨RL, "law", "([I)Z"⟩
abbrev vwCl : List vw_C := [(RX0, TX0, 9), (RX1, TX1, 16), (RX2, TX2, 3), (RX3, TX3, 16)]
end
section
def zU : List Cond := lw_tbl.filter goodWord
theorem zU_t {w : Cond} (i : Nat) (h : tables_1[i]? = some w) (hg : goodWord w = true) : w ∈ zU := List.mem_filter.mpr ⟨List.mem_append_right _ (List.mem_of_getElem? h), hg⟩
theorem zU_s {q : MethodName × Nat} (i : Nat) (h : lw_privs[i]? = some q) : Cond.selects q.1.cls q.1 q.1 ∈ zU := List.mem_filter.mpr ⟨List.mem_append_left _ (List.mem_map.mpr ⟨q, List.mem_of_getElem? h, rfl⟩), rfl⟩
theorem zU_good : ∀ w ∈ zU, goodWord w = true := fun w h => (List.mem_filter.mp h).2
theorem m_0 : Cond.initialized RL ∈ zU := zU_t 0 (by decide +kernel) rfl
theorem m_1 : Cond.initialized RX3 ∈ zU := zU_t 1 (by decide +kernel) rfl
theorem m_2 : Cond.initialized RX0 ∈ zU := zU_t 2 (by decide +kernel) rfl
theorem m_3 : Cond.initialized RX1 ∈ zU := zU_t 3 (by decide +kernel) rfl
theorem m_4 : Cond.initialized RX2 ∈ zU := zU_t 4 (by decide +kernel) rfl
theorem m_5 : Cond.initialized "java/lang/Throwable" ∈ zU := zU_t 5 (by decide +kernel) rfl
theorem m_6 : Cond.initialized "java/lang/Exception" ∈ zU := zU_t 6 (by decide +kernel) rfl
theorem m_7 : Cond.initialized "java/lang/RuntimeException" ∈ zU := zU_t 7 (by decide +kernel) rfl
theorem m_8 : Cond.initialized "java/lang/IndexOutOfBoundsException" ∈ zU := zU_t 8 (by decide +kernel) rfl
theorem m_9 : Cond.initialized RJ6 ∈ zU := zU_t 9 (by decide +kernel) rfl
theorem m_10 : Cond.initialized "java/lang/IllegalArgumentException" ∈ zU := zU_t 10 (by decide +kernel) rfl
theorem m_11 : Cond.initialized "java/lang/IllegalStateException" ∈ zU := zU_t 11 (by decide +kernel) rfl
theorem m_12 : Cond.initialized RJ9 ∈ zU := zU_t 12 (by decide +kernel) rfl
theorem m_13 : Cond.classLink RL 8 RX3 ∈ zU := zU_t 13 (by decide +kernel) rfl
theorem m_14 : Cond.instantiable RX3 16 ∈ zU := zU_t 14 (by decide +kernel) rfl
theorem m_15 : Cond.methodLink RL 116 yX3_init ∈ zU := zU_t 15 (by decide +kernel) rfl
theorem m_16 : Cond.instanceMethod yX3_init ∈ zU := zU_t 16 (by decide +kernel) rfl
theorem m_17 : Cond.code yX3_init cX3_init 2 none ∈ zU := zU_t 17 (by decide +kernel) rfl
theorem m_18 : Cond.methodLink RX3 1 objectInit ∈ zU := zU_t 18 (by decide +kernel) rfl
theorem m_19 : Cond.instanceMethod objectInit ∈ zU := zU_t 19 (by decide +kernel) rfl
theorem m_20 : Cond.code objectInit ⟨#[0xb1]⟩ 1 none ∈ zU := zU_t 20 (by decide +kernel) rfl
theorem m_21 : Cond.classLink RX3 25 RX0 ∈ zU := zU_t 21 (by decide +kernel) rfl
theorem m_23 : Cond.instantiable RX0 9 ∈ zU := zU_t 23 (by decide +kernel) rfl
theorem m_25 : Cond.instanceMethod yX0_init ∈ zU := zU_t 25 (by decide +kernel) rfl
theorem m_26 : Cond.code yX0_init cX0_init 1 none ∈ zU := zU_t 26 (by decide +kernel) rfl
theorem m_27 : Cond.methodLink RX0 1 objectInit ∈ zU := zU_t 27 (by decide +kernel) rfl
theorem m_28 : Cond.fieldLink RX0 7 "ChartroomSpc$Phase" "first" "I" ∈ zU := zU_t 28 (by decide +kernel) rfl
theorem m_29 : Cond.fieldLink RX3 95 "ChartroomSpc$Phase" "first" "I" ∈ zU := zU_t 29 (by decide +kernel) rfl
theorem m_30 : Cond.fieldLink RX0 13 "ChartroomSpc$Phase" "pointCount" "I" ∈ zU := zU_t 30 (by decide +kernel) rfl
theorem m_31 : Cond.fieldLink RX3 111 "ChartroomSpc$Phase" "pointCount" "I" ∈ zU := zU_t 31 (by decide +kernel) rfl
theorem m_32 : Cond.fieldLink RX0 16 "ChartroomSpc$Phase" "sum" "I" ∈ zU := zU_t 32 (by decide +kernel) rfl
theorem m_33 : Cond.fieldLink RX3 241 "ChartroomSpc$Phase" "sum" "I" ∈ zU := zU_t 33 (by decide +kernel) rfl
theorem m_34 : Cond.fieldLink RX0 19 "ChartroomSpc$Phase" "rangeSum" "I" ∈ zU := zU_t 34 (by decide +kernel) rfl
theorem m_35 : Cond.fieldLink RX3 244 "ChartroomSpc$Phase" "rangeSum" "I" ∈ zU := zU_t 35 (by decide +kernel) rfl
theorem m_36 : Cond.fieldLink RX0 22 "ChartroomSpc$Phase" "isFrozen" "Z" ∈ zU := zU_t 36 (by decide +kernel) rfl
theorem m_37 : Cond.fieldLink RX3 105 "ChartroomSpc$Phase" "isFrozen" "Z" ∈ zU := zU_t 37 (by decide +kernel) rfl
theorem m_38 : Cond.fieldLink RX0 34 "ChartroomSpc$Phase" "center" "I" ∈ zU := zU_t 38 (by decide +kernel) rfl
theorem m_39 : Cond.fieldLink RX3 133 "ChartroomSpc$Phase" "center" "I" ∈ zU := zU_t 39 (by decide +kernel) rfl
theorem m_40 : Cond.fieldLink RX0 37 "ChartroomSpc$Phase" "meanRange" "I" ∈ zU := zU_t 40 (by decide +kernel) rfl
theorem m_41 : Cond.fieldLink RX3 204 "ChartroomSpc$Phase" "meanRange" "I" ∈ zU := zU_t 41 (by decide +kernel) rfl
theorem m_42 : Cond.fieldLink RX0 48 "ChartroomSpc$Phase" "width" "I" ∈ zU := zU_t 42 (by decide +kernel) rfl
theorem m_43 : Cond.fieldLink RX3 136 "ChartroomSpc$Phase" "width" "I" ∈ zU := zU_t 43 (by decide +kernel) rfl
theorem m_44 : Cond.fieldLink RX0 54 "ChartroomSpc$Phase" "rangeLimit" "I" ∈ zU := zU_t 44 (by decide +kernel) rfl
theorem m_45 : Cond.fieldLink RX3 139 "ChartroomSpc$Phase" "rangeLimit" "I" ∈ zU := zU_t 45 (by decide +kernel) rfl
theorem m_46 : Cond.lays RX0 "ChartroomSpc$Phase" "first" "I" ∈ zU := zU_t 46 (by decide +kernel) rfl
theorem m_48 : Cond.lays RX0 "ChartroomSpc$Phase" "pointCount" "I" ∈ zU := zU_t 48 (by decide +kernel) rfl
theorem m_50 : Cond.lays RX0 "ChartroomSpc$Phase" "sum" "I" ∈ zU := zU_t 50 (by decide +kernel) rfl
theorem m_52 : Cond.lays RX0 "ChartroomSpc$Phase" "rangeSum" "I" ∈ zU := zU_t 52 (by decide +kernel) rfl
theorem m_54 : Cond.lays RX0 "ChartroomSpc$Phase" "isFrozen" "Z" ∈ zU := zU_t 54 (by decide +kernel) rfl
theorem m_56 : Cond.lays RX0 "ChartroomSpc$Phase" "center" "I" ∈ zU := zU_t 56 (by decide +kernel) rfl
theorem m_58 : Cond.lays RX0 "ChartroomSpc$Phase" "meanRange" "I" ∈ zU := zU_t 58 (by decide +kernel) rfl
theorem m_60 : Cond.lays RX0 "ChartroomSpc$Phase" "width" "I" ∈ zU := zU_t 60 (by decide +kernel) rfl
theorem m_62 : Cond.lays RX0 "ChartroomSpc$Phase" "rangeLimit" "I" ∈ zU := zU_t 62 (by decide +kernel) rfl
theorem m_65 : Cond.arrayClass .int ∈ zU := zU_t 65 (by decide +kernel) rfl
theorem m_66 : Cond.classLink RX3 32 RX1 ∈ zU := zU_t 66 (by decide +kernel) rfl
theorem m_67 : Cond.instantiable RX1 16 ∈ zU := zU_t 67 (by decide +kernel) rfl
theorem m_69 : Cond.instanceMethod yX1_init ∈ zU := zU_t 69 (by decide +kernel) rfl
theorem m_70 : Cond.code yX1_init cX1_init 1 none ∈ zU := zU_t 70 (by decide +kernel) rfl
theorem m_71 : Cond.methodLink RX1 1 objectInit ∈ zU := zU_t 71 (by decide +kernel) rfl
theorem m_72 : Cond.fieldLink RX1 7 "ChartroomSpc$RunCounts" "taken" "I" ∈ zU := zU_t 72 (by decide +kernel) rfl
theorem m_73 : Cond.fieldLink RX1 13 "ChartroomSpc$RunCounts" "lastMean" "I" ∈ zU := zU_t 73 (by decide +kernel) rfl
theorem m_74 : Cond.fieldLink RX1 16 "ChartroomSpc$RunCounts" "lastDirection" "I" ∈ zU := zU_t 74 (by decide +kernel) rfl
theorem m_75 : Cond.fieldLink RX1 19 "ChartroomSpc$RunCounts" "centerSide" "I" ∈ zU := zU_t 75 (by decide +kernel) rfl
theorem m_76 : Cond.fieldLink RX1 22 "ChartroomSpc$RunCounts" "onSide" "I" ∈ zU := zU_t 76 (by decide +kernel) rfl
theorem m_77 : Cond.fieldLink RX1 25 "ChartroomSpc$RunCounts" "steady" "I" ∈ zU := zU_t 77 (by decide +kernel) rfl
theorem m_78 : Cond.fieldLink RX1 28 "ChartroomSpc$RunCounts" "turning" "I" ∈ zU := zU_t 78 (by decide +kernel) rfl
theorem m_79 : Cond.fieldLink RX1 31 "ChartroomSpc$RunCounts" "near" "I" ∈ zU := zU_t 79 (by decide +kernel) rfl
theorem m_80 : Cond.fieldLink RX1 34 "ChartroomSpc$RunCounts" "far" "I" ∈ zU := zU_t 80 (by decide +kernel) rfl
theorem m_81 : Cond.fieldLink RX1 49 "ChartroomSpc$RunCounts" "sideBeyond3" "I" ∈ zU := zU_t 81 (by decide +kernel) rfl
theorem m_82 : Cond.fieldLink RX1 52 "ChartroomSpc$RunCounts" "sideBeyond2" "I" ∈ zU := zU_t 82 (by decide +kernel) rfl
theorem m_83 : Cond.fieldLink RX1 55 "ChartroomSpc$RunCounts" "sideBeyond1" "I" ∈ zU := zU_t 83 (by decide +kernel) rfl
theorem m_84 : Cond.fieldLink RX1 37 "ChartroomSpc$RunCounts" "upper2" "I" ∈ zU := zU_t 84 (by decide +kernel) rfl
theorem m_85 : Cond.fieldLink RX1 40 "ChartroomSpc$RunCounts" "lower2" "I" ∈ zU := zU_t 85 (by decide +kernel) rfl
theorem m_86 : Cond.fieldLink RX1 43 "ChartroomSpc$RunCounts" "upper1" "I" ∈ zU := zU_t 86 (by decide +kernel) rfl
theorem m_87 : Cond.fieldLink RX1 46 "ChartroomSpc$RunCounts" "lower1" "I" ∈ zU := zU_t 87 (by decide +kernel) rfl
theorem m_88 : Cond.lays RX1 "ChartroomSpc$RunCounts" "taken" "I" ∈ zU := zU_t 88 (by decide +kernel) rfl
theorem m_90 : Cond.lays RX1 "ChartroomSpc$RunCounts" "lastMean" "I" ∈ zU := zU_t 90 (by decide +kernel) rfl
theorem m_92 : Cond.lays RX1 "ChartroomSpc$RunCounts" "lastDirection" "I" ∈ zU := zU_t 92 (by decide +kernel) rfl
theorem m_94 : Cond.lays RX1 "ChartroomSpc$RunCounts" "centerSide" "I" ∈ zU := zU_t 94 (by decide +kernel) rfl
theorem m_96 : Cond.lays RX1 "ChartroomSpc$RunCounts" "onSide" "I" ∈ zU := zU_t 96 (by decide +kernel) rfl
theorem m_98 : Cond.lays RX1 "ChartroomSpc$RunCounts" "steady" "I" ∈ zU := zU_t 98 (by decide +kernel) rfl
theorem m_100 : Cond.lays RX1 "ChartroomSpc$RunCounts" "turning" "I" ∈ zU := zU_t 100 (by decide +kernel) rfl
theorem m_102 : Cond.lays RX1 "ChartroomSpc$RunCounts" "near" "I" ∈ zU := zU_t 102 (by decide +kernel) rfl
theorem m_104 : Cond.lays RX1 "ChartroomSpc$RunCounts" "far" "I" ∈ zU := zU_t 104 (by decide +kernel) rfl
theorem m_106 : Cond.lays RX1 "ChartroomSpc$RunCounts" "sideBeyond3" "I" ∈ zU := zU_t 106 (by decide +kernel) rfl
theorem m_108 : Cond.lays RX1 "ChartroomSpc$RunCounts" "sideBeyond2" "I" ∈ zU := zU_t 108 (by decide +kernel) rfl
theorem m_110 : Cond.lays RX1 "ChartroomSpc$RunCounts" "sideBeyond1" "I" ∈ zU := zU_t 110 (by decide +kernel) rfl
theorem m_112 : Cond.lays RX1 "ChartroomSpc$RunCounts" "upper2" "I" ∈ zU := zU_t 112 (by decide +kernel) rfl
theorem m_114 : Cond.lays RX1 "ChartroomSpc$RunCounts" "lower2" "I" ∈ zU := zU_t 114 (by decide +kernel) rfl
theorem m_116 : Cond.lays RX1 "ChartroomSpc$RunCounts" "upper1" "I" ∈ zU := zU_t 116 (by decide +kernel) rfl
theorem m_118 : Cond.lays RX1 "ChartroomSpc$RunCounts" "lower1" "I" ∈ zU := zU_t 118 (by decide +kernel) rfl
theorem m_121 : Cond.classLink RX3 39 RX2 ∈ zU := zU_t 121 (by decide +kernel) rfl
theorem m_122 : Cond.instantiable RX2 3 ∈ zU := zU_t 122 (by decide +kernel) rfl
theorem m_124 : Cond.instanceMethod yX2_init ∈ zU := zU_t 124 (by decide +kernel) rfl
theorem m_125 : Cond.code yX2_init cX2_init 1 none ∈ zU := zU_t 125 (by decide +kernel) rfl
theorem m_126 : Cond.methodLink RX2 3 objectInit ∈ zU := zU_t 126 (by decide +kernel) rfl
theorem m_127 : Cond.fieldLink RX2 9 "ChartroomSpc$Window" "numbers" "[I" ∈ zU := zU_t 127 (by decide +kernel) rfl
theorem m_128 : Cond.fieldLink RX2 15 "ChartroomSpc$Window" "levels" "[I" ∈ zU := zU_t 128 (by decide +kernel) rfl
theorem m_129 : Cond.fieldLink RX2 18 "ChartroomSpc$Window" "count" "I" ∈ zU := zU_t 129 (by decide +kernel) rfl
theorem m_130 : Cond.laysFinal RX2 "ChartroomSpc$Window" "numbers" "[I" ∈ zU := zU_t 130 (by decide +kernel) rfl
theorem m_132 : Cond.laysFinal RX2 "ChartroomSpc$Window" "levels" "[I" ∈ zU := zU_t 132 (by decide +kernel) rfl
theorem m_134 : Cond.lays RX2 "ChartroomSpc$Window" "count" "I" ∈ zU := zU_t 134 (by decide +kernel) rfl
theorem m_137 : Cond.methodLink RX3 46 yX3_restart ∈ zU := zU_t 137 (by decide +kernel) rfl
theorem m_139 : Cond.instanceMethod yX3_restart ∈ zU := zU_t 139 (by decide +kernel) rfl
theorem m_140 : Cond.code yX3_restart cX3_restart 2 none ∈ zU := zU_t 140 (by decide +kernel) rfl
theorem m_141 : Cond.methodLink RX3 100 yX0_restart ∈ zU := zU_t 141 (by decide +kernel) rfl
theorem m_142 : Cond.instanceMethod yX0_restart ∈ zU := zU_t 142 (by decide +kernel) rfl
theorem m_143 : Cond.selects RX0 yX0_restart yX0_restart ∈ zU := zU_t 143 (by decide +kernel) rfl
theorem m_144 : Cond.code yX0_restart cX0_restart 2 none ∈ zU := zU_t 144 (by decide +kernel) rfl
theorem m_145 : Cond.fieldLink RX3 78 "ChartroomSpc" "size" "I" ∈ zU := zU_t 145 (by decide +kernel) rfl
theorem m_146 : Cond.fieldLink RX3 179 "ChartroomSpc" "weight" "I" ∈ zU := zU_t 146 (by decide +kernel) rfl
theorem m_147 : Cond.fieldLink RX3 75 "ChartroomSpc" "begun" "I" ∈ zU := zU_t 147 (by decide +kernel) rfl
theorem m_148 : Cond.fieldLink RX3 227 "ChartroomSpc" "begunSum" "I" ∈ zU := zU_t 148 (by decide +kernel) rfl
theorem m_149 : Cond.fieldLink RX3 230 "ChartroomSpc" "begunLeast" "I" ∈ zU := zU_t 149 (by decide +kernel) rfl
theorem m_150 : Cond.fieldLink RX3 235 "ChartroomSpc" "begunGreatest" "I" ∈ zU := zU_t 150 (by decide +kernel) rfl
theorem m_151 : Cond.fieldLink RX3 63 "ChartroomSpc" "done" "I" ∈ zU := zU_t 151 (by decide +kernel) rfl
theorem m_152 : Cond.fieldLink RX3 9 "ChartroomSpc" "sums" "[I" ∈ zU := zU_t 152 (by decide +kernel) rfl
theorem m_153 : Cond.fieldLink RX3 13 "ChartroomSpc" "rangeRow" "[I" ∈ zU := zU_t 153 (by decide +kernel) rfl
theorem m_154 : Cond.fieldLink RX3 16 "ChartroomSpc" "meanRow" "[I" ∈ zU := zU_t 154 (by decide +kernel) rfl
theorem m_155 : Cond.fieldLink RX3 19 "ChartroomSpc" "reasons" "[I" ∈ zU := zU_t 155 (by decide +kernel) rfl
theorem m_156 : Cond.fieldLink RX3 22 "ChartroomSpc" "phaseNumbers" "[I" ∈ zU := zU_t 156 (by decide +kernel) rfl
theorem m_157 : Cond.fieldLink RX3 84 "ChartroomSpc" "phaseCount" "I" ∈ zU := zU_t 157 (by decide +kernel) rfl
theorem m_158 : Cond.fieldLink RX3 27 "ChartroomSpc" "phaseRow" "[LChartroomSpc$Phase;" ∈ zU := zU_t 158 (by decide +kernel) rfl
theorem m_159 : Cond.fieldLink RX3 35 "ChartroomSpc" "counts" "LChartroomSpc$RunCounts;" ∈ zU := zU_t 159 (by decide +kernel) rfl
theorem m_160 : Cond.fieldLink RX3 42 "ChartroomSpc" "window" "LChartroomSpc$Window;" ∈ zU := zU_t 160 (by decide +kernel) rfl
theorem m_161 : Cond.lays RX3 "ChartroomSpc" "size" "I" ∈ zU := zU_t 161 (by decide +kernel) rfl
theorem m_163 : Cond.lays RX3 "ChartroomSpc" "weight" "I" ∈ zU := zU_t 163 (by decide +kernel) rfl
theorem m_165 : Cond.lays RX3 "ChartroomSpc" "begun" "I" ∈ zU := zU_t 165 (by decide +kernel) rfl
theorem m_167 : Cond.lays RX3 "ChartroomSpc" "begunSum" "I" ∈ zU := zU_t 167 (by decide +kernel) rfl
theorem m_169 : Cond.lays RX3 "ChartroomSpc" "begunLeast" "I" ∈ zU := zU_t 169 (by decide +kernel) rfl
theorem m_171 : Cond.lays RX3 "ChartroomSpc" "begunGreatest" "I" ∈ zU := zU_t 171 (by decide +kernel) rfl
theorem m_173 : Cond.lays RX3 "ChartroomSpc" "done" "I" ∈ zU := zU_t 173 (by decide +kernel) rfl
theorem m_175 : Cond.laysFinal RX3 "ChartroomSpc" "sums" "[I" ∈ zU := zU_t 175 (by decide +kernel) rfl
theorem m_177 : Cond.laysFinal RX3 "ChartroomSpc" "rangeRow" "[I" ∈ zU := zU_t 177 (by decide +kernel) rfl
theorem m_179 : Cond.laysFinal RX3 "ChartroomSpc" "meanRow" "[I" ∈ zU := zU_t 179 (by decide +kernel) rfl
theorem m_181 : Cond.laysFinal RX3 "ChartroomSpc" "reasons" "[I" ∈ zU := zU_t 181 (by decide +kernel) rfl
theorem m_183 : Cond.laysFinal RX3 "ChartroomSpc" "phaseNumbers" "[I" ∈ zU := zU_t 183 (by decide +kernel) rfl
theorem m_185 : Cond.lays RX3 "ChartroomSpc" "phaseCount" "I" ∈ zU := zU_t 185 (by decide +kernel) rfl
theorem m_187 : Cond.laysFinal RX3 "ChartroomSpc" "phaseRow" "[LChartroomSpc$Phase;" ∈ zU := zU_t 187 (by decide +kernel) rfl
theorem m_189 : Cond.laysFinal RX3 "ChartroomSpc" "counts" "LChartroomSpc$RunCounts;" ∈ zU := zU_t 189 (by decide +kernel) rfl
theorem m_191 : Cond.laysFinal RX3 "ChartroomSpc" "window" "LChartroomSpc$Window;" ∈ zU := zU_t 191 (by decide +kernel) rfl
theorem m_194 : Cond.methodLink RL 25 yX3_put ∈ zU := zU_t 194 (by decide +kernel) rfl
theorem m_195 : Cond.instanceMethod yX3_put ∈ zU := zU_t 195 (by decide +kernel) rfl
theorem m_196 : Cond.selects RX3 yX3_put yX3_put ∈ zU := zU_t 196 (by decide +kernel) rfl
theorem m_197 : Cond.code yX3_put cX3_put 2 (some .boolean) ∈ zU := zU_t 197 (by decide +kernel) rfl
theorem m_198 : Cond.methodLink RX3 57 yX3_isMeasurement ∈ zU := zU_t 198 (by decide +kernel) rfl
theorem m_199 : Cond.static yX3_isMeasurement ∈ zU := zU_t 199 (by decide +kernel) rfl
theorem m_200 : Cond.code yX3_isMeasurement cX3_isMeasurement 1 (some .boolean) ∈ zU := zU_t 200 (by decide +kernel) rfl
theorem m_201 : Cond.classLink RX3 50 "java/lang/IllegalArgumentException" ∈ zU := zU_t 201 (by decide +kernel) rfl
theorem m_268 : Cond.arrayClass .byte ∈ zU := zU_t 268 (by decide +kernel) rfl
theorem m_269 : Cond.classLink RX3 67 "java/lang/IllegalStateException" ∈ zU := zU_t 269 (by decide +kernel) rfl
theorem m_285 : Cond.methodLink RX3 72 yX3_takeMeasurement ∈ zU := zU_t 285 (by decide +kernel) rfl
theorem m_287 : Cond.instanceMethod yX3_takeMeasurement ∈ zU := zU_t 287 (by decide +kernel) rfl
theorem m_288 : Cond.code yX3_takeMeasurement cX3_takeMeasurement 3 none ∈ zU := zU_t 288 (by decide +kernel) rfl
theorem m_289 : Cond.methodLink RX3 233 yJ9_min_7cf53 ∈ zU := zU_t 289 (by decide +kernel) rfl
theorem m_290 : Cond.static yJ9_min_7cf53 ∈ zU := zU_t 290 (by decide +kernel) rfl
theorem m_291 : Cond.code yJ9_min_7cf53 cJ9_min_7cf53 2 (some .int) ∈ zU := zU_t 291 (by decide +kernel) rfl
theorem m_292 : Cond.methodLink RX3 191 yJ9_max_7cf53 ∈ zU := zU_t 292 (by decide +kernel) rfl
theorem m_293 : Cond.static yJ9_max_7cf53 ∈ zU := zU_t 293 (by decide +kernel) rfl
theorem m_294 : Cond.code yJ9_max_7cf53 cJ9_max_7cf53 2 (some .int) ∈ zU := zU_t 294 (by decide +kernel) rfl
theorem m_295 : Cond.methodLink RX3 81 yX3_finishSubgroup ∈ zU := zU_t 295 (by decide +kernel) rfl
theorem m_297 : Cond.instanceMethod yX3_finishSubgroup ∈ zU := zU_t 297 (by decide +kernel) rfl
theorem m_298 : Cond.code yX3_finishSubgroup cX3_finishSubgroup 2 none ∈ zU := zU_t 298 (by decide +kernel) rfl
theorem m_299 : Cond.constantLong RX3 202 (1000) ∈ zU := zU_t 299 (by decide +kernel) rfl
theorem m_300 : Cond.methodLink RX3 238 yX3_rounded ∈ zU := zU_t 300 (by decide +kernel) rfl
theorem m_301 : Cond.static yX3_rounded ∈ zU := zU_t 301 (by decide +kernel) rfl
theorem m_302 : Cond.code yX3_rounded cX3_rounded 4 (some .long) ∈ zU := zU_t 302 (by decide +kernel) rfl
theorem m_303 : Cond.constantLong RX3 265 (2) ∈ zU := zU_t 303 (by decide +kernel) rfl
theorem m_304 : Cond.methodLink RX3 214 yX3_floored ∈ zU := zU_t 304 (by decide +kernel) rfl
theorem m_305 : Cond.static yX3_floored ∈ zU := zU_t 305 (by decide +kernel) rfl
theorem m_306 : Cond.code yX3_floored cX3_floored 4 (some .long) ∈ zU := zU_t 306 (by decide +kernel) rfl
theorem m_307 : Cond.methodLink RX3 263 yJ9_floorDiv_f86c9 ∈ zU := zU_t 307 (by decide +kernel) rfl
theorem m_308 : Cond.static yJ9_floorDiv_f86c9 ∈ zU := zU_t 308 (by decide +kernel) rfl
theorem m_309 : Cond.code yJ9_floorDiv_f86c9 cJ9_floorDiv_f86c9 6 (some .long) ∈ zU := zU_t 309 (by decide +kernel) rfl
theorem m_310 : Cond.methodLink RX3 126 yX3_countPoint ∈ zU := zU_t 310 (by decide +kernel) rfl
theorem m_312 : Cond.instanceMethod yX3_countPoint ∈ zU := zU_t 312 (by decide +kernel) rfl
theorem m_313 : Cond.code yX3_countPoint cX3_countPoint 4 none ∈ zU := zU_t 313 (by decide +kernel) rfl
theorem m_314 : Cond.methodLink RX3 145 yX3_phaseHolding ∈ zU := zU_t 314 (by decide +kernel) rfl
theorem m_316 : Cond.instanceMethod yX3_phaseHolding ∈ zU := zU_t 316 (by decide +kernel) rfl
theorem m_317 : Cond.code yX3_phaseHolding cX3_phaseHolding 3 (some (.object "ChartroomSpc$Phase")) ∈ zU := zU_t 317 (by decide +kernel) rfl
theorem m_318 : Cond.methodLink RX3 118 yX0_settle ∈ zU := zU_t 318 (by decide +kernel) rfl
theorem m_319 : Cond.instanceMethod yX0_settle ∈ zU := zU_t 319 (by decide +kernel) rfl
theorem m_320 : Cond.selects RX0 yX0_settle yX0_settle ∈ zU := zU_t 320 (by decide +kernel) rfl
theorem m_321 : Cond.code yX0_settle cX0_settle 4 none ∈ zU := zU_t 321 (by decide +kernel) rfl
theorem m_322 : Cond.constantLong RX0 26 (1000) ∈ zU := zU_t 322 (by decide +kernel) rfl
theorem m_327 : Cond.static yX3_bySize ∈ zU := zU_t 327 (by decide +kernel) rfl
theorem m_328 : Cond.code yX3_bySize cX3_bySize 3 (some .int) ∈ zU := zU_t 328 (by decide +kernel) rfl
theorem m_331 : Cond.methodLink RL 91 yX3_subgroups ∈ zU := zU_t 331 (by decide +kernel) rfl
theorem m_332 : Cond.instanceMethod yX3_subgroups ∈ zU := zU_t 332 (by decide +kernel) rfl
theorem m_333 : Cond.selects RX3 yX3_subgroups yX3_subgroups ∈ zU := zU_t 333 (by decide +kernel) rfl
theorem m_334 : Cond.code yX3_subgroups cX3_subgroups 1 (some .int) ∈ zU := zU_t 334 (by decide +kernel) rfl
theorem m_335 : Cond.methodLink RL 101 yL_begin ∈ zU := zU_t 335 (by decide +kernel) rfl
theorem m_336 : Cond.static yL_begin ∈ zU := zU_t 336 (by decide +kernel) rfl
theorem m_337 : Cond.codeWith yL_begin cL_begin 3 (some .int) [(0, 6, 7, 13)] ∈ zU := zU_t 337 (by decide +kernel) rfl
theorem m_338 : Cond.classLink RL 13 "java/lang/IllegalArgumentException" ∈ zU := zU_t 338 (by decide +kernel) rfl
theorem m_339 : Cond.methodLink RL 7 yX3_begin ∈ zU := zU_t 339 (by decide +kernel) rfl
theorem m_340 : Cond.instanceMethod yX3_begin ∈ zU := zU_t 340 (by decide +kernel) rfl
theorem m_341 : Cond.selects RX3 yX3_begin yX3_begin ∈ zU := zU_t 341 (by decide +kernel) rfl
theorem m_342 : Cond.code yX3_begin cX3_begin 2 none ∈ zU := zU_t 342 (by decide +kernel) rfl
theorem m_344 : Cond.methodLink RL 117 yL_refuses ∈ zU := zU_t 344 (by decide +kernel) rfl
theorem m_345 : Cond.static yL_refuses ∈ zU := zU_t 345 (by decide +kernel) rfl
theorem m_346 : Cond.code yL_refuses cL_refuses 17 (some .boolean) ∈ zU := zU_t 346 (by decide +kernel) rfl
theorem m_347 : Cond.methodLink RL 94 yX3_phases ∈ zU := zU_t 347 (by decide +kernel) rfl
theorem m_348 : Cond.instanceMethod yX3_phases ∈ zU := zU_t 348 (by decide +kernel) rfl
theorem m_349 : Cond.selects RX3 yX3_phases yX3_phases ∈ zU := zU_t 349 (by decide +kernel) rfl
theorem m_350 : Cond.code yX3_phases cX3_phases 1 (some .int) ∈ zU := zU_t 350 (by decide +kernel) rfl
theorem m_351 : Cond.methodLink RL 97 yX3_alarms ∈ zU := zU_t 351 (by decide +kernel) rfl
theorem m_352 : Cond.instanceMethod yX3_alarms ∈ zU := zU_t 352 (by decide +kernel) rfl
theorem m_353 : Cond.selects RX3 yX3_alarms yX3_alarms ∈ zU := zU_t 353 (by decide +kernel) rfl
theorem m_354 : Cond.code yX3_alarms cX3_alarms 4 (some .int) ∈ zU := zU_t 354 (by decide +kernel) rfl
theorem m_355 : Cond.methodLink RX3 148 yX1_restart ∈ zU := zU_t 355 (by decide +kernel) rfl
theorem m_356 : Cond.instanceMethod yX1_restart ∈ zU := zU_t 356 (by decide +kernel) rfl
theorem m_357 : Cond.selects RX1 yX1_restart yX1_restart ∈ zU := zU_t 357 (by decide +kernel) rfl
theorem m_358 : Cond.code yX1_restart cX1_restart 1 none ∈ zU := zU_t 358 (by decide +kernel) rfl
theorem m_359 : Cond.methodLink RX3 142 yX3_isPoint ∈ zU := zU_t 359 (by decide +kernel) rfl
theorem m_361 : Cond.instanceMethod yX3_isPoint ∈ zU := zU_t 361 (by decide +kernel) rfl
theorem m_362 : Cond.code yX3_isPoint cX3_isPoint 2 (some .boolean) ∈ zU := zU_t 362 (by decide +kernel) rfl
theorem m_363 : Cond.methodLink RX3 150 yX1_take ∈ zU := zU_t 363 (by decide +kernel) rfl
theorem m_364 : Cond.instanceMethod yX1_take ∈ zU := zU_t 364 (by decide +kernel) rfl
theorem m_365 : Cond.selects RX1 yX1_take yX1_take ∈ zU := zU_t 365 (by decide +kernel) rfl
theorem m_366 : Cond.code yX1_take cX1_take 3 none ∈ zU := zU_t 366 (by decide +kernel) rfl
theorem m_367 : Cond.methodLink RX1 58 yX0_sideOfCenter ∈ zU := zU_t 367 (by decide +kernel) rfl
theorem m_368 : Cond.instanceMethod yX0_sideOfCenter ∈ zU := zU_t 368 (by decide +kernel) rfl
theorem m_369 : Cond.selects RX0 yX0_sideOfCenter yX0_sideOfCenter ∈ zU := zU_t 369 (by decide +kernel) rfl
theorem m_370 : Cond.code yX0_sideOfCenter cX0_sideOfCenter 2 (some .int) ∈ zU := zU_t 370 (by decide +kernel) rfl
theorem m_372 : Cond.static yX3_direction ∈ zU := zU_t 372 (by decide +kernel) rfl
theorem m_373 : Cond.code yX3_direction cX3_direction 2 (some .int) ∈ zU := zU_t 373 (by decide +kernel) rfl
theorem m_374 : Cond.methodLink RX1 64 yX1_takeCenterSide ∈ zU := zU_t 374 (by decide +kernel) rfl
theorem m_376 : Cond.instanceMethod yX1_takeCenterSide ∈ zU := zU_t 376 (by decide +kernel) rfl
theorem m_377 : Cond.code yX1_takeCenterSide cX1_takeCenterSide 2 none ∈ zU := zU_t 377 (by decide +kernel) rfl
theorem m_379 : Cond.methodLink RX1 74 yX1_takeDirection ∈ zU := zU_t 379 (by decide +kernel) rfl
theorem m_381 : Cond.instanceMethod yX1_takeDirection ∈ zU := zU_t 381 (by decide +kernel) rfl
theorem m_382 : Cond.code yX1_takeDirection cX1_takeDirection 2 none ∈ zU := zU_t 382 (by decide +kernel) rfl
theorem m_383 : Cond.methodLink RX1 77 yX1_takeSidesBeyond ∈ zU := zU_t 383 (by decide +kernel) rfl
theorem m_385 : Cond.instanceMethod yX1_takeSidesBeyond ∈ zU := zU_t 385 (by decide +kernel) rfl
theorem m_386 : Cond.code yX1_takeSidesBeyond cX1_takeSidesBeyond 3 none ∈ zU := zU_t 386 (by decide +kernel) rfl
theorem m_387 : Cond.methodLink RX1 81 yX0_sideBeyond ∈ zU := zU_t 387 (by decide +kernel) rfl
theorem m_388 : Cond.instanceMethod yX0_sideBeyond ∈ zU := zU_t 388 (by decide +kernel) rfl
theorem m_389 : Cond.selects RX0 yX0_sideBeyond yX0_sideBeyond ∈ zU := zU_t 389 (by decide +kernel) rfl
theorem m_390 : Cond.code yX0_sideBeyond cX0_sideBeyond 3 (some .int) ∈ zU := zU_t 390 (by decide +kernel) rfl
theorem m_391 : Cond.methodLink RX1 84 yX1_pushed ∈ zU := zU_t 391 (by decide +kernel) rfl
theorem m_392 : Cond.static yX1_pushed ∈ zU := zU_t 392 (by decide +kernel) rfl
theorem m_393 : Cond.code yX1_pushed cX1_pushed 3 (some .int) ∈ zU := zU_t 393 (by decide +kernel) rfl
theorem m_394 : Cond.methodLink RX3 154 yX1_brokenRules ∈ zU := zU_t 394 (by decide +kernel) rfl
theorem m_395 : Cond.instanceMethod yX1_brokenRules ∈ zU := zU_t 395 (by decide +kernel) rfl
theorem m_396 : Cond.selects RX1 yX1_brokenRules yX1_brokenRules ∈ zU := zU_t 396 (by decide +kernel) rfl
theorem m_397 : Cond.code yX1_brokenRules cX1_brokenRules 1 (some .int) ∈ zU := zU_t 397 (by decide +kernel) rfl
theorem m_398 : Cond.methodLink RX1 88 yX1_bitOf ∈ zU := zU_t 398 (by decide +kernel) rfl
theorem m_399 : Cond.static yX1_bitOf ∈ zU := zU_t 399 (by decide +kernel) rfl
theorem m_400 : Cond.code yX1_bitOf cX1_bitOf 2 (some .int) ∈ zU := zU_t 400 (by decide +kernel) rfl
theorem m_402 : Cond.static yX3_pointsOfRule ∈ zU := zU_t 402 (by decide +kernel) rfl
theorem m_403 : Cond.code yX3_pointsOfRule cX3_pointsOfRule 1 (some .int) ∈ zU := zU_t 403 (by decide +kernel) rfl
theorem m_404 : Cond.fieldLink RX3 260 "ChartroomSpc" "POINTS_OF_RULES" "[I" ∈ zU := zU_t 404 (by decide +kernel) rfl
theorem m_406 : Cond.methodLink RX1 95 yX1_isOften ∈ zU := zU_t 406 (by decide +kernel) rfl
theorem m_407 : Cond.static yX1_isOften ∈ zU := zU_t 407 (by decide +kernel) rfl
theorem m_408 : Cond.code yX1_isOften cX1_isOften 4 (some .boolean) ∈ zU := zU_t 408 (by decide +kernel) rfl
theorem m_409 : Cond.methodLink RX1 99 yJ6_bitCount_0f7a4 ∈ zU := zU_t 409 (by decide +kernel) rfl
theorem m_410 : Cond.static yJ6_bitCount_0f7a4 ∈ zU := zU_t 410 (by decide +kernel) rfl
theorem m_411 : Cond.code yJ6_bitCount_0f7a4 cJ6_bitCount_0f7a4 1 (some .int) ∈ zU := zU_t 411 (by decide +kernel) rfl
theorem m_412 : Cond.constant RJ6 265 (1431655765) ∈ zU := zU_t 412 (by decide +kernel) rfl
theorem m_413 : Cond.constant RJ6 266 (858993459) ∈ zU := zU_t 413 (by decide +kernel) rfl
theorem m_414 : Cond.constant RJ6 267 (252645135) ∈ zU := zU_t 414 (by decide +kernel) rfl
theorem m_415 : Cond.constantLong RL 85 (-99000011) ∈ zU := zU_t 415 (by decide +kernel) rfl
theorem m_416 : Cond.constantLong RL 87 (-99000012) ∈ zU := zU_t 416 (by decide +kernel) rfl
theorem m_417 : Cond.constant RL 100 (2147483647) ∈ zU := zU_t 417 (by decide +kernel) rfl
theorem m_418 : Cond.methodLink RL 106 yL_holds ∈ zU := zU_t 418 (by decide +kernel) rfl
theorem m_419 : Cond.static yL_holds ∈ zU := zU_t 419 (by decide +kernel) rfl
theorem m_420 : Cond.codeWith yL_holds cL_holds 3 (some .int) [(0, 6, 7, 18), (0, 6, 11, 20)] ∈ zU := zU_t 420 (by decide +kernel) rfl
theorem m_421 : Cond.classLink RL 18 "java/lang/IndexOutOfBoundsException" ∈ zU := zU_t 421 (by decide +kernel) rfl
theorem m_422 : Cond.classLink RL 20 "java/lang/IllegalStateException" ∈ zU := zU_t 422 (by decide +kernel) rfl
theorem m_423 : Cond.methodLink RL 15 yX3_freeze ∈ zU := zU_t 423 (by decide +kernel) rfl
theorem m_424 : Cond.instanceMethod yX3_freeze ∈ zU := zU_t 424 (by decide +kernel) rfl
theorem m_425 : Cond.selects RX3 yX3_freeze yX3_freeze ∈ zU := zU_t 425 (by decide +kernel) rfl
theorem m_426 : Cond.code yX3_freeze cX3_freeze 3 none ∈ zU := zU_t 426 (by decide +kernel) rfl
theorem m_427 : Cond.methodLink RX3 101 yX3_findPhase ∈ zU := zU_t 427 (by decide +kernel) rfl
theorem m_429 : Cond.instanceMethod yX3_findPhase ∈ zU := zU_t 429 (by decide +kernel) rfl
theorem m_430 : Cond.code yX3_findPhase cX3_findPhase 2 (some (.object "ChartroomSpc$Phase")) ∈ zU := zU_t 430 (by decide +kernel) rfl
theorem m_431 : Cond.classLink RX3 165 "java/lang/IndexOutOfBoundsException" ∈ zU := zU_t 431 (by decide +kernel) rfl
theorem m_449 : Cond.methodLink RL 109 yL_thaws ∈ zU := zU_t 449 (by decide +kernel) rfl
theorem m_450 : Cond.static yL_thaws ∈ zU := zU_t 450 (by decide +kernel) rfl
theorem m_451 : Cond.codeWith yL_thaws cL_thaws 3 (some .int) [(0, 6, 7, 18), (0, 6, 11, 20)] ∈ zU := zU_t 451 (by decide +kernel) rfl
theorem m_452 : Cond.methodLink RL 22 yX3_thaw ∈ zU := zU_t 452 (by decide +kernel) rfl
theorem m_453 : Cond.instanceMethod yX3_thaw ∈ zU := zU_t 453 (by decide +kernel) rfl
theorem m_454 : Cond.selects RX3 yX3_thaw yX3_thaw ∈ zU := zU_t 454 (by decide +kernel) rfl
theorem m_455 : Cond.code yX3_thaw cX3_thaw 3 none ∈ zU := zU_t 455 (by decide +kernel) rfl
theorem m_457 : Cond.methodLink RL 112 yL_act ∈ zU := zU_t 457 (by decide +kernel) rfl
theorem m_458 : Cond.static yL_act ∈ zU := zU_t 458 (by decide +kernel) rfl
theorem m_459 : Cond.codeWith yL_act cL_act 6 (some .long) [(0, 302, 303, 18), (0, 302, 309, 13), (0, 302, 315, 20)] ∈ zU := zU_t 459 (by decide +kernel) rfl
theorem m_460 : Cond.methodLink RL 29 yX3_newPhase ∈ zU := zU_t 460 (by decide +kernel) rfl
theorem m_461 : Cond.instanceMethod yX3_newPhase ∈ zU := zU_t 461 (by decide +kernel) rfl
theorem m_462 : Cond.selects RX3 yX3_newPhase yX3_newPhase ∈ zU := zU_t 462 (by decide +kernel) rfl
theorem m_463 : Cond.code yX3_newPhase cX3_newPhase 1 (some .int) ∈ zU := zU_t 463 (by decide +kernel) rfl
theorem m_466 : Cond.methodLink RX3 91 yX3_lastPhase ∈ zU := zU_t 466 (by decide +kernel) rfl
theorem m_468 : Cond.instanceMethod yX3_lastPhase ∈ zU := zU_t 468 (by decide +kernel) rfl
theorem m_469 : Cond.code yX3_lastPhase cX3_lastPhase 1 (some (.object "ChartroomSpc$Phase")) ∈ zU := zU_t 469 (by decide +kernel) rfl
theorem m_471 : Cond.methodLink RL 33 yX3_exclude ∈ zU := zU_t 471 (by decide +kernel) rfl
theorem m_472 : Cond.instanceMethod yX3_exclude ∈ zU := zU_t 472 (by decide +kernel) rfl
theorem m_473 : Cond.selects RX3 yX3_exclude yX3_exclude ∈ zU := zU_t 473 (by decide +kernel) rfl
theorem m_474 : Cond.code yX3_exclude cX3_exclude 4 (some .int) ∈ zU := zU_t 474 (by decide +kernel) rfl
theorem m_475 : Cond.methodLink RX3 121 yX3_checkSubgroup ∈ zU := zU_t 475 (by decide +kernel) rfl
theorem m_477 : Cond.instanceMethod yX3_checkSubgroup ∈ zU := zU_t 477 (by decide +kernel) rfl
theorem m_478 : Cond.code yX3_checkSubgroup cX3_checkSubgroup 2 none ∈ zU := zU_t 478 (by decide +kernel) rfl
theorem m_481 : Cond.methodLink RL 37 yX3_mean ∈ zU := zU_t 481 (by decide +kernel) rfl
theorem m_482 : Cond.instanceMethod yX3_mean ∈ zU := zU_t 482 (by decide +kernel) rfl
theorem m_483 : Cond.selects RX3 yX3_mean yX3_mean ∈ zU := zU_t 483 (by decide +kernel) rfl
theorem m_484 : Cond.code yX3_mean cX3_mean 2 (some .int) ∈ zU := zU_t 484 (by decide +kernel) rfl
theorem m_485 : Cond.methodLink RL 41 yX3_range ∈ zU := zU_t 485 (by decide +kernel) rfl
theorem m_486 : Cond.instanceMethod yX3_range ∈ zU := zU_t 486 (by decide +kernel) rfl
theorem m_487 : Cond.selects RX3 yX3_range yX3_range ∈ zU := zU_t 487 (by decide +kernel) rfl
theorem m_488 : Cond.code yX3_range cX3_range 2 (some .int) ∈ zU := zU_t 488 (by decide +kernel) rfl
theorem m_489 : Cond.methodLink RL 44 yX3_phaseOf ∈ zU := zU_t 489 (by decide +kernel) rfl
theorem m_490 : Cond.instanceMethod yX3_phaseOf ∈ zU := zU_t 490 (by decide +kernel) rfl
theorem m_491 : Cond.selects RX3 yX3_phaseOf yX3_phaseOf ∈ zU := zU_t 491 (by decide +kernel) rfl
theorem m_492 : Cond.code yX3_phaseOf cX3_phaseOf 2 (some .int) ∈ zU := zU_t 492 (by decide +kernel) rfl
theorem m_493 : Cond.methodLink RL 47 yX3_points ∈ zU := zU_t 493 (by decide +kernel) rfl
theorem m_494 : Cond.instanceMethod yX3_points ∈ zU := zU_t 494 (by decide +kernel) rfl
theorem m_495 : Cond.selects RX3 yX3_points yX3_points ∈ zU := zU_t 495 (by decide +kernel) rfl
theorem m_496 : Cond.code yX3_points cX3_points 2 (some .int) ∈ zU := zU_t 496 (by decide +kernel) rfl
theorem m_497 : Cond.methodLink RL 50 yX3_center ∈ zU := zU_t 497 (by decide +kernel) rfl
theorem m_498 : Cond.instanceMethod yX3_center ∈ zU := zU_t 498 (by decide +kernel) rfl
theorem m_499 : Cond.selects RX3 yX3_center yX3_center ∈ zU := zU_t 499 (by decide +kernel) rfl
theorem m_500 : Cond.code yX3_center cX3_center 2 (some .int) ∈ zU := zU_t 500 (by decide +kernel) rfl
theorem m_501 : Cond.methodLink RX3 130 yX3_findLimits ∈ zU := zU_t 501 (by decide +kernel) rfl
theorem m_503 : Cond.instanceMethod yX3_findLimits ∈ zU := zU_t 503 (by decide +kernel) rfl
theorem m_504 : Cond.code yX3_findLimits cX3_findLimits 3 (some (.object "ChartroomSpc$Phase")) ∈ zU := zU_t 504 (by decide +kernel) rfl
theorem m_505 : Cond.methodLink RX3 196 yX0_hasLimits ∈ zU := zU_t 505 (by decide +kernel) rfl
theorem m_506 : Cond.instanceMethod yX0_hasLimits ∈ zU := zU_t 506 (by decide +kernel) rfl
theorem m_507 : Cond.selects RX0 yX0_hasLimits yX0_hasLimits ∈ zU := zU_t 507 (by decide +kernel) rfl
theorem m_508 : Cond.code yX0_hasLimits cX0_hasLimits 1 (some .boolean) ∈ zU := zU_t 508 (by decide +kernel) rfl
theorem m_510 : Cond.methodLink RL 53 yX3_width ∈ zU := zU_t 510 (by decide +kernel) rfl
theorem m_511 : Cond.instanceMethod yX3_width ∈ zU := zU_t 511 (by decide +kernel) rfl
theorem m_512 : Cond.selects RX3 yX3_width yX3_width ∈ zU := zU_t 512 (by decide +kernel) rfl
theorem m_513 : Cond.code yX3_width cX3_width 2 (some .int) ∈ zU := zU_t 513 (by decide +kernel) rfl
theorem m_514 : Cond.methodLink RL 56 yX3_rangeLimit ∈ zU := zU_t 514 (by decide +kernel) rfl
theorem m_515 : Cond.instanceMethod yX3_rangeLimit ∈ zU := zU_t 515 (by decide +kernel) rfl
theorem m_516 : Cond.selects RX3 yX3_rangeLimit yX3_rangeLimit ∈ zU := zU_t 516 (by decide +kernel) rfl
theorem m_517 : Cond.code yX3_rangeLimit cX3_rangeLimit 2 (some .int) ∈ zU := zU_t 517 (by decide +kernel) rfl
theorem m_518 : Cond.methodLink RL 59 yX3_signals ∈ zU := zU_t 518 (by decide +kernel) rfl
theorem m_519 : Cond.instanceMethod yX3_signals ∈ zU := zU_t 519 (by decide +kernel) rfl
theorem m_520 : Cond.selects RX3 yX3_signals yX3_signals ∈ zU := zU_t 520 (by decide +kernel) rfl
theorem m_521 : Cond.code yX3_signals cX3_signals 4 (some .int) ∈ zU := zU_t 521 (by decide +kernel) rfl
theorem m_522 : Cond.methodLink RL 62 yX3_signalsByWindows ∈ zU := zU_t 522 (by decide +kernel) rfl
theorem m_523 : Cond.instanceMethod yX3_signalsByWindows ∈ zU := zU_t 523 (by decide +kernel) rfl
theorem m_524 : Cond.selects RX3 yX3_signalsByWindows yX3_signalsByWindows ∈ zU := zU_t 524 (by decide +kernel) rfl
theorem m_525 : Cond.code yX3_signalsByWindows cX3_signalsByWindows 5 (some .int) ∈ zU := zU_t 525 (by decide +kernel) rfl
theorem m_526 : Cond.methodLink RX3 158 yX3_lookBack ∈ zU := zU_t 526 (by decide +kernel) rfl
theorem m_528 : Cond.instanceMethod yX3_lookBack ∈ zU := zU_t 528 (by decide +kernel) rfl
theorem m_529 : Cond.code yX3_lookBack cX3_lookBack 4 none ∈ zU := zU_t 529 (by decide +kernel) rfl
theorem m_530 : Cond.methodLink RX3 247 yX2_restart ∈ zU := zU_t 530 (by decide +kernel) rfl
theorem m_531 : Cond.instanceMethod yX2_restart ∈ zU := zU_t 531 (by decide +kernel) rfl
theorem m_532 : Cond.selects RX2 yX2_restart yX2_restart ∈ zU := zU_t 532 (by decide +kernel) rfl
theorem m_533 : Cond.code yX2_restart cX2_restart 1 none ∈ zU := zU_t 533 (by decide +kernel) rfl
theorem m_534 : Cond.methodLink RX3 248 yX2_isFull ∈ zU := zU_t 534 (by decide +kernel) rfl
theorem m_535 : Cond.instanceMethod yX2_isFull ∈ zU := zU_t 535 (by decide +kernel) rfl
theorem m_536 : Cond.selects RX2 yX2_isFull yX2_isFull ∈ zU := zU_t 536 (by decide +kernel) rfl
theorem m_537 : Cond.code yX2_isFull cX2_isFull 1 (some .boolean) ∈ zU := zU_t 537 (by decide +kernel) rfl
theorem m_538 : Cond.methodLink RX3 251 yX2_add ∈ zU := zU_t 538 (by decide +kernel) rfl
theorem m_539 : Cond.instanceMethod yX2_add ∈ zU := zU_t 539 (by decide +kernel) rfl
theorem m_540 : Cond.selects RX2 yX2_add yX2_add ∈ zU := zU_t 540 (by decide +kernel) rfl
theorem m_541 : Cond.code yX2_add cX2_add 3 none ∈ zU := zU_t 541 (by decide +kernel) rfl
theorem m_542 : Cond.methodLink RX2 22 yX2_isFull ∈ zU := zU_t 542 (by decide +kernel) rfl
theorem m_543 : Cond.methodLink RX3 161 yX2_breaks ∈ zU := zU_t 543 (by decide +kernel) rfl
theorem m_544 : Cond.instanceMethod yX2_breaks ∈ zU := zU_t 544 (by decide +kernel) rfl
theorem m_545 : Cond.selects RX2 yX2_breaks yX2_breaks ∈ zU := zU_t 545 (by decide +kernel) rfl
theorem m_546 : Cond.code yX2_breaks cX2_breaks 4 (some .boolean) ∈ zU := zU_t 546 (by decide +kernel) rfl
theorem m_548 : Cond.methodLink RX2 30 yX0_sideBeyond ∈ zU := zU_t 548 (by decide +kernel) rfl
theorem m_549 : Cond.methodLink RX2 36 yX2_isOnOneSide ∈ zU := zU_t 549 (by decide +kernel) rfl
theorem m_551 : Cond.instanceMethod yX2_isOnOneSide ∈ zU := zU_t 551 (by decide +kernel) rfl
theorem m_552 : Cond.code yX2_isOnOneSide cX2_isOnOneSide 5 (some .boolean) ∈ zU := zU_t 552 (by decide +kernel) rfl
theorem m_553 : Cond.methodLink RX2 55 yX0_sideOfCenter ∈ zU := zU_t 553 (by decide +kernel) rfl
theorem m_554 : Cond.methodLink RX2 40 yX2_isSteady ∈ zU := zU_t 554 (by decide +kernel) rfl
theorem m_556 : Cond.instanceMethod yX2_isSteady ∈ zU := zU_t 556 (by decide +kernel) rfl
theorem m_557 : Cond.code yX2_isSteady cX2_isSteady 4 (some .boolean) ∈ zU := zU_t 557 (by decide +kernel) rfl
theorem m_559 : Cond.methodLink RX2 44 yX2_isTurning ∈ zU := zU_t 559 (by decide +kernel) rfl
theorem m_561 : Cond.instanceMethod yX2_isTurning ∈ zU := zU_t 561 (by decide +kernel) rfl
theorem m_562 : Cond.code yX2_isTurning cX2_isTurning 4 (some .boolean) ∈ zU := zU_t 562 (by decide +kernel) rfl
theorem m_563 : Cond.methodLink RX2 47 yX2_isOften ∈ zU := zU_t 563 (by decide +kernel) rfl
theorem m_565 : Cond.instanceMethod yX2_isOften ∈ zU := zU_t 565 (by decide +kernel) rfl
theorem m_566 : Cond.code yX2_isOften cX2_isOften 8 (some .boolean) ∈ zU := zU_t 566 (by decide +kernel) rfl
theorem m_567 : Cond.methodLink RX2 51 yX2_beyondSome ∈ zU := zU_t 567 (by decide +kernel) rfl
theorem m_569 : Cond.instanceMethod yX2_beyondSome ∈ zU := zU_t 569 (by decide +kernel) rfl
theorem m_570 : Cond.code yX2_beyondSome cX2_beyondSome 5 (some .int) ∈ zU := zU_t 570 (by decide +kernel) rfl
theorem m_571 : Cond.methodLink RL 65 yX3_firstOf ∈ zU := zU_t 571 (by decide +kernel) rfl
theorem m_572 : Cond.instanceMethod yX3_firstOf ∈ zU := zU_t 572 (by decide +kernel) rfl
theorem m_573 : Cond.selects RX3 yX3_firstOf yX3_firstOf ∈ zU := zU_t 573 (by decide +kernel) rfl
theorem m_574 : Cond.code yX3_firstOf cX3_firstOf 4 (some .int) ∈ zU := zU_t 574 (by decide +kernel) rfl
theorem m_576 : Cond.methodLink RX3 170 yX3_pointsOfRule ∈ zU := zU_t 576 (by decide +kernel) rfl
theorem m_577 : Cond.methodLink RX3 174 yX2_subgroupAt ∈ zU := zU_t 577 (by decide +kernel) rfl
theorem m_578 : Cond.instanceMethod yX2_subgroupAt ∈ zU := zU_t 578 (by decide +kernel) rfl
theorem m_579 : Cond.selects RX2 yX2_subgroupAt yX2_subgroupAt ∈ zU := zU_t 579 (by decide +kernel) rfl
theorem m_580 : Cond.code yX2_subgroupAt cX2_subgroupAt 2 (some .int) ∈ zU := zU_t 580 (by decide +kernel) rfl
theorem m_581 : Cond.methodLink RL 68 yX3_isWide ∈ zU := zU_t 581 (by decide +kernel) rfl
theorem m_582 : Cond.instanceMethod yX3_isWide ∈ zU := zU_t 582 (by decide +kernel) rfl
theorem m_583 : Cond.selects RX3 yX3_isWide yX3_isWide ∈ zU := zU_t 583 (by decide +kernel) rfl
theorem m_584 : Cond.code yX3_isWide cX3_isWide 2 (some .boolean) ∈ zU := zU_t 584 (by decide +kernel) rfl
theorem m_585 : Cond.methodLink RL 71 yX3_setWeight ∈ zU := zU_t 585 (by decide +kernel) rfl
theorem m_586 : Cond.instanceMethod yX3_setWeight ∈ zU := zU_t 586 (by decide +kernel) rfl
theorem m_587 : Cond.selects RX3 yX3_setWeight yX3_setWeight ∈ zU := zU_t 587 (by decide +kernel) rfl
theorem m_588 : Cond.code yX3_setWeight cX3_setWeight 3 (some .int) ∈ zU := zU_t 588 (by decide +kernel) rfl
theorem m_590 : Cond.methodLink RL 74 yX3_weighted ∈ zU := zU_t 590 (by decide +kernel) rfl
theorem m_591 : Cond.instanceMethod yX3_weighted ∈ zU := zU_t 591 (by decide +kernel) rfl
theorem m_592 : Cond.selects RX3 yX3_weighted yX3_weighted ∈ zU := zU_t 592 (by decide +kernel) rfl
theorem m_593 : Cond.code yX3_weighted cX3_weighted 5 (some .int) ∈ zU := zU_t 593 (by decide +kernel) rfl
theorem m_594 : Cond.methodLink RX3 182 yX3_checkPoint ∈ zU := zU_t 594 (by decide +kernel) rfl
theorem m_596 : Cond.instanceMethod yX3_checkPoint ∈ zU := zU_t 596 (by decide +kernel) rfl
theorem m_597 : Cond.code yX3_checkPoint cX3_checkPoint 2 none ∈ zU := zU_t 597 (by decide +kernel) rfl
theorem m_599 : Cond.methodLink RX3 185 yJ9_floorDiv_7cf53 ∈ zU := zU_t 599 (by decide +kernel) rfl
theorem m_600 : Cond.static yJ9_floorDiv_7cf53 ∈ zU := zU_t 600 (by decide +kernel) rfl
theorem m_601 : Cond.code yJ9_floorDiv_7cf53 cJ9_floorDiv_7cf53 3 (some .int) ∈ zU := zU_t 601 (by decide +kernel) rfl
theorem m_602 : Cond.methodLink RL 77 yX3_cumulative ∈ zU := zU_t 602 (by decide +kernel) rfl
theorem m_603 : Cond.instanceMethod yX3_cumulative ∈ zU := zU_t 603 (by decide +kernel) rfl
theorem m_604 : Cond.selects RX3 yX3_cumulative yX3_cumulative ∈ zU := zU_t 604 (by decide +kernel) rfl
theorem m_605 : Cond.code yX3_cumulative cX3_cumulative 8 (some .int) ∈ zU := zU_t 605 (by decide +kernel) rfl
theorem m_606 : Cond.methodLink RL 81 yX3_capability ∈ zU := zU_t 606 (by decide +kernel) rfl
theorem m_607 : Cond.instanceMethod yX3_capability ∈ zU := zU_t 607 (by decide +kernel) rfl
theorem m_608 : Cond.selects RX3 yX3_capability yX3_capability ∈ zU := zU_t 608 (by decide +kernel) rfl
theorem m_609 : Cond.code yX3_capability cX3_capability 12 (some .long) ∈ zU := zU_t 609 (by decide +kernel) rfl
theorem m_611 : Cond.fieldLink RX3 207 "ChartroomSpc" "SPREAD_DIVISORS" "[I" ∈ zU := zU_t 611 (by decide +kernel) rfl
theorem m_613 : Cond.methodLink RX3 210 yX3_bySize ∈ zU := zU_t 613 (by decide +kernel) rfl
theorem m_615 : Cond.constantLong RX3 220 (6) ∈ zU := zU_t 615 (by decide +kernel) rfl
theorem m_616 : Cond.methodLink RX3 222 yJ9_min_f86c9 ∈ zU := zU_t 616 (by decide +kernel) rfl
theorem m_617 : Cond.static yJ9_min_f86c9 ∈ zU := zU_t 617 (by decide +kernel) rfl
theorem m_618 : Cond.code yJ9_min_f86c9 cJ9_min_f86c9 4 (some .long) ∈ zU := zU_t 618 (by decide +kernel) rfl
theorem m_619 : Cond.constantLong RX3 225 (3) ∈ zU := zU_t 619 (by decide +kernel) rfl
theorem m_620 : Cond.constantLong RL 89 (-99000013) ∈ zU := zU_t 620 (by decide +kernel) rfl
theorem m_621 : Cond.methodLink RL 141 yL_charts ∈ zU := zU_t 621 (by decide +kernel) rfl
theorem m_622 : Cond.static yL_charts ∈ zU := zU_t 622 (by decide +kernel) rfl
set_option maxRecDepth 100000 in
theorem m_623 : Cond.code yL_charts cL_charts 1 (some .boolean) ∈ zU := zU_t 623 (Eq.refl _) rfl
theorem m_624 : Cond.methodLink RL 121 yL_two ∈ zU := zU_t 624 (by decide +kernel) rfl
theorem m_625 : Cond.static yL_two ∈ zU := zU_t 625 (by decide +kernel) rfl
theorem m_626 : Cond.code yL_two cL_two 3 (some .boolean) ∈ zU := zU_t 626 (by decide +kernel) rfl
theorem m_627 : Cond.methodLink RL 125 yL_limits ∈ zU := zU_t 627 (by decide +kernel) rfl
theorem m_628 : Cond.static yL_limits ∈ zU := zU_t 628 (by decide +kernel) rfl
theorem m_629 : Cond.code yL_limits cL_limits 4 (some .boolean) ∈ zU := zU_t 629 (by decide +kernel) rfl
theorem m_630 : Cond.methodLink RL 129 yL_breaks ∈ zU := zU_t 630 (by decide +kernel) rfl
theorem m_631 : Cond.static yL_breaks ∈ zU := zU_t 631 (by decide +kernel) rfl
theorem m_632 : Cond.code yL_breaks cL_breaks 3 (some .boolean) ∈ zU := zU_t 632 (by decide +kernel) rfl
theorem m_633 : Cond.constant RL 132 (45738) ∈ zU := zU_t 633 (by decide +kernel) rfl
theorem m_634 : Cond.constantLong RL 133 (402) ∈ zU := zU_t 634 (by decide +kernel) rfl
theorem m_635 : Cond.constantLong RL 135 (382) ∈ zU := zU_t 635 (by decide +kernel) rfl
theorem m_636 : Cond.constantLong RL 137 (-115) ∈ zU := zU_t 636 (by decide +kernel) rfl
theorem m_637 : Cond.methodLink RL 145 yL_rules ∈ zU := zU_t 637 (by decide +kernel) rfl
theorem m_638 : Cond.static yL_rules ∈ zU := zU_t 638 (by decide +kernel) rfl
set_option maxRecDepth 100000 in
theorem m_639 : Cond.code yL_rules cL_rules 3 (some .boolean) ∈ zU := zU_t 639 (Eq.refl _) rfl
theorem m_640 : Cond.constant RL 139 (188000) ∈ zU := zU_t 640 (by decide +kernel) rfl
theorem m_641 : Cond.constant RL 140 (326700) ∈ zU := zU_t 641 (by decide +kernel) rfl
theorem mp_0 : Cond.selects RX3 yX3_restart yX3_restart ∈ zU := zU_s 0 (q := (yX3_restart, 16)) (by decide +kernel)
theorem mp_2 : Cond.selects RX3 yX3_takeMeasurement yX3_takeMeasurement ∈ zU := zU_s 2 (q := (yX3_takeMeasurement, 16)) (by decide +kernel)
theorem mp_3 : Cond.selects RX3 yX3_finishSubgroup yX3_finishSubgroup ∈ zU := zU_s 3 (q := (yX3_finishSubgroup, 16)) (by decide +kernel)
theorem mp_4 : Cond.selects RX3 yX3_countPoint yX3_countPoint ∈ zU := zU_s 4 (q := (yX3_countPoint, 16)) (by decide +kernel)
theorem mp_5 : Cond.selects RX3 yX3_phaseHolding yX3_phaseHolding ∈ zU := zU_s 5 (q := (yX3_phaseHolding, 16)) (by decide +kernel)
theorem mp_6 : Cond.selects RX3 yX3_isPoint yX3_isPoint ∈ zU := zU_s 6 (q := (yX3_isPoint, 16)) (by decide +kernel)
theorem mp_7 : Cond.selects RX1 yX1_takeCenterSide yX1_takeCenterSide ∈ zU := zU_s 7 (q := (yX1_takeCenterSide, 16)) (by decide +kernel)
theorem mp_8 : Cond.selects RX1 yX1_takeDirection yX1_takeDirection ∈ zU := zU_s 8 (q := (yX1_takeDirection, 16)) (by decide +kernel)
theorem mp_9 : Cond.selects RX1 yX1_takeSidesBeyond yX1_takeSidesBeyond ∈ zU := zU_s 9 (q := (yX1_takeSidesBeyond, 16)) (by decide +kernel)
theorem mp_10 : Cond.selects RX3 yX3_findPhase yX3_findPhase ∈ zU := zU_s 10 (q := (yX3_findPhase, 16)) (by decide +kernel)
theorem mp_11 : Cond.selects RX3 yX3_lastPhase yX3_lastPhase ∈ zU := zU_s 11 (q := (yX3_lastPhase, 16)) (by decide +kernel)
theorem mp_12 : Cond.selects RX3 yX3_checkSubgroup yX3_checkSubgroup ∈ zU := zU_s 12 (q := (yX3_checkSubgroup, 16)) (by decide +kernel)
theorem mp_13 : Cond.selects RX3 yX3_findLimits yX3_findLimits ∈ zU := zU_s 13 (q := (yX3_findLimits, 16)) (by decide +kernel)
theorem mp_14 : Cond.selects RX3 yX3_lookBack yX3_lookBack ∈ zU := zU_s 14 (q := (yX3_lookBack, 16)) (by decide +kernel)
theorem mp_15 : Cond.selects RX2 yX2_isOnOneSide yX2_isOnOneSide ∈ zU := zU_s 15 (q := (yX2_isOnOneSide, 3)) (by decide +kernel)
theorem mp_16 : Cond.selects RX2 yX2_isSteady yX2_isSteady ∈ zU := zU_s 16 (q := (yX2_isSteady, 3)) (by decide +kernel)
theorem mp_17 : Cond.selects RX2 yX2_isTurning yX2_isTurning ∈ zU := zU_s 17 (q := (yX2_isTurning, 3)) (by decide +kernel)
theorem mp_18 : Cond.selects RX2 yX2_isOften yX2_isOften ∈ zU := zU_s 18 (q := (yX2_isOften, 3)) (by decide +kernel)
theorem mp_19 : Cond.selects RX2 yX2_beyondSome yX2_beyondSome ∈ zU := zU_s 19 (q := (yX2_beyondSome, 3)) (by decide +kernel)
theorem mp_20 : Cond.selects RX3 yX3_checkPoint yX3_checkPoint ∈ zU := zU_s 20 (q := (yX3_checkPoint, 16)) (by decide +kernel)
theorem in_0 : ∀ w ∈ u_ws RX0 TX0 9, w ∈ zU := by
  intro w hw
  obtain ⟨k, hk, rfl⟩ := List.mem_map.mp hw
  have hk := List.mem_range.mp hk
  match k, hk with
  | 0, _ => exact m_46
  | 1, _ => exact m_48
  | 2, _ => exact m_50
  | 3, _ => exact m_52
  | 4, _ => exact m_54
  | 5, _ => exact m_56
  | 6, _ => exact m_58
  | 7, _ => exact m_60
  | 8, _ => exact m_62
  | k + 9, hk => exact absurd hk (by omega)
theorem in_1 : ∀ w ∈ u_ws RX1 TX1 16, w ∈ zU := by
  intro w hw
  obtain ⟨k, hk, rfl⟩ := List.mem_map.mp hw
  have hk := List.mem_range.mp hk
  match k, hk with
  | 0, _ => exact m_88
  | 1, _ => exact m_90
  | 2, _ => exact m_92
  | 3, _ => exact m_94
  | 4, _ => exact m_96
  | 5, _ => exact m_98
  | 6, _ => exact m_100
  | 7, _ => exact m_102
  | 8, _ => exact m_104
  | 9, _ => exact m_106
  | 10, _ => exact m_108
  | 11, _ => exact m_110
  | 12, _ => exact m_112
  | 13, _ => exact m_114
  | 14, _ => exact m_116
  | 15, _ => exact m_118
  | k + 16, hk => exact absurd hk (by omega)
theorem in_2 : ∀ w ∈ u_ws RX2 TX2 3, w ∈ zU := by
  intro w hw
  obtain ⟨k, hk, rfl⟩ := List.mem_map.mp hw
  have hk := List.mem_range.mp hk
  match k, hk with
  | 0, _ => exact m_130
  | 1, _ => exact m_132
  | 2, _ => exact m_134
  | k + 3, hk => exact absurd hk (by omega)
theorem in_3 : ∀ w ∈ u_ws RX3 TX3 16, w ∈ zU := by
  intro w hw
  obtain ⟨k, hk, rfl⟩ := List.mem_map.mp hw
  have hk := List.mem_range.mp hk
  match k, hk with
  | 0, _ => exact m_161
  | 1, _ => exact m_163
  | 2, _ => exact m_165
  | 3, _ => exact m_167
  | 4, _ => exact m_169
  | 5, _ => exact m_171
  | 6, _ => exact m_173
  | 7, _ => exact m_175
  | 8, _ => exact m_177
  | 9, _ => exact m_179
  | 10, _ => exact m_181
  | 11, _ => exact m_183
  | 12, _ => exact m_185
  | 13, _ => exact m_187
  | 14, _ => exact m_189
  | 15, _ => exact m_191
  | k + 16, hk => exact absurd hk (by omega)
end
