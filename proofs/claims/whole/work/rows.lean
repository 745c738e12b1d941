section
-- ===== PART A: goes FIRST, ahead of the names: the tables' words, and 'selects' of the private methods out of them =====
/-- a private method of a class that the tables say can be made, by its rows of tables_1 -/
def lw_okq (q : MethodName × Nat) : Prop := (q.1.cls ≠ "java/lang/invoke/MethodHandle" ∧ q.1.cls ≠ "java/lang/invoke/VarHandle") ∧ Cond.instantiable q.1.cls q.2 ∈ tables_1 ∧ Cond.privateMethod q.1 ∈ tables_1 ∧ Cond.instanceMethod q.1 ∈ tables_1
theorem lw_p0 : lw_okq (⟨"ChartroomSpc", "restart", "(I)V"⟩, 16) := ⟨⟨by decide +kernel, by decide +kernel⟩, List.mem_of_getElem? (i := 15) (by decide +kernel), List.mem_of_getElem? (i := 139) (by decide +kernel), List.mem_of_getElem? (i := 140) (by decide +kernel)⟩
theorem lw_p1 : lw_okq (⟨"ChartroomSpc", "isPoint", "(I)Z"⟩, 16) := ⟨⟨by decide +kernel, by decide +kernel⟩, List.mem_of_getElem? (i := 15) (by decide +kernel), List.mem_of_getElem? (i := 212) (by decide +kernel), List.mem_of_getElem? (i := 213) (by decide +kernel)⟩
theorem lw_p2 : lw_okq (⟨"ChartroomSpc", "phaseHolding", "(I)LChartroomSpc$Phase;"⟩, 16) := ⟨⟨by decide +kernel, by decide +kernel⟩, List.mem_of_getElem? (i := 15) (by decide +kernel), List.mem_of_getElem? (i := 216) (by decide +kernel), List.mem_of_getElem? (i := 217) (by decide +kernel)⟩
theorem lw_p3 : lw_okq (⟨"ChartroomSpc$RunCounts", "takeCenterSide", "(I)V"⟩, 16) := ⟨⟨by decide +kernel, by decide +kernel⟩, List.mem_of_getElem? (i := 68) (by decide +kernel), List.mem_of_getElem? (i := 231) (by decide +kernel), List.mem_of_getElem? (i := 232) (by decide +kernel)⟩
theorem lw_p4 : lw_okq (⟨"ChartroomSpc$RunCounts", "takeDirection", "(I)V"⟩, 16) := ⟨⟨by decide +kernel, by decide +kernel⟩, List.mem_of_getElem? (i := 68) (by decide +kernel), List.mem_of_getElem? (i := 236) (by decide +kernel), List.mem_of_getElem? (i := 237) (by decide +kernel)⟩
theorem lw_p5 : lw_okq (⟨"ChartroomSpc$RunCounts", "takeSidesBeyond", "(ILChartroomSpc$Phase;)V"⟩, 16) := ⟨⟨by decide +kernel, by decide +kernel⟩, List.mem_of_getElem? (i := 68) (by decide +kernel), List.mem_of_getElem? (i := 240) (by decide +kernel), List.mem_of_getElem? (i := 241) (by decide +kernel)⟩
theorem lw_p6 : lw_okq (⟨"java/lang/Throwable", "fillInStackTrace", "(I)Ljava/lang/Throwable;"⟩, 6) := ⟨⟨by decide +kernel, by decide +kernel⟩, List.mem_of_getElem? (i := 318) (by decide +kernel), List.mem_of_getElem? (i := 316) (by decide +kernel), List.mem_of_getElem? (i := 317) (by decide +kernel)⟩
theorem lw_p7 : lw_okq (⟨"ChartroomSpc", "takeMeasurement", "(I)V"⟩, 16) := ⟨⟨by decide +kernel, by decide +kernel⟩, List.mem_of_getElem? (i := 15) (by decide +kernel), List.mem_of_getElem? (i := 376) (by decide +kernel), List.mem_of_getElem? (i := 377) (by decide +kernel)⟩
theorem lw_p8 : lw_okq (⟨"ChartroomSpc", "finishSubgroup", "()V"⟩, 16) := ⟨⟨by decide +kernel, by decide +kernel⟩, List.mem_of_getElem? (i := 15) (by decide +kernel), List.mem_of_getElem? (i := 386) (by decide +kernel), List.mem_of_getElem? (i := 387) (by decide +kernel)⟩
theorem lw_p9 : lw_okq (⟨"ChartroomSpc", "countPoint", "(II)V"⟩, 16) := ⟨⟨by decide +kernel, by decide +kernel⟩, List.mem_of_getElem? (i := 15) (by decide +kernel), List.mem_of_getElem? (i := 401) (by decide +kernel), List.mem_of_getElem? (i := 402) (by decide +kernel)⟩
theorem lw_p10 : lw_okq (⟨"ChartroomSpc", "lastPhase", "()LChartroomSpc$Phase;"⟩, 16) := ⟨⟨by decide +kernel, by decide +kernel⟩, List.mem_of_getElem? (i := 15) (by decide +kernel), List.mem_of_getElem? (i := 427) (by decide +kernel), List.mem_of_getElem? (i := 428) (by decide +kernel)⟩
theorem lw_p11 : lw_okq (⟨"ChartroomSpc", "findPhase", "(I)LChartroomSpc$Phase;"⟩, 16) := ⟨⟨by decide +kernel, by decide +kernel⟩, List.mem_of_getElem? (i := 15) (by decide +kernel), List.mem_of_getElem? (i := 440) (by decide +kernel), List.mem_of_getElem? (i := 441) (by decide +kernel)⟩
theorem lw_p12 : lw_okq (⟨"ChartroomSpc", "checkSubgroup", "(I)V"⟩, 16) := ⟨⟨by decide +kernel, by decide +kernel⟩, List.mem_of_getElem? (i := 15) (by decide +kernel), List.mem_of_getElem? (i := 477) (by decide +kernel), List.mem_of_getElem? (i := 478) (by decide +kernel)⟩
theorem lw_p13 : lw_okq (⟨"ChartroomSpc", "findLimits", "(I)LChartroomSpc$Phase;"⟩, 16) := ⟨⟨by decide +kernel, by decide +kernel⟩, List.mem_of_getElem? (i := 15) (by decide +kernel), List.mem_of_getElem? (i := 518) (by decide +kernel), List.mem_of_getElem? (i := 519) (by decide +kernel)⟩
theorem lw_p14 : lw_okq (⟨"ChartroomSpc", "lookBack", "(ILChartroomSpc$Phase;)V"⟩, 16) := ⟨⟨by decide +kernel, by decide +kernel⟩, List.mem_of_getElem? (i := 15) (by decide +kernel), List.mem_of_getElem? (i := 555) (by decide +kernel), List.mem_of_getElem? (i := 556) (by decide +kernel)⟩
theorem lw_p15 : lw_okq (⟨"ChartroomSpc$Window", "isOnOneSide", "(ILChartroomSpc$Phase;)Z"⟩, 3) := ⟨⟨by decide +kernel, by decide +kernel⟩, List.mem_of_getElem? (i := 123) (by decide +kernel), List.mem_of_getElem? (i := 578) (by decide +kernel), List.mem_of_getElem? (i := 579) (by decide +kernel)⟩
def lw_privs_1 : List (MethodName × Nat) := [(⟨"ChartroomSpc", "restart", "(I)V"⟩, 16), (⟨"ChartroomSpc", "isPoint", "(I)Z"⟩, 16), (⟨"ChartroomSpc", "phaseHolding", "(I)LChartroomSpc$Phase;"⟩, 16), (⟨"ChartroomSpc$RunCounts", "takeCenterSide", "(I)V"⟩, 16), (⟨"ChartroomSpc$RunCounts", "takeDirection", "(I)V"⟩, 16), (⟨"ChartroomSpc$RunCounts", "takeSidesBeyond", "(ILChartroomSpc$Phase;)V"⟩, 16), (⟨"java/lang/Throwable", "fillInStackTrace", "(I)Ljava/lang/Throwable;"⟩, 6), (⟨"ChartroomSpc", "takeMeasurement", "(I)V"⟩, 16), (⟨"ChartroomSpc", "finishSubgroup", "()V"⟩, 16), (⟨"ChartroomSpc", "countPoint", "(II)V"⟩, 16), (⟨"ChartroomSpc", "lastPhase", "()LChartroomSpc$Phase;"⟩, 16), (⟨"ChartroomSpc", "findPhase", "(I)LChartroomSpc$Phase;"⟩, 16), (⟨"ChartroomSpc", "checkSubgroup", "(I)V"⟩, 16), (⟨"ChartroomSpc", "findLimits", "(I)LChartroomSpc$Phase;"⟩, 16), (⟨"ChartroomSpc", "lookBack", "(ILChartroomSpc$Phase;)V"⟩, 16), (⟨"ChartroomSpc$Window", "isOnOneSide", "(ILChartroomSpc$Phase;)Z"⟩, 3)]
theorem lw_r1 : ∀ q ∈ lw_privs_1, lw_okq q := List.forall_mem_cons.mpr ⟨lw_p0, List.forall_mem_cons.mpr ⟨lw_p1, List.forall_mem_cons.mpr ⟨lw_p2, List.forall_mem_cons.mpr ⟨lw_p3, List.forall_mem_cons.mpr ⟨lw_p4, List.forall_mem_cons.mpr ⟨lw_p5, List.forall_mem_cons.mpr ⟨lw_p6, List.forall_mem_cons.mpr ⟨lw_p7, List.forall_mem_cons.mpr ⟨lw_p8, List.forall_mem_cons.mpr ⟨lw_p9, List.forall_mem_cons.mpr ⟨lw_p10, List.forall_mem_cons.mpr ⟨lw_p11, List.forall_mem_cons.mpr ⟨lw_p12, List.forall_mem_cons.mpr ⟨lw_p13, List.forall_mem_cons.mpr ⟨lw_p14, List.forall_mem_cons.mpr ⟨lw_p15, fun _ h => absurd h List.not_mem_nil⟩⟩⟩⟩⟩⟩⟩⟩⟩⟩⟩⟩⟩⟩⟩⟩
theorem lw_p16 : lw_okq (⟨"ChartroomSpc$Window", "isSteady", "(I)Z"⟩, 3) := ⟨⟨by decide +kernel, by decide +kernel⟩, List.mem_of_getElem? (i := 123) (by decide +kernel), List.mem_of_getElem? (i := 583) (by decide +kernel), List.mem_of_getElem? (i := 584) (by decide +kernel)⟩
theorem lw_p17 : lw_okq (⟨"ChartroomSpc$Window", "isTurning", "(I)Z"⟩, 3) := ⟨⟨by decide +kernel, by decide +kernel⟩, List.mem_of_getElem? (i := 123) (by decide +kernel), List.mem_of_getElem? (i := 588) (by decide +kernel), List.mem_of_getElem? (i := 589) (by decide +kernel)⟩
theorem lw_p18 : lw_okq (⟨"ChartroomSpc$Window", "isOften", "(IIILChartroomSpc$Phase;)Z"⟩, 3) := ⟨⟨by decide +kernel, by decide +kernel⟩, List.mem_of_getElem? (i := 123) (by decide +kernel), List.mem_of_getElem? (i := 592) (by decide +kernel), List.mem_of_getElem? (i := 593) (by decide +kernel)⟩
theorem lw_p19 : lw_okq (⟨"ChartroomSpc$Window", "beyondSome", "(ILChartroomSpc$Phase;)I"⟩, 3) := ⟨⟨by decide +kernel, by decide +kernel⟩, List.mem_of_getElem? (i := 123) (by decide +kernel), List.mem_of_getElem? (i := 596) (by decide +kernel), List.mem_of_getElem? (i := 597) (by decide +kernel)⟩
theorem lw_p20 : lw_okq (⟨"ChartroomSpc", "checkPoint", "(I)V"⟩, 16) := ⟨⟨by decide +kernel, by decide +kernel⟩, List.mem_of_getElem? (i := 15) (by decide +kernel), List.mem_of_getElem? (i := 635) (by decide +kernel), List.mem_of_getElem? (i := 636) (by decide +kernel)⟩
theorem lw_p21 : lw_okq (⟨"ChartroomSpcModel", "isPhase", "(I)Z"⟩, 24) := ⟨⟨by decide +kernel, by decide +kernel⟩, List.mem_of_getElem? (i := 667) (by decide +kernel), List.mem_of_getElem? (i := 770) (by decide +kernel), List.mem_of_getElem? (i := 771) (by decide +kernel)⟩
theorem lw_p22 : lw_okq (⟨"ChartroomSpcModel", "laysLimits", "(I)V"⟩, 24) := ⟨⟨by decide +kernel, by decide +kernel⟩, List.mem_of_getElem? (i := 667) (by decide +kernel), List.mem_of_getElem? (i := 774) (by decide +kernel), List.mem_of_getElem? (i := 775) (by decide +kernel)⟩
theorem lw_p23 : lw_okq (⟨"ChartroomSpcModel", "laysPoints", "(II)V"⟩, 24) := ⟨⟨by decide +kernel, by decide +kernel⟩, List.mem_of_getElem? (i := 667) (by decide +kernel), List.mem_of_getElem? (i := 778) (by decide +kernel), List.mem_of_getElem? (i := 779) (by decide +kernel)⟩
theorem lw_p24 : lw_okq (⟨"ChartroomSpcModel", "phase", "(I)I"⟩, 24) := ⟨⟨by decide +kernel, by decide +kernel⟩, List.mem_of_getElem? (i := 667) (by decide +kernel), List.mem_of_getElem? (i := 782) (by decide +kernel), List.mem_of_getElem? (i := 783) (by decide +kernel)⟩
theorem lw_p25 : lw_okq (⟨"ChartroomSpcModel", "isDone", "(I)Z"⟩, 24) := ⟨⟨by decide +kernel, by decide +kernel⟩, List.mem_of_getElem? (i := 667) (by decide +kernel), List.mem_of_getElem? (i := 805) (by decide +kernel), List.mem_of_getElem? (i := 806) (by decide +kernel)⟩
theorem lw_p26 : lw_okq (⟨"ChartroomSpcModel", "isLimited", "(I)Z"⟩, 24) := ⟨⟨by decide +kernel, by decide +kernel⟩, List.mem_of_getElem? (i := 667) (by decide +kernel), List.mem_of_getElem? (i := 837) (by decide +kernel), List.mem_of_getElem? (i := 838) (by decide +kernel)⟩
theorem lw_p27 : lw_okq (⟨"ChartroomSpcModel", "broken", "(I)I"⟩, 24) := ⟨⟨by decide +kernel, by decide +kernel⟩, List.mem_of_getElem? (i := 667) (by decide +kernel), List.mem_of_getElem? (i := 853) (by decide +kernel), List.mem_of_getElem? (i := 854) (by decide +kernel)⟩
theorem lw_p28 : lw_okq (⟨"ChartroomSpcModel", "breaks", "(II)Z"⟩, 24) := ⟨⟨by decide +kernel, by decide +kernel⟩, List.mem_of_getElem? (i := 667) (by decide +kernel), List.mem_of_getElem? (i := 857) (by decide +kernel), List.mem_of_getElem? (i := 858) (by decide +kernel)⟩
theorem lw_p29 : lw_okq (⟨"ChartroomSpcModel", "isBeyond", "(III)Z"⟩, 24) := ⟨⟨by decide +kernel, by decide +kernel⟩, List.mem_of_getElem? (i := 667) (by decide +kernel), List.mem_of_getElem? (i := 864) (by decide +kernel), List.mem_of_getElem? (i := 865) (by decide +kernel)⟩
theorem lw_p30 : lw_okq (⟨"ChartroomSpcModel", "back", "(I)I"⟩, 24) := ⟨⟨by decide +kernel, by decide +kernel⟩, List.mem_of_getElem? (i := 667) (by decide +kernel), List.mem_of_getElem? (i := 869) (by decide +kernel), List.mem_of_getElem? (i := 870) (by decide +kernel)⟩
theorem lw_p31 : lw_okq (⟨"ChartroomSpcModel", "aboveOf", "(II)I"⟩, 24) := ⟨⟨by decide +kernel, by decide +kernel⟩, List.mem_of_getElem? (i := 667) (by decide +kernel), List.mem_of_getElem? (i := 873) (by decide +kernel), List.mem_of_getElem? (i := 874) (by decide +kernel)⟩
def lw_privs_2 : List (MethodName × Nat) := [(⟨"ChartroomSpc$Window", "isSteady", "(I)Z"⟩, 3), (⟨"ChartroomSpc$Window", "isTurning", "(I)Z"⟩, 3), (⟨"ChartroomSpc$Window", "isOften", "(IIILChartroomSpc$Phase;)Z"⟩, 3), (⟨"ChartroomSpc$Window", "beyondSome", "(ILChartroomSpc$Phase;)I"⟩, 3), (⟨"ChartroomSpc", "checkPoint", "(I)V"⟩, 16), (⟨"ChartroomSpcModel", "isPhase", "(I)Z"⟩, 24), (⟨"ChartroomSpcModel", "laysLimits", "(I)V"⟩, 24), (⟨"ChartroomSpcModel", "laysPoints", "(II)V"⟩, 24), (⟨"ChartroomSpcModel", "phase", "(I)I"⟩, 24), (⟨"ChartroomSpcModel", "isDone", "(I)Z"⟩, 24), (⟨"ChartroomSpcModel", "isLimited", "(I)Z"⟩, 24), (⟨"ChartroomSpcModel", "broken", "(I)I"⟩, 24), (⟨"ChartroomSpcModel", "breaks", "(II)Z"⟩, 24), (⟨"ChartroomSpcModel", "isBeyond", "(III)Z"⟩, 24), (⟨"ChartroomSpcModel", "back", "(I)I"⟩, 24), (⟨"ChartroomSpcModel", "aboveOf", "(II)I"⟩, 24)]
theorem lw_r2 : ∀ q ∈ lw_privs_2, lw_okq q := List.forall_mem_cons.mpr ⟨lw_p16, List.forall_mem_cons.mpr ⟨lw_p17, List.forall_mem_cons.mpr ⟨lw_p18, List.forall_mem_cons.mpr ⟨lw_p19, List.forall_mem_cons.mpr ⟨lw_p20, List.forall_mem_cons.mpr ⟨lw_p21, List.forall_mem_cons.mpr ⟨lw_p22, List.forall_mem_cons.mpr ⟨lw_p23, List.forall_mem_cons.mpr ⟨lw_p24, List.forall_mem_cons.mpr ⟨lw_p25, List.forall_mem_cons.mpr ⟨lw_p26, List.forall_mem_cons.mpr ⟨lw_p27, List.forall_mem_cons.mpr ⟨lw_p28, List.forall_mem_cons.mpr ⟨lw_p29, List.forall_mem_cons.mpr ⟨lw_p30, List.forall_mem_cons.mpr ⟨lw_p31, fun _ h => absurd h List.not_mem_nil⟩⟩⟩⟩⟩⟩⟩⟩⟩⟩⟩⟩⟩⟩⟩⟩
theorem lw_p32 : lw_okq (⟨"ChartroomSpcModel", "steps", "(II)I"⟩, 24) := ⟨⟨by decide +kernel, by decide +kernel⟩, List.mem_of_getElem? (i := 667) (by decide +kernel), List.mem_of_getElem? (i := 877) (by decide +kernel), List.mem_of_getElem? (i := 878) (by decide +kernel)⟩
theorem lw_p33 : lw_okq (⟨"ChartroomSpcModel", "isTurning", "()Z"⟩, 24) := ⟨⟨by decide +kernel, by decide +kernel⟩, List.mem_of_getElem? (i := 667) (by decide +kernel), List.mem_of_getElem? (i := 881) (by decide +kernel), List.mem_of_getElem? (i := 882) (by decide +kernel)⟩
theorem lw_p34 : lw_okq (⟨"ChartroomSpcModel", "beyond", "(III)I"⟩, 24) := ⟨⟨by decide +kernel, by decide +kernel⟩, List.mem_of_getElem? (i := 667) (by decide +kernel), List.mem_of_getElem? (i := 885) (by decide +kernel), List.mem_of_getElem? (i := 886) (by decide +kernel)⟩
theorem lw_p35 : lw_okq (⟨"ChartroomSpcModel", "isPoint", "(I)Z"⟩, 24) := ⟨⟨by decide +kernel, by decide +kernel⟩, List.mem_of_getElem? (i := 667) (by decide +kernel), List.mem_of_getElem? (i := 913) (by decide +kernel), List.mem_of_getElem? (i := 914) (by decide +kernel)⟩
def lw_privs_3 : List (MethodName × Nat) := [(⟨"ChartroomSpcModel", "steps", "(II)I"⟩, 24), (⟨"ChartroomSpcModel", "isTurning", "()Z"⟩, 24), (⟨"ChartroomSpcModel", "beyond", "(III)I"⟩, 24), (⟨"ChartroomSpcModel", "isPoint", "(I)Z"⟩, 24)]
theorem lw_r3 : ∀ q ∈ lw_privs_3, lw_okq q := List.forall_mem_cons.mpr ⟨lw_p32, List.forall_mem_cons.mpr ⟨lw_p33, List.forall_mem_cons.mpr ⟨lw_p34, List.forall_mem_cons.mpr ⟨lw_p35, fun _ h => absurd h List.not_mem_nil⟩⟩⟩⟩
def lw_privs : List (MethodName × Nat) := lw_privs_1 ++ (lw_privs_2 ++ (lw_privs_3))
def lw_tbl : List Cond := k2_sels lw_privs ++ tables_1
theorem lw_privs_ok : ∀ q ∈ lw_privs, lw_okq q := by
  show ∀ q ∈ lw_privs_1 ++ (lw_privs_2 ++ (lw_privs_3)), lw_okq q
  exact List.forall_mem_append.mpr ⟨lw_r1, List.forall_mem_append.mpr ⟨lw_r2, lw_r3⟩⟩
/-! ===== BEGIN words of one list among another's, by their places ===== -/
theorem goodIn_r {big : List Cond} (ws : List Cond) (ps : List Nat) (hp : ws = ps.filterMap (fun i => big[i]?)) (h : ws.all goodWord = true) : GoodIn big ws := by
  intro w hw
  have h1 := List.all_eq_true.mp h w hw
  rw [hp] at hw
  obtain ⟨i, -, hi⟩ := List.mem_filterMap.mp hw
  have hm : w ∈ big := by first | exact List.mem_of_getElem? hi | exact List.getElem?_mem hi
  exact ⟨hm, good_of_word h1⟩
theorem goodIn_app {big a b : List Cond} (ha : GoodIn big a) (hb : GoodIn big b) : GoodIn big (a ++ b) := fun w h => (List.mem_append.mp h).elim (ha w) (hb w)
theorem goodIn_ca {big a b : List Cond} {c : Cond} (ha : GoodIn big (c :: a)) (hb : GoodIn big b) : GoodIn big (c :: (a ++ b)) := fun w h => (List.mem_cons.mp h).elim (fun e => ha w (List.mem_cons.mpr (Or.inl e))) (fun h => (List.mem_append.mp h).elim (fun h => ha w (List.mem_cons.mpr (Or.inr h))) (hb w))
theorem goodIn_sub {big ws : List Cond} (hm : ∀ w ∈ ws, w ∈ big) (h : ws.all goodWord = true) : GoodIn big ws := fun w hw => ⟨hm w hw, good_of_word (List.all_eq_true.mp h w hw)⟩
/-! ===== END ===== -/

/-! ===== BEGIN exceptions that leave a method, and their catching by the caller (launches without stack traces) ===== -/
section VXA
/-! The laws vx_back, vx_callV, vx_callS, vx_callSW, vx_throw0, vx_throwS follow proofs of the library, with one case more: JvmDerived/Free/Laws.lean (Back.of_free), Shelf42/LK1.lean (callV, callS), Shelf/KitTraced.lean (throwNew0V, throwNewS). -/
/-- where a method has thrown q: the class by its name, the cell, what was written, the world -/
def vx_T (XC : String → State → State → Prop) (st : State) (q : Addr) (t : State) (mc ms : Nat) (free : Addr → Prop) : Prop :=
  ∃ (E : String) (ce : Cell) (L : List Loc), XC E st t ∧ t.heap[q]? = some ce ∧ ce.vm = .none ∧ st.vm.findClass E = some ce.cls ∧ st.WarmedH t.vm ∧ st.sameButNew ({ t with vm := st.vm } : State) L mc ms ∧ ∀ z ∈ L, free z.base
def vx_Q (Qc : Array Value → State → Outcome → State → Prop) (XC : String → State → State → Prop) (mc ms : Nat) (free : Addr → Prop) : Array Value → State → Outcome → State → Prop := fun a st o t =>
  (Qc a st o t ∧ ∃ L, FrameEnd st o t L mc ms ∧ ∀ q ∈ L, free q.base) ∨ ∃ q, o = .threw q ∧ vx_T XC st q t mc ms free
/-- a callee that returns or throws -/
def vx_Met (l : Launch) (y : MethodName) (ws : List Cond) (rm : Room) (Pc : Array Value → State → Prop) (Qc : Array Value → State → Outcome → State → Prop) (XC : String → State → State → Prop) (mc ms : Nat) (free : Addr → Prop) : Prop :=
  MetFree l y (headSpec ws rm) Pc (fun _ _ _ _ _ => True) (vx_Q Qc XC mc ms free)
def vx_Post (XC : String → State → State → Prop) (mc ms : Nat) (free : Addr → Prop) : Pt → Array Value → Addr → Pt → Prop := fun A a q B =>
  ∃ (g : JFrame) (mk : MethodId) (t : State) (L : List Loc) (E : String) (ce : Cell), B.U.heap = t.heap ∧ B.U.vm = t.vm ∧ XC E (A.U.calling g mk a) t ∧ t.heap[q]? = some ce ∧ ce.vm = .none ∧ A.U.vm.findClass E = some ce.cls ∧ B.locs = A.locs ++ L ∧ (∀ z ∈ L, free z.base) ∧ B.cells = A.cells + mc ∧ B.slots = A.slots + ms
def vx_Back (l : Launch) (R : Room) (p : Program) (e : Env) (below : List Frame) (s : State) (sargs : Array Value) (y : MethodName) (len W9 : Nat)
    (Pre : Pt → Array Value → Prop) (Post : Pt → Array Value → Option Value → Pt → Prop) (PostX : Pt → Array Value → Addr → Pt → Prop) : Prop :=
  ∀ (m : MethodId) (meth : Method) (c : Code) (A : Pt) (g : JFrame) (ig : Instr) (mk : MethodId) (a : Array Value),
    Stand p l e R s m sargs below meth c A.U A.locs A.cells A.slots → g.method = m → g.locals.size = c.maxLocals → decode c.code g.pc = .ok (ig, len) →
    2 * g.monitorRoom + (g.stack.map fun v => v.category).sum ≤ W9 → A.U.methodNamed? y = some mk → Pre A a →
    (∃ (v : Option Value) (B : Pt), Stand p l e R s m sargs below meth c B.U B.locs B.cells B.slots ∧ Post A a v B ∧
      Steps p.tables e below (doInvoke e (A.U.setTop g) [] mk a).1 (B.U.setTop { g with pc := g.pc + len, stack := v.toList ++ g.stack })) ∨
    (∃ (q : Addr) (B : Pt), Stand p l e R s m sargs below meth c B.U B.locs B.cells B.slots ∧ PostX A a q B ∧
      Steps p.tables e below (doInvoke e (A.U.setTop g) [] mk a).1 ((B.U.setTop g).pushFrame (.throwing q)))
section Payer
variable {l : Launch} {R : Room} {p : Program} {e : Env} {below : List Frame} {s : State} {sargs : Array Value} {y : MethodName} {len W9 : Nat}
theorem vx_back {ws : List Cond} {rm : Room} {Pc : Array Value → State → Prop} {Qc : Array Value → State → Outcome → State → Prop} {XC : String → State → State → Prop} {mc ms : Nat} {free : Addr → Prop} {bytes : ByteArray} {maxL : Nat} {ret : Option FieldType}
    (hM : vx_Met l y ws rm Pc Qc XC mc ms free) (hblind : FrameBlind Pc) (hrc : rm.cells = mc) (hrs : rm.slots = ms)
    (hframes : rm.frames + 1 ≤ R.frames) (hlocals : W9 + (maxL + 11) + rm.locals ≤ R.locals)
    (hws : ∀ w ∈ ws, ∀ a' U, s.WarmedH U.vm → w.before a' U = true) (hcode : Cond.code y bytes maxL ret ∈ ws) (hinit : ∀ a' U, s.WarmedH U.vm → (Cond.initialized y.cls).before a' U = true) :
    vx_Back l R p e below s sargs y len W9 (PreOf R mc ms Pc) (PostOf Qc mc ms free) (vx_Post XC mc ms free) := by
  intro m meth c A g ig mk a X hg hsize hdg hW hn hp
  have h1 : (headSpec ws rm).pre.before a A.U = true := atoms_intro fun w hw => hws w hw _ _ X.warmed
  have h2 : (Cond.code y bytes maxL ret).before a A.U = true := hws _ hcode _ _ X.warmed
  have h3 : (Cond.initialized y.cls).before a A.U = true := hinit _ _ X.warmed
  have h4 : A.cells + (headSpec ws rm).room.cells ≤ R.cells := by rw [show (headSpec ws rm).room.cells = mc from hrc]; exact hp.1
  have h5 : A.slots + (headSpec ws rm).room.slots ≤ R.slots := by rw [show (headSpec ws rm).room.slots = ms from hrs]; exact hp.2.1
  have hPc : Pc a (A.U.calling g mk a) := hblind _ _ _ _ hp.2.2
  obtain ⟨U, Ls, c0, s0⟩ := A
  dsimp only [Pt.U, Pt.locs, Pt.cells, Pt.slots] at h1 h2 h3 h4 h5 X hn hPc ⊢
  obtain ⟨methY, cY, hmY, hcY, -, hlY, -, -, -, -⟩ := Cond.code_spec hn h2
  obtain ⟨kY, hkY, -⟩ := className_of_methodNamed hn
  have hinitY : kY.init = .initialized := Cond.initialized_spec (findClass_of_methodNamed hn) hkY h3
  have h : At U g.method c below := by rw [hg]; exact X.here
  have hlocals9 : W9 + (maxL + 11) + (headSpec ws rm).room.locals ≤ R.locals := hlocals
  have happ : (headSpec ws rm).appliesLoose y e.platform (U.calling g mk a) = true :=
    Spec.appliesLoose_calling (g := g) h hdg hn hkY hinitY
      (X.room_calling (g := g) (R' := (headSpec ws rm).room) hsize hmY hcY hframes (by rw [hlY]; omega) h4 h5) h1
  obtain ⟨mid, hmid⟩ := h.above
  have hfr : (U.setTop g).frames = (.java g :: mid) ++ below := by rw [State.frames_setTop' g h.top, hmid]; rfl
  obtain ⟨o, s₂, hsteps, -, hend, hq⟩ := Steps.callFree hM p X.admits X.cas X.clock (acts := []) hfr happ hPc trivial
  have hq' : vx_Q Qc XC mc ms free a (U.calling g mk a) o s₂ := hq
  rw [State.frames_setTop' g h.top] at hend
  obtain ⟨g₀, hg0⟩ := Option.isSome_iff_exists.mp h.top
  obtain ⟨r, hr⟩ := State.topJava?_eq_some.mp hg0
  have hr' : (({ U with heap := s₂.heap, slotsUsed := s₂.slotsUsed } : State).setVm s₂.vm).frames = .java g₀ :: r := hr
  rcases hq' with ⟨hqc, L, hfe, hL⟩ | ⟨q, rfl, E, ce, L, hx, hce, hcv, hcl, hW₂, hsm, hL⟩
  · obtain ⟨⟨v, rfl⟩, hW₂, e2, q2, q3, q4, q5, q6⟩ := id hfe
    have e3 : s₂ = ({ (U.calling g mk a).setFrames s₂.frames with heap := s₂.heap, slotsUsed := s₂.slotsUsed } : State).setVm s₂.vm := by
      have : s₂ = ({ s₂ with vm := (U.calling g mk a).vm } : State).setVm s₂.vm := rfl
      rw [e2] at this
      exact this
    obtain ⟨c₂, i₂, len₂, hc₂, hd₂, hf₂⟩ := hend
    have hW' : U.WarmedH s₂.vm := hW₂
    have hcc : c₂ = c := by
      have h1 : s₂.code? g.method = U.code? g.method := by
        rw [State.code?_eq, State.code?_eq, hW'.alike.method?]
      exact Option.some.inj (hc₂.symm.trans (h1.trans h.code))
    subst hcc
    have hlen : len₂ = len := by rw [hdg] at hd₂; cases hd₂; rfl
    subst hlen
    have hs₂ : s₂ = (({ U with heap := s₂.heap, slotsUsed := s₂.slotsUsed } : State).setVm s₂.vm).setTop { g with pc := g.pc + len₂, stack := v.toList ++ g.stack } := by
      refine e3.trans ?_
      rw [hf₂, State.calling_eq h.top, State.setFrames_setFrames, State.setTop_of_frames _ hr', hr]
      rfl
    have hsame : U.sameButNew ({ U with heap := s₂.heap, slotsUsed := s₂.slotsUsed } : State) L mc ms := by
      refine ⟨?_, q2, q3, q4, q5, q6⟩
      obtain ⟨t, ht, -⟩ := State.frames_cons hr
      show ({ U with heap := s₂.heap, slotsUsed := s₂.slotsUsed } : State) = { U.setFrames U.frames with heap := s₂.heap, slotsUsed := s₂.slotsUsed }
      rw [State.setFrames_self ht]
    subst hg
    refine Or.inl ⟨v, ⟨(({ U with heap := s₂.heap, slotsUsed := s₂.slotsUsed } : State).setVm s₂.vm), Ls ++ L, c0 + mc, s0 + ms⟩,
      ⟨X.admits, X.cas, X.clock, X.frames, X.room, X.hears, X.method, X.code, (X.here.setHeapUsed s₂.heap s₂.slotsUsed).setVm hW'.alike, X.tail, State.WarmedH.trans X.warmed hW', X.limits, X.bytes, X.same.trans (hsame.setVm s.vm)⟩,
      ⟨g, mk, s₂, L, rfl, rfl, hqc, rfl, hL, rfl, rfl⟩, ?_⟩
    show Steps p.tables e below _ ((({ U with heap := s₂.heap, slotsUsed := s₂.slotsUsed } : State).setVm s₂.vm).setTop { g with pc := g.pc + len₂, stack := v.toList ++ g.stack })
    rw [← hs₂]
    exact hsteps
  · obtain ⟨e2, q2, q3, q4, q5, q6⟩ := id hsm
    have e3 : s₂ = ({ (U.calling g mk a).setFrames s₂.frames with heap := s₂.heap, slotsUsed := s₂.slotsUsed } : State).setVm s₂.vm := by
      have : s₂ = ({ s₂ with vm := (U.calling g mk a).vm } : State).setVm s₂.vm := rfl
      rw [e2] at this
      exact this
    have hf₂ : s₂.frames = .throwing q :: .java g :: U.frames.tail := hend
    have hW' : U.WarmedH s₂.vm := hW₂
    have hs₂ : s₂ = ((({ U with heap := s₂.heap, slotsUsed := s₂.slotsUsed } : State).setVm s₂.vm).setTop g).pushFrame (.throwing q) := by
      refine e3.trans ?_
      rw [hf₂, State.calling_eq h.top, State.setFrames_setFrames, State.pushFrame, State.frames_setTop _ hr', State.setTop_of_frames _ hr', State.setFrames_setFrames, hr]
      rfl
    have hsame : U.sameButNew ({ U with heap := s₂.heap, slotsUsed := s₂.slotsUsed } : State) L mc ms := by
      refine ⟨?_, q2, q3, q4, q5, q6⟩
      obtain ⟨t, ht, -⟩ := State.frames_cons hr
      show ({ U with heap := s₂.heap, slotsUsed := s₂.slotsUsed } : State) = { U.setFrames U.frames with heap := s₂.heap, slotsUsed := s₂.slotsUsed }
      rw [State.setFrames_self ht]
    subst hg
    refine Or.inr ⟨q, ⟨(({ U with heap := s₂.heap, slotsUsed := s₂.slotsUsed } : State).setVm s₂.vm), Ls ++ L, c0 + mc, s0 + ms⟩,
      ⟨X.admits, X.cas, X.clock, X.frames, X.room, X.hears, X.method, X.code, (X.here.setHeapUsed s₂.heap s₂.slotsUsed).setVm hW'.alike, X.tail, State.WarmedH.trans X.warmed hW', X.limits, X.bytes, X.same.trans (hsame.setVm s.vm)⟩,
      ⟨g, mk, s₂, L, E, ce, rfl, rfl, hx, hce, hcv, hcl, rfl, hL, rfl, rfl⟩, ?_⟩
    show Steps p.tables e below _ (((({ U with heap := s₂.heap, slotsUsed := s₂.slotsUsed } : State).setVm s₂.vm).setTop g).pushFrame (.throwing q))
    rw [← hs₂]
    exact hsteps
end Payer
section Calls
variable {p : Program} {l : Launch} {e : Env} {R : Room} {s : State} {m : MethodId} {args : Array Value} {below : List Frame} {meth : Method} {c : Code} {T : State} {locs : List Loc} {cells slots : Nat}
theorem vx_callV (X : Stand p l e R s m args below meth c T locs cells slots) (hexec : p.tables.exec = Jvm.exec) {own C : String} {index : Nat} {y : MethodName} {bytes : ByteArray} {maxL : Nat} {ret : Option FieldType}
    (hown : s.vm.findClass own = some m.cls) (hlink : (Cond.methodLink own index y).before args s = true) (hinst : (Cond.instanceMethod y).before args s = true) (hsel : (Cond.selects C y y).before args s = true)
    (hcode : (Cond.code y bytes maxL ret).before args s = true) (hy : y.cls ≠ "java/lang/invoke/MethodHandle" ∧ y.cls ≠ "java/lang/invoke/VarHandle")
    {W9 : Nat} {Pre : Pt → Array Value → Prop} {Post : Pt → Array Value → Option Value → Pt → Prop} {PostX : Pt → Array Value → Addr → Pt → Prop} (hK : vx_Back l R p e below s args y 3 W9 Pre Post PostX)
    {b : Addr} {cellB : Cell} (hcell : T.heap[b]? = some cellB) (hobj : cellB.vm.isStatics = false) (hcls : s.vm.findClass C = some cellB.cls)
    {g : JFrame} (hg : g.method = m) (hsize : g.locals.size = c.maxLocals) {argsL rest : List Value} (hlen : ∀ sig, parseMethodDescriptor y.desc = some sig → argsL.length = sig.parameters.length)
    (hstack : g.stack = argsL.reverse ++ .ref b :: rest) (hW : 2 * g.monitorRoom + (rest.map fun v => v.category).sum ≤ W9) (hdg : decode c.code g.pc = .ok (.invokevirtual index, 3))
    (hpre : ∀ vm₁, s.WarmedH vm₁ → Pre ⟨T.setVm vm₁, locs, cells, slots⟩ (Value.ref b :: argsL).toArray) :
    (∃ (v : Option Value) (vm₁ : Vm) (B : Pt), s.WarmedH vm₁ ∧ Stand p l e R s m args below meth c B.U B.locs B.cells B.slots ∧ Post ⟨T.setVm vm₁, locs, cells, slots⟩ (Value.ref b :: argsL).toArray v B ∧
      ∀ target, Steps p.tables e below (B.U.setTop { g with pc := g.pc + 3, stack := v.toList ++ rest }) target → Steps p.tables e below (T.setTop g) target) ∨
    (∃ (q : Addr) (vm₁ : Vm) (B : Pt), s.WarmedH vm₁ ∧ Stand p l e R s m args below meth c B.U B.locs B.cells B.slots ∧ PostX ⟨T.setVm vm₁, locs, cells, slots⟩ (Value.ref b :: argsL).toArray q B ∧
      Steps p.tables e below (T.setTop g) ((B.U.setTop { g with stack := rest }).pushFrame (.throwing q))) := by
  obtain ⟨mk, methM, hnamed, hmethM, hstM, habM⟩ := Cond.instanceMethod_spec hinst
  obtain ⟨methM', cM, hmethM', -, -, -, -, -, -, hsigM⟩ := Cond.code_spec hnamed hcode
  cases hmethM.symm.trans hmethM'
  obtain ⟨c2, r2, m2, q1, q2, q3, q4, kP, hkP, hkPi⟩ := Cond.selects_spec hsel
  cases hcls.symm.trans q1
  cases (State.methodFound?_of_named hnamed hy).symm.trans q2
  cases hnamed.symm.trans q3
  have hselP : selectMethod e.platform s.vm cellB.cls mk = .method mk := by rw [Launch.admits_selectMethod X.admits]; exact q4
  obtain ⟨vm₁, X₁, hstep₁⟩ := X.invokevirtual hexec hown hlink hnamed hmethM hstM hkP hkPi hy (a := b) (cell := cellB) hcell
    (fun z h => by rw [h] at hobj; cases hobj) hselP hmethM habM hkP hkPi (g := g) hg (argsL := argsL) (rest := rest) (hlen _ hsigM) hstack hdg
  rcases hK m meth c ⟨T.setVm vm₁, locs, cells, slots⟩ { g with stack := rest } (.invokevirtual index) mk (Value.ref b :: argsL).toArray X₁ hg hsize hdg hW (X₁.named hnamed) (hpre vm₁ X₁.warmed) with ⟨v, B, X', hpost, hsteps⟩ | ⟨q, B, X', hpost, hsteps⟩
  · exact Or.inl ⟨v, vm₁, B, X₁.warmed, X', hpost, fun target h => hstep₁ _ fun acts => by rw [doInvoke_state]; exact hsteps.trans h⟩
  · exact Or.inr ⟨q, vm₁, B, X₁.warmed, X', hpost, hstep₁ _ fun acts => by rw [doInvoke_state]; exact hsteps⟩
theorem vx_callS (X : Stand p l e R s m args below meth c T locs cells slots) (hexec : p.tables.exec = Jvm.exec) {own : String} {index : Nat} {y : MethodName} {bytes : ByteArray} {maxL : Nat} {ret : Option FieldType}
    (hown : s.vm.findClass own = some m.cls) (hlink : (Cond.methodLink own index y).before args s = true) (hstat : (Cond.static y).before args s = true) (hinit : (Cond.initialized y.cls).before args s = true)
    (hcode : (Cond.code y bytes maxL ret).before args s = true) (hy : y.cls ≠ "java/lang/invoke/MethodHandle" ∧ y.cls ≠ "java/lang/invoke/VarHandle")
    {W9 : Nat} {Pre : Pt → Array Value → Prop} {Post : Pt → Array Value → Option Value → Pt → Prop} {PostX : Pt → Array Value → Addr → Pt → Prop} (hK : vx_Back l R p e below s args y 3 W9 Pre Post PostX)
    {g : JFrame} (hg : g.method = m) (hsize : g.locals.size = c.maxLocals) {argsL rest : List Value} (hlen : ∀ sig, parseMethodDescriptor y.desc = some sig → argsL.length = sig.parameters.length)
    (hstack : g.stack = argsL.reverse ++ rest) (hW : 2 * g.monitorRoom + (rest.map fun v => v.category).sum ≤ W9) (hdg : decode c.code g.pc = .ok (.invokestatic index, 3))
    (hpre : ∀ vm₁, s.WarmedH vm₁ → Pre ⟨T.setVm vm₁, locs, cells, slots⟩ argsL.toArray) :
    (∃ (v : Option Value) (vm₁ : Vm) (B : Pt), s.WarmedH vm₁ ∧ Stand p l e R s m args below meth c B.U B.locs B.cells B.slots ∧ Post ⟨T.setVm vm₁, locs, cells, slots⟩ argsL.toArray v B ∧
      ∀ target, Steps p.tables e below (B.U.setTop { g with pc := g.pc + 3, stack := v.toList ++ rest }) target → Steps p.tables e below (T.setTop g) target) ∨
    (∃ (q : Addr) (vm₁ : Vm) (B : Pt), s.WarmedH vm₁ ∧ Stand p l e R s m args below meth c B.U B.locs B.cells B.slots ∧ PostX ⟨T.setVm vm₁, locs, cells, slots⟩ argsL.toArray q B ∧
      Steps p.tables e below (T.setTop g) ((B.U.setTop { g with stack := rest }).pushFrame (.throwing q))) := by
  obtain ⟨mk, hnamed⟩ := Cond.code_named hcode
  obtain ⟨methM, cM, hmethM, -, -, -, -, -, -, hsigM⟩ := Cond.code_spec hnamed hcode
  have hstatic : methM.isStatic = true := Cond.static_spec hnamed hmethM hstat
  obtain ⟨kP, hkP, -⟩ := className_of_methodNamed hnamed
  have hinitP : kP.init = .initialized := Cond.initialized_spec (findClass_of_methodNamed hnamed) hkP hinit
  obtain ⟨vm₁, X₁, hstep₁⟩ := X.invokestatic hexec hown hlink hnamed hmethM hstatic hkP hinitP hy (g := g) hg (argsL := argsL) (rest := rest) (hlen _ hsigM) hstack hdg
  rcases hK m meth c ⟨T.setVm vm₁, locs, cells, slots⟩ { g with stack := rest } (.invokestatic index) mk argsL.toArray X₁ hg hsize hdg hW (X₁.named hnamed) (hpre vm₁ X₁.warmed) with ⟨v, B, X', hpost, hsteps⟩ | ⟨q, B, X', hpost, hsteps⟩
  · exact Or.inl ⟨v, vm₁, B, X₁.warmed, X', hpost, fun target h => hstep₁ _ fun acts => by rw [doInvoke_state]; exact hsteps.trans h⟩
  · exact Or.inr ⟨q, vm₁, B, X₁.warmed, X', hpost, hstep₁ _ fun acts => by rw [doInvoke_state]; exact hsteps⟩
end Calls
theorem vx_cls {s : State} {T : State} {vm₁ : Vm} {E : String} {k : ClassId} (hW : s.WarmedH vm₁) (h : (T.setVm vm₁).vm.findClass E = some k) : s.vm.findClass E = some k := by
  have h1 : vm₁.findClass E = some k := h
  rw [hW.alike.findClass] at h1
  exact h1
/-- the method's frame g, with q thrown over it -/
def vx_W (p : Program) (l : Launch) (e : Env) (R : Room) (s : State) (m : MethodId) (args : Array Value) (below : List Frame) (meth : Method) (c : Code) (H : Heap) (locs : List Loc) (cells slots : Nat) (Q : State → Prop) (g : JFrame) (q : Addr) : Prop :=
  ∀ T : State, T.heap = H → Stand p l e R s m args below meth c T locs cells slots → ∃ t, Steps p.tables e below ((T.setTop g).pushFrame (.throwing q)) t ∧ Q t
def vx_Run (p : Program) (l : Launch) (e : Env) (R : Room) (s : State) (m : MethodId) (args : Array Value) (below : List Frame) (meth : Method) (c : Code) (H : Heap) (locs : List Loc) (cells slots mc ms : Nat) (g : JFrame) (rest : List Value) (Qa : State → Outcome → State → Prop) (XC : String → State → State → Prop) (free : Addr → Prop) : Prop :=
  ∀ T : State, T.heap = H → Stand p l e R s m args below meth c T locs cells slots →
    (∃ (v : Option Value) (st₀ t T' : State) (L : List Loc), st₀.heap = H ∧ Stand p l e R s m args below meth c T' (locs ++ L) (cells + mc) (slots + ms) ∧ (∀ q ∈ L, free q.base) ∧ T'.heap = t.heap ∧ T'.vm = t.vm ∧ Qa st₀ (.returned v) t ∧
      Goes p e below T g T' { g with pc := g.pc + 3, stack := v.toList ++ rest }) ∨
    (∃ (q : Addr) (st₀ t T' : State) (L : List Loc) (E : String) (ce : Cell), st₀.heap = H ∧ Stand p l e R s m args below meth c T' (locs ++ L) (cells + mc) (slots + ms) ∧ (∀ z ∈ L, free z.base) ∧ T'.heap = t.heap ∧ T'.vm = t.vm ∧ XC E st₀ t ∧ t.heap[q]? = some ce ∧ ce.vm = .none ∧ s.vm.findClass E = some ce.cls ∧
      Steps p.tables e below (T.setTop g) ((T'.setTop { g with stack := rest }).pushFrame (.throwing q)))
def vx_X {S : Type} (px : S → Prop) (B : String → S → State → Prop) (A : Nat → Prop) : String → State → State → Prop := fun E st t => ∃ u : S, px u ∧ B E u t ∧ va_F A st t
section Runs
variable {p : Program} {l : Launch} {e : Env} {R : Room} {s : State} {m : MethodId} {args : Array Value} {below : List Frame} {meth : Method} {c : Code} {H : Heap} {locs : List Loc} {cells slots : Nat}
variable {y : MethodName} {bytes cc : ByteArray} {maxL nL mc ms n index : Nat} {ret : Option FieldType} {ws : List Cond} {rm : Room} {Pc : Array Value → State → Prop} {Qc : Array Value → State → Outcome → State → Prop} {XC : String → State → State → Prop} {free : Addr → Prop} {Ts : List Cond} {own C : String} {b : Addr} {As rest : List Value} {g : JFrame}
theorem vx_callBack (cb : CallB R s args own index y bytes maxL ret ws rm mc ms n) (hM : vx_Met l y ws rm Pc Qc XC mc ms free) (hbl : FrameBlind Pc) : vx_Back l R p e below s args y 3 8 (PreOf R mc ms Pc) (PostOf Qc mc ms free) (vx_Post XC mc ms free) := by
  obtain ⟨hrc, hrs, hfr, hlo, hws, hcw, -, hini, -⟩ := cb
  exact vx_back (bytes := bytes) (maxL := maxL) (ret := ret) hM hbl hrc hrs hfr hlo hws hcw (fun a' U hW => word_at hW (Or.inl (by first | rfl | simp [Cond.onTables, Cond.keeps, Cond.steady])) hini)
theorem vx_runV (S : CallFix p m c cc nL s args Ts own) (hM : vx_Met l y ws rm Pc Qc XC mc ms free) (cw : CallW R s args own C index y bytes maxL ret ws rm mc ms n) (hp : PreV s H C b Pc As)
    (hg : g.method = m) (hn : As.length = n) (hsize : g.locals.size = nL) (hstack : g.stack = As.reverse ++ .ref b :: rest) (hW : 2 * g.monitorRoom + (rest.map fun v => v.category).sum ≤ 8) (hdg : decode cc g.pc = .ok (.invokevirtual index, 3)) (hf : cells + mc ≤ R.cells ∧ slots + ms ≤ R.slots) :
    vx_Run p l e R s m args below meth c H locs cells slots mc ms g rest (Qc (Value.ref b :: As).toArray) XC free := by
  have hK : vx_Back l R p e below s args y 3 8 (PreOf R mc ms Pc) (PostOf Qc mc ms free) (vx_Post XC mc ms free) := vx_callBack cw.1 hM hp.1
  obtain ⟨⟨-, -, -, -, -, -, hcode, -, hy, hlen, hl⟩, hin, hse⟩ := cw
  obtain ⟨hx, hb, hml, ho, -⟩ := S
  obtain ⟨-, ⟨cellB, hcB, hoB, hclB⟩, hPc⟩ := hp
  intro T hT X
  rcases vx_callV X hx (C := C) (bytes := bytes) (maxL := maxL) (ret := ret) ho hl hin hse hcode hy hK (by rw [hT]; exact hcB) hoB hclB hg (hsize.trans hml.symm) (argsL := As) (rest := rest) (fun sig h => hn.trans (hlen sig h)) hstack hW (by rw [hb]; exact hdg)
    (fun vm₁ hW₁ => ⟨hf.1, hf.2, hPc (T.setVm vm₁) hT hW₁⟩) with ⟨v, vm₁, ⟨U', l2, c2, s2⟩, hW₁, X', ⟨g', mk, t, L, e1, e2, hq, h1, hL, h2, h3⟩, st⟩ | ⟨q, vm₁, ⟨U', l2, c2, s2⟩, hW₁, X', ⟨g', mk, t, L, E, ce, e1, e2, hq, hce, hcv, hcl, h1, hL, h2, h3⟩, st⟩
  · dsimp only [Pt.U, Pt.locs, Pt.cells, Pt.slots] at X' e1 e2 h1 h2 h3 st
    subst h1; subst h2; subst h3
    exact Or.inl ⟨v, (T.setVm vm₁).calling g' mk (Value.ref b :: As).toArray, t, U', L, hT, X', hL, e1, e2, hq, st⟩
  · dsimp only [Pt.U, Pt.locs, Pt.cells, Pt.slots] at X' e1 e2 h1 h2 h3 st hcl
    subst h1; subst h2; subst h3
    exact Or.inr ⟨q, (T.setVm vm₁).calling g' mk (Value.ref b :: As).toArray, t, U', L, E, ce, hT, X', hL, e1, e2, hq, hce, hcv, vx_cls hW₁ hcl, st⟩
theorem vx_runS (S : CallFix p m c cc nL s args Ts own) (hM : vx_Met l y ws rm Pc Qc XC mc ms free) (cw : CallB R s args own index y bytes maxL ret ws rm mc ms n ∧ (Cond.static y).before args s = true) (hp : PreS s H Pc As)
    (hg : g.method = m) (hn : As.length = n) (hsize : g.locals.size = nL) (hstack : g.stack = As.reverse ++ rest) (hW : 2 * g.monitorRoom + (rest.map fun v => v.category).sum ≤ 8) (hdg : decode cc g.pc = .ok (.invokestatic index, 3)) (hf : cells + mc ≤ R.cells ∧ slots + ms ≤ R.slots) :
    vx_Run p l e R s m args below meth c H locs cells slots mc ms g rest (Qc As.toArray) XC free := by
  have hK : vx_Back l R p e below s args y 3 8 (PreOf R mc ms Pc) (PostOf Qc mc ms free) (vx_Post XC mc ms free) := vx_callBack cw.1 hM hp.1
  obtain ⟨⟨-, -, -, -, -, -, hcode, hini, hy, hlen, hl⟩, hstt⟩ := cw
  obtain ⟨hx, hb, hml, ho, -⟩ := S
  intro T hT X
  rcases vx_callS X hx (bytes := bytes) (maxL := maxL) (ret := ret) ho hl hstt hini hcode hy hK hg (hsize.trans hml.symm) (argsL := As) (rest := rest) (fun sig h => hn.trans (hlen sig h)) hstack hW (by rw [hb]; exact hdg)
    (fun vm₁ hW₁ => ⟨hf.1, hf.2, hp.2 (T.setVm vm₁) hT hW₁⟩) with ⟨v, vm₁, ⟨U', l2, c2, s2⟩, hW₁, X', ⟨g', mk, t, L, e1, e2, hq, h1, hL, h2, h3⟩, st⟩ | ⟨q, vm₁, ⟨U', l2, c2, s2⟩, hW₁, X', ⟨g', mk, t, L, E, ce, e1, e2, hq, hce, hcv, hcl, h1, hL, h2, h3⟩, st⟩
  · dsimp only [Pt.U, Pt.locs, Pt.cells, Pt.slots] at X' e1 e2 h1 h2 h3 st
    subst h1; subst h2; subst h3
    exact Or.inl ⟨v, (T.setVm vm₁).calling g' mk As.toArray, t, U', L, hT, X', hL, e1, e2, hq, st⟩
  · dsimp only [Pt.U, Pt.locs, Pt.cells, Pt.slots] at X' e1 e2 h1 h2 h3 st hcl
    subst h1; subst h2; subst h3
    exact Or.inr ⟨q, (T.setVm vm₁).calling g' mk As.toArray, t, U', L, E, ce, hT, X', hL, e1, e2, hq, hce, hcv, vx_cls hW₁ hcl, st⟩
end Runs
section Rows
variable {p : Program} {l : Launch} {e : Env} {R : Room} {s : State} {m : MethodId} {args : Array Value} {below : List Frame} {meth : Method} {c : Code} {H : Heap} {locs : List Loc} {cells slots : Nat} {Q : State → Prop}
variable {mc ms : Nat} {free : Addr → Prop} {A0 A1 : Nat → Prop} {H0 : Heap} {a : Array Value} {pc : Nat} {ls : Array Slot} {st0 rest : List Value}
theorem vx_keep {st₀ t T' : State} {L : List Loc} (h0 : st₀.heap = H) (e1 : T'.heap = t.heap) (hS : va_S A0 H0 H locs) (hA : ∀ q, q < H.size → A1 q → A0 q) (hf : ∀ q, free q → A0 q) (hL : ∀ q ∈ L, free q.base) (hF : va_F A1 st₀ t) :
    H.size ≤ T'.heap.size ∧ (∀ q : Nat, q < H.size → ¬ A1 q → T'.heap[q]? = H[q]?) ∧ va_S A0 H0 T'.heap (locs ++ L) := by
  obtain ⟨hz, hk⟩ := hF
  rw [h0] at hz hk
  exact ⟨by rw [e1]; exact hz, fun q h1 h2 => by rw [e1]; exact hk q h1 h2,
    ⟨Nat.le_trans hS.1 (by rw [e1]; exact hz), fun q h1 h2 => by rw [e1, hk q (Nat.lt_of_lt_of_le h1 hS.1) (fun z => h2 (hA q (Nat.lt_of_lt_of_le h1 hS.1) z))]; exact hS.2.1 q h1 h2, fun q hq => by
      rcases List.mem_append.mp hq with h | h
      · exact hS.2.2 q h
      · exact hf _ (hL q h)⟩⟩
theorem vx_calli {S SX : Type} {post : Int32 → S → Prop} {px : SX → Prop} {B : S → State → Prop} {BX : String → SX → State → Prop} {AX : Nat → Prop} (hr : vx_Run p l e R s m args below meth c H locs cells slots mc ms (F0 m pc ls st0) rest (va_Qi post B A1 a) (vx_X px BX AX) free) (hS : va_S A0 H0 H locs) (hA : ∀ q, q < H.size → A1 q → A0 q) (hf : ∀ q, free q → A0 q) (hAX : ∀ q, q < H.size → AX q → A0 q)
    (kx : ∀ (E : String) (ce : Cell) (q9 : Addr) (u : SX) (t : State) (H1 : Heap) (locs1 : List Loc), t.heap = H1 → s.vm.Alike t.vm → px u → BX E u t → H.size ≤ H1.size → (∀ q : Nat, q < H.size → ¬ AX q → H1[q]? = H[q]?) → va_S A0 H0 H1 locs1 → H1[q9]? = some ce → ce.vm = .none → s.vm.findClass E = some ce.cls → vx_W p l e R s m args below meth c H1 locs1 (cells + mc) (slots + ms) Q (F0 m pc ls rest) q9)
    (kk : ∀ (r : Int32) (u : S) (t : State) (H1 : Heap) (locs1 : List Loc), t.heap = H1 → s.vm.Alike t.vm → post r u → B u t → H.size ≤ H1.size → (∀ q : Nat, q < H.size → ¬ A1 q → H1[q]? = H[q]?) → va_S A0 H0 H1 locs1 → W p l e R s m args below meth c H1 locs1 (cells + mc) (slots + ms) Q (F0 m (pc + 3) ls (.int r :: rest))) : W p l e R s m args below meth c H locs cells slots Q (F0 m pc ls st0) := by
  intro T hT X
  rcases hr T hT X with ⟨v, st₀, t, T', L, h0, X', hL, e1, e2, ⟨⟨r, u, hv, hp, hb⟩, hF⟩, st⟩ | ⟨q, st₀, t, T', L, E, ce, h0, X', hL, e1, e2, ⟨u, hp, hb, hF⟩, hce, hcv, hcl, st⟩
  · cases hv
    obtain ⟨k1, k2, k3⟩ := vx_keep h0 e1 hS hA hf hL hF
    obtain ⟨t2, a1, b1⟩ := kk r u t T'.heap (locs ++ L) e1.symm (by rw [← e2]; exact X'.warmed.alike) hp hb k1 k2 k3 T' rfl X'
    exact ⟨t2, st t2 a1, b1⟩
  · obtain ⟨k1, k2, k3⟩ := vx_keep h0 e1 hS hAX hf hL hF
    obtain ⟨t2, a1, b1⟩ := kx E ce q u t T'.heap (locs ++ L) e1.symm (by rw [← e2]; exact X'.warmed.alike) hp hb k1 k2 k3 (by rw [e1]; exact hce) hcv hcl T' rfl X'
    exact ⟨t2, st.trans a1, b1⟩
theorem vx_calll {S SX : Type} {post : Int64 → S → Prop} {px : SX → Prop} {B : S → State → Prop} {BX : String → SX → State → Prop} {AX : Nat → Prop} (hr : vx_Run p l e R s m args below meth c H locs cells slots mc ms (F0 m pc ls st0) rest (va_Ql post B A1 a) (vx_X px BX AX) free) (hS : va_S A0 H0 H locs) (hA : ∀ q, q < H.size → A1 q → A0 q) (hf : ∀ q, free q → A0 q) (hAX : ∀ q, q < H.size → AX q → A0 q)
    (kx : ∀ (E : String) (ce : Cell) (q9 : Addr) (u : SX) (t : State) (H1 : Heap) (locs1 : List Loc), t.heap = H1 → s.vm.Alike t.vm → px u → BX E u t → H.size ≤ H1.size → (∀ q : Nat, q < H.size → ¬ AX q → H1[q]? = H[q]?) → va_S A0 H0 H1 locs1 → H1[q9]? = some ce → ce.vm = .none → s.vm.findClass E = some ce.cls → vx_W p l e R s m args below meth c H1 locs1 (cells + mc) (slots + ms) Q (F0 m pc ls rest) q9)
    (kk : ∀ (r : Int64) (u : S) (t : State) (H1 : Heap) (locs1 : List Loc), t.heap = H1 → s.vm.Alike t.vm → post r u → B u t → H.size ≤ H1.size → (∀ q : Nat, q < H.size → ¬ A1 q → H1[q]? = H[q]?) → va_S A0 H0 H1 locs1 → W p l e R s m args below meth c H1 locs1 (cells + mc) (slots + ms) Q (F0 m (pc + 3) ls (.long r :: rest))) : W p l e R s m args below meth c H locs cells slots Q (F0 m pc ls st0) := by
  intro T hT X
  rcases hr T hT X with ⟨v, st₀, t, T', L, h0, X', hL, e1, e2, ⟨⟨r, u, hv, hp, hb⟩, hF⟩, st⟩ | ⟨q, st₀, t, T', L, E, ce, h0, X', hL, e1, e2, ⟨u, hp, hb, hF⟩, hce, hcv, hcl, st⟩
  · cases hv
    obtain ⟨k1, k2, k3⟩ := vx_keep h0 e1 hS hA hf hL hF
    obtain ⟨t2, a1, b1⟩ := kk r u t T'.heap (locs ++ L) e1.symm (by rw [← e2]; exact X'.warmed.alike) hp hb k1 k2 k3 T' rfl X'
    exact ⟨t2, st t2 a1, b1⟩
  · obtain ⟨k1, k2, k3⟩ := vx_keep h0 e1 hS hAX hf hL hF
    obtain ⟨t2, a1, b1⟩ := kx E ce q u t T'.heap (locs ++ L) e1.symm (by rw [← e2]; exact X'.warmed.alike) hp hb k1 k2 k3 (by rw [e1]; exact hce) hcv hcl T' rfl X'
    exact ⟨t2, st.trans a1, b1⟩
theorem vx_callf {S SX : Type} {post : UInt32 → S → Prop} {px : SX → Prop} {B : S → State → Prop} {BX : String → SX → State → Prop} {AX : Nat → Prop} (hr : vx_Run p l e R s m args below meth c H locs cells slots mc ms (F0 m pc ls st0) rest (va_Qf post B A1 a) (vx_X px BX AX) free) (hS : va_S A0 H0 H locs) (hA : ∀ q, q < H.size → A1 q → A0 q) (hf : ∀ q, free q → A0 q) (hAX : ∀ q, q < H.size → AX q → A0 q)
    (kx : ∀ (E : String) (ce : Cell) (q9 : Addr) (u : SX) (t : State) (H1 : Heap) (locs1 : List Loc), t.heap = H1 → s.vm.Alike t.vm → px u → BX E u t → H.size ≤ H1.size → (∀ q : Nat, q < H.size → ¬ AX q → H1[q]? = H[q]?) → va_S A0 H0 H1 locs1 → H1[q9]? = some ce → ce.vm = .none → s.vm.findClass E = some ce.cls → vx_W p l e R s m args below meth c H1 locs1 (cells + mc) (slots + ms) Q (F0 m pc ls rest) q9)
    (kk : ∀ (r : UInt32) (u : S) (t : State) (H1 : Heap) (locs1 : List Loc), t.heap = H1 → s.vm.Alike t.vm → post r u → B u t → H.size ≤ H1.size → (∀ q : Nat, q < H.size → ¬ A1 q → H1[q]? = H[q]?) → va_S A0 H0 H1 locs1 → W p l e R s m args below meth c H1 locs1 (cells + mc) (slots + ms) Q (F0 m (pc + 3) ls (.float r :: rest))) : W p l e R s m args below meth c H locs cells slots Q (F0 m pc ls st0) := by
  intro T hT X
  rcases hr T hT X with ⟨v, st₀, t, T', L, h0, X', hL, e1, e2, ⟨⟨r, u, hv, hp, hb⟩, hF⟩, st⟩ | ⟨q, st₀, t, T', L, E, ce, h0, X', hL, e1, e2, ⟨u, hp, hb, hF⟩, hce, hcv, hcl, st⟩
  · cases hv
    obtain ⟨k1, k2, k3⟩ := vx_keep h0 e1 hS hA hf hL hF
    obtain ⟨t2, a1, b1⟩ := kk r u t T'.heap (locs ++ L) e1.symm (by rw [← e2]; exact X'.warmed.alike) hp hb k1 k2 k3 T' rfl X'
    exact ⟨t2, st t2 a1, b1⟩
  · obtain ⟨k1, k2, k3⟩ := vx_keep h0 e1 hS hAX hf hL hF
    obtain ⟨t2, a1, b1⟩ := kx E ce q u t T'.heap (locs ++ L) e1.symm (by rw [← e2]; exact X'.warmed.alike) hp hb k1 k2 k3 (by rw [e1]; exact hce) hcv hcl T' rfl X'
    exact ⟨t2, st.trans a1, b1⟩
theorem vx_calld {S SX : Type} {post : UInt64 → S → Prop} {px : SX → Prop} {B : S → State → Prop} {BX : String → SX → State → Prop} {AX : Nat → Prop} (hr : vx_Run p l e R s m args below meth c H locs cells slots mc ms (F0 m pc ls st0) rest (va_Qd post B A1 a) (vx_X px BX AX) free) (hS : va_S A0 H0 H locs) (hA : ∀ q, q < H.size → A1 q → A0 q) (hf : ∀ q, free q → A0 q) (hAX : ∀ q, q < H.size → AX q → A0 q)
    (kx : ∀ (E : String) (ce : Cell) (q9 : Addr) (u : SX) (t : State) (H1 : Heap) (locs1 : List Loc), t.heap = H1 → s.vm.Alike t.vm → px u → BX E u t → H.size ≤ H1.size → (∀ q : Nat, q < H.size → ¬ AX q → H1[q]? = H[q]?) → va_S A0 H0 H1 locs1 → H1[q9]? = some ce → ce.vm = .none → s.vm.findClass E = some ce.cls → vx_W p l e R s m args below meth c H1 locs1 (cells + mc) (slots + ms) Q (F0 m pc ls rest) q9)
    (kk : ∀ (r : UInt64) (u : S) (t : State) (H1 : Heap) (locs1 : List Loc), t.heap = H1 → s.vm.Alike t.vm → post r u → B u t → H.size ≤ H1.size → (∀ q : Nat, q < H.size → ¬ A1 q → H1[q]? = H[q]?) → va_S A0 H0 H1 locs1 → W p l e R s m args below meth c H1 locs1 (cells + mc) (slots + ms) Q (F0 m (pc + 3) ls (.double r :: rest))) : W p l e R s m args below meth c H locs cells slots Q (F0 m pc ls st0) := by
  intro T hT X
  rcases hr T hT X with ⟨v, st₀, t, T', L, h0, X', hL, e1, e2, ⟨⟨r, u, hv, hp, hb⟩, hF⟩, st⟩ | ⟨q, st₀, t, T', L, E, ce, h0, X', hL, e1, e2, ⟨u, hp, hb, hF⟩, hce, hcv, hcl, st⟩
  · cases hv
    obtain ⟨k1, k2, k3⟩ := vx_keep h0 e1 hS hA hf hL hF
    obtain ⟨t2, a1, b1⟩ := kk r u t T'.heap (locs ++ L) e1.symm (by rw [← e2]; exact X'.warmed.alike) hp hb k1 k2 k3 T' rfl X'
    exact ⟨t2, st t2 a1, b1⟩
  · obtain ⟨k1, k2, k3⟩ := vx_keep h0 e1 hS hAX hf hL hF
    obtain ⟨t2, a1, b1⟩ := kx E ce q u t T'.heap (locs ++ L) e1.symm (by rw [← e2]; exact X'.warmed.alike) hp hb k1 k2 k3 (by rw [e1]; exact hce) hcv hcl T' rfl X'
    exact ⟨t2, st.trans a1, b1⟩
theorem vx_callv {S SX : Type} {post : S → Prop} {px : SX → Prop} {B : S → State → Prop} {BX : String → SX → State → Prop} {AX : Nat → Prop} (hr : vx_Run p l e R s m args below meth c H locs cells slots mc ms (F0 m pc ls st0) rest (va_Qv post B A1 a) (vx_X px BX AX) free) (hS : va_S A0 H0 H locs) (hA : ∀ q, q < H.size → A1 q → A0 q) (hf : ∀ q, free q → A0 q) (hAX : ∀ q, q < H.size → AX q → A0 q)
    (kx : ∀ (E : String) (ce : Cell) (q9 : Addr) (u : SX) (t : State) (H1 : Heap) (locs1 : List Loc), t.heap = H1 → s.vm.Alike t.vm → px u → BX E u t → H.size ≤ H1.size → (∀ q : Nat, q < H.size → ¬ AX q → H1[q]? = H[q]?) → va_S A0 H0 H1 locs1 → H1[q9]? = some ce → ce.vm = .none → s.vm.findClass E = some ce.cls → vx_W p l e R s m args below meth c H1 locs1 (cells + mc) (slots + ms) Q (F0 m pc ls rest) q9)
    (kk : ∀ (u : S) (t : State) (H1 : Heap) (locs1 : List Loc), t.heap = H1 → s.vm.Alike t.vm → post u → B u t → H.size ≤ H1.size → (∀ q : Nat, q < H.size → ¬ A1 q → H1[q]? = H[q]?) → va_S A0 H0 H1 locs1 → W p l e R s m args below meth c H1 locs1 (cells + mc) (slots + ms) Q (F0 m (pc + 3) ls (rest))) : W p l e R s m args below meth c H locs cells slots Q (F0 m pc ls st0) := by
  intro T hT X
  rcases hr T hT X with ⟨v, st₀, t, T', L, h0, X', hL, e1, e2, ⟨⟨u, hv, hp, hb⟩, hF⟩, st⟩ | ⟨q, st₀, t, T', L, E, ce, h0, X', hL, e1, e2, ⟨u, hp, hb, hF⟩, hce, hcv, hcl, st⟩
  · cases hv
    obtain ⟨k1, k2, k3⟩ := vx_keep h0 e1 hS hA hf hL hF
    obtain ⟨t2, a1, b1⟩ := kk u t T'.heap (locs ++ L) e1.symm (by rw [← e2]; exact X'.warmed.alike) hp hb k1 k2 k3 T' rfl X'
    exact ⟨t2, st t2 a1, b1⟩
  · obtain ⟨k1, k2, k3⟩ := vx_keep h0 e1 hS hAX hf hL hF
    obtain ⟨t2, a1, b1⟩ := kx E ce q u t T'.heap (locs ++ L) e1.symm (by rw [← e2]; exact X'.warmed.alike) hp hb k1 k2 k3 (by rw [e1]; exact hce) hcv hcl T' rfl X'
    exact ⟨t2, st.trans a1, b1⟩
/-- caught by the row x of this method's table; the rows ahead don't take it -/
theorem vx_catch {own name : String} {E : String} {ce : Cell} {q : Addr} (hown : s.vm.findClass own = some m.cls) (pre : List ExceptionTableEntry) (x : ExceptionTableEntry) (suf : List ExceptionTableEntry) (hsplit : c.exceptionTable.toList = pre ++ x :: suf)
    (hpass : ∀ z ∈ pre, covers z pc = false ∨ (z.catchType ≠ 0 ∧ ∃ nm : String, (Cond.classLink own z.catchType nm).before args s = true ∧ va_Nc E nm s)) (hx : covers x pc = true) (h0 : x.catchType ≠ 0)
    (hlink : (Cond.classLink own x.catchType name).before args s = true) (hcast : (Cond.castable E name).before args s = true) (hcell : H[q]? = some ce) (hv : ce.vm = .none) (hcl : s.vm.findClass E = some ce.cls)
    (kk : W p l e R s m args below meth c H locs cells slots Q (F0 m x.handlerPc ls [.ref q])) : vx_W p l e R s m args below meth c H locs cells slots Q (F0 m pc ls rest) q := by
  intro T hT X
  have hpl : e.platform.magicAccessors = ({} : Platform).magicAccessors := by rw [X.admits.platform]
  obtain ⟨c3, c4, hc3, hc4, hasg⟩ := Cond.castable_spec hcast
  cases Option.some.inj (hc3.symm.trans hcl)
  obtain ⟨c5, hc5, hcl5⟩ := Cond.classLink_spec hown hlink e.platform hpl
  cases Option.some.inj (hc4.symm.trans hc5)
  obtain ⟨vm', X', st⟩ := X.thenCaughtThrough q (g := F0 m pc ls rest) rfl (Steps.refl _) (by rw [hT]; exact hcell) (by rw [hv]; rfl) (by obtain ⟨k9, h9, -⟩ := Vm.findClass_spec hcl; exact ⟨k9, h9⟩) pre x suf hsplit
    (fun z hz => by
      rcases hpass z hz with h | ⟨hz0, nm, hl1, hn1⟩
      · exact Or.inl h
      · obtain ⟨c6, hc6, hcl6⟩ := Cond.classLink_spec hown hl1 e.platform hpl
        obtain ⟨a8, b8, h1, h2, h3⟩ := hn1
        cases Option.some.inj (h1.symm.trans hcl)
        cases Option.some.inj (h2.symm.trans hc6)
        exact Or.inr ⟨hz0, _, hcl6, h3⟩) hx (Or.inr ⟨h0, c4, hcl5, hasg⟩)
  obtain ⟨t, a1, b1⟩ := kk (T.setVm vm') hT X'
  exact ⟨t, st.trans a1, b1⟩
end Rows
section Ends
variable {p : Program} {l : Launch} {e : Env} {R : Room} {s : State} {m : MethodId} {args : Array Value} {below : List Frame} {meth : Method} {c : Code} {H : Heap} {locs : List Loc} {cells slots : Nat} {Q : State → Prop}
variable {mc ms : Nat} {free : Addr → Prop} {A0 A1 : Nat → Prop} {H0 : Heap} {a : Array Value} {ls : Array Slot} {st0 rest : List Value}
variable {Qc : Array Value → State → Outcome → State → Prop} {XC : String → State → State → Prop}
/-- what a body that may throw owes at its end -/
def vx_MQ (below : List Frame) (Qc : Array Value → State → Outcome → State → Prop) (XC : String → State → State → Prop) (a : Array Value) (s : State) (mc ms : Nat) (free : Addr → Prop) : State → Prop := fun t =>
  ∃ o, t.status = .running ∧ Ended t below o ∧ vx_Q Qc XC mc ms free a s o t
theorem vx_ret {g : JFrame} {mc ms : Nat} (k : W p l e R s m args below meth c H locs cells slots (MQ below Qc args s mc ms free) g) : W p l e R s m args below meth c H locs cells slots (vx_MQ below Qc XC args s mc ms free) g := by
  intro T hT X
  obtain ⟨t, a1, o, b1, b2, b3, b4⟩ := k T hT X
  exact ⟨t, a1, o, b1, b2, Or.inl ⟨b3, b4⟩⟩
/-- not caught here: it goes on to the caller -/
theorem vx_widen {g : JFrame} {q : Addr} {k n : Nat} (h1 : cells ≤ k) (h2 : slots ≤ n) (kk : vx_W p l e R s m args below meth c H locs k n Q g q) : vx_W p l e R s m args below meth c H locs cells slots Q g q := fun T hT X => kk T hT (stand_widen X h1 h2)
theorem vx_out {pc : Nat} {E : String} {ce : Cell} {q : Addr} {mc ms : Nat} (hout : ∀ x ∈ c.exceptionTable.toList, covers x pc = false) (hlocks : meth.locks = false) (hcell : H[q]? = some ce) (hv : ce.vm = .none) (hcl : s.vm.findClass E = some ce.cls)
    (hx : ∀ t : State, t.heap = H → s.vm.Alike t.vm → XC E s t) (hf : ∀ z ∈ locs, free z.base) (hc : cells ≤ mc) (hs : slots ≤ ms) :
    vx_W p l e R s m args below meth c H locs cells slots (vx_MQ below Qc XC args s mc ms free) (F0 m pc ls rest) q := by
  intro T hT X
  obtain ⟨st1, hrun, hend, hW, hsm⟩ := X.leaveThrown q (g := F0 m pc ls rest) rfl rfl rfl hout hlocks
  have hcell9 : (T.setFrames (.throwing q :: below)).heap[q]? = some ce := by
    show T.heap[q]? = some ce
    rw [hT]; exact hcell
  exact ⟨_, st1, .threw q, hrun, hend, Or.inr ⟨q, rfl, E, ce, locs, hx _ hT hW.alike, hcell9, hv, hcl, hW, hsm.mono hc hs, hf⟩⟩
theorem vx_frame {U : State} {k n : Nat} (h : s.sameButNew ({ U with vm := s.vm } : State) locs k n) : s.heap.size ≤ U.heap.size ∧ ∀ q : Nat, q < s.heap.size → (∀ z ∈ locs, z.base ≠ q) → U.heap[q]? = s.heap[q]? := by
  obtain ⟨-, h2, -, -, -, h6⟩ := h
  refine ⟨h2, fun q hq hz => ?_⟩
  obtain ⟨c9, e1, e2, e3, e4⟩ := h6 q _ (Array.getElem?_eq_getElem hq)
  have hs : c9.slots = (s.heap[q]).slots := Array.ext_getElem? fun i => e4 i fun hm => hz _ hm rfl
  have h9 : c9 = s.heap[q] := by
    rw [hs] at e2
    exact e2
  have e5 : U.heap[q]? = some c9 := e1
  rw [e5, h9, Array.getElem?_eq_getElem hq]
/-- the words of a throw but the four that speak of the heap -/
def vx_no (w : Cond) : Bool := decide (w ≠ .isRef (.static Bundle.tN "UNASSIGNED_STACK" Bundle.steD)) && decide (w ≠ .isRef (.static Bundle.tN "SUPPRESSED_SENTINEL" Bundle.listD)) && decide (w ≠ .laysStatic Bundle.tN "UNASSIGNED_STACK" Bundle.steD) && decide (w ≠ .laysStatic Bundle.tN "SUPPRESSED_SENTINEL" Bundle.listD)
def vx_at0 (own : String) (ic : Nat) (X : String) (names : List String) : List Cond := (Bundle.ownAtoms0 own ic X names).filter vx_no
def vx_atS (own : String) (ic : Nat) (X : String) (names : List String) : List Cond := (Bundle.ownAtoms own ic X names).filter vx_no
/-- a word that the tables alone decide, or a good one -/
def vx_ot (w : Cond) : Bool := w.onTables || goodWord w
theorem vx_ot_at {args a' : Array Value} {s U : State} {w : Cond} (hW : s.WarmedH U.vm) (hvm : s.vm = U.vm) (hg : vx_ot w = true) (h : w.before args s = true) : w.before a' U = true := by
  simp only [vx_ot, Bool.or_eq_true] at hg
  rcases hg with hg | hg
  · exact va_tabs hg hvm h
  · exact word_at hW (good_of_word hg) h
/-- a list's words: the good ones out of the method's own list, the others by premises of their own -/
theorem vx_hat {args : Array Value} {s : State} {L B : List Cond} (h1 : ∀ w ∈ L.filter goodWord, w.before args s = true) (h2 : ∀ w ∈ L.filter (fun w => !goodWord w), w ∈ B) (h3 : ∀ w ∈ B, w.before args s = true) : ∀ w ∈ L, w.before args s = true := by
  intro w hw
  by_cases g : goodWord w = true
  · exact h1 w (List.mem_filter.mpr ⟨hw, g⟩)
  · refine h3 w (h2 w (List.mem_filter.mpr ⟨hw, ?_⟩))
    show (!goodWord w) = true
    cases hgw : goodWord w
    · rfl
    · exact absurd hgw g
theorem vx_c {args : Array Value} {s : State} {w : Cond} {B : List Cond} (h : w.before args s = true) (t : ∀ w ∈ B, w.before args s = true) : ∀ w' ∈ w :: B, w'.before args s = true := fun w' h' => (List.mem_cons.mp h').elim (fun e => by rw [e]; exact h) (t w')
theorem vx_n {args : Array Value} {s : State} : ∀ w ∈ ([] : List Cond), w.before args s = true := fun _ h => nomatch h
theorem vx_own {args : Array Value} {s : State} {L : List Cond} (h1 : ∀ w ∈ L.filter vx_no, w.before args s = true)
    (hU : (Cond.isRef (.static Bundle.tN "UNASSIGNED_STACK" Bundle.steD)).before args s = true) (hN : (Cond.isRef (.static Bundle.tN "SUPPRESSED_SENTINEL" Bundle.listD)).before args s = true)
    (lU : (Cond.laysStatic Bundle.tN "UNASSIGNED_STACK" Bundle.steD).before args s = true) (lN : (Cond.laysStatic Bundle.tN "SUPPRESSED_SENTINEL" Bundle.listD).before args s = true) : ∀ w ∈ L, w.before args s = true := by
  intro w hw
  by_cases e1 : w = .isRef (.static Bundle.tN "UNASSIGNED_STACK" Bundle.steD)
  · rw [e1]; exact hU
  · by_cases e2 : w = .isRef (.static Bundle.tN "SUPPRESSED_SENTINEL" Bundle.listD)
    · rw [e2]; exact hN
    · by_cases e3 : w = .laysStatic Bundle.tN "UNASSIGNED_STACK" Bundle.steD
      · rw [e3]; exact lU
      · by_cases e4 : w = .laysStatic Bundle.tN "SUPPRESSED_SENTINEL" Bundle.listD
        · rw [e4]; exact lN
        · exact h1 w (List.mem_filter.mpr ⟨hw, by unfold vx_no; rw [decide_eq_true e1, decide_eq_true e2, decide_eq_true e3, decide_eq_true e4]; rfl⟩)
/-- where a static field lies, its class's statics cell in H -/
def vx_L (C n d : String) (A : Nat → Prop) (U : State) (H : Heap) : Prop := ∃ (c : ClassId) (k : Class) (i : Nat) (f : Field) (a : Nat) (cell : Cell), U.vm.findClass C = some c ∧ U.fieldFound? C n d = some (c, k, i, f) ∧ f.isStatic = true ∧ k.statics = some a ∧ H[a]? = some cell ∧ cell.vm.isStatics = true ∧ cell.cls = c ∧ f.slot < cell.slots.size ∧ k.staticTypes[f.slot]? = some f.type ∧ ¬ A a
theorem vx_L.moved {C n d : String} {A : Nat → Prop} {u U : State} {H : Heap} (hvm : u.vm.Alike U.vm) (h : vx_L C n d A u H) : vx_L C n d A U H := by
  obtain ⟨c, k, i, f, a, cell, h1, h2, h3, h4, h5, h6, h7, h8, h9, h10⟩ := h
  obtain ⟨k', hi', he⟩ := State.fieldFound?_setVm hvm h2
  exact ⟨c, k', i, f, a, cell, by rw [hvm.findClass]; exact h1, hi', h3, by rw [he]; exact h4, h5, h6, h7, h8, by rw [he]; exact h9, h10⟩
theorem vx_L.kept {C n d : String} {A : Nat → Prop} {U : State} {H H1 : Heap} (h : vx_L C n d A U H) (hq : ∀ a : Nat, a < H.size → ¬ A a → H1[a]? = H[a]?) : vx_L C n d A U H1 := by
  obtain ⟨c, k, i, f, a, cell, h1, h2, h3, h4, h5, h6, h7, h8, h9, h10⟩ := h
  exact ⟨c, k, i, f, a, cell, h1, h2, h3, h4, by rw [hq a (Array.getElem?_eq_some_iff.mp h5).1 h10]; exact h5, h6, h7, h8, h9, h10⟩
theorem vx_L.narrow {C n d : String} {A B : Nat → Prop} {U : State} {H : Heap} (h : vx_L C n d A U H) (hAB : ∀ q, B q → A q) : vx_L C n d B U H := by
  obtain ⟨c, k, i, f, a, cell, h1, h2, h3, h4, h5, h6, h7, h8, h9, h10⟩ := h
  exact ⟨c, k, i, f, a, cell, h1, h2, h3, h4, h5, h6, h7, h8, h9, fun z => h10 (hAB _ z)⟩
theorem vx_L.word {C n d : String} {A : Nat → Prop} {s : State} {args : Array Value} (h : vx_L C n d A s s.heap) : (Cond.laysStatic C n d).before args s = true := by
  obtain ⟨c, k, i, f, a, cell, h1, h2, h3, h4, h5, h6, h7, h8, h9, -⟩ := h
  show (Cond.laysStatic C n d).holds args s none s [] = true
  exact Cond.laysStatic_of h1 h2 h3 h4 h5 h6 h7 h8 h9
/-- .. and what it holds: null or some reference -/
def vx_Zq (C n d : String) (A : Nat → Prop) (U : State) (H : Heap) : Prop := va_Zq C n d A U H ∧ vx_L C n d A U H
theorem vx_Zq.moved {C n d : String} {A : Nat → Prop} {u U : State} {H : Heap} (hvm : u.vm.Alike U.vm) (h : vx_Zq C n d A u H) : vx_Zq C n d A U H := ⟨va_Zq.moved hvm h.1, vx_L.moved hvm h.2⟩
theorem vx_Zq.kept {C n d : String} {A : Nat → Prop} {U : State} {H H1 : Heap} (h : vx_Zq C n d A U H) (hq : ∀ a : Nat, a < H.size → ¬ A a → H1[a]? = H[a]?) : vx_Zq C n d A U H1 := ⟨va_Zq.kept h.1 hq, vx_L.kept h.2 hq⟩
theorem vx_Zq.narrow {C n d : String} {A B : Nat → Prop} {U : State} {H : Heap} (h : vx_Zq C n d A U H) (hAB : ∀ q, B q → A q) : vx_Zq C n d B U H := ⟨va_Zq.narrow h.1 hAB, vx_L.narrow h.2 hAB⟩
theorem vx_Zqof {args : Array Value} {s : State} {C n d : String} {A : Nat → Prop} (hl : (Cond.laysStatic C n d).before args s = true) (hini : (Cond.initialized C).before args s = true) (h : (Cond.isRef (.static C n d)).before args s = true) (hA : ∀ a : Nat, a < s.heap.size → ¬ A a) : vx_Zq C n d A s s.heap := by
  refine ⟨va_Zqof hl hini h hA, ?_⟩
  obtain ⟨c, k, i, f, a, cell, h1, h2, h3, h4, h5, h6, h7, h8, h9⟩ := Cond.laysStatic_spec hl
  exact ⟨c, k, i, f, a, cell, h1, h2, h3, h4, h5, h6, h7, h8, h9, hA a (Array.getElem?_eq_some_iff.mp h5).1⟩
theorem vx_isRef {C n d : String} {v : Value} {A : Nat → Prop} {s : State} {args : Array Value} (h : va_Z C n d v A s s.heap) (hv : v.isRef = true) : (Cond.isRef (.static C n d)).before args s = true := by
  obtain ⟨cf, kf, fi, f, a, cell, h1, h2, h3, h4, h5, h6, h7, -⟩ := h
  have he : (Term.static C n d).eval args s none [] s = some v := by
    simp [Term.eval, State.fieldNamed?, h1, h2, h4, h5, h6, h7]
  simp only [Cond.before, Cond.holds, Cond.value, he]
  cases v <;> simp_all [Value.isRef]
theorem vx_isRefq {C n d : String} {A : Nat → Prop} {s : State} {args : Array Value} (h : va_Zq C n d A s s.heap) : (Cond.isRef (.static C n d)).before args s = true := by
  rcases h with h | ⟨t, h⟩
  · exact vx_isRef h rfl
  · exact vx_isRef h rfl
/-- the same frame, seen from here: as if the method were called anew in this heap -/
theorem vx_rebase {T : State} (X : Stand p l e R s m args below meth c T locs cells slots) {R' : Room} (hf : R'.frames ≤ R.frames) (hl : R'.locals ≤ R.locals) (hc : cells + R'.cells ≤ R.cells) (hs : slots + R'.slots ≤ R.slots) :
    Stand p l e R' ((T.setVm s.vm).setFrames (.invoking m args :: below)) m args below meth c T [] 0 0 := by
  have htop : (T.setVm s.vm).topJava?.isSome := X.here.top
  have hF : ((T.setVm s.vm).setFrames (.invoking m args :: below)).frames = .invoking m args :: below := State.frames_setFrames _ (State.cur_lt_of_top htop)
  obtain ⟨g₀, hg0⟩ := Option.isSome_iff_exists.mp htop
  obtain ⟨r, hr⟩ := State.topJava?_eq_some.mp hg0
  have hl9 : e.platform.stackLimits (T.setVm s.vm).me = e.platform.stackLimits s.me := X.limits
  have hb9 : (T.setVm s.vm).me.stackBytes = s.me.stackBytes := X.bytes
  refine ⟨X.admits, X.cas, X.clock, hF, ?_, X.hears, X.method, X.code, X.here, X.tail, X.warmed, ?_, ?_, ?_⟩
  · have h := X.room
    have hU : ((T.setVm s.vm).setFrames (.invoking m args :: below)).localsInUse = s.localsInUse := by
      rw [State.localsInUse_invoking hF (meth := meth) (c := c) X.method X.code, State.localsInUse_invoking X.frames X.method X.code]
    simp only [State.hasRoom, Bool.and_eq_true, decide_eq_true_eq] at h ⊢
    obtain ⟨⟨⟨⟨h1, h2, h3, h4, h5, h6⟩, h7⟩, h8⟩, h9⟩ := h
    rw [X.frames, List.length_cons] at h2 h3
    have q1 := X.heapSize
    have q2 := X.used
    simp only [hF, hU, List.length_cons, State.stackLimits_setFrames, State.stackBytes_setFrames, hl9, hb9]
    refine ⟨⟨⟨⟨by omega, by omega, by omega, by omega, by omega, h6⟩, ?_⟩, ?_⟩, X.book⟩
    · show T.heap.size + R'.cells ≤ e.platform.maxCells
      omega
    · show T.slotsUsed + R'.slots ≤ e.platform.maxSlots
      omega
  · rw [State.stackLimits_setFrames]; rfl
  · rw [State.stackBytes_setFrames]; rfl
  · refine ⟨?_, Nat.le_refl _, Nat.le_refl _, ?_, ?_, fun a c9 h9 => ⟨c9, h9, rfl, rfl, fun _ _ => rfl⟩⟩
    · obtain ⟨t, ht, -⟩ := State.frames_cons hr
      show T.setVm s.vm = { ((T.setVm s.vm).setFrames (.invoking m args :: below)).setFrames (T.setVm s.vm).frames with heap := T.heap, slotsUsed := T.slotsUsed }
      rw [State.setFrames_setFrames, State.setFrames_self ht]
      rfl
    · show T.slotsUsed = T.slotsUsed + ((T.heap.toList.drop T.heap.size).map (·.slots.size)).sum
      rw [List.drop_eq_nil_of_le (Nat.le_of_eq Array.length_toList)]
      rfl
    · show ((T.heap.toList.drop T.heap.size).map (·.slots.size)).sum ≤ 0
      rw [List.drop_eq_nil_of_le (Nat.le_of_eq Array.length_toList)]
      exact Nat.le_refl _
/-- 'throw new E()': new; dup; invokespecial; athrow -/
theorem vx_throw0 {cc : ByteArray} {pc : Nat} (hexec : p.tables.exec = Jvm.exec) (hb : c.code = cc) (hl : l.stackTraces = false) {own cls : String} {names : List String} {ik ic mc ms : Nat} {A : Nat → Prop}
    (hown : s.vm.findClass own = some m.cls) (hcls : Bundle.fit cls = true) (hnames : ∀ n ∈ names, Bundle.fit n = true)
    (hk : (Cond.classLink own ik cls).before args s = true) (hini : (Cond.initialized cls).before args s = true) (hat : ∀ w ∈ vx_at0 own ic cls names, w.before args s = true)
    (hgood : ∀ w ∈ Cond.classLink own ik cls :: Cond.initialized cls :: vx_at0 own ic cls names, vx_ot w = true)
    (hU : vx_Zq Bundle.tN "UNASSIGNED_STACK" Bundle.steD A s s.heap) (hN : vx_Zq Bundle.tN "SUPPRESSED_SENTINEL" Bundle.listD A s s.heap) (hS : va_S A s.heap H locs) (hsize : ls.size = c.maxLocals)
    (d0 : decode cc pc = .ok (.new ik, 3)) (d3 : decode cc (pc + 3) = .ok (.dup, 1)) (d4 : decode cc (pc + 4) = .ok (.invokespecial ic, 3)) (d7 : decode cc (pc + 7) = .ok (.athrow, 1))
    (hout : ∀ x ∈ c.exceptionTable.toList, covers x (pc + 7) = false)
    (hRframes : names.length + 3 < R.frames) (hRlocals : (rest.map fun v => v.category).sum + (13 * (names.length + 1) + 42) ≤ R.locals) (hRcells : cells + 1 ≤ R.cells) (hRslots : slots + 6 ≤ R.slots) (hlocks : meth.locks = false)
    (hx : ∀ t : State, s.vm.Alike t.vm → H.size ≤ t.heap.size → (∀ q : Nat, q < H.size → t.heap[q]? = H[q]?) → XC cls s t)
    (hf : ∀ z ∈ locs, free z.base) (hc : cells + 1 ≤ mc) (hs : slots + 6 ≤ ms) :
    W p l e R s m args below meth c H locs cells slots (vx_MQ below Qc XC args s mc ms free) (F0 m pc ls rest) := by
  intro T hT X
  have htr : e.platform.stackTraces = false := (show e.platform.stackTraces = l.stackTraces by rw [X.admits.platform]).trans hl
  have Y := vx_rebase X (R' := { frames := R.frames, locals := R.locals, cells := 1, slots := 6 }) (Nat.le_refl _) (Nat.le_refl _) hRcells hRslots
  obtain ⟨s', hA⟩ : ∃ z, z = (T.setVm s.vm).setFrames (.invoking m args :: below) := ⟨_, rfl⟩
  rw [← hA] at Y
  have hvm : s'.vm = s.vm := by rw [hA]; rfl
  have hhp : s'.heap = H := by rw [hA]; exact hT
  have hW0 : s.WarmedH s'.vm := by rw [hvm]; exact State.WarmedH.refl s
  have hat' : ∀ w ∈ vx_at0 own ic cls names, w.before args s' = true := fun w hw => vx_ot_at hW0 hvm.symm (hgood w (List.mem_cons_of_mem _ (List.mem_cons_of_mem _ hw))) (hat w hw)
  have hk' : (Cond.classLink own ik cls).before args s' = true := vx_ot_at hW0 hvm.symm (hgood _ List.mem_cons_self) hk
  have hini' : (Cond.initialized cls).before args s' = true := vx_ot_at hW0 hvm.symm (hgood _ (List.mem_cons_of_mem _ List.mem_cons_self)) hini
  have hU' : vx_Zq Bundle.tN "UNASSIGNED_STACK" Bundle.steD A s' s'.heap := by rw [hhp]; exact vx_Zq.moved hW0.alike (hU.kept hS.2.1)
  have hN' : vx_Zq Bundle.tN "SUPPRESSED_SENTINEL" Bundle.listD A s' s'.heap := by rw [hhp]; exact vx_Zq.moved hW0.alike (hN.kept hS.2.1)
  have h : ∀ w ∈ Bundle.ownAtoms0 own ic cls names, w.before args s' = true := vx_own hat' (vx_isRefq hU'.1) (vx_isRefq hN'.1) hU'.2.word hN'.2.word
  have hown' : s'.vm.findClass own = some m.cls := by rw [hvm]; exact hown
  have hins : (Cond.instantiable cls 6).before args s' = true := h _ (by simp [Bundle.ownAtoms0])
  obtain ⟨vm₁, cX, kX, hfX, hkX, -, -, X₁, st1⟩ := Y.newCold hexec (own := own) (C := cls) (index := ik) (n := 6) hown' hk' hins hini'
    (g := F0 m pc ls rest) rfl (by rw [hb]; exact d0) (Nat.le_refl _) (Nat.le_refl _)
  generalize hT1 : (T.setVm vm₁).pushCell { cls := cX, slots := kX.instanceTypes.map defaultValue, vm := .none } = T1 at X₁ st1
  have hcat : (Value.ref T.heap.size).category = 1 := rfl
  have hcellA : T1.heap[T.heap.size]? = some (freshCell cX kX) := by rw [← hT1]; exact State.heap_pushCell_size _ _
  have d3' : decode c.code (pc + 3) = .ok (.dup, 1) := by rw [hb]; exact d3
  obtain ⟨U, hsteps, hrun, hend, hW, hsame, ce, hce, hO⟩ := X₁.ctorThrow0 hexec htr (own := own) (cls := cls) (names := names) (ic := ic) hown' hcls hnames h (fun x hx => nomatch hx) hfX hkX hcellA (by rw [hhp, hT]; exact Nat.le_refl _)
    (g := { method := m, pc := pc + 4, locals := ls, stack := .ref T.heap.size :: .ref T.heap.size :: rest, locked := none }) rfl hsize rfl rfl (rest := rest) rfl
    (by rw [hb]; exact d4) (by rw [hb]; exact d7) hout hRframes (by simp only [List.map_cons, List.sum_cons, hcat]; omega) hlocks
  obtain ⟨f1, f2⟩ := vx_frame hsame
  rw [hhp] at f1 f2
  have hWs : s.WarmedH U.vm := State.WarmedH.trans hW0 hW
  have hcl : s.vm.findClass cls = some ce.cls := by
    have h9 := hO.cls
    rw [hvm] at h9
    exact h9
  have hall : s.sameButNew ({ U with vm := s.vm } : State) locs mc ms := by
    subst hA
    obtain ⟨e1, e2⟩ := hsame
    rw [State.setFrames_setFrames] at e1
    have h2 : (T.setVm s.vm).sameButNew ({ U with vm := s.vm } : State) [] (0 + 1) (0 + 6) := ⟨e1, e2⟩
    have h3 := X.same.trans h2
    rw [List.append_nil] at h3
    exact h3.mono hc hs
  refine ⟨U, ?_, .threw T.heap.size, hrun, hend, Or.inr ⟨T.heap.size, rfl, cls, ce, locs, hx U hWs.alike f1 (fun q hq => f2 q hq (fun z hz => nomatch hz)), hce, hO.vm, hcl, hWs, hall, hf⟩⟩
  refine st1 _ ?_
  show Steps p.tables e below (T1.setTop { method := m, pc := pc + 3, locals := ls, stack := .ref T.heap.size :: rest, locked := none }) _
  jvm_step X₁.here [X₁.here.top, hexec, d3', Value.category]
  exact hsteps
/-- 'throw new E("text")': new; dup; ldc; invokespecial; athrow -/
theorem vx_throwS {cc : ByteArray} {pc : Nat} (hexec : p.tables.exec = Jvm.exec) (hb : c.code = cc) (hl : l.stackTraces = false) {own cls text : String} {names : List String} {ik is ic mc ms sa : Nat} {A : Nat → Prop}
    (hown : s.vm.findClass own = some m.cls) (hcls : Bundle.fit cls = true) (hnames : ∀ n ∈ names, Bundle.fit n = true)
    (hk : (Cond.classLink own ik cls).before args s = true) (hini : (Cond.initialized cls).before args s = true) (hstr : vk_R own is text sa s) (hat : ∀ w ∈ vx_atS own ic cls names, w.before args s = true)
    (hgood : ∀ w ∈ Cond.classLink own ik cls :: Cond.initialized cls :: vx_atS own ic cls names, vx_ot w = true)
    (hU : vx_Zq Bundle.tN "UNASSIGNED_STACK" Bundle.steD A s s.heap) (hN : vx_Zq Bundle.tN "SUPPRESSED_SENTINEL" Bundle.listD A s s.heap) (hS : va_S A s.heap H locs) (hsize : ls.size = c.maxLocals)
    (d0 : decode cc pc = .ok (.new ik, 3)) (d3 : decode cc (pc + 3) = .ok (.dup, 1)) (d4 : decode cc (pc + 4) = .ok (.ldc is, 2)) (d6 : decode cc (pc + 6) = .ok (.invokespecial ic, 3)) (d9 : decode cc (pc + 9) = .ok (.athrow, 1))
    (hout : ∀ x ∈ c.exceptionTable.toList, covers x (pc + 9) = false)
    (hRframes : names.length + 3 < R.frames) (hRlocals : (rest.map fun v => v.category).sum + (13 * (names.length + 1) + 43) ≤ R.locals) (hRcells : cells + 1 ≤ R.cells) (hRslots : slots + 6 ≤ R.slots) (hlocks : meth.locks = false)
    (hx : ∀ t : State, s.vm.Alike t.vm → H.size ≤ t.heap.size → (∀ q : Nat, q < H.size → t.heap[q]? = H[q]?) → XC cls s t)
    (hf : ∀ z ∈ locs, free z.base) (hc : cells + 1 ≤ mc) (hs : slots + 6 ≤ ms) :
    W p l e R s m args below meth c H locs cells slots (vx_MQ below Qc XC args s mc ms free) (F0 m pc ls rest) := by
  intro T hT X
  have htr : e.platform.stackTraces = false := (show e.platform.stackTraces = l.stackTraces by rw [X.admits.platform]).trans hl
  have Y := vx_rebase X (R' := { frames := R.frames, locals := R.locals, cells := 1, slots := 6 }) (Nat.le_refl _) (Nat.le_refl _) hRcells hRslots
  obtain ⟨s', hA⟩ : ∃ z, z = (T.setVm s.vm).setFrames (.invoking m args :: below) := ⟨_, rfl⟩
  rw [← hA] at Y
  have hvm : s'.vm = s.vm := by rw [hA]; rfl
  have hhp : s'.heap = H := by rw [hA]; exact hT
  have hW0 : s.WarmedH s'.vm := by rw [hvm]; exact State.WarmedH.refl s
  have hat' : ∀ w ∈ vx_atS own ic cls names, w.before args s' = true := fun w hw => vx_ot_at hW0 hvm.symm (hgood w (List.mem_cons_of_mem _ (List.mem_cons_of_mem _ hw))) (hat w hw)
  have hk' : (Cond.classLink own ik cls).before args s' = true := vx_ot_at hW0 hvm.symm (hgood _ List.mem_cons_self) hk
  have hini' : (Cond.initialized cls).before args s' = true := vx_ot_at hW0 hvm.symm (hgood _ (List.mem_cons_of_mem _ List.mem_cons_self)) hini
  have hU' : vx_Zq Bundle.tN "UNASSIGNED_STACK" Bundle.steD A s' s'.heap := by rw [hhp]; exact vx_Zq.moved hW0.alike (hU.kept hS.2.1)
  have hN' : vx_Zq Bundle.tN "SUPPRESSED_SENTINEL" Bundle.listD A s' s'.heap := by rw [hhp]; exact vx_Zq.moved hW0.alike (hN.kept hS.2.1)
  have h : ∀ w ∈ Bundle.ownAtoms own ic cls names, w.before args s' = true := vx_own hat' (vx_isRefq hU'.1) (vx_isRefq hN'.1) hU'.2.word hN'.2.word
  have hown' : s'.vm.findClass own = some m.cls := by rw [hvm]; exact hown
  have hins : (Cond.instantiable cls 6).before args s' = true := h _ (by simp [Bundle.ownAtoms])
  obtain ⟨vm₁, cX, kX, hfX, hkX, -, -, X₁, st1⟩ := Y.newCold hexec (own := own) (C := cls) (index := ik) (n := 6) hown' hk' hins hini'
    (g := F0 m pc ls rest) rfl (by rw [hb]; exact d0) (Nat.le_refl _) (Nat.le_refl _)
  generalize hT1 : (T.setVm vm₁).pushCell { cls := cX, slots := kX.instanceTypes.map defaultValue, vm := .none } = T1 at X₁ st1
  have hcat : (Value.ref T.heap.size).category = 1 := rfl
  have hcellA : T1.heap[T.heap.size]? = some (freshCell cX kX) := by rw [← hT1]; exact State.heap_pushCell_size _ _
  have d3' : decode c.code (pc + 3) = .ok (.dup, 1) := by rw [hb]; exact d3
  have d4' : decode c.code (pc + 4) = .ok (.ldc is, 2) := by rw [hb]; exact d4
  have hstr' : vk_R own is text sa s' := vk_R.warm hW0 hstr
  obtain ⟨U, hsteps, hrun, hend, hW, hsame, ce, hce, hO⟩ := X₁.ctorThrowS hexec htr (own := own) (cls := cls) (names := names) (ic := ic) hown' hcls hnames h (fun x hx => nomatch hx) hfX hkX hcellA (by rw [hhp, hT]; exact Nat.le_refl _) (msg := .ref sa) rfl
    (g := { method := m, pc := pc + 6, locals := ls, stack := .ref sa :: .ref T.heap.size :: .ref T.heap.size :: rest, locked := none }) rfl hsize rfl rfl (rest := rest) rfl
    (by rw [hb]; exact d6) (by rw [hb]; exact d9) hout hRframes (by simp only [List.map_cons, List.sum_cons, hcat]; omega) hlocks
  obtain ⟨f1, f2⟩ := vx_frame hsame
  rw [hhp] at f1 f2
  have hWs : s.WarmedH U.vm := State.WarmedH.trans hW0 hW
  have hcl : s.vm.findClass cls = some ce.cls := by
    have h9 := hO.cls
    rw [hvm] at h9
    exact h9
  have hall : s.sameButNew ({ U with vm := s.vm } : State) locs mc ms := by
    subst hA
    obtain ⟨e1, e2⟩ := hsame
    rw [State.setFrames_setFrames] at e1
    have h2 : (T.setVm s.vm).sameButNew ({ U with vm := s.vm } : State) [] (0 + 1) (0 + 6) := ⟨e1, e2⟩
    have h3 := X.same.trans h2
    rw [List.append_nil] at h3
    exact h3.mono hc hs
  refine ⟨U, ?_, .threw T.heap.size, hrun, hend, Or.inr ⟨T.heap.size, rfl, cls, ce, locs, hx U hWs.alike f1 (fun q hq => f2 q hq (fun z hz => nomatch hz)), hce, hO.vm, hcl, hWs, hall, hf⟩⟩
  refine st1 _ ?_
  show Steps p.tables e below (T1.setTop { method := m, pc := pc + 3, locals := ls, stack := .ref T.heap.size :: rest, locked := none }) _
  jvm_step X₁.here [X₁.here.top, hexec, d3', Value.category]
  exact X₁.ldcString hexec (own := own) (text := text) (index := is) (a := sa) hown' hstr'.1 hstr'.2
    (g := { method := m, pc := pc + 4, locals := ls, stack := .ref T.heap.size :: .ref T.heap.size :: rest, locked := none }) rfl d4' _ hsteps
/-- 'throw new E("text")', the text by a wide index -/
theorem vx_throwSW {cc : ByteArray} {pc : Nat} (hexec : p.tables.exec = Jvm.exec) (hb : c.code = cc) (hl : l.stackTraces = false) {own cls text : String} {names : List String} {ik is ic mc ms sa : Nat} {A : Nat → Prop}
    (hown : s.vm.findClass own = some m.cls) (hcls : Bundle.fit cls = true) (hnames : ∀ n ∈ names, Bundle.fit n = true)
    (hk : (Cond.classLink own ik cls).before args s = true) (hini : (Cond.initialized cls).before args s = true) (hstr : vk_R own is text sa s) (hat : ∀ w ∈ vx_atS own ic cls names, w.before args s = true)
    (hgood : ∀ w ∈ Cond.classLink own ik cls :: Cond.initialized cls :: vx_atS own ic cls names, vx_ot w = true)
    (hU : vx_Zq Bundle.tN "UNASSIGNED_STACK" Bundle.steD A s s.heap) (hN : vx_Zq Bundle.tN "SUPPRESSED_SENTINEL" Bundle.listD A s s.heap) (hS : va_S A s.heap H locs) (hsize : ls.size = c.maxLocals)
    (d0 : decode cc pc = .ok (.new ik, 3)) (d3 : decode cc (pc + 3) = .ok (.dup, 1)) (d4 : decode cc (pc + 4) = .ok (.ldc_w is, 3)) (d7 : decode cc (pc + 7) = .ok (.invokespecial ic, 3)) (d10 : decode cc (pc + 10) = .ok (.athrow, 1))
    (hout : ∀ x ∈ c.exceptionTable.toList, covers x (pc + 10) = false)
    (hRframes : names.length + 3 < R.frames) (hRlocals : (rest.map fun v => v.category).sum + (13 * (names.length + 1) + 43) ≤ R.locals) (hRcells : cells + 1 ≤ R.cells) (hRslots : slots + 6 ≤ R.slots) (hlocks : meth.locks = false)
    (hx : ∀ t : State, s.vm.Alike t.vm → H.size ≤ t.heap.size → (∀ q : Nat, q < H.size → t.heap[q]? = H[q]?) → XC cls s t)
    (hf : ∀ z ∈ locs, free z.base) (hc : cells + 1 ≤ mc) (hs : slots + 6 ≤ ms) :
    W p l e R s m args below meth c H locs cells slots (vx_MQ below Qc XC args s mc ms free) (F0 m pc ls rest) := by
  intro T hT X
  have htr : e.platform.stackTraces = false := (show e.platform.stackTraces = l.stackTraces by rw [X.admits.platform]).trans hl
  have Y := vx_rebase X (R' := { frames := R.frames, locals := R.locals, cells := 1, slots := 6 }) (Nat.le_refl _) (Nat.le_refl _) hRcells hRslots
  obtain ⟨s', hA⟩ : ∃ z, z = (T.setVm s.vm).setFrames (.invoking m args :: below) := ⟨_, rfl⟩
  rw [← hA] at Y
  have hvm : s'.vm = s.vm := by rw [hA]; rfl
  have hhp : s'.heap = H := by rw [hA]; exact hT
  have hW0 : s.WarmedH s'.vm := by rw [hvm]; exact State.WarmedH.refl s
  have hat' : ∀ w ∈ vx_atS own ic cls names, w.before args s' = true := fun w hw => vx_ot_at hW0 hvm.symm (hgood w (List.mem_cons_of_mem _ (List.mem_cons_of_mem _ hw))) (hat w hw)
  have hk' : (Cond.classLink own ik cls).before args s' = true := vx_ot_at hW0 hvm.symm (hgood _ List.mem_cons_self) hk
  have hini' : (Cond.initialized cls).before args s' = true := vx_ot_at hW0 hvm.symm (hgood _ (List.mem_cons_of_mem _ List.mem_cons_self)) hini
  have hU' : vx_Zq Bundle.tN "UNASSIGNED_STACK" Bundle.steD A s' s'.heap := by rw [hhp]; exact vx_Zq.moved hW0.alike (hU.kept hS.2.1)
  have hN' : vx_Zq Bundle.tN "SUPPRESSED_SENTINEL" Bundle.listD A s' s'.heap := by rw [hhp]; exact vx_Zq.moved hW0.alike (hN.kept hS.2.1)
  have h : ∀ w ∈ Bundle.ownAtoms own ic cls names, w.before args s' = true := vx_own hat' (vx_isRefq hU'.1) (vx_isRefq hN'.1) hU'.2.word hN'.2.word
  have hown' : s'.vm.findClass own = some m.cls := by rw [hvm]; exact hown
  have hins : (Cond.instantiable cls 6).before args s' = true := h _ (by simp [Bundle.ownAtoms])
  obtain ⟨vm₁, cX, kX, hfX, hkX, -, -, X₁, st1⟩ := Y.newCold hexec (own := own) (C := cls) (index := ik) (n := 6) hown' hk' hins hini'
    (g := F0 m pc ls rest) rfl (by rw [hb]; exact d0) (Nat.le_refl _) (Nat.le_refl _)
  generalize hT1 : (T.setVm vm₁).pushCell { cls := cX, slots := kX.instanceTypes.map defaultValue, vm := .none } = T1 at X₁ st1
  have hcat : (Value.ref T.heap.size).category = 1 := rfl
  have hcellA : T1.heap[T.heap.size]? = some (freshCell cX kX) := by rw [← hT1]; exact State.heap_pushCell_size _ _
  have d3' : decode c.code (pc + 3) = .ok (.dup, 1) := by rw [hb]; exact d3
  have d4' : decode c.code (pc + 4) = .ok (.ldc_w is, 3) := by rw [hb]; exact d4
  have hstr' : vk_R own is text sa s' := vk_R.warm hW0 hstr
  obtain ⟨U, hsteps, hrun, hend, hW, hsame, ce, hce, hO⟩ := X₁.ctorThrowS hexec htr (own := own) (cls := cls) (names := names) (ic := ic) hown' hcls hnames h (fun x hx => nomatch hx) hfX hkX hcellA (by rw [hhp, hT]; exact Nat.le_refl _) (msg := .ref sa) rfl
    (g := { method := m, pc := pc + 7, locals := ls, stack := .ref sa :: .ref T.heap.size :: .ref T.heap.size :: rest, locked := none }) rfl hsize rfl rfl (rest := rest) rfl
    (by rw [hb]; exact d7) (by rw [hb]; exact d10) hout hRframes (by simp only [List.map_cons, List.sum_cons, hcat]; omega) hlocks
  obtain ⟨f1, f2⟩ := vx_frame hsame
  rw [hhp] at f1 f2
  have hWs : s.WarmedH U.vm := State.WarmedH.trans hW0 hW
  have hcl : s.vm.findClass cls = some ce.cls := by
    have h9 := hO.cls
    rw [hvm] at h9
    exact h9
  have hall : s.sameButNew ({ U with vm := s.vm } : State) locs mc ms := by
    subst hA
    obtain ⟨e1, e2⟩ := hsame
    rw [State.setFrames_setFrames] at e1
    have h2 : (T.setVm s.vm).sameButNew ({ U with vm := s.vm } : State) [] (0 + 1) (0 + 6) := ⟨e1, e2⟩
    have h3 := X.same.trans h2
    rw [List.append_nil] at h3
    exact h3.mono hc hs
  refine ⟨U, ?_, .threw T.heap.size, hrun, hend, Or.inr ⟨T.heap.size, rfl, cls, ce, locs, hx U hWs.alike f1 (fun q hq => f2 q hq (fun z hz => nomatch hz)), hce, hO.vm, hcl, hWs, hall, hf⟩⟩
  refine st1 _ ?_
  show Steps p.tables e below (T1.setTop { method := m, pc := pc + 3, locals := ls, stack := .ref T.heap.size :: rest, locked := none }) _
  jvm_step X₁.here [X₁.here.top, hexec, d3', Value.category]
  exact X₁.ldcStringW hexec (own := own) (text := text) (index := is) (a := sa) hown' hstr'.1 hstr'.2
    (g := { method := m, pc := pc + 4, locals := ls, stack := .ref T.heap.size :: .ref T.heap.size :: rest, locked := none }) rfl d4' _ hsteps
end Ends
section Bodies
variable {l : Launch}
theorem vx_ofW {y : MethodName} {ws ws' : List Cond} {rm : Room} {Pc : Array Value → State → Prop} {Qc : Array Value → State → Outcome → State → Prop} {XC : String → State → State → Prop} {mc ms : Nat} {free : Addr → Prop} {cc : ByteArray} {maxL : Nat} {ret : Option FieldType}
    (hy : plainName y.cls = true) (hw : ws = Cond.code y cc maxL ret :: ws')
    (body : ∀ p e s m args below meth c s₁, BodyLoose p l y (headSpec ws rm) cc maxL ret e s m args below meth c s₁ → c.maxLocals = maxL → (∀ x ∈ c.exceptionTable.toList, False) → Pc args s →
      W p l e (headSpec ws rm).room s m args below meth c s.heap [] 0 0 (vx_MQ below Qc XC args s mc ms free) (entryFrame m args maxL)) : vx_Met l y ws rm Pc Qc XC mc ms free := by
  refine MetFree.of_bodyS (code := cc) (maxLocals := maxL) (ret := ret) hy ?_ ?_
  · intro args s m h hn
    obtain ⟨meth, c, h1, h2, h3, h4, h5, h6, -, -⟩ := Cond.code_spec hn (atoms_spec (ws := ws) h _ (by rw [hw]; exact List.mem_cons_self))
    exact ⟨meth, c, h1, h2, h3, h4, h5, h6⟩
  · intro p e s m args below meth c s₁ B hml hP _
    have hh0 : s₁.heap = s.heap := by rw [B.state]; rfl
    have ht : ∀ x ∈ c.exceptionTable.toList, False := by
      obtain ⟨meth9, c9, h1, h2, -, -, -, -, h7, -⟩ := Cond.code_spec B.named (atoms_spec (ws := ws) B.pre _ (by rw [hw]; exact List.mem_cons_self))
      cases Option.some.inj (h1.symm.trans B.method)
      cases Option.some.inj (h2.symm.trans (Stand.of_body B).code)
      intro x hx
      rw [Array.isEmpty_iff.mp h7] at hx
      cases hx
    obtain ⟨t, a1, o, b1, b2, b3⟩ := body p e s m args below meth c s₁ B hml ht hP s₁ hh0 (Stand.of_body B)
    exact ⟨t, o, a1, b1, b2, b3⟩
/-- the table of a body with handlers -/
theorem vx_table {p : Program} {x y : MethodName} {S : Spec} {cc bytes : ByteArray} {maxL maxL' : Nat} {ret ret' : Option FieldType} {e : Env} {s s₁ : State} {m : MethodId} {args : Array Value} {below : List Frame} {meth : Method} {c : Code} {hh : List (Nat × Nat × Nat × Nat)}
    (B : BodyLoose p l y S cc maxL ret e s m args below meth c s₁) (h : (Cond.codeWith y bytes maxL' ret' hh).before args s = true) : c.exceptionTable.toList = tableOf hh := by
  obtain ⟨m9, meth9, c9, hn9, h1, h2, -, -, h6, -⟩ := Cond.codeWith_spec h
  cases Option.some.inj (hn9.symm.trans B.named)
  cases Option.some.inj (h1.symm.trans B.method)
  cases Option.some.inj (h2.symm.trans (Stand.of_body B).code)
  rw [← h6, table_eq]
end Bodies
end VXA
/-! ===== END ===== -/
/-! ===== BEGIN a static call of a method with an exception table ===== -/
section VXS
variable {p : Program} {l : Launch} {e : Env} {R : Room} {s : State} {m : MethodId} {args : Array Value} {below : List Frame} {meth : Method} {c : Code} {T : State} {H : Heap} {locs : List Loc} {cells slots : Nat}
abbrev vx_CSW (R : Room) (s : State) (args : Array Value) (own : String) (index : Nat) (y : MethodName) (bytes : ByteArray) (maxL : Nat) (ret : Option FieldType) (hh : List (Nat × Nat × Nat × Nat)) (ws : List Cond) (rm : Room) (mc ms n : Nat) : Prop :=
  (rm.cells = mc ∧ rm.slots = ms ∧ rm.frames + 1 ≤ R.frames ∧ 8 + (maxL + 11) + rm.locals ≤ R.locals ∧ (∀ w ∈ ws, ∀ (a' : Array Value) (U : State), s.WarmedH U.vm → w.before a' U = true) ∧ Cond.codeWith y bytes maxL ret hh ∈ ws) ∧
  (Cond.codeWith y bytes maxL ret hh).before args s = true ∧ (Cond.initialized y.cls).before args s = true ∧ (y.cls ≠ "java/lang/invoke/MethodHandle" ∧ y.cls ≠ "java/lang/invoke/VarHandle") ∧
  (∀ sig, parseMethodDescriptor y.desc = some sig → n = sig.parameters.length) ∧ (Cond.methodLink own index y).before args s = true ∧ (Cond.static y).before args s = true
theorem vx_cwSW {own : String} {index maxL mc ms : Nat} {y : MethodName} {bytes : ByteArray} {ret : Option FieldType} {hh : List (Nat × Nat × Nat × Nat)} {Ts ws ws' : List Cond} {rm : Room} (n : Nat) (ht : ∀ w ∈ Ts, w.before args s = true) (hT : GoodIn Ts (va_wsS own index y ws)) (hw : ws = Cond.codeWith y bytes maxL ret hh :: ws') (hrc : rm.cells = mc) (hrs : rm.slots = ms)
    (hd : y.cls ≠ "java/lang/invoke/MethodHandle" ∧ y.cls ≠ "java/lang/invoke/VarHandle" ∧ (parseMethodDescriptor y.desc).map (fun d => d.parameters.length) = some n) (hR : rm.frames + 1 ≤ R.frames ∧ 8 + (maxL + 11) + rm.locals ≤ R.locals) :
    vx_CSW R s args own index y bytes maxL ret hh ws rm mc ms n := by
  have ok : ∀ w ∈ va_wsS own index y ws, w.before args s = true := fun w h => ht w (hT w h).1
  have hG : GoodIn Ts ws := fun w h => hT w (by unfold va_wsS; exact List.mem_append_right _ h)
  have hc : Cond.codeWith y bytes maxL ret hh ∈ ws := by rw [hw]; exact List.mem_cons_self
  refine ⟨⟨hrc, hrs, hR.1, hR.2, pay_in ht hG, hc⟩, ht _ (hG _ hc).1, ok _ (by simp [va_wsS]), ⟨hd.1, hd.2.1⟩, fun sig h => ?_, ok _ (by simp [va_wsS]), ok _ (by simp [va_wsS])⟩
  have h2 := hd.2.2
  rw [h] at h2
  exact (Option.some.inj h2).symm
theorem vx_callSW (X : Stand p l e R s m args below meth c T locs cells slots) (hexec : p.tables.exec = Jvm.exec) {own : String} {index : Nat} {y : MethodName} {bytes : ByteArray} {maxL : Nat} {ret : Option FieldType} {hh : List (Nat × Nat × Nat × Nat)}
    (hown : s.vm.findClass own = some m.cls) (hlink : (Cond.methodLink own index y).before args s = true) (hstat : (Cond.static y).before args s = true) (hinit : (Cond.initialized y.cls).before args s = true)
    (hcode : (Cond.codeWith y bytes maxL ret hh).before args s = true) (hy : y.cls ≠ "java/lang/invoke/MethodHandle" ∧ y.cls ≠ "java/lang/invoke/VarHandle")
    {W9 : Nat} {Pre : Pt → Array Value → Prop} {Post : Pt → Array Value → Option Value → Pt → Prop} (hK : Back l R p e below s args y 3 W9 Pre Post)
    {g : JFrame} (hg : g.method = m) (hsize : g.locals.size = c.maxLocals) {argsL rest : List Value} (hlen : ∀ sig, parseMethodDescriptor y.desc = some sig → argsL.length = sig.parameters.length)
    (hstack : g.stack = argsL.reverse ++ rest) (hW : 2 * g.monitorRoom + (rest.map fun v => v.category).sum ≤ W9) (hdg : decode c.code g.pc = .ok (.invokestatic index, 3))
    (hpre : ∀ vm₁, s.WarmedH vm₁ → Pre ⟨T.setVm vm₁, locs, cells, slots⟩ argsL.toArray) :
    ∃ (v : Option Value) (vm₁ : Vm) (B : Pt), s.WarmedH vm₁ ∧ Stand p l e R s m args below meth c B.U B.locs B.cells B.slots ∧ Post ⟨T.setVm vm₁, locs, cells, slots⟩ argsL.toArray v B ∧
      ∀ target, Steps p.tables e below (B.U.setTop { g with pc := g.pc + 3, stack := v.toList ++ rest }) target → Steps p.tables e below (T.setTop g) target := by
  obtain ⟨mk, methM, cM, hnamed, hmethM, -, -, -, -, -, -, hsigM⟩ := Cond.codeWith_spec hcode
  have hstatic : methM.isStatic = true := Cond.static_spec hnamed hmethM hstat
  obtain ⟨kP, hkP, -⟩ := className_of_methodNamed hnamed
  have hinitP : kP.init = .initialized := Cond.initialized_spec (findClass_of_methodNamed hnamed) hkP hinit
  obtain ⟨vm₁, X₁, hstep₁⟩ := X.invokestatic hexec hown hlink hnamed hmethM hstatic hkP hinitP hy (g := g) hg (argsL := argsL) (rest := rest) (hlen _ hsigM) hstack hdg
  obtain ⟨v, B, X', hpost, hsteps⟩ := hK m meth c ⟨T.setVm vm₁, locs, cells, slots⟩ { g with stack := rest } (.invokestatic index) mk argsL.toArray X₁ hg hsize hdg hW (X₁.named hnamed) (hpre vm₁ X₁.warmed)
  exact ⟨v, vm₁, B, X₁.warmed, X', hpost, fun target h => hstep₁ _ fun acts => by rw [doInvoke_state]; exact hsteps.trans h⟩
theorem vx_runSW {y : MethodName} {bytes cc : ByteArray} {maxL nL mc ms n index : Nat} {ret : Option FieldType} {hh : List (Nat × Nat × Nat × Nat)} {ws : List Cond} {rm : Room} {Pc : Array Value → State → Prop} {Qc : Array Value → State → Outcome → State → Prop} {free : Addr → Prop} {Ts : List Cond} {own : String} {As rest : List Value} {g : JFrame}
    (S : CallFix p m c cc nL s args Ts own) (hM : Met l y ws rm Pc Qc mc ms free) (cw : vx_CSW R s args own index y bytes maxL ret hh ws rm mc ms n) (hp : PreS s H Pc As)
    (hg : g.method = m) (hn : As.length = n) (hsize : g.locals.size = nL) (hstack : g.stack = As.reverse ++ rest) (hW : 2 * g.monitorRoom + (rest.map fun v => v.category).sum ≤ 8) (hdg : decode cc g.pc = .ok (.invokestatic index, 3)) (hf : cells + mc ≤ R.cells ∧ slots + ms ≤ R.slots) :
    va_Run p l e R s m args below meth c H locs cells slots mc ms g rest (Qc As.toArray) (free) := by
  obtain ⟨⟨hrc, hrs, hfr, hlo, hws, hcw⟩, hcode, hini, hy, hlen, hl, hstt⟩ := cw
  have hK : Back l R p e below s args y 3 8 (PreOf R mc ms Pc) (PostOf Qc mc ms free) := va_backW (hh := hh) (bytes := bytes) (maxL := maxL) (ret := ret) hM hp.1 hrc hrs hfr hlo hws hcw (fun a' U hW => word_at hW (Or.inl (by first | rfl | simp [Cond.onTables, Cond.keeps, Cond.steady])) hini)
  obtain ⟨hx, hb, hml, ho, -⟩ := S
  intro T hT X
  obtain ⟨v, vm₁, ⟨U', l2, c2, s2⟩, hW₁, X', ⟨g', mk, t, L, e1, e2, hq, h1, hL, h2, h3⟩, st⟩ := vx_callSW X hx (hh := hh) (bytes := bytes) (maxL := maxL) (ret := ret) ho hl hstt hini hcode hy hK hg (hsize.trans hml.symm) (argsL := As) (rest := rest) (fun sig h => hn.trans (hlen sig h)) hstack hW (by rw [hb]; exact hdg)
    (fun vm₁ hW₁ => ⟨hf.1, hf.2, hp.2 (T.setVm vm₁) hT hW₁⟩)
  dsimp only [Pt.U, Pt.locs, Pt.cells, Pt.slots] at X' e1 e2 h1 h2 h3 st
  subst h1; subst h2; subst h3
  exact ⟨v, (T.setVm vm₁).calling g' mk As.toArray, t, U', L, hT, X', hL, e1, e2, hq, st⟩
/-- not caught here, past rows that name other classes: it goes on to the caller -/
theorem vx_outP {p : Program} {l : Launch} {e : Env} {R : Room} {s : State} {m : MethodId} {args : Array Value} {below : List Frame} {meth : Method} {c : Code} {H : Heap} {locs : List Loc} {cells slots : Nat} {free : Addr → Prop} {ls : Array Slot} {rest : List Value} {Qc : Array Value → State → Outcome → State → Prop} {XC : String → State → State → Prop}
    {pc : Nat} {own E : String} {ce : Cell} {q : Addr} {mc ms : Nat} (hown : s.vm.findClass own = some m.cls) (hlocks : meth.locks = false)
    (hpass : ∀ z ∈ c.exceptionTable.toList, covers z pc = false ∨ (z.catchType ≠ 0 ∧ ∃ nm : String, (Cond.classLink own z.catchType nm).before args s = true ∧ va_Nc E nm s)) (hcell : H[q]? = some ce) (hv : ce.vm = .none) (hcl : s.vm.findClass E = some ce.cls)
    (hx : ∀ t : State, t.heap = H → s.vm.Alike t.vm → XC E s t) (hf : ∀ z ∈ locs, free z.base) (hc : cells ≤ mc) (hs : slots ≤ ms) :
    vx_W p l e R s m args below meth c H locs cells slots (vx_MQ below Qc XC args s mc ms free) (F0 m pc ls rest) q := by
  intro T hT X
  have hpl : e.platform.magicAccessors = ({} : Platform).magicAccessors := by rw [X.admits.platform]
  obtain ⟨vm', hW', X', st⟩ := X.outThrough hlocks q (g := F0 m pc ls rest) rfl rfl rfl (cell := ce) (by rw [hT]; exact hcell) (by rw [hv]; rfl)
    (by obtain ⟨k9, h9, -⟩ := Vm.findClass_spec hcl; exact ⟨k9, h9⟩) (fun z hz => by
      rcases hpass z hz with h | ⟨hz0, nm, hl1, hn1⟩
      · exact Or.inl h
      · obtain ⟨c6, hc6, hcl6⟩ := Cond.classLink_spec hown hl1 e.platform hpl
        obtain ⟨a8, b8, h1, h2, h3⟩ := hn1
        cases Option.some.inj (h1.symm.trans hcl)
        cases Option.some.inj (h2.symm.trans hc6)
        exact Or.inr ⟨hz0, _, hcl6, h3⟩)
  obtain ⟨g₀, hfr⟩ := X'.frames_eq
  have hcell9 : ((T.setVm vm').setFrames (.throwing q :: below)).heap[q]? = some ce := by
    show T.heap[q]? = some ce
    rw [hT]; exact hcell
  have hend : Ended ((T.setVm vm').setFrames (.throwing q :: below)) below (.threw q) := State.frames_setFrames _ (State.cur_lt_of_frames hfr)
  refine ⟨(T.setVm vm').setFrames (.throwing q :: below), ?_, .threw q, X'.here.running, hend, Or.inr ⟨q, rfl, E, ce, locs, hx _ hT (X'.ends _).1.alike, hcell9, hv, hcl, (X'.ends _).1, (X'.ends _).2.mono hc hs, hf⟩⟩
  rw [X.pushThrowing_eq]
  exact st
/-- a thing of a world lies in the heap -/
theorem vx_lt {D : va_G} {cl : List vw_C} {ws : va_W} {H1 : Heap} (h : va_P D cl ws H1) {k : Nat} {q : Nat × va_E} (hk : ws[k]? = some q) : q.1 < H1.size := (h k q hk).lt
end VXS
/-! ===== END ===== -/
/-! ===== BEGIN methods with a table of their own: called by a name, returning or throwing ===== -/
section VXH
/-! vx_backW, vx_callVX, vx_callSX, vx_callVW, vx_runVW, vx_runVX, vx_runSX, vx_ofWH follow the same proofs as their sisters above (Free/Laws.lean, Shelf42/LK1.lean); vx_outP calls Shelf42/NT130.lean (outThrough). -/
section
variable {l : Launch} {R : Room} {p : Program} {e : Env} {below : List Frame} {s : State} {sargs : Array Value} {y : MethodName} {len W9 : Nat}
theorem vx_backW {ws : List Cond} {rm : Room} {Pc : Array Value → State → Prop} {Qc : Array Value → State → Outcome → State → Prop} {XC : String → State → State → Prop} {mc ms : Nat} {free : Addr → Prop} {bytes : ByteArray} {maxL : Nat} {ret : Option FieldType} {hh : List (Nat × Nat × Nat × Nat)}
    (hM : vx_Met l y ws rm Pc Qc XC mc ms free) (hblind : FrameBlind Pc) (hrc : rm.cells = mc) (hrs : rm.slots = ms)
    (hframes : rm.frames + 1 ≤ R.frames) (hlocals : W9 + (maxL + 11) + rm.locals ≤ R.locals)
    (hws : ∀ w ∈ ws, ∀ a' U, s.WarmedH U.vm → w.before a' U = true) (hcode : Cond.codeWith y bytes maxL ret hh ∈ ws) (hinit : ∀ a' U, s.WarmedH U.vm → (Cond.initialized y.cls).before a' U = true) :
    vx_Back l R p e below s sargs y len W9 (PreOf R mc ms Pc) (PostOf Qc mc ms free) (vx_Post XC mc ms free) := by
  intro m meth c A g ig mk a X hg hsize hdg hW hn hp
  have h1 : (headSpec ws rm).pre.before a A.U = true := atoms_intro fun w hw => hws w hw _ _ X.warmed
  have h2 : (Cond.codeWith y bytes maxL ret hh).before a A.U = true := hws _ hcode _ _ X.warmed
  have h3 : (Cond.initialized y.cls).before a A.U = true := hinit _ _ X.warmed
  have h4 : A.cells + (headSpec ws rm).room.cells ≤ R.cells := by rw [show (headSpec ws rm).room.cells = mc from hrc]; exact hp.1
  have h5 : A.slots + (headSpec ws rm).room.slots ≤ R.slots := by rw [show (headSpec ws rm).room.slots = ms from hrs]; exact hp.2.1
  have hPc : Pc a (A.U.calling g mk a) := hblind _ _ _ _ hp.2.2
  obtain ⟨U, Ls, c0, s0⟩ := A
  dsimp only [Pt.U, Pt.locs, Pt.cells, Pt.slots] at h1 h2 h3 h4 h5 X hn hPc ⊢
  obtain ⟨m9, methY, cY, hn9, hmY, hcY, -, hlY, -⟩ := Cond.codeWith_spec h2
  cases Option.some.inj (hn9.symm.trans hn)
  obtain ⟨kY, hkY, -⟩ := className_of_methodNamed hn
  have hinitY : kY.init = .initialized := Cond.initialized_spec (findClass_of_methodNamed hn) hkY h3
  have h : At U g.method c below := by rw [hg]; exact X.here
  have hlocals9 : W9 + (maxL + 11) + (headSpec ws rm).room.locals ≤ R.locals := hlocals
  have happ : (headSpec ws rm).appliesLoose y e.platform (U.calling g mk a) = true :=
    Spec.appliesLoose_calling (g := g) h hdg hn hkY hinitY
      (X.room_calling (g := g) (R' := (headSpec ws rm).room) hsize hmY hcY hframes (by rw [hlY]; omega) h4 h5) h1
  obtain ⟨mid, hmid⟩ := h.above
  have hfr : (U.setTop g).frames = (.java g :: mid) ++ below := by rw [State.frames_setTop' g h.top, hmid]; rfl
  obtain ⟨o, s₂, hsteps, -, hend, hq⟩ := Steps.callFree hM p X.admits X.cas X.clock (acts := []) hfr happ hPc trivial
  have hq' : vx_Q Qc XC mc ms free a (U.calling g mk a) o s₂ := hq
  rw [State.frames_setTop' g h.top] at hend
  obtain ⟨g₀, hg0⟩ := Option.isSome_iff_exists.mp h.top
  obtain ⟨r, hr⟩ := State.topJava?_eq_some.mp hg0
  have hr' : (({ U with heap := s₂.heap, slotsUsed := s₂.slotsUsed } : State).setVm s₂.vm).frames = .java g₀ :: r := hr
  rcases hq' with ⟨hqc, L, hfe, hL⟩ | ⟨q, rfl, E, ce, L, hx, hce, hcv, hcl, hW₂, hsm, hL⟩
  · obtain ⟨⟨v, rfl⟩, hW₂, e2, q2, q3, q4, q5, q6⟩ := id hfe
    have e3 : s₂ = ({ (U.calling g mk a).setFrames s₂.frames with heap := s₂.heap, slotsUsed := s₂.slotsUsed } : State).setVm s₂.vm := by
      have : s₂ = ({ s₂ with vm := (U.calling g mk a).vm } : State).setVm s₂.vm := rfl
      rw [e2] at this
      exact this
    obtain ⟨c₂, i₂, len₂, hc₂, hd₂, hf₂⟩ := hend
    have hW' : U.WarmedH s₂.vm := hW₂
    have hcc : c₂ = c := by
      have h1 : s₂.code? g.method = U.code? g.method := by
        rw [State.code?_eq, State.code?_eq, hW'.alike.method?]
      exact Option.some.inj (hc₂.symm.trans (h1.trans h.code))
    subst hcc
    have hlen : len₂ = len := by rw [hdg] at hd₂; cases hd₂; rfl
    subst hlen
    have hs₂ : s₂ = (({ U with heap := s₂.heap, slotsUsed := s₂.slotsUsed } : State).setVm s₂.vm).setTop { g with pc := g.pc + len₂, stack := v.toList ++ g.stack } := by
      refine e3.trans ?_
      rw [hf₂, State.calling_eq h.top, State.setFrames_setFrames, State.setTop_of_frames _ hr', hr]
      rfl
    have hsame : U.sameButNew ({ U with heap := s₂.heap, slotsUsed := s₂.slotsUsed } : State) L mc ms := by
      refine ⟨?_, q2, q3, q4, q5, q6⟩
      obtain ⟨t, ht, -⟩ := State.frames_cons hr
      show ({ U with heap := s₂.heap, slotsUsed := s₂.slotsUsed } : State) = { U.setFrames U.frames with heap := s₂.heap, slotsUsed := s₂.slotsUsed }
      rw [State.setFrames_self ht]
    subst hg
    refine Or.inl ⟨v, ⟨(({ U with heap := s₂.heap, slotsUsed := s₂.slotsUsed } : State).setVm s₂.vm), Ls ++ L, c0 + mc, s0 + ms⟩,
      ⟨X.admits, X.cas, X.clock, X.frames, X.room, X.hears, X.method, X.code, (X.here.setHeapUsed s₂.heap s₂.slotsUsed).setVm hW'.alike, X.tail, State.WarmedH.trans X.warmed hW', X.limits, X.bytes, X.same.trans (hsame.setVm s.vm)⟩,
      ⟨g, mk, s₂, L, rfl, rfl, hqc, rfl, hL, rfl, rfl⟩, ?_⟩
    show Steps p.tables e below _ ((({ U with heap := s₂.heap, slotsUsed := s₂.slotsUsed } : State).setVm s₂.vm).setTop { g with pc := g.pc + len₂, stack := v.toList ++ g.stack })
    rw [← hs₂]
    exact hsteps
  · obtain ⟨e2, q2, q3, q4, q5, q6⟩ := id hsm
    have e3 : s₂ = ({ (U.calling g mk a).setFrames s₂.frames with heap := s₂.heap, slotsUsed := s₂.slotsUsed } : State).setVm s₂.vm := by
      have : s₂ = ({ s₂ with vm := (U.calling g mk a).vm } : State).setVm s₂.vm := rfl
      rw [e2] at this
      exact this
    have hf₂ : s₂.frames = .throwing q :: .java g :: U.frames.tail := hend
    have hW' : U.WarmedH s₂.vm := hW₂
    have hs₂ : s₂ = ((({ U with heap := s₂.heap, slotsUsed := s₂.slotsUsed } : State).setVm s₂.vm).setTop g).pushFrame (.throwing q) := by
      refine e3.trans ?_
      rw [hf₂, State.calling_eq h.top, State.setFrames_setFrames, State.pushFrame, State.frames_setTop _ hr', State.setTop_of_frames _ hr', State.setFrames_setFrames, hr]
      rfl
    have hsame : U.sameButNew ({ U with heap := s₂.heap, slotsUsed := s₂.slotsUsed } : State) L mc ms := by
      refine ⟨?_, q2, q3, q4, q5, q6⟩
      obtain ⟨t, ht, -⟩ := State.frames_cons hr
      show ({ U with heap := s₂.heap, slotsUsed := s₂.slotsUsed } : State) = { U.setFrames U.frames with heap := s₂.heap, slotsUsed := s₂.slotsUsed }
      rw [State.setFrames_self ht]
    subst hg
    refine Or.inr ⟨q, ⟨(({ U with heap := s₂.heap, slotsUsed := s₂.slotsUsed } : State).setVm s₂.vm), Ls ++ L, c0 + mc, s0 + ms⟩,
      ⟨X.admits, X.cas, X.clock, X.frames, X.room, X.hears, X.method, X.code, (X.here.setHeapUsed s₂.heap s₂.slotsUsed).setVm hW'.alike, X.tail, State.WarmedH.trans X.warmed hW', X.limits, X.bytes, X.same.trans (hsame.setVm s.vm)⟩,
      ⟨g, mk, s₂, L, E, ce, rfl, rfl, hx, hce, hcv, hcl, rfl, hL, rfl, rfl⟩, ?_⟩
    show Steps p.tables e below _ (((({ U with heap := s₂.heap, slotsUsed := s₂.slotsUsed } : State).setVm s₂.vm).setTop g).pushFrame (.throwing q))
    rw [← hs₂]
    exact hsteps
end
variable {p : Program} {l : Launch} {e : Env} {R : Room} {s : State} {m : MethodId} {args : Array Value} {below : List Frame} {meth : Method} {c : Code} {T : State} {H : Heap} {locs : List Loc} {cells slots : Nat}
theorem vx_callVX (X : Stand p l e R s m args below meth c T locs cells slots) (hexec : p.tables.exec = Jvm.exec) {own C : String} {index : Nat} {y : MethodName} {bytes : ByteArray} {maxL : Nat} {ret : Option FieldType} {hh : List (Nat × Nat × Nat × Nat)}
    (hown : s.vm.findClass own = some m.cls) (hlink : (Cond.methodLink own index y).before args s = true) (hinst : (Cond.instanceMethod y).before args s = true) (hsel : (Cond.selects C y y).before args s = true)
    (hcode : (Cond.codeWith y bytes maxL ret hh).before args s = true) (hy : y.cls ≠ "java/lang/invoke/MethodHandle" ∧ y.cls ≠ "java/lang/invoke/VarHandle")
    {W9 : Nat} {Pre : Pt → Array Value → Prop} {Post : Pt → Array Value → Option Value → Pt → Prop} {PostX : Pt → Array Value → Addr → Pt → Prop} (hK : vx_Back l R p e below s args y 3 W9 Pre Post PostX)
    {b : Addr} {cellB : Cell} (hcell : T.heap[b]? = some cellB) (hobj : cellB.vm.isStatics = false) (hcls : s.vm.findClass C = some cellB.cls)
    {g : JFrame} (hg : g.method = m) (hsize : g.locals.size = c.maxLocals) {argsL rest : List Value} (hlen : ∀ sig, parseMethodDescriptor y.desc = some sig → argsL.length = sig.parameters.length)
    (hstack : g.stack = argsL.reverse ++ .ref b :: rest) (hW : 2 * g.monitorRoom + (rest.map fun v => v.category).sum ≤ W9) (hdg : decode c.code g.pc = .ok (.invokevirtual index, 3))
    (hpre : ∀ vm₁, s.WarmedH vm₁ → Pre ⟨T.setVm vm₁, locs, cells, slots⟩ (Value.ref b :: argsL).toArray) :
    (∃ (v : Option Value) (vm₁ : Vm) (B : Pt), s.WarmedH vm₁ ∧ Stand p l e R s m args below meth c B.U B.locs B.cells B.slots ∧ Post ⟨T.setVm vm₁, locs, cells, slots⟩ (Value.ref b :: argsL).toArray v B ∧
      ∀ target, Steps p.tables e below (B.U.setTop { g with pc := g.pc + 3, stack := v.toList ++ rest }) target → Steps p.tables e below (T.setTop g) target) ∨
    (∃ (q : Addr) (vm₁ : Vm) (B : Pt), s.WarmedH vm₁ ∧ Stand p l e R s m args below meth c B.U B.locs B.cells B.slots ∧ PostX ⟨T.setVm vm₁, locs, cells, slots⟩ (Value.ref b :: argsL).toArray q B ∧
      Steps p.tables e below (T.setTop g) ((B.U.setTop { g with stack := rest }).pushFrame (.throwing q))) := by
  obtain ⟨mk, methM, hnamed, hmethM, hstM, habM⟩ := Cond.instanceMethod_spec hinst
  obtain ⟨m8, methM', cM, hn8, hmethM', -, -, -, -, -, -, hsigM⟩ := Cond.codeWith_spec hcode
  cases Option.some.inj (hn8.symm.trans hnamed)
  cases hmethM.symm.trans hmethM'
  obtain ⟨c2, r2, m2, q1, q2, q3, q4, kP, hkP, hkPi⟩ := Cond.selects_spec hsel
  cases hcls.symm.trans q1
  cases (State.methodFound?_of_named hnamed hy).symm.trans q2
  cases hnamed.symm.trans q3
  have hselP : selectMethod e.platform s.vm cellB.cls mk = .method mk := by rw [Launch.admits_selectMethod X.admits]; exact q4
  obtain ⟨vm₁, X₁, hstep₁⟩ := X.invokevirtual hexec hown hlink hnamed hmethM hstM hkP hkPi hy (a := b) (cell := cellB) hcell
    (fun z h => by rw [h] at hobj; cases hobj) hselP hmethM habM hkP hkPi (g := g) hg (argsL := argsL) (rest := rest) (hlen _ hsigM) hstack hdg
  rcases hK m meth c ⟨T.setVm vm₁, locs, cells, slots⟩ { g with stack := rest } (.invokevirtual index) mk (Value.ref b :: argsL).toArray X₁ hg hsize hdg hW (X₁.named hnamed) (hpre vm₁ X₁.warmed) with ⟨v, B, X', hpost, hsteps⟩ | ⟨q, B, X', hpost, hsteps⟩
  · exact Or.inl ⟨v, vm₁, B, X₁.warmed, X', hpost, fun target h => hstep₁ _ fun acts => by rw [doInvoke_state]; exact hsteps.trans h⟩
  · exact Or.inr ⟨q, vm₁, B, X₁.warmed, X', hpost, hstep₁ _ fun acts => by rw [doInvoke_state]; exact hsteps⟩
theorem vx_callSX (X : Stand p l e R s m args below meth c T locs cells slots) (hexec : p.tables.exec = Jvm.exec) {own : String} {index : Nat} {y : MethodName} {bytes : ByteArray} {maxL : Nat} {ret : Option FieldType} {hh : List (Nat × Nat × Nat × Nat)}
    (hown : s.vm.findClass own = some m.cls) (hlink : (Cond.methodLink own index y).before args s = true) (hstat : (Cond.static y).before args s = true) (hinit : (Cond.initialized y.cls).before args s = true)
    (hcode : (Cond.codeWith y bytes maxL ret hh).before args s = true) (hy : y.cls ≠ "java/lang/invoke/MethodHandle" ∧ y.cls ≠ "java/lang/invoke/VarHandle")
    {W9 : Nat} {Pre : Pt → Array Value → Prop} {Post : Pt → Array Value → Option Value → Pt → Prop} {PostX : Pt → Array Value → Addr → Pt → Prop} (hK : vx_Back l R p e below s args y 3 W9 Pre Post PostX)
    {g : JFrame} (hg : g.method = m) (hsize : g.locals.size = c.maxLocals) {argsL rest : List Value} (hlen : ∀ sig, parseMethodDescriptor y.desc = some sig → argsL.length = sig.parameters.length)
    (hstack : g.stack = argsL.reverse ++ rest) (hW : 2 * g.monitorRoom + (rest.map fun v => v.category).sum ≤ W9) (hdg : decode c.code g.pc = .ok (.invokestatic index, 3))
    (hpre : ∀ vm₁, s.WarmedH vm₁ → Pre ⟨T.setVm vm₁, locs, cells, slots⟩ argsL.toArray) :
    (∃ (v : Option Value) (vm₁ : Vm) (B : Pt), s.WarmedH vm₁ ∧ Stand p l e R s m args below meth c B.U B.locs B.cells B.slots ∧ Post ⟨T.setVm vm₁, locs, cells, slots⟩ argsL.toArray v B ∧
      ∀ target, Steps p.tables e below (B.U.setTop { g with pc := g.pc + 3, stack := v.toList ++ rest }) target → Steps p.tables e below (T.setTop g) target) ∨
    (∃ (q : Addr) (vm₁ : Vm) (B : Pt), s.WarmedH vm₁ ∧ Stand p l e R s m args below meth c B.U B.locs B.cells B.slots ∧ PostX ⟨T.setVm vm₁, locs, cells, slots⟩ argsL.toArray q B ∧
      Steps p.tables e below (T.setTop g) ((B.U.setTop { g with stack := rest }).pushFrame (.throwing q))) := by
  obtain ⟨mk, methM, cM, hnamed, hmethM, -, -, -, -, -, -, hsigM⟩ := Cond.codeWith_spec hcode
  have hstatic : methM.isStatic = true := Cond.static_spec hnamed hmethM hstat
  obtain ⟨kP, hkP, -⟩ := className_of_methodNamed hnamed
  have hinitP : kP.init = .initialized := Cond.initialized_spec (findClass_of_methodNamed hnamed) hkP hinit
  obtain ⟨vm₁, X₁, hstep₁⟩ := X.invokestatic hexec hown hlink hnamed hmethM hstatic hkP hinitP hy (g := g) hg (argsL := argsL) (rest := rest) (hlen _ hsigM) hstack hdg
  rcases hK m meth c ⟨T.setVm vm₁, locs, cells, slots⟩ { g with stack := rest } (.invokestatic index) mk argsL.toArray X₁ hg hsize hdg hW (X₁.named hnamed) (hpre vm₁ X₁.warmed) with ⟨v, B, X', hpost, hsteps⟩ | ⟨q, B, X', hpost, hsteps⟩
  · exact Or.inl ⟨v, vm₁, B, X₁.warmed, X', hpost, fun target h => hstep₁ _ fun acts => by rw [doInvoke_state]; exact hsteps.trans h⟩
  · exact Or.inr ⟨q, vm₁, B, X₁.warmed, X', hpost, hstep₁ _ fun acts => by rw [doInvoke_state]; exact hsteps⟩
theorem vx_callVW (X : Stand p l e R s m args below meth c T locs cells slots) (hexec : p.tables.exec = Jvm.exec) {own C : String} {index : Nat} {y : MethodName} {bytes : ByteArray} {maxL : Nat} {ret : Option FieldType} {hh : List (Nat × Nat × Nat × Nat)}
    (hown : s.vm.findClass own = some m.cls) (hlink : (Cond.methodLink own index y).before args s = true) (hinst : (Cond.instanceMethod y).before args s = true) (hsel : (Cond.selects C y y).before args s = true)
    (hcode : (Cond.codeWith y bytes maxL ret hh).before args s = true) (hy : y.cls ≠ "java/lang/invoke/MethodHandle" ∧ y.cls ≠ "java/lang/invoke/VarHandle")
    {W9 : Nat} {Pre : Pt → Array Value → Prop} {Post : Pt → Array Value → Option Value → Pt → Prop} (hK : Back l R p e below s args y 3 W9 Pre Post)
    {b : Addr} {cellB : Cell} (hcell : T.heap[b]? = some cellB) (hobj : cellB.vm.isStatics = false) (hcls : s.vm.findClass C = some cellB.cls)
    {g : JFrame} (hg : g.method = m) (hsize : g.locals.size = c.maxLocals) {argsL rest : List Value} (hlen : ∀ sig, parseMethodDescriptor y.desc = some sig → argsL.length = sig.parameters.length)
    (hstack : g.stack = argsL.reverse ++ .ref b :: rest) (hW : 2 * g.monitorRoom + (rest.map fun v => v.category).sum ≤ W9) (hdg : decode c.code g.pc = .ok (.invokevirtual index, 3))
    (hpre : ∀ vm₁, s.WarmedH vm₁ → Pre ⟨T.setVm vm₁, locs, cells, slots⟩ (Value.ref b :: argsL).toArray) :
    ∃ (v : Option Value) (vm₁ : Vm) (B : Pt), s.WarmedH vm₁ ∧ Stand p l e R s m args below meth c B.U B.locs B.cells B.slots ∧ Post ⟨T.setVm vm₁, locs, cells, slots⟩ (Value.ref b :: argsL).toArray v B ∧
      ∀ target, Steps p.tables e below (B.U.setTop { g with pc := g.pc + 3, stack := v.toList ++ rest }) target → Steps p.tables e below (T.setTop g) target := by
  obtain ⟨mk, methM, hnamed, hmethM, hstM, habM⟩ := Cond.instanceMethod_spec hinst
  obtain ⟨m8, methM', cM, hn8, hmethM', -, -, -, -, -, -, hsigM⟩ := Cond.codeWith_spec hcode
  cases Option.some.inj (hn8.symm.trans hnamed)
  cases hmethM.symm.trans hmethM'
  obtain ⟨c2, r2, m2, q1, q2, q3, q4, kP, hkP, hkPi⟩ := Cond.selects_spec hsel
  cases hcls.symm.trans q1
  cases (State.methodFound?_of_named hnamed hy).symm.trans q2
  cases hnamed.symm.trans q3
  have hselP : selectMethod e.platform s.vm cellB.cls mk = .method mk := by rw [Launch.admits_selectMethod X.admits]; exact q4
  obtain ⟨vm₁, X₁, hstep₁⟩ := X.invokevirtual hexec hown hlink hnamed hmethM hstM hkP hkPi hy (a := b) (cell := cellB) hcell
    (fun z h => by rw [h] at hobj; cases hobj) hselP hmethM habM hkP hkPi (g := g) hg (argsL := argsL) (rest := rest) (hlen _ hsigM) hstack hdg
  obtain ⟨v, B, X', hpost, hsteps⟩ := hK m meth c ⟨T.setVm vm₁, locs, cells, slots⟩ { g with stack := rest } (.invokevirtual index) mk (Value.ref b :: argsL).toArray X₁ hg hsize hdg hW (X₁.named hnamed) (hpre vm₁ X₁.warmed)
  exact ⟨v, vm₁, B, X₁.warmed, X', hpost, fun target h => hstep₁ _ fun acts => by rw [doInvoke_state]; exact hsteps.trans h⟩
abbrev vx_CVW (R : Room) (s : State) (args : Array Value) (own C : String) (index : Nat) (y : MethodName) (bytes : ByteArray) (maxL : Nat) (ret : Option FieldType) (hh : List (Nat × Nat × Nat × Nat)) (ws : List Cond) (rm : Room) (mc ms n : Nat) : Prop :=
  (rm.cells = mc ∧ rm.slots = ms ∧ rm.frames + 1 ≤ R.frames ∧ 8 + (maxL + 11) + rm.locals ≤ R.locals ∧ (∀ w ∈ ws, ∀ (a' : Array Value) (U : State), s.WarmedH U.vm → w.before a' U = true) ∧ Cond.codeWith y bytes maxL ret hh ∈ ws) ∧
  (Cond.codeWith y bytes maxL ret hh).before args s = true ∧ (Cond.initialized y.cls).before args s = true ∧ (y.cls ≠ "java/lang/invoke/MethodHandle" ∧ y.cls ≠ "java/lang/invoke/VarHandle") ∧
  (∀ sig, parseMethodDescriptor y.desc = some sig → n = sig.parameters.length) ∧ (Cond.methodLink own index y).before args s = true ∧ (Cond.instanceMethod y).before args s = true ∧ (Cond.selects C y y).before args s = true
theorem vx_cwVW {own C : String} {index maxL mc ms : Nat} {y : MethodName} {bytes : ByteArray} {ret : Option FieldType} {hh : List (Nat × Nat × Nat × Nat)} {Ts ws ws' : List Cond} {rm : Room} (n : Nat) (ht : ∀ w ∈ Ts, w.before args s = true) (hT : GoodIn Ts (wsV own index C y ws)) (hw : ws = Cond.codeWith y bytes maxL ret hh :: ws') (hrc : rm.cells = mc) (hrs : rm.slots = ms)
    (hd : y.cls = C ∧ y.cls ≠ "java/lang/invoke/MethodHandle" ∧ y.cls ≠ "java/lang/invoke/VarHandle" ∧ (parseMethodDescriptor y.desc).map (fun d => d.parameters.length) = some n) (hR : rm.frames + 1 ≤ R.frames ∧ 8 + (maxL + 11) + rm.locals ≤ R.locals) :
    vx_CVW R s args own C index y bytes maxL ret hh ws rm mc ms n := by
  obtain ⟨hC, hd⟩ := hd
  subst hC
  have ok : ∀ w ∈ wsV own index y.cls y ws, w.before args s = true := fun w h => ht w (hT w h).1
  have hG : GoodIn Ts ws := fun w h => hT w (by unfold wsV; exact List.mem_append_right _ h)
  have hc : Cond.codeWith y bytes maxL ret hh ∈ ws := by rw [hw]; exact List.mem_cons_self
  refine ⟨⟨hrc, hrs, hR.1, hR.2, pay_in ht hG, hc⟩, ht _ (hG _ hc).1, ok _ (by simp [wsV]), ⟨hd.1, hd.2.1⟩, fun sig h => ?_, ok _ (by simp [wsV]), ok _ (by simp [wsV]), ok _ (by simp [wsV])⟩
  have h2 := hd.2.2
  rw [h] at h2
  exact (Option.some.inj h2).symm
theorem vx_runVW {y : MethodName} {bytes cc : ByteArray} {maxL nL mc ms n index : Nat} {ret : Option FieldType} {hh : List (Nat × Nat × Nat × Nat)} {ws : List Cond} {rm : Room} {Pc : Array Value → State → Prop} {Qc : Array Value → State → Outcome → State → Prop} {free : Addr → Prop} {Ts : List Cond} {own C : String} {b : Addr} {As rest : List Value} {g : JFrame}
    (S : CallFix p m c cc nL s args Ts own) (hM : Met l y ws rm Pc Qc mc ms free) (cw : vx_CVW R s args own C index y bytes maxL ret hh ws rm mc ms n) (hp : PreV s H C b Pc As)
    (hg : g.method = m) (hn : As.length = n) (hsize : g.locals.size = nL) (hstack : g.stack = As.reverse ++ .ref b :: rest) (hW : 2 * g.monitorRoom + (rest.map fun v => v.category).sum ≤ 8) (hdg : decode cc g.pc = .ok (.invokevirtual index, 3)) (hf : cells + mc ≤ R.cells ∧ slots + ms ≤ R.slots) :
    va_Run p l e R s m args below meth c H locs cells slots mc ms g rest (Qc (Value.ref b :: As).toArray) free := by
  obtain ⟨⟨hrc, hrs, hfr, hlo, hws, hcw⟩, hcode, hini, hy, hlen, hl, hin, hse⟩ := cw
  have hK : Back l R p e below s args y 3 8 (PreOf R mc ms Pc) (PostOf Qc mc ms free) := va_backW (hh := hh) (bytes := bytes) (maxL := maxL) (ret := ret) hM hp.1 hrc hrs hfr hlo hws hcw (fun a' U hW => word_at hW (Or.inl (by first | rfl | simp [Cond.onTables, Cond.keeps, Cond.steady])) hini)
  obtain ⟨hx, hb, hml, ho, -⟩ := S
  obtain ⟨-, ⟨cellB, hcB, hoB, hclB⟩, hPc⟩ := hp
  intro T hT X
  obtain ⟨v, vm₁, ⟨U', l2, c2, s2⟩, hW₁, X', ⟨g', mk, t, L, e1, e2, hq, h1, hL, h2, h3⟩, st⟩ := vx_callVW X hx (C := C) (hh := hh) (bytes := bytes) (maxL := maxL) (ret := ret) ho hl hin hse hcode hy hK (by rw [hT]; exact hcB) hoB hclB hg (hsize.trans hml.symm) (argsL := As) (rest := rest) (fun sig h => hn.trans (hlen sig h)) hstack hW (by rw [hb]; exact hdg)
    (fun vm₁ hW₁ => ⟨hf.1, hf.2, hPc (T.setVm vm₁) hT hW₁⟩)
  dsimp only [Pt.U, Pt.locs, Pt.cells, Pt.slots] at X' e1 e2 h1 h2 h3 st
  subst h1; subst h2; subst h3
  exact ⟨v, (T.setVm vm₁).calling g' mk (Value.ref b :: As).toArray, t, U', L, hT, X', hL, e1, e2, hq, st⟩
section
variable {y : MethodName} {bytes cc : ByteArray} {maxL nL mc ms n index : Nat} {ret : Option FieldType} {ws : List Cond} {rm : Room} {Pc : Array Value → State → Prop} {Qc : Array Value → State → Outcome → State → Prop} {XC : String → State → State → Prop} {free : Addr → Prop} {Ts : List Cond} {own C : String} {b : Addr} {As rest : List Value} {g : JFrame}
theorem vx_runVX {hh : List (Nat × Nat × Nat × Nat)} (S : CallFix p m c cc nL s args Ts own) (hM : vx_Met l y ws rm Pc Qc XC mc ms free) (cw : vx_CVW R s args own C index y bytes maxL ret hh ws rm mc ms n) (hp : PreV s H C b Pc As)
    (hg : g.method = m) (hn : As.length = n) (hsize : g.locals.size = nL) (hstack : g.stack = As.reverse ++ .ref b :: rest) (hW : 2 * g.monitorRoom + (rest.map fun v => v.category).sum ≤ 8) (hdg : decode cc g.pc = .ok (.invokevirtual index, 3)) (hf : cells + mc ≤ R.cells ∧ slots + ms ≤ R.slots) :
    vx_Run p l e R s m args below meth c H locs cells slots mc ms g rest (Qc (Value.ref b :: As).toArray) XC free := by
  obtain ⟨⟨hrc, hrs, hfr, hlo, hws, hcw⟩, hcode, hini, hy, hlen, hl, hin, hse⟩ := cw
  have hK : vx_Back l R p e below s args y 3 8 (PreOf R mc ms Pc) (PostOf Qc mc ms free) (vx_Post XC mc ms free) := vx_backW (hh := hh) (bytes := bytes) (maxL := maxL) (ret := ret) hM hp.1 hrc hrs hfr hlo hws hcw (fun a' U hW => word_at hW (Or.inl (by first | rfl | simp [Cond.onTables, Cond.keeps, Cond.steady])) hini)
  obtain ⟨hx, hb, hml, ho, -⟩ := S
  obtain ⟨-, ⟨cellB, hcB, hoB, hclB⟩, hPc⟩ := hp
  intro T hT X
  rcases vx_callVX X hx (C := C) (hh := hh) (bytes := bytes) (maxL := maxL) (ret := ret) ho hl hin hse hcode hy hK (by rw [hT]; exact hcB) hoB hclB hg (hsize.trans hml.symm) (argsL := As) (rest := rest) (fun sig h => hn.trans (hlen sig h)) hstack hW (by rw [hb]; exact hdg)
    (fun vm₁ hW₁ => ⟨hf.1, hf.2, hPc (T.setVm vm₁) hT hW₁⟩) with ⟨v, vm₁, ⟨U', l2, c2, s2⟩, hW₁, X', ⟨g', mk, t, L, e1, e2, hq, h1, hL, h2, h3⟩, st⟩ | ⟨q, vm₁, ⟨U', l2, c2, s2⟩, hW₁, X', ⟨g', mk, t, L, E, ce, e1, e2, hq, hce, hcv, hcl, h1, hL, h2, h3⟩, st⟩
  · dsimp only [Pt.U, Pt.locs, Pt.cells, Pt.slots] at X' e1 e2 h1 h2 h3 st
    subst h1; subst h2; subst h3
    exact Or.inl ⟨v, (T.setVm vm₁).calling g' mk (Value.ref b :: As).toArray, t, U', L, hT, X', hL, e1, e2, hq, st⟩
  · dsimp only [Pt.U, Pt.locs, Pt.cells, Pt.slots] at X' e1 e2 h1 h2 h3 st hcl
    subst h1; subst h2; subst h3
    exact Or.inr ⟨q, (T.setVm vm₁).calling g' mk (Value.ref b :: As).toArray, t, U', L, E, ce, hT, X', hL, e1, e2, hq, hce, hcv, vx_cls hW₁ hcl, st⟩
theorem vx_runSX {hh : List (Nat × Nat × Nat × Nat)} (S : CallFix p m c cc nL s args Ts own) (hM : vx_Met l y ws rm Pc Qc XC mc ms free) (cw : vx_CSW R s args own index y bytes maxL ret hh ws rm mc ms n) (hp : PreS s H Pc As)
    (hg : g.method = m) (hn : As.length = n) (hsize : g.locals.size = nL) (hstack : g.stack = As.reverse ++ rest) (hW : 2 * g.monitorRoom + (rest.map fun v => v.category).sum ≤ 8) (hdg : decode cc g.pc = .ok (.invokestatic index, 3)) (hf : cells + mc ≤ R.cells ∧ slots + ms ≤ R.slots) :
    vx_Run p l e R s m args below meth c H locs cells slots mc ms g rest (Qc As.toArray) XC free := by
  obtain ⟨⟨hrc, hrs, hfr, hlo, hws, hcw⟩, hcode, hini, hy, hlen, hl, hstt⟩ := cw
  have hK : vx_Back l R p e below s args y 3 8 (PreOf R mc ms Pc) (PostOf Qc mc ms free) (vx_Post XC mc ms free) := vx_backW (hh := hh) (bytes := bytes) (maxL := maxL) (ret := ret) hM hp.1 hrc hrs hfr hlo hws hcw (fun a' U hW => word_at hW (Or.inl (by first | rfl | simp [Cond.onTables, Cond.keeps, Cond.steady])) hini)
  obtain ⟨hx, hb, hml, ho, -⟩ := S
  intro T hT X
  rcases vx_callSX X hx (hh := hh) (bytes := bytes) (maxL := maxL) (ret := ret) ho hl hstt hini hcode hy hK hg (hsize.trans hml.symm) (argsL := As) (rest := rest) (fun sig h => hn.trans (hlen sig h)) hstack hW (by rw [hb]; exact hdg)
    (fun vm₁ hW₁ => ⟨hf.1, hf.2, hp.2 (T.setVm vm₁) hT hW₁⟩) with ⟨v, vm₁, ⟨U', l2, c2, s2⟩, hW₁, X', ⟨g', mk, t, L, e1, e2, hq, h1, hL, h2, h3⟩, st⟩ | ⟨q, vm₁, ⟨U', l2, c2, s2⟩, hW₁, X', ⟨g', mk, t, L, E, ce, e1, e2, hq, hce, hcv, hcl, h1, hL, h2, h3⟩, st⟩
  · dsimp only [Pt.U, Pt.locs, Pt.cells, Pt.slots] at X' e1 e2 h1 h2 h3 st
    subst h1; subst h2; subst h3
    exact Or.inl ⟨v, (T.setVm vm₁).calling g' mk As.toArray, t, U', L, hT, X', hL, e1, e2, hq, st⟩
  · dsimp only [Pt.U, Pt.locs, Pt.cells, Pt.slots] at X' e1 e2 h1 h2 h3 st hcl
    subst h1; subst h2; subst h3
    exact Or.inr ⟨q, (T.setVm vm₁).calling g' mk As.toArray, t, U', L, E, ce, hT, X', hL, e1, e2, hq, hce, hcv, vx_cls hW₁ hcl, st⟩
end
end VXH
theorem vx_ofWH {l : Launch} {y : MethodName} {ws ws' : List Cond} {rm : Room} {Pc : Array Value → State → Prop} {Qc : Array Value → State → Outcome → State → Prop} {XC : String → State → State → Prop} {mc ms : Nat} {free : Addr → Prop} {cc : ByteArray} {maxL : Nat} {ret : Option FieldType} {hh : List (Nat × Nat × Nat × Nat)}
    (hy : plainName y.cls = true) (hw : ws = Cond.codeWith y cc maxL ret hh :: ws')
    (body : ∀ p e s m args below meth c s₁, BodyLoose p l y (headSpec ws rm) cc maxL ret e s m args below meth c s₁ → c.maxLocals = maxL → Pc args s →
      W p l e (headSpec ws rm).room s m args below meth c s.heap [] 0 0 (vx_MQ below Qc XC args s mc ms free) (entryFrame m args maxL)) : vx_Met l y ws rm Pc Qc XC mc ms free := by
  refine MetFree.of_bodyS (code := cc) (maxLocals := maxL) (ret := ret) hy ?_ ?_
  · intro args s m h hn
    obtain ⟨m9, meth, c, hn9, h1, h2, h3, h4, -, h5, h6, -⟩ := Cond.codeWith_spec (atoms_spec (ws := ws) h _ (by rw [hw]; exact List.mem_cons_self))
    cases hn.symm.trans hn9
    exact ⟨meth, c, h1, h2, h3, h4, h5, h6⟩
  · intro p e s m args below meth c s₁ B hml hP _
    have hh0 : s₁.heap = s.heap := by rw [B.state]; rfl
    obtain ⟨t, a1, o, b1, b2, b3⟩ := body p e s m args below meth c s₁ B hml hP s₁ hh0 (Stand.of_body B)
    exact ⟨t, o, a1, b1, b2, b3⟩
/-! ===== END ===== -/
end
section
/-! ===== BEGIN printed: names, fields, word lists, decode rows ===== -/
def RX0 : String := "ChartroomSpc$Phase"
def TX0 : u_T := fun k => match k with
  | 0 => ("ChartroomSpc$Phase", "first", "I", false)
  | 1 => ("ChartroomSpc$Phase", "pointCount", "I", false)
  | 2 => ("ChartroomSpc$Phase", "sum", "I", false)
  | 3 => ("ChartroomSpc$Phase", "rangeSum", "I", false)
  | 4 => ("ChartroomSpc$Phase", "isFrozen", "Z", false)
  | 5 => ("ChartroomSpc$Phase", "center", "I", false)
  | 6 => ("ChartroomSpc$Phase", "meanRange", "I", false)
  | 7 => ("ChartroomSpc$Phase", "width", "I", false)
  | _ => ("ChartroomSpc$Phase", "rangeLimit", "I", false)
def tyX0 : Nat → FieldType := fun k => match k with
  | 0 => .int
  | 1 => .int
  | 2 => .int
  | 3 => .int
  | 4 => .boolean
  | 5 => .int
  | 6 => .int
  | 7 => .int
  | _ => .int
abbrev wsX00 : List Cond := u_ws RX0 TX0 9
theorem nmX0 : ∀ a, a < 9 → ∀ b, b < 9 → a ≠ b → (TX0 a).2.1 ≠ (TX0 b).2.1 := by decide +kernel
theorem tyX0_ok : ∀ k, k < 9 → parseFieldDescriptor (TX0 k).2.2.1 = some (tyX0 k) := by decide +kernel
abbrev cX0_init : ByteArray := prog_2_method_1_code
def yX0_init : MethodName := ⟨RX0, "<init>", "()V"⟩
abbrev cX0_restart : ByteArray := prog_2_method_2_code
def yX0_restart : MethodName := ⟨RX0, "restart", "(I)V"⟩
abbrev cX0_hasLimits : ByteArray := prog_2_method_3_code
def yX0_hasLimits : MethodName := ⟨RX0, "hasLimits", "()Z"⟩
abbrev cX0_settle : ByteArray := prog_2_method_4_code
def yX0_settle : MethodName := ⟨RX0, "settle", "(I)V"⟩
abbrev cX0_sideOfCenter : ByteArray := prog_2_method_5_code
def yX0_sideOfCenter : MethodName := ⟨RX0, "sideOfCenter", "(I)I"⟩
abbrev cX0_sideBeyond : ByteArray := prog_2_method_6_code
def yX0_sideBeyond : MethodName := ⟨RX0, "sideBeyond", "(II)I"⟩
def RX1 : String := "ChartroomSpc$RunCounts"
def TX1 : u_T := fun k => match k with
  | 0 => ("ChartroomSpc$RunCounts", "taken", "I", false)
  | 1 => ("ChartroomSpc$RunCounts", "lastMean", "I", false)
  | 2 => ("ChartroomSpc$RunCounts", "lastDirection", "I", false)
  | 3 => ("ChartroomSpc$RunCounts", "centerSide", "I", false)
  | 4 => ("ChartroomSpc$RunCounts", "onSide", "I", false)
  | 5 => ("ChartroomSpc$RunCounts", "steady", "I", false)
  | 6 => ("ChartroomSpc$RunCounts", "turning", "I", false)
  | 7 => ("ChartroomSpc$RunCounts", "near", "I", false)
  | 8 => ("ChartroomSpc$RunCounts", "far", "I", false)
  | 9 => ("ChartroomSpc$RunCounts", "sideBeyond3", "I", false)
  | 10 => ("ChartroomSpc$RunCounts", "sideBeyond2", "I", false)
  | 11 => ("ChartroomSpc$RunCounts", "sideBeyond1", "I", false)
  | 12 => ("ChartroomSpc$RunCounts", "upper2", "I", false)
  | 13 => ("ChartroomSpc$RunCounts", "lower2", "I", false)
  | 14 => ("ChartroomSpc$RunCounts", "upper1", "I", false)
  | _ => ("ChartroomSpc$RunCounts", "lower1", "I", false)
def tyX1 : Nat → FieldType := fun k => match k with
  | 0 => .int
  | 1 => .int
  | 2 => .int
  | 3 => .int
  | 4 => .int
  | 5 => .int
  | 6 => .int
  | 7 => .int
  | 8 => .int
  | 9 => .int
  | 10 => .int
  | 11 => .int
  | 12 => .int
  | 13 => .int
  | 14 => .int
  | _ => .int
abbrev wsX10 : List Cond := u_ws RX1 TX1 16
theorem nmX1 : ∀ a, a < 16 → ∀ b, b < 16 → a ≠ b → (TX1 a).2.1 ≠ (TX1 b).2.1 := by decide +kernel
theorem tyX1_ok : ∀ k, k < 16 → parseFieldDescriptor (TX1 k).2.2.1 = some (tyX1 k) := by decide +kernel
abbrev cX1_init : ByteArray := prog_3_method_1_code
def yX1_init : MethodName := ⟨RX1, "<init>", "()V"⟩
abbrev cX1_restart : ByteArray := prog_3_method_2_code
def yX1_restart : MethodName := ⟨RX1, "restart", "()V"⟩
abbrev cX1_take : ByteArray := prog_3_method_3_code
def yX1_take : MethodName := ⟨RX1, "take", "(ILChartroomSpc$Phase;)V"⟩
abbrev cX1_takeCenterSide : ByteArray := prog_3_method_4_code
def yX1_takeCenterSide : MethodName := ⟨RX1, "takeCenterSide", "(I)V"⟩
abbrev cX1_takeDirection : ByteArray := prog_3_method_5_code
def yX1_takeDirection : MethodName := ⟨RX1, "takeDirection", "(I)V"⟩
abbrev cX1_takeSidesBeyond : ByteArray := prog_3_method_6_code
def yX1_takeSidesBeyond : MethodName := ⟨RX1, "takeSidesBeyond", "(ILChartroomSpc$Phase;)V"⟩
abbrev cX1_pushed : ByteArray := prog_3_method_7_code
def yX1_pushed : MethodName := ⟨RX1, "pushed", "(IZI)I"⟩
abbrev cX1_brokenRules : ByteArray := prog_3_method_8_code
def yX1_brokenRules : MethodName := ⟨RX1, "brokenRules", "()I"⟩
abbrev cX1_bitOf : ByteArray := prog_3_method_9_code
def yX1_bitOf : MethodName := ⟨RX1, "bitOf", "(IZ)I"⟩
abbrev cX1_isOften : ByteArray := prog_3_method_10_code
def yX1_isOften : MethodName := ⟨RX1, "isOften", "(IIII)Z"⟩
def RX2 : String := "ChartroomSpc$Window"
def TX2 : u_T := fun k => match k with
  | 0 => ("ChartroomSpc$Window", "numbers", "[I", true)
  | 1 => ("ChartroomSpc$Window", "levels", "[I", true)
  | _ => ("ChartroomSpc$Window", "count", "I", false)
def tyX2 : Nat → FieldType := fun k => match k with
  | 0 => .array .int
  | 1 => .array .int
  | _ => .int
abbrev wsX20 : List Cond := u_ws RX2 TX2 3
theorem nmX2 : ∀ a, a < 3 → ∀ b, b < 3 → a ≠ b → (TX2 a).2.1 ≠ (TX2 b).2.1 := by decide +kernel
theorem tyX2_ok : ∀ k, k < 3 → parseFieldDescriptor (TX2 k).2.2.1 = some (tyX2 k) := by decide +kernel
abbrev cX2_init : ByteArray := prog_4_method_1_code
def yX2_init : MethodName := ⟨RX2, "<init>", "()V"⟩
abbrev cX2_restart : ByteArray := prog_4_method_2_code
def yX2_restart : MethodName := ⟨RX2, "restart", "()V"⟩
abbrev cX2_isFull : ByteArray := prog_4_method_3_code
def yX2_isFull : MethodName := ⟨RX2, "isFull", "()Z"⟩
abbrev cX2_add : ByteArray := prog_4_method_4_code
def yX2_add : MethodName := ⟨RX2, "add", "(II)V"⟩
abbrev cX2_subgroupAt : ByteArray := prog_4_method_5_code
def yX2_subgroupAt : MethodName := ⟨RX2, "subgroupAt", "(I)I"⟩
abbrev cX2_breaks : ByteArray := prog_4_method_6_code
def yX2_breaks : MethodName := ⟨RX2, "breaks", "(ILChartroomSpc$Phase;)Z"⟩
abbrev cX2_isOnOneSide : ByteArray := prog_4_method_7_code
def yX2_isOnOneSide : MethodName := ⟨RX2, "isOnOneSide", "(ILChartroomSpc$Phase;)Z"⟩
abbrev cX2_isSteady : ByteArray := prog_4_method_8_code
def yX2_isSteady : MethodName := ⟨RX2, "isSteady", "(I)Z"⟩
abbrev cX2_isTurning : ByteArray := prog_4_method_9_code
def yX2_isTurning : MethodName := ⟨RX2, "isTurning", "(I)Z"⟩
abbrev cX2_isOften : ByteArray := prog_4_method_10_code
def yX2_isOften : MethodName := ⟨RX2, "isOften", "(IIILChartroomSpc$Phase;)Z"⟩
abbrev cX2_beyondSome : ByteArray := prog_4_method_11_code
def yX2_beyondSome : MethodName := ⟨RX2, "beyondSome", "(ILChartroomSpc$Phase;)I"⟩
def RX3 : String := "ChartroomSpc"
def TX3 : u_T := fun k => match k with
  | 0 => ("ChartroomSpc", "size", "I", false)
  | 1 => ("ChartroomSpc", "weight", "I", false)
  | 2 => ("ChartroomSpc", "begun", "I", false)
  | 3 => ("ChartroomSpc", "begunSum", "I", false)
  | 4 => ("ChartroomSpc", "begunLeast", "I", false)
  | 5 => ("ChartroomSpc", "begunGreatest", "I", false)
  | 6 => ("ChartroomSpc", "done", "I", false)
  | 7 => ("ChartroomSpc", "sums", "[I", true)
  | 8 => ("ChartroomSpc", "rangeRow", "[I", true)
  | 9 => ("ChartroomSpc", "meanRow", "[I", true)
  | 10 => ("ChartroomSpc", "reasons", "[I", true)
  | 11 => ("ChartroomSpc", "phaseNumbers", "[I", true)
  | 12 => ("ChartroomSpc", "phaseCount", "I", false)
  | 13 => ("ChartroomSpc", "phaseRow", "[LChartroomSpc$Phase;", true)
  | 14 => ("ChartroomSpc", "counts", "LChartroomSpc$RunCounts;", true)
  | _ => ("ChartroomSpc", "window", "LChartroomSpc$Window;", true)
def tyX3 : Nat → FieldType := fun k => match k with
  | 0 => .int
  | 1 => .int
  | 2 => .int
  | 3 => .int
  | 4 => .int
  | 5 => .int
  | 6 => .int
  | 7 => .array .int
  | 8 => .array .int
  | 9 => .array .int
  | 10 => .array .int
  | 11 => .array .int
  | 12 => .int
  | 13 => .array (.object "ChartroomSpc$Phase")
  | 14 => .object "ChartroomSpc$RunCounts"
  | _ => .object "ChartroomSpc$Window"
abbrev wsX30 : List Cond := u_ws RX3 TX3 16
theorem nmX3 : ∀ a, a < 16 → ∀ b, b < 16 → a ≠ b → (TX3 a).2.1 ≠ (TX3 b).2.1 := by decide +kernel
theorem tyX3_ok : ∀ k, k < 16 → parseFieldDescriptor (TX3 k).2.2.1 = some (tyX3 k) := by decide +kernel
abbrev cX3_init : ByteArray := prog_1_method_1_code
def yX3_init : MethodName := ⟨RX3, "<init>", "()V"⟩
abbrev cX3_begin : ByteArray := prog_1_method_2_code
def yX3_begin : MethodName := ⟨RX3, "begin", "(I)V"⟩
abbrev cX3_put : ByteArray := prog_1_method_3_code
def yX3_put : MethodName := ⟨RX3, "put", "(I)Z"⟩
abbrev cX3_newPhase : ByteArray := prog_1_method_4_code
def yX3_newPhase : MethodName := ⟨RX3, "newPhase", "()I"⟩
abbrev cX3_freeze : ByteArray := prog_1_method_5_code
def yX3_freeze : MethodName := ⟨RX3, "freeze", "(I)V"⟩
abbrev cX3_thaw : ByteArray := prog_1_method_6_code
def yX3_thaw : MethodName := ⟨RX3, "thaw", "(I)V"⟩
abbrev cX3_exclude : ByteArray := prog_1_method_7_code
def yX3_exclude : MethodName := ⟨RX3, "exclude", "(II)I"⟩
abbrev cX3_subgroups : ByteArray := prog_1_method_8_code
def yX3_subgroups : MethodName := ⟨RX3, "subgroups", "()I"⟩
abbrev cX3_phases : ByteArray := prog_1_method_9_code
def yX3_phases : MethodName := ⟨RX3, "phases", "()I"⟩
abbrev cX3_mean : ByteArray := prog_1_method_10_code
def yX3_mean : MethodName := ⟨RX3, "mean", "(I)I"⟩
abbrev cX3_range : ByteArray := prog_1_method_11_code
def yX3_range : MethodName := ⟨RX3, "range", "(I)I"⟩
abbrev cX3_phaseOf : ByteArray := prog_1_method_12_code
def yX3_phaseOf : MethodName := ⟨RX3, "phaseOf", "(I)I"⟩
abbrev cX3_points : ByteArray := prog_1_method_13_code
def yX3_points : MethodName := ⟨RX3, "points", "(I)I"⟩
abbrev cX3_center : ByteArray := prog_1_method_14_code
def yX3_center : MethodName := ⟨RX3, "center", "(I)I"⟩
abbrev cX3_width : ByteArray := prog_1_method_15_code
def yX3_width : MethodName := ⟨RX3, "width", "(I)I"⟩
abbrev cX3_rangeLimit : ByteArray := prog_1_method_16_code
def yX3_rangeLimit : MethodName := ⟨RX3, "rangeLimit", "(I)I"⟩
abbrev cX3_signals : ByteArray := prog_1_method_17_code
def yX3_signals : MethodName := ⟨RX3, "signals", "(I)I"⟩
abbrev cX3_signalsByWindows : ByteArray := prog_1_method_18_code
def yX3_signalsByWindows : MethodName := ⟨RX3, "signalsByWindows", "(I)I"⟩
abbrev cX3_firstOf : ByteArray := prog_1_method_19_code
def yX3_firstOf : MethodName := ⟨RX3, "firstOf", "(II)I"⟩
abbrev cX3_isWide : ByteArray := prog_1_method_20_code
def yX3_isWide : MethodName := ⟨RX3, "isWide", "(I)Z"⟩
abbrev cX3_alarms : ByteArray := prog_1_method_21_code
def yX3_alarms : MethodName := ⟨RX3, "alarms", "()I"⟩
abbrev cX3_setWeight : ByteArray := prog_1_method_22_code
def yX3_setWeight : MethodName := ⟨RX3, "setWeight", "(I)I"⟩
abbrev cX3_weighted : ByteArray := prog_1_method_23_code
def yX3_weighted : MethodName := ⟨RX3, "weighted", "(I)I"⟩
abbrev cX3_cumulative : ByteArray := prog_1_method_24_code
def yX3_cumulative : MethodName := ⟨RX3, "cumulative", "(IZ)I"⟩
abbrev cX3_capability : ByteArray := prog_1_method_25_code
def yX3_capability : MethodName := ⟨RX3, "capability", "(IIIZ)J"⟩
abbrev cX3_restart : ByteArray := prog_1_method_26_code
def yX3_restart : MethodName := ⟨RX3, "restart", "(I)V"⟩
abbrev cX3_takeMeasurement : ByteArray := prog_1_method_27_code
def yX3_takeMeasurement : MethodName := ⟨RX3, "takeMeasurement", "(I)V"⟩
abbrev cX3_finishSubgroup : ByteArray := prog_1_method_28_code
def yX3_finishSubgroup : MethodName := ⟨RX3, "finishSubgroup", "()V"⟩
abbrev cX3_countPoint : ByteArray := prog_1_method_29_code
def yX3_countPoint : MethodName := ⟨RX3, "countPoint", "(II)V"⟩
abbrev cX3_lookBack : ByteArray := prog_1_method_30_code
def yX3_lookBack : MethodName := ⟨RX3, "lookBack", "(ILChartroomSpc$Phase;)V"⟩
abbrev cX3_checkSubgroup : ByteArray := prog_1_method_31_code
def yX3_checkSubgroup : MethodName := ⟨RX3, "checkSubgroup", "(I)V"⟩
abbrev cX3_checkPoint : ByteArray := prog_1_method_32_code
def yX3_checkPoint : MethodName := ⟨RX3, "checkPoint", "(I)V"⟩
abbrev cX3_isPoint : ByteArray := prog_1_method_33_code
def yX3_isPoint : MethodName := ⟨RX3, "isPoint", "(I)Z"⟩
abbrev cX3_findPhase : ByteArray := prog_1_method_34_code
def yX3_findPhase : MethodName := ⟨RX3, "findPhase", "(I)LChartroomSpc$Phase;"⟩
abbrev cX3_findLimits : ByteArray := prog_1_method_35_code
def yX3_findLimits : MethodName := ⟨RX3, "findLimits", "(I)LChartroomSpc$Phase;"⟩
abbrev cX3_phaseHolding : ByteArray := prog_1_method_36_code
def yX3_phaseHolding : MethodName := ⟨RX3, "phaseHolding", "(I)LChartroomSpc$Phase;"⟩
abbrev cX3_lastPhase : ByteArray := prog_1_method_37_code
def yX3_lastPhase : MethodName := ⟨RX3, "lastPhase", "()LChartroomSpc$Phase;"⟩
abbrev cX3_isMeasurement : ByteArray := prog_1_method_38_code
def yX3_isMeasurement : MethodName := ⟨RX3, "isMeasurement", "(I)Z"⟩
abbrev cX3_bySize : ByteArray := prog_1_method_39_code
def yX3_bySize : MethodName := ⟨RX3, "bySize", "([II)I"⟩
abbrev cX3_pointsOfRule : ByteArray := prog_1_method_40_code
def yX3_pointsOfRule : MethodName := ⟨RX3, "pointsOfRule", "(I)I"⟩
abbrev cX3_floored : ByteArray := prog_1_method_41_code
def yX3_floored : MethodName := ⟨RX3, "floored", "(JJ)J"⟩
abbrev cX3_rounded : ByteArray := prog_1_method_42_code
def yX3_rounded : MethodName := ⟨RX3, "rounded", "(JJ)J"⟩
abbrev cX3_direction : ByteArray := prog_1_method_43_code
def yX3_direction : MethodName := ⟨RX3, "direction", "(II)I"⟩
def RX4 : String := "ChartroomSpcModel"
def TX4 : u_T := fun k => match k with
  | 0 => ("ChartroomSpcModel", "size", "I", false)
  | 1 => ("ChartroomSpcModel", "done", "I", false)
  | 2 => ("ChartroomSpcModel", "begun", "I", false)
  | 3 => ("ChartroomSpcModel", "beginning", "I", false)
  | 4 => ("ChartroomSpcModel", "least", "I", false)
  | 5 => ("ChartroomSpcModel", "greatest", "I", false)
  | 6 => ("ChartroomSpcModel", "sum", "[I", true)
  | 7 => ("ChartroomSpcModel", "range", "[I", true)
  | 8 => ("ChartroomSpcModel", "reason", "[I", true)
  | 9 => ("ChartroomSpcModel", "phases", "I", false)
  | 10 => ("ChartroomSpcModel", "start", "[I", true)
  | 11 => ("ChartroomSpcModel", "frozen", "[Z", true)
  | 12 => ("ChartroomSpcModel", "keptCenter", "[I", true)
  | 13 => ("ChartroomSpcModel", "keptRange", "[I", true)
  | 14 => ("ChartroomSpcModel", "weight", "I", false)
  | 15 => ("ChartroomSpcModel", "limited", "Z", false)
  | 16 => ("ChartroomSpcModel", "center", "I", false)
  | 17 => ("ChartroomSpcModel", "meanRange", "I", false)
  | 18 => ("ChartroomSpcModel", "width", "I", false)
  | 19 => ("ChartroomSpcModel", "rangeLimit", "I", false)
  | 20 => ("ChartroomSpcModel", "many", "I", false)
  | 21 => ("ChartroomSpcModel", "point", "[I", true)
  | 22 => ("ChartroomSpcModel", "x", "[I", true)
  | _ => ("ChartroomSpcModel", "thrown", "I", false)
def tyX4 : Nat → FieldType := fun k => match k with
  | 0 => .int
  | 1 => .int
  | 2 => .int
  | 3 => .int
  | 4 => .int
  | 5 => .int
  | 6 => .array .int
  | 7 => .array .int
  | 8 => .array .int
  | 9 => .int
  | 10 => .array .int
  | 11 => .array .boolean
  | 12 => .array .int
  | 13 => .array .int
  | 14 => .int
  | 15 => .boolean
  | 16 => .int
  | 17 => .int
  | 18 => .int
  | 19 => .int
  | 20 => .int
  | 21 => .array .int
  | 22 => .array .int
  | _ => .int
abbrev wsX40 : List Cond := u_ws RX4 TX4 24
theorem nmX4 : ∀ a, a < 24 → ∀ b, b < 24 → a ≠ b → (TX4 a).2.1 ≠ (TX4 b).2.1 := by decide +kernel
theorem tyX4_ok : ∀ k, k < 24 → parseFieldDescriptor (TX4 k).2.2.1 = some (tyX4 k) := by decide +kernel
abbrev cX4_init : ByteArray := prog_6_method_1_code
def yX4_init : MethodName := ⟨RX4, "<init>", "()V"⟩
abbrev cX4_thrown : ByteArray := prog_6_method_2_code
def yX4_thrown : MethodName := ⟨RX4, "thrown", "()I"⟩
abbrev cX4_isIn : ByteArray := prog_6_method_3_code
def yX4_isIn : MethodName := ⟨RX4, "isIn", "(III)Z"⟩
abbrev cX4_floored : ByteArray := prog_6_method_4_code
def yX4_floored : MethodName := ⟨RX4, "floored", "(JJ)J"⟩
abbrev cX4_rounded : ByteArray := prog_6_method_5_code
def yX4_rounded : MethodName := ⟨RX4, "rounded", "(JJ)I"⟩
abbrev cX4_factor : ByteArray := prog_6_method_6_code
def yX4_factor : MethodName := ⟨RX4, "factor", "(IIIIII)I"⟩
abbrev cX4_begin : ByteArray := prog_6_method_7_code
def yX4_begin : MethodName := ⟨RX4, "begin", "(I)V"⟩
abbrev cX4_put : ByteArray := prog_6_method_8_code
def yX4_put : MethodName := ⟨RX4, "put", "(I)Z"⟩
abbrev cX4_newPhase : ByteArray := prog_6_method_9_code
def yX4_newPhase : MethodName := ⟨RX4, "newPhase", "()I"⟩
abbrev cX4_phase : ByteArray := prog_6_method_10_code
def yX4_phase : MethodName := ⟨RX4, "phase", "(I)I"⟩
abbrev cX4_laysPoints : ByteArray := prog_6_method_11_code
def yX4_laysPoints : MethodName := ⟨RX4, "laysPoints", "(II)V"⟩
abbrev cX4_laysLimits : ByteArray := prog_6_method_12_code
def yX4_laysLimits : MethodName := ⟨RX4, "laysLimits", "(I)V"⟩
abbrev cX4_isPhase : ByteArray := prog_6_method_13_code
def yX4_isPhase : MethodName := ⟨RX4, "isPhase", "(I)Z"⟩
abbrev cX4_freeze : ByteArray := prog_6_method_14_code
def yX4_freeze : MethodName := ⟨RX4, "freeze", "(I)V"⟩
abbrev cX4_thaw : ByteArray := prog_6_method_15_code
def yX4_thaw : MethodName := ⟨RX4, "thaw", "(I)V"⟩
abbrev cX4_isDone : ByteArray := prog_6_method_16_code
def yX4_isDone : MethodName := ⟨RX4, "isDone", "(I)Z"⟩
abbrev cX4_exclude : ByteArray := prog_6_method_17_code
def yX4_exclude : MethodName := ⟨RX4, "exclude", "(II)I"⟩
abbrev cX4_subgroups : ByteArray := prog_6_method_18_code
def yX4_subgroups : MethodName := ⟨RX4, "subgroups", "()I"⟩
abbrev cX4_phases : ByteArray := prog_6_method_19_code
def yX4_phases : MethodName := ⟨RX4, "phases", "()I"⟩
abbrev cX4_mean : ByteArray := prog_6_method_20_code
def yX4_mean : MethodName := ⟨RX4, "mean", "(I)I"⟩
abbrev cX4_range : ByteArray := prog_6_method_21_code
def yX4_range : MethodName := ⟨RX4, "range", "(I)I"⟩
abbrev cX4_phaseOf : ByteArray := prog_6_method_22_code
def yX4_phaseOf : MethodName := ⟨RX4, "phaseOf", "(I)I"⟩
abbrev cX4_points : ByteArray := prog_6_method_23_code
def yX4_points : MethodName := ⟨RX4, "points", "(I)I"⟩
abbrev cX4_isLimited : ByteArray := prog_6_method_24_code
def yX4_isLimited : MethodName := ⟨RX4, "isLimited", "(I)Z"⟩
abbrev cX4_center : ByteArray := prog_6_method_25_code
def yX4_center : MethodName := ⟨RX4, "center", "(I)I"⟩
abbrev cX4_width : ByteArray := prog_6_method_26_code
def yX4_width : MethodName := ⟨RX4, "width", "(I)I"⟩
abbrev cX4_rangeLimit : ByteArray := prog_6_method_27_code
def yX4_rangeLimit : MethodName := ⟨RX4, "rangeLimit", "(I)I"⟩
abbrev cX4_back : ByteArray := prog_6_method_28_code
def yX4_back : MethodName := ⟨RX4, "back", "(I)I"⟩
abbrev cX4_isBeyond : ByteArray := prog_6_method_29_code
def yX4_isBeyond : MethodName := ⟨RX4, "isBeyond", "(III)Z"⟩
abbrev cX4_beyond : ByteArray := prog_6_method_30_code
def yX4_beyond : MethodName := ⟨RX4, "beyond", "(III)I"⟩
abbrev cX4_steps : ByteArray := prog_6_method_31_code
def yX4_steps : MethodName := ⟨RX4, "steps", "(II)I"⟩
abbrev cX4_isTurning : ByteArray := prog_6_method_32_code
def yX4_isTurning : MethodName := ⟨RX4, "isTurning", "()Z"⟩
abbrev cX4_aboveOf : ByteArray := prog_6_method_33_code
def yX4_aboveOf : MethodName := ⟨RX4, "aboveOf", "(II)I"⟩
abbrev cX4_named : ByteArray := prog_6_method_34_code
def yX4_named : MethodName := ⟨RX4, "named", "(I)I"⟩
abbrev cX4_breaks : ByteArray := prog_6_method_35_code
def yX4_breaks : MethodName := ⟨RX4, "breaks", "(II)Z"⟩
abbrev cX4_broken : ByteArray := prog_6_method_36_code
def yX4_broken : MethodName := ⟨RX4, "broken", "(I)I"⟩
abbrev cX4_signals : ByteArray := prog_6_method_37_code
def yX4_signals : MethodName := ⟨RX4, "signals", "(I)I"⟩
abbrev cX4_signalsByWindows : ByteArray := prog_6_method_38_code
def yX4_signalsByWindows : MethodName := ⟨RX4, "signalsByWindows", "(I)I"⟩
abbrev cX4_firstOf : ByteArray := prog_6_method_39_code
def yX4_firstOf : MethodName := ⟨RX4, "firstOf", "(II)I"⟩
abbrev cX4_isWide : ByteArray := prog_6_method_40_code
def yX4_isWide : MethodName := ⟨RX4, "isWide", "(I)Z"⟩
abbrev cX4_alarms : ByteArray := prog_6_method_41_code
def yX4_alarms : MethodName := ⟨RX4, "alarms", "()I"⟩
abbrev cX4_setWeight : ByteArray := prog_6_method_42_code
def yX4_setWeight : MethodName := ⟨RX4, "setWeight", "(I)I"⟩
abbrev cX4_isPoint : ByteArray := prog_6_method_43_code
def yX4_isPoint : MethodName := ⟨RX4, "isPoint", "(I)Z"⟩
abbrev cX4_weighted : ByteArray := prog_6_method_44_code
def yX4_weighted : MethodName := ⟨RX4, "weighted", "(I)I"⟩
abbrev cX4_cumulative : ByteArray := prog_6_method_45_code
def yX4_cumulative : MethodName := ⟨RX4, "cumulative", "(IZ)I"⟩
abbrev cX4_capability : ByteArray := prog_6_method_46_code
def yX4_capability : MethodName := ⟨RX4, "capability", "(IIIZ)J"⟩
def RJ6 : String := "java/lang/Integer"
def TJ6 : u_T := fun k => match k with
  | _ => ("", "", "", false)
def tyJ6 : Nat → FieldType := fun k => match k with
  | _ => .int
abbrev wsJ60 : List Cond := u_ws RJ6 TJ6 0
theorem nmJ6 : ∀ a, a < 0 → ∀ b, b < 0 → a ≠ b → (TJ6 a).2.1 ≠ (TJ6 b).2.1 := by decide +kernel
theorem tyJ6_ok : ∀ k, k < 0 → parseFieldDescriptor (TJ6 k).2.2.1 = some (tyJ6 k) := by decide +kernel
abbrev cJ6_bitCount_0f7a4 : ByteArray := prog_11_method_49_code
def yJ6_bitCount_0f7a4 : MethodName := ⟨RJ6, "bitCount", "(I)I"⟩
def RJ9 : String := "java/lang/Math"
def TJ9 : u_T := fun k => match k with
  | _ => ("", "", "", false)
def tyJ9 : Nat → FieldType := fun k => match k with
  | _ => .int
abbrev wsJ90 : List Cond := u_ws RJ9 TJ9 0
theorem nmJ9 : ∀ a, a < 0 → ∀ b, b < 0 → a ≠ b → (TJ9 a).2.1 ≠ (TJ9 b).2.1 := by decide +kernel
theorem tyJ9_ok : ∀ k, k < 0 → parseFieldDescriptor (TJ9 k).2.2.1 = some (tyJ9 k) := by decide +kernel
abbrev cJ9_floorDiv_7cf53 : ByteArray := prog_12_method_47_code
def yJ9_floorDiv_7cf53 : MethodName := ⟨RJ9, "floorDiv", "(II)I"⟩
abbrev cJ9_floorDiv_f86c9 : ByteArray := prog_12_method_49_code
def yJ9_floorDiv_f86c9 : MethodName := ⟨RJ9, "floorDiv", "(JJ)J"⟩
abbrev cJ9_max_7cf53 : ByteArray := prog_12_method_65_code
def yJ9_max_7cf53 : MethodName := ⟨RJ9, "max", "(II)I"⟩
abbrev cJ9_min_7cf53 : ByteArray := prog_12_method_69_code
def yJ9_min_7cf53 : MethodName := ⟨RJ9, "min", "(II)I"⟩
abbrev cJ9_min_f86c9 : ByteArray := prog_12_method_70_code
def yJ9_min_f86c9 : MethodName := ⟨RJ9, "min", "(JJ)J"⟩
def RJ0 : String := "java/lang/String"
def TJ0 : u_T := fun k => match k with
  | _ => ("", "", "", false)
def tyJ0 : Nat → FieldType := fun k => match k with
  | _ => .int
abbrev wsJ00 : List Cond := u_ws RJ0 TJ0 0
theorem nmJ0 : ∀ a, a < 0 → ∀ b, b < 0 → a ≠ b → (TJ0 a).2.1 ≠ (TJ0 b).2.1 := by decide +kernel
theorem tyJ0_ok : ∀ k, k < 0 → parseFieldDescriptor (TJ0 k).2.2.1 = some (tyJ0 k) := by decide +kernel
def RL : String := "ChartroomSpcLaw"
abbrev cL_begin : ByteArray := method_3_code
def yL_begin : MethodName := ⟨RL, "begin", "(LChartroomSpc;I)I"⟩
abbrev cL_put : ByteArray := method_4_code
def yL_put : MethodName := ⟨RL, "put", "(LChartroomSpc;I[J)I"⟩
abbrev cL_newPhase : ByteArray := method_5_code
def yL_newPhase : MethodName := ⟨RL, "newPhase", "(LChartroomSpc;[J)I"⟩
abbrev cL_freeze : ByteArray := method_6_code
def yL_freeze : MethodName := ⟨RL, "freeze", "(LChartroomSpc;I)I"⟩
abbrev cL_thaw : ByteArray := method_7_code
def yL_thaw : MethodName := ⟨RL, "thaw", "(LChartroomSpc;I)I"⟩
abbrev cL_exclude : ByteArray := method_8_code
def yL_exclude : MethodName := ⟨RL, "exclude", "(LChartroomSpc;II[J)I"⟩
abbrev cL_mean : ByteArray := method_9_code
def yL_mean : MethodName := ⟨RL, "mean", "(LChartroomSpc;I[J)I"⟩
abbrev cL_range : ByteArray := method_10_code
def yL_range : MethodName := ⟨RL, "range", "(LChartroomSpc;I[J)I"⟩
abbrev cL_phaseOf : ByteArray := method_11_code
def yL_phaseOf : MethodName := ⟨RL, "phaseOf", "(LChartroomSpc;I[J)I"⟩
abbrev cL_points : ByteArray := method_12_code
def yL_points : MethodName := ⟨RL, "points", "(LChartroomSpc;I[J)I"⟩
abbrev cL_center : ByteArray := method_13_code
def yL_center : MethodName := ⟨RL, "center", "(LChartroomSpc;I[J)I"⟩
abbrev cL_width : ByteArray := method_14_code
def yL_width : MethodName := ⟨RL, "width", "(LChartroomSpc;I[J)I"⟩
abbrev cL_rangeLimit : ByteArray := method_15_code
def yL_rangeLimit : MethodName := ⟨RL, "rangeLimit", "(LChartroomSpc;I[J)I"⟩
abbrev cL_signals : ByteArray := method_16_code
def yL_signals : MethodName := ⟨RL, "signals", "(LChartroomSpc;I[J)I"⟩
abbrev cL_signalsByWindows : ByteArray := method_17_code
def yL_signalsByWindows : MethodName := ⟨RL, "signalsByWindows", "(LChartroomSpc;I[J)I"⟩
abbrev cL_firstOf : ByteArray := method_18_code
def yL_firstOf : MethodName := ⟨RL, "firstOf", "(LChartroomSpc;II[J)I"⟩
abbrev cL_isWide : ByteArray := method_19_code
def yL_isWide : MethodName := ⟨RL, "isWide", "(LChartroomSpc;I[J)I"⟩
abbrev cL_setWeight : ByteArray := method_20_code
def yL_setWeight : MethodName := ⟨RL, "setWeight", "(LChartroomSpc;I[J)I"⟩
abbrev cL_weighted : ByteArray := method_21_code
def yL_weighted : MethodName := ⟨RL, "weighted", "(LChartroomSpc;I[J)I"⟩
abbrev cL_cumulative : ByteArray := method_22_code
def yL_cumulative : MethodName := ⟨RL, "cumulative", "(LChartroomSpc;IZ[J)I"⟩
abbrev cL_capability : ByteArray := method_23_code
def yL_capability : MethodName := ⟨RL, "capability", "(LChartroomSpc;IIIZ[J)I"⟩
abbrev cL_law : ByteArray := code
def yL_law : MethodName := ⟨RL, "law", "([I)Z"⟩
abbrev vwCl : List vw_C := [(RX0, TX0, 9), (RX1, TX1, 16), (RX2, TX2, 3), (RX3, TX3, 16), (RX4, TX4, 24)]
end
section
def zU : List Cond := lw_tbl.filter goodWord
theorem zU_t {w : Cond} (i : Nat) (h : tables_1[i]? = some w) (hg : goodWord w = true) : w ∈ zU := List.mem_filter.mpr ⟨List.mem_append_right _ (List.mem_of_getElem? h), hg⟩
theorem zU_s {q : MethodName × Nat} (i : Nat) (h : lw_privs[i]? = some q) : Cond.selects q.1.cls q.1 q.1 ∈ zU := List.mem_filter.mpr ⟨List.mem_append_left _ (List.mem_map.mpr ⟨q, List.mem_of_getElem? h, rfl⟩), rfl⟩
theorem zU_good : ∀ w ∈ zU, goodWord w = true := fun w h => (List.mem_filter.mp h).2
theorem m_0 : Cond.initialized RL ∈ zU := zU_t 0 (by decide +kernel) rfl
theorem m_1 : Cond.initialized RX3 ∈ zU := zU_t 1 (by decide +kernel) rfl
theorem m_2 : Cond.initialized RX0 ∈ zU := zU_t 2 (by decide +kernel) rfl
theorem m_3 : Cond.initialized RX1 ∈ zU := zU_t 3 (by decide +kernel) rfl
theorem m_4 : Cond.initialized RX2 ∈ zU := zU_t 4 (by decide +kernel) rfl
theorem m_5 : Cond.initialized RX4 ∈ zU := zU_t 5 (by decide +kernel) rfl
theorem m_6 : Cond.initialized "java/lang/Throwable" ∈ zU := zU_t 6 (by decide +kernel) rfl
theorem m_7 : Cond.initialized "java/lang/Exception" ∈ zU := zU_t 7 (by decide +kernel) rfl
theorem m_8 : Cond.initialized "java/lang/RuntimeException" ∈ zU := zU_t 8 (by decide +kernel) rfl
theorem m_9 : Cond.initialized "java/lang/IllegalArgumentException" ∈ zU := zU_t 9 (by decide +kernel) rfl
theorem m_10 : Cond.initialized "java/lang/IllegalStateException" ∈ zU := zU_t 10 (by decide +kernel) rfl
theorem m_11 : Cond.initialized RJ9 ∈ zU := zU_t 11 (by decide +kernel) rfl
theorem m_12 : Cond.initialized "java/lang/IndexOutOfBoundsException" ∈ zU := zU_t 12 (by decide +kernel) rfl
theorem m_13 : Cond.initialized RJ6 ∈ zU := zU_t 13 (by decide +kernel) rfl
theorem m_14 : Cond.classLink RL 8 RX3 ∈ zU := zU_t 14 (by decide +kernel) rfl
theorem m_15 : Cond.instantiable RX3 16 ∈ zU := zU_t 15 (by decide +kernel) rfl
theorem m_16 : Cond.methodLink RL 85 yX3_init ∈ zU := zU_t 16 (by decide +kernel) rfl
theorem m_17 : Cond.instanceMethod yX3_init ∈ zU := zU_t 17 (by decide +kernel) rfl
theorem m_18 : Cond.code yX3_init cX3_init 2 none ∈ zU := zU_t 18 (by decide +kernel) rfl
theorem m_19 : Cond.methodLink RX3 1 objectInit ∈ zU := zU_t 19 (by decide +kernel) rfl
theorem m_20 : Cond.instanceMethod objectInit ∈ zU := zU_t 20 (by decide +kernel) rfl
theorem m_21 : Cond.code objectInit ⟨#[0xb1]⟩ 1 none ∈ zU := zU_t 21 (by decide +kernel) rfl
theorem m_22 : Cond.classLink RX3 25 RX0 ∈ zU := zU_t 22 (by decide +kernel) rfl
theorem m_24 : Cond.instantiable RX0 9 ∈ zU := zU_t 24 (by decide +kernel) rfl
theorem m_26 : Cond.instanceMethod yX0_init ∈ zU := zU_t 26 (by decide +kernel) rfl
theorem m_27 : Cond.code yX0_init cX0_init 1 none ∈ zU := zU_t 27 (by decide +kernel) rfl
theorem m_28 : Cond.methodLink RX0 1 objectInit ∈ zU := zU_t 28 (by decide +kernel) rfl
theorem m_29 : Cond.fieldLink RX0 7 "ChartroomSpc$Phase" "first" "I" ∈ zU := zU_t 29 (by decide +kernel) rfl
theorem m_30 : Cond.fieldLink RX3 95 "ChartroomSpc$Phase" "first" "I" ∈ zU := zU_t 30 (by decide +kernel) rfl
theorem m_31 : Cond.fieldLink RX0 13 "ChartroomSpc$Phase" "pointCount" "I" ∈ zU := zU_t 31 (by decide +kernel) rfl
theorem m_32 : Cond.fieldLink RX3 111 "ChartroomSpc$Phase" "pointCount" "I" ∈ zU := zU_t 32 (by decide +kernel) rfl
theorem m_33 : Cond.fieldLink RX0 16 "ChartroomSpc$Phase" "sum" "I" ∈ zU := zU_t 33 (by decide +kernel) rfl
theorem m_34 : Cond.fieldLink RX3 241 "ChartroomSpc$Phase" "sum" "I" ∈ zU := zU_t 34 (by decide +kernel) rfl
theorem m_35 : Cond.fieldLink RX0 19 "ChartroomSpc$Phase" "rangeSum" "I" ∈ zU := zU_t 35 (by decide +kernel) rfl
theorem m_36 : Cond.fieldLink RX3 244 "ChartroomSpc$Phase" "rangeSum" "I" ∈ zU := zU_t 36 (by decide +kernel) rfl
theorem m_37 : Cond.fieldLink RX0 22 "ChartroomSpc$Phase" "isFrozen" "Z" ∈ zU := zU_t 37 (by decide +kernel) rfl
theorem m_38 : Cond.fieldLink RX3 105 "ChartroomSpc$Phase" "isFrozen" "Z" ∈ zU := zU_t 38 (by decide +kernel) rfl
theorem m_39 : Cond.fieldLink RX0 34 "ChartroomSpc$Phase" "center" "I" ∈ zU := zU_t 39 (by decide +kernel) rfl
theorem m_40 : Cond.fieldLink RX3 133 "ChartroomSpc$Phase" "center" "I" ∈ zU := zU_t 40 (by decide +kernel) rfl
theorem m_41 : Cond.fieldLink RX0 37 "ChartroomSpc$Phase" "meanRange" "I" ∈ zU := zU_t 41 (by decide +kernel) rfl
theorem m_42 : Cond.fieldLink RX3 204 "ChartroomSpc$Phase" "meanRange" "I" ∈ zU := zU_t 42 (by decide +kernel) rfl
theorem m_43 : Cond.fieldLink RX0 48 "ChartroomSpc$Phase" "width" "I" ∈ zU := zU_t 43 (by decide +kernel) rfl
theorem m_44 : Cond.fieldLink RX3 136 "ChartroomSpc$Phase" "width" "I" ∈ zU := zU_t 44 (by decide +kernel) rfl
theorem m_45 : Cond.fieldLink RX0 54 "ChartroomSpc$Phase" "rangeLimit" "I" ∈ zU := zU_t 45 (by decide +kernel) rfl
theorem m_46 : Cond.fieldLink RX3 139 "ChartroomSpc$Phase" "rangeLimit" "I" ∈ zU := zU_t 46 (by decide +kernel) rfl
theorem m_47 : Cond.lays RX0 "ChartroomSpc$Phase" "first" "I" ∈ zU := zU_t 47 (by decide +kernel) rfl
theorem m_49 : Cond.lays RX0 "ChartroomSpc$Phase" "pointCount" "I" ∈ zU := zU_t 49 (by decide +kernel) rfl
theorem m_51 : Cond.lays RX0 "ChartroomSpc$Phase" "sum" "I" ∈ zU := zU_t 51 (by decide +kernel) rfl
theorem m_53 : Cond.lays RX0 "ChartroomSpc$Phase" "rangeSum" "I" ∈ zU := zU_t 53 (by decide +kernel) rfl
theorem m_55 : Cond.lays RX0 "ChartroomSpc$Phase" "isFrozen" "Z" ∈ zU := zU_t 55 (by decide +kernel) rfl
theorem m_57 : Cond.lays RX0 "ChartroomSpc$Phase" "center" "I" ∈ zU := zU_t 57 (by decide +kernel) rfl
theorem m_59 : Cond.lays RX0 "ChartroomSpc$Phase" "meanRange" "I" ∈ zU := zU_t 59 (by decide +kernel) rfl
theorem m_61 : Cond.lays RX0 "ChartroomSpc$Phase" "width" "I" ∈ zU := zU_t 61 (by decide +kernel) rfl
theorem m_63 : Cond.lays RX0 "ChartroomSpc$Phase" "rangeLimit" "I" ∈ zU := zU_t 63 (by decide +kernel) rfl
theorem m_66 : Cond.arrayClass .int ∈ zU := zU_t 66 (by decide +kernel) rfl
theorem m_67 : Cond.classLink RX3 32 RX1 ∈ zU := zU_t 67 (by decide +kernel) rfl
theorem m_68 : Cond.instantiable RX1 16 ∈ zU := zU_t 68 (by decide +kernel) rfl
theorem m_70 : Cond.instanceMethod yX1_init ∈ zU := zU_t 70 (by decide +kernel) rfl
theorem m_71 : Cond.code yX1_init cX1_init 1 none ∈ zU := zU_t 71 (by decide +kernel) rfl
theorem m_72 : Cond.methodLink RX1 1 objectInit ∈ zU := zU_t 72 (by decide +kernel) rfl
theorem m_73 : Cond.fieldLink RX1 7 "ChartroomSpc$RunCounts" "taken" "I" ∈ zU := zU_t 73 (by decide +kernel) rfl
theorem m_74 : Cond.fieldLink RX1 13 "ChartroomSpc$RunCounts" "lastMean" "I" ∈ zU := zU_t 74 (by decide +kernel) rfl
theorem m_75 : Cond.fieldLink RX1 16 "ChartroomSpc$RunCounts" "lastDirection" "I" ∈ zU := zU_t 75 (by decide +kernel) rfl
theorem m_76 : Cond.fieldLink RX1 19 "ChartroomSpc$RunCounts" "centerSide" "I" ∈ zU := zU_t 76 (by decide +kernel) rfl
theorem m_77 : Cond.fieldLink RX1 22 "ChartroomSpc$RunCounts" "onSide" "I" ∈ zU := zU_t 77 (by decide +kernel) rfl
theorem m_78 : Cond.fieldLink RX1 25 "ChartroomSpc$RunCounts" "steady" "I" ∈ zU := zU_t 78 (by decide +kernel) rfl
theorem m_79 : Cond.fieldLink RX1 28 "ChartroomSpc$RunCounts" "turning" "I" ∈ zU := zU_t 79 (by decide +kernel) rfl
theorem m_80 : Cond.fieldLink RX1 31 "ChartroomSpc$RunCounts" "near" "I" ∈ zU := zU_t 80 (by decide +kernel) rfl
theorem m_81 : Cond.fieldLink RX1 34 "ChartroomSpc$RunCounts" "far" "I" ∈ zU := zU_t 81 (by decide +kernel) rfl
theorem m_82 : Cond.fieldLink RX1 49 "ChartroomSpc$RunCounts" "sideBeyond3" "I" ∈ zU := zU_t 82 (by decide +kernel) rfl
theorem m_83 : Cond.fieldLink RX1 52 "ChartroomSpc$RunCounts" "sideBeyond2" "I" ∈ zU := zU_t 83 (by decide +kernel) rfl
theorem m_84 : Cond.fieldLink RX1 55 "ChartroomSpc$RunCounts" "sideBeyond1" "I" ∈ zU := zU_t 84 (by decide +kernel) rfl
theorem m_85 : Cond.fieldLink RX1 37 "ChartroomSpc$RunCounts" "upper2" "I" ∈ zU := zU_t 85 (by decide +kernel) rfl
theorem m_86 : Cond.fieldLink RX1 40 "ChartroomSpc$RunCounts" "lower2" "I" ∈ zU := zU_t 86 (by decide +kernel) rfl
theorem m_87 : Cond.fieldLink RX1 43 "ChartroomSpc$RunCounts" "upper1" "I" ∈ zU := zU_t 87 (by decide +kernel) rfl
theorem m_88 : Cond.fieldLink RX1 46 "ChartroomSpc$RunCounts" "lower1" "I" ∈ zU := zU_t 88 (by decide +kernel) rfl
theorem m_89 : Cond.lays RX1 "ChartroomSpc$RunCounts" "taken" "I" ∈ zU := zU_t 89 (by decide +kernel) rfl
theorem m_91 : Cond.lays RX1 "ChartroomSpc$RunCounts" "lastMean" "I" ∈ zU := zU_t 91 (by decide +kernel) rfl
theorem m_93 : Cond.lays RX1 "ChartroomSpc$RunCounts" "lastDirection" "I" ∈ zU := zU_t 93 (by decide +kernel) rfl
theorem m_95 : Cond.lays RX1 "ChartroomSpc$RunCounts" "centerSide" "I" ∈ zU := zU_t 95 (by decide +kernel) rfl
theorem m_97 : Cond.lays RX1 "ChartroomSpc$RunCounts" "onSide" "I" ∈ zU := zU_t 97 (by decide +kernel) rfl
theorem m_99 : Cond.lays RX1 "ChartroomSpc$RunCounts" "steady" "I" ∈ zU := zU_t 99 (by decide +kernel) rfl
theorem m_101 : Cond.lays RX1 "ChartroomSpc$RunCounts" "turning" "I" ∈ zU := zU_t 101 (by decide +kernel) rfl
theorem m_103 : Cond.lays RX1 "ChartroomSpc$RunCounts" "near" "I" ∈ zU := zU_t 103 (by decide +kernel) rfl
theorem m_105 : Cond.lays RX1 "ChartroomSpc$RunCounts" "far" "I" ∈ zU := zU_t 105 (by decide +kernel) rfl
theorem m_107 : Cond.lays RX1 "ChartroomSpc$RunCounts" "sideBeyond3" "I" ∈ zU := zU_t 107 (by decide +kernel) rfl
theorem m_109 : Cond.lays RX1 "ChartroomSpc$RunCounts" "sideBeyond2" "I" ∈ zU := zU_t 109 (by decide +kernel) rfl
theorem m_111 : Cond.lays RX1 "ChartroomSpc$RunCounts" "sideBeyond1" "I" ∈ zU := zU_t 111 (by decide +kernel) rfl
theorem m_113 : Cond.lays RX1 "ChartroomSpc$RunCounts" "upper2" "I" ∈ zU := zU_t 113 (by decide +kernel) rfl
theorem m_115 : Cond.lays RX1 "ChartroomSpc$RunCounts" "lower2" "I" ∈ zU := zU_t 115 (by decide +kernel) rfl
theorem m_117 : Cond.lays RX1 "ChartroomSpc$RunCounts" "upper1" "I" ∈ zU := zU_t 117 (by decide +kernel) rfl
theorem m_119 : Cond.lays RX1 "ChartroomSpc$RunCounts" "lower1" "I" ∈ zU := zU_t 119 (by decide +kernel) rfl
theorem m_122 : Cond.classLink RX3 39 RX2 ∈ zU := zU_t 122 (by decide +kernel) rfl
theorem m_123 : Cond.instantiable RX2 3 ∈ zU := zU_t 123 (by decide +kernel) rfl
theorem m_125 : Cond.instanceMethod yX2_init ∈ zU := zU_t 125 (by decide +kernel) rfl
theorem m_126 : Cond.code yX2_init cX2_init 1 none ∈ zU := zU_t 126 (by decide +kernel) rfl
theorem m_127 : Cond.methodLink RX2 3 objectInit ∈ zU := zU_t 127 (by decide +kernel) rfl
theorem m_128 : Cond.fieldLink RX2 9 "ChartroomSpc$Window" "numbers" "[I" ∈ zU := zU_t 128 (by decide +kernel) rfl
theorem m_129 : Cond.fieldLink RX2 15 "ChartroomSpc$Window" "levels" "[I" ∈ zU := zU_t 129 (by decide +kernel) rfl
theorem m_130 : Cond.fieldLink RX2 18 "ChartroomSpc$Window" "count" "I" ∈ zU := zU_t 130 (by decide +kernel) rfl
theorem m_131 : Cond.laysFinal RX2 "ChartroomSpc$Window" "numbers" "[I" ∈ zU := zU_t 131 (by decide +kernel) rfl
theorem m_133 : Cond.laysFinal RX2 "ChartroomSpc$Window" "levels" "[I" ∈ zU := zU_t 133 (by decide +kernel) rfl
theorem m_135 : Cond.lays RX2 "ChartroomSpc$Window" "count" "I" ∈ zU := zU_t 135 (by decide +kernel) rfl
theorem m_138 : Cond.methodLink RX3 46 yX3_restart ∈ zU := zU_t 138 (by decide +kernel) rfl
theorem m_140 : Cond.instanceMethod yX3_restart ∈ zU := zU_t 140 (by decide +kernel) rfl
theorem m_141 : Cond.code yX3_restart cX3_restart 2 none ∈ zU := zU_t 141 (by decide +kernel) rfl
theorem m_142 : Cond.methodLink RX3 100 yX0_restart ∈ zU := zU_t 142 (by decide +kernel) rfl
theorem m_143 : Cond.instanceMethod yX0_restart ∈ zU := zU_t 143 (by decide +kernel) rfl
theorem m_144 : Cond.selects RX0 yX0_restart yX0_restart ∈ zU := zU_t 144 (by decide +kernel) rfl
theorem m_145 : Cond.code yX0_restart cX0_restart 2 none ∈ zU := zU_t 145 (by decide +kernel) rfl
theorem m_146 : Cond.fieldLink RX3 78 "ChartroomSpc" "size" "I" ∈ zU := zU_t 146 (by decide +kernel) rfl
theorem m_147 : Cond.fieldLink RX3 179 "ChartroomSpc" "weight" "I" ∈ zU := zU_t 147 (by decide +kernel) rfl
theorem m_148 : Cond.fieldLink RX3 75 "ChartroomSpc" "begun" "I" ∈ zU := zU_t 148 (by decide +kernel) rfl
theorem m_149 : Cond.fieldLink RX3 227 "ChartroomSpc" "begunSum" "I" ∈ zU := zU_t 149 (by decide +kernel) rfl
theorem m_150 : Cond.fieldLink RX3 230 "ChartroomSpc" "begunLeast" "I" ∈ zU := zU_t 150 (by decide +kernel) rfl
theorem m_151 : Cond.fieldLink RX3 235 "ChartroomSpc" "begunGreatest" "I" ∈ zU := zU_t 151 (by decide +kernel) rfl
theorem m_152 : Cond.fieldLink RX3 63 "ChartroomSpc" "done" "I" ∈ zU := zU_t 152 (by decide +kernel) rfl
theorem m_153 : Cond.fieldLink RX3 9 "ChartroomSpc" "sums" "[I" ∈ zU := zU_t 153 (by decide +kernel) rfl
theorem m_154 : Cond.fieldLink RX3 13 "ChartroomSpc" "rangeRow" "[I" ∈ zU := zU_t 154 (by decide +kernel) rfl
theorem m_155 : Cond.fieldLink RX3 16 "ChartroomSpc" "meanRow" "[I" ∈ zU := zU_t 155 (by decide +kernel) rfl
theorem m_156 : Cond.fieldLink RX3 19 "ChartroomSpc" "reasons" "[I" ∈ zU := zU_t 156 (by decide +kernel) rfl
theorem m_157 : Cond.fieldLink RX3 22 "ChartroomSpc" "phaseNumbers" "[I" ∈ zU := zU_t 157 (by decide +kernel) rfl
theorem m_158 : Cond.fieldLink RX3 84 "ChartroomSpc" "phaseCount" "I" ∈ zU := zU_t 158 (by decide +kernel) rfl
theorem m_159 : Cond.fieldLink RX3 27 "ChartroomSpc" "phaseRow" "[LChartroomSpc$Phase;" ∈ zU := zU_t 159 (by decide +kernel) rfl
theorem m_160 : Cond.fieldLink RX3 35 "ChartroomSpc" "counts" "LChartroomSpc$RunCounts;" ∈ zU := zU_t 160 (by decide +kernel) rfl
theorem m_161 : Cond.fieldLink RX3 42 "ChartroomSpc" "window" "LChartroomSpc$Window;" ∈ zU := zU_t 161 (by decide +kernel) rfl
theorem m_162 : Cond.lays RX3 "ChartroomSpc" "size" "I" ∈ zU := zU_t 162 (by decide +kernel) rfl
theorem m_164 : Cond.lays RX3 "ChartroomSpc" "weight" "I" ∈ zU := zU_t 164 (by decide +kernel) rfl
theorem m_166 : Cond.lays RX3 "ChartroomSpc" "begun" "I" ∈ zU := zU_t 166 (by decide +kernel) rfl
theorem m_168 : Cond.lays RX3 "ChartroomSpc" "begunSum" "I" ∈ zU := zU_t 168 (by decide +kernel) rfl
theorem m_170 : Cond.lays RX3 "ChartroomSpc" "begunLeast" "I" ∈ zU := zU_t 170 (by decide +kernel) rfl
theorem m_172 : Cond.lays RX3 "ChartroomSpc" "begunGreatest" "I" ∈ zU := zU_t 172 (by decide +kernel) rfl
theorem m_174 : Cond.lays RX3 "ChartroomSpc" "done" "I" ∈ zU := zU_t 174 (by decide +kernel) rfl
theorem m_176 : Cond.laysFinal RX3 "ChartroomSpc" "sums" "[I" ∈ zU := zU_t 176 (by decide +kernel) rfl
theorem m_178 : Cond.laysFinal RX3 "ChartroomSpc" "rangeRow" "[I" ∈ zU := zU_t 178 (by decide +kernel) rfl
theorem m_180 : Cond.laysFinal RX3 "ChartroomSpc" "meanRow" "[I" ∈ zU := zU_t 180 (by decide +kernel) rfl
theorem m_182 : Cond.laysFinal RX3 "ChartroomSpc" "reasons" "[I" ∈ zU := zU_t 182 (by decide +kernel) rfl
theorem m_184 : Cond.laysFinal RX3 "ChartroomSpc" "phaseNumbers" "[I" ∈ zU := zU_t 184 (by decide +kernel) rfl
theorem m_186 : Cond.lays RX3 "ChartroomSpc" "phaseCount" "I" ∈ zU := zU_t 186 (by decide +kernel) rfl
theorem m_188 : Cond.laysFinal RX3 "ChartroomSpc" "phaseRow" "[LChartroomSpc$Phase;" ∈ zU := zU_t 188 (by decide +kernel) rfl
theorem m_190 : Cond.laysFinal RX3 "ChartroomSpc" "counts" "LChartroomSpc$RunCounts;" ∈ zU := zU_t 190 (by decide +kernel) rfl
theorem m_192 : Cond.laysFinal RX3 "ChartroomSpc" "window" "LChartroomSpc$Window;" ∈ zU := zU_t 192 (by decide +kernel) rfl
theorem m_195 : Cond.methodLink RL 116 yX3_subgroups ∈ zU := zU_t 195 (by decide +kernel) rfl
theorem m_196 : Cond.instanceMethod yX3_subgroups ∈ zU := zU_t 196 (by decide +kernel) rfl
theorem m_197 : Cond.selects RX3 yX3_subgroups yX3_subgroups ∈ zU := zU_t 197 (by decide +kernel) rfl
theorem m_198 : Cond.code yX3_subgroups cX3_subgroups 1 (some .int) ∈ zU := zU_t 198 (by decide +kernel) rfl
theorem m_199 : Cond.methodLink RL 120 yX3_phases ∈ zU := zU_t 199 (by decide +kernel) rfl
theorem m_200 : Cond.instanceMethod yX3_phases ∈ zU := zU_t 200 (by decide +kernel) rfl
theorem m_201 : Cond.selects RX3 yX3_phases yX3_phases ∈ zU := zU_t 201 (by decide +kernel) rfl
theorem m_202 : Cond.code yX3_phases cX3_phases 1 (some .int) ∈ zU := zU_t 202 (by decide +kernel) rfl
theorem m_203 : Cond.methodLink RL 157 yX3_alarms ∈ zU := zU_t 203 (by decide +kernel) rfl
theorem m_204 : Cond.instanceMethod yX3_alarms ∈ zU := zU_t 204 (by decide +kernel) rfl
theorem m_205 : Cond.selects RX3 yX3_alarms yX3_alarms ∈ zU := zU_t 205 (by decide +kernel) rfl
theorem m_206 : Cond.code yX3_alarms cX3_alarms 4 (some .int) ∈ zU := zU_t 206 (by decide +kernel) rfl
theorem m_207 : Cond.methodLink RX3 148 yX1_restart ∈ zU := zU_t 207 (by decide +kernel) rfl
theorem m_208 : Cond.instanceMethod yX1_restart ∈ zU := zU_t 208 (by decide +kernel) rfl
theorem m_209 : Cond.selects RX1 yX1_restart yX1_restart ∈ zU := zU_t 209 (by decide +kernel) rfl
theorem m_210 : Cond.code yX1_restart cX1_restart 1 none ∈ zU := zU_t 210 (by decide +kernel) rfl
theorem m_211 : Cond.methodLink RX3 142 yX3_isPoint ∈ zU := zU_t 211 (by decide +kernel) rfl
theorem m_213 : Cond.instanceMethod yX3_isPoint ∈ zU := zU_t 213 (by decide +kernel) rfl
theorem m_214 : Cond.code yX3_isPoint cX3_isPoint 2 (some .boolean) ∈ zU := zU_t 214 (by decide +kernel) rfl
theorem m_215 : Cond.methodLink RX3 145 yX3_phaseHolding ∈ zU := zU_t 215 (by decide +kernel) rfl
theorem m_217 : Cond.instanceMethod yX3_phaseHolding ∈ zU := zU_t 217 (by decide +kernel) rfl
theorem m_218 : Cond.code yX3_phaseHolding cX3_phaseHolding 3 (some (.object "ChartroomSpc$Phase")) ∈ zU := zU_t 218 (by decide +kernel) rfl
theorem m_219 : Cond.methodLink RX3 150 yX1_take ∈ zU := zU_t 219 (by decide +kernel) rfl
theorem m_220 : Cond.instanceMethod yX1_take ∈ zU := zU_t 220 (by decide +kernel) rfl
theorem m_221 : Cond.selects RX1 yX1_take yX1_take ∈ zU := zU_t 221 (by decide +kernel) rfl
theorem m_222 : Cond.code yX1_take cX1_take 3 none ∈ zU := zU_t 222 (by decide +kernel) rfl
theorem m_223 : Cond.methodLink RX1 58 yX0_sideOfCenter ∈ zU := zU_t 223 (by decide +kernel) rfl
theorem m_224 : Cond.instanceMethod yX0_sideOfCenter ∈ zU := zU_t 224 (by decide +kernel) rfl
theorem m_225 : Cond.selects RX0 yX0_sideOfCenter yX0_sideOfCenter ∈ zU := zU_t 225 (by decide +kernel) rfl
theorem m_226 : Cond.code yX0_sideOfCenter cX0_sideOfCenter 2 (some .int) ∈ zU := zU_t 226 (by decide +kernel) rfl
theorem m_228 : Cond.static yX3_direction ∈ zU := zU_t 228 (by decide +kernel) rfl
theorem m_229 : Cond.code yX3_direction cX3_direction 2 (some .int) ∈ zU := zU_t 229 (by decide +kernel) rfl
theorem m_230 : Cond.methodLink RX1 64 yX1_takeCenterSide ∈ zU := zU_t 230 (by decide +kernel) rfl
theorem m_232 : Cond.instanceMethod yX1_takeCenterSide ∈ zU := zU_t 232 (by decide +kernel) rfl
theorem m_233 : Cond.code yX1_takeCenterSide cX1_takeCenterSide 2 none ∈ zU := zU_t 233 (by decide +kernel) rfl
theorem m_235 : Cond.methodLink RX1 74 yX1_takeDirection ∈ zU := zU_t 235 (by decide +kernel) rfl
theorem m_237 : Cond.instanceMethod yX1_takeDirection ∈ zU := zU_t 237 (by decide +kernel) rfl
theorem m_238 : Cond.code yX1_takeDirection cX1_takeDirection 2 none ∈ zU := zU_t 238 (by decide +kernel) rfl
theorem m_239 : Cond.methodLink RX1 77 yX1_takeSidesBeyond ∈ zU := zU_t 239 (by decide +kernel) rfl
theorem m_241 : Cond.instanceMethod yX1_takeSidesBeyond ∈ zU := zU_t 241 (by decide +kernel) rfl
theorem m_242 : Cond.code yX1_takeSidesBeyond cX1_takeSidesBeyond 3 none ∈ zU := zU_t 242 (by decide +kernel) rfl
theorem m_243 : Cond.methodLink RX1 81 yX0_sideBeyond ∈ zU := zU_t 243 (by decide +kernel) rfl
theorem m_244 : Cond.instanceMethod yX0_sideBeyond ∈ zU := zU_t 244 (by decide +kernel) rfl
theorem m_245 : Cond.selects RX0 yX0_sideBeyond yX0_sideBeyond ∈ zU := zU_t 245 (by decide +kernel) rfl
theorem m_246 : Cond.code yX0_sideBeyond cX0_sideBeyond 3 (some .int) ∈ zU := zU_t 246 (by decide +kernel) rfl
theorem m_247 : Cond.methodLink RX1 84 yX1_pushed ∈ zU := zU_t 247 (by decide +kernel) rfl
theorem m_248 : Cond.static yX1_pushed ∈ zU := zU_t 248 (by decide +kernel) rfl
theorem m_249 : Cond.code yX1_pushed cX1_pushed 3 (some .int) ∈ zU := zU_t 249 (by decide +kernel) rfl
theorem m_250 : Cond.methodLink RX3 154 yX1_brokenRules ∈ zU := zU_t 250 (by decide +kernel) rfl
theorem m_251 : Cond.instanceMethod yX1_brokenRules ∈ zU := zU_t 251 (by decide +kernel) rfl
theorem m_252 : Cond.selects RX1 yX1_brokenRules yX1_brokenRules ∈ zU := zU_t 252 (by decide +kernel) rfl
theorem m_253 : Cond.code yX1_brokenRules cX1_brokenRules 1 (some .int) ∈ zU := zU_t 253 (by decide +kernel) rfl
theorem m_254 : Cond.methodLink RX1 88 yX1_bitOf ∈ zU := zU_t 254 (by decide +kernel) rfl
theorem m_255 : Cond.static yX1_bitOf ∈ zU := zU_t 255 (by decide +kernel) rfl
theorem m_256 : Cond.code yX1_bitOf cX1_bitOf 2 (some .int) ∈ zU := zU_t 256 (by decide +kernel) rfl
theorem m_258 : Cond.static yX3_pointsOfRule ∈ zU := zU_t 258 (by decide +kernel) rfl
theorem m_259 : Cond.code yX3_pointsOfRule cX3_pointsOfRule 1 (some .int) ∈ zU := zU_t 259 (by decide +kernel) rfl
theorem m_260 : Cond.fieldLink RX3 260 "ChartroomSpc" "POINTS_OF_RULES" "[I" ∈ zU := zU_t 260 (by decide +kernel) rfl
theorem m_262 : Cond.methodLink RX1 95 yX1_isOften ∈ zU := zU_t 262 (by decide +kernel) rfl
theorem m_263 : Cond.static yX1_isOften ∈ zU := zU_t 263 (by decide +kernel) rfl
theorem m_264 : Cond.code yX1_isOften cX1_isOften 4 (some .boolean) ∈ zU := zU_t 264 (by decide +kernel) rfl
theorem m_265 : Cond.methodLink RX1 99 yJ6_bitCount_0f7a4 ∈ zU := zU_t 265 (by decide +kernel) rfl
theorem m_266 : Cond.static yJ6_bitCount_0f7a4 ∈ zU := zU_t 266 (by decide +kernel) rfl
theorem m_267 : Cond.code yJ6_bitCount_0f7a4 cJ6_bitCount_0f7a4 1 (some .int) ∈ zU := zU_t 267 (by decide +kernel) rfl
theorem m_268 : Cond.constant RJ6 265 (1431655765) ∈ zU := zU_t 268 (by decide +kernel) rfl
theorem m_269 : Cond.constant RJ6 266 (858993459) ∈ zU := zU_t 269 (by decide +kernel) rfl
theorem m_270 : Cond.constant RJ6 267 (252645135) ∈ zU := zU_t 270 (by decide +kernel) rfl
theorem m_271 : Cond.methodLink RL 89 yL_begin ∈ zU := zU_t 271 (by decide +kernel) rfl
theorem m_272 : Cond.static yL_begin ∈ zU := zU_t 272 (by decide +kernel) rfl
theorem m_273 : Cond.codeWith yL_begin cL_begin 3 (some .int) [(0, 5, 8, 13)] ∈ zU := zU_t 273 (by decide +kernel) rfl
theorem m_274 : Cond.classLink RL 13 "java/lang/IllegalArgumentException" ∈ zU := zU_t 274 (by decide +kernel) rfl
theorem m_275 : Cond.methodLink RL 7 yX3_begin ∈ zU := zU_t 275 (by decide +kernel) rfl
theorem m_276 : Cond.instanceMethod yX3_begin ∈ zU := zU_t 276 (by decide +kernel) rfl
theorem m_277 : Cond.selects RX3 yX3_begin yX3_begin ∈ zU := zU_t 277 (by decide +kernel) rfl
theorem m_278 : Cond.code yX3_begin cX3_begin 2 none ∈ zU := zU_t 278 (by decide +kernel) rfl
theorem m_279 : Cond.classLink RX3 50 "java/lang/IllegalArgumentException" ∈ zU := zU_t 279 (by decide +kernel) rfl
theorem m_346 : Cond.arrayClass .byte ∈ zU := zU_t 346 (by decide +kernel) rfl
theorem m_347 : Cond.methodLink RL 98 yL_put ∈ zU := zU_t 347 (by decide +kernel) rfl
theorem m_348 : Cond.static yL_put ∈ zU := zU_t 348 (by decide +kernel) rfl
theorem m_349 : Cond.codeWith yL_put cL_put 4 (some .int) [(0, 16, 19, 13), (0, 16, 22, 19)] ∈ zU := zU_t 349 (by decide +kernel) rfl
theorem m_350 : Cond.classLink RL 19 "java/lang/IllegalStateException" ∈ zU := zU_t 350 (by decide +kernel) rfl
theorem m_351 : Cond.methodLink RL 15 yX3_put ∈ zU := zU_t 351 (by decide +kernel) rfl
theorem m_352 : Cond.instanceMethod yX3_put ∈ zU := zU_t 352 (by decide +kernel) rfl
theorem m_353 : Cond.selects RX3 yX3_put yX3_put ∈ zU := zU_t 353 (by decide +kernel) rfl
theorem m_354 : Cond.code yX3_put cX3_put 2 (some .boolean) ∈ zU := zU_t 354 (by decide +kernel) rfl
theorem m_355 : Cond.methodLink RX3 57 yX3_isMeasurement ∈ zU := zU_t 355 (by decide +kernel) rfl
theorem m_356 : Cond.static yX3_isMeasurement ∈ zU := zU_t 356 (by decide +kernel) rfl
theorem m_357 : Cond.code yX3_isMeasurement cX3_isMeasurement 1 (some .boolean) ∈ zU := zU_t 357 (by decide +kernel) rfl
theorem m_359 : Cond.classLink RX3 67 "java/lang/IllegalStateException" ∈ zU := zU_t 359 (by decide +kernel) rfl
theorem m_375 : Cond.methodLink RX3 72 yX3_takeMeasurement ∈ zU := zU_t 375 (by decide +kernel) rfl
theorem m_377 : Cond.instanceMethod yX3_takeMeasurement ∈ zU := zU_t 377 (by decide +kernel) rfl
theorem m_378 : Cond.code yX3_takeMeasurement cX3_takeMeasurement 3 none ∈ zU := zU_t 378 (by decide +kernel) rfl
theorem m_379 : Cond.methodLink RX3 233 yJ9_min_7cf53 ∈ zU := zU_t 379 (by decide +kernel) rfl
theorem m_380 : Cond.static yJ9_min_7cf53 ∈ zU := zU_t 380 (by decide +kernel) rfl
theorem m_381 : Cond.code yJ9_min_7cf53 cJ9_min_7cf53 2 (some .int) ∈ zU := zU_t 381 (by decide +kernel) rfl
theorem m_382 : Cond.methodLink RX3 191 yJ9_max_7cf53 ∈ zU := zU_t 382 (by decide +kernel) rfl
theorem m_383 : Cond.static yJ9_max_7cf53 ∈ zU := zU_t 383 (by decide +kernel) rfl
theorem m_384 : Cond.code yJ9_max_7cf53 cJ9_max_7cf53 2 (some .int) ∈ zU := zU_t 384 (by decide +kernel) rfl
theorem m_385 : Cond.methodLink RX3 81 yX3_finishSubgroup ∈ zU := zU_t 385 (by decide +kernel) rfl
theorem m_387 : Cond.instanceMethod yX3_finishSubgroup ∈ zU := zU_t 387 (by decide +kernel) rfl
theorem m_388 : Cond.code yX3_finishSubgroup cX3_finishSubgroup 2 none ∈ zU := zU_t 388 (by decide +kernel) rfl
theorem m_389 : Cond.constantLong RX3 202 (1000) ∈ zU := zU_t 389 (by decide +kernel) rfl
theorem m_390 : Cond.methodLink RX3 238 yX3_rounded ∈ zU := zU_t 390 (by decide +kernel) rfl
theorem m_391 : Cond.static yX3_rounded ∈ zU := zU_t 391 (by decide +kernel) rfl
theorem m_392 : Cond.code yX3_rounded cX3_rounded 4 (some .long) ∈ zU := zU_t 392 (by decide +kernel) rfl
theorem m_393 : Cond.constantLong RX3 265 (2) ∈ zU := zU_t 393 (by decide +kernel) rfl
theorem m_394 : Cond.methodLink RX3 214 yX3_floored ∈ zU := zU_t 394 (by decide +kernel) rfl
theorem m_395 : Cond.static yX3_floored ∈ zU := zU_t 395 (by decide +kernel) rfl
theorem m_396 : Cond.code yX3_floored cX3_floored 4 (some .long) ∈ zU := zU_t 396 (by decide +kernel) rfl
theorem m_397 : Cond.methodLink RX3 263 yJ9_floorDiv_f86c9 ∈ zU := zU_t 397 (by decide +kernel) rfl
theorem m_398 : Cond.static yJ9_floorDiv_f86c9 ∈ zU := zU_t 398 (by decide +kernel) rfl
theorem m_399 : Cond.code yJ9_floorDiv_f86c9 cJ9_floorDiv_f86c9 6 (some .long) ∈ zU := zU_t 399 (by decide +kernel) rfl
theorem m_400 : Cond.methodLink RX3 126 yX3_countPoint ∈ zU := zU_t 400 (by decide +kernel) rfl
theorem m_402 : Cond.instanceMethod yX3_countPoint ∈ zU := zU_t 402 (by decide +kernel) rfl
theorem m_403 : Cond.code yX3_countPoint cX3_countPoint 4 none ∈ zU := zU_t 403 (by decide +kernel) rfl
theorem m_404 : Cond.methodLink RX3 118 yX0_settle ∈ zU := zU_t 404 (by decide +kernel) rfl
theorem m_405 : Cond.instanceMethod yX0_settle ∈ zU := zU_t 405 (by decide +kernel) rfl
theorem m_406 : Cond.selects RX0 yX0_settle yX0_settle ∈ zU := zU_t 406 (by decide +kernel) rfl
theorem m_407 : Cond.code yX0_settle cX0_settle 4 none ∈ zU := zU_t 407 (by decide +kernel) rfl
theorem m_408 : Cond.constantLong RX0 26 (1000) ∈ zU := zU_t 408 (by decide +kernel) rfl
theorem m_413 : Cond.static yX3_bySize ∈ zU := zU_t 413 (by decide +kernel) rfl
theorem m_414 : Cond.code yX3_bySize cX3_bySize 3 (some .int) ∈ zU := zU_t 414 (by decide +kernel) rfl
theorem m_417 : Cond.methodLink RL 102 yL_newPhase ∈ zU := zU_t 417 (by decide +kernel) rfl
theorem m_418 : Cond.static yL_newPhase ∈ zU := zU_t 418 (by decide +kernel) rfl
theorem m_419 : Cond.codeWith yL_newPhase cL_newPhase 3 (some .int) [(0, 8, 11, 19)] ∈ zU := zU_t 419 (by decide +kernel) rfl
theorem m_420 : Cond.methodLink RL 21 yX3_newPhase ∈ zU := zU_t 420 (by decide +kernel) rfl
theorem m_421 : Cond.instanceMethod yX3_newPhase ∈ zU := zU_t 421 (by decide +kernel) rfl
theorem m_422 : Cond.selects RX3 yX3_newPhase yX3_newPhase ∈ zU := zU_t 422 (by decide +kernel) rfl
theorem m_423 : Cond.code yX3_newPhase cX3_newPhase 1 (some .int) ∈ zU := zU_t 423 (by decide +kernel) rfl
theorem m_426 : Cond.methodLink RX3 91 yX3_lastPhase ∈ zU := zU_t 426 (by decide +kernel) rfl
theorem m_428 : Cond.instanceMethod yX3_lastPhase ∈ zU := zU_t 428 (by decide +kernel) rfl
theorem m_429 : Cond.code yX3_lastPhase cX3_lastPhase 1 (some (.object "ChartroomSpc$Phase")) ∈ zU := zU_t 429 (by decide +kernel) rfl
theorem m_431 : Cond.methodLink RL 106 yL_freeze ∈ zU := zU_t 431 (by decide +kernel) rfl
theorem m_432 : Cond.static yL_freeze ∈ zU := zU_t 432 (by decide +kernel) rfl
theorem m_433 : Cond.codeWith yL_freeze cL_freeze 3 (some .int) [(0, 5, 8, 28), (0, 5, 11, 19)] ∈ zU := zU_t 433 (by decide +kernel) rfl
theorem m_434 : Cond.classLink RL 28 "java/lang/IndexOutOfBoundsException" ∈ zU := zU_t 434 (by decide +kernel) rfl
theorem m_435 : Cond.methodLink RL 25 yX3_freeze ∈ zU := zU_t 435 (by decide +kernel) rfl
theorem m_436 : Cond.instanceMethod yX3_freeze ∈ zU := zU_t 436 (by decide +kernel) rfl
theorem m_437 : Cond.selects RX3 yX3_freeze yX3_freeze ∈ zU := zU_t 437 (by decide +kernel) rfl
theorem m_438 : Cond.code yX3_freeze cX3_freeze 3 none ∈ zU := zU_t 438 (by decide +kernel) rfl
theorem m_439 : Cond.methodLink RX3 101 yX3_findPhase ∈ zU := zU_t 439 (by decide +kernel) rfl
theorem m_441 : Cond.instanceMethod yX3_findPhase ∈ zU := zU_t 441 (by decide +kernel) rfl
theorem m_442 : Cond.code yX3_findPhase cX3_findPhase 2 (some (.object "ChartroomSpc$Phase")) ∈ zU := zU_t 442 (by decide +kernel) rfl
theorem m_443 : Cond.classLink RX3 165 "java/lang/IndexOutOfBoundsException" ∈ zU := zU_t 443 (by decide +kernel) rfl
theorem m_461 : Cond.methodLink RL 109 yL_thaw ∈ zU := zU_t 461 (by decide +kernel) rfl
theorem m_462 : Cond.static yL_thaw ∈ zU := zU_t 462 (by decide +kernel) rfl
theorem m_463 : Cond.codeWith yL_thaw cL_thaw 3 (some .int) [(0, 5, 8, 28), (0, 5, 11, 19)] ∈ zU := zU_t 463 (by decide +kernel) rfl
theorem m_464 : Cond.methodLink RL 30 yX3_thaw ∈ zU := zU_t 464 (by decide +kernel) rfl
theorem m_465 : Cond.instanceMethod yX3_thaw ∈ zU := zU_t 465 (by decide +kernel) rfl
theorem m_466 : Cond.selects RX3 yX3_thaw yX3_thaw ∈ zU := zU_t 466 (by decide +kernel) rfl
theorem m_467 : Cond.code yX3_thaw cX3_thaw 3 none ∈ zU := zU_t 467 (by decide +kernel) rfl
theorem m_469 : Cond.methodLink RL 112 yL_exclude ∈ zU := zU_t 469 (by decide +kernel) rfl
theorem m_470 : Cond.static yL_exclude ∈ zU := zU_t 470 (by decide +kernel) rfl
theorem m_471 : Cond.codeWith yL_exclude cL_exclude 5 (some .int) [(0, 10, 13, 28), (0, 10, 17, 13)] ∈ zU := zU_t 471 (by decide +kernel) rfl
theorem m_472 : Cond.methodLink RL 33 yX3_exclude ∈ zU := zU_t 472 (by decide +kernel) rfl
theorem m_473 : Cond.instanceMethod yX3_exclude ∈ zU := zU_t 473 (by decide +kernel) rfl
theorem m_474 : Cond.selects RX3 yX3_exclude yX3_exclude ∈ zU := zU_t 474 (by decide +kernel) rfl
theorem m_475 : Cond.code yX3_exclude cX3_exclude 4 (some .int) ∈ zU := zU_t 475 (by decide +kernel) rfl
theorem m_476 : Cond.methodLink RX3 121 yX3_checkSubgroup ∈ zU := zU_t 476 (by decide +kernel) rfl
theorem m_478 : Cond.instanceMethod yX3_checkSubgroup ∈ zU := zU_t 478 (by decide +kernel) rfl
theorem m_479 : Cond.code yX3_checkSubgroup cX3_checkSubgroup 2 none ∈ zU := zU_t 479 (by decide +kernel) rfl
theorem m_482 : Cond.methodLink RL 124 yL_mean ∈ zU := zU_t 482 (by decide +kernel) rfl
theorem m_483 : Cond.static yL_mean ∈ zU := zU_t 483 (by decide +kernel) rfl
theorem m_484 : Cond.codeWith yL_mean cL_mean 4 (some .int) [(0, 9, 12, 28)] ∈ zU := zU_t 484 (by decide +kernel) rfl
theorem m_485 : Cond.methodLink RL 37 yX3_mean ∈ zU := zU_t 485 (by decide +kernel) rfl
theorem m_486 : Cond.instanceMethod yX3_mean ∈ zU := zU_t 486 (by decide +kernel) rfl
theorem m_487 : Cond.selects RX3 yX3_mean yX3_mean ∈ zU := zU_t 487 (by decide +kernel) rfl
theorem m_488 : Cond.code yX3_mean cX3_mean 2 (some .int) ∈ zU := zU_t 488 (by decide +kernel) rfl
theorem m_489 : Cond.methodLink RL 127 yL_range ∈ zU := zU_t 489 (by decide +kernel) rfl
theorem m_490 : Cond.static yL_range ∈ zU := zU_t 490 (by decide +kernel) rfl
theorem m_491 : Cond.codeWith yL_range cL_range 4 (some .int) [(0, 9, 12, 28)] ∈ zU := zU_t 491 (by decide +kernel) rfl
theorem m_492 : Cond.methodLink RL 41 yX3_range ∈ zU := zU_t 492 (by decide +kernel) rfl
theorem m_493 : Cond.instanceMethod yX3_range ∈ zU := zU_t 493 (by decide +kernel) rfl
theorem m_494 : Cond.selects RX3 yX3_range yX3_range ∈ zU := zU_t 494 (by decide +kernel) rfl
theorem m_495 : Cond.code yX3_range cX3_range 2 (some .int) ∈ zU := zU_t 495 (by decide +kernel) rfl
theorem m_496 : Cond.methodLink RL 130 yL_phaseOf ∈ zU := zU_t 496 (by decide +kernel) rfl
theorem m_497 : Cond.static yL_phaseOf ∈ zU := zU_t 497 (by decide +kernel) rfl
theorem m_498 : Cond.codeWith yL_phaseOf cL_phaseOf 4 (some .int) [(0, 9, 12, 28)] ∈ zU := zU_t 498 (by decide +kernel) rfl
theorem m_499 : Cond.methodLink RL 44 yX3_phaseOf ∈ zU := zU_t 499 (by decide +kernel) rfl
theorem m_500 : Cond.instanceMethod yX3_phaseOf ∈ zU := zU_t 500 (by decide +kernel) rfl
theorem m_501 : Cond.selects RX3 yX3_phaseOf yX3_phaseOf ∈ zU := zU_t 501 (by decide +kernel) rfl
theorem m_502 : Cond.code yX3_phaseOf cX3_phaseOf 2 (some .int) ∈ zU := zU_t 502 (by decide +kernel) rfl
theorem m_503 : Cond.methodLink RL 133 yL_points ∈ zU := zU_t 503 (by decide +kernel) rfl
theorem m_504 : Cond.static yL_points ∈ zU := zU_t 504 (by decide +kernel) rfl
theorem m_505 : Cond.codeWith yL_points cL_points 4 (some .int) [(0, 9, 12, 28)] ∈ zU := zU_t 505 (by decide +kernel) rfl
theorem m_506 : Cond.methodLink RL 47 yX3_points ∈ zU := zU_t 506 (by decide +kernel) rfl
theorem m_507 : Cond.instanceMethod yX3_points ∈ zU := zU_t 507 (by decide +kernel) rfl
theorem m_508 : Cond.selects RX3 yX3_points yX3_points ∈ zU := zU_t 508 (by decide +kernel) rfl
theorem m_509 : Cond.code yX3_points cX3_points 2 (some .int) ∈ zU := zU_t 509 (by decide +kernel) rfl
theorem m_510 : Cond.methodLink RL 136 yL_center ∈ zU := zU_t 510 (by decide +kernel) rfl
theorem m_511 : Cond.static yL_center ∈ zU := zU_t 511 (by decide +kernel) rfl
theorem m_512 : Cond.codeWith yL_center cL_center 4 (some .int) [(0, 9, 12, 28), (0, 9, 15, 19)] ∈ zU := zU_t 512 (by decide +kernel) rfl
theorem m_513 : Cond.methodLink RL 50 yX3_center ∈ zU := zU_t 513 (by decide +kernel) rfl
theorem m_514 : Cond.instanceMethod yX3_center ∈ zU := zU_t 514 (by decide +kernel) rfl
theorem m_515 : Cond.selects RX3 yX3_center yX3_center ∈ zU := zU_t 515 (by decide +kernel) rfl
theorem m_516 : Cond.code yX3_center cX3_center 2 (some .int) ∈ zU := zU_t 516 (by decide +kernel) rfl
theorem m_517 : Cond.methodLink RX3 130 yX3_findLimits ∈ zU := zU_t 517 (by decide +kernel) rfl
theorem m_519 : Cond.instanceMethod yX3_findLimits ∈ zU := zU_t 519 (by decide +kernel) rfl
theorem m_520 : Cond.code yX3_findLimits cX3_findLimits 3 (some (.object "ChartroomSpc$Phase")) ∈ zU := zU_t 520 (by decide +kernel) rfl
theorem m_521 : Cond.methodLink RX3 196 yX0_hasLimits ∈ zU := zU_t 521 (by decide +kernel) rfl
theorem m_522 : Cond.instanceMethod yX0_hasLimits ∈ zU := zU_t 522 (by decide +kernel) rfl
theorem m_523 : Cond.selects RX0 yX0_hasLimits yX0_hasLimits ∈ zU := zU_t 523 (by decide +kernel) rfl
theorem m_524 : Cond.code yX0_hasLimits cX0_hasLimits 1 (some .boolean) ∈ zU := zU_t 524 (by decide +kernel) rfl
theorem m_526 : Cond.methodLink RL 139 yL_width ∈ zU := zU_t 526 (by decide +kernel) rfl
theorem m_527 : Cond.static yL_width ∈ zU := zU_t 527 (by decide +kernel) rfl
theorem m_528 : Cond.codeWith yL_width cL_width 4 (some .int) [(0, 9, 12, 28), (0, 9, 15, 19)] ∈ zU := zU_t 528 (by decide +kernel) rfl
theorem m_529 : Cond.methodLink RL 53 yX3_width ∈ zU := zU_t 529 (by decide +kernel) rfl
theorem m_530 : Cond.instanceMethod yX3_width ∈ zU := zU_t 530 (by decide +kernel) rfl
theorem m_531 : Cond.selects RX3 yX3_width yX3_width ∈ zU := zU_t 531 (by decide +kernel) rfl
theorem m_532 : Cond.code yX3_width cX3_width 2 (some .int) ∈ zU := zU_t 532 (by decide +kernel) rfl
theorem m_533 : Cond.methodLink RL 142 yL_rangeLimit ∈ zU := zU_t 533 (by decide +kernel) rfl
theorem m_534 : Cond.static yL_rangeLimit ∈ zU := zU_t 534 (by decide +kernel) rfl
theorem m_535 : Cond.codeWith yL_rangeLimit cL_rangeLimit 4 (some .int) [(0, 9, 12, 28), (0, 9, 15, 19)] ∈ zU := zU_t 535 (by decide +kernel) rfl
theorem m_536 : Cond.methodLink RL 56 yX3_rangeLimit ∈ zU := zU_t 536 (by decide +kernel) rfl
theorem m_537 : Cond.instanceMethod yX3_rangeLimit ∈ zU := zU_t 537 (by decide +kernel) rfl
theorem m_538 : Cond.selects RX3 yX3_rangeLimit yX3_rangeLimit ∈ zU := zU_t 538 (by decide +kernel) rfl
theorem m_539 : Cond.code yX3_rangeLimit cX3_rangeLimit 2 (some .int) ∈ zU := zU_t 539 (by decide +kernel) rfl
theorem m_540 : Cond.methodLink RL 145 yL_signals ∈ zU := zU_t 540 (by decide +kernel) rfl
theorem m_541 : Cond.static yL_signals ∈ zU := zU_t 541 (by decide +kernel) rfl
theorem m_542 : Cond.codeWith yL_signals cL_signals 4 (some .int) [(0, 9, 12, 28)] ∈ zU := zU_t 542 (by decide +kernel) rfl
theorem m_543 : Cond.methodLink RL 59 yX3_signals ∈ zU := zU_t 543 (by decide +kernel) rfl
theorem m_544 : Cond.instanceMethod yX3_signals ∈ zU := zU_t 544 (by decide +kernel) rfl
theorem m_545 : Cond.selects RX3 yX3_signals yX3_signals ∈ zU := zU_t 545 (by decide +kernel) rfl
theorem m_546 : Cond.code yX3_signals cX3_signals 4 (some .int) ∈ zU := zU_t 546 (by decide +kernel) rfl
theorem m_547 : Cond.methodLink RL 148 yL_signalsByWindows ∈ zU := zU_t 547 (by decide +kernel) rfl
theorem m_548 : Cond.static yL_signalsByWindows ∈ zU := zU_t 548 (by decide +kernel) rfl
theorem m_549 : Cond.codeWith yL_signalsByWindows cL_signalsByWindows 4 (some .int) [(0, 9, 12, 28)] ∈ zU := zU_t 549 (by decide +kernel) rfl
theorem m_550 : Cond.methodLink RL 62 yX3_signalsByWindows ∈ zU := zU_t 550 (by decide +kernel) rfl
theorem m_551 : Cond.instanceMethod yX3_signalsByWindows ∈ zU := zU_t 551 (by decide +kernel) rfl
theorem m_552 : Cond.selects RX3 yX3_signalsByWindows yX3_signalsByWindows ∈ zU := zU_t 552 (by decide +kernel) rfl
theorem m_553 : Cond.code yX3_signalsByWindows cX3_signalsByWindows 5 (some .int) ∈ zU := zU_t 553 (by decide +kernel) rfl
theorem m_554 : Cond.methodLink RX3 158 yX3_lookBack ∈ zU := zU_t 554 (by decide +kernel) rfl
theorem m_556 : Cond.instanceMethod yX3_lookBack ∈ zU := zU_t 556 (by decide +kernel) rfl
theorem m_557 : Cond.code yX3_lookBack cX3_lookBack 4 none ∈ zU := zU_t 557 (by decide +kernel) rfl
theorem m_558 : Cond.methodLink RX3 247 yX2_restart ∈ zU := zU_t 558 (by decide +kernel) rfl
theorem m_559 : Cond.instanceMethod yX2_restart ∈ zU := zU_t 559 (by decide +kernel) rfl
theorem m_560 : Cond.selects RX2 yX2_restart yX2_restart ∈ zU := zU_t 560 (by decide +kernel) rfl
theorem m_561 : Cond.code yX2_restart cX2_restart 1 none ∈ zU := zU_t 561 (by decide +kernel) rfl
theorem m_562 : Cond.methodLink RX3 248 yX2_isFull ∈ zU := zU_t 562 (by decide +kernel) rfl
theorem m_563 : Cond.instanceMethod yX2_isFull ∈ zU := zU_t 563 (by decide +kernel) rfl
theorem m_564 : Cond.selects RX2 yX2_isFull yX2_isFull ∈ zU := zU_t 564 (by decide +kernel) rfl
theorem m_565 : Cond.code yX2_isFull cX2_isFull 1 (some .boolean) ∈ zU := zU_t 565 (by decide +kernel) rfl
theorem m_566 : Cond.methodLink RX3 251 yX2_add ∈ zU := zU_t 566 (by decide +kernel) rfl
theorem m_567 : Cond.instanceMethod yX2_add ∈ zU := zU_t 567 (by decide +kernel) rfl
theorem m_568 : Cond.selects RX2 yX2_add yX2_add ∈ zU := zU_t 568 (by decide +kernel) rfl
theorem m_569 : Cond.code yX2_add cX2_add 3 none ∈ zU := zU_t 569 (by decide +kernel) rfl
theorem m_570 : Cond.methodLink RX2 22 yX2_isFull ∈ zU := zU_t 570 (by decide +kernel) rfl
theorem m_571 : Cond.methodLink RX3 161 yX2_breaks ∈ zU := zU_t 571 (by decide +kernel) rfl
theorem m_572 : Cond.instanceMethod yX2_breaks ∈ zU := zU_t 572 (by decide +kernel) rfl
theorem m_573 : Cond.selects RX2 yX2_breaks yX2_breaks ∈ zU := zU_t 573 (by decide +kernel) rfl
theorem m_574 : Cond.code yX2_breaks cX2_breaks 4 (some .boolean) ∈ zU := zU_t 574 (by decide +kernel) rfl
theorem m_576 : Cond.methodLink RX2 30 yX0_sideBeyond ∈ zU := zU_t 576 (by decide +kernel) rfl
theorem m_577 : Cond.methodLink RX2 36 yX2_isOnOneSide ∈ zU := zU_t 577 (by decide +kernel) rfl
theorem m_579 : Cond.instanceMethod yX2_isOnOneSide ∈ zU := zU_t 579 (by decide +kernel) rfl
theorem m_580 : Cond.code yX2_isOnOneSide cX2_isOnOneSide 5 (some .boolean) ∈ zU := zU_t 580 (by decide +kernel) rfl
theorem m_581 : Cond.methodLink RX2 55 yX0_sideOfCenter ∈ zU := zU_t 581 (by decide +kernel) rfl
theorem m_582 : Cond.methodLink RX2 40 yX2_isSteady ∈ zU := zU_t 582 (by decide +kernel) rfl
theorem m_584 : Cond.instanceMethod yX2_isSteady ∈ zU := zU_t 584 (by decide +kernel) rfl
theorem m_585 : Cond.code yX2_isSteady cX2_isSteady 4 (some .boolean) ∈ zU := zU_t 585 (by decide +kernel) rfl
theorem m_587 : Cond.methodLink RX2 44 yX2_isTurning ∈ zU := zU_t 587 (by decide +kernel) rfl
theorem m_589 : Cond.instanceMethod yX2_isTurning ∈ zU := zU_t 589 (by decide +kernel) rfl
theorem m_590 : Cond.code yX2_isTurning cX2_isTurning 4 (some .boolean) ∈ zU := zU_t 590 (by decide +kernel) rfl
theorem m_591 : Cond.methodLink RX2 47 yX2_isOften ∈ zU := zU_t 591 (by decide +kernel) rfl
theorem m_593 : Cond.instanceMethod yX2_isOften ∈ zU := zU_t 593 (by decide +kernel) rfl
theorem m_594 : Cond.code yX2_isOften cX2_isOften 8 (some .boolean) ∈ zU := zU_t 594 (by decide +kernel) rfl
theorem m_595 : Cond.methodLink RX2 51 yX2_beyondSome ∈ zU := zU_t 595 (by decide +kernel) rfl
theorem m_597 : Cond.instanceMethod yX2_beyondSome ∈ zU := zU_t 597 (by decide +kernel) rfl
theorem m_598 : Cond.code yX2_beyondSome cX2_beyondSome 5 (some .int) ∈ zU := zU_t 598 (by decide +kernel) rfl
theorem m_599 : Cond.methodLink RL 151 yL_firstOf ∈ zU := zU_t 599 (by decide +kernel) rfl
theorem m_600 : Cond.static yL_firstOf ∈ zU := zU_t 600 (by decide +kernel) rfl
theorem m_601 : Cond.codeWith yL_firstOf cL_firstOf 5 (some .int) [(0, 10, 13, 28)] ∈ zU := zU_t 601 (by decide +kernel) rfl
theorem m_602 : Cond.methodLink RL 65 yX3_firstOf ∈ zU := zU_t 602 (by decide +kernel) rfl
theorem m_603 : Cond.instanceMethod yX3_firstOf ∈ zU := zU_t 603 (by decide +kernel) rfl
theorem m_604 : Cond.selects RX3 yX3_firstOf yX3_firstOf ∈ zU := zU_t 604 (by decide +kernel) rfl
theorem m_605 : Cond.code yX3_firstOf cX3_firstOf 4 (some .int) ∈ zU := zU_t 605 (by decide +kernel) rfl
theorem m_607 : Cond.methodLink RX3 170 yX3_pointsOfRule ∈ zU := zU_t 607 (by decide +kernel) rfl
theorem m_608 : Cond.methodLink RX3 174 yX2_subgroupAt ∈ zU := zU_t 608 (by decide +kernel) rfl
theorem m_609 : Cond.instanceMethod yX2_subgroupAt ∈ zU := zU_t 609 (by decide +kernel) rfl
theorem m_610 : Cond.selects RX2 yX2_subgroupAt yX2_subgroupAt ∈ zU := zU_t 610 (by decide +kernel) rfl
theorem m_611 : Cond.code yX2_subgroupAt cX2_subgroupAt 2 (some .int) ∈ zU := zU_t 611 (by decide +kernel) rfl
theorem m_612 : Cond.methodLink RL 154 yL_isWide ∈ zU := zU_t 612 (by decide +kernel) rfl
theorem m_613 : Cond.static yL_isWide ∈ zU := zU_t 613 (by decide +kernel) rfl
theorem m_614 : Cond.codeWith yL_isWide cL_isWide 4 (some .int) [(0, 16, 19, 28)] ∈ zU := zU_t 614 (by decide +kernel) rfl
theorem m_615 : Cond.methodLink RL 68 yX3_isWide ∈ zU := zU_t 615 (by decide +kernel) rfl
theorem m_616 : Cond.instanceMethod yX3_isWide ∈ zU := zU_t 616 (by decide +kernel) rfl
theorem m_617 : Cond.selects RX3 yX3_isWide yX3_isWide ∈ zU := zU_t 617 (by decide +kernel) rfl
theorem m_618 : Cond.code yX3_isWide cX3_isWide 2 (some .boolean) ∈ zU := zU_t 618 (by decide +kernel) rfl
theorem m_619 : Cond.methodLink RL 161 yL_setWeight ∈ zU := zU_t 619 (by decide +kernel) rfl
theorem m_620 : Cond.static yL_setWeight ∈ zU := zU_t 620 (by decide +kernel) rfl
theorem m_621 : Cond.codeWith yL_setWeight cL_setWeight 4 (some .int) [(0, 9, 12, 13)] ∈ zU := zU_t 621 (by decide +kernel) rfl
theorem m_622 : Cond.methodLink RL 71 yX3_setWeight ∈ zU := zU_t 622 (by decide +kernel) rfl
theorem m_623 : Cond.instanceMethod yX3_setWeight ∈ zU := zU_t 623 (by decide +kernel) rfl
theorem m_624 : Cond.selects RX3 yX3_setWeight yX3_setWeight ∈ zU := zU_t 624 (by decide +kernel) rfl
theorem m_625 : Cond.code yX3_setWeight cX3_setWeight 3 (some .int) ∈ zU := zU_t 625 (by decide +kernel) rfl
theorem m_627 : Cond.methodLink RL 164 yL_weighted ∈ zU := zU_t 627 (by decide +kernel) rfl
theorem m_628 : Cond.static yL_weighted ∈ zU := zU_t 628 (by decide +kernel) rfl
theorem m_629 : Cond.codeWith yL_weighted cL_weighted 4 (some .int) [(0, 9, 12, 28), (0, 9, 15, 19)] ∈ zU := zU_t 629 (by decide +kernel) rfl
theorem m_630 : Cond.methodLink RL 74 yX3_weighted ∈ zU := zU_t 630 (by decide +kernel) rfl
theorem m_631 : Cond.instanceMethod yX3_weighted ∈ zU := zU_t 631 (by decide +kernel) rfl
theorem m_632 : Cond.selects RX3 yX3_weighted yX3_weighted ∈ zU := zU_t 632 (by decide +kernel) rfl
theorem m_633 : Cond.code yX3_weighted cX3_weighted 5 (some .int) ∈ zU := zU_t 633 (by decide +kernel) rfl
theorem m_634 : Cond.methodLink RX3 182 yX3_checkPoint ∈ zU := zU_t 634 (by decide +kernel) rfl
theorem m_636 : Cond.instanceMethod yX3_checkPoint ∈ zU := zU_t 636 (by decide +kernel) rfl
theorem m_637 : Cond.code yX3_checkPoint cX3_checkPoint 2 none ∈ zU := zU_t 637 (by decide +kernel) rfl
theorem m_639 : Cond.methodLink RX3 185 yJ9_floorDiv_7cf53 ∈ zU := zU_t 639 (by decide +kernel) rfl
theorem m_640 : Cond.static yJ9_floorDiv_7cf53 ∈ zU := zU_t 640 (by decide +kernel) rfl
theorem m_641 : Cond.code yJ9_floorDiv_7cf53 cJ9_floorDiv_7cf53 3 (some .int) ∈ zU := zU_t 641 (by decide +kernel) rfl
theorem m_642 : Cond.methodLink RL 167 yL_cumulative ∈ zU := zU_t 642 (by decide +kernel) rfl
theorem m_643 : Cond.static yL_cumulative ∈ zU := zU_t 643 (by decide +kernel) rfl
theorem m_644 : Cond.codeWith yL_cumulative cL_cumulative 5 (some .int) [(0, 10, 13, 28), (0, 10, 17, 19)] ∈ zU := zU_t 644 (by decide +kernel) rfl
theorem m_645 : Cond.methodLink RL 77 yX3_cumulative ∈ zU := zU_t 645 (by decide +kernel) rfl
theorem m_646 : Cond.instanceMethod yX3_cumulative ∈ zU := zU_t 646 (by decide +kernel) rfl
theorem m_647 : Cond.selects RX3 yX3_cumulative yX3_cumulative ∈ zU := zU_t 647 (by decide +kernel) rfl
theorem m_648 : Cond.code yX3_cumulative cX3_cumulative 8 (some .int) ∈ zU := zU_t 648 (by decide +kernel) rfl
theorem m_649 : Cond.methodLink RL 171 yL_capability ∈ zU := zU_t 649 (by decide +kernel) rfl
theorem m_650 : Cond.static yL_capability ∈ zU := zU_t 650 (by decide +kernel) rfl
theorem m_651 : Cond.codeWith yL_capability cL_capability 7 (some .int) [(0, 13, 16, 28), (0, 13, 20, 13), (0, 13, 24, 19)] ∈ zU := zU_t 651 (by decide +kernel) rfl
theorem m_652 : Cond.methodLink RL 81 yX3_capability ∈ zU := zU_t 652 (by decide +kernel) rfl
theorem m_653 : Cond.instanceMethod yX3_capability ∈ zU := zU_t 653 (by decide +kernel) rfl
theorem m_654 : Cond.selects RX3 yX3_capability yX3_capability ∈ zU := zU_t 654 (by decide +kernel) rfl
theorem m_655 : Cond.code yX3_capability cX3_capability 12 (some .long) ∈ zU := zU_t 655 (by decide +kernel) rfl
theorem m_657 : Cond.fieldLink RX3 207 "ChartroomSpc" "SPREAD_DIVISORS" "[I" ∈ zU := zU_t 657 (by decide +kernel) rfl
theorem m_659 : Cond.methodLink RX3 210 yX3_bySize ∈ zU := zU_t 659 (by decide +kernel) rfl
theorem m_661 : Cond.constantLong RX3 220 (6) ∈ zU := zU_t 661 (by decide +kernel) rfl
theorem m_662 : Cond.methodLink RX3 222 yJ9_min_f86c9 ∈ zU := zU_t 662 (by decide +kernel) rfl
theorem m_663 : Cond.static yJ9_min_f86c9 ∈ zU := zU_t 663 (by decide +kernel) rfl
theorem m_664 : Cond.code yJ9_min_f86c9 cJ9_min_f86c9 4 (some .long) ∈ zU := zU_t 664 (by decide +kernel) rfl
theorem m_665 : Cond.constantLong RX3 225 (3) ∈ zU := zU_t 665 (by decide +kernel) rfl
theorem m_666 : Cond.classLink RL 86 RX4 ∈ zU := zU_t 666 (by decide +kernel) rfl
theorem m_667 : Cond.instantiable RX4 24 ∈ zU := zU_t 667 (by decide +kernel) rfl
theorem m_668 : Cond.methodLink RL 88 yX4_init ∈ zU := zU_t 668 (by decide +kernel) rfl
theorem m_669 : Cond.instanceMethod yX4_init ∈ zU := zU_t 669 (by decide +kernel) rfl
theorem m_670 : Cond.code yX4_init cX4_init 1 none ∈ zU := zU_t 670 (by decide +kernel) rfl
theorem m_671 : Cond.methodLink RX4 1 objectInit ∈ zU := zU_t 671 (by decide +kernel) rfl
theorem m_672 : Cond.fieldLink RX4 7 "ChartroomSpcModel" "size" "I" ∈ zU := zU_t 672 (by decide +kernel) rfl
theorem m_673 : Cond.fieldLink RX4 61 "ChartroomSpcModel" "done" "I" ∈ zU := zU_t 673 (by decide +kernel) rfl
theorem m_674 : Cond.fieldLink RX4 64 "ChartroomSpcModel" "begun" "I" ∈ zU := zU_t 674 (by decide +kernel) rfl
theorem m_675 : Cond.fieldLink RX4 67 "ChartroomSpcModel" "beginning" "I" ∈ zU := zU_t 675 (by decide +kernel) rfl
theorem m_676 : Cond.fieldLink RX4 70 "ChartroomSpcModel" "least" "I" ∈ zU := zU_t 676 (by decide +kernel) rfl
theorem m_677 : Cond.fieldLink RX4 73 "ChartroomSpcModel" "greatest" "I" ∈ zU := zU_t 677 (by decide +kernel) rfl
theorem m_678 : Cond.fieldLink RX4 13 "ChartroomSpcModel" "sum" "[I" ∈ zU := zU_t 678 (by decide +kernel) rfl
theorem m_679 : Cond.fieldLink RX4 17 "ChartroomSpcModel" "range" "[I" ∈ zU := zU_t 679 (by decide +kernel) rfl
theorem m_680 : Cond.fieldLink RX4 20 "ChartroomSpcModel" "reason" "[I" ∈ zU := zU_t 680 (by decide +kernel) rfl
theorem m_681 : Cond.fieldLink RX4 23 "ChartroomSpcModel" "phases" "I" ∈ zU := zU_t 681 (by decide +kernel) rfl
theorem m_682 : Cond.fieldLink RX4 26 "ChartroomSpcModel" "start" "[I" ∈ zU := zU_t 682 (by decide +kernel) rfl
theorem m_683 : Cond.fieldLink RX4 29 "ChartroomSpcModel" "frozen" "[Z" ∈ zU := zU_t 683 (by decide +kernel) rfl
theorem m_684 : Cond.fieldLink RX4 33 "ChartroomSpcModel" "keptCenter" "[I" ∈ zU := zU_t 684 (by decide +kernel) rfl
theorem m_685 : Cond.fieldLink RX4 36 "ChartroomSpcModel" "keptRange" "[I" ∈ zU := zU_t 685 (by decide +kernel) rfl
theorem m_686 : Cond.fieldLink RX4 39 "ChartroomSpcModel" "weight" "I" ∈ zU := zU_t 686 (by decide +kernel) rfl
theorem m_687 : Cond.fieldLink RX4 93 "ChartroomSpcModel" "limited" "Z" ∈ zU := zU_t 687 (by decide +kernel) rfl
theorem m_688 : Cond.fieldLink RX4 97 "ChartroomSpcModel" "center" "I" ∈ zU := zU_t 688 (by decide +kernel) rfl
theorem m_689 : Cond.fieldLink RX4 100 "ChartroomSpcModel" "meanRange" "I" ∈ zU := zU_t 689 (by decide +kernel) rfl
theorem m_690 : Cond.fieldLink RX4 107 "ChartroomSpcModel" "width" "I" ∈ zU := zU_t 690 (by decide +kernel) rfl
theorem m_691 : Cond.fieldLink RX4 110 "ChartroomSpcModel" "rangeLimit" "I" ∈ zU := zU_t 691 (by decide +kernel) rfl
theorem m_692 : Cond.fieldLink RX4 76 "ChartroomSpcModel" "many" "I" ∈ zU := zU_t 692 (by decide +kernel) rfl
theorem m_693 : Cond.fieldLink RX4 42 "ChartroomSpcModel" "point" "[I" ∈ zU := zU_t 693 (by decide +kernel) rfl
theorem m_694 : Cond.fieldLink RX4 45 "ChartroomSpcModel" "x" "[I" ∈ zU := zU_t 694 (by decide +kernel) rfl
theorem m_695 : Cond.fieldLink RX4 48 "ChartroomSpcModel" "thrown" "I" ∈ zU := zU_t 695 (by decide +kernel) rfl
theorem m_696 : Cond.lays RX4 "ChartroomSpcModel" "size" "I" ∈ zU := zU_t 696 (by decide +kernel) rfl
theorem m_698 : Cond.lays RX4 "ChartroomSpcModel" "done" "I" ∈ zU := zU_t 698 (by decide +kernel) rfl
theorem m_700 : Cond.lays RX4 "ChartroomSpcModel" "begun" "I" ∈ zU := zU_t 700 (by decide +kernel) rfl
theorem m_702 : Cond.lays RX4 "ChartroomSpcModel" "beginning" "I" ∈ zU := zU_t 702 (by decide +kernel) rfl
theorem m_704 : Cond.lays RX4 "ChartroomSpcModel" "least" "I" ∈ zU := zU_t 704 (by decide +kernel) rfl
theorem m_706 : Cond.lays RX4 "ChartroomSpcModel" "greatest" "I" ∈ zU := zU_t 706 (by decide +kernel) rfl
theorem m_708 : Cond.laysFinal RX4 "ChartroomSpcModel" "sum" "[I" ∈ zU := zU_t 708 (by decide +kernel) rfl
theorem m_710 : Cond.laysFinal RX4 "ChartroomSpcModel" "range" "[I" ∈ zU := zU_t 710 (by decide +kernel) rfl
theorem m_712 : Cond.laysFinal RX4 "ChartroomSpcModel" "reason" "[I" ∈ zU := zU_t 712 (by decide +kernel) rfl
theorem m_714 : Cond.lays RX4 "ChartroomSpcModel" "phases" "I" ∈ zU := zU_t 714 (by decide +kernel) rfl
theorem m_716 : Cond.laysFinal RX4 "ChartroomSpcModel" "start" "[I" ∈ zU := zU_t 716 (by decide +kernel) rfl
theorem m_718 : Cond.laysFinal RX4 "ChartroomSpcModel" "frozen" "[Z" ∈ zU := zU_t 718 (by decide +kernel) rfl
theorem m_720 : Cond.laysFinal RX4 "ChartroomSpcModel" "keptCenter" "[I" ∈ zU := zU_t 720 (by decide +kernel) rfl
theorem m_722 : Cond.laysFinal RX4 "ChartroomSpcModel" "keptRange" "[I" ∈ zU := zU_t 722 (by decide +kernel) rfl
theorem m_724 : Cond.lays RX4 "ChartroomSpcModel" "weight" "I" ∈ zU := zU_t 724 (by decide +kernel) rfl
theorem m_726 : Cond.lays RX4 "ChartroomSpcModel" "limited" "Z" ∈ zU := zU_t 726 (by decide +kernel) rfl
theorem m_728 : Cond.lays RX4 "ChartroomSpcModel" "center" "I" ∈ zU := zU_t 728 (by decide +kernel) rfl
theorem m_730 : Cond.lays RX4 "ChartroomSpcModel" "meanRange" "I" ∈ zU := zU_t 730 (by decide +kernel) rfl
theorem m_732 : Cond.lays RX4 "ChartroomSpcModel" "width" "I" ∈ zU := zU_t 732 (by decide +kernel) rfl
theorem m_734 : Cond.lays RX4 "ChartroomSpcModel" "rangeLimit" "I" ∈ zU := zU_t 734 (by decide +kernel) rfl
theorem m_736 : Cond.lays RX4 "ChartroomSpcModel" "many" "I" ∈ zU := zU_t 736 (by decide +kernel) rfl
theorem m_738 : Cond.laysFinal RX4 "ChartroomSpcModel" "point" "[I" ∈ zU := zU_t 738 (by decide +kernel) rfl
theorem m_740 : Cond.laysFinal RX4 "ChartroomSpcModel" "x" "[I" ∈ zU := zU_t 740 (by decide +kernel) rfl
theorem m_742 : Cond.lays RX4 "ChartroomSpcModel" "thrown" "I" ∈ zU := zU_t 742 (by decide +kernel) rfl
theorem m_745 : Cond.arrayClass .boolean ∈ zU := zU_t 745 (by decide +kernel) rfl
theorem m_746 : Cond.methodLink RL 95 yX4_thrown ∈ zU := zU_t 746 (by decide +kernel) rfl
theorem m_747 : Cond.instanceMethod yX4_thrown ∈ zU := zU_t 747 (by decide +kernel) rfl
theorem m_748 : Cond.selects RX4 yX4_thrown yX4_thrown ∈ zU := zU_t 748 (by decide +kernel) rfl
theorem m_749 : Cond.code yX4_thrown cX4_thrown 1 (some .int) ∈ zU := zU_t 749 (by decide +kernel) rfl
theorem m_750 : Cond.methodLink RL 94 yX4_begin ∈ zU := zU_t 750 (by decide +kernel) rfl
theorem m_751 : Cond.instanceMethod yX4_begin ∈ zU := zU_t 751 (by decide +kernel) rfl
theorem m_752 : Cond.selects RX4 yX4_begin yX4_begin ∈ zU := zU_t 752 (by decide +kernel) rfl
theorem m_753 : Cond.code yX4_begin cX4_begin 3 none ∈ zU := zU_t 753 (by decide +kernel) rfl
theorem m_754 : Cond.methodLink RX4 57 yX4_isIn ∈ zU := zU_t 754 (by decide +kernel) rfl
theorem m_755 : Cond.static yX4_isIn ∈ zU := zU_t 755 (by decide +kernel) rfl
theorem m_756 : Cond.code yX4_isIn cX4_isIn 3 (some .boolean) ∈ zU := zU_t 756 (by decide +kernel) rfl
theorem m_757 : Cond.methodLink RL 101 yX4_put ∈ zU := zU_t 757 (by decide +kernel) rfl
theorem m_758 : Cond.instanceMethod yX4_put ∈ zU := zU_t 758 (by decide +kernel) rfl
theorem m_759 : Cond.selects RX4 yX4_put yX4_put ∈ zU := zU_t 759 (by decide +kernel) rfl
theorem m_760 : Cond.code yX4_put cX4_put 2 (some .boolean) ∈ zU := zU_t 760 (by decide +kernel) rfl
theorem m_761 : Cond.methodLink RL 105 yX4_newPhase ∈ zU := zU_t 761 (by decide +kernel) rfl
theorem m_762 : Cond.instanceMethod yX4_newPhase ∈ zU := zU_t 762 (by decide +kernel) rfl
theorem m_763 : Cond.selects RX4 yX4_newPhase yX4_newPhase ∈ zU := zU_t 763 (by decide +kernel) rfl
theorem m_764 : Cond.code yX4_newPhase cX4_newPhase 1 (some .int) ∈ zU := zU_t 764 (by decide +kernel) rfl
theorem m_765 : Cond.methodLink RL 108 yX4_freeze ∈ zU := zU_t 765 (by decide +kernel) rfl
theorem m_766 : Cond.instanceMethod yX4_freeze ∈ zU := zU_t 766 (by decide +kernel) rfl
theorem m_767 : Cond.selects RX4 yX4_freeze yX4_freeze ∈ zU := zU_t 767 (by decide +kernel) rfl
theorem m_768 : Cond.code yX4_freeze cX4_freeze 2 none ∈ zU := zU_t 768 (by decide +kernel) rfl
theorem m_769 : Cond.methodLink RX4 113 yX4_isPhase ∈ zU := zU_t 769 (by decide +kernel) rfl
theorem m_771 : Cond.instanceMethod yX4_isPhase ∈ zU := zU_t 771 (by decide +kernel) rfl
theorem m_772 : Cond.code yX4_isPhase cX4_isPhase 2 (some .boolean) ∈ zU := zU_t 772 (by decide +kernel) rfl
theorem m_773 : Cond.methodLink RX4 117 yX4_laysLimits ∈ zU := zU_t 773 (by decide +kernel) rfl
theorem m_775 : Cond.instanceMethod yX4_laysLimits ∈ zU := zU_t 775 (by decide +kernel) rfl
theorem m_776 : Cond.code yX4_laysLimits cX4_laysLimits 7 none ∈ zU := zU_t 776 (by decide +kernel) rfl
theorem m_777 : Cond.methodLink RX4 89 yX4_laysPoints ∈ zU := zU_t 777 (by decide +kernel) rfl
theorem m_779 : Cond.instanceMethod yX4_laysPoints ∈ zU := zU_t 779 (by decide +kernel) rfl
theorem m_780 : Cond.code yX4_laysPoints cX4_laysPoints 4 none ∈ zU := zU_t 780 (by decide +kernel) rfl
theorem m_781 : Cond.methodLink RX4 79 yX4_phase ∈ zU := zU_t 781 (by decide +kernel) rfl
theorem m_783 : Cond.instanceMethod yX4_phase ∈ zU := zU_t 783 (by decide +kernel) rfl
theorem m_784 : Cond.code yX4_phase cX4_phase 4 (some .int) ∈ zU := zU_t 784 (by decide +kernel) rfl
theorem m_785 : Cond.constantLong RX4 83 (1000) ∈ zU := zU_t 785 (by decide +kernel) rfl
theorem m_786 : Cond.methodLink RX4 85 yX4_rounded ∈ zU := zU_t 786 (by decide +kernel) rfl
theorem m_787 : Cond.static yX4_rounded ∈ zU := zU_t 787 (by decide +kernel) rfl
theorem m_788 : Cond.code yX4_rounded cX4_rounded 4 (some .int) ∈ zU := zU_t 788 (by decide +kernel) rfl
theorem m_789 : Cond.constantLong RX4 51 (2) ∈ zU := zU_t 789 (by decide +kernel) rfl
theorem m_790 : Cond.methodLink RX4 53 yX4_floored ∈ zU := zU_t 790 (by decide +kernel) rfl
theorem m_791 : Cond.static yX4_floored ∈ zU := zU_t 791 (by decide +kernel) rfl
theorem m_792 : Cond.code yX4_floored cX4_floored 6 (some .long) ∈ zU := zU_t 792 (by decide +kernel) rfl
theorem m_793 : Cond.methodLink RX4 103 yX4_factor ∈ zU := zU_t 793 (by decide +kernel) rfl
theorem m_794 : Cond.static yX4_factor ∈ zU := zU_t 794 (by decide +kernel) rfl
theorem m_795 : Cond.code yX4_factor cX4_factor 6 (some .int) ∈ zU := zU_t 795 (by decide +kernel) rfl
theorem m_796 : Cond.methodLink RL 111 yX4_thaw ∈ zU := zU_t 796 (by decide +kernel) rfl
theorem m_797 : Cond.instanceMethod yX4_thaw ∈ zU := zU_t 797 (by decide +kernel) rfl
theorem m_798 : Cond.selects RX4 yX4_thaw yX4_thaw ∈ zU := zU_t 798 (by decide +kernel) rfl
theorem m_799 : Cond.code yX4_thaw cX4_thaw 2 none ∈ zU := zU_t 799 (by decide +kernel) rfl
theorem m_800 : Cond.methodLink RL 115 yX4_exclude ∈ zU := zU_t 800 (by decide +kernel) rfl
theorem m_801 : Cond.instanceMethod yX4_exclude ∈ zU := zU_t 801 (by decide +kernel) rfl
theorem m_802 : Cond.selects RX4 yX4_exclude yX4_exclude ∈ zU := zU_t 802 (by decide +kernel) rfl
theorem m_803 : Cond.code yX4_exclude cX4_exclude 4 (some .int) ∈ zU := zU_t 803 (by decide +kernel) rfl
theorem m_804 : Cond.methodLink RX4 121 yX4_isDone ∈ zU := zU_t 804 (by decide +kernel) rfl
theorem m_806 : Cond.instanceMethod yX4_isDone ∈ zU := zU_t 806 (by decide +kernel) rfl
theorem m_807 : Cond.code yX4_isDone cX4_isDone 2 (some .boolean) ∈ zU := zU_t 807 (by decide +kernel) rfl
theorem m_808 : Cond.methodLink RL 119 yX4_subgroups ∈ zU := zU_t 808 (by decide +kernel) rfl
theorem m_809 : Cond.instanceMethod yX4_subgroups ∈ zU := zU_t 809 (by decide +kernel) rfl
theorem m_810 : Cond.selects RX4 yX4_subgroups yX4_subgroups ∈ zU := zU_t 810 (by decide +kernel) rfl
theorem m_811 : Cond.code yX4_subgroups cX4_subgroups 1 (some .int) ∈ zU := zU_t 811 (by decide +kernel) rfl
theorem m_812 : Cond.methodLink RL 123 yX4_phases ∈ zU := zU_t 812 (by decide +kernel) rfl
theorem m_813 : Cond.instanceMethod yX4_phases ∈ zU := zU_t 813 (by decide +kernel) rfl
theorem m_814 : Cond.selects RX4 yX4_phases yX4_phases ∈ zU := zU_t 814 (by decide +kernel) rfl
theorem m_815 : Cond.code yX4_phases cX4_phases 1 (some .int) ∈ zU := zU_t 815 (by decide +kernel) rfl
theorem m_816 : Cond.methodLink RL 126 yX4_mean ∈ zU := zU_t 816 (by decide +kernel) rfl
theorem m_817 : Cond.instanceMethod yX4_mean ∈ zU := zU_t 817 (by decide +kernel) rfl
theorem m_818 : Cond.selects RX4 yX4_mean yX4_mean ∈ zU := zU_t 818 (by decide +kernel) rfl
theorem m_819 : Cond.code yX4_mean cX4_mean 2 (some .int) ∈ zU := zU_t 819 (by decide +kernel) rfl
theorem m_820 : Cond.methodLink RL 129 yX4_range ∈ zU := zU_t 820 (by decide +kernel) rfl
theorem m_821 : Cond.instanceMethod yX4_range ∈ zU := zU_t 821 (by decide +kernel) rfl
theorem m_822 : Cond.selects RX4 yX4_range yX4_range ∈ zU := zU_t 822 (by decide +kernel) rfl
theorem m_823 : Cond.code yX4_range cX4_range 2 (some .int) ∈ zU := zU_t 823 (by decide +kernel) rfl
theorem m_824 : Cond.methodLink RL 132 yX4_phaseOf ∈ zU := zU_t 824 (by decide +kernel) rfl
theorem m_825 : Cond.instanceMethod yX4_phaseOf ∈ zU := zU_t 825 (by decide +kernel) rfl
theorem m_826 : Cond.selects RX4 yX4_phaseOf yX4_phaseOf ∈ zU := zU_t 826 (by decide +kernel) rfl
theorem m_827 : Cond.code yX4_phaseOf cX4_phaseOf 2 (some .int) ∈ zU := zU_t 827 (by decide +kernel) rfl
theorem m_828 : Cond.methodLink RL 135 yX4_points ∈ zU := zU_t 828 (by decide +kernel) rfl
theorem m_829 : Cond.instanceMethod yX4_points ∈ zU := zU_t 829 (by decide +kernel) rfl
theorem m_830 : Cond.selects RX4 yX4_points yX4_points ∈ zU := zU_t 830 (by decide +kernel) rfl
theorem m_831 : Cond.code yX4_points cX4_points 2 (some .int) ∈ zU := zU_t 831 (by decide +kernel) rfl
theorem m_832 : Cond.methodLink RL 138 yX4_center ∈ zU := zU_t 832 (by decide +kernel) rfl
theorem m_833 : Cond.instanceMethod yX4_center ∈ zU := zU_t 833 (by decide +kernel) rfl
theorem m_834 : Cond.selects RX4 yX4_center yX4_center ∈ zU := zU_t 834 (by decide +kernel) rfl
theorem m_835 : Cond.code yX4_center cX4_center 2 (some .int) ∈ zU := zU_t 835 (by decide +kernel) rfl
theorem m_836 : Cond.methodLink RX4 124 yX4_isLimited ∈ zU := zU_t 836 (by decide +kernel) rfl
theorem m_838 : Cond.instanceMethod yX4_isLimited ∈ zU := zU_t 838 (by decide +kernel) rfl
theorem m_839 : Cond.code yX4_isLimited cX4_isLimited 2 (some .boolean) ∈ zU := zU_t 839 (by decide +kernel) rfl
theorem m_840 : Cond.methodLink RL 141 yX4_width ∈ zU := zU_t 840 (by decide +kernel) rfl
theorem m_841 : Cond.instanceMethod yX4_width ∈ zU := zU_t 841 (by decide +kernel) rfl
theorem m_842 : Cond.selects RX4 yX4_width yX4_width ∈ zU := zU_t 842 (by decide +kernel) rfl
theorem m_843 : Cond.code yX4_width cX4_width 2 (some .int) ∈ zU := zU_t 843 (by decide +kernel) rfl
theorem m_844 : Cond.methodLink RL 144 yX4_rangeLimit ∈ zU := zU_t 844 (by decide +kernel) rfl
theorem m_845 : Cond.instanceMethod yX4_rangeLimit ∈ zU := zU_t 845 (by decide +kernel) rfl
theorem m_846 : Cond.selects RX4 yX4_rangeLimit yX4_rangeLimit ∈ zU := zU_t 846 (by decide +kernel) rfl
theorem m_847 : Cond.code yX4_rangeLimit cX4_rangeLimit 2 (some .int) ∈ zU := zU_t 847 (by decide +kernel) rfl
theorem m_848 : Cond.methodLink RL 147 yX4_signals ∈ zU := zU_t 848 (by decide +kernel) rfl
theorem m_849 : Cond.instanceMethod yX4_signals ∈ zU := zU_t 849 (by decide +kernel) rfl
theorem m_850 : Cond.selects RX4 yX4_signals yX4_signals ∈ zU := zU_t 850 (by decide +kernel) rfl
theorem m_851 : Cond.code yX4_signals cX4_signals 2 (some .int) ∈ zU := zU_t 851 (by decide +kernel) rfl
theorem m_852 : Cond.methodLink RX4 157 yX4_broken ∈ zU := zU_t 852 (by decide +kernel) rfl
theorem m_854 : Cond.instanceMethod yX4_broken ∈ zU := zU_t 854 (by decide +kernel) rfl
theorem m_855 : Cond.code yX4_broken cX4_broken 4 (some .int) ∈ zU := zU_t 855 (by decide +kernel) rfl
theorem m_856 : Cond.methodLink RX4 153 yX4_breaks ∈ zU := zU_t 856 (by decide +kernel) rfl
theorem m_858 : Cond.instanceMethod yX4_breaks ∈ zU := zU_t 858 (by decide +kernel) rfl
theorem m_859 : Cond.code yX4_breaks cX4_breaks 3 (some .boolean) ∈ zU := zU_t 859 (by decide +kernel) rfl
theorem m_860 : Cond.methodLink RX4 135 yX4_named ∈ zU := zU_t 860 (by decide +kernel) rfl
theorem m_861 : Cond.static yX4_named ∈ zU := zU_t 861 (by decide +kernel) rfl
theorem m_862 : Cond.code yX4_named cX4_named 1 (some .int) ∈ zU := zU_t 862 (by decide +kernel) rfl
theorem m_863 : Cond.methodLink RX4 132 yX4_isBeyond ∈ zU := zU_t 863 (by decide +kernel) rfl
theorem m_865 : Cond.instanceMethod yX4_isBeyond ∈ zU := zU_t 865 (by decide +kernel) rfl
theorem m_866 : Cond.code yX4_isBeyond cX4_isBeyond 4 (some .boolean) ∈ zU := zU_t 866 (by decide +kernel) rfl
theorem m_867 : Cond.constantLong RX4 127 (3) ∈ zU := zU_t 867 (by decide +kernel) rfl
theorem m_868 : Cond.methodLink RX4 129 yX4_back ∈ zU := zU_t 868 (by decide +kernel) rfl
theorem m_870 : Cond.instanceMethod yX4_back ∈ zU := zU_t 870 (by decide +kernel) rfl
theorem m_871 : Cond.code yX4_back cX4_back 2 (some .int) ∈ zU := zU_t 871 (by decide +kernel) rfl
theorem m_872 : Cond.methodLink RX4 138 yX4_aboveOf ∈ zU := zU_t 872 (by decide +kernel) rfl
theorem m_874 : Cond.instanceMethod yX4_aboveOf ∈ zU := zU_t 874 (by decide +kernel) rfl
theorem m_875 : Cond.code yX4_aboveOf cX4_aboveOf 5 (some .int) ∈ zU := zU_t 875 (by decide +kernel) rfl
theorem m_876 : Cond.methodLink RX4 142 yX4_steps ∈ zU := zU_t 876 (by decide +kernel) rfl
theorem m_878 : Cond.instanceMethod yX4_steps ∈ zU := zU_t 878 (by decide +kernel) rfl
theorem m_879 : Cond.code yX4_steps cX4_steps 5 (some .int) ∈ zU := zU_t 879 (by decide +kernel) rfl
theorem m_880 : Cond.methodLink RX4 145 yX4_isTurning ∈ zU := zU_t 880 (by decide +kernel) rfl
theorem m_882 : Cond.instanceMethod yX4_isTurning ∈ zU := zU_t 882 (by decide +kernel) rfl
theorem m_883 : Cond.code yX4_isTurning cX4_isTurning 3 (some .boolean) ∈ zU := zU_t 883 (by decide +kernel) rfl
theorem m_884 : Cond.methodLink RX4 149 yX4_beyond ∈ zU := zU_t 884 (by decide +kernel) rfl
theorem m_886 : Cond.instanceMethod yX4_beyond ∈ zU := zU_t 886 (by decide +kernel) rfl
theorem m_887 : Cond.code yX4_beyond cX4_beyond 6 (some .int) ∈ zU := zU_t 887 (by decide +kernel) rfl
theorem m_888 : Cond.methodLink RL 150 yX4_signalsByWindows ∈ zU := zU_t 888 (by decide +kernel) rfl
theorem m_889 : Cond.instanceMethod yX4_signalsByWindows ∈ zU := zU_t 889 (by decide +kernel) rfl
theorem m_890 : Cond.selects RX4 yX4_signalsByWindows yX4_signalsByWindows ∈ zU := zU_t 890 (by decide +kernel) rfl
theorem m_891 : Cond.code yX4_signalsByWindows cX4_signalsByWindows 2 (some .int) ∈ zU := zU_t 891 (by decide +kernel) rfl
theorem m_892 : Cond.methodLink RL 153 yX4_firstOf ∈ zU := zU_t 892 (by decide +kernel) rfl
theorem m_893 : Cond.instanceMethod yX4_firstOf ∈ zU := zU_t 893 (by decide +kernel) rfl
theorem m_894 : Cond.selects RX4 yX4_firstOf yX4_firstOf ∈ zU := zU_t 894 (by decide +kernel) rfl
theorem m_895 : Cond.code yX4_firstOf cX4_firstOf 3 (some .int) ∈ zU := zU_t 895 (by decide +kernel) rfl
theorem m_896 : Cond.methodLink RL 156 yX4_isWide ∈ zU := zU_t 896 (by decide +kernel) rfl
theorem m_897 : Cond.instanceMethod yX4_isWide ∈ zU := zU_t 897 (by decide +kernel) rfl
theorem m_898 : Cond.selects RX4 yX4_isWide yX4_isWide ∈ zU := zU_t 898 (by decide +kernel) rfl
theorem m_899 : Cond.code yX4_isWide cX4_isWide 2 (some .boolean) ∈ zU := zU_t 899 (by decide +kernel) rfl
theorem m_900 : Cond.methodLink RL 160 yX4_alarms ∈ zU := zU_t 900 (by decide +kernel) rfl
theorem m_901 : Cond.instanceMethod yX4_alarms ∈ zU := zU_t 901 (by decide +kernel) rfl
theorem m_902 : Cond.selects RX4 yX4_alarms yX4_alarms ∈ zU := zU_t 902 (by decide +kernel) rfl
theorem m_903 : Cond.code yX4_alarms cX4_alarms 3 (some .int) ∈ zU := zU_t 903 (by decide +kernel) rfl
theorem m_904 : Cond.methodLink RL 163 yX4_setWeight ∈ zU := zU_t 904 (by decide +kernel) rfl
theorem m_905 : Cond.instanceMethod yX4_setWeight ∈ zU := zU_t 905 (by decide +kernel) rfl
theorem m_906 : Cond.selects RX4 yX4_setWeight yX4_setWeight ∈ zU := zU_t 906 (by decide +kernel) rfl
theorem m_907 : Cond.code yX4_setWeight cX4_setWeight 3 (some .int) ∈ zU := zU_t 907 (by decide +kernel) rfl
theorem m_908 : Cond.methodLink RL 166 yX4_weighted ∈ zU := zU_t 908 (by decide +kernel) rfl
theorem m_909 : Cond.instanceMethod yX4_weighted ∈ zU := zU_t 909 (by decide +kernel) rfl
theorem m_910 : Cond.selects RX4 yX4_weighted yX4_weighted ∈ zU := zU_t 910 (by decide +kernel) rfl
theorem m_911 : Cond.code yX4_weighted cX4_weighted 5 (some .int) ∈ zU := zU_t 911 (by decide +kernel) rfl
theorem m_912 : Cond.methodLink RX4 160 yX4_isPoint ∈ zU := zU_t 912 (by decide +kernel) rfl
theorem m_914 : Cond.instanceMethod yX4_isPoint ∈ zU := zU_t 914 (by decide +kernel) rfl
theorem m_915 : Cond.code yX4_isPoint cX4_isPoint 2 (some .boolean) ∈ zU := zU_t 915 (by decide +kernel) rfl
theorem m_916 : Cond.constantLong RX4 163 (10) ∈ zU := zU_t 916 (by decide +kernel) rfl
theorem m_917 : Cond.methodLink RL 170 yX4_cumulative ∈ zU := zU_t 917 (by decide +kernel) rfl
theorem m_918 : Cond.instanceMethod yX4_cumulative ∈ zU := zU_t 918 (by decide +kernel) rfl
theorem m_919 : Cond.selects RX4 yX4_cumulative yX4_cumulative ∈ zU := zU_t 919 (by decide +kernel) rfl
theorem m_920 : Cond.code yX4_cumulative cX4_cumulative 7 (some .int) ∈ zU := zU_t 920 (by decide +kernel) rfl
theorem m_921 : Cond.methodLink RL 174 yX4_capability ∈ zU := zU_t 921 (by decide +kernel) rfl
theorem m_922 : Cond.instanceMethod yX4_capability ∈ zU := zU_t 922 (by decide +kernel) rfl
theorem m_923 : Cond.selects RX4 yX4_capability yX4_capability ∈ zU := zU_t 923 (by decide +kernel) rfl
theorem m_924 : Cond.code yX4_capability cX4_capability 13 (some .long) ∈ zU := zU_t 924 (by decide +kernel) rfl
theorem m_925 : Cond.constantLong RX4 165 (6) ∈ zU := zU_t 925 (by decide +kernel) rfl
theorem m_926 : Cond.arrayClass .long ∈ zU := zU_t 926 (by decide +kernel) rfl
theorem mp_0 : Cond.selects RX3 yX3_restart yX3_restart ∈ zU := zU_s 0 (q := (yX3_restart, 16)) (by decide +kernel)
theorem mp_1 : Cond.selects RX3 yX3_isPoint yX3_isPoint ∈ zU := zU_s 1 (q := (yX3_isPoint, 16)) (by decide +kernel)
theorem mp_2 : Cond.selects RX3 yX3_phaseHolding yX3_phaseHolding ∈ zU := zU_s 2 (q := (yX3_phaseHolding, 16)) (by decide +kernel)
theorem mp_3 : Cond.selects RX1 yX1_takeCenterSide yX1_takeCenterSide ∈ zU := zU_s 3 (q := (yX1_takeCenterSide, 16)) (by decide +kernel)
theorem mp_4 : Cond.selects RX1 yX1_takeDirection yX1_takeDirection ∈ zU := zU_s 4 (q := (yX1_takeDirection, 16)) (by decide +kernel)
theorem mp_5 : Cond.selects RX1 yX1_takeSidesBeyond yX1_takeSidesBeyond ∈ zU := zU_s 5 (q := (yX1_takeSidesBeyond, 16)) (by decide +kernel)
theorem mp_7 : Cond.selects RX3 yX3_takeMeasurement yX3_takeMeasurement ∈ zU := zU_s 7 (q := (yX3_takeMeasurement, 16)) (by decide +kernel)
theorem mp_8 : Cond.selects RX3 yX3_finishSubgroup yX3_finishSubgroup ∈ zU := zU_s 8 (q := (yX3_finishSubgroup, 16)) (by decide +kernel)
theorem mp_9 : Cond.selects RX3 yX3_countPoint yX3_countPoint ∈ zU := zU_s 9 (q := (yX3_countPoint, 16)) (by decide +kernel)
theorem mp_10 : Cond.selects RX3 yX3_lastPhase yX3_lastPhase ∈ zU := zU_s 10 (q := (yX3_lastPhase, 16)) (by decide +kernel)
theorem mp_11 : Cond.selects RX3 yX3_findPhase yX3_findPhase ∈ zU := zU_s 11 (q := (yX3_findPhase, 16)) (by decide +kernel)
theorem mp_12 : Cond.selects RX3 yX3_checkSubgroup yX3_checkSubgroup ∈ zU := zU_s 12 (q := (yX3_checkSubgroup, 16)) (by decide +kernel)
theorem mp_13 : Cond.selects RX3 yX3_findLimits yX3_findLimits ∈ zU := zU_s 13 (q := (yX3_findLimits, 16)) (by decide +kernel)
theorem mp_14 : Cond.selects RX3 yX3_lookBack yX3_lookBack ∈ zU := zU_s 14 (q := (yX3_lookBack, 16)) (by decide +kernel)
theorem mp_15 : Cond.selects RX2 yX2_isOnOneSide yX2_isOnOneSide ∈ zU := zU_s 15 (q := (yX2_isOnOneSide, 3)) (by decide +kernel)
theorem mp_16 : Cond.selects RX2 yX2_isSteady yX2_isSteady ∈ zU := zU_s 16 (q := (yX2_isSteady, 3)) (by decide +kernel)
theorem mp_17 : Cond.selects RX2 yX2_isTurning yX2_isTurning ∈ zU := zU_s 17 (q := (yX2_isTurning, 3)) (by decide +kernel)
theorem mp_18 : Cond.selects RX2 yX2_isOften yX2_isOften ∈ zU := zU_s 18 (q := (yX2_isOften, 3)) (by decide +kernel)
theorem mp_19 : Cond.selects RX2 yX2_beyondSome yX2_beyondSome ∈ zU := zU_s 19 (q := (yX2_beyondSome, 3)) (by decide +kernel)
theorem mp_20 : Cond.selects RX3 yX3_checkPoint yX3_checkPoint ∈ zU := zU_s 20 (q := (yX3_checkPoint, 16)) (by decide +kernel)
theorem mp_21 : Cond.selects RX4 yX4_isPhase yX4_isPhase ∈ zU := zU_s 21 (q := (yX4_isPhase, 24)) (by decide +kernel)
theorem mp_22 : Cond.selects RX4 yX4_laysLimits yX4_laysLimits ∈ zU := zU_s 22 (q := (yX4_laysLimits, 24)) (by decide +kernel)
theorem mp_23 : Cond.selects RX4 yX4_laysPoints yX4_laysPoints ∈ zU := zU_s 23 (q := (yX4_laysPoints, 24)) (by decide +kernel)
theorem mp_24 : Cond.selects RX4 yX4_phase yX4_phase ∈ zU := zU_s 24 (q := (yX4_phase, 24)) (by decide +kernel)
theorem mp_25 : Cond.selects RX4 yX4_isDone yX4_isDone ∈ zU := zU_s 25 (q := (yX4_isDone, 24)) (by decide +kernel)
theorem mp_26 : Cond.selects RX4 yX4_isLimited yX4_isLimited ∈ zU := zU_s 26 (q := (yX4_isLimited, 24)) (by decide +kernel)
theorem mp_27 : Cond.selects RX4 yX4_broken yX4_broken ∈ zU := zU_s 27 (q := (yX4_broken, 24)) (by decide +kernel)
theorem mp_28 : Cond.selects RX4 yX4_breaks yX4_breaks ∈ zU := zU_s 28 (q := (yX4_breaks, 24)) (by decide +kernel)
theorem mp_29 : Cond.selects RX4 yX4_isBeyond yX4_isBeyond ∈ zU := zU_s 29 (q := (yX4_isBeyond, 24)) (by decide +kernel)
theorem mp_30 : Cond.selects RX4 yX4_back yX4_back ∈ zU := zU_s 30 (q := (yX4_back, 24)) (by decide +kernel)
theorem mp_31 : Cond.selects RX4 yX4_aboveOf yX4_aboveOf ∈ zU := zU_s 31 (q := (yX4_aboveOf, 24)) (by decide +kernel)
theorem mp_32 : Cond.selects RX4 yX4_steps yX4_steps ∈ zU := zU_s 32 (q := (yX4_steps, 24)) (by decide +kernel)
theorem mp_33 : Cond.selects RX4 yX4_isTurning yX4_isTurning ∈ zU := zU_s 33 (q := (yX4_isTurning, 24)) (by decide +kernel)
theorem mp_34 : Cond.selects RX4 yX4_beyond yX4_beyond ∈ zU := zU_s 34 (q := (yX4_beyond, 24)) (by decide +kernel)
theorem mp_35 : Cond.selects RX4 yX4_isPoint yX4_isPoint ∈ zU := zU_s 35 (q := (yX4_isPoint, 24)) (by decide +kernel)
theorem in_0 : ∀ w ∈ u_ws RX0 TX0 9, w ∈ zU := by
  intro w hw
  obtain ⟨k, hk, rfl⟩ := List.mem_map.mp hw
  have hk := List.mem_range.mp hk
  match k, hk with
  | 0, _ => exact m_47
  | 1, _ => exact m_49
  | 2, _ => exact m_51
  | 3, _ => exact m_53
  | 4, _ => exact m_55
  | 5, _ => exact m_57
  | 6, _ => exact m_59
  | 7, _ => exact m_61
  | 8, _ => exact m_63
  | k + 9, hk => exact absurd hk (by omega)
theorem in_1 : ∀ w ∈ u_ws RX1 TX1 16, w ∈ zU := by
  intro w hw
  obtain ⟨k, hk, rfl⟩ := List.mem_map.mp hw
  have hk := List.mem_range.mp hk
  match k, hk with
  | 0, _ => exact m_89
  | 1, _ => exact m_91
  | 2, _ => exact m_93
  | 3, _ => exact m_95
  | 4, _ => exact m_97
  | 5, _ => exact m_99
  | 6, _ => exact m_101
  | 7, _ => exact m_103
  | 8, _ => exact m_105
  | 9, _ => exact m_107
  | 10, _ => exact m_109
  | 11, _ => exact m_111
  | 12, _ => exact m_113
  | 13, _ => exact m_115
  | 14, _ => exact m_117
  | 15, _ => exact m_119
  | k + 16, hk => exact absurd hk (by omega)
theorem in_2 : ∀ w ∈ u_ws RX2 TX2 3, w ∈ zU := by
  intro w hw
  obtain ⟨k, hk, rfl⟩ := List.mem_map.mp hw
  have hk := List.mem_range.mp hk
  match k, hk with
  | 0, _ => exact m_131
  | 1, _ => exact m_133
  | 2, _ => exact m_135
  | k + 3, hk => exact absurd hk (by omega)
theorem in_3 : ∀ w ∈ u_ws RX3 TX3 16, w ∈ zU := by
  intro w hw
  obtain ⟨k, hk, rfl⟩ := List.mem_map.mp hw
  have hk := List.mem_range.mp hk
  match k, hk with
  | 0, _ => exact m_162
  | 1, _ => exact m_164
  | 2, _ => exact m_166
  | 3, _ => exact m_168
  | 4, _ => exact m_170
  | 5, _ => exact m_172
  | 6, _ => exact m_174
  | 7, _ => exact m_176
  | 8, _ => exact m_178
  | 9, _ => exact m_180
  | 10, _ => exact m_182
  | 11, _ => exact m_184
  | 12, _ => exact m_186
  | 13, _ => exact m_188
  | 14, _ => exact m_190
  | 15, _ => exact m_192
  | k + 16, hk => exact absurd hk (by omega)
theorem in_4 : ∀ w ∈ u_ws RX4 TX4 24, w ∈ zU := by
  intro w hw
  obtain ⟨k, hk, rfl⟩ := List.mem_map.mp hw
  have hk := List.mem_range.mp hk
  match k, hk with
  | 0, _ => exact m_696
  | 1, _ => exact m_698
  | 2, _ => exact m_700
  | 3, _ => exact m_702
  | 4, _ => exact m_704
  | 5, _ => exact m_706
  | 6, _ => exact m_708
  | 7, _ => exact m_710
  | 8, _ => exact m_712
  | 9, _ => exact m_714
  | 10, _ => exact m_716
  | 11, _ => exact m_718
  | 12, _ => exact m_720
  | 13, _ => exact m_722
  | 14, _ => exact m_724
  | 15, _ => exact m_726
  | 16, _ => exact m_728
  | 17, _ => exact m_730
  | 18, _ => exact m_732
  | 19, _ => exact m_734
  | 20, _ => exact m_736
  | 21, _ => exact m_738
  | 22, _ => exact m_740
  | 23, _ => exact m_742
  | k + 24, hk => exact absurd hk (by omega)
end
section
theorem dX0_init_0 : decode cX0_init 0 = .ok (.aload_n 0, 1) := by decide +kernel
theorem dX0_init_1 : decode cX0_init 1 = .ok (.invokespecial 1, 3) := by decide +kernel
theorem dX0_init_4 : decode cX0_init 4 = .ok (.return_, 1) := by decide +kernel
theorem dX0_restart_0 : decode cX0_restart 0 = .ok (.aload_n 0, 1) := by decide +kernel
theorem dX0_restart_1 : decode cX0_restart 1 = .ok (.iload_n 1, 1) := by decide +kernel
theorem dX0_restart_2 : decode cX0_restart 2 = .ok (.putfield 7, 3) := by decide +kernel
theorem dX0_restart_5 : decode cX0_restart 5 = .ok (.aload_n 0, 1) := by decide +kernel
theorem dX0_restart_6 : decode cX0_restart 6 = .ok (.iconst 0, 1) := by decide +kernel
theorem dX0_restart_7 : decode cX0_restart 7 = .ok (.putfield 13, 3) := by decide +kernel
theorem dX0_restart_10 : decode cX0_restart 10 = .ok (.aload_n 0, 1) := by decide +kernel
theorem dX0_restart_11 : decode cX0_restart 11 = .ok (.iconst 0, 1) := by decide +kernel
theorem dX0_restart_12 : decode cX0_restart 12 = .ok (.putfield 16, 3) := by decide +kernel
theorem dX0_restart_15 : decode cX0_restart 15 = .ok (.aload_n 0, 1) := by decide +kernel
theorem dX0_restart_16 : decode cX0_restart 16 = .ok (.iconst 0, 1) := by decide +kernel
theorem dX0_restart_17 : decode cX0_restart 17 = .ok (.putfield 19, 3) := by decide +kernel
theorem dX0_restart_20 : decode cX0_restart 20 = .ok (.aload_n 0, 1) := by decide +kernel
theorem dX0_restart_21 : decode cX0_restart 21 = .ok (.iconst 0, 1) := by decide +kernel
theorem dX0_restart_22 : decode cX0_restart 22 = .ok (.putfield 22, 3) := by decide +kernel
theorem dX0_restart_25 : decode cX0_restart 25 = .ok (.return_, 1) := by decide +kernel
theorem dX0_hasLimits_0 : decode cX0_hasLimits 0 = .ok (.aload_n 0, 1) := by decide +kernel
theorem dX0_hasLimits_1 : decode cX0_hasLimits 1 = .ok (.getfield 22, 3) := by decide +kernel
theorem dX0_hasLimits_4 : decode cX0_hasLimits 4 = .ok (.ifCond .ne 10, 3) := by decide +kernel
theorem dX0_hasLimits_7 : decode cX0_hasLimits 7 = .ok (.aload_n 0, 1) := by decide +kernel
theorem dX0_hasLimits_8 : decode cX0_hasLimits 8 = .ok (.getfield 13, 3) := by decide +kernel
theorem dX0_hasLimits_11 : decode cX0_hasLimits 11 = .ok (.ifCond .le 7, 3) := by decide +kernel
theorem dX0_hasLimits_14 : decode cX0_hasLimits 14 = .ok (.iconst 1, 1) := by decide +kernel
theorem dX0_hasLimits_15 : decode cX0_hasLimits 15 = .ok (.goto 4, 3) := by decide +kernel
theorem dX0_hasLimits_18 : decode cX0_hasLimits 18 = .ok (.iconst 0, 1) := by decide +kernel
theorem dX0_hasLimits_19 : decode cX0_hasLimits 19 = .ok (.ireturn, 1) := by decide +kernel
theorem dX0_settle_0 : decode cX0_settle 0 = .ok (.aload_n 0, 1) := by decide +kernel
theorem dX0_settle_1 : decode cX0_settle 1 = .ok (.getfield 22, 3) := by decide +kernel
theorem dX0_settle_4 : decode cX0_settle 4 = .ok (.ifCond .ne 10, 3) := by decide +kernel
theorem dX0_settle_7 : decode cX0_settle 7 = .ok (.aload_n 0, 1) := by decide +kernel
theorem dX0_settle_8 : decode cX0_settle 8 = .ok (.getfield 13, 3) := by decide +kernel
theorem dX0_settle_11 : decode cX0_settle 11 = .ok (.ifCond .ne 4, 3) := by decide +kernel
theorem dX0_settle_14 : decode cX0_settle 14 = .ok (.return_, 1) := by decide +kernel
theorem dX0_settle_15 : decode cX0_settle 15 = .ok (.aload_n 0, 1) := by decide +kernel
theorem dX0_settle_16 : decode cX0_settle 16 = .ok (.ldc2_w 26, 3) := by decide +kernel
theorem dX0_settle_19 : decode cX0_settle 19 = .ok (.aload_n 0, 1) := by decide +kernel
theorem dX0_settle_20 : decode cX0_settle 20 = .ok (.getfield 16, 3) := by decide +kernel
theorem dX0_settle_23 : decode cX0_settle 23 = .ok (.i2l, 1) := by decide +kernel
theorem dX0_settle_24 : decode cX0_settle 24 = .ok (.lmul, 1) := by decide +kernel
theorem dX0_settle_25 : decode cX0_settle 25 = .ok (.iload_n 1, 1) := by decide +kernel
theorem dX0_settle_26 : decode cX0_settle 26 = .ok (.i2l, 1) := by decide +kernel
theorem dX0_settle_27 : decode cX0_settle 27 = .ok (.aload_n 0, 1) := by decide +kernel
theorem dX0_settle_28 : decode cX0_settle 28 = .ok (.getfield 13, 3) := by decide +kernel
theorem dX0_settle_31 : decode cX0_settle 31 = .ok (.i2l, 1) := by decide +kernel
theorem dX0_settle_32 : decode cX0_settle 32 = .ok (.lmul, 1) := by decide +kernel
theorem dX0_settle_33 : decode cX0_settle 33 = .ok (.invokestatic 28, 3) := by decide +kernel
theorem dX0_settle_36 : decode cX0_settle 36 = .ok (.l2i, 1) := by decide +kernel
theorem dX0_settle_37 : decode cX0_settle 37 = .ok (.putfield 34, 3) := by decide +kernel
theorem dX0_settle_40 : decode cX0_settle 40 = .ok (.ldc2_w 26, 3) := by decide +kernel
theorem dX0_settle_43 : decode cX0_settle 43 = .ok (.aload_n 0, 1) := by decide +kernel
theorem dX0_settle_44 : decode cX0_settle 44 = .ok (.getfield 19, 3) := by decide +kernel
theorem dX0_settle_47 : decode cX0_settle 47 = .ok (.i2l, 1) := by decide +kernel
theorem dX0_settle_48 : decode cX0_settle 48 = .ok (.lmul, 1) := by decide +kernel
theorem dX0_settle_49 : decode cX0_settle 49 = .ok (.aload_n 0, 1) := by decide +kernel
theorem dX0_settle_50 : decode cX0_settle 50 = .ok (.getfield 13, 3) := by decide +kernel
theorem dX0_settle_53 : decode cX0_settle 53 = .ok (.i2l, 1) := by decide +kernel
theorem dX0_settle_54 : decode cX0_settle 54 = .ok (.invokestatic 28, 3) := by decide +kernel
theorem dX0_settle_57 : decode cX0_settle 57 = .ok (.lstore_n 2, 1) := by decide +kernel
theorem dX0_settle_58 : decode cX0_settle 58 = .ok (.aload_n 0, 1) := by decide +kernel
theorem dX0_settle_59 : decode cX0_settle 59 = .ok (.lload_n 2, 1) := by decide +kernel
theorem dX0_settle_60 : decode cX0_settle 60 = .ok (.l2i, 1) := by decide +kernel
theorem dX0_settle_61 : decode cX0_settle 61 = .ok (.putfield 37, 3) := by decide +kernel
theorem dX0_settle_64 : decode cX0_settle 64 = .ok (.aload_n 0, 1) := by decide +kernel
theorem dX0_settle_65 : decode cX0_settle 65 = .ok (.getstatic 40, 3) := by decide +kernel
theorem dX0_settle_68 : decode cX0_settle 68 = .ok (.iload_n 1, 1) := by decide +kernel
theorem dX0_settle_69 : decode cX0_settle 69 = .ok (.invokestatic 44, 3) := by decide +kernel
theorem dX0_settle_72 : decode cX0_settle 72 = .ok (.i2l, 1) := by decide +kernel
theorem dX0_settle_73 : decode cX0_settle 73 = .ok (.lload_n 2, 1) := by decide +kernel
theorem dX0_settle_74 : decode cX0_settle 74 = .ok (.lmul, 1) := by decide +kernel
theorem dX0_settle_75 : decode cX0_settle 75 = .ok (.ldc2_w 26, 3) := by decide +kernel
theorem dX0_settle_78 : decode cX0_settle 78 = .ok (.invokestatic 28, 3) := by decide +kernel
theorem dX0_settle_81 : decode cX0_settle 81 = .ok (.l2i, 1) := by decide +kernel
theorem dX0_settle_82 : decode cX0_settle 82 = .ok (.putfield 48, 3) := by decide +kernel
theorem dX0_settle_85 : decode cX0_settle 85 = .ok (.aload_n 0, 1) := by decide +kernel
theorem dX0_settle_86 : decode cX0_settle 86 = .ok (.getstatic 51, 3) := by decide +kernel
theorem dX0_settle_89 : decode cX0_settle 89 = .ok (.iload_n 1, 1) := by decide +kernel
theorem dX0_settle_90 : decode cX0_settle 90 = .ok (.invokestatic 44, 3) := by decide +kernel
theorem dX0_settle_93 : decode cX0_settle 93 = .ok (.i2l, 1) := by decide +kernel
theorem dX0_settle_94 : decode cX0_settle 94 = .ok (.lload_n 2, 1) := by decide +kernel
theorem dX0_settle_95 : decode cX0_settle 95 = .ok (.lmul, 1) := by decide +kernel
theorem dX0_settle_96 : decode cX0_settle 96 = .ok (.ldc2_w 26, 3) := by decide +kernel
theorem dX0_settle_99 : decode cX0_settle 99 = .ok (.invokestatic 28, 3) := by decide +kernel
theorem dX0_settle_102 : decode cX0_settle 102 = .ok (.l2i, 1) := by decide +kernel
theorem dX0_settle_103 : decode cX0_settle 103 = .ok (.putfield 54, 3) := by decide +kernel
theorem dX0_settle_106 : decode cX0_settle 106 = .ok (.return_, 1) := by decide +kernel
theorem dX0_sideOfCenter_0 : decode cX0_sideOfCenter 0 = .ok (.aload_n 0, 1) := by decide +kernel
theorem dX0_sideOfCenter_1 : decode cX0_sideOfCenter 1 = .ok (.getfield 34, 3) := by decide +kernel
theorem dX0_sideOfCenter_4 : decode cX0_sideOfCenter 4 = .ok (.iload_n 1, 1) := by decide +kernel
theorem dX0_sideOfCenter_5 : decode cX0_sideOfCenter 5 = .ok (.invokestatic 57, 3) := by decide +kernel
theorem dX0_sideOfCenter_8 : decode cX0_sideOfCenter 8 = .ok (.ireturn, 1) := by decide +kernel
theorem dX0_sideBeyond_0 : decode cX0_sideBeyond 0 = .ok (.iconst 3, 1) := by decide +kernel
theorem dX0_sideBeyond_1 : decode cX0_sideBeyond 1 = .ok (.iload_n 1, 1) := by decide +kernel
theorem dX0_sideBeyond_2 : decode cX0_sideBeyond 2 = .ok (.aload_n 0, 1) := by decide +kernel
theorem dX0_sideBeyond_3 : decode cX0_sideBeyond 3 = .ok (.getfield 34, 3) := by decide +kernel
theorem dX0_sideBeyond_6 : decode cX0_sideBeyond 6 = .ok (.isub, 1) := by decide +kernel
theorem dX0_sideBeyond_7 : decode cX0_sideBeyond 7 = .ok (.imul, 1) := by decide +kernel
theorem dX0_sideBeyond_8 : decode cX0_sideBeyond 8 = .ok (.iload_n 2, 1) := by decide +kernel
theorem dX0_sideBeyond_9 : decode cX0_sideBeyond 9 = .ok (.aload_n 0, 1) := by decide +kernel
theorem dX0_sideBeyond_10 : decode cX0_sideBeyond 10 = .ok (.getfield 48, 3) := by decide +kernel
theorem dX0_sideBeyond_13 : decode cX0_sideBeyond 13 = .ok (.imul, 1) := by decide +kernel
theorem dX0_sideBeyond_14 : decode cX0_sideBeyond 14 = .ok (.if_icmp .le 5, 3) := by decide +kernel
theorem dX0_sideBeyond_17 : decode cX0_sideBeyond 17 = .ok (.iconst 1, 1) := by decide +kernel
theorem dX0_sideBeyond_18 : decode cX0_sideBeyond 18 = .ok (.ireturn, 1) := by decide +kernel
theorem dX0_sideBeyond_19 : decode cX0_sideBeyond 19 = .ok (.iconst 3, 1) := by decide +kernel
theorem dX0_sideBeyond_20 : decode cX0_sideBeyond 20 = .ok (.aload_n 0, 1) := by decide +kernel
theorem dX0_sideBeyond_21 : decode cX0_sideBeyond 21 = .ok (.getfield 34, 3) := by decide +kernel
theorem dX0_sideBeyond_24 : decode cX0_sideBeyond 24 = .ok (.iload_n 1, 1) := by decide +kernel
theorem dX0_sideBeyond_25 : decode cX0_sideBeyond 25 = .ok (.isub, 1) := by decide +kernel
theorem dX0_sideBeyond_26 : decode cX0_sideBeyond 26 = .ok (.imul, 1) := by decide +kernel
theorem dX0_sideBeyond_27 : decode cX0_sideBeyond 27 = .ok (.iload_n 2, 1) := by decide +kernel
theorem dX0_sideBeyond_28 : decode cX0_sideBeyond 28 = .ok (.aload_n 0, 1) := by decide +kernel
theorem dX0_sideBeyond_29 : decode cX0_sideBeyond 29 = .ok (.getfield 48, 3) := by decide +kernel
theorem dX0_sideBeyond_32 : decode cX0_sideBeyond 32 = .ok (.imul, 1) := by decide +kernel
theorem dX0_sideBeyond_33 : decode cX0_sideBeyond 33 = .ok (.if_icmp .le 7, 3) := by decide +kernel
theorem dX0_sideBeyond_36 : decode cX0_sideBeyond 36 = .ok (.iconst (-1), 1) := by decide +kernel
theorem dX0_sideBeyond_37 : decode cX0_sideBeyond 37 = .ok (.goto 4, 3) := by decide +kernel
theorem dX0_sideBeyond_40 : decode cX0_sideBeyond 40 = .ok (.iconst 0, 1) := by decide +kernel
theorem dX0_sideBeyond_41 : decode cX0_sideBeyond 41 = .ok (.ireturn, 1) := by decide +kernel
theorem dX1_init_0 : decode cX1_init 0 = .ok (.aload_n 0, 1) := by decide +kernel
theorem dX1_init_1 : decode cX1_init 1 = .ok (.invokespecial 1, 3) := by decide +kernel
theorem dX1_init_4 : decode cX1_init 4 = .ok (.return_, 1) := by decide +kernel
theorem dX1_restart_0 : decode cX1_restart 0 = .ok (.aload_n 0, 1) := by decide +kernel
theorem dX1_restart_1 : decode cX1_restart 1 = .ok (.iconst 0, 1) := by decide +kernel
theorem dX1_restart_2 : decode cX1_restart 2 = .ok (.putfield 7, 3) := by decide +kernel
theorem dX1_restart_5 : decode cX1_restart 5 = .ok (.aload_n 0, 1) := by decide +kernel
theorem dX1_restart_6 : decode cX1_restart 6 = .ok (.iconst 0, 1) := by decide +kernel
theorem dX1_restart_7 : decode cX1_restart 7 = .ok (.putfield 13, 3) := by decide +kernel
theorem dX1_restart_10 : decode cX1_restart 10 = .ok (.aload_n 0, 1) := by decide +kernel
theorem dX1_restart_11 : decode cX1_restart 11 = .ok (.iconst 0, 1) := by decide +kernel
theorem dX1_restart_12 : decode cX1_restart 12 = .ok (.putfield 16, 3) := by decide +kernel
theorem dX1_restart_15 : decode cX1_restart 15 = .ok (.aload_n 0, 1) := by decide +kernel
theorem dX1_restart_16 : decode cX1_restart 16 = .ok (.iconst 0, 1) := by decide +kernel
theorem dX1_restart_17 : decode cX1_restart 17 = .ok (.putfield 19, 3) := by decide +kernel
theorem dX1_restart_20 : decode cX1_restart 20 = .ok (.aload_n 0, 1) := by decide +kernel
theorem dX1_restart_21 : decode cX1_restart 21 = .ok (.iconst 0, 1) := by decide +kernel
theorem dX1_restart_22 : decode cX1_restart 22 = .ok (.putfield 22, 3) := by decide +kernel
theorem dX1_restart_25 : decode cX1_restart 25 = .ok (.aload_n 0, 1) := by decide +kernel
theorem dX1_restart_26 : decode cX1_restart 26 = .ok (.iconst 0, 1) := by decide +kernel
theorem dX1_restart_27 : decode cX1_restart 27 = .ok (.putfield 25, 3) := by decide +kernel
theorem dX1_restart_30 : decode cX1_restart 30 = .ok (.aload_n 0, 1) := by decide +kernel
theorem dX1_restart_31 : decode cX1_restart 31 = .ok (.iconst 0, 1) := by decide +kernel
theorem dX1_restart_32 : decode cX1_restart 32 = .ok (.putfield 28, 3) := by decide +kernel
theorem dX1_restart_35 : decode cX1_restart 35 = .ok (.aload_n 0, 1) := by decide +kernel
theorem dX1_restart_36 : decode cX1_restart 36 = .ok (.iconst 0, 1) := by decide +kernel
theorem dX1_restart_37 : decode cX1_restart 37 = .ok (.putfield 31, 3) := by decide +kernel
theorem dX1_restart_40 : decode cX1_restart 40 = .ok (.aload_n 0, 1) := by decide +kernel
theorem dX1_restart_41 : decode cX1_restart 41 = .ok (.iconst 0, 1) := by decide +kernel
theorem dX1_restart_42 : decode cX1_restart 42 = .ok (.putfield 34, 3) := by decide +kernel
theorem dX1_restart_45 : decode cX1_restart 45 = .ok (.aload_n 0, 1) := by decide +kernel
theorem dX1_restart_46 : decode cX1_restart 46 = .ok (.iconst 0, 1) := by decide +kernel
theorem dX1_restart_47 : decode cX1_restart 47 = .ok (.putfield 37, 3) := by decide +kernel
theorem dX1_restart_50 : decode cX1_restart 50 = .ok (.aload_n 0, 1) := by decide +kernel
theorem dX1_restart_51 : decode cX1_restart 51 = .ok (.iconst 0, 1) := by decide +kernel
theorem dX1_restart_52 : decode cX1_restart 52 = .ok (.putfield 40, 3) := by decide +kernel
theorem dX1_restart_55 : decode cX1_restart 55 = .ok (.aload_n 0, 1) := by decide +kernel
theorem dX1_restart_56 : decode cX1_restart 56 = .ok (.iconst 0, 1) := by decide +kernel
theorem dX1_restart_57 : decode cX1_restart 57 = .ok (.putfield 43, 3) := by decide +kernel
theorem dX1_restart_60 : decode cX1_restart 60 = .ok (.aload_n 0, 1) := by decide +kernel
theorem dX1_restart_61 : decode cX1_restart 61 = .ok (.iconst 0, 1) := by decide +kernel
theorem dX1_restart_62 : decode cX1_restart 62 = .ok (.putfield 46, 3) := by decide +kernel
theorem dX1_restart_65 : decode cX1_restart 65 = .ok (.aload_n 0, 1) := by decide +kernel
theorem dX1_restart_66 : decode cX1_restart 66 = .ok (.iconst 0, 1) := by decide +kernel
theorem dX1_restart_67 : decode cX1_restart 67 = .ok (.putfield 49, 3) := by decide +kernel
theorem dX1_restart_70 : decode cX1_restart 70 = .ok (.aload_n 0, 1) := by decide +kernel
theorem dX1_restart_71 : decode cX1_restart 71 = .ok (.iconst 0, 1) := by decide +kernel
theorem dX1_restart_72 : decode cX1_restart 72 = .ok (.putfield 52, 3) := by decide +kernel
theorem dX1_restart_75 : decode cX1_restart 75 = .ok (.aload_n 0, 1) := by decide +kernel
theorem dX1_restart_76 : decode cX1_restart 76 = .ok (.iconst 0, 1) := by decide +kernel
theorem dX1_restart_77 : decode cX1_restart 77 = .ok (.putfield 55, 3) := by decide +kernel
theorem dX1_restart_80 : decode cX1_restart 80 = .ok (.return_, 1) := by decide +kernel
theorem dX1_take_0 : decode cX1_take 0 = .ok (.aload_n 0, 1) := by decide +kernel
theorem dX1_take_1 : decode cX1_take 1 = .ok (.aload_n 2, 1) := by decide +kernel
theorem dX1_take_2 : decode cX1_take 2 = .ok (.iload_n 1, 1) := by decide +kernel
theorem dX1_take_3 : decode cX1_take 3 = .ok (.invokevirtual 58, 3) := by decide +kernel
theorem dX1_take_6 : decode cX1_take 6 = .ok (.invokevirtual 64, 3) := by decide +kernel
theorem dX1_take_9 : decode cX1_take 9 = .ok (.aload_n 0, 1) := by decide +kernel
theorem dX1_take_10 : decode cX1_take 10 = .ok (.aload_n 0, 1) := by decide +kernel
theorem dX1_take_11 : decode cX1_take 11 = .ok (.getfield 7, 3) := by decide +kernel
theorem dX1_take_14 : decode cX1_take 14 = .ok (.ifCond .ne 7, 3) := by decide +kernel
theorem dX1_take_17 : decode cX1_take 17 = .ok (.iconst 0, 1) := by decide +kernel
theorem dX1_take_18 : decode cX1_take 18 = .ok (.goto 11, 3) := by decide +kernel
theorem dX1_take_21 : decode cX1_take 21 = .ok (.aload_n 0, 1) := by decide +kernel
theorem dX1_take_22 : decode cX1_take 22 = .ok (.getfield 13, 3) := by decide +kernel
theorem dX1_take_25 : decode cX1_take 25 = .ok (.iload_n 1, 1) := by decide +kernel
theorem dX1_take_26 : decode cX1_take 26 = .ok (.invokestatic 68, 3) := by decide +kernel
theorem dX1_take_29 : decode cX1_take 29 = .ok (.invokevirtual 74, 3) := by decide +kernel
theorem dX1_take_32 : decode cX1_take 32 = .ok (.aload_n 0, 1) := by decide +kernel
theorem dX1_take_33 : decode cX1_take 33 = .ok (.iload_n 1, 1) := by decide +kernel
theorem dX1_take_34 : decode cX1_take 34 = .ok (.aload_n 2, 1) := by decide +kernel
theorem dX1_take_35 : decode cX1_take 35 = .ok (.invokevirtual 77, 3) := by decide +kernel
theorem dX1_take_38 : decode cX1_take 38 = .ok (.aload_n 0, 1) := by decide +kernel
theorem dX1_take_39 : decode cX1_take 39 = .ok (.iload_n 1, 1) := by decide +kernel
theorem dX1_take_40 : decode cX1_take 40 = .ok (.putfield 13, 3) := by decide +kernel
theorem dX1_take_43 : decode cX1_take 43 = .ok (.aload_n 0, 1) := by decide +kernel
theorem dX1_take_44 : decode cX1_take 44 = .ok (.dup, 1) := by decide +kernel
theorem dX1_take_45 : decode cX1_take 45 = .ok (.getfield 7, 3) := by decide +kernel
theorem dX1_take_48 : decode cX1_take 48 = .ok (.iconst 1, 1) := by decide +kernel
theorem dX1_take_49 : decode cX1_take 49 = .ok (.iadd, 1) := by decide +kernel
theorem dX1_take_50 : decode cX1_take 50 = .ok (.putfield 7, 3) := by decide +kernel
theorem dX1_take_53 : decode cX1_take 53 = .ok (.return_, 1) := by decide +kernel
theorem dX1_takeCenterSide_0 : decode cX1_takeCenterSide 0 = .ok (.aload_n 0, 1) := by decide +kernel
theorem dX1_takeCenterSide_1 : decode cX1_takeCenterSide 1 = .ok (.iload_n 1, 1) := by decide +kernel
theorem dX1_takeCenterSide_2 : decode cX1_takeCenterSide 2 = .ok (.ifCond .ne 7, 3) := by decide +kernel
theorem dX1_takeCenterSide_5 : decode cX1_takeCenterSide 5 = .ok (.iconst 0, 1) := by decide +kernel
theorem dX1_takeCenterSide_6 : decode cX1_takeCenterSide 6 = .ok (.goto 21, 3) := by decide +kernel
theorem dX1_takeCenterSide_9 : decode cX1_takeCenterSide 9 = .ok (.iload_n 1, 1) := by decide +kernel
theorem dX1_takeCenterSide_10 : decode cX1_takeCenterSide 10 = .ok (.aload_n 0, 1) := by decide +kernel
theorem dX1_takeCenterSide_11 : decode cX1_takeCenterSide 11 = .ok (.getfield 19, 3) := by decide +kernel
theorem dX1_takeCenterSide_14 : decode cX1_takeCenterSide 14 = .ok (.if_icmp .ne 12, 3) := by decide +kernel
theorem dX1_takeCenterSide_17 : decode cX1_takeCenterSide 17 = .ok (.aload_n 0, 1) := by decide +kernel
theorem dX1_takeCenterSide_18 : decode cX1_takeCenterSide 18 = .ok (.getfield 22, 3) := by decide +kernel
theorem dX1_takeCenterSide_21 : decode cX1_takeCenterSide 21 = .ok (.iconst 1, 1) := by decide +kernel
theorem dX1_takeCenterSide_22 : decode cX1_takeCenterSide 22 = .ok (.iadd, 1) := by decide +kernel
theorem dX1_takeCenterSide_23 : decode cX1_takeCenterSide 23 = .ok (.goto 4, 3) := by decide +kernel
theorem dX1_takeCenterSide_26 : decode cX1_takeCenterSide 26 = .ok (.iconst 1, 1) := by decide +kernel
theorem dX1_takeCenterSide_27 : decode cX1_takeCenterSide 27 = .ok (.putfield 22, 3) := by decide +kernel
theorem dX1_takeCenterSide_30 : decode cX1_takeCenterSide 30 = .ok (.aload_n 0, 1) := by decide +kernel
theorem dX1_takeCenterSide_31 : decode cX1_takeCenterSide 31 = .ok (.iload_n 1, 1) := by decide +kernel
theorem dX1_takeCenterSide_32 : decode cX1_takeCenterSide 32 = .ok (.putfield 19, 3) := by decide +kernel
theorem dX1_takeCenterSide_35 : decode cX1_takeCenterSide 35 = .ok (.return_, 1) := by decide +kernel
theorem dX1_takeDirection_0 : decode cX1_takeDirection 0 = .ok (.iload_n 1, 1) := by decide +kernel
theorem dX1_takeDirection_1 : decode cX1_takeDirection 1 = .ok (.ifCond .ne 16, 3) := by decide +kernel
theorem dX1_takeDirection_4 : decode cX1_takeDirection 4 = .ok (.aload_n 0, 1) := by decide +kernel
theorem dX1_takeDirection_5 : decode cX1_takeDirection 5 = .ok (.iconst 1, 1) := by decide +kernel
theorem dX1_takeDirection_6 : decode cX1_takeDirection 6 = .ok (.putfield 25, 3) := by decide +kernel
theorem dX1_takeDirection_9 : decode cX1_takeDirection 9 = .ok (.aload_n 0, 1) := by decide +kernel
theorem dX1_takeDirection_10 : decode cX1_takeDirection 10 = .ok (.iconst 1, 1) := by decide +kernel
theorem dX1_takeDirection_11 : decode cX1_takeDirection 11 = .ok (.putfield 28, 3) := by decide +kernel
theorem dX1_takeDirection_14 : decode cX1_takeDirection 14 = .ok (.goto 48, 3) := by decide +kernel
theorem dX1_takeDirection_17 : decode cX1_takeDirection 17 = .ok (.aload_n 0, 1) := by decide +kernel
theorem dX1_takeDirection_18 : decode cX1_takeDirection 18 = .ok (.iload_n 1, 1) := by decide +kernel
theorem dX1_takeDirection_19 : decode cX1_takeDirection 19 = .ok (.aload_n 0, 1) := by decide +kernel
theorem dX1_takeDirection_20 : decode cX1_takeDirection 20 = .ok (.getfield 16, 3) := by decide +kernel
theorem dX1_takeDirection_23 : decode cX1_takeDirection 23 = .ok (.if_icmp .ne 12, 3) := by decide +kernel
theorem dX1_takeDirection_26 : decode cX1_takeDirection 26 = .ok (.aload_n 0, 1) := by decide +kernel
theorem dX1_takeDirection_27 : decode cX1_takeDirection 27 = .ok (.getfield 25, 3) := by decide +kernel
theorem dX1_takeDirection_30 : decode cX1_takeDirection 30 = .ok (.iconst 1, 1) := by decide +kernel
theorem dX1_takeDirection_31 : decode cX1_takeDirection 31 = .ok (.iadd, 1) := by decide +kernel
theorem dX1_takeDirection_32 : decode cX1_takeDirection 32 = .ok (.goto 4, 3) := by decide +kernel
theorem dX1_takeDirection_35 : decode cX1_takeDirection 35 = .ok (.iconst 2, 1) := by decide +kernel
theorem dX1_takeDirection_36 : decode cX1_takeDirection 36 = .ok (.putfield 25, 3) := by decide +kernel
theorem dX1_takeDirection_39 : decode cX1_takeDirection 39 = .ok (.aload_n 0, 1) := by decide +kernel
theorem dX1_takeDirection_40 : decode cX1_takeDirection 40 = .ok (.iload_n 1, 1) := by decide +kernel
theorem dX1_takeDirection_41 : decode cX1_takeDirection 41 = .ok (.aload_n 0, 1) := by decide +kernel
theorem dX1_takeDirection_42 : decode cX1_takeDirection 42 = .ok (.getfield 16, 3) := by decide +kernel
theorem dX1_takeDirection_45 : decode cX1_takeDirection 45 = .ok (.ineg, 1) := by decide +kernel
theorem dX1_takeDirection_46 : decode cX1_takeDirection 46 = .ok (.if_icmp .ne 12, 3) := by decide +kernel
theorem dX1_takeDirection_49 : decode cX1_takeDirection 49 = .ok (.aload_n 0, 1) := by decide +kernel
theorem dX1_takeDirection_50 : decode cX1_takeDirection 50 = .ok (.getfield 28, 3) := by decide +kernel
theorem dX1_takeDirection_53 : decode cX1_takeDirection 53 = .ok (.iconst 1, 1) := by decide +kernel
theorem dX1_takeDirection_54 : decode cX1_takeDirection 54 = .ok (.iadd, 1) := by decide +kernel
theorem dX1_takeDirection_55 : decode cX1_takeDirection 55 = .ok (.goto 4, 3) := by decide +kernel
theorem dX1_takeDirection_58 : decode cX1_takeDirection 58 = .ok (.iconst 2, 1) := by decide +kernel
theorem dX1_takeDirection_59 : decode cX1_takeDirection 59 = .ok (.putfield 28, 3) := by decide +kernel
theorem dX1_takeDirection_62 : decode cX1_takeDirection 62 = .ok (.aload_n 0, 1) := by decide +kernel
theorem dX1_takeDirection_63 : decode cX1_takeDirection 63 = .ok (.iload_n 1, 1) := by decide +kernel
theorem dX1_takeDirection_64 : decode cX1_takeDirection 64 = .ok (.putfield 16, 3) := by decide +kernel
theorem dX1_takeDirection_67 : decode cX1_takeDirection 67 = .ok (.return_, 1) := by decide +kernel
theorem dX1_takeSidesBeyond_0 : decode cX1_takeSidesBeyond 0 = .ok (.aload_n 0, 1) := by decide +kernel
theorem dX1_takeSidesBeyond_1 : decode cX1_takeSidesBeyond 1 = .ok (.aload_n 2, 1) := by decide +kernel
theorem dX1_takeSidesBeyond_2 : decode cX1_takeSidesBeyond 2 = .ok (.iload_n 1, 1) := by decide +kernel
theorem dX1_takeSidesBeyond_3 : decode cX1_takeSidesBeyond 3 = .ok (.iconst 3, 1) := by decide +kernel
theorem dX1_takeSidesBeyond_4 : decode cX1_takeSidesBeyond 4 = .ok (.invokevirtual 81, 3) := by decide +kernel
theorem dX1_takeSidesBeyond_7 : decode cX1_takeSidesBeyond 7 = .ok (.putfield 49, 3) := by decide +kernel
theorem dX1_takeSidesBeyond_10 : decode cX1_takeSidesBeyond 10 = .ok (.aload_n 0, 1) := by decide +kernel
theorem dX1_takeSidesBeyond_11 : decode cX1_takeSidesBeyond 11 = .ok (.aload_n 2, 1) := by decide +kernel
theorem dX1_takeSidesBeyond_12 : decode cX1_takeSidesBeyond 12 = .ok (.iload_n 1, 1) := by decide +kernel
theorem dX1_takeSidesBeyond_13 : decode cX1_takeSidesBeyond 13 = .ok (.iconst 2, 1) := by decide +kernel
theorem dX1_takeSidesBeyond_14 : decode cX1_takeSidesBeyond 14 = .ok (.invokevirtual 81, 3) := by decide +kernel
theorem dX1_takeSidesBeyond_17 : decode cX1_takeSidesBeyond 17 = .ok (.putfield 52, 3) := by decide +kernel
theorem dX1_takeSidesBeyond_20 : decode cX1_takeSidesBeyond 20 = .ok (.aload_n 0, 1) := by decide +kernel
theorem dX1_takeSidesBeyond_21 : decode cX1_takeSidesBeyond 21 = .ok (.aload_n 2, 1) := by decide +kernel
theorem dX1_takeSidesBeyond_22 : decode cX1_takeSidesBeyond 22 = .ok (.iload_n 1, 1) := by decide +kernel
theorem dX1_takeSidesBeyond_23 : decode cX1_takeSidesBeyond 23 = .ok (.iconst 1, 1) := by decide +kernel
theorem dX1_takeSidesBeyond_24 : decode cX1_takeSidesBeyond 24 = .ok (.invokevirtual 81, 3) := by decide +kernel
theorem dX1_takeSidesBeyond_27 : decode cX1_takeSidesBeyond 27 = .ok (.putfield 55, 3) := by decide +kernel
theorem dX1_takeSidesBeyond_30 : decode cX1_takeSidesBeyond 30 = .ok (.aload_n 0, 1) := by decide +kernel
theorem dX1_takeSidesBeyond_31 : decode cX1_takeSidesBeyond 31 = .ok (.aload_n 0, 1) := by decide +kernel
theorem dX1_takeSidesBeyond_32 : decode cX1_takeSidesBeyond 32 = .ok (.getfield 37, 3) := by decide +kernel
theorem dX1_takeSidesBeyond_35 : decode cX1_takeSidesBeyond 35 = .ok (.aload_n 0, 1) := by decide +kernel
theorem dX1_takeSidesBeyond_36 : decode cX1_takeSidesBeyond 36 = .ok (.getfield 52, 3) := by decide +kernel
theorem dX1_takeSidesBeyond_39 : decode cX1_takeSidesBeyond 39 = .ok (.ifCond .le 7, 3) := by decide +kernel
theorem dX1_takeSidesBeyond_42 : decode cX1_takeSidesBeyond 42 = .ok (.iconst 1, 1) := by decide +kernel
theorem dX1_takeSidesBeyond_43 : decode cX1_takeSidesBeyond 43 = .ok (.goto 4, 3) := by decide +kernel
theorem dX1_takeSidesBeyond_46 : decode cX1_takeSidesBeyond 46 = .ok (.iconst 0, 1) := by decide +kernel
theorem dX1_takeSidesBeyond_47 : decode cX1_takeSidesBeyond 47 = .ok (.iconst 3, 1) := by decide +kernel
theorem dX1_takeSidesBeyond_48 : decode cX1_takeSidesBeyond 48 = .ok (.invokestatic 84, 3) := by decide +kernel
theorem dX1_takeSidesBeyond_51 : decode cX1_takeSidesBeyond 51 = .ok (.putfield 37, 3) := by decide +kernel
theorem dX1_takeSidesBeyond_54 : decode cX1_takeSidesBeyond 54 = .ok (.aload_n 0, 1) := by decide +kernel
theorem dX1_takeSidesBeyond_55 : decode cX1_takeSidesBeyond 55 = .ok (.aload_n 0, 1) := by decide +kernel
theorem dX1_takeSidesBeyond_56 : decode cX1_takeSidesBeyond 56 = .ok (.getfield 40, 3) := by decide +kernel
theorem dX1_takeSidesBeyond_59 : decode cX1_takeSidesBeyond 59 = .ok (.aload_n 0, 1) := by decide +kernel
theorem dX1_takeSidesBeyond_60 : decode cX1_takeSidesBeyond 60 = .ok (.getfield 52, 3) := by decide +kernel
theorem dX1_takeSidesBeyond_63 : decode cX1_takeSidesBeyond 63 = .ok (.ifCond .ge 7, 3) := by decide +kernel
theorem dX1_takeSidesBeyond_66 : decode cX1_takeSidesBeyond 66 = .ok (.iconst 1, 1) := by decide +kernel
theorem dX1_takeSidesBeyond_67 : decode cX1_takeSidesBeyond 67 = .ok (.goto 4, 3) := by decide +kernel
theorem dX1_takeSidesBeyond_70 : decode cX1_takeSidesBeyond 70 = .ok (.iconst 0, 1) := by decide +kernel
theorem dX1_takeSidesBeyond_71 : decode cX1_takeSidesBeyond 71 = .ok (.iconst 3, 1) := by decide +kernel
theorem dX1_takeSidesBeyond_72 : decode cX1_takeSidesBeyond 72 = .ok (.invokestatic 84, 3) := by decide +kernel
theorem dX1_takeSidesBeyond_75 : decode cX1_takeSidesBeyond 75 = .ok (.putfield 40, 3) := by decide +kernel
theorem dX1_takeSidesBeyond_78 : decode cX1_takeSidesBeyond 78 = .ok (.aload_n 0, 1) := by decide +kernel
theorem dX1_takeSidesBeyond_79 : decode cX1_takeSidesBeyond 79 = .ok (.aload_n 0, 1) := by decide +kernel
theorem dX1_takeSidesBeyond_80 : decode cX1_takeSidesBeyond 80 = .ok (.getfield 43, 3) := by decide +kernel
theorem dX1_takeSidesBeyond_83 : decode cX1_takeSidesBeyond 83 = .ok (.aload_n 0, 1) := by decide +kernel
theorem dX1_takeSidesBeyond_84 : decode cX1_takeSidesBeyond 84 = .ok (.getfield 55, 3) := by decide +kernel
theorem dX1_takeSidesBeyond_87 : decode cX1_takeSidesBeyond 87 = .ok (.ifCond .le 7, 3) := by decide +kernel
theorem dX1_takeSidesBeyond_90 : decode cX1_takeSidesBeyond 90 = .ok (.iconst 1, 1) := by decide +kernel
theorem dX1_takeSidesBeyond_91 : decode cX1_takeSidesBeyond 91 = .ok (.goto 4, 3) := by decide +kernel
theorem dX1_takeSidesBeyond_94 : decode cX1_takeSidesBeyond 94 = .ok (.iconst 0, 1) := by decide +kernel
theorem dX1_takeSidesBeyond_95 : decode cX1_takeSidesBeyond 95 = .ok (.iconst 5, 1) := by decide +kernel
theorem dX1_takeSidesBeyond_96 : decode cX1_takeSidesBeyond 96 = .ok (.invokestatic 84, 3) := by decide +kernel
theorem dX1_takeSidesBeyond_99 : decode cX1_takeSidesBeyond 99 = .ok (.putfield 43, 3) := by decide +kernel
theorem dX1_takeSidesBeyond_102 : decode cX1_takeSidesBeyond 102 = .ok (.aload_n 0, 1) := by decide +kernel
theorem dX1_takeSidesBeyond_103 : decode cX1_takeSidesBeyond 103 = .ok (.aload_n 0, 1) := by decide +kernel
theorem dX1_takeSidesBeyond_104 : decode cX1_takeSidesBeyond 104 = .ok (.getfield 46, 3) := by decide +kernel
theorem dX1_takeSidesBeyond_107 : decode cX1_takeSidesBeyond 107 = .ok (.aload_n 0, 1) := by decide +kernel
theorem dX1_takeSidesBeyond_108 : decode cX1_takeSidesBeyond 108 = .ok (.getfield 55, 3) := by decide +kernel
theorem dX1_takeSidesBeyond_111 : decode cX1_takeSidesBeyond 111 = .ok (.ifCond .ge 7, 3) := by decide +kernel
theorem dX1_takeSidesBeyond_114 : decode cX1_takeSidesBeyond 114 = .ok (.iconst 1, 1) := by decide +kernel
theorem dX1_takeSidesBeyond_115 : decode cX1_takeSidesBeyond 115 = .ok (.goto 4, 3) := by decide +kernel
theorem dX1_takeSidesBeyond_118 : decode cX1_takeSidesBeyond 118 = .ok (.iconst 0, 1) := by decide +kernel
theorem dX1_takeSidesBeyond_119 : decode cX1_takeSidesBeyond 119 = .ok (.iconst 5, 1) := by decide +kernel
theorem dX1_takeSidesBeyond_120 : decode cX1_takeSidesBeyond 120 = .ok (.invokestatic 84, 3) := by decide +kernel
theorem dX1_takeSidesBeyond_123 : decode cX1_takeSidesBeyond 123 = .ok (.putfield 46, 3) := by decide +kernel
theorem dX1_takeSidesBeyond_126 : decode cX1_takeSidesBeyond 126 = .ok (.aload_n 0, 1) := by decide +kernel
theorem dX1_takeSidesBeyond_127 : decode cX1_takeSidesBeyond 127 = .ok (.aload_n 0, 1) := by decide +kernel
theorem dX1_takeSidesBeyond_128 : decode cX1_takeSidesBeyond 128 = .ok (.getfield 55, 3) := by decide +kernel
theorem dX1_takeSidesBeyond_131 : decode cX1_takeSidesBeyond 131 = .ok (.ifCond .ne 12, 3) := by decide +kernel
theorem dX1_takeSidesBeyond_134 : decode cX1_takeSidesBeyond 134 = .ok (.aload_n 0, 1) := by decide +kernel
theorem dX1_takeSidesBeyond_135 : decode cX1_takeSidesBeyond 135 = .ok (.getfield 31, 3) := by decide +kernel
theorem dX1_takeSidesBeyond_138 : decode cX1_takeSidesBeyond 138 = .ok (.iconst 1, 1) := by decide +kernel
theorem dX1_takeSidesBeyond_139 : decode cX1_takeSidesBeyond 139 = .ok (.iadd, 1) := by decide +kernel
theorem dX1_takeSidesBeyond_140 : decode cX1_takeSidesBeyond 140 = .ok (.goto 4, 3) := by decide +kernel
theorem dX1_takeSidesBeyond_143 : decode cX1_takeSidesBeyond 143 = .ok (.iconst 0, 1) := by decide +kernel
theorem dX1_takeSidesBeyond_144 : decode cX1_takeSidesBeyond 144 = .ok (.putfield 31, 3) := by decide +kernel
theorem dX1_takeSidesBeyond_147 : decode cX1_takeSidesBeyond 147 = .ok (.aload_n 0, 1) := by decide +kernel
theorem dX1_takeSidesBeyond_148 : decode cX1_takeSidesBeyond 148 = .ok (.aload_n 0, 1) := by decide +kernel
theorem dX1_takeSidesBeyond_149 : decode cX1_takeSidesBeyond 149 = .ok (.getfield 55, 3) := by decide +kernel
theorem dX1_takeSidesBeyond_152 : decode cX1_takeSidesBeyond 152 = .ok (.ifCond .eq 12, 3) := by decide +kernel
theorem dX1_takeSidesBeyond_155 : decode cX1_takeSidesBeyond 155 = .ok (.aload_n 0, 1) := by decide +kernel
theorem dX1_takeSidesBeyond_156 : decode cX1_takeSidesBeyond 156 = .ok (.getfield 34, 3) := by decide +kernel
theorem dX1_takeSidesBeyond_159 : decode cX1_takeSidesBeyond 159 = .ok (.iconst 1, 1) := by decide +kernel
theorem dX1_takeSidesBeyond_160 : decode cX1_takeSidesBeyond 160 = .ok (.iadd, 1) := by decide +kernel
theorem dX1_takeSidesBeyond_161 : decode cX1_takeSidesBeyond 161 = .ok (.goto 4, 3) := by decide +kernel
theorem dX1_takeSidesBeyond_164 : decode cX1_takeSidesBeyond 164 = .ok (.iconst 0, 1) := by decide +kernel
theorem dX1_takeSidesBeyond_165 : decode cX1_takeSidesBeyond 165 = .ok (.putfield 34, 3) := by decide +kernel
theorem dX1_takeSidesBeyond_168 : decode cX1_takeSidesBeyond 168 = .ok (.return_, 1) := by decide +kernel
theorem dX1_pushed_0 : decode cX1_pushed 0 = .ok (.iload_n 0, 1) := by decide +kernel
theorem dX1_pushed_1 : decode cX1_pushed 1 = .ok (.iconst 1, 1) := by decide +kernel
theorem dX1_pushed_2 : decode cX1_pushed 2 = .ok (.ishl, 1) := by decide +kernel
theorem dX1_pushed_3 : decode cX1_pushed 3 = .ok (.iload_n 1, 1) := by decide +kernel
theorem dX1_pushed_4 : decode cX1_pushed 4 = .ok (.ifCond .eq 7, 3) := by decide +kernel
theorem dX1_pushed_7 : decode cX1_pushed 7 = .ok (.iconst 1, 1) := by decide +kernel
theorem dX1_pushed_8 : decode cX1_pushed 8 = .ok (.goto 4, 3) := by decide +kernel
theorem dX1_pushed_11 : decode cX1_pushed 11 = .ok (.iconst 0, 1) := by decide +kernel
theorem dX1_pushed_12 : decode cX1_pushed 12 = .ok (.ior, 1) := by decide +kernel
theorem dX1_pushed_13 : decode cX1_pushed 13 = .ok (.iconst 1, 1) := by decide +kernel
theorem dX1_pushed_14 : decode cX1_pushed 14 = .ok (.iload_n 2, 1) := by decide +kernel
theorem dX1_pushed_15 : decode cX1_pushed 15 = .ok (.ishl, 1) := by decide +kernel
theorem dX1_pushed_16 : decode cX1_pushed 16 = .ok (.iconst 1, 1) := by decide +kernel
theorem dX1_pushed_17 : decode cX1_pushed 17 = .ok (.isub, 1) := by decide +kernel
theorem dX1_pushed_18 : decode cX1_pushed 18 = .ok (.iand, 1) := by decide +kernel
theorem dX1_pushed_19 : decode cX1_pushed 19 = .ok (.ireturn, 1) := by decide +kernel
theorem dX1_brokenRules_0 : decode cX1_brokenRules 0 = .ok (.iconst 1, 1) := by decide +kernel
theorem dX1_brokenRules_1 : decode cX1_brokenRules 1 = .ok (.aload_n 0, 1) := by decide +kernel
theorem dX1_brokenRules_2 : decode cX1_brokenRules 2 = .ok (.getfield 49, 3) := by decide +kernel
theorem dX1_brokenRules_5 : decode cX1_brokenRules 5 = .ok (.ifCond .eq 7, 3) := by decide +kernel
theorem dX1_brokenRules_8 : decode cX1_brokenRules 8 = .ok (.iconst 1, 1) := by decide +kernel
theorem dX1_brokenRules_9 : decode cX1_brokenRules 9 = .ok (.goto 4, 3) := by decide +kernel
theorem dX1_brokenRules_12 : decode cX1_brokenRules 12 = .ok (.iconst 0, 1) := by decide +kernel
theorem dX1_brokenRules_13 : decode cX1_brokenRules 13 = .ok (.invokestatic 88, 3) := by decide +kernel
theorem dX1_brokenRules_16 : decode cX1_brokenRules 16 = .ok (.iconst 2, 1) := by decide +kernel
theorem dX1_brokenRules_17 : decode cX1_brokenRules 17 = .ok (.aload_n 0, 1) := by decide +kernel
theorem dX1_brokenRules_18 : decode cX1_brokenRules 18 = .ok (.getfield 22, 3) := by decide +kernel
theorem dX1_brokenRules_21 : decode cX1_brokenRules 21 = .ok (.iconst 2, 1) := by decide +kernel
theorem dX1_brokenRules_22 : decode cX1_brokenRules 22 = .ok (.invokestatic 92, 3) := by decide +kernel
theorem dX1_brokenRules_25 : decode cX1_brokenRules 25 = .ok (.if_icmp .lt 7, 3) := by decide +kernel
theorem dX1_brokenRules_28 : decode cX1_brokenRules 28 = .ok (.iconst 1, 1) := by decide +kernel
theorem dX1_brokenRules_29 : decode cX1_brokenRules 29 = .ok (.goto 4, 3) := by decide +kernel
theorem dX1_brokenRules_32 : decode cX1_brokenRules 32 = .ok (.iconst 0, 1) := by decide +kernel
theorem dX1_brokenRules_33 : decode cX1_brokenRules 33 = .ok (.invokestatic 88, 3) := by decide +kernel
theorem dX1_brokenRules_36 : decode cX1_brokenRules 36 = .ok (.ior, 1) := by decide +kernel
theorem dX1_brokenRules_37 : decode cX1_brokenRules 37 = .ok (.iconst 3, 1) := by decide +kernel
theorem dX1_brokenRules_38 : decode cX1_brokenRules 38 = .ok (.aload_n 0, 1) := by decide +kernel
theorem dX1_brokenRules_39 : decode cX1_brokenRules 39 = .ok (.getfield 25, 3) := by decide +kernel
theorem dX1_brokenRules_42 : decode cX1_brokenRules 42 = .ok (.iconst 3, 1) := by decide +kernel
theorem dX1_brokenRules_43 : decode cX1_brokenRules 43 = .ok (.invokestatic 92, 3) := by decide +kernel
theorem dX1_brokenRules_46 : decode cX1_brokenRules 46 = .ok (.if_icmp .lt 7, 3) := by decide +kernel
theorem dX1_brokenRules_49 : decode cX1_brokenRules 49 = .ok (.iconst 1, 1) := by decide +kernel
theorem dX1_brokenRules_50 : decode cX1_brokenRules 50 = .ok (.goto 4, 3) := by decide +kernel
theorem dX1_brokenRules_53 : decode cX1_brokenRules 53 = .ok (.iconst 0, 1) := by decide +kernel
theorem dX1_brokenRules_54 : decode cX1_brokenRules 54 = .ok (.invokestatic 88, 3) := by decide +kernel
theorem dX1_brokenRules_57 : decode cX1_brokenRules 57 = .ok (.ior, 1) := by decide +kernel
theorem dX1_brokenRules_58 : decode cX1_brokenRules 58 = .ok (.iconst 4, 1) := by decide +kernel
theorem dX1_brokenRules_59 : decode cX1_brokenRules 59 = .ok (.aload_n 0, 1) := by decide +kernel
theorem dX1_brokenRules_60 : decode cX1_brokenRules 60 = .ok (.getfield 28, 3) := by decide +kernel
theorem dX1_brokenRules_63 : decode cX1_brokenRules 63 = .ok (.iconst 4, 1) := by decide +kernel
theorem dX1_brokenRules_64 : decode cX1_brokenRules 64 = .ok (.invokestatic 92, 3) := by decide +kernel
theorem dX1_brokenRules_67 : decode cX1_brokenRules 67 = .ok (.if_icmp .lt 7, 3) := by decide +kernel
theorem dX1_brokenRules_70 : decode cX1_brokenRules 70 = .ok (.iconst 1, 1) := by decide +kernel
theorem dX1_brokenRules_71 : decode cX1_brokenRules 71 = .ok (.goto 4, 3) := by decide +kernel
theorem dX1_brokenRules_74 : decode cX1_brokenRules 74 = .ok (.iconst 0, 1) := by decide +kernel
theorem dX1_brokenRules_75 : decode cX1_brokenRules 75 = .ok (.invokestatic 88, 3) := by decide +kernel
theorem dX1_brokenRules_78 : decode cX1_brokenRules 78 = .ok (.ior, 1) := by decide +kernel
theorem dX1_brokenRules_79 : decode cX1_brokenRules 79 = .ok (.iconst 5, 1) := by decide +kernel
theorem dX1_brokenRules_80 : decode cX1_brokenRules 80 = .ok (.aload_n 0, 1) := by decide +kernel
theorem dX1_brokenRules_81 : decode cX1_brokenRules 81 = .ok (.getfield 7, 3) := by decide +kernel
theorem dX1_brokenRules_84 : decode cX1_brokenRules 84 = .ok (.iconst 5, 1) := by decide +kernel
theorem dX1_brokenRules_85 : decode cX1_brokenRules 85 = .ok (.invokestatic 92, 3) := by decide +kernel
theorem dX1_brokenRules_88 : decode cX1_brokenRules 88 = .ok (.if_icmp .lt 26, 3) := by decide +kernel
theorem dX1_brokenRules_91 : decode cX1_brokenRules 91 = .ok (.aload_n 0, 1) := by decide +kernel
theorem dX1_brokenRules_92 : decode cX1_brokenRules 92 = .ok (.getfield 52, 3) := by decide +kernel
theorem dX1_brokenRules_95 : decode cX1_brokenRules 95 = .ok (.aload_n 0, 1) := by decide +kernel
theorem dX1_brokenRules_96 : decode cX1_brokenRules 96 = .ok (.getfield 37, 3) := by decide +kernel
theorem dX1_brokenRules_99 : decode cX1_brokenRules 99 = .ok (.aload_n 0, 1) := by decide +kernel
theorem dX1_brokenRules_100 : decode cX1_brokenRules 100 = .ok (.getfield 40, 3) := by decide +kernel
theorem dX1_brokenRules_103 : decode cX1_brokenRules 103 = .ok (.iconst 2, 1) := by decide +kernel
theorem dX1_brokenRules_104 : decode cX1_brokenRules 104 = .ok (.invokestatic 95, 3) := by decide +kernel
theorem dX1_brokenRules_107 : decode cX1_brokenRules 107 = .ok (.ifCond .eq 7, 3) := by decide +kernel
theorem dX1_brokenRules_110 : decode cX1_brokenRules 110 = .ok (.iconst 1, 1) := by decide +kernel
theorem dX1_brokenRules_111 : decode cX1_brokenRules 111 = .ok (.goto 4, 3) := by decide +kernel
theorem dX1_brokenRules_114 : decode cX1_brokenRules 114 = .ok (.iconst 0, 1) := by decide +kernel
theorem dX1_brokenRules_115 : decode cX1_brokenRules 115 = .ok (.invokestatic 88, 3) := by decide +kernel
theorem dX1_brokenRules_118 : decode cX1_brokenRules 118 = .ok (.ior, 1) := by decide +kernel
theorem dX1_brokenRules_119 : decode cX1_brokenRules 119 = .ok (.bipush 6, 2) := by decide +kernel
theorem dX1_brokenRules_121 : decode cX1_brokenRules 121 = .ok (.aload_n 0, 1) := by decide +kernel
theorem dX1_brokenRules_122 : decode cX1_brokenRules 122 = .ok (.getfield 7, 3) := by decide +kernel
theorem dX1_brokenRules_125 : decode cX1_brokenRules 125 = .ok (.bipush 6, 2) := by decide +kernel
theorem dX1_brokenRules_127 : decode cX1_brokenRules 127 = .ok (.invokestatic 92, 3) := by decide +kernel
theorem dX1_brokenRules_130 : decode cX1_brokenRules 130 = .ok (.if_icmp .lt 26, 3) := by decide +kernel
theorem dX1_brokenRules_133 : decode cX1_brokenRules 133 = .ok (.aload_n 0, 1) := by decide +kernel
theorem dX1_brokenRules_134 : decode cX1_brokenRules 134 = .ok (.getfield 55, 3) := by decide +kernel
theorem dX1_brokenRules_137 : decode cX1_brokenRules 137 = .ok (.aload_n 0, 1) := by decide +kernel
theorem dX1_brokenRules_138 : decode cX1_brokenRules 138 = .ok (.getfield 43, 3) := by decide +kernel
theorem dX1_brokenRules_141 : decode cX1_brokenRules 141 = .ok (.aload_n 0, 1) := by decide +kernel
theorem dX1_brokenRules_142 : decode cX1_brokenRules 142 = .ok (.getfield 46, 3) := by decide +kernel
theorem dX1_brokenRules_145 : decode cX1_brokenRules 145 = .ok (.iconst 4, 1) := by decide +kernel
theorem dX1_brokenRules_146 : decode cX1_brokenRules 146 = .ok (.invokestatic 95, 3) := by decide +kernel
theorem dX1_brokenRules_149 : decode cX1_brokenRules 149 = .ok (.ifCond .eq 7, 3) := by decide +kernel
theorem dX1_brokenRules_152 : decode cX1_brokenRules 152 = .ok (.iconst 1, 1) := by decide +kernel
theorem dX1_brokenRules_153 : decode cX1_brokenRules 153 = .ok (.goto 4, 3) := by decide +kernel
theorem dX1_brokenRules_156 : decode cX1_brokenRules 156 = .ok (.iconst 0, 1) := by decide +kernel
theorem dX1_brokenRules_157 : decode cX1_brokenRules 157 = .ok (.invokestatic 88, 3) := by decide +kernel
theorem dX1_brokenRules_160 : decode cX1_brokenRules 160 = .ok (.ior, 1) := by decide +kernel
theorem dX1_brokenRules_161 : decode cX1_brokenRules 161 = .ok (.bipush 7, 2) := by decide +kernel
theorem dX1_brokenRules_163 : decode cX1_brokenRules 163 = .ok (.aload_n 0, 1) := by decide +kernel
theorem dX1_brokenRules_164 : decode cX1_brokenRules 164 = .ok (.getfield 31, 3) := by decide +kernel
theorem dX1_brokenRules_167 : decode cX1_brokenRules 167 = .ok (.bipush 7, 2) := by decide +kernel
theorem dX1_brokenRules_169 : decode cX1_brokenRules 169 = .ok (.invokestatic 92, 3) := by decide +kernel
theorem dX1_brokenRules_172 : decode cX1_brokenRules 172 = .ok (.if_icmp .lt 7, 3) := by decide +kernel
theorem dX1_brokenRules_175 : decode cX1_brokenRules 175 = .ok (.iconst 1, 1) := by decide +kernel
theorem dX1_brokenRules_176 : decode cX1_brokenRules 176 = .ok (.goto 4, 3) := by decide +kernel
theorem dX1_brokenRules_179 : decode cX1_brokenRules 179 = .ok (.iconst 0, 1) := by decide +kernel
theorem dX1_brokenRules_180 : decode cX1_brokenRules 180 = .ok (.invokestatic 88, 3) := by decide +kernel
theorem dX1_brokenRules_183 : decode cX1_brokenRules 183 = .ok (.ior, 1) := by decide +kernel
theorem dX1_brokenRules_184 : decode cX1_brokenRules 184 = .ok (.bipush 8, 2) := by decide +kernel
theorem dX1_brokenRules_186 : decode cX1_brokenRules 186 = .ok (.aload_n 0, 1) := by decide +kernel
theorem dX1_brokenRules_187 : decode cX1_brokenRules 187 = .ok (.getfield 34, 3) := by decide +kernel
theorem dX1_brokenRules_190 : decode cX1_brokenRules 190 = .ok (.bipush 8, 2) := by decide +kernel
theorem dX1_brokenRules_192 : decode cX1_brokenRules 192 = .ok (.invokestatic 92, 3) := by decide +kernel
theorem dX1_brokenRules_195 : decode cX1_brokenRules 195 = .ok (.if_icmp .lt 7, 3) := by decide +kernel
theorem dX1_brokenRules_198 : decode cX1_brokenRules 198 = .ok (.iconst 1, 1) := by decide +kernel
theorem dX1_brokenRules_199 : decode cX1_brokenRules 199 = .ok (.goto 4, 3) := by decide +kernel
theorem dX1_brokenRules_202 : decode cX1_brokenRules 202 = .ok (.iconst 0, 1) := by decide +kernel
theorem dX1_brokenRules_203 : decode cX1_brokenRules 203 = .ok (.invokestatic 88, 3) := by decide +kernel
theorem dX1_brokenRules_206 : decode cX1_brokenRules 206 = .ok (.ior, 1) := by decide +kernel
theorem dX1_brokenRules_207 : decode cX1_brokenRules 207 = .ok (.ireturn, 1) := by decide +kernel
theorem dX1_bitOf_0 : decode cX1_bitOf 0 = .ok (.iload_n 1, 1) := by decide +kernel
theorem dX1_bitOf_1 : decode cX1_bitOf 1 = .ok (.ifCond .eq 9, 3) := by decide +kernel
theorem dX1_bitOf_4 : decode cX1_bitOf 4 = .ok (.iconst 1, 1) := by decide +kernel
theorem dX1_bitOf_5 : decode cX1_bitOf 5 = .ok (.iload_n 0, 1) := by decide +kernel
theorem dX1_bitOf_6 : decode cX1_bitOf 6 = .ok (.ishl, 1) := by decide +kernel
theorem dX1_bitOf_7 : decode cX1_bitOf 7 = .ok (.goto 4, 3) := by decide +kernel
theorem dX1_bitOf_10 : decode cX1_bitOf 10 = .ok (.iconst 0, 1) := by decide +kernel
theorem dX1_bitOf_11 : decode cX1_bitOf 11 = .ok (.ireturn, 1) := by decide +kernel
theorem dX1_isOften_0 : decode cX1_isOften 0 = .ok (.iload_n 0, 1) := by decide +kernel
theorem dX1_isOften_1 : decode cX1_isOften 1 = .ok (.ifCond .eq 23, 3) := by decide +kernel
theorem dX1_isOften_4 : decode cX1_isOften 4 = .ok (.iload_n 0, 1) := by decide +kernel
theorem dX1_isOften_5 : decode cX1_isOften 5 = .ok (.ifCond .le 7, 3) := by decide +kernel
theorem dX1_isOften_8 : decode cX1_isOften 8 = .ok (.iload_n 1, 1) := by decide +kernel
theorem dX1_isOften_9 : decode cX1_isOften 9 = .ok (.goto 4, 3) := by decide +kernel
theorem dX1_isOften_12 : decode cX1_isOften 12 = .ok (.iload_n 2, 1) := by decide +kernel
theorem dX1_isOften_13 : decode cX1_isOften 13 = .ok (.invokestatic 99, 3) := by decide +kernel
theorem dX1_isOften_16 : decode cX1_isOften 16 = .ok (.iload_n 3, 1) := by decide +kernel
theorem dX1_isOften_17 : decode cX1_isOften 17 = .ok (.if_icmp .lt 7, 3) := by decide +kernel
theorem dX1_isOften_20 : decode cX1_isOften 20 = .ok (.iconst 1, 1) := by decide +kernel
theorem dX1_isOften_21 : decode cX1_isOften 21 = .ok (.goto 4, 3) := by decide +kernel
theorem dX1_isOften_24 : decode cX1_isOften 24 = .ok (.iconst 0, 1) := by decide +kernel
theorem dX1_isOften_25 : decode cX1_isOften 25 = .ok (.ireturn, 1) := by decide +kernel
theorem dX2_init_0 : decode cX2_init 0 = .ok (.aload_n 0, 1) := by decide +kernel
theorem dX2_init_1 : decode cX2_init 1 = .ok (.invokespecial 3, 3) := by decide +kernel
theorem dX2_init_4 : decode cX2_init 4 = .ok (.aload_n 0, 1) := by decide +kernel
theorem dX2_init_5 : decode cX2_init 5 = .ok (.bipush 15, 2) := by decide +kernel
theorem dX2_init_7 : decode cX2_init 7 = .ok (.newarray .int, 2) := by decide +kernel
theorem dX2_init_9 : decode cX2_init 9 = .ok (.putfield 9, 3) := by decide +kernel
theorem dX2_init_12 : decode cX2_init 12 = .ok (.aload_n 0, 1) := by decide +kernel
theorem dX2_init_13 : decode cX2_init 13 = .ok (.bipush 15, 2) := by decide +kernel
theorem dX2_init_15 : decode cX2_init 15 = .ok (.newarray .int, 2) := by decide +kernel
theorem dX2_init_17 : decode cX2_init 17 = .ok (.putfield 15, 3) := by decide +kernel
theorem dX2_init_20 : decode cX2_init 20 = .ok (.return_, 1) := by decide +kernel
theorem dX2_restart_0 : decode cX2_restart 0 = .ok (.aload_n 0, 1) := by decide +kernel
theorem dX2_restart_1 : decode cX2_restart 1 = .ok (.iconst 0, 1) := by decide +kernel
theorem dX2_restart_2 : decode cX2_restart 2 = .ok (.putfield 18, 3) := by decide +kernel
theorem dX2_restart_5 : decode cX2_restart 5 = .ok (.return_, 1) := by decide +kernel
theorem dX2_isFull_0 : decode cX2_isFull 0 = .ok (.aload_n 0, 1) := by decide +kernel
theorem dX2_isFull_1 : decode cX2_isFull 1 = .ok (.getfield 18, 3) := by decide +kernel
theorem dX2_isFull_4 : decode cX2_isFull 4 = .ok (.bipush 15, 2) := by decide +kernel
theorem dX2_isFull_6 : decode cX2_isFull 6 = .ok (.if_icmp .lt 7, 3) := by decide +kernel
theorem dX2_isFull_9 : decode cX2_isFull 9 = .ok (.iconst 1, 1) := by decide +kernel
theorem dX2_isFull_10 : decode cX2_isFull 10 = .ok (.goto 4, 3) := by decide +kernel
theorem dX2_isFull_13 : decode cX2_isFull 13 = .ok (.iconst 0, 1) := by decide +kernel
theorem dX2_isFull_14 : decode cX2_isFull 14 = .ok (.ireturn, 1) := by decide +kernel
theorem dX2_add_0 : decode cX2_add 0 = .ok (.aload_n 0, 1) := by decide +kernel
theorem dX2_add_1 : decode cX2_add 1 = .ok (.invokevirtual 22, 3) := by decide +kernel
theorem dX2_add_4 : decode cX2_add 4 = .ok (.ifCond .eq 4, 3) := by decide +kernel
theorem dX2_add_7 : decode cX2_add 7 = .ok (.return_, 1) := by decide +kernel
theorem dX2_add_8 : decode cX2_add 8 = .ok (.aload_n 0, 1) := by decide +kernel
theorem dX2_add_9 : decode cX2_add 9 = .ok (.getfield 9, 3) := by decide +kernel
theorem dX2_add_12 : decode cX2_add 12 = .ok (.aload_n 0, 1) := by decide +kernel
theorem dX2_add_13 : decode cX2_add 13 = .ok (.getfield 18, 3) := by decide +kernel
theorem dX2_add_16 : decode cX2_add 16 = .ok (.iload_n 1, 1) := by decide +kernel
theorem dX2_add_17 : decode cX2_add 17 = .ok (.iastore, 1) := by decide +kernel
theorem dX2_add_18 : decode cX2_add 18 = .ok (.aload_n 0, 1) := by decide +kernel
theorem dX2_add_19 : decode cX2_add 19 = .ok (.getfield 15, 3) := by decide +kernel
theorem dX2_add_22 : decode cX2_add 22 = .ok (.aload_n 0, 1) := by decide +kernel
theorem dX2_add_23 : decode cX2_add 23 = .ok (.getfield 18, 3) := by decide +kernel
theorem dX2_add_26 : decode cX2_add 26 = .ok (.iload_n 2, 1) := by decide +kernel
theorem dX2_add_27 : decode cX2_add 27 = .ok (.iastore, 1) := by decide +kernel
theorem dX2_add_28 : decode cX2_add 28 = .ok (.aload_n 0, 1) := by decide +kernel
theorem dX2_add_29 : decode cX2_add 29 = .ok (.dup, 1) := by decide +kernel
theorem dX2_add_30 : decode cX2_add 30 = .ok (.getfield 18, 3) := by decide +kernel
theorem dX2_add_33 : decode cX2_add 33 = .ok (.iconst 1, 1) := by decide +kernel
theorem dX2_add_34 : decode cX2_add 34 = .ok (.iadd, 1) := by decide +kernel
theorem dX2_add_35 : decode cX2_add 35 = .ok (.putfield 18, 3) := by decide +kernel
theorem dX2_add_38 : decode cX2_add 38 = .ok (.return_, 1) := by decide +kernel
theorem dX2_subgroupAt_0 : decode cX2_subgroupAt 0 = .ok (.iload_n 1, 1) := by decide +kernel
theorem dX2_subgroupAt_1 : decode cX2_subgroupAt 1 = .ok (.ifCond .lt 20, 3) := by decide +kernel
theorem dX2_subgroupAt_4 : decode cX2_subgroupAt 4 = .ok (.iload_n 1, 1) := by decide +kernel
theorem dX2_subgroupAt_5 : decode cX2_subgroupAt 5 = .ok (.aload_n 0, 1) := by decide +kernel
theorem dX2_subgroupAt_6 : decode cX2_subgroupAt 6 = .ok (.getfield 18, 3) := by decide +kernel
theorem dX2_subgroupAt_9 : decode cX2_subgroupAt 9 = .ok (.if_icmp .ge 12, 3) := by decide +kernel
theorem dX2_subgroupAt_12 : decode cX2_subgroupAt 12 = .ok (.aload_n 0, 1) := by decide +kernel
theorem dX2_subgroupAt_13 : decode cX2_subgroupAt 13 = .ok (.getfield 9, 3) := by decide +kernel
theorem dX2_subgroupAt_16 : decode cX2_subgroupAt 16 = .ok (.iload_n 1, 1) := by decide +kernel
theorem dX2_subgroupAt_17 : decode cX2_subgroupAt 17 = .ok (.iaload, 1) := by decide +kernel
theorem dX2_subgroupAt_18 : decode cX2_subgroupAt 18 = .ok (.goto 4, 3) := by decide +kernel
theorem dX2_subgroupAt_21 : decode cX2_subgroupAt 21 = .ok (.iconst (-1), 1) := by decide +kernel
theorem dX2_subgroupAt_22 : decode cX2_subgroupAt 22 = .ok (.ireturn, 1) := by decide +kernel
theorem dX2_breaks_0 : decode cX2_breaks 0 = .ok (.iload_n 1, 1) := by decide +kernel
theorem dX2_breaks_1 : decode cX2_breaks 1 = .ok (.invokestatic 26, 3) := by decide +kernel
theorem dX2_breaks_4 : decode cX2_breaks 4 = .ok (.istore_n 3, 1) := by decide +kernel
theorem dX2_breaks_5 : decode cX2_breaks 5 = .ok (.iload_n 3, 1) := by decide +kernel
theorem dX2_breaks_6 : decode cX2_breaks 6 = .ok (.iconst 1, 1) := by decide +kernel
theorem dX2_breaks_7 : decode cX2_breaks 7 = .ok (.if_icmp .lt 11, 3) := by decide +kernel
theorem dX2_breaks_10 : decode cX2_breaks 10 = .ok (.iload_n 3, 1) := by decide +kernel
theorem dX2_breaks_11 : decode cX2_breaks 11 = .ok (.aload_n 0, 1) := by decide +kernel
theorem dX2_breaks_12 : decode cX2_breaks 12 = .ok (.getfield 18, 3) := by decide +kernel
theorem dX2_breaks_15 : decode cX2_breaks 15 = .ok (.if_icmp .le 5, 3) := by decide +kernel
theorem dX2_breaks_18 : decode cX2_breaks 18 = .ok (.iconst 0, 1) := by decide +kernel
theorem dX2_breaks_19 : decode cX2_breaks 19 = .ok (.ireturn, 1) := by decide +kernel
theorem dX2_breaks_20 : decode cX2_breaks 20 = .ok (.iload_n 1, 1) := by decide +kernel
theorem dX2_breaks_21 : decode cX2_breaks 21 = .ok (.tableswitch 135 1 8 #[47, 67, 74, 80, 86, 95, 104, 119], 47) := by decide +kernel
theorem dX2_breaks_68 : decode cX2_breaks 68 = .ok (.aload_n 2, 1) := by decide +kernel
theorem dX2_breaks_69 : decode cX2_breaks 69 = .ok (.aload_n 0, 1) := by decide +kernel
theorem dX2_breaks_70 : decode cX2_breaks 70 = .ok (.getfield 15, 3) := by decide +kernel
theorem dX2_breaks_73 : decode cX2_breaks 73 = .ok (.iconst 0, 1) := by decide +kernel
theorem dX2_breaks_74 : decode cX2_breaks 74 = .ok (.iaload, 1) := by decide +kernel
theorem dX2_breaks_75 : decode cX2_breaks 75 = .ok (.iconst 3, 1) := by decide +kernel
theorem dX2_breaks_76 : decode cX2_breaks 76 = .ok (.invokevirtual 30, 3) := by decide +kernel
theorem dX2_breaks_79 : decode cX2_breaks 79 = .ok (.ifCond .eq 7, 3) := by decide +kernel
theorem dX2_breaks_82 : decode cX2_breaks 82 = .ok (.iconst 1, 1) := by decide +kernel
theorem dX2_breaks_83 : decode cX2_breaks 83 = .ok (.goto 4, 3) := by decide +kernel
theorem dX2_breaks_86 : decode cX2_breaks 86 = .ok (.iconst 0, 1) := by decide +kernel
theorem dX2_breaks_87 : decode cX2_breaks 87 = .ok (.ireturn, 1) := by decide +kernel
theorem dX2_breaks_88 : decode cX2_breaks 88 = .ok (.aload_n 0, 1) := by decide +kernel
theorem dX2_breaks_89 : decode cX2_breaks 89 = .ok (.iload_n 3, 1) := by decide +kernel
theorem dX2_breaks_90 : decode cX2_breaks 90 = .ok (.aload_n 2, 1) := by decide +kernel
theorem dX2_breaks_91 : decode cX2_breaks 91 = .ok (.invokevirtual 36, 3) := by decide +kernel
theorem dX2_breaks_94 : decode cX2_breaks 94 = .ok (.ireturn, 1) := by decide +kernel
theorem dX2_breaks_95 : decode cX2_breaks 95 = .ok (.aload_n 0, 1) := by decide +kernel
theorem dX2_breaks_96 : decode cX2_breaks 96 = .ok (.iload_n 3, 1) := by decide +kernel
theorem dX2_breaks_97 : decode cX2_breaks 97 = .ok (.invokevirtual 40, 3) := by decide +kernel
theorem dX2_breaks_100 : decode cX2_breaks 100 = .ok (.ireturn, 1) := by decide +kernel
theorem dX2_breaks_101 : decode cX2_breaks 101 = .ok (.aload_n 0, 1) := by decide +kernel
theorem dX2_breaks_102 : decode cX2_breaks 102 = .ok (.iload_n 3, 1) := by decide +kernel
theorem dX2_breaks_103 : decode cX2_breaks 103 = .ok (.invokevirtual 44, 3) := by decide +kernel
theorem dX2_breaks_106 : decode cX2_breaks 106 = .ok (.ireturn, 1) := by decide +kernel
theorem dX2_breaks_107 : decode cX2_breaks 107 = .ok (.aload_n 0, 1) := by decide +kernel
theorem dX2_breaks_108 : decode cX2_breaks 108 = .ok (.iload_n 3, 1) := by decide +kernel
theorem dX2_breaks_109 : decode cX2_breaks 109 = .ok (.iconst 2, 1) := by decide +kernel
theorem dX2_breaks_110 : decode cX2_breaks 110 = .ok (.iconst 2, 1) := by decide +kernel
theorem dX2_breaks_111 : decode cX2_breaks 111 = .ok (.aload_n 2, 1) := by decide +kernel
theorem dX2_breaks_112 : decode cX2_breaks 112 = .ok (.invokevirtual 47, 3) := by decide +kernel
theorem dX2_breaks_115 : decode cX2_breaks 115 = .ok (.ireturn, 1) := by decide +kernel
theorem dX2_breaks_116 : decode cX2_breaks 116 = .ok (.aload_n 0, 1) := by decide +kernel
theorem dX2_breaks_117 : decode cX2_breaks 117 = .ok (.iload_n 3, 1) := by decide +kernel
theorem dX2_breaks_118 : decode cX2_breaks 118 = .ok (.iconst 1, 1) := by decide +kernel
theorem dX2_breaks_119 : decode cX2_breaks 119 = .ok (.iconst 4, 1) := by decide +kernel
theorem dX2_breaks_120 : decode cX2_breaks 120 = .ok (.aload_n 2, 1) := by decide +kernel
theorem dX2_breaks_121 : decode cX2_breaks 121 = .ok (.invokevirtual 47, 3) := by decide +kernel
theorem dX2_breaks_124 : decode cX2_breaks 124 = .ok (.ireturn, 1) := by decide +kernel
theorem dX2_breaks_125 : decode cX2_breaks 125 = .ok (.aload_n 0, 1) := by decide +kernel
theorem dX2_breaks_126 : decode cX2_breaks 126 = .ok (.iload_n 3, 1) := by decide +kernel
theorem dX2_breaks_127 : decode cX2_breaks 127 = .ok (.aload_n 2, 1) := by decide +kernel
theorem dX2_breaks_128 : decode cX2_breaks 128 = .ok (.invokevirtual 51, 3) := by decide +kernel
theorem dX2_breaks_131 : decode cX2_breaks 131 = .ok (.ifCond .ne 7, 3) := by decide +kernel
theorem dX2_breaks_134 : decode cX2_breaks 134 = .ok (.iconst 1, 1) := by decide +kernel
theorem dX2_breaks_135 : decode cX2_breaks 135 = .ok (.goto 4, 3) := by decide +kernel
theorem dX2_breaks_138 : decode cX2_breaks 138 = .ok (.iconst 0, 1) := by decide +kernel
theorem dX2_breaks_139 : decode cX2_breaks 139 = .ok (.ireturn, 1) := by decide +kernel
theorem dX2_breaks_140 : decode cX2_breaks 140 = .ok (.aload_n 0, 1) := by decide +kernel
theorem dX2_breaks_141 : decode cX2_breaks 141 = .ok (.iload_n 3, 1) := by decide +kernel
theorem dX2_breaks_142 : decode cX2_breaks 142 = .ok (.aload_n 2, 1) := by decide +kernel
theorem dX2_breaks_143 : decode cX2_breaks 143 = .ok (.invokevirtual 51, 3) := by decide +kernel
theorem dX2_breaks_146 : decode cX2_breaks 146 = .ok (.iload_n 3, 1) := by decide +kernel
theorem dX2_breaks_147 : decode cX2_breaks 147 = .ok (.if_icmp .ne 7, 3) := by decide +kernel
theorem dX2_breaks_150 : decode cX2_breaks 150 = .ok (.iconst 1, 1) := by decide +kernel
theorem dX2_breaks_151 : decode cX2_breaks 151 = .ok (.goto 4, 3) := by decide +kernel
theorem dX2_breaks_154 : decode cX2_breaks 154 = .ok (.iconst 0, 1) := by decide +kernel
theorem dX2_breaks_155 : decode cX2_breaks 155 = .ok (.ireturn, 1) := by decide +kernel
theorem dX2_breaks_156 : decode cX2_breaks 156 = .ok (.iconst 0, 1) := by decide +kernel
theorem dX2_breaks_157 : decode cX2_breaks 157 = .ok (.ireturn, 1) := by decide +kernel
theorem dX2_isOnOneSide_0 : decode cX2_isOnOneSide 0 = .ok (.aload_n 2, 1) := by decide +kernel
theorem dX2_isOnOneSide_1 : decode cX2_isOnOneSide 1 = .ok (.aload_n 0, 1) := by decide +kernel
theorem dX2_isOnOneSide_2 : decode cX2_isOnOneSide 2 = .ok (.getfield 15, 3) := by decide +kernel
theorem dX2_isOnOneSide_5 : decode cX2_isOnOneSide 5 = .ok (.iconst 0, 1) := by decide +kernel
theorem dX2_isOnOneSide_6 : decode cX2_isOnOneSide 6 = .ok (.iaload, 1) := by decide +kernel
theorem dX2_isOnOneSide_7 : decode cX2_isOnOneSide 7 = .ok (.invokevirtual 55, 3) := by decide +kernel
theorem dX2_isOnOneSide_10 : decode cX2_isOnOneSide 10 = .ok (.istore_n 3, 1) := by decide +kernel
theorem dX2_isOnOneSide_11 : decode cX2_isOnOneSide 11 = .ok (.iconst 1, 1) := by decide +kernel
theorem dX2_isOnOneSide_12 : decode cX2_isOnOneSide 12 = .ok (.istore 4, 2) := by decide +kernel
theorem dX2_isOnOneSide_14 : decode cX2_isOnOneSide 14 = .ok (.iload 4, 2) := by decide +kernel
theorem dX2_isOnOneSide_16 : decode cX2_isOnOneSide 16 = .ok (.iload_n 1, 1) := by decide +kernel
theorem dX2_isOnOneSide_17 : decode cX2_isOnOneSide 17 = .ok (.if_icmp .ge 26, 3) := by decide +kernel
theorem dX2_isOnOneSide_20 : decode cX2_isOnOneSide 20 = .ok (.aload_n 2, 1) := by decide +kernel
theorem dX2_isOnOneSide_21 : decode cX2_isOnOneSide 21 = .ok (.aload_n 0, 1) := by decide +kernel
theorem dX2_isOnOneSide_22 : decode cX2_isOnOneSide 22 = .ok (.getfield 15, 3) := by decide +kernel
theorem dX2_isOnOneSide_25 : decode cX2_isOnOneSide 25 = .ok (.iload 4, 2) := by decide +kernel
theorem dX2_isOnOneSide_27 : decode cX2_isOnOneSide 27 = .ok (.iaload, 1) := by decide +kernel
theorem dX2_isOnOneSide_28 : decode cX2_isOnOneSide 28 = .ok (.invokevirtual 55, 3) := by decide +kernel
theorem dX2_isOnOneSide_31 : decode cX2_isOnOneSide 31 = .ok (.iload_n 3, 1) := by decide +kernel
theorem dX2_isOnOneSide_32 : decode cX2_isOnOneSide 32 = .ok (.if_icmp .eq 5, 3) := by decide +kernel
theorem dX2_isOnOneSide_35 : decode cX2_isOnOneSide 35 = .ok (.iconst 0, 1) := by decide +kernel
theorem dX2_isOnOneSide_36 : decode cX2_isOnOneSide 36 = .ok (.ireturn, 1) := by decide +kernel
theorem dX2_isOnOneSide_37 : decode cX2_isOnOneSide 37 = .ok (.iinc 4 1, 3) := by decide +kernel
theorem dX2_isOnOneSide_40 : decode cX2_isOnOneSide 40 = .ok (.goto (-26), 3) := by decide +kernel
theorem dX2_isOnOneSide_43 : decode cX2_isOnOneSide 43 = .ok (.iload_n 3, 1) := by decide +kernel
theorem dX2_isOnOneSide_44 : decode cX2_isOnOneSide 44 = .ok (.ifCond .eq 7, 3) := by decide +kernel
theorem dX2_isOnOneSide_47 : decode cX2_isOnOneSide 47 = .ok (.iconst 1, 1) := by decide +kernel
theorem dX2_isOnOneSide_48 : decode cX2_isOnOneSide 48 = .ok (.goto 4, 3) := by decide +kernel
theorem dX2_isOnOneSide_51 : decode cX2_isOnOneSide 51 = .ok (.iconst 0, 1) := by decide +kernel
theorem dX2_isOnOneSide_52 : decode cX2_isOnOneSide 52 = .ok (.ireturn, 1) := by decide +kernel
theorem dX2_isSteady_0 : decode cX2_isSteady 0 = .ok (.aload_n 0, 1) := by decide +kernel
theorem dX2_isSteady_1 : decode cX2_isSteady 1 = .ok (.getfield 15, 3) := by decide +kernel
theorem dX2_isSteady_4 : decode cX2_isSteady 4 = .ok (.iconst 1, 1) := by decide +kernel
theorem dX2_isSteady_5 : decode cX2_isSteady 5 = .ok (.iaload, 1) := by decide +kernel
theorem dX2_isSteady_6 : decode cX2_isSteady 6 = .ok (.aload_n 0, 1) := by decide +kernel
theorem dX2_isSteady_7 : decode cX2_isSteady 7 = .ok (.getfield 15, 3) := by decide +kernel
theorem dX2_isSteady_10 : decode cX2_isSteady 10 = .ok (.iconst 0, 1) := by decide +kernel
theorem dX2_isSteady_11 : decode cX2_isSteady 11 = .ok (.iaload, 1) := by decide +kernel
theorem dX2_isSteady_12 : decode cX2_isSteady 12 = .ok (.invokestatic 58, 3) := by decide +kernel
theorem dX2_isSteady_15 : decode cX2_isSteady 15 = .ok (.istore_n 2, 1) := by decide +kernel
theorem dX2_isSteady_16 : decode cX2_isSteady 16 = .ok (.iconst 1, 1) := by decide +kernel
theorem dX2_isSteady_17 : decode cX2_isSteady 17 = .ok (.istore_n 3, 1) := by decide +kernel
theorem dX2_isSteady_18 : decode cX2_isSteady 18 = .ok (.iload_n 3, 1) := by decide +kernel
theorem dX2_isSteady_19 : decode cX2_isSteady 19 = .ok (.iconst 1, 1) := by decide +kernel
theorem dX2_isSteady_20 : decode cX2_isSteady 20 = .ok (.iadd, 1) := by decide +kernel
theorem dX2_isSteady_21 : decode cX2_isSteady 21 = .ok (.iload_n 1, 1) := by decide +kernel
theorem dX2_isSteady_22 : decode cX2_isSteady 22 = .ok (.if_icmp .ge 32, 3) := by decide +kernel
theorem dX2_isSteady_25 : decode cX2_isSteady 25 = .ok (.aload_n 0, 1) := by decide +kernel
theorem dX2_isSteady_26 : decode cX2_isSteady 26 = .ok (.getfield 15, 3) := by decide +kernel
theorem dX2_isSteady_29 : decode cX2_isSteady 29 = .ok (.iload_n 3, 1) := by decide +kernel
theorem dX2_isSteady_30 : decode cX2_isSteady 30 = .ok (.iconst 1, 1) := by decide +kernel
theorem dX2_isSteady_31 : decode cX2_isSteady 31 = .ok (.iadd, 1) := by decide +kernel
theorem dX2_isSteady_32 : decode cX2_isSteady 32 = .ok (.iaload, 1) := by decide +kernel
theorem dX2_isSteady_33 : decode cX2_isSteady 33 = .ok (.aload_n 0, 1) := by decide +kernel
theorem dX2_isSteady_34 : decode cX2_isSteady 34 = .ok (.getfield 15, 3) := by decide +kernel
theorem dX2_isSteady_37 : decode cX2_isSteady 37 = .ok (.iload_n 3, 1) := by decide +kernel
theorem dX2_isSteady_38 : decode cX2_isSteady 38 = .ok (.iaload, 1) := by decide +kernel
theorem dX2_isSteady_39 : decode cX2_isSteady 39 = .ok (.invokestatic 58, 3) := by decide +kernel
theorem dX2_isSteady_42 : decode cX2_isSteady 42 = .ok (.iload_n 2, 1) := by decide +kernel
theorem dX2_isSteady_43 : decode cX2_isSteady 43 = .ok (.if_icmp .eq 5, 3) := by decide +kernel
theorem dX2_isSteady_46 : decode cX2_isSteady 46 = .ok (.iconst 0, 1) := by decide +kernel
theorem dX2_isSteady_47 : decode cX2_isSteady 47 = .ok (.ireturn, 1) := by decide +kernel
theorem dX2_isSteady_48 : decode cX2_isSteady 48 = .ok (.iinc 3 1, 3) := by decide +kernel
theorem dX2_isSteady_51 : decode cX2_isSteady 51 = .ok (.goto (-33), 3) := by decide +kernel
theorem dX2_isSteady_54 : decode cX2_isSteady 54 = .ok (.iload_n 2, 1) := by decide +kernel
theorem dX2_isSteady_55 : decode cX2_isSteady 55 = .ok (.ifCond .eq 7, 3) := by decide +kernel
theorem dX2_isSteady_58 : decode cX2_isSteady 58 = .ok (.iconst 1, 1) := by decide +kernel
theorem dX2_isSteady_59 : decode cX2_isSteady 59 = .ok (.goto 4, 3) := by decide +kernel
theorem dX2_isSteady_62 : decode cX2_isSteady 62 = .ok (.iconst 0, 1) := by decide +kernel
theorem dX2_isSteady_63 : decode cX2_isSteady 63 = .ok (.ireturn, 1) := by decide +kernel
theorem dX2_isTurning_0 : decode cX2_isTurning 0 = .ok (.aload_n 0, 1) := by decide +kernel
theorem dX2_isTurning_1 : decode cX2_isTurning 1 = .ok (.getfield 15, 3) := by decide +kernel
theorem dX2_isTurning_4 : decode cX2_isTurning 4 = .ok (.iconst 1, 1) := by decide +kernel
theorem dX2_isTurning_5 : decode cX2_isTurning 5 = .ok (.iaload, 1) := by decide +kernel
theorem dX2_isTurning_6 : decode cX2_isTurning 6 = .ok (.aload_n 0, 1) := by decide +kernel
theorem dX2_isTurning_7 : decode cX2_isTurning 7 = .ok (.getfield 15, 3) := by decide +kernel
theorem dX2_isTurning_10 : decode cX2_isTurning 10 = .ok (.iconst 0, 1) := by decide +kernel
theorem dX2_isTurning_11 : decode cX2_isTurning 11 = .ok (.iaload, 1) := by decide +kernel
theorem dX2_isTurning_12 : decode cX2_isTurning 12 = .ok (.invokestatic 58, 3) := by decide +kernel
theorem dX2_isTurning_15 : decode cX2_isTurning 15 = .ok (.istore_n 2, 1) := by decide +kernel
theorem dX2_isTurning_16 : decode cX2_isTurning 16 = .ok (.iconst 1, 1) := by decide +kernel
theorem dX2_isTurning_17 : decode cX2_isTurning 17 = .ok (.istore_n 3, 1) := by decide +kernel
theorem dX2_isTurning_18 : decode cX2_isTurning 18 = .ok (.iload_n 3, 1) := by decide +kernel
theorem dX2_isTurning_19 : decode cX2_isTurning 19 = .ok (.iconst 1, 1) := by decide +kernel
theorem dX2_isTurning_20 : decode cX2_isTurning 20 = .ok (.iadd, 1) := by decide +kernel
theorem dX2_isTurning_21 : decode cX2_isTurning 21 = .ok (.iload_n 1, 1) := by decide +kernel
theorem dX2_isTurning_22 : decode cX2_isTurning 22 = .ok (.if_icmp .ge 35, 3) := by decide +kernel
theorem dX2_isTurning_25 : decode cX2_isTurning 25 = .ok (.iload_n 2, 1) := by decide +kernel
theorem dX2_isTurning_26 : decode cX2_isTurning 26 = .ok (.ineg, 1) := by decide +kernel
theorem dX2_isTurning_27 : decode cX2_isTurning 27 = .ok (.istore_n 2, 1) := by decide +kernel
theorem dX2_isTurning_28 : decode cX2_isTurning 28 = .ok (.aload_n 0, 1) := by decide +kernel
theorem dX2_isTurning_29 : decode cX2_isTurning 29 = .ok (.getfield 15, 3) := by decide +kernel
theorem dX2_isTurning_32 : decode cX2_isTurning 32 = .ok (.iload_n 3, 1) := by decide +kernel
theorem dX2_isTurning_33 : decode cX2_isTurning 33 = .ok (.iconst 1, 1) := by decide +kernel
theorem dX2_isTurning_34 : decode cX2_isTurning 34 = .ok (.iadd, 1) := by decide +kernel
theorem dX2_isTurning_35 : decode cX2_isTurning 35 = .ok (.iaload, 1) := by decide +kernel
theorem dX2_isTurning_36 : decode cX2_isTurning 36 = .ok (.aload_n 0, 1) := by decide +kernel
theorem dX2_isTurning_37 : decode cX2_isTurning 37 = .ok (.getfield 15, 3) := by decide +kernel
theorem dX2_isTurning_40 : decode cX2_isTurning 40 = .ok (.iload_n 3, 1) := by decide +kernel
theorem dX2_isTurning_41 : decode cX2_isTurning 41 = .ok (.iaload, 1) := by decide +kernel
theorem dX2_isTurning_42 : decode cX2_isTurning 42 = .ok (.invokestatic 58, 3) := by decide +kernel
theorem dX2_isTurning_45 : decode cX2_isTurning 45 = .ok (.iload_n 2, 1) := by decide +kernel
theorem dX2_isTurning_46 : decode cX2_isTurning 46 = .ok (.if_icmp .eq 5, 3) := by decide +kernel
theorem dX2_isTurning_49 : decode cX2_isTurning 49 = .ok (.iconst 0, 1) := by decide +kernel
theorem dX2_isTurning_50 : decode cX2_isTurning 50 = .ok (.ireturn, 1) := by decide +kernel
theorem dX2_isTurning_51 : decode cX2_isTurning 51 = .ok (.iinc 3 1, 3) := by decide +kernel
theorem dX2_isTurning_54 : decode cX2_isTurning 54 = .ok (.goto (-36), 3) := by decide +kernel
theorem dX2_isTurning_57 : decode cX2_isTurning 57 = .ok (.iload_n 2, 1) := by decide +kernel
theorem dX2_isTurning_58 : decode cX2_isTurning 58 = .ok (.ifCond .eq 7, 3) := by decide +kernel
theorem dX2_isTurning_61 : decode cX2_isTurning 61 = .ok (.iconst 1, 1) := by decide +kernel
theorem dX2_isTurning_62 : decode cX2_isTurning 62 = .ok (.goto 4, 3) := by decide +kernel
theorem dX2_isTurning_65 : decode cX2_isTurning 65 = .ok (.iconst 0, 1) := by decide +kernel
theorem dX2_isTurning_66 : decode cX2_isTurning 66 = .ok (.ireturn, 1) := by decide +kernel
theorem dX2_isOften_0 : decode cX2_isOften 0 = .ok (.aload 4, 2) := by decide +kernel
theorem dX2_isOften_2 : decode cX2_isOften 2 = .ok (.aload_n 0, 1) := by decide +kernel
theorem dX2_isOften_3 : decode cX2_isOften 3 = .ok (.getfield 15, 3) := by decide +kernel
theorem dX2_isOften_6 : decode cX2_isOften 6 = .ok (.iconst 0, 1) := by decide +kernel
theorem dX2_isOften_7 : decode cX2_isOften 7 = .ok (.iaload, 1) := by decide +kernel
theorem dX2_isOften_8 : decode cX2_isOften 8 = .ok (.iload_n 2, 1) := by decide +kernel
theorem dX2_isOften_9 : decode cX2_isOften 9 = .ok (.invokevirtual 30, 3) := by decide +kernel
theorem dX2_isOften_12 : decode cX2_isOften 12 = .ok (.istore 5, 2) := by decide +kernel
theorem dX2_isOften_14 : decode cX2_isOften 14 = .ok (.iconst 0, 1) := by decide +kernel
theorem dX2_isOften_15 : decode cX2_isOften 15 = .ok (.istore 6, 2) := by decide +kernel
theorem dX2_isOften_17 : decode cX2_isOften 17 = .ok (.iconst 0, 1) := by decide +kernel
theorem dX2_isOften_18 : decode cX2_isOften 18 = .ok (.istore 7, 2) := by decide +kernel
theorem dX2_isOften_20 : decode cX2_isOften 20 = .ok (.iload 7, 2) := by decide +kernel
theorem dX2_isOften_22 : decode cX2_isOften 22 = .ok (.iload_n 1, 1) := by decide +kernel
theorem dX2_isOften_23 : decode cX2_isOften 23 = .ok (.if_icmp .ge 37, 3) := by decide +kernel
theorem dX2_isOften_26 : decode cX2_isOften 26 = .ok (.iload 6, 2) := by decide +kernel
theorem dX2_isOften_28 : decode cX2_isOften 28 = .ok (.aload 4, 2) := by decide +kernel
theorem dX2_isOften_30 : decode cX2_isOften 30 = .ok (.aload_n 0, 1) := by decide +kernel
theorem dX2_isOften_31 : decode cX2_isOften 31 = .ok (.getfield 15, 3) := by decide +kernel
theorem dX2_isOften_34 : decode cX2_isOften 34 = .ok (.iload 7, 2) := by decide +kernel
theorem dX2_isOften_36 : decode cX2_isOften 36 = .ok (.iaload, 1) := by decide +kernel
theorem dX2_isOften_37 : decode cX2_isOften 37 = .ok (.iload_n 2, 1) := by decide +kernel
theorem dX2_isOften_38 : decode cX2_isOften 38 = .ok (.invokevirtual 30, 3) := by decide +kernel
theorem dX2_isOften_41 : decode cX2_isOften 41 = .ok (.iload 5, 2) := by decide +kernel
theorem dX2_isOften_43 : decode cX2_isOften 43 = .ok (.if_icmp .ne 7, 3) := by decide +kernel
theorem dX2_isOften_46 : decode cX2_isOften 46 = .ok (.iconst 1, 1) := by decide +kernel
theorem dX2_isOften_47 : decode cX2_isOften 47 = .ok (.goto 4, 3) := by decide +kernel
theorem dX2_isOften_50 : decode cX2_isOften 50 = .ok (.iconst 0, 1) := by decide +kernel
theorem dX2_isOften_51 : decode cX2_isOften 51 = .ok (.iadd, 1) := by decide +kernel
theorem dX2_isOften_52 : decode cX2_isOften 52 = .ok (.istore 6, 2) := by decide +kernel
theorem dX2_isOften_54 : decode cX2_isOften 54 = .ok (.iinc 7 1, 3) := by decide +kernel
theorem dX2_isOften_57 : decode cX2_isOften 57 = .ok (.goto (-37), 3) := by decide +kernel
theorem dX2_isOften_60 : decode cX2_isOften 60 = .ok (.iload 5, 2) := by decide +kernel
theorem dX2_isOften_62 : decode cX2_isOften 62 = .ok (.ifCond .eq 13, 3) := by decide +kernel
theorem dX2_isOften_65 : decode cX2_isOften 65 = .ok (.iload 6, 2) := by decide +kernel
theorem dX2_isOften_67 : decode cX2_isOften 67 = .ok (.iload_n 3, 1) := by decide +kernel
theorem dX2_isOften_68 : decode cX2_isOften 68 = .ok (.if_icmp .lt 7, 3) := by decide +kernel
theorem dX2_isOften_71 : decode cX2_isOften 71 = .ok (.iconst 1, 1) := by decide +kernel
theorem dX2_isOften_72 : decode cX2_isOften 72 = .ok (.goto 4, 3) := by decide +kernel
theorem dX2_isOften_75 : decode cX2_isOften 75 = .ok (.iconst 0, 1) := by decide +kernel
theorem dX2_isOften_76 : decode cX2_isOften 76 = .ok (.ireturn, 1) := by decide +kernel
theorem dX2_beyondSome_0 : decode cX2_beyondSome 0 = .ok (.iconst 0, 1) := by decide +kernel
theorem dX2_beyondSome_1 : decode cX2_beyondSome 1 = .ok (.istore_n 3, 1) := by decide +kernel
theorem dX2_beyondSome_2 : decode cX2_beyondSome 2 = .ok (.iconst 0, 1) := by decide +kernel
theorem dX2_beyondSome_3 : decode cX2_beyondSome 3 = .ok (.istore 4, 2) := by decide +kernel
theorem dX2_beyondSome_5 : decode cX2_beyondSome 5 = .ok (.iload 4, 2) := by decide +kernel
theorem dX2_beyondSome_7 : decode cX2_beyondSome 7 = .ok (.iload_n 1, 1) := by decide +kernel
theorem dX2_beyondSome_8 : decode cX2_beyondSome 8 = .ok (.if_icmp .ge 32, 3) := by decide +kernel
theorem dX2_beyondSome_11 : decode cX2_beyondSome 11 = .ok (.iload_n 3, 1) := by decide +kernel
theorem dX2_beyondSome_12 : decode cX2_beyondSome 12 = .ok (.aload_n 2, 1) := by decide +kernel
theorem dX2_beyondSome_13 : decode cX2_beyondSome 13 = .ok (.aload_n 0, 1) := by decide +kernel
theorem dX2_beyondSome_14 : decode cX2_beyondSome 14 = .ok (.getfield 15, 3) := by decide +kernel
theorem dX2_beyondSome_17 : decode cX2_beyondSome 17 = .ok (.iload 4, 2) := by decide +kernel
theorem dX2_beyondSome_19 : decode cX2_beyondSome 19 = .ok (.iaload, 1) := by decide +kernel
theorem dX2_beyondSome_20 : decode cX2_beyondSome 20 = .ok (.iconst 1, 1) := by decide +kernel
theorem dX2_beyondSome_21 : decode cX2_beyondSome 21 = .ok (.invokevirtual 30, 3) := by decide +kernel
theorem dX2_beyondSome_24 : decode cX2_beyondSome 24 = .ok (.ifCond .eq 7, 3) := by decide +kernel
theorem dX2_beyondSome_27 : decode cX2_beyondSome 27 = .ok (.iconst 1, 1) := by decide +kernel
theorem dX2_beyondSome_28 : decode cX2_beyondSome 28 = .ok (.goto 4, 3) := by decide +kernel
theorem dX2_beyondSome_31 : decode cX2_beyondSome 31 = .ok (.iconst 0, 1) := by decide +kernel
theorem dX2_beyondSome_32 : decode cX2_beyondSome 32 = .ok (.iadd, 1) := by decide +kernel
theorem dX2_beyondSome_33 : decode cX2_beyondSome 33 = .ok (.istore_n 3, 1) := by decide +kernel
theorem dX2_beyondSome_34 : decode cX2_beyondSome 34 = .ok (.iinc 4 1, 3) := by decide +kernel
theorem dX2_beyondSome_37 : decode cX2_beyondSome 37 = .ok (.goto (-32), 3) := by decide +kernel
theorem dX2_beyondSome_40 : decode cX2_beyondSome 40 = .ok (.iload_n 3, 1) := by decide +kernel
theorem dX2_beyondSome_41 : decode cX2_beyondSome 41 = .ok (.ireturn, 1) := by decide +kernel
theorem dJ6_bitCount_0f7a4_0 : decode cJ6_bitCount_0f7a4 0 = .ok (.iload_n 0, 1) := by decide +kernel
theorem dJ6_bitCount_0f7a4_1 : decode cJ6_bitCount_0f7a4 1 = .ok (.iload_n 0, 1) := by decide +kernel
theorem dJ6_bitCount_0f7a4_2 : decode cJ6_bitCount_0f7a4 2 = .ok (.iconst 1, 1) := by decide +kernel
theorem dJ6_bitCount_0f7a4_3 : decode cJ6_bitCount_0f7a4 3 = .ok (.iushr, 1) := by decide +kernel
theorem dJ6_bitCount_0f7a4_4 : decode cJ6_bitCount_0f7a4 4 = .ok (.ldc_w 265, 3) := by decide +kernel
theorem dJ6_bitCount_0f7a4_7 : decode cJ6_bitCount_0f7a4 7 = .ok (.iand, 1) := by decide +kernel
theorem dJ6_bitCount_0f7a4_8 : decode cJ6_bitCount_0f7a4 8 = .ok (.isub, 1) := by decide +kernel
theorem dJ6_bitCount_0f7a4_9 : decode cJ6_bitCount_0f7a4 9 = .ok (.istore_n 0, 1) := by decide +kernel
theorem dJ6_bitCount_0f7a4_10 : decode cJ6_bitCount_0f7a4 10 = .ok (.iload_n 0, 1) := by decide +kernel
theorem dJ6_bitCount_0f7a4_11 : decode cJ6_bitCount_0f7a4 11 = .ok (.ldc_w 266, 3) := by decide +kernel
theorem dJ6_bitCount_0f7a4_14 : decode cJ6_bitCount_0f7a4 14 = .ok (.iand, 1) := by decide +kernel
theorem dJ6_bitCount_0f7a4_15 : decode cJ6_bitCount_0f7a4 15 = .ok (.iload_n 0, 1) := by decide +kernel
theorem dJ6_bitCount_0f7a4_16 : decode cJ6_bitCount_0f7a4 16 = .ok (.iconst 2, 1) := by decide +kernel
theorem dJ6_bitCount_0f7a4_17 : decode cJ6_bitCount_0f7a4 17 = .ok (.iushr, 1) := by decide +kernel
theorem dJ6_bitCount_0f7a4_18 : decode cJ6_bitCount_0f7a4 18 = .ok (.ldc_w 266, 3) := by decide +kernel
theorem dJ6_bitCount_0f7a4_21 : decode cJ6_bitCount_0f7a4 21 = .ok (.iand, 1) := by decide +kernel
theorem dJ6_bitCount_0f7a4_22 : decode cJ6_bitCount_0f7a4 22 = .ok (.iadd, 1) := by decide +kernel
theorem dJ6_bitCount_0f7a4_23 : decode cJ6_bitCount_0f7a4 23 = .ok (.istore_n 0, 1) := by decide +kernel
theorem dJ6_bitCount_0f7a4_24 : decode cJ6_bitCount_0f7a4 24 = .ok (.iload_n 0, 1) := by decide +kernel
theorem dJ6_bitCount_0f7a4_25 : decode cJ6_bitCount_0f7a4 25 = .ok (.iload_n 0, 1) := by decide +kernel
theorem dJ6_bitCount_0f7a4_26 : decode cJ6_bitCount_0f7a4 26 = .ok (.iconst 4, 1) := by decide +kernel
theorem dJ6_bitCount_0f7a4_27 : decode cJ6_bitCount_0f7a4 27 = .ok (.iushr, 1) := by decide +kernel
theorem dJ6_bitCount_0f7a4_28 : decode cJ6_bitCount_0f7a4 28 = .ok (.iadd, 1) := by decide +kernel
theorem dJ6_bitCount_0f7a4_29 : decode cJ6_bitCount_0f7a4 29 = .ok (.ldc_w 267, 3) := by decide +kernel
theorem dJ6_bitCount_0f7a4_32 : decode cJ6_bitCount_0f7a4 32 = .ok (.iand, 1) := by decide +kernel
theorem dJ6_bitCount_0f7a4_33 : decode cJ6_bitCount_0f7a4 33 = .ok (.istore_n 0, 1) := by decide +kernel
theorem dJ6_bitCount_0f7a4_34 : decode cJ6_bitCount_0f7a4 34 = .ok (.iload_n 0, 1) := by decide +kernel
theorem dJ6_bitCount_0f7a4_35 : decode cJ6_bitCount_0f7a4 35 = .ok (.iload_n 0, 1) := by decide +kernel
theorem dJ6_bitCount_0f7a4_36 : decode cJ6_bitCount_0f7a4 36 = .ok (.bipush 8, 2) := by decide +kernel
theorem dJ6_bitCount_0f7a4_38 : decode cJ6_bitCount_0f7a4 38 = .ok (.iushr, 1) := by decide +kernel
theorem dJ6_bitCount_0f7a4_39 : decode cJ6_bitCount_0f7a4 39 = .ok (.iadd, 1) := by decide +kernel
theorem dJ6_bitCount_0f7a4_40 : decode cJ6_bitCount_0f7a4 40 = .ok (.istore_n 0, 1) := by decide +kernel
theorem dJ6_bitCount_0f7a4_41 : decode cJ6_bitCount_0f7a4 41 = .ok (.iload_n 0, 1) := by decide +kernel
theorem dJ6_bitCount_0f7a4_42 : decode cJ6_bitCount_0f7a4 42 = .ok (.iload_n 0, 1) := by decide +kernel
theorem dJ6_bitCount_0f7a4_43 : decode cJ6_bitCount_0f7a4 43 = .ok (.bipush 16, 2) := by decide +kernel
theorem dJ6_bitCount_0f7a4_45 : decode cJ6_bitCount_0f7a4 45 = .ok (.iushr, 1) := by decide +kernel
theorem dJ6_bitCount_0f7a4_46 : decode cJ6_bitCount_0f7a4 46 = .ok (.iadd, 1) := by decide +kernel
theorem dJ6_bitCount_0f7a4_47 : decode cJ6_bitCount_0f7a4 47 = .ok (.istore_n 0, 1) := by decide +kernel
theorem dJ6_bitCount_0f7a4_48 : decode cJ6_bitCount_0f7a4 48 = .ok (.iload_n 0, 1) := by decide +kernel
theorem dJ6_bitCount_0f7a4_49 : decode cJ6_bitCount_0f7a4 49 = .ok (.bipush 63, 2) := by decide +kernel
theorem dJ6_bitCount_0f7a4_51 : decode cJ6_bitCount_0f7a4 51 = .ok (.iand, 1) := by decide +kernel
theorem dJ6_bitCount_0f7a4_52 : decode cJ6_bitCount_0f7a4 52 = .ok (.ireturn, 1) := by decide +kernel
theorem dJ9_floorDiv_7cf53_0 : decode cJ9_floorDiv_7cf53 0 = .ok (.iload_n 0, 1) := by decide +kernel
theorem dJ9_floorDiv_7cf53_1 : decode cJ9_floorDiv_7cf53 1 = .ok (.iload_n 1, 1) := by decide +kernel
theorem dJ9_floorDiv_7cf53_2 : decode cJ9_floorDiv_7cf53 2 = .ok (.idiv, 1) := by decide +kernel
theorem dJ9_floorDiv_7cf53_3 : decode cJ9_floorDiv_7cf53 3 = .ok (.istore_n 2, 1) := by decide +kernel
theorem dJ9_floorDiv_7cf53_4 : decode cJ9_floorDiv_7cf53 4 = .ok (.iload_n 0, 1) := by decide +kernel
theorem dJ9_floorDiv_7cf53_5 : decode cJ9_floorDiv_7cf53 5 = .ok (.iload_n 1, 1) := by decide +kernel
theorem dJ9_floorDiv_7cf53_6 : decode cJ9_floorDiv_7cf53 6 = .ok (.ixor, 1) := by decide +kernel
theorem dJ9_floorDiv_7cf53_7 : decode cJ9_floorDiv_7cf53 7 = .ok (.ifCond .ge 14, 3) := by decide +kernel
theorem dJ9_floorDiv_7cf53_10 : decode cJ9_floorDiv_7cf53 10 = .ok (.iload_n 2, 1) := by decide +kernel
theorem dJ9_floorDiv_7cf53_11 : decode cJ9_floorDiv_7cf53 11 = .ok (.iload_n 1, 1) := by decide +kernel
theorem dJ9_floorDiv_7cf53_12 : decode cJ9_floorDiv_7cf53 12 = .ok (.imul, 1) := by decide +kernel
theorem dJ9_floorDiv_7cf53_13 : decode cJ9_floorDiv_7cf53 13 = .ok (.iload_n 0, 1) := by decide +kernel
theorem dJ9_floorDiv_7cf53_14 : decode cJ9_floorDiv_7cf53 14 = .ok (.if_icmp .eq 7, 3) := by decide +kernel
theorem dJ9_floorDiv_7cf53_17 : decode cJ9_floorDiv_7cf53 17 = .ok (.iload_n 2, 1) := by decide +kernel
theorem dJ9_floorDiv_7cf53_18 : decode cJ9_floorDiv_7cf53 18 = .ok (.iconst 1, 1) := by decide +kernel
theorem dJ9_floorDiv_7cf53_19 : decode cJ9_floorDiv_7cf53 19 = .ok (.isub, 1) := by decide +kernel
theorem dJ9_floorDiv_7cf53_20 : decode cJ9_floorDiv_7cf53 20 = .ok (.ireturn, 1) := by decide +kernel
theorem dJ9_floorDiv_7cf53_21 : decode cJ9_floorDiv_7cf53 21 = .ok (.iload_n 2, 1) := by decide +kernel
theorem dJ9_floorDiv_7cf53_22 : decode cJ9_floorDiv_7cf53 22 = .ok (.ireturn, 1) := by decide +kernel
theorem dJ9_floorDiv_f86c9_0 : decode cJ9_floorDiv_f86c9 0 = .ok (.lload_n 0, 1) := by decide +kernel
theorem dJ9_floorDiv_f86c9_1 : decode cJ9_floorDiv_f86c9 1 = .ok (.lload_n 2, 1) := by decide +kernel
theorem dJ9_floorDiv_f86c9_2 : decode cJ9_floorDiv_f86c9 2 = .ok (.ldiv, 1) := by decide +kernel
theorem dJ9_floorDiv_f86c9_3 : decode cJ9_floorDiv_f86c9 3 = .ok (.lstore 4, 2) := by decide +kernel
theorem dJ9_floorDiv_f86c9_5 : decode cJ9_floorDiv_f86c9 5 = .ok (.lload_n 0, 1) := by decide +kernel
theorem dJ9_floorDiv_f86c9_6 : decode cJ9_floorDiv_f86c9 6 = .ok (.lload_n 2, 1) := by decide +kernel
theorem dJ9_floorDiv_f86c9_7 : decode cJ9_floorDiv_f86c9 7 = .ok (.lxor, 1) := by decide +kernel
theorem dJ9_floorDiv_f86c9_8 : decode cJ9_floorDiv_f86c9 8 = .ok (.lconst 0, 1) := by decide +kernel
theorem dJ9_floorDiv_f86c9_9 : decode cJ9_floorDiv_f86c9 9 = .ok (.lcmp, 1) := by decide +kernel
theorem dJ9_floorDiv_f86c9_10 : decode cJ9_floorDiv_f86c9 10 = .ok (.ifCond .ge 17, 3) := by decide +kernel
theorem dJ9_floorDiv_f86c9_13 : decode cJ9_floorDiv_f86c9 13 = .ok (.lload 4, 2) := by decide +kernel
theorem dJ9_floorDiv_f86c9_15 : decode cJ9_floorDiv_f86c9 15 = .ok (.lload_n 2, 1) := by decide +kernel
theorem dJ9_floorDiv_f86c9_16 : decode cJ9_floorDiv_f86c9 16 = .ok (.lmul, 1) := by decide +kernel
theorem dJ9_floorDiv_f86c9_17 : decode cJ9_floorDiv_f86c9 17 = .ok (.lload_n 0, 1) := by decide +kernel
theorem dJ9_floorDiv_f86c9_18 : decode cJ9_floorDiv_f86c9 18 = .ok (.lcmp, 1) := by decide +kernel
theorem dJ9_floorDiv_f86c9_19 : decode cJ9_floorDiv_f86c9 19 = .ok (.ifCond .eq 8, 3) := by decide +kernel
theorem dJ9_floorDiv_f86c9_22 : decode cJ9_floorDiv_f86c9 22 = .ok (.lload 4, 2) := by decide +kernel
theorem dJ9_floorDiv_f86c9_24 : decode cJ9_floorDiv_f86c9 24 = .ok (.lconst 1, 1) := by decide +kernel
theorem dJ9_floorDiv_f86c9_25 : decode cJ9_floorDiv_f86c9 25 = .ok (.lsub, 1) := by decide +kernel
theorem dJ9_floorDiv_f86c9_26 : decode cJ9_floorDiv_f86c9 26 = .ok (.lreturn, 1) := by decide +kernel
theorem dJ9_floorDiv_f86c9_27 : decode cJ9_floorDiv_f86c9 27 = .ok (.lload 4, 2) := by decide +kernel
theorem dJ9_floorDiv_f86c9_29 : decode cJ9_floorDiv_f86c9 29 = .ok (.lreturn, 1) := by decide +kernel
theorem dJ9_max_7cf53_0 : decode cJ9_max_7cf53 0 = .ok (.iload_n 0, 1) := by decide +kernel
theorem dJ9_max_7cf53_1 : decode cJ9_max_7cf53 1 = .ok (.iload_n 1, 1) := by decide +kernel
theorem dJ9_max_7cf53_2 : decode cJ9_max_7cf53 2 = .ok (.if_icmp .lt 7, 3) := by decide +kernel
theorem dJ9_max_7cf53_5 : decode cJ9_max_7cf53 5 = .ok (.iload_n 0, 1) := by decide +kernel
theorem dJ9_max_7cf53_6 : decode cJ9_max_7cf53 6 = .ok (.goto 4, 3) := by decide +kernel
theorem dJ9_max_7cf53_9 : decode cJ9_max_7cf53 9 = .ok (.iload_n 1, 1) := by decide +kernel
theorem dJ9_max_7cf53_10 : decode cJ9_max_7cf53 10 = .ok (.ireturn, 1) := by decide +kernel
theorem dJ9_min_7cf53_0 : decode cJ9_min_7cf53 0 = .ok (.iload_n 0, 1) := by decide +kernel
theorem dJ9_min_7cf53_1 : decode cJ9_min_7cf53 1 = .ok (.iload_n 1, 1) := by decide +kernel
theorem dJ9_min_7cf53_2 : decode cJ9_min_7cf53 2 = .ok (.if_icmp .gt 7, 3) := by decide +kernel
theorem dJ9_min_7cf53_5 : decode cJ9_min_7cf53 5 = .ok (.iload_n 0, 1) := by decide +kernel
theorem dJ9_min_7cf53_6 : decode cJ9_min_7cf53 6 = .ok (.goto 4, 3) := by decide +kernel
theorem dJ9_min_7cf53_9 : decode cJ9_min_7cf53 9 = .ok (.iload_n 1, 1) := by decide +kernel
theorem dJ9_min_7cf53_10 : decode cJ9_min_7cf53 10 = .ok (.ireturn, 1) := by decide +kernel
theorem dJ9_min_f86c9_0 : decode cJ9_min_f86c9 0 = .ok (.lload_n 0, 1) := by decide +kernel
theorem dJ9_min_f86c9_1 : decode cJ9_min_f86c9 1 = .ok (.lload_n 2, 1) := by decide +kernel
theorem dJ9_min_f86c9_2 : decode cJ9_min_f86c9 2 = .ok (.lcmp, 1) := by decide +kernel
theorem dJ9_min_f86c9_3 : decode cJ9_min_f86c9 3 = .ok (.ifCond .gt 7, 3) := by decide +kernel
theorem dJ9_min_f86c9_6 : decode cJ9_min_f86c9 6 = .ok (.lload_n 0, 1) := by decide +kernel
theorem dJ9_min_f86c9_7 : decode cJ9_min_f86c9 7 = .ok (.goto 4, 3) := by decide +kernel
theorem dJ9_min_f86c9_10 : decode cJ9_min_f86c9 10 = .ok (.lload_n 2, 1) := by decide +kernel
theorem dJ9_min_f86c9_11 : decode cJ9_min_f86c9 11 = .ok (.lreturn, 1) := by decide +kernel
end
section
theorem dX3_init_0 : decode cX3_init 0 = .ok (.aload_n 0, 1) := by decide +kernel
theorem dX3_init_1 : decode cX3_init 1 = .ok (.invokespecial 1, 3) := by decide +kernel
theorem dX3_init_4 : decode cX3_init 4 = .ok (.aload_n 0, 1) := by decide +kernel
theorem dX3_init_5 : decode cX3_init 5 = .ok (.bipush 60, 2) := by decide +kernel
theorem dX3_init_7 : decode cX3_init 7 = .ok (.newarray .int, 2) := by decide +kernel
theorem dX3_init_9 : decode cX3_init 9 = .ok (.putfield 9, 3) := by decide +kernel
theorem dX3_init_12 : decode cX3_init 12 = .ok (.aload_n 0, 1) := by decide +kernel
theorem dX3_init_13 : decode cX3_init 13 = .ok (.bipush 60, 2) := by decide +kernel
theorem dX3_init_15 : decode cX3_init 15 = .ok (.newarray .int, 2) := by decide +kernel
theorem dX3_init_17 : decode cX3_init 17 = .ok (.putfield 13, 3) := by decide +kernel
theorem dX3_init_20 : decode cX3_init 20 = .ok (.aload_n 0, 1) := by decide +kernel
theorem dX3_init_21 : decode cX3_init 21 = .ok (.bipush 60, 2) := by decide +kernel
theorem dX3_init_23 : decode cX3_init 23 = .ok (.newarray .int, 2) := by decide +kernel
theorem dX3_init_25 : decode cX3_init 25 = .ok (.putfield 16, 3) := by decide +kernel
theorem dX3_init_28 : decode cX3_init 28 = .ok (.aload_n 0, 1) := by decide +kernel
theorem dX3_init_29 : decode cX3_init 29 = .ok (.bipush 60, 2) := by decide +kernel
theorem dX3_init_31 : decode cX3_init 31 = .ok (.newarray .int, 2) := by decide +kernel
theorem dX3_init_33 : decode cX3_init 33 = .ok (.putfield 19, 3) := by decide +kernel
theorem dX3_init_36 : decode cX3_init 36 = .ok (.aload_n 0, 1) := by decide +kernel
theorem dX3_init_37 : decode cX3_init 37 = .ok (.bipush 60, 2) := by decide +kernel
theorem dX3_init_39 : decode cX3_init 39 = .ok (.newarray .int, 2) := by decide +kernel
theorem dX3_init_41 : decode cX3_init 41 = .ok (.putfield 22, 3) := by decide +kernel
theorem dX3_init_44 : decode cX3_init 44 = .ok (.aload_n 0, 1) := by decide +kernel
theorem dX3_init_45 : decode cX3_init 45 = .ok (.bipush 10, 2) := by decide +kernel
theorem dX3_init_47 : decode cX3_init 47 = .ok (.anewarray 25, 3) := by decide +kernel
theorem dX3_init_50 : decode cX3_init 50 = .ok (.putfield 27, 3) := by decide +kernel
theorem dX3_init_53 : decode cX3_init 53 = .ok (.iconst 0, 1) := by decide +kernel
theorem dX3_init_54 : decode cX3_init 54 = .ok (.istore_n 1, 1) := by decide +kernel
theorem dX3_init_55 : decode cX3_init 55 = .ok (.iload_n 1, 1) := by decide +kernel
theorem dX3_init_56 : decode cX3_init 56 = .ok (.bipush 10, 2) := by decide +kernel
theorem dX3_init_58 : decode cX3_init 58 = .ok (.if_icmp .ge 22, 3) := by decide +kernel
theorem dX3_init_61 : decode cX3_init 61 = .ok (.aload_n 0, 1) := by decide +kernel
theorem dX3_init_62 : decode cX3_init 62 = .ok (.getfield 27, 3) := by decide +kernel
theorem dX3_init_65 : decode cX3_init 65 = .ok (.iload_n 1, 1) := by decide +kernel
theorem dX3_init_66 : decode cX3_init 66 = .ok (.new 25, 3) := by decide +kernel
theorem dX3_init_69 : decode cX3_init 69 = .ok (.dup, 1) := by decide +kernel
theorem dX3_init_70 : decode cX3_init 70 = .ok (.invokespecial 31, 3) := by decide +kernel
theorem dX3_init_73 : decode cX3_init 73 = .ok (.aastore, 1) := by decide +kernel
theorem dX3_init_74 : decode cX3_init 74 = .ok (.iinc 1 1, 3) := by decide +kernel
theorem dX3_init_77 : decode cX3_init 77 = .ok (.goto (-22), 3) := by decide +kernel
theorem dX3_init_80 : decode cX3_init 80 = .ok (.aload_n 0, 1) := by decide +kernel
theorem dX3_init_81 : decode cX3_init 81 = .ok (.new 32, 3) := by decide +kernel
theorem dX3_init_84 : decode cX3_init 84 = .ok (.dup, 1) := by decide +kernel
theorem dX3_init_85 : decode cX3_init 85 = .ok (.invokespecial 34, 3) := by decide +kernel
theorem dX3_init_88 : decode cX3_init 88 = .ok (.putfield 35, 3) := by decide +kernel
theorem dX3_init_91 : decode cX3_init 91 = .ok (.aload_n 0, 1) := by decide +kernel
theorem dX3_init_92 : decode cX3_init 92 = .ok (.new 39, 3) := by decide +kernel
theorem dX3_init_95 : decode cX3_init 95 = .ok (.dup, 1) := by decide +kernel
theorem dX3_init_96 : decode cX3_init 96 = .ok (.invokespecial 41, 3) := by decide +kernel
theorem dX3_init_99 : decode cX3_init 99 = .ok (.putfield 42, 3) := by decide +kernel
theorem dX3_init_102 : decode cX3_init 102 = .ok (.aload_n 0, 1) := by decide +kernel
theorem dX3_init_103 : decode cX3_init 103 = .ok (.iconst 5, 1) := by decide +kernel
theorem dX3_init_104 : decode cX3_init 104 = .ok (.invokevirtual 46, 3) := by decide +kernel
theorem dX3_init_107 : decode cX3_init 107 = .ok (.return_, 1) := by decide +kernel
theorem dX3_begin_0 : decode cX3_begin 0 = .ok (.iload_n 1, 1) := by decide +kernel
theorem dX3_begin_1 : decode cX3_begin 1 = .ok (.iconst 2, 1) := by decide +kernel
theorem dX3_begin_2 : decode cX3_begin 2 = .ok (.if_icmp .lt 9, 3) := by decide +kernel
theorem dX3_begin_5 : decode cX3_begin 5 = .ok (.iload_n 1, 1) := by decide +kernel
theorem dX3_begin_6 : decode cX3_begin 6 = .ok (.bipush 6, 2) := by decide +kernel
theorem dX3_begin_8 : decode cX3_begin 8 = .ok (.if_icmp .le 13, 3) := by decide +kernel
theorem dX3_begin_11 : decode cX3_begin 11 = .ok (.new 50, 3) := by decide +kernel
theorem dX3_begin_14 : decode cX3_begin 14 = .ok (.dup, 1) := by decide +kernel
theorem dX3_begin_15 : decode cX3_begin 15 = .ok (.ldc 52, 2) := by decide +kernel
theorem dX3_begin_17 : decode cX3_begin 17 = .ok (.invokespecial 54, 3) := by decide +kernel
theorem dX3_begin_20 : decode cX3_begin 20 = .ok (.athrow, 1) := by decide +kernel
theorem dX3_begin_21 : decode cX3_begin 21 = .ok (.aload_n 0, 1) := by decide +kernel
theorem dX3_begin_22 : decode cX3_begin 22 = .ok (.iload_n 1, 1) := by decide +kernel
theorem dX3_begin_23 : decode cX3_begin 23 = .ok (.invokevirtual 46, 3) := by decide +kernel
theorem dX3_begin_26 : decode cX3_begin 26 = .ok (.return_, 1) := by decide +kernel
theorem dX3_put_0 : decode cX3_put 0 = .ok (.iload_n 1, 1) := by decide +kernel
theorem dX3_put_1 : decode cX3_put 1 = .ok (.invokestatic 57, 3) := by decide +kernel
theorem dX3_put_4 : decode cX3_put 4 = .ok (.ifCond .ne 13, 3) := by decide +kernel
theorem dX3_put_7 : decode cX3_put 7 = .ok (.new 50, 3) := by decide +kernel
theorem dX3_put_10 : decode cX3_put 10 = .ok (.dup, 1) := by decide +kernel
theorem dX3_put_11 : decode cX3_put 11 = .ok (.ldc 61, 2) := by decide +kernel
theorem dX3_put_13 : decode cX3_put 13 = .ok (.invokespecial 54, 3) := by decide +kernel
theorem dX3_put_16 : decode cX3_put 16 = .ok (.athrow, 1) := by decide +kernel
theorem dX3_put_17 : decode cX3_put 17 = .ok (.aload_n 0, 1) := by decide +kernel
theorem dX3_put_18 : decode cX3_put 18 = .ok (.getfield 63, 3) := by decide +kernel
theorem dX3_put_21 : decode cX3_put 21 = .ok (.bipush 60, 2) := by decide +kernel
theorem dX3_put_23 : decode cX3_put 23 = .ok (.if_icmp .lt 13, 3) := by decide +kernel
theorem dX3_put_26 : decode cX3_put 26 = .ok (.new 67, 3) := by decide +kernel
theorem dX3_put_29 : decode cX3_put 29 = .ok (.dup, 1) := by decide +kernel
theorem dX3_put_30 : decode cX3_put 30 = .ok (.ldc 69, 2) := by decide +kernel
theorem dX3_put_32 : decode cX3_put 32 = .ok (.invokespecial 71, 3) := by decide +kernel
theorem dX3_put_35 : decode cX3_put 35 = .ok (.athrow, 1) := by decide +kernel
theorem dX3_put_36 : decode cX3_put 36 = .ok (.aload_n 0, 1) := by decide +kernel
theorem dX3_put_37 : decode cX3_put 37 = .ok (.iload_n 1, 1) := by decide +kernel
theorem dX3_put_38 : decode cX3_put 38 = .ok (.invokevirtual 72, 3) := by decide +kernel
theorem dX3_put_41 : decode cX3_put 41 = .ok (.aload_n 0, 1) := by decide +kernel
theorem dX3_put_42 : decode cX3_put 42 = .ok (.getfield 75, 3) := by decide +kernel
theorem dX3_put_45 : decode cX3_put 45 = .ok (.aload_n 0, 1) := by decide +kernel
theorem dX3_put_46 : decode cX3_put 46 = .ok (.getfield 78, 3) := by decide +kernel
theorem dX3_put_49 : decode cX3_put 49 = .ok (.if_icmp .ge 5, 3) := by decide +kernel
theorem dX3_put_52 : decode cX3_put 52 = .ok (.iconst 0, 1) := by decide +kernel
theorem dX3_put_53 : decode cX3_put 53 = .ok (.ireturn, 1) := by decide +kernel
theorem dX3_put_54 : decode cX3_put 54 = .ok (.aload_n 0, 1) := by decide +kernel
theorem dX3_put_55 : decode cX3_put 55 = .ok (.invokevirtual 81, 3) := by decide +kernel
theorem dX3_put_58 : decode cX3_put 58 = .ok (.iconst 1, 1) := by decide +kernel
theorem dX3_put_59 : decode cX3_put 59 = .ok (.ireturn, 1) := by decide +kernel
theorem dX3_newPhase_0 : decode cX3_newPhase 0 = .ok (.aload_n 0, 1) := by decide +kernel
theorem dX3_newPhase_1 : decode cX3_newPhase 1 = .ok (.getfield 84, 3) := by decide +kernel
theorem dX3_newPhase_4 : decode cX3_newPhase 4 = .ok (.bipush 10, 2) := by decide +kernel
theorem dX3_newPhase_6 : decode cX3_newPhase 6 = .ok (.if_icmp .lt 13, 3) := by decide +kernel
theorem dX3_newPhase_9 : decode cX3_newPhase 9 = .ok (.new 67, 3) := by decide +kernel
theorem dX3_newPhase_12 : decode cX3_newPhase 12 = .ok (.dup, 1) := by decide +kernel
theorem dX3_newPhase_13 : decode cX3_newPhase 13 = .ok (.ldc 87, 2) := by decide +kernel
theorem dX3_newPhase_15 : decode cX3_newPhase 15 = .ok (.invokespecial 71, 3) := by decide +kernel
theorem dX3_newPhase_18 : decode cX3_newPhase 18 = .ok (.athrow, 1) := by decide +kernel
theorem dX3_newPhase_19 : decode cX3_newPhase 19 = .ok (.aload_n 0, 1) := by decide +kernel
theorem dX3_newPhase_20 : decode cX3_newPhase 20 = .ok (.getfield 75, 3) := by decide +kernel
theorem dX3_newPhase_23 : decode cX3_newPhase 23 = .ok (.ifCond .le 13, 3) := by decide +kernel
theorem dX3_newPhase_26 : decode cX3_newPhase 26 = .ok (.new 67, 3) := by decide +kernel
theorem dX3_newPhase_29 : decode cX3_newPhase 29 = .ok (.dup, 1) := by decide +kernel
theorem dX3_newPhase_30 : decode cX3_newPhase 30 = .ok (.ldc 89, 2) := by decide +kernel
theorem dX3_newPhase_32 : decode cX3_newPhase 32 = .ok (.invokespecial 71, 3) := by decide +kernel
theorem dX3_newPhase_35 : decode cX3_newPhase 35 = .ok (.athrow, 1) := by decide +kernel
theorem dX3_newPhase_36 : decode cX3_newPhase 36 = .ok (.aload_n 0, 1) := by decide +kernel
theorem dX3_newPhase_37 : decode cX3_newPhase 37 = .ok (.invokevirtual 91, 3) := by decide +kernel
theorem dX3_newPhase_40 : decode cX3_newPhase 40 = .ok (.getfield 95, 3) := by decide +kernel
theorem dX3_newPhase_43 : decode cX3_newPhase 43 = .ok (.aload_n 0, 1) := by decide +kernel
theorem dX3_newPhase_44 : decode cX3_newPhase 44 = .ok (.getfield 63, 3) := by decide +kernel
theorem dX3_newPhase_47 : decode cX3_newPhase 47 = .ok (.if_icmp .lt 13, 3) := by decide +kernel
theorem dX3_newPhase_50 : decode cX3_newPhase 50 = .ok (.new 67, 3) := by decide +kernel
theorem dX3_newPhase_53 : decode cX3_newPhase 53 = .ok (.dup, 1) := by decide +kernel
theorem dX3_newPhase_54 : decode cX3_newPhase 54 = .ok (.ldc 98, 2) := by decide +kernel
theorem dX3_newPhase_56 : decode cX3_newPhase 56 = .ok (.invokespecial 71, 3) := by decide +kernel
theorem dX3_newPhase_59 : decode cX3_newPhase 59 = .ok (.athrow, 1) := by decide +kernel
theorem dX3_newPhase_60 : decode cX3_newPhase 60 = .ok (.aload_n 0, 1) := by decide +kernel
theorem dX3_newPhase_61 : decode cX3_newPhase 61 = .ok (.getfield 27, 3) := by decide +kernel
theorem dX3_newPhase_64 : decode cX3_newPhase 64 = .ok (.aload_n 0, 1) := by decide +kernel
theorem dX3_newPhase_65 : decode cX3_newPhase 65 = .ok (.getfield 84, 3) := by decide +kernel
theorem dX3_newPhase_68 : decode cX3_newPhase 68 = .ok (.aaload, 1) := by decide +kernel
theorem dX3_newPhase_69 : decode cX3_newPhase 69 = .ok (.aload_n 0, 1) := by decide +kernel
theorem dX3_newPhase_70 : decode cX3_newPhase 70 = .ok (.getfield 63, 3) := by decide +kernel
theorem dX3_newPhase_73 : decode cX3_newPhase 73 = .ok (.invokevirtual 100, 3) := by decide +kernel
theorem dX3_newPhase_76 : decode cX3_newPhase 76 = .ok (.aload_n 0, 1) := by decide +kernel
theorem dX3_newPhase_77 : decode cX3_newPhase 77 = .ok (.dup, 1) := by decide +kernel
theorem dX3_newPhase_78 : decode cX3_newPhase 78 = .ok (.getfield 84, 3) := by decide +kernel
theorem dX3_newPhase_81 : decode cX3_newPhase 81 = .ok (.iconst 1, 1) := by decide +kernel
theorem dX3_newPhase_82 : decode cX3_newPhase 82 = .ok (.iadd, 1) := by decide +kernel
theorem dX3_newPhase_83 : decode cX3_newPhase 83 = .ok (.putfield 84, 3) := by decide +kernel
theorem dX3_newPhase_86 : decode cX3_newPhase 86 = .ok (.aload_n 0, 1) := by decide +kernel
theorem dX3_newPhase_87 : decode cX3_newPhase 87 = .ok (.getfield 84, 3) := by decide +kernel
theorem dX3_newPhase_90 : decode cX3_newPhase 90 = .ok (.iconst 1, 1) := by decide +kernel
theorem dX3_newPhase_91 : decode cX3_newPhase 91 = .ok (.isub, 1) := by decide +kernel
theorem dX3_newPhase_92 : decode cX3_newPhase 92 = .ok (.ireturn, 1) := by decide +kernel
theorem dX3_freeze_0 : decode cX3_freeze 0 = .ok (.aload_n 0, 1) := by decide +kernel
theorem dX3_freeze_1 : decode cX3_freeze 1 = .ok (.iload_n 1, 1) := by decide +kernel
theorem dX3_freeze_2 : decode cX3_freeze 2 = .ok (.invokevirtual 101, 3) := by decide +kernel
theorem dX3_freeze_5 : decode cX3_freeze 5 = .ok (.astore_n 2, 1) := by decide +kernel
theorem dX3_freeze_6 : decode cX3_freeze 6 = .ok (.aload_n 2, 1) := by decide +kernel
theorem dX3_freeze_7 : decode cX3_freeze 7 = .ok (.getfield 105, 3) := by decide +kernel
theorem dX3_freeze_10 : decode cX3_freeze 10 = .ok (.ifCond .eq 13, 3) := by decide +kernel
theorem dX3_freeze_13 : decode cX3_freeze 13 = .ok (.new 67, 3) := by decide +kernel
theorem dX3_freeze_16 : decode cX3_freeze 16 = .ok (.dup, 1) := by decide +kernel
theorem dX3_freeze_17 : decode cX3_freeze 17 = .ok (.ldc 109, 2) := by decide +kernel
theorem dX3_freeze_19 : decode cX3_freeze 19 = .ok (.invokespecial 71, 3) := by decide +kernel
theorem dX3_freeze_22 : decode cX3_freeze 22 = .ok (.athrow, 1) := by decide +kernel
theorem dX3_freeze_23 : decode cX3_freeze 23 = .ok (.aload_n 2, 1) := by decide +kernel
theorem dX3_freeze_24 : decode cX3_freeze 24 = .ok (.getfield 111, 3) := by decide +kernel
theorem dX3_freeze_27 : decode cX3_freeze 27 = .ok (.iconst 2, 1) := by decide +kernel
theorem dX3_freeze_28 : decode cX3_freeze 28 = .ok (.if_icmp .ge 13, 3) := by decide +kernel
theorem dX3_freeze_31 : decode cX3_freeze 31 = .ok (.new 67, 3) := by decide +kernel
theorem dX3_freeze_34 : decode cX3_freeze 34 = .ok (.dup, 1) := by decide +kernel
theorem dX3_freeze_35 : decode cX3_freeze 35 = .ok (.ldc 114, 2) := by decide +kernel
theorem dX3_freeze_37 : decode cX3_freeze 37 = .ok (.invokespecial 71, 3) := by decide +kernel
theorem dX3_freeze_40 : decode cX3_freeze 40 = .ok (.athrow, 1) := by decide +kernel
theorem dX3_freeze_41 : decode cX3_freeze 41 = .ok (.aload_n 2, 1) := by decide +kernel
theorem dX3_freeze_42 : decode cX3_freeze 42 = .ok (.iconst 1, 1) := by decide +kernel
theorem dX3_freeze_43 : decode cX3_freeze 43 = .ok (.putfield 105, 3) := by decide +kernel
theorem dX3_freeze_46 : decode cX3_freeze 46 = .ok (.return_, 1) := by decide +kernel
theorem dX3_thaw_0 : decode cX3_thaw 0 = .ok (.aload_n 0, 1) := by decide +kernel
theorem dX3_thaw_1 : decode cX3_thaw 1 = .ok (.iload_n 1, 1) := by decide +kernel
theorem dX3_thaw_2 : decode cX3_thaw 2 = .ok (.invokevirtual 101, 3) := by decide +kernel
theorem dX3_thaw_5 : decode cX3_thaw 5 = .ok (.astore_n 2, 1) := by decide +kernel
theorem dX3_thaw_6 : decode cX3_thaw 6 = .ok (.aload_n 2, 1) := by decide +kernel
theorem dX3_thaw_7 : decode cX3_thaw 7 = .ok (.getfield 105, 3) := by decide +kernel
theorem dX3_thaw_10 : decode cX3_thaw 10 = .ok (.ifCond .ne 13, 3) := by decide +kernel
theorem dX3_thaw_13 : decode cX3_thaw 13 = .ok (.new 67, 3) := by decide +kernel
theorem dX3_thaw_16 : decode cX3_thaw 16 = .ok (.dup, 1) := by decide +kernel
theorem dX3_thaw_17 : decode cX3_thaw 17 = .ok (.ldc 116, 2) := by decide +kernel
theorem dX3_thaw_19 : decode cX3_thaw 19 = .ok (.invokespecial 71, 3) := by decide +kernel
theorem dX3_thaw_22 : decode cX3_thaw 22 = .ok (.athrow, 1) := by decide +kernel
theorem dX3_thaw_23 : decode cX3_thaw 23 = .ok (.aload_n 2, 1) := by decide +kernel
theorem dX3_thaw_24 : decode cX3_thaw 24 = .ok (.iconst 0, 1) := by decide +kernel
theorem dX3_thaw_25 : decode cX3_thaw 25 = .ok (.putfield 105, 3) := by decide +kernel
theorem dX3_thaw_28 : decode cX3_thaw 28 = .ok (.aload_n 2, 1) := by decide +kernel
theorem dX3_thaw_29 : decode cX3_thaw 29 = .ok (.aload_n 0, 1) := by decide +kernel
theorem dX3_thaw_30 : decode cX3_thaw 30 = .ok (.getfield 78, 3) := by decide +kernel
theorem dX3_thaw_33 : decode cX3_thaw 33 = .ok (.invokevirtual 118, 3) := by decide +kernel
theorem dX3_thaw_36 : decode cX3_thaw 36 = .ok (.return_, 1) := by decide +kernel
theorem dX3_exclude_0 : decode cX3_exclude 0 = .ok (.aload_n 0, 1) := by decide +kernel
theorem dX3_exclude_1 : decode cX3_exclude 1 = .ok (.iload_n 1, 1) := by decide +kernel
theorem dX3_exclude_2 : decode cX3_exclude 2 = .ok (.invokevirtual 121, 3) := by decide +kernel
theorem dX3_exclude_5 : decode cX3_exclude 5 = .ok (.iload_n 2, 1) := by decide +kernel
theorem dX3_exclude_6 : decode cX3_exclude 6 = .ok (.ifCond .lt 9, 3) := by decide +kernel
theorem dX3_exclude_9 : decode cX3_exclude 9 = .ok (.iload_n 2, 1) := by decide +kernel
theorem dX3_exclude_10 : decode cX3_exclude 10 = .ok (.bipush 9, 2) := by decide +kernel
theorem dX3_exclude_12 : decode cX3_exclude 12 = .ok (.if_icmp .le 13, 3) := by decide +kernel
theorem dX3_exclude_15 : decode cX3_exclude 15 = .ok (.new 50, 3) := by decide +kernel
theorem dX3_exclude_18 : decode cX3_exclude 18 = .ok (.dup, 1) := by decide +kernel
theorem dX3_exclude_19 : decode cX3_exclude 19 = .ok (.ldc 124, 2) := by decide +kernel
theorem dX3_exclude_21 : decode cX3_exclude 21 = .ok (.invokespecial 54, 3) := by decide +kernel
theorem dX3_exclude_24 : decode cX3_exclude 24 = .ok (.athrow, 1) := by decide +kernel
theorem dX3_exclude_25 : decode cX3_exclude 25 = .ok (.aload_n 0, 1) := by decide +kernel
theorem dX3_exclude_26 : decode cX3_exclude 26 = .ok (.getfield 19, 3) := by decide +kernel
theorem dX3_exclude_29 : decode cX3_exclude 29 = .ok (.iload_n 1, 1) := by decide +kernel
theorem dX3_exclude_30 : decode cX3_exclude 30 = .ok (.iaload, 1) := by decide +kernel
theorem dX3_exclude_31 : decode cX3_exclude 31 = .ok (.istore_n 3, 1) := by decide +kernel
theorem dX3_exclude_32 : decode cX3_exclude 32 = .ok (.aload_n 0, 1) := by decide +kernel
theorem dX3_exclude_33 : decode cX3_exclude 33 = .ok (.getfield 19, 3) := by decide +kernel
theorem dX3_exclude_36 : decode cX3_exclude 36 = .ok (.iload_n 1, 1) := by decide +kernel
theorem dX3_exclude_37 : decode cX3_exclude 37 = .ok (.iload_n 2, 1) := by decide +kernel
theorem dX3_exclude_38 : decode cX3_exclude 38 = .ok (.iastore, 1) := by decide +kernel
theorem dX3_exclude_39 : decode cX3_exclude 39 = .ok (.iload_n 3, 1) := by decide +kernel
theorem dX3_exclude_40 : decode cX3_exclude 40 = .ok (.ifCond .ne 16, 3) := by decide +kernel
theorem dX3_exclude_43 : decode cX3_exclude 43 = .ok (.iload_n 2, 1) := by decide +kernel
theorem dX3_exclude_44 : decode cX3_exclude 44 = .ok (.ifCond .eq 12, 3) := by decide +kernel
theorem dX3_exclude_47 : decode cX3_exclude 47 = .ok (.aload_n 0, 1) := by decide +kernel
theorem dX3_exclude_48 : decode cX3_exclude 48 = .ok (.iload_n 1, 1) := by decide +kernel
theorem dX3_exclude_49 : decode cX3_exclude 49 = .ok (.iconst (-1), 1) := by decide +kernel
theorem dX3_exclude_50 : decode cX3_exclude 50 = .ok (.invokevirtual 126, 3) := by decide +kernel
theorem dX3_exclude_53 : decode cX3_exclude 53 = .ok (.goto 17, 3) := by decide +kernel
theorem dX3_exclude_56 : decode cX3_exclude 56 = .ok (.iload_n 3, 1) := by decide +kernel
theorem dX3_exclude_57 : decode cX3_exclude 57 = .ok (.ifCond .eq 13, 3) := by decide +kernel
theorem dX3_exclude_60 : decode cX3_exclude 60 = .ok (.iload_n 2, 1) := by decide +kernel
theorem dX3_exclude_61 : decode cX3_exclude 61 = .ok (.ifCond .ne 9, 3) := by decide +kernel
theorem dX3_exclude_64 : decode cX3_exclude 64 = .ok (.aload_n 0, 1) := by decide +kernel
theorem dX3_exclude_65 : decode cX3_exclude 65 = .ok (.iload_n 1, 1) := by decide +kernel
theorem dX3_exclude_66 : decode cX3_exclude 66 = .ok (.iconst 1, 1) := by decide +kernel
theorem dX3_exclude_67 : decode cX3_exclude 67 = .ok (.invokevirtual 126, 3) := by decide +kernel
theorem dX3_exclude_70 : decode cX3_exclude 70 = .ok (.iload_n 3, 1) := by decide +kernel
theorem dX3_exclude_71 : decode cX3_exclude 71 = .ok (.ireturn, 1) := by decide +kernel
theorem dX3_subgroups_0 : decode cX3_subgroups 0 = .ok (.aload_n 0, 1) := by decide +kernel
theorem dX3_subgroups_1 : decode cX3_subgroups 1 = .ok (.getfield 63, 3) := by decide +kernel
theorem dX3_subgroups_4 : decode cX3_subgroups 4 = .ok (.ireturn, 1) := by decide +kernel
theorem dX3_phases_0 : decode cX3_phases 0 = .ok (.aload_n 0, 1) := by decide +kernel
theorem dX3_phases_1 : decode cX3_phases 1 = .ok (.getfield 84, 3) := by decide +kernel
theorem dX3_phases_4 : decode cX3_phases 4 = .ok (.ireturn, 1) := by decide +kernel
theorem dX3_mean_0 : decode cX3_mean 0 = .ok (.aload_n 0, 1) := by decide +kernel
theorem dX3_mean_1 : decode cX3_mean 1 = .ok (.iload_n 1, 1) := by decide +kernel
theorem dX3_mean_2 : decode cX3_mean 2 = .ok (.invokevirtual 121, 3) := by decide +kernel
theorem dX3_mean_5 : decode cX3_mean 5 = .ok (.aload_n 0, 1) := by decide +kernel
theorem dX3_mean_6 : decode cX3_mean 6 = .ok (.getfield 16, 3) := by decide +kernel
theorem dX3_mean_9 : decode cX3_mean 9 = .ok (.iload_n 1, 1) := by decide +kernel
theorem dX3_mean_10 : decode cX3_mean 10 = .ok (.iaload, 1) := by decide +kernel
theorem dX3_mean_11 : decode cX3_mean 11 = .ok (.ireturn, 1) := by decide +kernel
theorem dX3_range_0 : decode cX3_range 0 = .ok (.aload_n 0, 1) := by decide +kernel
theorem dX3_range_1 : decode cX3_range 1 = .ok (.iload_n 1, 1) := by decide +kernel
theorem dX3_range_2 : decode cX3_range 2 = .ok (.invokevirtual 121, 3) := by decide +kernel
theorem dX3_range_5 : decode cX3_range 5 = .ok (.aload_n 0, 1) := by decide +kernel
theorem dX3_range_6 : decode cX3_range 6 = .ok (.getfield 13, 3) := by decide +kernel
theorem dX3_range_9 : decode cX3_range 9 = .ok (.iload_n 1, 1) := by decide +kernel
theorem dX3_range_10 : decode cX3_range 10 = .ok (.iaload, 1) := by decide +kernel
theorem dX3_range_11 : decode cX3_range 11 = .ok (.ireturn, 1) := by decide +kernel
theorem dX3_phaseOf_0 : decode cX3_phaseOf 0 = .ok (.aload_n 0, 1) := by decide +kernel
theorem dX3_phaseOf_1 : decode cX3_phaseOf 1 = .ok (.iload_n 1, 1) := by decide +kernel
theorem dX3_phaseOf_2 : decode cX3_phaseOf 2 = .ok (.invokevirtual 121, 3) := by decide +kernel
theorem dX3_phaseOf_5 : decode cX3_phaseOf 5 = .ok (.aload_n 0, 1) := by decide +kernel
theorem dX3_phaseOf_6 : decode cX3_phaseOf 6 = .ok (.getfield 22, 3) := by decide +kernel
theorem dX3_phaseOf_9 : decode cX3_phaseOf 9 = .ok (.iload_n 1, 1) := by decide +kernel
theorem dX3_phaseOf_10 : decode cX3_phaseOf 10 = .ok (.iaload, 1) := by decide +kernel
theorem dX3_phaseOf_11 : decode cX3_phaseOf 11 = .ok (.ireturn, 1) := by decide +kernel
theorem dX3_points_0 : decode cX3_points 0 = .ok (.aload_n 0, 1) := by decide +kernel
theorem dX3_points_1 : decode cX3_points 1 = .ok (.iload_n 1, 1) := by decide +kernel
theorem dX3_points_2 : decode cX3_points 2 = .ok (.invokevirtual 101, 3) := by decide +kernel
theorem dX3_points_5 : decode cX3_points 5 = .ok (.getfield 111, 3) := by decide +kernel
theorem dX3_points_8 : decode cX3_points 8 = .ok (.ireturn, 1) := by decide +kernel
theorem dX3_center_0 : decode cX3_center 0 = .ok (.aload_n 0, 1) := by decide +kernel
theorem dX3_center_1 : decode cX3_center 1 = .ok (.iload_n 1, 1) := by decide +kernel
theorem dX3_center_2 : decode cX3_center 2 = .ok (.invokevirtual 130, 3) := by decide +kernel
theorem dX3_center_5 : decode cX3_center 5 = .ok (.getfield 133, 3) := by decide +kernel
theorem dX3_center_8 : decode cX3_center 8 = .ok (.ireturn, 1) := by decide +kernel
theorem dX3_width_0 : decode cX3_width 0 = .ok (.aload_n 0, 1) := by decide +kernel
theorem dX3_width_1 : decode cX3_width 1 = .ok (.iload_n 1, 1) := by decide +kernel
theorem dX3_width_2 : decode cX3_width 2 = .ok (.invokevirtual 130, 3) := by decide +kernel
theorem dX3_width_5 : decode cX3_width 5 = .ok (.getfield 136, 3) := by decide +kernel
theorem dX3_width_8 : decode cX3_width 8 = .ok (.ireturn, 1) := by decide +kernel
theorem dX3_rangeLimit_0 : decode cX3_rangeLimit 0 = .ok (.aload_n 0, 1) := by decide +kernel
theorem dX3_rangeLimit_1 : decode cX3_rangeLimit 1 = .ok (.iload_n 1, 1) := by decide +kernel
theorem dX3_rangeLimit_2 : decode cX3_rangeLimit 2 = .ok (.invokevirtual 130, 3) := by decide +kernel
theorem dX3_rangeLimit_5 : decode cX3_rangeLimit 5 = .ok (.getfield 139, 3) := by decide +kernel
theorem dX3_rangeLimit_8 : decode cX3_rangeLimit 8 = .ok (.ireturn, 1) := by decide +kernel
theorem dX3_signals_0 : decode cX3_signals 0 = .ok (.aload_n 0, 1) := by decide +kernel
theorem dX3_signals_1 : decode cX3_signals 1 = .ok (.iload_n 1, 1) := by decide +kernel
theorem dX3_signals_2 : decode cX3_signals 2 = .ok (.invokevirtual 121, 3) := by decide +kernel
theorem dX3_signals_5 : decode cX3_signals 5 = .ok (.aload_n 0, 1) := by decide +kernel
theorem dX3_signals_6 : decode cX3_signals 6 = .ok (.iload_n 1, 1) := by decide +kernel
theorem dX3_signals_7 : decode cX3_signals 7 = .ok (.invokevirtual 142, 3) := by decide +kernel
theorem dX3_signals_10 : decode cX3_signals 10 = .ok (.ifCond .ne 5, 3) := by decide +kernel
theorem dX3_signals_13 : decode cX3_signals 13 = .ok (.iconst 0, 1) := by decide +kernel
theorem dX3_signals_14 : decode cX3_signals 14 = .ok (.ireturn, 1) := by decide +kernel
theorem dX3_signals_15 : decode cX3_signals 15 = .ok (.aload_n 0, 1) := by decide +kernel
theorem dX3_signals_16 : decode cX3_signals 16 = .ok (.iload_n 1, 1) := by decide +kernel
theorem dX3_signals_17 : decode cX3_signals 17 = .ok (.invokevirtual 145, 3) := by decide +kernel
theorem dX3_signals_20 : decode cX3_signals 20 = .ok (.astore_n 2, 1) := by decide +kernel
theorem dX3_signals_21 : decode cX3_signals 21 = .ok (.aload_n 0, 1) := by decide +kernel
theorem dX3_signals_22 : decode cX3_signals 22 = .ok (.getfield 35, 3) := by decide +kernel
theorem dX3_signals_25 : decode cX3_signals 25 = .ok (.invokevirtual 148, 3) := by decide +kernel
theorem dX3_signals_28 : decode cX3_signals 28 = .ok (.aload_n 2, 1) := by decide +kernel
theorem dX3_signals_29 : decode cX3_signals 29 = .ok (.getfield 95, 3) := by decide +kernel
theorem dX3_signals_32 : decode cX3_signals 32 = .ok (.istore_n 3, 1) := by decide +kernel
theorem dX3_signals_33 : decode cX3_signals 33 = .ok (.iload_n 3, 1) := by decide +kernel
theorem dX3_signals_34 : decode cX3_signals 34 = .ok (.iload_n 1, 1) := by decide +kernel
theorem dX3_signals_35 : decode cX3_signals 35 = .ok (.if_icmp .gt 31, 3) := by decide +kernel
theorem dX3_signals_38 : decode cX3_signals 38 = .ok (.aload_n 0, 1) := by decide +kernel
theorem dX3_signals_39 : decode cX3_signals 39 = .ok (.iload_n 3, 1) := by decide +kernel
theorem dX3_signals_40 : decode cX3_signals 40 = .ok (.invokevirtual 142, 3) := by decide +kernel
theorem dX3_signals_43 : decode cX3_signals 43 = .ok (.ifCond .eq 17, 3) := by decide +kernel
theorem dX3_signals_46 : decode cX3_signals 46 = .ok (.aload_n 0, 1) := by decide +kernel
theorem dX3_signals_47 : decode cX3_signals 47 = .ok (.getfield 35, 3) := by decide +kernel
theorem dX3_signals_50 : decode cX3_signals 50 = .ok (.aload_n 0, 1) := by decide +kernel
theorem dX3_signals_51 : decode cX3_signals 51 = .ok (.getfield 16, 3) := by decide +kernel
theorem dX3_signals_54 : decode cX3_signals 54 = .ok (.iload_n 3, 1) := by decide +kernel
theorem dX3_signals_55 : decode cX3_signals 55 = .ok (.iaload, 1) := by decide +kernel
theorem dX3_signals_56 : decode cX3_signals 56 = .ok (.aload_n 2, 1) := by decide +kernel
theorem dX3_signals_57 : decode cX3_signals 57 = .ok (.invokevirtual 150, 3) := by decide +kernel
theorem dX3_signals_60 : decode cX3_signals 60 = .ok (.iinc 3 1, 3) := by decide +kernel
theorem dX3_signals_63 : decode cX3_signals 63 = .ok (.goto (-30), 3) := by decide +kernel
theorem dX3_signals_66 : decode cX3_signals 66 = .ok (.aload_n 0, 1) := by decide +kernel
theorem dX3_signals_67 : decode cX3_signals 67 = .ok (.getfield 35, 3) := by decide +kernel
theorem dX3_signals_70 : decode cX3_signals 70 = .ok (.invokevirtual 154, 3) := by decide +kernel
theorem dX3_signals_73 : decode cX3_signals 73 = .ok (.ireturn, 1) := by decide +kernel
theorem dX3_signalsByWindows_0 : decode cX3_signalsByWindows 0 = .ok (.aload_n 0, 1) := by decide +kernel
theorem dX3_signalsByWindows_1 : decode cX3_signalsByWindows 1 = .ok (.iload_n 1, 1) := by decide +kernel
theorem dX3_signalsByWindows_2 : decode cX3_signalsByWindows 2 = .ok (.invokevirtual 121, 3) := by decide +kernel
theorem dX3_signalsByWindows_5 : decode cX3_signalsByWindows 5 = .ok (.aload_n 0, 1) := by decide +kernel
theorem dX3_signalsByWindows_6 : decode cX3_signalsByWindows 6 = .ok (.iload_n 1, 1) := by decide +kernel
theorem dX3_signalsByWindows_7 : decode cX3_signalsByWindows 7 = .ok (.invokevirtual 142, 3) := by decide +kernel
theorem dX3_signalsByWindows_10 : decode cX3_signalsByWindows 10 = .ok (.ifCond .ne 5, 3) := by decide +kernel
theorem dX3_signalsByWindows_13 : decode cX3_signalsByWindows 13 = .ok (.iconst 0, 1) := by decide +kernel
theorem dX3_signalsByWindows_14 : decode cX3_signalsByWindows 14 = .ok (.ireturn, 1) := by decide +kernel
theorem dX3_signalsByWindows_15 : decode cX3_signalsByWindows 15 = .ok (.aload_n 0, 1) := by decide +kernel
theorem dX3_signalsByWindows_16 : decode cX3_signalsByWindows 16 = .ok (.iload_n 1, 1) := by decide +kernel
theorem dX3_signalsByWindows_17 : decode cX3_signalsByWindows 17 = .ok (.invokevirtual 145, 3) := by decide +kernel
theorem dX3_signalsByWindows_20 : decode cX3_signalsByWindows 20 = .ok (.astore_n 2, 1) := by decide +kernel
theorem dX3_signalsByWindows_21 : decode cX3_signalsByWindows 21 = .ok (.aload_n 0, 1) := by decide +kernel
theorem dX3_signalsByWindows_22 : decode cX3_signalsByWindows 22 = .ok (.iload_n 1, 1) := by decide +kernel
theorem dX3_signalsByWindows_23 : decode cX3_signalsByWindows 23 = .ok (.aload_n 2, 1) := by decide +kernel
theorem dX3_signalsByWindows_24 : decode cX3_signalsByWindows 24 = .ok (.invokevirtual 158, 3) := by decide +kernel
theorem dX3_signalsByWindows_27 : decode cX3_signalsByWindows 27 = .ok (.iconst 0, 1) := by decide +kernel
theorem dX3_signalsByWindows_28 : decode cX3_signalsByWindows 28 = .ok (.istore_n 3, 1) := by decide +kernel
theorem dX3_signalsByWindows_29 : decode cX3_signalsByWindows 29 = .ok (.iconst 1, 1) := by decide +kernel
theorem dX3_signalsByWindows_30 : decode cX3_signalsByWindows 30 = .ok (.istore 4, 2) := by decide +kernel
theorem dX3_signalsByWindows_32 : decode cX3_signalsByWindows 32 = .ok (.iload 4, 2) := by decide +kernel
theorem dX3_signalsByWindows_34 : decode cX3_signalsByWindows 34 = .ok (.bipush 8, 2) := by decide +kernel
theorem dX3_signalsByWindows_36 : decode cX3_signalsByWindows 36 = .ok (.if_icmp .gt 29, 3) := by decide +kernel
theorem dX3_signalsByWindows_39 : decode cX3_signalsByWindows 39 = .ok (.aload_n 0, 1) := by decide +kernel
theorem dX3_signalsByWindows_40 : decode cX3_signalsByWindows 40 = .ok (.getfield 42, 3) := by decide +kernel
theorem dX3_signalsByWindows_43 : decode cX3_signalsByWindows 43 = .ok (.iload 4, 2) := by decide +kernel
theorem dX3_signalsByWindows_45 : decode cX3_signalsByWindows 45 = .ok (.aload_n 2, 1) := by decide +kernel
theorem dX3_signalsByWindows_46 : decode cX3_signalsByWindows 46 = .ok (.invokevirtual 161, 3) := by decide +kernel
theorem dX3_signalsByWindows_49 : decode cX3_signalsByWindows 49 = .ok (.ifCond .eq 10, 3) := by decide +kernel
theorem dX3_signalsByWindows_52 : decode cX3_signalsByWindows 52 = .ok (.iload_n 3, 1) := by decide +kernel
theorem dX3_signalsByWindows_53 : decode cX3_signalsByWindows 53 = .ok (.iconst 1, 1) := by decide +kernel
theorem dX3_signalsByWindows_54 : decode cX3_signalsByWindows 54 = .ok (.iload 4, 2) := by decide +kernel
theorem dX3_signalsByWindows_56 : decode cX3_signalsByWindows 56 = .ok (.ishl, 1) := by decide +kernel
theorem dX3_signalsByWindows_57 : decode cX3_signalsByWindows 57 = .ok (.ior, 1) := by decide +kernel
theorem dX3_signalsByWindows_58 : decode cX3_signalsByWindows 58 = .ok (.istore_n 3, 1) := by decide +kernel
theorem dX3_signalsByWindows_59 : decode cX3_signalsByWindows 59 = .ok (.iinc 4 1, 3) := by decide +kernel
theorem dX3_signalsByWindows_62 : decode cX3_signalsByWindows 62 = .ok (.goto (-30), 3) := by decide +kernel
theorem dX3_signalsByWindows_65 : decode cX3_signalsByWindows 65 = .ok (.iload_n 3, 1) := by decide +kernel
theorem dX3_signalsByWindows_66 : decode cX3_signalsByWindows 66 = .ok (.ireturn, 1) := by decide +kernel
theorem dX3_firstOf_0 : decode cX3_firstOf 0 = .ok (.aload_n 0, 1) := by decide +kernel
theorem dX3_firstOf_1 : decode cX3_firstOf 1 = .ok (.iload_n 1, 1) := by decide +kernel
theorem dX3_firstOf_2 : decode cX3_firstOf 2 = .ok (.invokevirtual 121, 3) := by decide +kernel
theorem dX3_firstOf_5 : decode cX3_firstOf 5 = .ok (.iload_n 2, 1) := by decide +kernel
theorem dX3_firstOf_6 : decode cX3_firstOf 6 = .ok (.iconst 1, 1) := by decide +kernel
theorem dX3_firstOf_7 : decode cX3_firstOf 7 = .ok (.if_icmp .lt 9, 3) := by decide +kernel
theorem dX3_firstOf_10 : decode cX3_firstOf 10 = .ok (.iload_n 2, 1) := by decide +kernel
theorem dX3_firstOf_11 : decode cX3_firstOf 11 = .ok (.bipush 8, 2) := by decide +kernel
theorem dX3_firstOf_13 : decode cX3_firstOf 13 = .ok (.if_icmp .le 13, 3) := by decide +kernel
theorem dX3_firstOf_16 : decode cX3_firstOf 16 = .ok (.new 165, 3) := by decide +kernel
theorem dX3_firstOf_19 : decode cX3_firstOf 19 = .ok (.dup, 1) := by decide +kernel
theorem dX3_firstOf_20 : decode cX3_firstOf 20 = .ok (.ldc 167, 2) := by decide +kernel
theorem dX3_firstOf_22 : decode cX3_firstOf 22 = .ok (.invokespecial 169, 3) := by decide +kernel
theorem dX3_firstOf_25 : decode cX3_firstOf 25 = .ok (.athrow, 1) := by decide +kernel
theorem dX3_firstOf_26 : decode cX3_firstOf 26 = .ok (.aload_n 0, 1) := by decide +kernel
theorem dX3_firstOf_27 : decode cX3_firstOf 27 = .ok (.iload_n 1, 1) := by decide +kernel
theorem dX3_firstOf_28 : decode cX3_firstOf 28 = .ok (.invokevirtual 142, 3) := by decide +kernel
theorem dX3_firstOf_31 : decode cX3_firstOf 31 = .ok (.ifCond .ne 5, 3) := by decide +kernel
theorem dX3_firstOf_34 : decode cX3_firstOf 34 = .ok (.iconst (-1), 1) := by decide +kernel
theorem dX3_firstOf_35 : decode cX3_firstOf 35 = .ok (.ireturn, 1) := by decide +kernel
theorem dX3_firstOf_36 : decode cX3_firstOf 36 = .ok (.aload_n 0, 1) := by decide +kernel
theorem dX3_firstOf_37 : decode cX3_firstOf 37 = .ok (.iload_n 1, 1) := by decide +kernel
theorem dX3_firstOf_38 : decode cX3_firstOf 38 = .ok (.invokevirtual 145, 3) := by decide +kernel
theorem dX3_firstOf_41 : decode cX3_firstOf 41 = .ok (.astore_n 3, 1) := by decide +kernel
theorem dX3_firstOf_42 : decode cX3_firstOf 42 = .ok (.aload_n 0, 1) := by decide +kernel
theorem dX3_firstOf_43 : decode cX3_firstOf 43 = .ok (.iload_n 1, 1) := by decide +kernel
theorem dX3_firstOf_44 : decode cX3_firstOf 44 = .ok (.aload_n 3, 1) := by decide +kernel
theorem dX3_firstOf_45 : decode cX3_firstOf 45 = .ok (.invokevirtual 158, 3) := by decide +kernel
theorem dX3_firstOf_48 : decode cX3_firstOf 48 = .ok (.aload_n 0, 1) := by decide +kernel
theorem dX3_firstOf_49 : decode cX3_firstOf 49 = .ok (.getfield 42, 3) := by decide +kernel
theorem dX3_firstOf_52 : decode cX3_firstOf 52 = .ok (.iload_n 2, 1) := by decide +kernel
theorem dX3_firstOf_53 : decode cX3_firstOf 53 = .ok (.aload_n 3, 1) := by decide +kernel
theorem dX3_firstOf_54 : decode cX3_firstOf 54 = .ok (.invokevirtual 161, 3) := by decide +kernel
theorem dX3_firstOf_57 : decode cX3_firstOf 57 = .ok (.ifCond .eq 19, 3) := by decide +kernel
theorem dX3_firstOf_60 : decode cX3_firstOf 60 = .ok (.aload_n 0, 1) := by decide +kernel
theorem dX3_firstOf_61 : decode cX3_firstOf 61 = .ok (.getfield 42, 3) := by decide +kernel
theorem dX3_firstOf_64 : decode cX3_firstOf 64 = .ok (.iload_n 2, 1) := by decide +kernel
theorem dX3_firstOf_65 : decode cX3_firstOf 65 = .ok (.invokestatic 170, 3) := by decide +kernel
theorem dX3_firstOf_68 : decode cX3_firstOf 68 = .ok (.iconst 1, 1) := by decide +kernel
theorem dX3_firstOf_69 : decode cX3_firstOf 69 = .ok (.isub, 1) := by decide +kernel
theorem dX3_firstOf_70 : decode cX3_firstOf 70 = .ok (.invokevirtual 174, 3) := by decide +kernel
theorem dX3_firstOf_73 : decode cX3_firstOf 73 = .ok (.goto 4, 3) := by decide +kernel
theorem dX3_firstOf_76 : decode cX3_firstOf 76 = .ok (.iconst (-1), 1) := by decide +kernel
theorem dX3_firstOf_77 : decode cX3_firstOf 77 = .ok (.ireturn, 1) := by decide +kernel
theorem dX3_isWide_0 : decode cX3_isWide 0 = .ok (.aload_n 0, 1) := by decide +kernel
theorem dX3_isWide_1 : decode cX3_isWide 1 = .ok (.iload_n 1, 1) := by decide +kernel
theorem dX3_isWide_2 : decode cX3_isWide 2 = .ok (.invokevirtual 121, 3) := by decide +kernel
theorem dX3_isWide_5 : decode cX3_isWide 5 = .ok (.aload_n 0, 1) := by decide +kernel
theorem dX3_isWide_6 : decode cX3_isWide 6 = .ok (.iload_n 1, 1) := by decide +kernel
theorem dX3_isWide_7 : decode cX3_isWide 7 = .ok (.invokevirtual 142, 3) := by decide +kernel
theorem dX3_isWide_10 : decode cX3_isWide 10 = .ok (.ifCond .ne 5, 3) := by decide +kernel
theorem dX3_isWide_13 : decode cX3_isWide 13 = .ok (.iconst 0, 1) := by decide +kernel
theorem dX3_isWide_14 : decode cX3_isWide 14 = .ok (.ireturn, 1) := by decide +kernel
theorem dX3_isWide_15 : decode cX3_isWide 15 = .ok (.sipush 1000, 3) := by decide +kernel
theorem dX3_isWide_18 : decode cX3_isWide 18 = .ok (.aload_n 0, 1) := by decide +kernel
theorem dX3_isWide_19 : decode cX3_isWide 19 = .ok (.getfield 13, 3) := by decide +kernel
theorem dX3_isWide_22 : decode cX3_isWide 22 = .ok (.iload_n 1, 1) := by decide +kernel
theorem dX3_isWide_23 : decode cX3_isWide 23 = .ok (.iaload, 1) := by decide +kernel
theorem dX3_isWide_24 : decode cX3_isWide 24 = .ok (.imul, 1) := by decide +kernel
theorem dX3_isWide_25 : decode cX3_isWide 25 = .ok (.aload_n 0, 1) := by decide +kernel
theorem dX3_isWide_26 : decode cX3_isWide 26 = .ok (.iload_n 1, 1) := by decide +kernel
theorem dX3_isWide_27 : decode cX3_isWide 27 = .ok (.invokevirtual 145, 3) := by decide +kernel
theorem dX3_isWide_30 : decode cX3_isWide 30 = .ok (.getfield 139, 3) := by decide +kernel
theorem dX3_isWide_33 : decode cX3_isWide 33 = .ok (.if_icmp .le 7, 3) := by decide +kernel
theorem dX3_isWide_36 : decode cX3_isWide 36 = .ok (.iconst 1, 1) := by decide +kernel
theorem dX3_isWide_37 : decode cX3_isWide 37 = .ok (.goto 4, 3) := by decide +kernel
theorem dX3_isWide_40 : decode cX3_isWide 40 = .ok (.iconst 0, 1) := by decide +kernel
theorem dX3_isWide_41 : decode cX3_isWide 41 = .ok (.ireturn, 1) := by decide +kernel
theorem dX3_alarms_0 : decode cX3_alarms 0 = .ok (.iconst 0, 1) := by decide +kernel
theorem dX3_alarms_1 : decode cX3_alarms 1 = .ok (.istore_n 1, 1) := by decide +kernel
theorem dX3_alarms_2 : decode cX3_alarms 2 = .ok (.iconst (-1), 1) := by decide +kernel
theorem dX3_alarms_3 : decode cX3_alarms 3 = .ok (.istore_n 2, 1) := by decide +kernel
theorem dX3_alarms_4 : decode cX3_alarms 4 = .ok (.iconst 0, 1) := by decide +kernel
theorem dX3_alarms_5 : decode cX3_alarms 5 = .ok (.istore_n 3, 1) := by decide +kernel
theorem dX3_alarms_6 : decode cX3_alarms 6 = .ok (.iload_n 3, 1) := by decide +kernel
theorem dX3_alarms_7 : decode cX3_alarms 7 = .ok (.aload_n 0, 1) := by decide +kernel
theorem dX3_alarms_8 : decode cX3_alarms 8 = .ok (.getfield 63, 3) := by decide +kernel
theorem dX3_alarms_11 : decode cX3_alarms 11 = .ok (.if_icmp .ge 77, 3) := by decide +kernel
theorem dX3_alarms_14 : decode cX3_alarms 14 = .ok (.aload_n 0, 1) := by decide +kernel
theorem dX3_alarms_15 : decode cX3_alarms 15 = .ok (.getfield 22, 3) := by decide +kernel
theorem dX3_alarms_18 : decode cX3_alarms 18 = .ok (.iload_n 3, 1) := by decide +kernel
theorem dX3_alarms_19 : decode cX3_alarms 19 = .ok (.iaload, 1) := by decide +kernel
theorem dX3_alarms_20 : decode cX3_alarms 20 = .ok (.iload_n 2, 1) := by decide +kernel
theorem dX3_alarms_21 : decode cX3_alarms 21 = .ok (.if_icmp .eq 17, 3) := by decide +kernel
theorem dX3_alarms_24 : decode cX3_alarms 24 = .ok (.aload_n 0, 1) := by decide +kernel
theorem dX3_alarms_25 : decode cX3_alarms 25 = .ok (.getfield 22, 3) := by decide +kernel
theorem dX3_alarms_28 : decode cX3_alarms 28 = .ok (.iload_n 3, 1) := by decide +kernel
theorem dX3_alarms_29 : decode cX3_alarms 29 = .ok (.iaload, 1) := by decide +kernel
theorem dX3_alarms_30 : decode cX3_alarms 30 = .ok (.istore_n 2, 1) := by decide +kernel
theorem dX3_alarms_31 : decode cX3_alarms 31 = .ok (.aload_n 0, 1) := by decide +kernel
theorem dX3_alarms_32 : decode cX3_alarms 32 = .ok (.getfield 35, 3) := by decide +kernel
theorem dX3_alarms_35 : decode cX3_alarms 35 = .ok (.invokevirtual 148, 3) := by decide +kernel
theorem dX3_alarms_38 : decode cX3_alarms 38 = .ok (.aload_n 0, 1) := by decide +kernel
theorem dX3_alarms_39 : decode cX3_alarms 39 = .ok (.iload_n 3, 1) := by decide +kernel
theorem dX3_alarms_40 : decode cX3_alarms 40 = .ok (.invokevirtual 142, 3) := by decide +kernel
theorem dX3_alarms_43 : decode cX3_alarms 43 = .ok (.ifCond .eq 39, 3) := by decide +kernel
theorem dX3_alarms_46 : decode cX3_alarms 46 = .ok (.aload_n 0, 1) := by decide +kernel
theorem dX3_alarms_47 : decode cX3_alarms 47 = .ok (.getfield 35, 3) := by decide +kernel
theorem dX3_alarms_50 : decode cX3_alarms 50 = .ok (.aload_n 0, 1) := by decide +kernel
theorem dX3_alarms_51 : decode cX3_alarms 51 = .ok (.getfield 16, 3) := by decide +kernel
theorem dX3_alarms_54 : decode cX3_alarms 54 = .ok (.iload_n 3, 1) := by decide +kernel
theorem dX3_alarms_55 : decode cX3_alarms 55 = .ok (.iaload, 1) := by decide +kernel
theorem dX3_alarms_56 : decode cX3_alarms 56 = .ok (.aload_n 0, 1) := by decide +kernel
theorem dX3_alarms_57 : decode cX3_alarms 57 = .ok (.iload_n 3, 1) := by decide +kernel
theorem dX3_alarms_58 : decode cX3_alarms 58 = .ok (.invokevirtual 145, 3) := by decide +kernel
theorem dX3_alarms_61 : decode cX3_alarms 61 = .ok (.invokevirtual 150, 3) := by decide +kernel
theorem dX3_alarms_64 : decode cX3_alarms 64 = .ok (.iload_n 1, 1) := by decide +kernel
theorem dX3_alarms_65 : decode cX3_alarms 65 = .ok (.aload_n 0, 1) := by decide +kernel
theorem dX3_alarms_66 : decode cX3_alarms 66 = .ok (.getfield 35, 3) := by decide +kernel
theorem dX3_alarms_69 : decode cX3_alarms 69 = .ok (.invokevirtual 154, 3) := by decide +kernel
theorem dX3_alarms_72 : decode cX3_alarms 72 = .ok (.ifCond .eq 7, 3) := by decide +kernel
theorem dX3_alarms_75 : decode cX3_alarms 75 = .ok (.iconst 1, 1) := by decide +kernel
theorem dX3_alarms_76 : decode cX3_alarms 76 = .ok (.goto 4, 3) := by decide +kernel
theorem dX3_alarms_79 : decode cX3_alarms 79 = .ok (.iconst 0, 1) := by decide +kernel
theorem dX3_alarms_80 : decode cX3_alarms 80 = .ok (.iadd, 1) := by decide +kernel
theorem dX3_alarms_81 : decode cX3_alarms 81 = .ok (.istore_n 1, 1) := by decide +kernel
theorem dX3_alarms_82 : decode cX3_alarms 82 = .ok (.iinc 3 1, 3) := by decide +kernel
theorem dX3_alarms_85 : decode cX3_alarms 85 = .ok (.goto (-79), 3) := by decide +kernel
theorem dX3_alarms_88 : decode cX3_alarms 88 = .ok (.iload_n 1, 1) := by decide +kernel
theorem dX3_alarms_89 : decode cX3_alarms 89 = .ok (.ireturn, 1) := by decide +kernel
theorem dX3_setWeight_0 : decode cX3_setWeight 0 = .ok (.iload_n 1, 1) := by decide +kernel
theorem dX3_setWeight_1 : decode cX3_setWeight 1 = .ok (.iconst 1, 1) := by decide +kernel
theorem dX3_setWeight_2 : decode cX3_setWeight 2 = .ok (.if_icmp .lt 9, 3) := by decide +kernel
theorem dX3_setWeight_5 : decode cX3_setWeight 5 = .ok (.iload_n 1, 1) := by decide +kernel
theorem dX3_setWeight_6 : decode cX3_setWeight 6 = .ok (.bipush 10, 2) := by decide +kernel
theorem dX3_setWeight_8 : decode cX3_setWeight 8 = .ok (.if_icmp .le 13, 3) := by decide +kernel
theorem dX3_setWeight_11 : decode cX3_setWeight 11 = .ok (.new 50, 3) := by decide +kernel
theorem dX3_setWeight_14 : decode cX3_setWeight 14 = .ok (.dup, 1) := by decide +kernel
theorem dX3_setWeight_15 : decode cX3_setWeight 15 = .ok (.ldc 177, 2) := by decide +kernel
theorem dX3_setWeight_17 : decode cX3_setWeight 17 = .ok (.invokespecial 54, 3) := by decide +kernel
theorem dX3_setWeight_20 : decode cX3_setWeight 20 = .ok (.athrow, 1) := by decide +kernel
theorem dX3_setWeight_21 : decode cX3_setWeight 21 = .ok (.aload_n 0, 1) := by decide +kernel
theorem dX3_setWeight_22 : decode cX3_setWeight 22 = .ok (.getfield 179, 3) := by decide +kernel
theorem dX3_setWeight_25 : decode cX3_setWeight 25 = .ok (.istore_n 2, 1) := by decide +kernel
theorem dX3_setWeight_26 : decode cX3_setWeight 26 = .ok (.aload_n 0, 1) := by decide +kernel
theorem dX3_setWeight_27 : decode cX3_setWeight 27 = .ok (.iload_n 1, 1) := by decide +kernel
theorem dX3_setWeight_28 : decode cX3_setWeight 28 = .ok (.putfield 179, 3) := by decide +kernel
theorem dX3_setWeight_31 : decode cX3_setWeight 31 = .ok (.iload_n 2, 1) := by decide +kernel
theorem dX3_setWeight_32 : decode cX3_setWeight 32 = .ok (.ireturn, 1) := by decide +kernel
theorem dX3_weighted_0 : decode cX3_weighted 0 = .ok (.aload_n 0, 1) := by decide +kernel
theorem dX3_weighted_1 : decode cX3_weighted 1 = .ok (.iload_n 1, 1) := by decide +kernel
theorem dX3_weighted_2 : decode cX3_weighted 2 = .ok (.invokevirtual 182, 3) := by decide +kernel
theorem dX3_weighted_5 : decode cX3_weighted 5 = .ok (.aload_n 0, 1) := by decide +kernel
theorem dX3_weighted_6 : decode cX3_weighted 6 = .ok (.iload_n 1, 1) := by decide +kernel
theorem dX3_weighted_7 : decode cX3_weighted 7 = .ok (.invokevirtual 145, 3) := by decide +kernel
theorem dX3_weighted_10 : decode cX3_weighted 10 = .ok (.astore_n 2, 1) := by decide +kernel
theorem dX3_weighted_11 : decode cX3_weighted 11 = .ok (.aload_n 2, 1) := by decide +kernel
theorem dX3_weighted_12 : decode cX3_weighted 12 = .ok (.getfield 133, 3) := by decide +kernel
theorem dX3_weighted_15 : decode cX3_weighted 15 = .ok (.istore_n 3, 1) := by decide +kernel
theorem dX3_weighted_16 : decode cX3_weighted 16 = .ok (.aload_n 2, 1) := by decide +kernel
theorem dX3_weighted_17 : decode cX3_weighted 17 = .ok (.getfield 95, 3) := by decide +kernel
theorem dX3_weighted_20 : decode cX3_weighted 20 = .ok (.istore 4, 2) := by decide +kernel
theorem dX3_weighted_22 : decode cX3_weighted 22 = .ok (.iload 4, 2) := by decide +kernel
theorem dX3_weighted_24 : decode cX3_weighted 24 = .ok (.iload_n 1, 1) := by decide +kernel
theorem dX3_weighted_25 : decode cX3_weighted 25 = .ok (.if_icmp .gt 40, 3) := by decide +kernel
theorem dX3_weighted_28 : decode cX3_weighted 28 = .ok (.aload_n 0, 1) := by decide +kernel
theorem dX3_weighted_29 : decode cX3_weighted 29 = .ok (.iload 4, 2) := by decide +kernel
theorem dX3_weighted_31 : decode cX3_weighted 31 = .ok (.invokevirtual 142, 3) := by decide +kernel
theorem dX3_weighted_34 : decode cX3_weighted 34 = .ok (.ifCond .eq 25, 3) := by decide +kernel
theorem dX3_weighted_37 : decode cX3_weighted 37 = .ok (.iload_n 3, 1) := by decide +kernel
theorem dX3_weighted_38 : decode cX3_weighted 38 = .ok (.aload_n 0, 1) := by decide +kernel
theorem dX3_weighted_39 : decode cX3_weighted 39 = .ok (.getfield 179, 3) := by decide +kernel
theorem dX3_weighted_42 : decode cX3_weighted 42 = .ok (.aload_n 0, 1) := by decide +kernel
theorem dX3_weighted_43 : decode cX3_weighted 43 = .ok (.getfield 16, 3) := by decide +kernel
theorem dX3_weighted_46 : decode cX3_weighted 46 = .ok (.iload 4, 2) := by decide +kernel
theorem dX3_weighted_48 : decode cX3_weighted 48 = .ok (.iaload, 1) := by decide +kernel
theorem dX3_weighted_49 : decode cX3_weighted 49 = .ok (.iload_n 3, 1) := by decide +kernel
theorem dX3_weighted_50 : decode cX3_weighted 50 = .ok (.isub, 1) := by decide +kernel
theorem dX3_weighted_51 : decode cX3_weighted 51 = .ok (.imul, 1) := by decide +kernel
theorem dX3_weighted_52 : decode cX3_weighted 52 = .ok (.bipush 10, 2) := by decide +kernel
theorem dX3_weighted_54 : decode cX3_weighted 54 = .ok (.invokestatic 185, 3) := by decide +kernel
theorem dX3_weighted_57 : decode cX3_weighted 57 = .ok (.iadd, 1) := by decide +kernel
theorem dX3_weighted_58 : decode cX3_weighted 58 = .ok (.istore_n 3, 1) := by decide +kernel
theorem dX3_weighted_59 : decode cX3_weighted 59 = .ok (.iinc 4 1, 3) := by decide +kernel
theorem dX3_weighted_62 : decode cX3_weighted 62 = .ok (.goto (-40), 3) := by decide +kernel
theorem dX3_weighted_65 : decode cX3_weighted 65 = .ok (.iload_n 3, 1) := by decide +kernel
theorem dX3_weighted_66 : decode cX3_weighted 66 = .ok (.ireturn, 1) := by decide +kernel
theorem dX3_cumulative_0 : decode cX3_cumulative 0 = .ok (.aload_n 0, 1) := by decide +kernel
theorem dX3_cumulative_1 : decode cX3_cumulative 1 = .ok (.iload_n 1, 1) := by decide +kernel
theorem dX3_cumulative_2 : decode cX3_cumulative 2 = .ok (.invokevirtual 182, 3) := by decide +kernel
theorem dX3_cumulative_5 : decode cX3_cumulative 5 = .ok (.aload_n 0, 1) := by decide +kernel
theorem dX3_cumulative_6 : decode cX3_cumulative 6 = .ok (.iload_n 1, 1) := by decide +kernel
theorem dX3_cumulative_7 : decode cX3_cumulative 7 = .ok (.invokevirtual 145, 3) := by decide +kernel
theorem dX3_cumulative_10 : decode cX3_cumulative 10 = .ok (.astore_n 3, 1) := by decide +kernel
theorem dX3_cumulative_11 : decode cX3_cumulative 11 = .ok (.aload_n 3, 1) := by decide +kernel
theorem dX3_cumulative_12 : decode cX3_cumulative 12 = .ok (.getfield 136, 3) := by decide +kernel
theorem dX3_cumulative_15 : decode cX3_cumulative 15 = .ok (.iconst 3, 1) := by decide +kernel
theorem dX3_cumulative_16 : decode cX3_cumulative 16 = .ok (.invokestatic 185, 3) := by decide +kernel
theorem dX3_cumulative_19 : decode cX3_cumulative 19 = .ok (.iconst 2, 1) := by decide +kernel
theorem dX3_cumulative_20 : decode cX3_cumulative 20 = .ok (.invokestatic 185, 3) := by decide +kernel
theorem dX3_cumulative_23 : decode cX3_cumulative 23 = .ok (.istore 4, 2) := by decide +kernel
theorem dX3_cumulative_25 : decode cX3_cumulative 25 = .ok (.iconst 0, 1) := by decide +kernel
theorem dX3_cumulative_26 : decode cX3_cumulative 26 = .ok (.istore 5, 2) := by decide +kernel
theorem dX3_cumulative_28 : decode cX3_cumulative 28 = .ok (.aload_n 3, 1) := by decide +kernel
theorem dX3_cumulative_29 : decode cX3_cumulative 29 = .ok (.getfield 95, 3) := by decide +kernel
theorem dX3_cumulative_32 : decode cX3_cumulative 32 = .ok (.istore 6, 2) := by decide +kernel
theorem dX3_cumulative_34 : decode cX3_cumulative 34 = .ok (.iload 6, 2) := by decide +kernel
theorem dX3_cumulative_36 : decode cX3_cumulative 36 = .ok (.iload_n 1, 1) := by decide +kernel
theorem dX3_cumulative_37 : decode cX3_cumulative 37 = .ok (.if_icmp .gt 65, 3) := by decide +kernel
theorem dX3_cumulative_40 : decode cX3_cumulative 40 = .ok (.aload_n 0, 1) := by decide +kernel
theorem dX3_cumulative_41 : decode cX3_cumulative 41 = .ok (.iload 6, 2) := by decide +kernel
theorem dX3_cumulative_43 : decode cX3_cumulative 43 = .ok (.invokevirtual 142, 3) := by decide +kernel
theorem dX3_cumulative_46 : decode cX3_cumulative 46 = .ok (.ifCond .eq 50, 3) := by decide +kernel
theorem dX3_cumulative_49 : decode cX3_cumulative 49 = .ok (.iload_n 2, 1) := by decide +kernel
theorem dX3_cumulative_50 : decode cX3_cumulative 50 = .ok (.ifCond .eq 18, 3) := by decide +kernel
theorem dX3_cumulative_53 : decode cX3_cumulative 53 = .ok (.aload_n 0, 1) := by decide +kernel
theorem dX3_cumulative_54 : decode cX3_cumulative 54 = .ok (.getfield 16, 3) := by decide +kernel
theorem dX3_cumulative_57 : decode cX3_cumulative 57 = .ok (.iload 6, 2) := by decide +kernel
theorem dX3_cumulative_59 : decode cX3_cumulative 59 = .ok (.iaload, 1) := by decide +kernel
theorem dX3_cumulative_60 : decode cX3_cumulative 60 = .ok (.aload_n 3, 1) := by decide +kernel
theorem dX3_cumulative_61 : decode cX3_cumulative 61 = .ok (.getfield 133, 3) := by decide +kernel
theorem dX3_cumulative_64 : decode cX3_cumulative 64 = .ok (.isub, 1) := by decide +kernel
theorem dX3_cumulative_65 : decode cX3_cumulative 65 = .ok (.goto 15, 3) := by decide +kernel
theorem dX3_cumulative_68 : decode cX3_cumulative 68 = .ok (.aload_n 3, 1) := by decide +kernel
theorem dX3_cumulative_69 : decode cX3_cumulative 69 = .ok (.getfield 133, 3) := by decide +kernel
theorem dX3_cumulative_72 : decode cX3_cumulative 72 = .ok (.aload_n 0, 1) := by decide +kernel
theorem dX3_cumulative_73 : decode cX3_cumulative 73 = .ok (.getfield 16, 3) := by decide +kernel
theorem dX3_cumulative_76 : decode cX3_cumulative 76 = .ok (.iload 6, 2) := by decide +kernel
theorem dX3_cumulative_78 : decode cX3_cumulative 78 = .ok (.iaload, 1) := by decide +kernel
theorem dX3_cumulative_79 : decode cX3_cumulative 79 = .ok (.isub, 1) := by decide +kernel
theorem dX3_cumulative_80 : decode cX3_cumulative 80 = .ok (.istore 7, 2) := by decide +kernel
theorem dX3_cumulative_82 : decode cX3_cumulative 82 = .ok (.iconst 0, 1) := by decide +kernel
theorem dX3_cumulative_83 : decode cX3_cumulative 83 = .ok (.iload 5, 2) := by decide +kernel
theorem dX3_cumulative_85 : decode cX3_cumulative 85 = .ok (.iload 7, 2) := by decide +kernel
theorem dX3_cumulative_87 : decode cX3_cumulative 87 = .ok (.iadd, 1) := by decide +kernel
theorem dX3_cumulative_88 : decode cX3_cumulative 88 = .ok (.iload 4, 2) := by decide +kernel
theorem dX3_cumulative_90 : decode cX3_cumulative 90 = .ok (.isub, 1) := by decide +kernel
theorem dX3_cumulative_91 : decode cX3_cumulative 91 = .ok (.invokestatic 191, 3) := by decide +kernel
theorem dX3_cumulative_94 : decode cX3_cumulative 94 = .ok (.istore 5, 2) := by decide +kernel
theorem dX3_cumulative_96 : decode cX3_cumulative 96 = .ok (.iinc 6 1, 3) := by decide +kernel
theorem dX3_cumulative_99 : decode cX3_cumulative 99 = .ok (.goto (-65), 3) := by decide +kernel
theorem dX3_cumulative_102 : decode cX3_cumulative 102 = .ok (.iload 5, 2) := by decide +kernel
theorem dX3_cumulative_104 : decode cX3_cumulative 104 = .ok (.ireturn, 1) := by decide +kernel
theorem dX3_capability_0 : decode cX3_capability 0 = .ok (.aload_n 0, 1) := by decide +kernel
theorem dX3_capability_1 : decode cX3_capability 1 = .ok (.iload_n 1, 1) := by decide +kernel
theorem dX3_capability_2 : decode cX3_capability 2 = .ok (.invokevirtual 101, 3) := by decide +kernel
theorem dX3_capability_5 : decode cX3_capability 5 = .ok (.astore 5, 2) := by decide +kernel
theorem dX3_capability_7 : decode cX3_capability 7 = .ok (.iload_n 2, 1) := by decide +kernel
theorem dX3_capability_8 : decode cX3_capability 8 = .ok (.invokestatic 57, 3) := by decide +kernel
theorem dX3_capability_11 : decode cX3_capability 11 = .ok (.ifCond .eq 15, 3) := by decide +kernel
theorem dX3_capability_14 : decode cX3_capability 14 = .ok (.iload_n 3, 1) := by decide +kernel
theorem dX3_capability_15 : decode cX3_capability 15 = .ok (.invokestatic 57, 3) := by decide +kernel
theorem dX3_capability_18 : decode cX3_capability 18 = .ok (.ifCond .eq 8, 3) := by decide +kernel
theorem dX3_capability_21 : decode cX3_capability 21 = .ok (.iload_n 3, 1) := by decide +kernel
theorem dX3_capability_22 : decode cX3_capability 22 = .ok (.iload_n 2, 1) := by decide +kernel
theorem dX3_capability_23 : decode cX3_capability 23 = .ok (.if_icmp .ge 13, 3) := by decide +kernel
theorem dX3_capability_26 : decode cX3_capability 26 = .ok (.new 50, 3) := by decide +kernel
theorem dX3_capability_29 : decode cX3_capability 29 = .ok (.dup, 1) := by decide +kernel
theorem dX3_capability_30 : decode cX3_capability 30 = .ok (.ldc 194, 2) := by decide +kernel
theorem dX3_capability_32 : decode cX3_capability 32 = .ok (.invokespecial 54, 3) := by decide +kernel
theorem dX3_capability_35 : decode cX3_capability 35 = .ok (.athrow, 1) := by decide +kernel
theorem dX3_capability_36 : decode cX3_capability 36 = .ok (.aload 5, 2) := by decide +kernel
theorem dX3_capability_38 : decode cX3_capability 38 = .ok (.invokevirtual 196, 3) := by decide +kernel
theorem dX3_capability_41 : decode cX3_capability 41 = .ok (.ifCond .ne 13, 3) := by decide +kernel
theorem dX3_capability_44 : decode cX3_capability 44 = .ok (.new 67, 3) := by decide +kernel
theorem dX3_capability_47 : decode cX3_capability 47 = .ok (.dup, 1) := by decide +kernel
theorem dX3_capability_48 : decode cX3_capability 48 = .ok (.ldc 200, 2) := by decide +kernel
theorem dX3_capability_50 : decode cX3_capability 50 = .ok (.invokespecial 71, 3) := by decide +kernel
theorem dX3_capability_53 : decode cX3_capability 53 = .ok (.athrow, 1) := by decide +kernel
theorem dX3_capability_54 : decode cX3_capability 54 = .ok (.ldc2_w 202, 3) := by decide +kernel
theorem dX3_capability_57 : decode cX3_capability 57 = .ok (.aload 5, 2) := by decide +kernel
theorem dX3_capability_59 : decode cX3_capability 59 = .ok (.getfield 204, 3) := by decide +kernel
theorem dX3_capability_62 : decode cX3_capability 62 = .ok (.i2l, 1) := by decide +kernel
theorem dX3_capability_63 : decode cX3_capability 63 = .ok (.lmul, 1) := by decide +kernel
theorem dX3_capability_64 : decode cX3_capability 64 = .ok (.getstatic 207, 3) := by decide +kernel
theorem dX3_capability_67 : decode cX3_capability 67 = .ok (.aload_n 0, 1) := by decide +kernel
theorem dX3_capability_68 : decode cX3_capability 68 = .ok (.getfield 78, 3) := by decide +kernel
theorem dX3_capability_71 : decode cX3_capability 71 = .ok (.invokestatic 210, 3) := by decide +kernel
theorem dX3_capability_74 : decode cX3_capability 74 = .ok (.i2l, 1) := by decide +kernel
theorem dX3_capability_75 : decode cX3_capability 75 = .ok (.invokestatic 214, 3) := by decide +kernel
theorem dX3_capability_78 : decode cX3_capability 78 = .ok (.lstore 6, 2) := by decide +kernel
theorem dX3_capability_80 : decode cX3_capability 80 = .ok (.lload 6, 2) := by decide +kernel
theorem dX3_capability_82 : decode cX3_capability 82 = .ok (.lconst 0, 1) := by decide +kernel
theorem dX3_capability_83 : decode cX3_capability 83 = .ok (.lcmp, 1) := by decide +kernel
theorem dX3_capability_84 : decode cX3_capability 84 = .ok (.ifCond .ne 13, 3) := by decide +kernel
theorem dX3_capability_87 : decode cX3_capability 87 = .ok (.new 67, 3) := by decide +kernel
theorem dX3_capability_90 : decode cX3_capability 90 = .ok (.dup, 1) := by decide +kernel
theorem dX3_capability_91 : decode cX3_capability 91 = .ok (.ldc 218, 2) := by decide +kernel
theorem dX3_capability_93 : decode cX3_capability 93 = .ok (.invokespecial 71, 3) := by decide +kernel
theorem dX3_capability_96 : decode cX3_capability 96 = .ok (.athrow, 1) := by decide +kernel
theorem dX3_capability_97 : decode cX3_capability 97 = .ok (.ldc2_w 202, 3) := by decide +kernel
theorem dX3_capability_100 : decode cX3_capability 100 = .ok (.iload_n 2, 1) := by decide +kernel
theorem dX3_capability_101 : decode cX3_capability 101 = .ok (.i2l, 1) := by decide +kernel
theorem dX3_capability_102 : decode cX3_capability 102 = .ok (.lmul, 1) := by decide +kernel
theorem dX3_capability_103 : decode cX3_capability 103 = .ok (.lstore 8, 2) := by decide +kernel
theorem dX3_capability_105 : decode cX3_capability 105 = .ok (.ldc2_w 202, 3) := by decide +kernel
theorem dX3_capability_108 : decode cX3_capability 108 = .ok (.iload_n 3, 1) := by decide +kernel
theorem dX3_capability_109 : decode cX3_capability 109 = .ok (.i2l, 1) := by decide +kernel
theorem dX3_capability_110 : decode cX3_capability 110 = .ok (.lmul, 1) := by decide +kernel
theorem dX3_capability_111 : decode cX3_capability 111 = .ok (.lstore 10, 2) := by decide +kernel
theorem dX3_capability_113 : decode cX3_capability 113 = .ok (.iload 4, 2) := by decide +kernel
theorem dX3_capability_115 : decode cX3_capability 115 = .ok (.ifCond .ne 22, 3) := by decide +kernel
theorem dX3_capability_118 : decode cX3_capability 118 = .ok (.ldc2_w 202, 3) := by decide +kernel
theorem dX3_capability_121 : decode cX3_capability 121 = .ok (.lload 10, 2) := by decide +kernel
theorem dX3_capability_123 : decode cX3_capability 123 = .ok (.lload 8, 2) := by decide +kernel
theorem dX3_capability_125 : decode cX3_capability 125 = .ok (.lsub, 1) := by decide +kernel
theorem dX3_capability_126 : decode cX3_capability 126 = .ok (.lmul, 1) := by decide +kernel
theorem dX3_capability_127 : decode cX3_capability 127 = .ok (.ldc2_w 220, 3) := by decide +kernel
theorem dX3_capability_130 : decode cX3_capability 130 = .ok (.lload 6, 2) := by decide +kernel
theorem dX3_capability_132 : decode cX3_capability 132 = .ok (.lmul, 1) := by decide +kernel
theorem dX3_capability_133 : decode cX3_capability 133 = .ok (.invokestatic 214, 3) := by decide +kernel
theorem dX3_capability_136 : decode cX3_capability 136 = .ok (.lreturn, 1) := by decide +kernel
theorem dX3_capability_137 : decode cX3_capability 137 = .ok (.ldc2_w 202, 3) := by decide +kernel
theorem dX3_capability_140 : decode cX3_capability 140 = .ok (.lload 10, 2) := by decide +kernel
theorem dX3_capability_142 : decode cX3_capability 142 = .ok (.aload 5, 2) := by decide +kernel
theorem dX3_capability_144 : decode cX3_capability 144 = .ok (.getfield 133, 3) := by decide +kernel
theorem dX3_capability_147 : decode cX3_capability 147 = .ok (.i2l, 1) := by decide +kernel
theorem dX3_capability_148 : decode cX3_capability 148 = .ok (.lsub, 1) := by decide +kernel
theorem dX3_capability_149 : decode cX3_capability 149 = .ok (.aload 5, 2) := by decide +kernel
theorem dX3_capability_151 : decode cX3_capability 151 = .ok (.getfield 133, 3) := by decide +kernel
theorem dX3_capability_154 : decode cX3_capability 154 = .ok (.i2l, 1) := by decide +kernel
theorem dX3_capability_155 : decode cX3_capability 155 = .ok (.lload 8, 2) := by decide +kernel
theorem dX3_capability_157 : decode cX3_capability 157 = .ok (.lsub, 1) := by decide +kernel
theorem dX3_capability_158 : decode cX3_capability 158 = .ok (.invokestatic 222, 3) := by decide +kernel
theorem dX3_capability_161 : decode cX3_capability 161 = .ok (.lmul, 1) := by decide +kernel
theorem dX3_capability_162 : decode cX3_capability 162 = .ok (.ldc2_w 225, 3) := by decide +kernel
theorem dX3_capability_165 : decode cX3_capability 165 = .ok (.lload 6, 2) := by decide +kernel
theorem dX3_capability_167 : decode cX3_capability 167 = .ok (.lmul, 1) := by decide +kernel
theorem dX3_capability_168 : decode cX3_capability 168 = .ok (.invokestatic 214, 3) := by decide +kernel
theorem dX3_capability_171 : decode cX3_capability 171 = .ok (.lreturn, 1) := by decide +kernel
theorem dX3_restart_0 : decode cX3_restart 0 = .ok (.aload_n 0, 1) := by decide +kernel
theorem dX3_restart_1 : decode cX3_restart 1 = .ok (.iload_n 1, 1) := by decide +kernel
theorem dX3_restart_2 : decode cX3_restart 2 = .ok (.putfield 78, 3) := by decide +kernel
theorem dX3_restart_5 : decode cX3_restart 5 = .ok (.aload_n 0, 1) := by decide +kernel
theorem dX3_restart_6 : decode cX3_restart 6 = .ok (.iconst 2, 1) := by decide +kernel
theorem dX3_restart_7 : decode cX3_restart 7 = .ok (.putfield 179, 3) := by decide +kernel
theorem dX3_restart_10 : decode cX3_restart 10 = .ok (.aload_n 0, 1) := by decide +kernel
theorem dX3_restart_11 : decode cX3_restart 11 = .ok (.iconst 0, 1) := by decide +kernel
theorem dX3_restart_12 : decode cX3_restart 12 = .ok (.putfield 75, 3) := by decide +kernel
theorem dX3_restart_15 : decode cX3_restart 15 = .ok (.aload_n 0, 1) := by decide +kernel
theorem dX3_restart_16 : decode cX3_restart 16 = .ok (.iconst 0, 1) := by decide +kernel
theorem dX3_restart_17 : decode cX3_restart 17 = .ok (.putfield 63, 3) := by decide +kernel
theorem dX3_restart_20 : decode cX3_restart 20 = .ok (.aload_n 0, 1) := by decide +kernel
theorem dX3_restart_21 : decode cX3_restart 21 = .ok (.iconst 1, 1) := by decide +kernel
theorem dX3_restart_22 : decode cX3_restart 22 = .ok (.putfield 84, 3) := by decide +kernel
theorem dX3_restart_25 : decode cX3_restart 25 = .ok (.aload_n 0, 1) := by decide +kernel
theorem dX3_restart_26 : decode cX3_restart 26 = .ok (.getfield 27, 3) := by decide +kernel
theorem dX3_restart_29 : decode cX3_restart 29 = .ok (.iconst 0, 1) := by decide +kernel
theorem dX3_restart_30 : decode cX3_restart 30 = .ok (.aaload, 1) := by decide +kernel
theorem dX3_restart_31 : decode cX3_restart 31 = .ok (.iconst 0, 1) := by decide +kernel
theorem dX3_restart_32 : decode cX3_restart 32 = .ok (.invokevirtual 100, 3) := by decide +kernel
theorem dX3_restart_35 : decode cX3_restart 35 = .ok (.return_, 1) := by decide +kernel
theorem dX3_takeMeasurement_0 : decode cX3_takeMeasurement 0 = .ok (.aload_n 0, 1) := by decide +kernel
theorem dX3_takeMeasurement_1 : decode cX3_takeMeasurement 1 = .ok (.getfield 75, 3) := by decide +kernel
theorem dX3_takeMeasurement_4 : decode cX3_takeMeasurement 4 = .ok (.ifCond .ne 7, 3) := by decide +kernel
theorem dX3_takeMeasurement_7 : decode cX3_takeMeasurement 7 = .ok (.iconst 1, 1) := by decide +kernel
theorem dX3_takeMeasurement_8 : decode cX3_takeMeasurement 8 = .ok (.goto 4, 3) := by decide +kernel
theorem dX3_takeMeasurement_11 : decode cX3_takeMeasurement 11 = .ok (.iconst 0, 1) := by decide +kernel
theorem dX3_takeMeasurement_12 : decode cX3_takeMeasurement 12 = .ok (.istore_n 2, 1) := by decide +kernel
theorem dX3_takeMeasurement_13 : decode cX3_takeMeasurement 13 = .ok (.aload_n 0, 1) := by decide +kernel
theorem dX3_takeMeasurement_14 : decode cX3_takeMeasurement 14 = .ok (.iload_n 2, 1) := by decide +kernel
theorem dX3_takeMeasurement_15 : decode cX3_takeMeasurement 15 = .ok (.ifCond .eq 7, 3) := by decide +kernel
theorem dX3_takeMeasurement_18 : decode cX3_takeMeasurement 18 = .ok (.iload_n 1, 1) := by decide +kernel
theorem dX3_takeMeasurement_19 : decode cX3_takeMeasurement 19 = .ok (.goto 9, 3) := by decide +kernel
theorem dX3_takeMeasurement_22 : decode cX3_takeMeasurement 22 = .ok (.aload_n 0, 1) := by decide +kernel
theorem dX3_takeMeasurement_23 : decode cX3_takeMeasurement 23 = .ok (.getfield 227, 3) := by decide +kernel
theorem dX3_takeMeasurement_26 : decode cX3_takeMeasurement 26 = .ok (.iload_n 1, 1) := by decide +kernel
theorem dX3_takeMeasurement_27 : decode cX3_takeMeasurement 27 = .ok (.iadd, 1) := by decide +kernel
theorem dX3_takeMeasurement_28 : decode cX3_takeMeasurement 28 = .ok (.putfield 227, 3) := by decide +kernel
theorem dX3_takeMeasurement_31 : decode cX3_takeMeasurement 31 = .ok (.aload_n 0, 1) := by decide +kernel
theorem dX3_takeMeasurement_32 : decode cX3_takeMeasurement 32 = .ok (.iload_n 2, 1) := by decide +kernel
theorem dX3_takeMeasurement_33 : decode cX3_takeMeasurement 33 = .ok (.ifCond .eq 7, 3) := by decide +kernel
theorem dX3_takeMeasurement_36 : decode cX3_takeMeasurement 36 = .ok (.iload_n 1, 1) := by decide +kernel
theorem dX3_takeMeasurement_37 : decode cX3_takeMeasurement 37 = .ok (.goto 11, 3) := by decide +kernel
theorem dX3_takeMeasurement_40 : decode cX3_takeMeasurement 40 = .ok (.aload_n 0, 1) := by decide +kernel
theorem dX3_takeMeasurement_41 : decode cX3_takeMeasurement 41 = .ok (.getfield 230, 3) := by decide +kernel
theorem dX3_takeMeasurement_44 : decode cX3_takeMeasurement 44 = .ok (.iload_n 1, 1) := by decide +kernel
theorem dX3_takeMeasurement_45 : decode cX3_takeMeasurement 45 = .ok (.invokestatic 233, 3) := by decide +kernel
theorem dX3_takeMeasurement_48 : decode cX3_takeMeasurement 48 = .ok (.putfield 230, 3) := by decide +kernel
theorem dX3_takeMeasurement_51 : decode cX3_takeMeasurement 51 = .ok (.aload_n 0, 1) := by decide +kernel
theorem dX3_takeMeasurement_52 : decode cX3_takeMeasurement 52 = .ok (.iload_n 2, 1) := by decide +kernel
theorem dX3_takeMeasurement_53 : decode cX3_takeMeasurement 53 = .ok (.ifCond .eq 7, 3) := by decide +kernel
theorem dX3_takeMeasurement_56 : decode cX3_takeMeasurement 56 = .ok (.iload_n 1, 1) := by decide +kernel
theorem dX3_takeMeasurement_57 : decode cX3_takeMeasurement 57 = .ok (.goto 11, 3) := by decide +kernel
theorem dX3_takeMeasurement_60 : decode cX3_takeMeasurement 60 = .ok (.aload_n 0, 1) := by decide +kernel
theorem dX3_takeMeasurement_61 : decode cX3_takeMeasurement 61 = .ok (.getfield 235, 3) := by decide +kernel
theorem dX3_takeMeasurement_64 : decode cX3_takeMeasurement 64 = .ok (.iload_n 1, 1) := by decide +kernel
theorem dX3_takeMeasurement_65 : decode cX3_takeMeasurement 65 = .ok (.invokestatic 191, 3) := by decide +kernel
theorem dX3_takeMeasurement_68 : decode cX3_takeMeasurement 68 = .ok (.putfield 235, 3) := by decide +kernel
theorem dX3_takeMeasurement_71 : decode cX3_takeMeasurement 71 = .ok (.aload_n 0, 1) := by decide +kernel
theorem dX3_takeMeasurement_72 : decode cX3_takeMeasurement 72 = .ok (.dup, 1) := by decide +kernel
theorem dX3_takeMeasurement_73 : decode cX3_takeMeasurement 73 = .ok (.getfield 75, 3) := by decide +kernel
theorem dX3_takeMeasurement_76 : decode cX3_takeMeasurement 76 = .ok (.iconst 1, 1) := by decide +kernel
theorem dX3_takeMeasurement_77 : decode cX3_takeMeasurement 77 = .ok (.iadd, 1) := by decide +kernel
theorem dX3_takeMeasurement_78 : decode cX3_takeMeasurement 78 = .ok (.putfield 75, 3) := by decide +kernel
theorem dX3_takeMeasurement_81 : decode cX3_takeMeasurement 81 = .ok (.return_, 1) := by decide +kernel
theorem dX3_finishSubgroup_0 : decode cX3_finishSubgroup 0 = .ok (.aload_n 0, 1) := by decide +kernel
theorem dX3_finishSubgroup_1 : decode cX3_finishSubgroup 1 = .ok (.getfield 63, 3) := by decide +kernel
theorem dX3_finishSubgroup_4 : decode cX3_finishSubgroup 4 = .ok (.istore_n 1, 1) := by decide +kernel
theorem dX3_finishSubgroup_5 : decode cX3_finishSubgroup 5 = .ok (.aload_n 0, 1) := by decide +kernel
theorem dX3_finishSubgroup_6 : decode cX3_finishSubgroup 6 = .ok (.getfield 9, 3) := by decide +kernel
theorem dX3_finishSubgroup_9 : decode cX3_finishSubgroup 9 = .ok (.iload_n 1, 1) := by decide +kernel
theorem dX3_finishSubgroup_10 : decode cX3_finishSubgroup 10 = .ok (.aload_n 0, 1) := by decide +kernel
theorem dX3_finishSubgroup_11 : decode cX3_finishSubgroup 11 = .ok (.getfield 227, 3) := by decide +kernel
theorem dX3_finishSubgroup_14 : decode cX3_finishSubgroup 14 = .ok (.iastore, 1) := by decide +kernel
theorem dX3_finishSubgroup_15 : decode cX3_finishSubgroup 15 = .ok (.aload_n 0, 1) := by decide +kernel
theorem dX3_finishSubgroup_16 : decode cX3_finishSubgroup 16 = .ok (.getfield 13, 3) := by decide +kernel
theorem dX3_finishSubgroup_19 : decode cX3_finishSubgroup 19 = .ok (.iload_n 1, 1) := by decide +kernel
theorem dX3_finishSubgroup_20 : decode cX3_finishSubgroup 20 = .ok (.aload_n 0, 1) := by decide +kernel
theorem dX3_finishSubgroup_21 : decode cX3_finishSubgroup 21 = .ok (.getfield 235, 3) := by decide +kernel
theorem dX3_finishSubgroup_24 : decode cX3_finishSubgroup 24 = .ok (.aload_n 0, 1) := by decide +kernel
theorem dX3_finishSubgroup_25 : decode cX3_finishSubgroup 25 = .ok (.getfield 230, 3) := by decide +kernel
theorem dX3_finishSubgroup_28 : decode cX3_finishSubgroup 28 = .ok (.isub, 1) := by decide +kernel
theorem dX3_finishSubgroup_29 : decode cX3_finishSubgroup 29 = .ok (.iastore, 1) := by decide +kernel
theorem dX3_finishSubgroup_30 : decode cX3_finishSubgroup 30 = .ok (.aload_n 0, 1) := by decide +kernel
theorem dX3_finishSubgroup_31 : decode cX3_finishSubgroup 31 = .ok (.getfield 16, 3) := by decide +kernel
theorem dX3_finishSubgroup_34 : decode cX3_finishSubgroup 34 = .ok (.iload_n 1, 1) := by decide +kernel
theorem dX3_finishSubgroup_35 : decode cX3_finishSubgroup 35 = .ok (.ldc2_w 202, 3) := by decide +kernel
theorem dX3_finishSubgroup_38 : decode cX3_finishSubgroup 38 = .ok (.aload_n 0, 1) := by decide +kernel
theorem dX3_finishSubgroup_39 : decode cX3_finishSubgroup 39 = .ok (.getfield 227, 3) := by decide +kernel
theorem dX3_finishSubgroup_42 : decode cX3_finishSubgroup 42 = .ok (.i2l, 1) := by decide +kernel
theorem dX3_finishSubgroup_43 : decode cX3_finishSubgroup 43 = .ok (.lmul, 1) := by decide +kernel
theorem dX3_finishSubgroup_44 : decode cX3_finishSubgroup 44 = .ok (.aload_n 0, 1) := by decide +kernel
theorem dX3_finishSubgroup_45 : decode cX3_finishSubgroup 45 = .ok (.getfield 78, 3) := by decide +kernel
theorem dX3_finishSubgroup_48 : decode cX3_finishSubgroup 48 = .ok (.i2l, 1) := by decide +kernel
theorem dX3_finishSubgroup_49 : decode cX3_finishSubgroup 49 = .ok (.invokestatic 238, 3) := by decide +kernel
theorem dX3_finishSubgroup_52 : decode cX3_finishSubgroup 52 = .ok (.l2i, 1) := by decide +kernel
theorem dX3_finishSubgroup_53 : decode cX3_finishSubgroup 53 = .ok (.iastore, 1) := by decide +kernel
theorem dX3_finishSubgroup_54 : decode cX3_finishSubgroup 54 = .ok (.aload_n 0, 1) := by decide +kernel
theorem dX3_finishSubgroup_55 : decode cX3_finishSubgroup 55 = .ok (.getfield 19, 3) := by decide +kernel
theorem dX3_finishSubgroup_58 : decode cX3_finishSubgroup 58 = .ok (.iload_n 1, 1) := by decide +kernel
theorem dX3_finishSubgroup_59 : decode cX3_finishSubgroup 59 = .ok (.iconst 0, 1) := by decide +kernel
theorem dX3_finishSubgroup_60 : decode cX3_finishSubgroup 60 = .ok (.iastore, 1) := by decide +kernel
theorem dX3_finishSubgroup_61 : decode cX3_finishSubgroup 61 = .ok (.aload_n 0, 1) := by decide +kernel
theorem dX3_finishSubgroup_62 : decode cX3_finishSubgroup 62 = .ok (.getfield 22, 3) := by decide +kernel
theorem dX3_finishSubgroup_65 : decode cX3_finishSubgroup 65 = .ok (.iload_n 1, 1) := by decide +kernel
theorem dX3_finishSubgroup_66 : decode cX3_finishSubgroup 66 = .ok (.aload_n 0, 1) := by decide +kernel
theorem dX3_finishSubgroup_67 : decode cX3_finishSubgroup 67 = .ok (.getfield 84, 3) := by decide +kernel
theorem dX3_finishSubgroup_70 : decode cX3_finishSubgroup 70 = .ok (.iconst 1, 1) := by decide +kernel
theorem dX3_finishSubgroup_71 : decode cX3_finishSubgroup 71 = .ok (.isub, 1) := by decide +kernel
theorem dX3_finishSubgroup_72 : decode cX3_finishSubgroup 72 = .ok (.iastore, 1) := by decide +kernel
theorem dX3_finishSubgroup_73 : decode cX3_finishSubgroup 73 = .ok (.aload_n 0, 1) := by decide +kernel
theorem dX3_finishSubgroup_74 : decode cX3_finishSubgroup 74 = .ok (.iconst 0, 1) := by decide +kernel
theorem dX3_finishSubgroup_75 : decode cX3_finishSubgroup 75 = .ok (.putfield 75, 3) := by decide +kernel
theorem dX3_finishSubgroup_78 : decode cX3_finishSubgroup 78 = .ok (.aload_n 0, 1) := by decide +kernel
theorem dX3_finishSubgroup_79 : decode cX3_finishSubgroup 79 = .ok (.dup, 1) := by decide +kernel
theorem dX3_finishSubgroup_80 : decode cX3_finishSubgroup 80 = .ok (.getfield 63, 3) := by decide +kernel
theorem dX3_finishSubgroup_83 : decode cX3_finishSubgroup 83 = .ok (.iconst 1, 1) := by decide +kernel
theorem dX3_finishSubgroup_84 : decode cX3_finishSubgroup 84 = .ok (.iadd, 1) := by decide +kernel
theorem dX3_finishSubgroup_85 : decode cX3_finishSubgroup 85 = .ok (.putfield 63, 3) := by decide +kernel
theorem dX3_finishSubgroup_88 : decode cX3_finishSubgroup 88 = .ok (.aload_n 0, 1) := by decide +kernel
theorem dX3_finishSubgroup_89 : decode cX3_finishSubgroup 89 = .ok (.iload_n 1, 1) := by decide +kernel
theorem dX3_finishSubgroup_90 : decode cX3_finishSubgroup 90 = .ok (.iconst 1, 1) := by decide +kernel
theorem dX3_finishSubgroup_91 : decode cX3_finishSubgroup 91 = .ok (.invokevirtual 126, 3) := by decide +kernel
theorem dX3_finishSubgroup_94 : decode cX3_finishSubgroup 94 = .ok (.return_, 1) := by decide +kernel
theorem dX3_countPoint_0 : decode cX3_countPoint 0 = .ok (.aload_n 0, 1) := by decide +kernel
theorem dX3_countPoint_1 : decode cX3_countPoint 1 = .ok (.iload_n 1, 1) := by decide +kernel
theorem dX3_countPoint_2 : decode cX3_countPoint 2 = .ok (.invokevirtual 145, 3) := by decide +kernel
theorem dX3_countPoint_5 : decode cX3_countPoint 5 = .ok (.astore_n 3, 1) := by decide +kernel
theorem dX3_countPoint_6 : decode cX3_countPoint 6 = .ok (.aload_n 3, 1) := by decide +kernel
theorem dX3_countPoint_7 : decode cX3_countPoint 7 = .ok (.dup, 1) := by decide +kernel
theorem dX3_countPoint_8 : decode cX3_countPoint 8 = .ok (.getfield 111, 3) := by decide +kernel
theorem dX3_countPoint_11 : decode cX3_countPoint 11 = .ok (.iload_n 2, 1) := by decide +kernel
theorem dX3_countPoint_12 : decode cX3_countPoint 12 = .ok (.iadd, 1) := by decide +kernel
theorem dX3_countPoint_13 : decode cX3_countPoint 13 = .ok (.putfield 111, 3) := by decide +kernel
theorem dX3_countPoint_16 : decode cX3_countPoint 16 = .ok (.aload_n 3, 1) := by decide +kernel
theorem dX3_countPoint_17 : decode cX3_countPoint 17 = .ok (.dup, 1) := by decide +kernel
theorem dX3_countPoint_18 : decode cX3_countPoint 18 = .ok (.getfield 241, 3) := by decide +kernel
theorem dX3_countPoint_21 : decode cX3_countPoint 21 = .ok (.iload_n 2, 1) := by decide +kernel
theorem dX3_countPoint_22 : decode cX3_countPoint 22 = .ok (.aload_n 0, 1) := by decide +kernel
theorem dX3_countPoint_23 : decode cX3_countPoint 23 = .ok (.getfield 9, 3) := by decide +kernel
theorem dX3_countPoint_26 : decode cX3_countPoint 26 = .ok (.iload_n 1, 1) := by decide +kernel
theorem dX3_countPoint_27 : decode cX3_countPoint 27 = .ok (.iaload, 1) := by decide +kernel
theorem dX3_countPoint_28 : decode cX3_countPoint 28 = .ok (.imul, 1) := by decide +kernel
theorem dX3_countPoint_29 : decode cX3_countPoint 29 = .ok (.iadd, 1) := by decide +kernel
theorem dX3_countPoint_30 : decode cX3_countPoint 30 = .ok (.putfield 241, 3) := by decide +kernel
theorem dX3_countPoint_33 : decode cX3_countPoint 33 = .ok (.aload_n 3, 1) := by decide +kernel
theorem dX3_countPoint_34 : decode cX3_countPoint 34 = .ok (.dup, 1) := by decide +kernel
theorem dX3_countPoint_35 : decode cX3_countPoint 35 = .ok (.getfield 244, 3) := by decide +kernel
theorem dX3_countPoint_38 : decode cX3_countPoint 38 = .ok (.iload_n 2, 1) := by decide +kernel
theorem dX3_countPoint_39 : decode cX3_countPoint 39 = .ok (.aload_n 0, 1) := by decide +kernel
theorem dX3_countPoint_40 : decode cX3_countPoint 40 = .ok (.getfield 13, 3) := by decide +kernel
theorem dX3_countPoint_43 : decode cX3_countPoint 43 = .ok (.iload_n 1, 1) := by decide +kernel
theorem dX3_countPoint_44 : decode cX3_countPoint 44 = .ok (.iaload, 1) := by decide +kernel
theorem dX3_countPoint_45 : decode cX3_countPoint 45 = .ok (.imul, 1) := by decide +kernel
theorem dX3_countPoint_46 : decode cX3_countPoint 46 = .ok (.iadd, 1) := by decide +kernel
theorem dX3_countPoint_47 : decode cX3_countPoint 47 = .ok (.putfield 244, 3) := by decide +kernel
theorem dX3_countPoint_50 : decode cX3_countPoint 50 = .ok (.aload_n 3, 1) := by decide +kernel
theorem dX3_countPoint_51 : decode cX3_countPoint 51 = .ok (.aload_n 0, 1) := by decide +kernel
theorem dX3_countPoint_52 : decode cX3_countPoint 52 = .ok (.getfield 78, 3) := by decide +kernel
theorem dX3_countPoint_55 : decode cX3_countPoint 55 = .ok (.invokevirtual 118, 3) := by decide +kernel
theorem dX3_countPoint_58 : decode cX3_countPoint 58 = .ok (.return_, 1) := by decide +kernel
theorem dX3_lookBack_0 : decode cX3_lookBack 0 = .ok (.aload_n 0, 1) := by decide +kernel
theorem dX3_lookBack_1 : decode cX3_lookBack 1 = .ok (.getfield 42, 3) := by decide +kernel
theorem dX3_lookBack_4 : decode cX3_lookBack 4 = .ok (.invokevirtual 247, 3) := by decide +kernel
theorem dX3_lookBack_7 : decode cX3_lookBack 7 = .ok (.iload_n 1, 1) := by decide +kernel
theorem dX3_lookBack_8 : decode cX3_lookBack 8 = .ok (.istore_n 3, 1) := by decide +kernel
theorem dX3_lookBack_9 : decode cX3_lookBack 9 = .ok (.iload_n 3, 1) := by decide +kernel
theorem dX3_lookBack_10 : decode cX3_lookBack 10 = .ok (.aload_n 2, 1) := by decide +kernel
theorem dX3_lookBack_11 : decode cX3_lookBack 11 = .ok (.getfield 95, 3) := by decide +kernel
theorem dX3_lookBack_14 : decode cX3_lookBack 14 = .ok (.if_icmp .lt 41, 3) := by decide +kernel
theorem dX3_lookBack_17 : decode cX3_lookBack 17 = .ok (.aload_n 0, 1) := by decide +kernel
theorem dX3_lookBack_18 : decode cX3_lookBack 18 = .ok (.getfield 42, 3) := by decide +kernel
theorem dX3_lookBack_21 : decode cX3_lookBack 21 = .ok (.invokevirtual 248, 3) := by decide +kernel
theorem dX3_lookBack_24 : decode cX3_lookBack 24 = .ok (.ifCond .ne 31, 3) := by decide +kernel
theorem dX3_lookBack_27 : decode cX3_lookBack 27 = .ok (.aload_n 0, 1) := by decide +kernel
theorem dX3_lookBack_28 : decode cX3_lookBack 28 = .ok (.iload_n 3, 1) := by decide +kernel
theorem dX3_lookBack_29 : decode cX3_lookBack 29 = .ok (.invokevirtual 142, 3) := by decide +kernel
theorem dX3_lookBack_32 : decode cX3_lookBack 32 = .ok (.ifCond .eq 17, 3) := by decide +kernel
theorem dX3_lookBack_35 : decode cX3_lookBack 35 = .ok (.aload_n 0, 1) := by decide +kernel
theorem dX3_lookBack_36 : decode cX3_lookBack 36 = .ok (.getfield 42, 3) := by decide +kernel
theorem dX3_lookBack_39 : decode cX3_lookBack 39 = .ok (.iload_n 3, 1) := by decide +kernel
theorem dX3_lookBack_40 : decode cX3_lookBack 40 = .ok (.aload_n 0, 1) := by decide +kernel
theorem dX3_lookBack_41 : decode cX3_lookBack 41 = .ok (.getfield 16, 3) := by decide +kernel
theorem dX3_lookBack_44 : decode cX3_lookBack 44 = .ok (.iload_n 3, 1) := by decide +kernel
theorem dX3_lookBack_45 : decode cX3_lookBack 45 = .ok (.iaload, 1) := by decide +kernel
theorem dX3_lookBack_46 : decode cX3_lookBack 46 = .ok (.invokevirtual 251, 3) := by decide +kernel
theorem dX3_lookBack_49 : decode cX3_lookBack 49 = .ok (.iinc 3 (-1), 3) := by decide +kernel
theorem dX3_lookBack_52 : decode cX3_lookBack 52 = .ok (.goto (-43), 3) := by decide +kernel
theorem dX3_lookBack_55 : decode cX3_lookBack 55 = .ok (.return_, 1) := by decide +kernel
theorem dX3_checkSubgroup_0 : decode cX3_checkSubgroup 0 = .ok (.iload_n 1, 1) := by decide +kernel
theorem dX3_checkSubgroup_1 : decode cX3_checkSubgroup 1 = .ok (.ifCond .lt 11, 3) := by decide +kernel
theorem dX3_checkSubgroup_4 : decode cX3_checkSubgroup 4 = .ok (.iload_n 1, 1) := by decide +kernel
theorem dX3_checkSubgroup_5 : decode cX3_checkSubgroup 5 = .ok (.aload_n 0, 1) := by decide +kernel
theorem dX3_checkSubgroup_6 : decode cX3_checkSubgroup 6 = .ok (.getfield 63, 3) := by decide +kernel
theorem dX3_checkSubgroup_9 : decode cX3_checkSubgroup 9 = .ok (.if_icmp .lt 13, 3) := by decide +kernel
theorem dX3_checkSubgroup_12 : decode cX3_checkSubgroup 12 = .ok (.new 165, 3) := by decide +kernel
theorem dX3_checkSubgroup_15 : decode cX3_checkSubgroup 15 = .ok (.dup, 1) := by decide +kernel
theorem dX3_checkSubgroup_16 : decode cX3_checkSubgroup 16 = .ok (.ldc 254, 2) := by decide +kernel
theorem dX3_checkSubgroup_18 : decode cX3_checkSubgroup 18 = .ok (.invokespecial 169, 3) := by decide +kernel
theorem dX3_checkSubgroup_21 : decode cX3_checkSubgroup 21 = .ok (.athrow, 1) := by decide +kernel
theorem dX3_checkSubgroup_22 : decode cX3_checkSubgroup 22 = .ok (.return_, 1) := by decide +kernel
theorem dX3_checkPoint_0 : decode cX3_checkPoint 0 = .ok (.aload_n 0, 1) := by decide +kernel
theorem dX3_checkPoint_1 : decode cX3_checkPoint 1 = .ok (.iload_n 1, 1) := by decide +kernel
theorem dX3_checkPoint_2 : decode cX3_checkPoint 2 = .ok (.invokevirtual 121, 3) := by decide +kernel
theorem dX3_checkPoint_5 : decode cX3_checkPoint 5 = .ok (.aload_n 0, 1) := by decide +kernel
theorem dX3_checkPoint_6 : decode cX3_checkPoint 6 = .ok (.iload_n 1, 1) := by decide +kernel
theorem dX3_checkPoint_7 : decode cX3_checkPoint 7 = .ok (.invokevirtual 142, 3) := by decide +kernel
theorem dX3_checkPoint_10 : decode cX3_checkPoint 10 = .ok (.ifCond .ne 14, 3) := by decide +kernel
theorem dX3_checkPoint_13 : decode cX3_checkPoint 13 = .ok (.new 67, 3) := by decide +kernel
theorem dX3_checkPoint_16 : decode cX3_checkPoint 16 = .ok (.dup, 1) := by decide +kernel
theorem dX3_checkPoint_17 : decode cX3_checkPoint 17 = .ok (.ldc_w 256, 3) := by decide +kernel
theorem dX3_checkPoint_20 : decode cX3_checkPoint 20 = .ok (.invokespecial 71, 3) := by decide +kernel
theorem dX3_checkPoint_23 : decode cX3_checkPoint 23 = .ok (.athrow, 1) := by decide +kernel
theorem dX3_checkPoint_24 : decode cX3_checkPoint 24 = .ok (.return_, 1) := by decide +kernel
theorem dX3_isPoint_0 : decode cX3_isPoint 0 = .ok (.iload_n 1, 1) := by decide +kernel
theorem dX3_isPoint_1 : decode cX3_isPoint 1 = .ok (.ifCond .lt 24, 3) := by decide +kernel
theorem dX3_isPoint_4 : decode cX3_isPoint 4 = .ok (.iload_n 1, 1) := by decide +kernel
theorem dX3_isPoint_5 : decode cX3_isPoint 5 = .ok (.aload_n 0, 1) := by decide +kernel
theorem dX3_isPoint_6 : decode cX3_isPoint 6 = .ok (.getfield 63, 3) := by decide +kernel
theorem dX3_isPoint_9 : decode cX3_isPoint 9 = .ok (.if_icmp .ge 16, 3) := by decide +kernel
theorem dX3_isPoint_12 : decode cX3_isPoint 12 = .ok (.aload_n 0, 1) := by decide +kernel
theorem dX3_isPoint_13 : decode cX3_isPoint 13 = .ok (.getfield 19, 3) := by decide +kernel
theorem dX3_isPoint_16 : decode cX3_isPoint 16 = .ok (.iload_n 1, 1) := by decide +kernel
theorem dX3_isPoint_17 : decode cX3_isPoint 17 = .ok (.iaload, 1) := by decide +kernel
theorem dX3_isPoint_18 : decode cX3_isPoint 18 = .ok (.ifCond .ne 7, 3) := by decide +kernel
theorem dX3_isPoint_21 : decode cX3_isPoint 21 = .ok (.iconst 1, 1) := by decide +kernel
theorem dX3_isPoint_22 : decode cX3_isPoint 22 = .ok (.goto 4, 3) := by decide +kernel
theorem dX3_isPoint_25 : decode cX3_isPoint 25 = .ok (.iconst 0, 1) := by decide +kernel
theorem dX3_isPoint_26 : decode cX3_isPoint 26 = .ok (.ireturn, 1) := by decide +kernel
theorem dX3_findPhase_0 : decode cX3_findPhase 0 = .ok (.iload_n 1, 1) := by decide +kernel
theorem dX3_findPhase_1 : decode cX3_findPhase 1 = .ok (.ifCond .lt 11, 3) := by decide +kernel
theorem dX3_findPhase_4 : decode cX3_findPhase 4 = .ok (.iload_n 1, 1) := by decide +kernel
theorem dX3_findPhase_5 : decode cX3_findPhase 5 = .ok (.aload_n 0, 1) := by decide +kernel
theorem dX3_findPhase_6 : decode cX3_findPhase 6 = .ok (.getfield 84, 3) := by decide +kernel
theorem dX3_findPhase_9 : decode cX3_findPhase 9 = .ok (.if_icmp .lt 14, 3) := by decide +kernel
theorem dX3_findPhase_12 : decode cX3_findPhase 12 = .ok (.new 165, 3) := by decide +kernel
theorem dX3_findPhase_15 : decode cX3_findPhase 15 = .ok (.dup, 1) := by decide +kernel
theorem dX3_findPhase_16 : decode cX3_findPhase 16 = .ok (.ldc_w 258, 3) := by decide +kernel
theorem dX3_findPhase_19 : decode cX3_findPhase 19 = .ok (.invokespecial 169, 3) := by decide +kernel
theorem dX3_findPhase_22 : decode cX3_findPhase 22 = .ok (.athrow, 1) := by decide +kernel
theorem dX3_findPhase_23 : decode cX3_findPhase 23 = .ok (.aload_n 0, 1) := by decide +kernel
theorem dX3_findPhase_24 : decode cX3_findPhase 24 = .ok (.getfield 27, 3) := by decide +kernel
theorem dX3_findPhase_27 : decode cX3_findPhase 27 = .ok (.iload_n 1, 1) := by decide +kernel
theorem dX3_findPhase_28 : decode cX3_findPhase 28 = .ok (.aaload, 1) := by decide +kernel
theorem dX3_findPhase_29 : decode cX3_findPhase 29 = .ok (.areturn, 1) := by decide +kernel
theorem dX3_findLimits_0 : decode cX3_findLimits 0 = .ok (.aload_n 0, 1) := by decide +kernel
theorem dX3_findLimits_1 : decode cX3_findLimits 1 = .ok (.iload_n 1, 1) := by decide +kernel
theorem dX3_findLimits_2 : decode cX3_findLimits 2 = .ok (.invokevirtual 101, 3) := by decide +kernel
theorem dX3_findLimits_5 : decode cX3_findLimits 5 = .ok (.astore_n 2, 1) := by decide +kernel
theorem dX3_findLimits_6 : decode cX3_findLimits 6 = .ok (.aload_n 2, 1) := by decide +kernel
theorem dX3_findLimits_7 : decode cX3_findLimits 7 = .ok (.invokevirtual 196, 3) := by decide +kernel
theorem dX3_findLimits_10 : decode cX3_findLimits 10 = .ok (.ifCond .ne 13, 3) := by decide +kernel
theorem dX3_findLimits_13 : decode cX3_findLimits 13 = .ok (.new 67, 3) := by decide +kernel
theorem dX3_findLimits_16 : decode cX3_findLimits 16 = .ok (.dup, 1) := by decide +kernel
theorem dX3_findLimits_17 : decode cX3_findLimits 17 = .ok (.ldc 200, 2) := by decide +kernel
theorem dX3_findLimits_19 : decode cX3_findLimits 19 = .ok (.invokespecial 71, 3) := by decide +kernel
theorem dX3_findLimits_22 : decode cX3_findLimits 22 = .ok (.athrow, 1) := by decide +kernel
theorem dX3_findLimits_23 : decode cX3_findLimits 23 = .ok (.aload_n 2, 1) := by decide +kernel
theorem dX3_findLimits_24 : decode cX3_findLimits 24 = .ok (.areturn, 1) := by decide +kernel
theorem dX3_phaseHolding_0 : decode cX3_phaseHolding 0 = .ok (.aload_n 0, 1) := by decide +kernel
theorem dX3_phaseHolding_1 : decode cX3_phaseHolding 1 = .ok (.getfield 22, 3) := by decide +kernel
theorem dX3_phaseHolding_4 : decode cX3_phaseHolding 4 = .ok (.iload_n 1, 1) := by decide +kernel
theorem dX3_phaseHolding_5 : decode cX3_phaseHolding 5 = .ok (.iaload, 1) := by decide +kernel
theorem dX3_phaseHolding_6 : decode cX3_phaseHolding 6 = .ok (.istore_n 2, 1) := by decide +kernel
theorem dX3_phaseHolding_7 : decode cX3_phaseHolding 7 = .ok (.iload_n 2, 1) := by decide +kernel
theorem dX3_phaseHolding_8 : decode cX3_phaseHolding 8 = .ok (.ifCond .lt 20, 3) := by decide +kernel
theorem dX3_phaseHolding_11 : decode cX3_phaseHolding 11 = .ok (.iload_n 2, 1) := by decide +kernel
theorem dX3_phaseHolding_12 : decode cX3_phaseHolding 12 = .ok (.aload_n 0, 1) := by decide +kernel
theorem dX3_phaseHolding_13 : decode cX3_phaseHolding 13 = .ok (.getfield 84, 3) := by decide +kernel
theorem dX3_phaseHolding_16 : decode cX3_phaseHolding 16 = .ok (.if_icmp .ge 12, 3) := by decide +kernel
theorem dX3_phaseHolding_19 : decode cX3_phaseHolding 19 = .ok (.aload_n 0, 1) := by decide +kernel
theorem dX3_phaseHolding_20 : decode cX3_phaseHolding 20 = .ok (.getfield 27, 3) := by decide +kernel
theorem dX3_phaseHolding_23 : decode cX3_phaseHolding 23 = .ok (.iload_n 2, 1) := by decide +kernel
theorem dX3_phaseHolding_24 : decode cX3_phaseHolding 24 = .ok (.aaload, 1) := by decide +kernel
theorem dX3_phaseHolding_25 : decode cX3_phaseHolding 25 = .ok (.goto 9, 3) := by decide +kernel
theorem dX3_phaseHolding_28 : decode cX3_phaseHolding 28 = .ok (.aload_n 0, 1) := by decide +kernel
theorem dX3_phaseHolding_29 : decode cX3_phaseHolding 29 = .ok (.getfield 27, 3) := by decide +kernel
theorem dX3_phaseHolding_32 : decode cX3_phaseHolding 32 = .ok (.iconst 0, 1) := by decide +kernel
theorem dX3_phaseHolding_33 : decode cX3_phaseHolding 33 = .ok (.aaload, 1) := by decide +kernel
theorem dX3_phaseHolding_34 : decode cX3_phaseHolding 34 = .ok (.areturn, 1) := by decide +kernel
theorem dX3_lastPhase_0 : decode cX3_lastPhase 0 = .ok (.aload_n 0, 1) := by decide +kernel
theorem dX3_lastPhase_1 : decode cX3_lastPhase 1 = .ok (.getfield 27, 3) := by decide +kernel
theorem dX3_lastPhase_4 : decode cX3_lastPhase 4 = .ok (.aload_n 0, 1) := by decide +kernel
theorem dX3_lastPhase_5 : decode cX3_lastPhase 5 = .ok (.getfield 84, 3) := by decide +kernel
theorem dX3_lastPhase_8 : decode cX3_lastPhase 8 = .ok (.iconst 1, 1) := by decide +kernel
theorem dX3_lastPhase_9 : decode cX3_lastPhase 9 = .ok (.isub, 1) := by decide +kernel
theorem dX3_lastPhase_10 : decode cX3_lastPhase 10 = .ok (.aaload, 1) := by decide +kernel
theorem dX3_lastPhase_11 : decode cX3_lastPhase 11 = .ok (.areturn, 1) := by decide +kernel
theorem dX3_isMeasurement_0 : decode cX3_isMeasurement 0 = .ok (.iload_n 0, 1) := by decide +kernel
theorem dX3_isMeasurement_1 : decode cX3_isMeasurement 1 = .ok (.sipush (-9999), 3) := by decide +kernel
theorem dX3_isMeasurement_4 : decode cX3_isMeasurement 4 = .ok (.if_icmp .lt 14, 3) := by decide +kernel
theorem dX3_isMeasurement_7 : decode cX3_isMeasurement 7 = .ok (.iload_n 0, 1) := by decide +kernel
theorem dX3_isMeasurement_8 : decode cX3_isMeasurement 8 = .ok (.sipush 9999, 3) := by decide +kernel
theorem dX3_isMeasurement_11 : decode cX3_isMeasurement 11 = .ok (.if_icmp .gt 7, 3) := by decide +kernel
theorem dX3_isMeasurement_14 : decode cX3_isMeasurement 14 = .ok (.iconst 1, 1) := by decide +kernel
theorem dX3_isMeasurement_15 : decode cX3_isMeasurement 15 = .ok (.goto 4, 3) := by decide +kernel
theorem dX3_isMeasurement_18 : decode cX3_isMeasurement 18 = .ok (.iconst 0, 1) := by decide +kernel
theorem dX3_isMeasurement_19 : decode cX3_isMeasurement 19 = .ok (.ireturn, 1) := by decide +kernel
theorem dX3_bySize_0 : decode cX3_bySize 0 = .ok (.iload_n 1, 1) := by decide +kernel
theorem dX3_bySize_1 : decode cX3_bySize 1 = .ok (.iconst 2, 1) := by decide +kernel
theorem dX3_bySize_2 : decode cX3_bySize 2 = .ok (.isub, 1) := by decide +kernel
theorem dX3_bySize_3 : decode cX3_bySize 3 = .ok (.istore_n 2, 1) := by decide +kernel
theorem dX3_bySize_4 : decode cX3_bySize 4 = .ok (.iload_n 2, 1) := by decide +kernel
theorem dX3_bySize_5 : decode cX3_bySize 5 = .ok (.ifCond .lt 15, 3) := by decide +kernel
theorem dX3_bySize_8 : decode cX3_bySize 8 = .ok (.iload_n 2, 1) := by decide +kernel
theorem dX3_bySize_9 : decode cX3_bySize 9 = .ok (.aload_n 0, 1) := by decide +kernel
theorem dX3_bySize_10 : decode cX3_bySize 10 = .ok (.arraylength, 1) := by decide +kernel
theorem dX3_bySize_11 : decode cX3_bySize 11 = .ok (.if_icmp .ge 9, 3) := by decide +kernel
theorem dX3_bySize_14 : decode cX3_bySize 14 = .ok (.aload_n 0, 1) := by decide +kernel
theorem dX3_bySize_15 : decode cX3_bySize 15 = .ok (.iload_n 2, 1) := by decide +kernel
theorem dX3_bySize_16 : decode cX3_bySize 16 = .ok (.iaload, 1) := by decide +kernel
theorem dX3_bySize_17 : decode cX3_bySize 17 = .ok (.goto 4, 3) := by decide +kernel
theorem dX3_bySize_20 : decode cX3_bySize 20 = .ok (.iconst 0, 1) := by decide +kernel
theorem dX3_bySize_21 : decode cX3_bySize 21 = .ok (.ireturn, 1) := by decide +kernel
theorem dX3_pointsOfRule_0 : decode cX3_pointsOfRule 0 = .ok (.iload_n 0, 1) := by decide +kernel
theorem dX3_pointsOfRule_1 : decode cX3_pointsOfRule 1 = .ok (.iconst 1, 1) := by decide +kernel
theorem dX3_pointsOfRule_2 : decode cX3_pointsOfRule 2 = .ok (.if_icmp .lt 21, 3) := by decide +kernel
theorem dX3_pointsOfRule_5 : decode cX3_pointsOfRule 5 = .ok (.iload_n 0, 1) := by decide +kernel
theorem dX3_pointsOfRule_6 : decode cX3_pointsOfRule 6 = .ok (.getstatic 260, 3) := by decide +kernel
theorem dX3_pointsOfRule_9 : decode cX3_pointsOfRule 9 = .ok (.arraylength, 1) := by decide +kernel
theorem dX3_pointsOfRule_10 : decode cX3_pointsOfRule 10 = .ok (.if_icmp .gt 13, 3) := by decide +kernel
theorem dX3_pointsOfRule_13 : decode cX3_pointsOfRule 13 = .ok (.getstatic 260, 3) := by decide +kernel
theorem dX3_pointsOfRule_16 : decode cX3_pointsOfRule 16 = .ok (.iload_n 0, 1) := by decide +kernel
theorem dX3_pointsOfRule_17 : decode cX3_pointsOfRule 17 = .ok (.iconst 1, 1) := by decide +kernel
theorem dX3_pointsOfRule_18 : decode cX3_pointsOfRule 18 = .ok (.isub, 1) := by decide +kernel
theorem dX3_pointsOfRule_19 : decode cX3_pointsOfRule 19 = .ok (.iaload, 1) := by decide +kernel
theorem dX3_pointsOfRule_20 : decode cX3_pointsOfRule 20 = .ok (.goto 4, 3) := by decide +kernel
theorem dX3_pointsOfRule_23 : decode cX3_pointsOfRule 23 = .ok (.iconst 0, 1) := by decide +kernel
theorem dX3_pointsOfRule_24 : decode cX3_pointsOfRule 24 = .ok (.ireturn, 1) := by decide +kernel
theorem dX3_floored_0 : decode cX3_floored 0 = .ok (.lload_n 2, 1) := by decide +kernel
theorem dX3_floored_1 : decode cX3_floored 1 = .ok (.lconst 0, 1) := by decide +kernel
theorem dX3_floored_2 : decode cX3_floored 2 = .ok (.lcmp, 1) := by decide +kernel
theorem dX3_floored_3 : decode cX3_floored 3 = .ok (.ifCond .le 11, 3) := by decide +kernel
theorem dX3_floored_6 : decode cX3_floored 6 = .ok (.lload_n 0, 1) := by decide +kernel
theorem dX3_floored_7 : decode cX3_floored 7 = .ok (.lload_n 2, 1) := by decide +kernel
theorem dX3_floored_8 : decode cX3_floored 8 = .ok (.invokestatic 263, 3) := by decide +kernel
theorem dX3_floored_11 : decode cX3_floored 11 = .ok (.goto 4, 3) := by decide +kernel
theorem dX3_floored_14 : decode cX3_floored 14 = .ok (.lconst 0, 1) := by decide +kernel
theorem dX3_floored_15 : decode cX3_floored 15 = .ok (.lreturn, 1) := by decide +kernel
theorem dX3_rounded_0 : decode cX3_rounded 0 = .ok (.ldc2_w 265, 3) := by decide +kernel
theorem dX3_rounded_3 : decode cX3_rounded 3 = .ok (.lload_n 0, 1) := by decide +kernel
theorem dX3_rounded_4 : decode cX3_rounded 4 = .ok (.lmul, 1) := by decide +kernel
theorem dX3_rounded_5 : decode cX3_rounded 5 = .ok (.lload_n 2, 1) := by decide +kernel
theorem dX3_rounded_6 : decode cX3_rounded 6 = .ok (.ladd, 1) := by decide +kernel
theorem dX3_rounded_7 : decode cX3_rounded 7 = .ok (.ldc2_w 265, 3) := by decide +kernel
theorem dX3_rounded_10 : decode cX3_rounded 10 = .ok (.lload_n 2, 1) := by decide +kernel
theorem dX3_rounded_11 : decode cX3_rounded 11 = .ok (.lmul, 1) := by decide +kernel
theorem dX3_rounded_12 : decode cX3_rounded 12 = .ok (.invokestatic 214, 3) := by decide +kernel
theorem dX3_rounded_15 : decode cX3_rounded 15 = .ok (.lreturn, 1) := by decide +kernel
theorem dX3_direction_0 : decode cX3_direction 0 = .ok (.iload_n 1, 1) := by decide +kernel
theorem dX3_direction_1 : decode cX3_direction 1 = .ok (.iload_n 0, 1) := by decide +kernel
theorem dX3_direction_2 : decode cX3_direction 2 = .ok (.if_icmp .le 7, 3) := by decide +kernel
theorem dX3_direction_5 : decode cX3_direction 5 = .ok (.iconst 1, 1) := by decide +kernel
theorem dX3_direction_6 : decode cX3_direction 6 = .ok (.goto 13, 3) := by decide +kernel
theorem dX3_direction_9 : decode cX3_direction 9 = .ok (.iload_n 1, 1) := by decide +kernel
theorem dX3_direction_10 : decode cX3_direction 10 = .ok (.iload_n 0, 1) := by decide +kernel
theorem dX3_direction_11 : decode cX3_direction 11 = .ok (.if_icmp .ge 7, 3) := by decide +kernel
theorem dX3_direction_14 : decode cX3_direction 14 = .ok (.iconst (-1), 1) := by decide +kernel
theorem dX3_direction_15 : decode cX3_direction 15 = .ok (.goto 4, 3) := by decide +kernel
theorem dX3_direction_18 : decode cX3_direction 18 = .ok (.iconst 0, 1) := by decide +kernel
theorem dX3_direction_19 : decode cX3_direction 19 = .ok (.ireturn, 1) := by decide +kernel
end
section
theorem dX4_init_0 : decode cX4_init 0 = .ok (.aload_n 0, 1) := by decide +kernel
theorem dX4_init_1 : decode cX4_init 1 = .ok (.invokespecial 1, 3) := by decide +kernel
theorem dX4_init_4 : decode cX4_init 4 = .ok (.aload_n 0, 1) := by decide +kernel
theorem dX4_init_5 : decode cX4_init 5 = .ok (.iconst 5, 1) := by decide +kernel
theorem dX4_init_6 : decode cX4_init 6 = .ok (.putfield 7, 3) := by decide +kernel
theorem dX4_init_9 : decode cX4_init 9 = .ok (.aload_n 0, 1) := by decide +kernel
theorem dX4_init_10 : decode cX4_init 10 = .ok (.bipush 60, 2) := by decide +kernel
theorem dX4_init_12 : decode cX4_init 12 = .ok (.newarray .int, 2) := by decide +kernel
theorem dX4_init_14 : decode cX4_init 14 = .ok (.putfield 13, 3) := by decide +kernel
theorem dX4_init_17 : decode cX4_init 17 = .ok (.aload_n 0, 1) := by decide +kernel
theorem dX4_init_18 : decode cX4_init 18 = .ok (.bipush 60, 2) := by decide +kernel
theorem dX4_init_20 : decode cX4_init 20 = .ok (.newarray .int, 2) := by decide +kernel
theorem dX4_init_22 : decode cX4_init 22 = .ok (.putfield 17, 3) := by decide +kernel
theorem dX4_init_25 : decode cX4_init 25 = .ok (.aload_n 0, 1) := by decide +kernel
theorem dX4_init_26 : decode cX4_init 26 = .ok (.bipush 60, 2) := by decide +kernel
theorem dX4_init_28 : decode cX4_init 28 = .ok (.newarray .int, 2) := by decide +kernel
theorem dX4_init_30 : decode cX4_init 30 = .ok (.putfield 20, 3) := by decide +kernel
theorem dX4_init_33 : decode cX4_init 33 = .ok (.aload_n 0, 1) := by decide +kernel
theorem dX4_init_34 : decode cX4_init 34 = .ok (.iconst 1, 1) := by decide +kernel
theorem dX4_init_35 : decode cX4_init 35 = .ok (.putfield 23, 3) := by decide +kernel
theorem dX4_init_38 : decode cX4_init 38 = .ok (.aload_n 0, 1) := by decide +kernel
theorem dX4_init_39 : decode cX4_init 39 = .ok (.bipush 10, 2) := by decide +kernel
theorem dX4_init_41 : decode cX4_init 41 = .ok (.newarray .int, 2) := by decide +kernel
theorem dX4_init_43 : decode cX4_init 43 = .ok (.putfield 26, 3) := by decide +kernel
theorem dX4_init_46 : decode cX4_init 46 = .ok (.aload_n 0, 1) := by decide +kernel
theorem dX4_init_47 : decode cX4_init 47 = .ok (.bipush 10, 2) := by decide +kernel
theorem dX4_init_49 : decode cX4_init 49 = .ok (.newarray .boolean, 2) := by decide +kernel
theorem dX4_init_51 : decode cX4_init 51 = .ok (.putfield 29, 3) := by decide +kernel
theorem dX4_init_54 : decode cX4_init 54 = .ok (.aload_n 0, 1) := by decide +kernel
theorem dX4_init_55 : decode cX4_init 55 = .ok (.bipush 10, 2) := by decide +kernel
theorem dX4_init_57 : decode cX4_init 57 = .ok (.newarray .int, 2) := by decide +kernel
theorem dX4_init_59 : decode cX4_init 59 = .ok (.putfield 33, 3) := by decide +kernel
theorem dX4_init_62 : decode cX4_init 62 = .ok (.aload_n 0, 1) := by decide +kernel
theorem dX4_init_63 : decode cX4_init 63 = .ok (.bipush 10, 2) := by decide +kernel
theorem dX4_init_65 : decode cX4_init 65 = .ok (.newarray .int, 2) := by decide +kernel
theorem dX4_init_67 : decode cX4_init 67 = .ok (.putfield 36, 3) := by decide +kernel
theorem dX4_init_70 : decode cX4_init 70 = .ok (.aload_n 0, 1) := by decide +kernel
theorem dX4_init_71 : decode cX4_init 71 = .ok (.iconst 2, 1) := by decide +kernel
theorem dX4_init_72 : decode cX4_init 72 = .ok (.putfield 39, 3) := by decide +kernel
theorem dX4_init_75 : decode cX4_init 75 = .ok (.aload_n 0, 1) := by decide +kernel
theorem dX4_init_76 : decode cX4_init 76 = .ok (.bipush 60, 2) := by decide +kernel
theorem dX4_init_78 : decode cX4_init 78 = .ok (.newarray .int, 2) := by decide +kernel
theorem dX4_init_80 : decode cX4_init 80 = .ok (.putfield 42, 3) := by decide +kernel
theorem dX4_init_83 : decode cX4_init 83 = .ok (.aload_n 0, 1) := by decide +kernel
theorem dX4_init_84 : decode cX4_init 84 = .ok (.bipush 60, 2) := by decide +kernel
theorem dX4_init_86 : decode cX4_init 86 = .ok (.newarray .int, 2) := by decide +kernel
theorem dX4_init_88 : decode cX4_init 88 = .ok (.putfield 45, 3) := by decide +kernel
theorem dX4_init_91 : decode cX4_init 91 = .ok (.return_, 1) := by decide +kernel
theorem dX4_thrown_0 : decode cX4_thrown 0 = .ok (.aload_n 0, 1) := by decide +kernel
theorem dX4_thrown_1 : decode cX4_thrown 1 = .ok (.getfield 48, 3) := by decide +kernel
theorem dX4_thrown_4 : decode cX4_thrown 4 = .ok (.ireturn, 1) := by decide +kernel
theorem dX4_isIn_0 : decode cX4_isIn 0 = .ok (.iload_n 0, 1) := by decide +kernel
theorem dX4_isIn_1 : decode cX4_isIn 1 = .ok (.iload_n 1, 1) := by decide +kernel
theorem dX4_isIn_2 : decode cX4_isIn 2 = .ok (.if_icmp .lt 12, 3) := by decide +kernel
theorem dX4_isIn_5 : decode cX4_isIn 5 = .ok (.iload_n 0, 1) := by decide +kernel
theorem dX4_isIn_6 : decode cX4_isIn 6 = .ok (.iload_n 2, 1) := by decide +kernel
theorem dX4_isIn_7 : decode cX4_isIn 7 = .ok (.if_icmp .gt 7, 3) := by decide +kernel
theorem dX4_isIn_10 : decode cX4_isIn 10 = .ok (.iconst 1, 1) := by decide +kernel
theorem dX4_isIn_11 : decode cX4_isIn 11 = .ok (.goto 4, 3) := by decide +kernel
theorem dX4_isIn_14 : decode cX4_isIn 14 = .ok (.iconst 0, 1) := by decide +kernel
theorem dX4_isIn_15 : decode cX4_isIn 15 = .ok (.ireturn, 1) := by decide +kernel
theorem dX4_floored_0 : decode cX4_floored 0 = .ok (.lload_n 0, 1) := by decide +kernel
theorem dX4_floored_1 : decode cX4_floored 1 = .ok (.lload_n 2, 1) := by decide +kernel
theorem dX4_floored_2 : decode cX4_floored 2 = .ok (.ldiv, 1) := by decide +kernel
theorem dX4_floored_3 : decode cX4_floored 3 = .ok (.lstore 4, 2) := by decide +kernel
theorem dX4_floored_5 : decode cX4_floored 5 = .ok (.lload 4, 2) := by decide +kernel
theorem dX4_floored_7 : decode cX4_floored 7 = .ok (.lload_n 2, 1) := by decide +kernel
theorem dX4_floored_8 : decode cX4_floored 8 = .ok (.lmul, 1) := by decide +kernel
theorem dX4_floored_9 : decode cX4_floored 9 = .ok (.lload_n 0, 1) := by decide +kernel
theorem dX4_floored_10 : decode cX4_floored 10 = .ok (.lcmp, 1) := by decide +kernel
theorem dX4_floored_11 : decode cX4_floored 11 = .ok (.ifCond .le 10, 3) := by decide +kernel
theorem dX4_floored_14 : decode cX4_floored 14 = .ok (.lload 4, 2) := by decide +kernel
theorem dX4_floored_16 : decode cX4_floored 16 = .ok (.lconst 1, 1) := by decide +kernel
theorem dX4_floored_17 : decode cX4_floored 17 = .ok (.lsub, 1) := by decide +kernel
theorem dX4_floored_18 : decode cX4_floored 18 = .ok (.goto 5, 3) := by decide +kernel
theorem dX4_floored_21 : decode cX4_floored 21 = .ok (.lload 4, 2) := by decide +kernel
theorem dX4_floored_23 : decode cX4_floored 23 = .ok (.lreturn, 1) := by decide +kernel
theorem dX4_rounded_0 : decode cX4_rounded 0 = .ok (.ldc2_w 51, 3) := by decide +kernel
theorem dX4_rounded_3 : decode cX4_rounded 3 = .ok (.lload_n 0, 1) := by decide +kernel
theorem dX4_rounded_4 : decode cX4_rounded 4 = .ok (.lmul, 1) := by decide +kernel
theorem dX4_rounded_5 : decode cX4_rounded 5 = .ok (.lload_n 2, 1) := by decide +kernel
theorem dX4_rounded_6 : decode cX4_rounded 6 = .ok (.ladd, 1) := by decide +kernel
theorem dX4_rounded_7 : decode cX4_rounded 7 = .ok (.ldc2_w 51, 3) := by decide +kernel
theorem dX4_rounded_10 : decode cX4_rounded 10 = .ok (.lload_n 2, 1) := by decide +kernel
theorem dX4_rounded_11 : decode cX4_rounded 11 = .ok (.lmul, 1) := by decide +kernel
theorem dX4_rounded_12 : decode cX4_rounded 12 = .ok (.invokestatic 53, 3) := by decide +kernel
theorem dX4_rounded_15 : decode cX4_rounded 15 = .ok (.l2i, 1) := by decide +kernel
theorem dX4_rounded_16 : decode cX4_rounded 16 = .ok (.ireturn, 1) := by decide +kernel
theorem dX4_factor_0 : decode cX4_factor 0 = .ok (.iload_n 0, 1) := by decide +kernel
theorem dX4_factor_1 : decode cX4_factor 1 = .ok (.iconst 2, 1) := by decide +kernel
theorem dX4_factor_2 : decode cX4_factor 2 = .ok (.if_icmp .ne 7, 3) := by decide +kernel
theorem dX4_factor_5 : decode cX4_factor 5 = .ok (.iload_n 1, 1) := by decide +kernel
theorem dX4_factor_6 : decode cX4_factor 6 = .ok (.goto 33, 3) := by decide +kernel
theorem dX4_factor_9 : decode cX4_factor 9 = .ok (.iload_n 0, 1) := by decide +kernel
theorem dX4_factor_10 : decode cX4_factor 10 = .ok (.iconst 3, 1) := by decide +kernel
theorem dX4_factor_11 : decode cX4_factor 11 = .ok (.if_icmp .ne 7, 3) := by decide +kernel
theorem dX4_factor_14 : decode cX4_factor 14 = .ok (.iload_n 2, 1) := by decide +kernel
theorem dX4_factor_15 : decode cX4_factor 15 = .ok (.goto 24, 3) := by decide +kernel
theorem dX4_factor_18 : decode cX4_factor 18 = .ok (.iload_n 0, 1) := by decide +kernel
theorem dX4_factor_19 : decode cX4_factor 19 = .ok (.iconst 4, 1) := by decide +kernel
theorem dX4_factor_20 : decode cX4_factor 20 = .ok (.if_icmp .ne 7, 3) := by decide +kernel
theorem dX4_factor_23 : decode cX4_factor 23 = .ok (.iload_n 3, 1) := by decide +kernel
theorem dX4_factor_24 : decode cX4_factor 24 = .ok (.goto 15, 3) := by decide +kernel
theorem dX4_factor_27 : decode cX4_factor 27 = .ok (.iload_n 0, 1) := by decide +kernel
theorem dX4_factor_28 : decode cX4_factor 28 = .ok (.iconst 5, 1) := by decide +kernel
theorem dX4_factor_29 : decode cX4_factor 29 = .ok (.if_icmp .ne 8, 3) := by decide +kernel
theorem dX4_factor_32 : decode cX4_factor 32 = .ok (.iload 4, 2) := by decide +kernel
theorem dX4_factor_34 : decode cX4_factor 34 = .ok (.goto 5, 3) := by decide +kernel
theorem dX4_factor_37 : decode cX4_factor 37 = .ok (.iload 5, 2) := by decide +kernel
theorem dX4_factor_39 : decode cX4_factor 39 = .ok (.ireturn, 1) := by decide +kernel
theorem dX4_begin_0 : decode cX4_begin 0 = .ok (.aload_n 0, 1) := by decide +kernel
theorem dX4_begin_1 : decode cX4_begin 1 = .ok (.iload_n 1, 1) := by decide +kernel
theorem dX4_begin_2 : decode cX4_begin 2 = .ok (.iconst 2, 1) := by decide +kernel
theorem dX4_begin_3 : decode cX4_begin 3 = .ok (.bipush 6, 2) := by decide +kernel
theorem dX4_begin_5 : decode cX4_begin 5 = .ok (.invokestatic 57, 3) := by decide +kernel
theorem dX4_begin_8 : decode cX4_begin 8 = .ok (.ifCond .eq 7, 3) := by decide +kernel
theorem dX4_begin_11 : decode cX4_begin 11 = .ok (.iconst 0, 1) := by decide +kernel
theorem dX4_begin_12 : decode cX4_begin 12 = .ok (.goto 4, 3) := by decide +kernel
theorem dX4_begin_15 : decode cX4_begin 15 = .ok (.iconst 1, 1) := by decide +kernel
theorem dX4_begin_16 : decode cX4_begin 16 = .ok (.putfield 48, 3) := by decide +kernel
theorem dX4_begin_19 : decode cX4_begin 19 = .ok (.aload_n 0, 1) := by decide +kernel
theorem dX4_begin_20 : decode cX4_begin 20 = .ok (.getfield 48, 3) := by decide +kernel
theorem dX4_begin_23 : decode cX4_begin 23 = .ok (.ifCond .le 4, 3) := by decide +kernel
theorem dX4_begin_26 : decode cX4_begin 26 = .ok (.return_, 1) := by decide +kernel
theorem dX4_begin_27 : decode cX4_begin 27 = .ok (.aload_n 0, 1) := by decide +kernel
theorem dX4_begin_28 : decode cX4_begin 28 = .ok (.iload_n 1, 1) := by decide +kernel
theorem dX4_begin_29 : decode cX4_begin 29 = .ok (.putfield 7, 3) := by decide +kernel
theorem dX4_begin_32 : decode cX4_begin 32 = .ok (.aload_n 0, 1) := by decide +kernel
theorem dX4_begin_33 : decode cX4_begin 33 = .ok (.iconst 0, 1) := by decide +kernel
theorem dX4_begin_34 : decode cX4_begin 34 = .ok (.putfield 61, 3) := by decide +kernel
theorem dX4_begin_37 : decode cX4_begin 37 = .ok (.aload_n 0, 1) := by decide +kernel
theorem dX4_begin_38 : decode cX4_begin 38 = .ok (.iconst 0, 1) := by decide +kernel
theorem dX4_begin_39 : decode cX4_begin 39 = .ok (.putfield 64, 3) := by decide +kernel
theorem dX4_begin_42 : decode cX4_begin 42 = .ok (.aload_n 0, 1) := by decide +kernel
theorem dX4_begin_43 : decode cX4_begin 43 = .ok (.iconst 1, 1) := by decide +kernel
theorem dX4_begin_44 : decode cX4_begin 44 = .ok (.putfield 23, 3) := by decide +kernel
theorem dX4_begin_47 : decode cX4_begin 47 = .ok (.aload_n 0, 1) := by decide +kernel
theorem dX4_begin_48 : decode cX4_begin 48 = .ok (.iconst 2, 1) := by decide +kernel
theorem dX4_begin_49 : decode cX4_begin 49 = .ok (.putfield 39, 3) := by decide +kernel
theorem dX4_begin_52 : decode cX4_begin 52 = .ok (.iconst 0, 1) := by decide +kernel
theorem dX4_begin_53 : decode cX4_begin 53 = .ok (.istore_n 2, 1) := by decide +kernel
theorem dX4_begin_54 : decode cX4_begin 54 = .ok (.iload_n 2, 1) := by decide +kernel
theorem dX4_begin_55 : decode cX4_begin 55 = .ok (.bipush 10, 2) := by decide +kernel
theorem dX4_begin_57 : decode cX4_begin 57 = .ok (.if_icmp .ge 23, 3) := by decide +kernel
theorem dX4_begin_60 : decode cX4_begin 60 = .ok (.aload_n 0, 1) := by decide +kernel
theorem dX4_begin_61 : decode cX4_begin 61 = .ok (.getfield 26, 3) := by decide +kernel
theorem dX4_begin_64 : decode cX4_begin 64 = .ok (.iload_n 2, 1) := by decide +kernel
theorem dX4_begin_65 : decode cX4_begin 65 = .ok (.iconst 0, 1) := by decide +kernel
theorem dX4_begin_66 : decode cX4_begin 66 = .ok (.iastore, 1) := by decide +kernel
theorem dX4_begin_67 : decode cX4_begin 67 = .ok (.aload_n 0, 1) := by decide +kernel
theorem dX4_begin_68 : decode cX4_begin 68 = .ok (.getfield 29, 3) := by decide +kernel
theorem dX4_begin_71 : decode cX4_begin 71 = .ok (.iload_n 2, 1) := by decide +kernel
theorem dX4_begin_72 : decode cX4_begin 72 = .ok (.iconst 0, 1) := by decide +kernel
theorem dX4_begin_73 : decode cX4_begin 73 = .ok (.bastore, 1) := by decide +kernel
theorem dX4_begin_74 : decode cX4_begin 74 = .ok (.iinc 2 1, 3) := by decide +kernel
theorem dX4_begin_77 : decode cX4_begin 77 = .ok (.goto (-23), 3) := by decide +kernel
theorem dX4_begin_80 : decode cX4_begin 80 = .ok (.return_, 1) := by decide +kernel
theorem dX4_put_0 : decode cX4_put 0 = .ok (.aload_n 0, 1) := by decide +kernel
theorem dX4_put_1 : decode cX4_put 1 = .ok (.iload_n 1, 1) := by decide +kernel
theorem dX4_put_2 : decode cX4_put 2 = .ok (.sipush (-9999), 3) := by decide +kernel
theorem dX4_put_5 : decode cX4_put 5 = .ok (.sipush 9999, 3) := by decide +kernel
theorem dX4_put_8 : decode cX4_put 8 = .ok (.invokestatic 57, 3) := by decide +kernel
theorem dX4_put_11 : decode cX4_put 11 = .ok (.ifCond .ne 7, 3) := by decide +kernel
theorem dX4_put_14 : decode cX4_put 14 = .ok (.iconst 1, 1) := by decide +kernel
theorem dX4_put_15 : decode cX4_put 15 = .ok (.goto 17, 3) := by decide +kernel
theorem dX4_put_18 : decode cX4_put 18 = .ok (.aload_n 0, 1) := by decide +kernel
theorem dX4_put_19 : decode cX4_put 19 = .ok (.getfield 61, 3) := by decide +kernel
theorem dX4_put_22 : decode cX4_put 22 = .ok (.bipush 60, 2) := by decide +kernel
theorem dX4_put_24 : decode cX4_put 24 = .ok (.if_icmp .ne 7, 3) := by decide +kernel
theorem dX4_put_27 : decode cX4_put 27 = .ok (.iconst 2, 1) := by decide +kernel
theorem dX4_put_28 : decode cX4_put 28 = .ok (.goto 4, 3) := by decide +kernel
theorem dX4_put_31 : decode cX4_put 31 = .ok (.iconst 0, 1) := by decide +kernel
theorem dX4_put_32 : decode cX4_put 32 = .ok (.putfield 48, 3) := by decide +kernel
theorem dX4_put_35 : decode cX4_put 35 = .ok (.aload_n 0, 1) := by decide +kernel
theorem dX4_put_36 : decode cX4_put 36 = .ok (.getfield 48, 3) := by decide +kernel
theorem dX4_put_39 : decode cX4_put 39 = .ok (.ifCond .le 5, 3) := by decide +kernel
theorem dX4_put_42 : decode cX4_put 42 = .ok (.iconst 0, 1) := by decide +kernel
theorem dX4_put_43 : decode cX4_put 43 = .ok (.ireturn, 1) := by decide +kernel
theorem dX4_put_44 : decode cX4_put 44 = .ok (.aload_n 0, 1) := by decide +kernel
theorem dX4_put_45 : decode cX4_put 45 = .ok (.aload_n 0, 1) := by decide +kernel
theorem dX4_put_46 : decode cX4_put 46 = .ok (.getfield 64, 3) := by decide +kernel
theorem dX4_put_49 : decode cX4_put 49 = .ok (.ifCond .ne 7, 3) := by decide +kernel
theorem dX4_put_52 : decode cX4_put 52 = .ok (.iload_n 1, 1) := by decide +kernel
theorem dX4_put_53 : decode cX4_put 53 = .ok (.goto 9, 3) := by decide +kernel
theorem dX4_put_56 : decode cX4_put 56 = .ok (.aload_n 0, 1) := by decide +kernel
theorem dX4_put_57 : decode cX4_put 57 = .ok (.getfield 67, 3) := by decide +kernel
theorem dX4_put_60 : decode cX4_put 60 = .ok (.iload_n 1, 1) := by decide +kernel
theorem dX4_put_61 : decode cX4_put 61 = .ok (.iadd, 1) := by decide +kernel
theorem dX4_put_62 : decode cX4_put 62 = .ok (.putfield 67, 3) := by decide +kernel
theorem dX4_put_65 : decode cX4_put 65 = .ok (.aload_n 0, 1) := by decide +kernel
theorem dX4_put_66 : decode cX4_put 66 = .ok (.aload_n 0, 1) := by decide +kernel
theorem dX4_put_67 : decode cX4_put 67 = .ok (.getfield 64, 3) := by decide +kernel
theorem dX4_put_70 : decode cX4_put 70 = .ok (.ifCond .eq 11, 3) := by decide +kernel
theorem dX4_put_73 : decode cX4_put 73 = .ok (.iload_n 1, 1) := by decide +kernel
theorem dX4_put_74 : decode cX4_put 74 = .ok (.aload_n 0, 1) := by decide +kernel
theorem dX4_put_75 : decode cX4_put 75 = .ok (.getfield 70, 3) := by decide +kernel
theorem dX4_put_78 : decode cX4_put 78 = .ok (.if_icmp .ge 7, 3) := by decide +kernel
theorem dX4_put_81 : decode cX4_put 81 = .ok (.iload_n 1, 1) := by decide +kernel
theorem dX4_put_82 : decode cX4_put 82 = .ok (.goto 7, 3) := by decide +kernel
theorem dX4_put_85 : decode cX4_put 85 = .ok (.aload_n 0, 1) := by decide +kernel
theorem dX4_put_86 : decode cX4_put 86 = .ok (.getfield 70, 3) := by decide +kernel
theorem dX4_put_89 : decode cX4_put 89 = .ok (.putfield 70, 3) := by decide +kernel
theorem dX4_put_92 : decode cX4_put 92 = .ok (.aload_n 0, 1) := by decide +kernel
theorem dX4_put_93 : decode cX4_put 93 = .ok (.aload_n 0, 1) := by decide +kernel
theorem dX4_put_94 : decode cX4_put 94 = .ok (.getfield 64, 3) := by decide +kernel
theorem dX4_put_97 : decode cX4_put 97 = .ok (.ifCond .eq 11, 3) := by decide +kernel
theorem dX4_put_100 : decode cX4_put 100 = .ok (.iload_n 1, 1) := by decide +kernel
theorem dX4_put_101 : decode cX4_put 101 = .ok (.aload_n 0, 1) := by decide +kernel
theorem dX4_put_102 : decode cX4_put 102 = .ok (.getfield 73, 3) := by decide +kernel
theorem dX4_put_105 : decode cX4_put 105 = .ok (.if_icmp .le 7, 3) := by decide +kernel
theorem dX4_put_108 : decode cX4_put 108 = .ok (.iload_n 1, 1) := by decide +kernel
theorem dX4_put_109 : decode cX4_put 109 = .ok (.goto 7, 3) := by decide +kernel
theorem dX4_put_112 : decode cX4_put 112 = .ok (.aload_n 0, 1) := by decide +kernel
theorem dX4_put_113 : decode cX4_put 113 = .ok (.getfield 73, 3) := by decide +kernel
theorem dX4_put_116 : decode cX4_put 116 = .ok (.putfield 73, 3) := by decide +kernel
theorem dX4_put_119 : decode cX4_put 119 = .ok (.aload_n 0, 1) := by decide +kernel
theorem dX4_put_120 : decode cX4_put 120 = .ok (.dup, 1) := by decide +kernel
theorem dX4_put_121 : decode cX4_put 121 = .ok (.getfield 64, 3) := by decide +kernel
theorem dX4_put_124 : decode cX4_put 124 = .ok (.iconst 1, 1) := by decide +kernel
theorem dX4_put_125 : decode cX4_put 125 = .ok (.iadd, 1) := by decide +kernel
theorem dX4_put_126 : decode cX4_put 126 = .ok (.putfield 64, 3) := by decide +kernel
theorem dX4_put_129 : decode cX4_put 129 = .ok (.aload_n 0, 1) := by decide +kernel
theorem dX4_put_130 : decode cX4_put 130 = .ok (.getfield 64, 3) := by decide +kernel
theorem dX4_put_133 : decode cX4_put 133 = .ok (.aload_n 0, 1) := by decide +kernel
theorem dX4_put_134 : decode cX4_put 134 = .ok (.getfield 7, 3) := by decide +kernel
theorem dX4_put_137 : decode cX4_put 137 = .ok (.if_icmp .ge 5, 3) := by decide +kernel
theorem dX4_put_140 : decode cX4_put 140 = .ok (.iconst 0, 1) := by decide +kernel
theorem dX4_put_141 : decode cX4_put 141 = .ok (.ireturn, 1) := by decide +kernel
theorem dX4_put_142 : decode cX4_put 142 = .ok (.aload_n 0, 1) := by decide +kernel
theorem dX4_put_143 : decode cX4_put 143 = .ok (.getfield 13, 3) := by decide +kernel
theorem dX4_put_146 : decode cX4_put 146 = .ok (.aload_n 0, 1) := by decide +kernel
theorem dX4_put_147 : decode cX4_put 147 = .ok (.getfield 61, 3) := by decide +kernel
theorem dX4_put_150 : decode cX4_put 150 = .ok (.aload_n 0, 1) := by decide +kernel
theorem dX4_put_151 : decode cX4_put 151 = .ok (.getfield 67, 3) := by decide +kernel
theorem dX4_put_154 : decode cX4_put 154 = .ok (.iastore, 1) := by decide +kernel
theorem dX4_put_155 : decode cX4_put 155 = .ok (.aload_n 0, 1) := by decide +kernel
theorem dX4_put_156 : decode cX4_put 156 = .ok (.getfield 17, 3) := by decide +kernel
theorem dX4_put_159 : decode cX4_put 159 = .ok (.aload_n 0, 1) := by decide +kernel
theorem dX4_put_160 : decode cX4_put 160 = .ok (.getfield 61, 3) := by decide +kernel
theorem dX4_put_163 : decode cX4_put 163 = .ok (.aload_n 0, 1) := by decide +kernel
theorem dX4_put_164 : decode cX4_put 164 = .ok (.getfield 73, 3) := by decide +kernel
theorem dX4_put_167 : decode cX4_put 167 = .ok (.aload_n 0, 1) := by decide +kernel
theorem dX4_put_168 : decode cX4_put 168 = .ok (.getfield 70, 3) := by decide +kernel
theorem dX4_put_171 : decode cX4_put 171 = .ok (.isub, 1) := by decide +kernel
theorem dX4_put_172 : decode cX4_put 172 = .ok (.iastore, 1) := by decide +kernel
theorem dX4_put_173 : decode cX4_put 173 = .ok (.aload_n 0, 1) := by decide +kernel
theorem dX4_put_174 : decode cX4_put 174 = .ok (.getfield 20, 3) := by decide +kernel
theorem dX4_put_177 : decode cX4_put 177 = .ok (.aload_n 0, 1) := by decide +kernel
theorem dX4_put_178 : decode cX4_put 178 = .ok (.getfield 61, 3) := by decide +kernel
theorem dX4_put_181 : decode cX4_put 181 = .ok (.iconst 0, 1) := by decide +kernel
theorem dX4_put_182 : decode cX4_put 182 = .ok (.iastore, 1) := by decide +kernel
theorem dX4_put_183 : decode cX4_put 183 = .ok (.aload_n 0, 1) := by decide +kernel
theorem dX4_put_184 : decode cX4_put 184 = .ok (.dup, 1) := by decide +kernel
theorem dX4_put_185 : decode cX4_put 185 = .ok (.getfield 61, 3) := by decide +kernel
theorem dX4_put_188 : decode cX4_put 188 = .ok (.iconst 1, 1) := by decide +kernel
theorem dX4_put_189 : decode cX4_put 189 = .ok (.iadd, 1) := by decide +kernel
theorem dX4_put_190 : decode cX4_put 190 = .ok (.putfield 61, 3) := by decide +kernel
theorem dX4_put_193 : decode cX4_put 193 = .ok (.aload_n 0, 1) := by decide +kernel
theorem dX4_put_194 : decode cX4_put 194 = .ok (.iconst 0, 1) := by decide +kernel
theorem dX4_put_195 : decode cX4_put 195 = .ok (.putfield 64, 3) := by decide +kernel
theorem dX4_put_198 : decode cX4_put 198 = .ok (.iconst 1, 1) := by decide +kernel
theorem dX4_put_199 : decode cX4_put 199 = .ok (.ireturn, 1) := by decide +kernel
theorem dX4_newPhase_0 : decode cX4_newPhase 0 = .ok (.aload_n 0, 1) := by decide +kernel
theorem dX4_newPhase_1 : decode cX4_newPhase 1 = .ok (.aload_n 0, 1) := by decide +kernel
theorem dX4_newPhase_2 : decode cX4_newPhase 2 = .ok (.getfield 26, 3) := by decide +kernel
theorem dX4_newPhase_5 : decode cX4_newPhase 5 = .ok (.aload_n 0, 1) := by decide +kernel
theorem dX4_newPhase_6 : decode cX4_newPhase 6 = .ok (.getfield 23, 3) := by decide +kernel
theorem dX4_newPhase_9 : decode cX4_newPhase 9 = .ok (.iconst 1, 1) := by decide +kernel
theorem dX4_newPhase_10 : decode cX4_newPhase 10 = .ok (.isub, 1) := by decide +kernel
theorem dX4_newPhase_11 : decode cX4_newPhase 11 = .ok (.iaload, 1) := by decide +kernel
theorem dX4_newPhase_12 : decode cX4_newPhase 12 = .ok (.aload_n 0, 1) := by decide +kernel
theorem dX4_newPhase_13 : decode cX4_newPhase 13 = .ok (.getfield 61, 3) := by decide +kernel
theorem dX4_newPhase_16 : decode cX4_newPhase 16 = .ok (.if_icmp .eq 19, 3) := by decide +kernel
theorem dX4_newPhase_19 : decode cX4_newPhase 19 = .ok (.aload_n 0, 1) := by decide +kernel
theorem dX4_newPhase_20 : decode cX4_newPhase 20 = .ok (.getfield 64, 3) := by decide +kernel
theorem dX4_newPhase_23 : decode cX4_newPhase 23 = .ok (.ifCond .gt 12, 3) := by decide +kernel
theorem dX4_newPhase_26 : decode cX4_newPhase 26 = .ok (.aload_n 0, 1) := by decide +kernel
theorem dX4_newPhase_27 : decode cX4_newPhase 27 = .ok (.getfield 23, 3) := by decide +kernel
theorem dX4_newPhase_30 : decode cX4_newPhase 30 = .ok (.bipush 10, 2) := by decide +kernel
theorem dX4_newPhase_32 : decode cX4_newPhase 32 = .ok (.if_icmp .ne 7, 3) := by decide +kernel
theorem dX4_newPhase_35 : decode cX4_newPhase 35 = .ok (.iconst 1, 1) := by decide +kernel
theorem dX4_newPhase_36 : decode cX4_newPhase 36 = .ok (.goto 4, 3) := by decide +kernel
theorem dX4_newPhase_39 : decode cX4_newPhase 39 = .ok (.iconst 0, 1) := by decide +kernel
theorem dX4_newPhase_40 : decode cX4_newPhase 40 = .ok (.putfield 48, 3) := by decide +kernel
theorem dX4_newPhase_43 : decode cX4_newPhase 43 = .ok (.aload_n 0, 1) := by decide +kernel
theorem dX4_newPhase_44 : decode cX4_newPhase 44 = .ok (.getfield 48, 3) := by decide +kernel
theorem dX4_newPhase_47 : decode cX4_newPhase 47 = .ok (.ifCond .le 5, 3) := by decide +kernel
theorem dX4_newPhase_50 : decode cX4_newPhase 50 = .ok (.iconst 0, 1) := by decide +kernel
theorem dX4_newPhase_51 : decode cX4_newPhase 51 = .ok (.ireturn, 1) := by decide +kernel
theorem dX4_newPhase_52 : decode cX4_newPhase 52 = .ok (.aload_n 0, 1) := by decide +kernel
theorem dX4_newPhase_53 : decode cX4_newPhase 53 = .ok (.getfield 26, 3) := by decide +kernel
theorem dX4_newPhase_56 : decode cX4_newPhase 56 = .ok (.aload_n 0, 1) := by decide +kernel
theorem dX4_newPhase_57 : decode cX4_newPhase 57 = .ok (.getfield 23, 3) := by decide +kernel
theorem dX4_newPhase_60 : decode cX4_newPhase 60 = .ok (.aload_n 0, 1) := by decide +kernel
theorem dX4_newPhase_61 : decode cX4_newPhase 61 = .ok (.getfield 61, 3) := by decide +kernel
theorem dX4_newPhase_64 : decode cX4_newPhase 64 = .ok (.iastore, 1) := by decide +kernel
theorem dX4_newPhase_65 : decode cX4_newPhase 65 = .ok (.aload_n 0, 1) := by decide +kernel
theorem dX4_newPhase_66 : decode cX4_newPhase 66 = .ok (.getfield 29, 3) := by decide +kernel
theorem dX4_newPhase_69 : decode cX4_newPhase 69 = .ok (.aload_n 0, 1) := by decide +kernel
theorem dX4_newPhase_70 : decode cX4_newPhase 70 = .ok (.getfield 23, 3) := by decide +kernel
theorem dX4_newPhase_73 : decode cX4_newPhase 73 = .ok (.iconst 0, 1) := by decide +kernel
theorem dX4_newPhase_74 : decode cX4_newPhase 74 = .ok (.bastore, 1) := by decide +kernel
theorem dX4_newPhase_75 : decode cX4_newPhase 75 = .ok (.aload_n 0, 1) := by decide +kernel
theorem dX4_newPhase_76 : decode cX4_newPhase 76 = .ok (.dup, 1) := by decide +kernel
theorem dX4_newPhase_77 : decode cX4_newPhase 77 = .ok (.getfield 23, 3) := by decide +kernel
theorem dX4_newPhase_80 : decode cX4_newPhase 80 = .ok (.iconst 1, 1) := by decide +kernel
theorem dX4_newPhase_81 : decode cX4_newPhase 81 = .ok (.iadd, 1) := by decide +kernel
theorem dX4_newPhase_82 : decode cX4_newPhase 82 = .ok (.putfield 23, 3) := by decide +kernel
theorem dX4_newPhase_85 : decode cX4_newPhase 85 = .ok (.aload_n 0, 1) := by decide +kernel
theorem dX4_newPhase_86 : decode cX4_newPhase 86 = .ok (.getfield 23, 3) := by decide +kernel
theorem dX4_newPhase_89 : decode cX4_newPhase 89 = .ok (.iconst 1, 1) := by decide +kernel
theorem dX4_newPhase_90 : decode cX4_newPhase 90 = .ok (.isub, 1) := by decide +kernel
theorem dX4_newPhase_91 : decode cX4_newPhase 91 = .ok (.ireturn, 1) := by decide +kernel
theorem dX4_phase_0 : decode cX4_phase 0 = .ok (.iconst 0, 1) := by decide +kernel
theorem dX4_phase_1 : decode cX4_phase 1 = .ok (.istore_n 2, 1) := by decide +kernel
theorem dX4_phase_2 : decode cX4_phase 2 = .ok (.iconst 0, 1) := by decide +kernel
theorem dX4_phase_3 : decode cX4_phase 3 = .ok (.istore_n 3, 1) := by decide +kernel
theorem dX4_phase_4 : decode cX4_phase 4 = .ok (.iload_n 3, 1) := by decide +kernel
theorem dX4_phase_5 : decode cX4_phase 5 = .ok (.aload_n 0, 1) := by decide +kernel
theorem dX4_phase_6 : decode cX4_phase 6 = .ok (.getfield 23, 3) := by decide +kernel
theorem dX4_phase_9 : decode cX4_phase 9 = .ok (.if_icmp .ge 25, 3) := by decide +kernel
theorem dX4_phase_12 : decode cX4_phase 12 = .ok (.aload_n 0, 1) := by decide +kernel
theorem dX4_phase_13 : decode cX4_phase 13 = .ok (.getfield 26, 3) := by decide +kernel
theorem dX4_phase_16 : decode cX4_phase 16 = .ok (.iload_n 3, 1) := by decide +kernel
theorem dX4_phase_17 : decode cX4_phase 17 = .ok (.iaload, 1) := by decide +kernel
theorem dX4_phase_18 : decode cX4_phase 18 = .ok (.iload_n 1, 1) := by decide +kernel
theorem dX4_phase_19 : decode cX4_phase 19 = .ok (.if_icmp .gt 7, 3) := by decide +kernel
theorem dX4_phase_22 : decode cX4_phase 22 = .ok (.iload_n 3, 1) := by decide +kernel
theorem dX4_phase_23 : decode cX4_phase 23 = .ok (.goto 4, 3) := by decide +kernel
theorem dX4_phase_26 : decode cX4_phase 26 = .ok (.iload_n 2, 1) := by decide +kernel
theorem dX4_phase_27 : decode cX4_phase 27 = .ok (.istore_n 2, 1) := by decide +kernel
theorem dX4_phase_28 : decode cX4_phase 28 = .ok (.iinc 3 1, 3) := by decide +kernel
theorem dX4_phase_31 : decode cX4_phase 31 = .ok (.goto (-27), 3) := by decide +kernel
theorem dX4_phase_34 : decode cX4_phase 34 = .ok (.iload_n 2, 1) := by decide +kernel
theorem dX4_phase_35 : decode cX4_phase 35 = .ok (.ireturn, 1) := by decide +kernel
theorem dX4_laysPoints_0 : decode cX4_laysPoints 0 = .ok (.aload_n 0, 1) := by decide +kernel
theorem dX4_laysPoints_1 : decode cX4_laysPoints 1 = .ok (.iconst 0, 1) := by decide +kernel
theorem dX4_laysPoints_2 : decode cX4_laysPoints 2 = .ok (.putfield 76, 3) := by decide +kernel
theorem dX4_laysPoints_5 : decode cX4_laysPoints 5 = .ok (.iconst 0, 1) := by decide +kernel
theorem dX4_laysPoints_6 : decode cX4_laysPoints 6 = .ok (.istore_n 3, 1) := by decide +kernel
theorem dX4_laysPoints_7 : decode cX4_laysPoints 7 = .ok (.iload_n 3, 1) := by decide +kernel
theorem dX4_laysPoints_8 : decode cX4_laysPoints 8 = .ok (.iload_n 2, 1) := by decide +kernel
theorem dX4_laysPoints_9 : decode cX4_laysPoints 9 = .ok (.if_icmp .gt 83, 3) := by decide +kernel
theorem dX4_laysPoints_12 : decode cX4_laysPoints 12 = .ok (.iload_n 3, 1) := by decide +kernel
theorem dX4_laysPoints_13 : decode cX4_laysPoints 13 = .ok (.aload_n 0, 1) := by decide +kernel
theorem dX4_laysPoints_14 : decode cX4_laysPoints 14 = .ok (.getfield 61, 3) := by decide +kernel
theorem dX4_laysPoints_17 : decode cX4_laysPoints 17 = .ok (.if_icmp .ge 75, 3) := by decide +kernel
theorem dX4_laysPoints_20 : decode cX4_laysPoints 20 = .ok (.aload_n 0, 1) := by decide +kernel
theorem dX4_laysPoints_21 : decode cX4_laysPoints 21 = .ok (.iload_n 3, 1) := by decide +kernel
theorem dX4_laysPoints_22 : decode cX4_laysPoints 22 = .ok (.invokevirtual 79, 3) := by decide +kernel
theorem dX4_laysPoints_25 : decode cX4_laysPoints 25 = .ok (.iload_n 1, 1) := by decide +kernel
theorem dX4_laysPoints_26 : decode cX4_laysPoints 26 = .ok (.if_icmp .ne 60, 3) := by decide +kernel
theorem dX4_laysPoints_29 : decode cX4_laysPoints 29 = .ok (.aload_n 0, 1) := by decide +kernel
theorem dX4_laysPoints_30 : decode cX4_laysPoints 30 = .ok (.getfield 20, 3) := by decide +kernel
theorem dX4_laysPoints_33 : decode cX4_laysPoints 33 = .ok (.iload_n 3, 1) := by decide +kernel
theorem dX4_laysPoints_34 : decode cX4_laysPoints 34 = .ok (.iaload, 1) := by decide +kernel
theorem dX4_laysPoints_35 : decode cX4_laysPoints 35 = .ok (.ifCond .ne 51, 3) := by decide +kernel
theorem dX4_laysPoints_38 : decode cX4_laysPoints 38 = .ok (.aload_n 0, 1) := by decide +kernel
theorem dX4_laysPoints_39 : decode cX4_laysPoints 39 = .ok (.getfield 42, 3) := by decide +kernel
theorem dX4_laysPoints_42 : decode cX4_laysPoints 42 = .ok (.aload_n 0, 1) := by decide +kernel
theorem dX4_laysPoints_43 : decode cX4_laysPoints 43 = .ok (.getfield 76, 3) := by decide +kernel
theorem dX4_laysPoints_46 : decode cX4_laysPoints 46 = .ok (.iload_n 3, 1) := by decide +kernel
theorem dX4_laysPoints_47 : decode cX4_laysPoints 47 = .ok (.iastore, 1) := by decide +kernel
theorem dX4_laysPoints_48 : decode cX4_laysPoints 48 = .ok (.aload_n 0, 1) := by decide +kernel
theorem dX4_laysPoints_49 : decode cX4_laysPoints 49 = .ok (.getfield 45, 3) := by decide +kernel
theorem dX4_laysPoints_52 : decode cX4_laysPoints 52 = .ok (.aload_n 0, 1) := by decide +kernel
theorem dX4_laysPoints_53 : decode cX4_laysPoints 53 = .ok (.getfield 76, 3) := by decide +kernel
theorem dX4_laysPoints_56 : decode cX4_laysPoints 56 = .ok (.ldc2_w 83, 3) := by decide +kernel
theorem dX4_laysPoints_59 : decode cX4_laysPoints 59 = .ok (.aload_n 0, 1) := by decide +kernel
theorem dX4_laysPoints_60 : decode cX4_laysPoints 60 = .ok (.getfield 13, 3) := by decide +kernel
theorem dX4_laysPoints_63 : decode cX4_laysPoints 63 = .ok (.iload_n 3, 1) := by decide +kernel
theorem dX4_laysPoints_64 : decode cX4_laysPoints 64 = .ok (.iaload, 1) := by decide +kernel
theorem dX4_laysPoints_65 : decode cX4_laysPoints 65 = .ok (.i2l, 1) := by decide +kernel
theorem dX4_laysPoints_66 : decode cX4_laysPoints 66 = .ok (.lmul, 1) := by decide +kernel
theorem dX4_laysPoints_67 : decode cX4_laysPoints 67 = .ok (.aload_n 0, 1) := by decide +kernel
theorem dX4_laysPoints_68 : decode cX4_laysPoints 68 = .ok (.getfield 7, 3) := by decide +kernel
theorem dX4_laysPoints_71 : decode cX4_laysPoints 71 = .ok (.i2l, 1) := by decide +kernel
theorem dX4_laysPoints_72 : decode cX4_laysPoints 72 = .ok (.invokestatic 85, 3) := by decide +kernel
theorem dX4_laysPoints_75 : decode cX4_laysPoints 75 = .ok (.iastore, 1) := by decide +kernel
theorem dX4_laysPoints_76 : decode cX4_laysPoints 76 = .ok (.aload_n 0, 1) := by decide +kernel
theorem dX4_laysPoints_77 : decode cX4_laysPoints 77 = .ok (.dup, 1) := by decide +kernel
theorem dX4_laysPoints_78 : decode cX4_laysPoints 78 = .ok (.getfield 76, 3) := by decide +kernel
theorem dX4_laysPoints_81 : decode cX4_laysPoints 81 = .ok (.iconst 1, 1) := by decide +kernel
theorem dX4_laysPoints_82 : decode cX4_laysPoints 82 = .ok (.iadd, 1) := by decide +kernel
theorem dX4_laysPoints_83 : decode cX4_laysPoints 83 = .ok (.putfield 76, 3) := by decide +kernel
theorem dX4_laysPoints_86 : decode cX4_laysPoints 86 = .ok (.iinc 3 1, 3) := by decide +kernel
theorem dX4_laysPoints_89 : decode cX4_laysPoints 89 = .ok (.goto (-82), 3) := by decide +kernel
theorem dX4_laysPoints_92 : decode cX4_laysPoints 92 = .ok (.return_, 1) := by decide +kernel
theorem dX4_laysLimits_0 : decode cX4_laysLimits 0 = .ok (.aload_n 0, 1) := by decide +kernel
theorem dX4_laysLimits_1 : decode cX4_laysLimits 1 = .ok (.iload_n 1, 1) := by decide +kernel
theorem dX4_laysLimits_2 : decode cX4_laysLimits 2 = .ok (.bipush 59, 2) := by decide +kernel
theorem dX4_laysLimits_4 : decode cX4_laysLimits 4 = .ok (.invokevirtual 89, 3) := by decide +kernel
theorem dX4_laysLimits_7 : decode cX4_laysLimits 7 = .ok (.lconst 0, 1) := by decide +kernel
theorem dX4_laysLimits_8 : decode cX4_laysLimits 8 = .ok (.lstore_n 2, 1) := by decide +kernel
theorem dX4_laysLimits_9 : decode cX4_laysLimits 9 = .ok (.lconst 0, 1) := by decide +kernel
theorem dX4_laysLimits_10 : decode cX4_laysLimits 10 = .ok (.lstore 4, 2) := by decide +kernel
theorem dX4_laysLimits_12 : decode cX4_laysLimits 12 = .ok (.iconst 0, 1) := by decide +kernel
theorem dX4_laysLimits_13 : decode cX4_laysLimits 13 = .ok (.istore 6, 2) := by decide +kernel
theorem dX4_laysLimits_15 : decode cX4_laysLimits 15 = .ok (.iload 6, 2) := by decide +kernel
theorem dX4_laysLimits_17 : decode cX4_laysLimits 17 = .ok (.aload_n 0, 1) := by decide +kernel
theorem dX4_laysLimits_18 : decode cX4_laysLimits 18 = .ok (.getfield 76, 3) := by decide +kernel
theorem dX4_laysLimits_21 : decode cX4_laysLimits 21 = .ok (.if_icmp .ge 43, 3) := by decide +kernel
theorem dX4_laysLimits_24 : decode cX4_laysLimits 24 = .ok (.lload_n 2, 1) := by decide +kernel
theorem dX4_laysLimits_25 : decode cX4_laysLimits 25 = .ok (.aload_n 0, 1) := by decide +kernel
theorem dX4_laysLimits_26 : decode cX4_laysLimits 26 = .ok (.getfield 13, 3) := by decide +kernel
theorem dX4_laysLimits_29 : decode cX4_laysLimits 29 = .ok (.aload_n 0, 1) := by decide +kernel
theorem dX4_laysLimits_30 : decode cX4_laysLimits 30 = .ok (.getfield 42, 3) := by decide +kernel
theorem dX4_laysLimits_33 : decode cX4_laysLimits 33 = .ok (.iload 6, 2) := by decide +kernel
theorem dX4_laysLimits_35 : decode cX4_laysLimits 35 = .ok (.iaload, 1) := by decide +kernel
theorem dX4_laysLimits_36 : decode cX4_laysLimits 36 = .ok (.iaload, 1) := by decide +kernel
theorem dX4_laysLimits_37 : decode cX4_laysLimits 37 = .ok (.i2l, 1) := by decide +kernel
theorem dX4_laysLimits_38 : decode cX4_laysLimits 38 = .ok (.ladd, 1) := by decide +kernel
theorem dX4_laysLimits_39 : decode cX4_laysLimits 39 = .ok (.lstore_n 2, 1) := by decide +kernel
theorem dX4_laysLimits_40 : decode cX4_laysLimits 40 = .ok (.lload 4, 2) := by decide +kernel
theorem dX4_laysLimits_42 : decode cX4_laysLimits 42 = .ok (.aload_n 0, 1) := by decide +kernel
theorem dX4_laysLimits_43 : decode cX4_laysLimits 43 = .ok (.getfield 17, 3) := by decide +kernel
theorem dX4_laysLimits_46 : decode cX4_laysLimits 46 = .ok (.aload_n 0, 1) := by decide +kernel
theorem dX4_laysLimits_47 : decode cX4_laysLimits 47 = .ok (.getfield 42, 3) := by decide +kernel
theorem dX4_laysLimits_50 : decode cX4_laysLimits 50 = .ok (.iload 6, 2) := by decide +kernel
theorem dX4_laysLimits_52 : decode cX4_laysLimits 52 = .ok (.iaload, 1) := by decide +kernel
theorem dX4_laysLimits_53 : decode cX4_laysLimits 53 = .ok (.iaload, 1) := by decide +kernel
theorem dX4_laysLimits_54 : decode cX4_laysLimits 54 = .ok (.i2l, 1) := by decide +kernel
theorem dX4_laysLimits_55 : decode cX4_laysLimits 55 = .ok (.ladd, 1) := by decide +kernel
theorem dX4_laysLimits_56 : decode cX4_laysLimits 56 = .ok (.lstore 4, 2) := by decide +kernel
theorem dX4_laysLimits_58 : decode cX4_laysLimits 58 = .ok (.iinc 6 1, 3) := by decide +kernel
theorem dX4_laysLimits_61 : decode cX4_laysLimits 61 = .ok (.goto (-46), 3) := by decide +kernel
theorem dX4_laysLimits_64 : decode cX4_laysLimits 64 = .ok (.aload_n 0, 1) := by decide +kernel
theorem dX4_laysLimits_65 : decode cX4_laysLimits 65 = .ok (.aload_n 0, 1) := by decide +kernel
theorem dX4_laysLimits_66 : decode cX4_laysLimits 66 = .ok (.getfield 29, 3) := by decide +kernel
theorem dX4_laysLimits_69 : decode cX4_laysLimits 69 = .ok (.iload_n 1, 1) := by decide +kernel
theorem dX4_laysLimits_70 : decode cX4_laysLimits 70 = .ok (.baload, 1) := by decide +kernel
theorem dX4_laysLimits_71 : decode cX4_laysLimits 71 = .ok (.ifCond .ne 10, 3) := by decide +kernel
theorem dX4_laysLimits_74 : decode cX4_laysLimits 74 = .ok (.aload_n 0, 1) := by decide +kernel
theorem dX4_laysLimits_75 : decode cX4_laysLimits 75 = .ok (.getfield 76, 3) := by decide +kernel
theorem dX4_laysLimits_78 : decode cX4_laysLimits 78 = .ok (.ifCond .le 7, 3) := by decide +kernel
theorem dX4_laysLimits_81 : decode cX4_laysLimits 81 = .ok (.iconst 1, 1) := by decide +kernel
theorem dX4_laysLimits_82 : decode cX4_laysLimits 82 = .ok (.goto 4, 3) := by decide +kernel
theorem dX4_laysLimits_85 : decode cX4_laysLimits 85 = .ok (.iconst 0, 1) := by decide +kernel
theorem dX4_laysLimits_86 : decode cX4_laysLimits 86 = .ok (.putfield 93, 3) := by decide +kernel
theorem dX4_laysLimits_89 : decode cX4_laysLimits 89 = .ok (.aload_n 0, 1) := by decide +kernel
theorem dX4_laysLimits_90 : decode cX4_laysLimits 90 = .ok (.getfield 93, 3) := by decide +kernel
theorem dX4_laysLimits_93 : decode cX4_laysLimits 93 = .ok (.ifCond .eq 158, 3) := by decide +kernel
theorem dX4_laysLimits_96 : decode cX4_laysLimits 96 = .ok (.aload_n 0, 1) := by decide +kernel
theorem dX4_laysLimits_97 : decode cX4_laysLimits 97 = .ok (.aload_n 0, 1) := by decide +kernel
theorem dX4_laysLimits_98 : decode cX4_laysLimits 98 = .ok (.getfield 29, 3) := by decide +kernel
theorem dX4_laysLimits_101 : decode cX4_laysLimits 101 = .ok (.iload_n 1, 1) := by decide +kernel
theorem dX4_laysLimits_102 : decode cX4_laysLimits 102 = .ok (.baload, 1) := by decide +kernel
theorem dX4_laysLimits_103 : decode cX4_laysLimits 103 = .ok (.ifCond .eq 12, 3) := by decide +kernel
theorem dX4_laysLimits_106 : decode cX4_laysLimits 106 = .ok (.aload_n 0, 1) := by decide +kernel
theorem dX4_laysLimits_107 : decode cX4_laysLimits 107 = .ok (.getfield 33, 3) := by decide +kernel
theorem dX4_laysLimits_110 : decode cX4_laysLimits 110 = .ok (.iload_n 1, 1) := by decide +kernel
theorem dX4_laysLimits_111 : decode cX4_laysLimits 111 = .ok (.iaload, 1) := by decide +kernel
theorem dX4_laysLimits_112 : decode cX4_laysLimits 112 = .ok (.goto 22, 3) := by decide +kernel
theorem dX4_laysLimits_115 : decode cX4_laysLimits 115 = .ok (.ldc2_w 83, 3) := by decide +kernel
theorem dX4_laysLimits_118 : decode cX4_laysLimits 118 = .ok (.lload_n 2, 1) := by decide +kernel
theorem dX4_laysLimits_119 : decode cX4_laysLimits 119 = .ok (.lmul, 1) := by decide +kernel
theorem dX4_laysLimits_120 : decode cX4_laysLimits 120 = .ok (.aload_n 0, 1) := by decide +kernel
theorem dX4_laysLimits_121 : decode cX4_laysLimits 121 = .ok (.getfield 7, 3) := by decide +kernel
theorem dX4_laysLimits_124 : decode cX4_laysLimits 124 = .ok (.i2l, 1) := by decide +kernel
theorem dX4_laysLimits_125 : decode cX4_laysLimits 125 = .ok (.aload_n 0, 1) := by decide +kernel
theorem dX4_laysLimits_126 : decode cX4_laysLimits 126 = .ok (.getfield 76, 3) := by decide +kernel
theorem dX4_laysLimits_129 : decode cX4_laysLimits 129 = .ok (.i2l, 1) := by decide +kernel
theorem dX4_laysLimits_130 : decode cX4_laysLimits 130 = .ok (.lmul, 1) := by decide +kernel
theorem dX4_laysLimits_131 : decode cX4_laysLimits 131 = .ok (.invokestatic 85, 3) := by decide +kernel
theorem dX4_laysLimits_134 : decode cX4_laysLimits 134 = .ok (.putfield 97, 3) := by decide +kernel
theorem dX4_laysLimits_137 : decode cX4_laysLimits 137 = .ok (.aload_n 0, 1) := by decide +kernel
theorem dX4_laysLimits_138 : decode cX4_laysLimits 138 = .ok (.aload_n 0, 1) := by decide +kernel
theorem dX4_laysLimits_139 : decode cX4_laysLimits 139 = .ok (.getfield 29, 3) := by decide +kernel
theorem dX4_laysLimits_142 : decode cX4_laysLimits 142 = .ok (.iload_n 1, 1) := by decide +kernel
theorem dX4_laysLimits_143 : decode cX4_laysLimits 143 = .ok (.baload, 1) := by decide +kernel
theorem dX4_laysLimits_144 : decode cX4_laysLimits 144 = .ok (.ifCond .eq 12, 3) := by decide +kernel
theorem dX4_laysLimits_147 : decode cX4_laysLimits 147 = .ok (.aload_n 0, 1) := by decide +kernel
theorem dX4_laysLimits_148 : decode cX4_laysLimits 148 = .ok (.getfield 36, 3) := by decide +kernel
theorem dX4_laysLimits_151 : decode cX4_laysLimits 151 = .ok (.iload_n 1, 1) := by decide +kernel
theorem dX4_laysLimits_152 : decode cX4_laysLimits 152 = .ok (.iaload, 1) := by decide +kernel
theorem dX4_laysLimits_153 : decode cX4_laysLimits 153 = .ok (.goto 17, 3) := by decide +kernel
theorem dX4_laysLimits_156 : decode cX4_laysLimits 156 = .ok (.ldc2_w 83, 3) := by decide +kernel
theorem dX4_laysLimits_159 : decode cX4_laysLimits 159 = .ok (.lload 4, 2) := by decide +kernel
theorem dX4_laysLimits_161 : decode cX4_laysLimits 161 = .ok (.lmul, 1) := by decide +kernel
theorem dX4_laysLimits_162 : decode cX4_laysLimits 162 = .ok (.aload_n 0, 1) := by decide +kernel
theorem dX4_laysLimits_163 : decode cX4_laysLimits 163 = .ok (.getfield 76, 3) := by decide +kernel
theorem dX4_laysLimits_166 : decode cX4_laysLimits 166 = .ok (.i2l, 1) := by decide +kernel
theorem dX4_laysLimits_167 : decode cX4_laysLimits 167 = .ok (.invokestatic 85, 3) := by decide +kernel
theorem dX4_laysLimits_170 : decode cX4_laysLimits 170 = .ok (.putfield 100, 3) := by decide +kernel
theorem dX4_laysLimits_173 : decode cX4_laysLimits 173 = .ok (.aload_n 0, 1) := by decide +kernel
theorem dX4_laysLimits_174 : decode cX4_laysLimits 174 = .ok (.aload_n 0, 1) := by decide +kernel
theorem dX4_laysLimits_175 : decode cX4_laysLimits 175 = .ok (.getfield 7, 3) := by decide +kernel
theorem dX4_laysLimits_178 : decode cX4_laysLimits 178 = .ok (.sipush 1880, 3) := by decide +kernel
theorem dX4_laysLimits_181 : decode cX4_laysLimits 181 = .ok (.sipush 1023, 3) := by decide +kernel
theorem dX4_laysLimits_184 : decode cX4_laysLimits 184 = .ok (.sipush 729, 3) := by decide +kernel
theorem dX4_laysLimits_187 : decode cX4_laysLimits 187 = .ok (.sipush 577, 3) := by decide +kernel
theorem dX4_laysLimits_190 : decode cX4_laysLimits 190 = .ok (.sipush 483, 3) := by decide +kernel
theorem dX4_laysLimits_193 : decode cX4_laysLimits 193 = .ok (.invokestatic 103, 3) := by decide +kernel
theorem dX4_laysLimits_196 : decode cX4_laysLimits 196 = .ok (.i2l, 1) := by decide +kernel
theorem dX4_laysLimits_197 : decode cX4_laysLimits 197 = .ok (.aload_n 0, 1) := by decide +kernel
theorem dX4_laysLimits_198 : decode cX4_laysLimits 198 = .ok (.getfield 100, 3) := by decide +kernel
theorem dX4_laysLimits_201 : decode cX4_laysLimits 201 = .ok (.i2l, 1) := by decide +kernel
theorem dX4_laysLimits_202 : decode cX4_laysLimits 202 = .ok (.lmul, 1) := by decide +kernel
theorem dX4_laysLimits_203 : decode cX4_laysLimits 203 = .ok (.ldc2_w 83, 3) := by decide +kernel
theorem dX4_laysLimits_206 : decode cX4_laysLimits 206 = .ok (.invokestatic 85, 3) := by decide +kernel
theorem dX4_laysLimits_209 : decode cX4_laysLimits 209 = .ok (.putfield 107, 3) := by decide +kernel
theorem dX4_laysLimits_212 : decode cX4_laysLimits 212 = .ok (.aload_n 0, 1) := by decide +kernel
theorem dX4_laysLimits_213 : decode cX4_laysLimits 213 = .ok (.aload_n 0, 1) := by decide +kernel
theorem dX4_laysLimits_214 : decode cX4_laysLimits 214 = .ok (.getfield 7, 3) := by decide +kernel
theorem dX4_laysLimits_217 : decode cX4_laysLimits 217 = .ok (.sipush 3267, 3) := by decide +kernel
theorem dX4_laysLimits_220 : decode cX4_laysLimits 220 = .ok (.sipush 2574, 3) := by decide +kernel
theorem dX4_laysLimits_223 : decode cX4_laysLimits 223 = .ok (.sipush 2282, 3) := by decide +kernel
theorem dX4_laysLimits_226 : decode cX4_laysLimits 226 = .ok (.sipush 2114, 3) := by decide +kernel
theorem dX4_laysLimits_229 : decode cX4_laysLimits 229 = .ok (.sipush 2004, 3) := by decide +kernel
theorem dX4_laysLimits_232 : decode cX4_laysLimits 232 = .ok (.invokestatic 103, 3) := by decide +kernel
theorem dX4_laysLimits_235 : decode cX4_laysLimits 235 = .ok (.i2l, 1) := by decide +kernel
theorem dX4_laysLimits_236 : decode cX4_laysLimits 236 = .ok (.aload_n 0, 1) := by decide +kernel
theorem dX4_laysLimits_237 : decode cX4_laysLimits 237 = .ok (.getfield 100, 3) := by decide +kernel
theorem dX4_laysLimits_240 : decode cX4_laysLimits 240 = .ok (.i2l, 1) := by decide +kernel
theorem dX4_laysLimits_241 : decode cX4_laysLimits 241 = .ok (.lmul, 1) := by decide +kernel
theorem dX4_laysLimits_242 : decode cX4_laysLimits 242 = .ok (.ldc2_w 83, 3) := by decide +kernel
theorem dX4_laysLimits_245 : decode cX4_laysLimits 245 = .ok (.invokestatic 85, 3) := by decide +kernel
theorem dX4_laysLimits_248 : decode cX4_laysLimits 248 = .ok (.putfield 110, 3) := by decide +kernel
theorem dX4_laysLimits_251 : decode cX4_laysLimits 251 = .ok (.return_, 1) := by decide +kernel
theorem dX4_isPhase_0 : decode cX4_isPhase 0 = .ok (.aload_n 0, 1) := by decide +kernel
theorem dX4_isPhase_1 : decode cX4_isPhase 1 = .ok (.iload_n 1, 1) := by decide +kernel
theorem dX4_isPhase_2 : decode cX4_isPhase 2 = .ok (.iconst 0, 1) := by decide +kernel
theorem dX4_isPhase_3 : decode cX4_isPhase 3 = .ok (.aload_n 0, 1) := by decide +kernel
theorem dX4_isPhase_4 : decode cX4_isPhase 4 = .ok (.getfield 23, 3) := by decide +kernel
theorem dX4_isPhase_7 : decode cX4_isPhase 7 = .ok (.iconst 1, 1) := by decide +kernel
theorem dX4_isPhase_8 : decode cX4_isPhase 8 = .ok (.isub, 1) := by decide +kernel
theorem dX4_isPhase_9 : decode cX4_isPhase 9 = .ok (.invokestatic 57, 3) := by decide +kernel
theorem dX4_isPhase_12 : decode cX4_isPhase 12 = .ok (.ifCond .eq 7, 3) := by decide +kernel
theorem dX4_isPhase_15 : decode cX4_isPhase 15 = .ok (.iconst 0, 1) := by decide +kernel
theorem dX4_isPhase_16 : decode cX4_isPhase 16 = .ok (.goto 4, 3) := by decide +kernel
theorem dX4_isPhase_19 : decode cX4_isPhase 19 = .ok (.iconst 1, 1) := by decide +kernel
theorem dX4_isPhase_20 : decode cX4_isPhase 20 = .ok (.putfield 48, 3) := by decide +kernel
theorem dX4_isPhase_23 : decode cX4_isPhase 23 = .ok (.aload_n 0, 1) := by decide +kernel
theorem dX4_isPhase_24 : decode cX4_isPhase 24 = .ok (.getfield 48, 3) := by decide +kernel
theorem dX4_isPhase_27 : decode cX4_isPhase 27 = .ok (.ifCond .ne 7, 3) := by decide +kernel
theorem dX4_isPhase_30 : decode cX4_isPhase 30 = .ok (.iconst 1, 1) := by decide +kernel
theorem dX4_isPhase_31 : decode cX4_isPhase 31 = .ok (.goto 4, 3) := by decide +kernel
theorem dX4_isPhase_34 : decode cX4_isPhase 34 = .ok (.iconst 0, 1) := by decide +kernel
theorem dX4_isPhase_35 : decode cX4_isPhase 35 = .ok (.ireturn, 1) := by decide +kernel
theorem dX4_freeze_0 : decode cX4_freeze 0 = .ok (.aload_n 0, 1) := by decide +kernel
theorem dX4_freeze_1 : decode cX4_freeze 1 = .ok (.iload_n 1, 1) := by decide +kernel
theorem dX4_freeze_2 : decode cX4_freeze 2 = .ok (.invokevirtual 113, 3) := by decide +kernel
theorem dX4_freeze_5 : decode cX4_freeze 5 = .ok (.ifCond .ne 4, 3) := by decide +kernel
theorem dX4_freeze_8 : decode cX4_freeze 8 = .ok (.return_, 1) := by decide +kernel
theorem dX4_freeze_9 : decode cX4_freeze 9 = .ok (.aload_n 0, 1) := by decide +kernel
theorem dX4_freeze_10 : decode cX4_freeze 10 = .ok (.iload_n 1, 1) := by decide +kernel
theorem dX4_freeze_11 : decode cX4_freeze 11 = .ok (.invokevirtual 117, 3) := by decide +kernel
theorem dX4_freeze_14 : decode cX4_freeze 14 = .ok (.aload_n 0, 1) := by decide +kernel
theorem dX4_freeze_15 : decode cX4_freeze 15 = .ok (.aload_n 0, 1) := by decide +kernel
theorem dX4_freeze_16 : decode cX4_freeze 16 = .ok (.getfield 29, 3) := by decide +kernel
theorem dX4_freeze_19 : decode cX4_freeze 19 = .ok (.iload_n 1, 1) := by decide +kernel
theorem dX4_freeze_20 : decode cX4_freeze 20 = .ok (.baload, 1) := by decide +kernel
theorem dX4_freeze_21 : decode cX4_freeze 21 = .ok (.ifCond .ne 11, 3) := by decide +kernel
theorem dX4_freeze_24 : decode cX4_freeze 24 = .ok (.aload_n 0, 1) := by decide +kernel
theorem dX4_freeze_25 : decode cX4_freeze 25 = .ok (.getfield 76, 3) := by decide +kernel
theorem dX4_freeze_28 : decode cX4_freeze 28 = .ok (.iconst 2, 1) := by decide +kernel
theorem dX4_freeze_29 : decode cX4_freeze 29 = .ok (.if_icmp .ge 7, 3) := by decide +kernel
theorem dX4_freeze_32 : decode cX4_freeze 32 = .ok (.iconst 2, 1) := by decide +kernel
theorem dX4_freeze_33 : decode cX4_freeze 33 = .ok (.goto 4, 3) := by decide +kernel
theorem dX4_freeze_36 : decode cX4_freeze 36 = .ok (.iconst 0, 1) := by decide +kernel
theorem dX4_freeze_37 : decode cX4_freeze 37 = .ok (.putfield 48, 3) := by decide +kernel
theorem dX4_freeze_40 : decode cX4_freeze 40 = .ok (.aload_n 0, 1) := by decide +kernel
theorem dX4_freeze_41 : decode cX4_freeze 41 = .ok (.getfield 48, 3) := by decide +kernel
theorem dX4_freeze_44 : decode cX4_freeze 44 = .ok (.ifCond .ne 30, 3) := by decide +kernel
theorem dX4_freeze_47 : decode cX4_freeze 47 = .ok (.aload_n 0, 1) := by decide +kernel
theorem dX4_freeze_48 : decode cX4_freeze 48 = .ok (.getfield 33, 3) := by decide +kernel
theorem dX4_freeze_51 : decode cX4_freeze 51 = .ok (.iload_n 1, 1) := by decide +kernel
theorem dX4_freeze_52 : decode cX4_freeze 52 = .ok (.aload_n 0, 1) := by decide +kernel
theorem dX4_freeze_53 : decode cX4_freeze 53 = .ok (.getfield 97, 3) := by decide +kernel
theorem dX4_freeze_56 : decode cX4_freeze 56 = .ok (.iastore, 1) := by decide +kernel
theorem dX4_freeze_57 : decode cX4_freeze 57 = .ok (.aload_n 0, 1) := by decide +kernel
theorem dX4_freeze_58 : decode cX4_freeze 58 = .ok (.getfield 36, 3) := by decide +kernel
theorem dX4_freeze_61 : decode cX4_freeze 61 = .ok (.iload_n 1, 1) := by decide +kernel
theorem dX4_freeze_62 : decode cX4_freeze 62 = .ok (.aload_n 0, 1) := by decide +kernel
theorem dX4_freeze_63 : decode cX4_freeze 63 = .ok (.getfield 100, 3) := by decide +kernel
theorem dX4_freeze_66 : decode cX4_freeze 66 = .ok (.iastore, 1) := by decide +kernel
theorem dX4_freeze_67 : decode cX4_freeze 67 = .ok (.aload_n 0, 1) := by decide +kernel
theorem dX4_freeze_68 : decode cX4_freeze 68 = .ok (.getfield 29, 3) := by decide +kernel
theorem dX4_freeze_71 : decode cX4_freeze 71 = .ok (.iload_n 1, 1) := by decide +kernel
theorem dX4_freeze_72 : decode cX4_freeze 72 = .ok (.iconst 1, 1) := by decide +kernel
theorem dX4_freeze_73 : decode cX4_freeze 73 = .ok (.bastore, 1) := by decide +kernel
theorem dX4_freeze_74 : decode cX4_freeze 74 = .ok (.return_, 1) := by decide +kernel
theorem dX4_thaw_0 : decode cX4_thaw 0 = .ok (.aload_n 0, 1) := by decide +kernel
theorem dX4_thaw_1 : decode cX4_thaw 1 = .ok (.iload_n 1, 1) := by decide +kernel
theorem dX4_thaw_2 : decode cX4_thaw 2 = .ok (.invokevirtual 113, 3) := by decide +kernel
theorem dX4_thaw_5 : decode cX4_thaw 5 = .ok (.ifCond .ne 4, 3) := by decide +kernel
theorem dX4_thaw_8 : decode cX4_thaw 8 = .ok (.return_, 1) := by decide +kernel
theorem dX4_thaw_9 : decode cX4_thaw 9 = .ok (.aload_n 0, 1) := by decide +kernel
theorem dX4_thaw_10 : decode cX4_thaw 10 = .ok (.aload_n 0, 1) := by decide +kernel
theorem dX4_thaw_11 : decode cX4_thaw 11 = .ok (.getfield 29, 3) := by decide +kernel
theorem dX4_thaw_14 : decode cX4_thaw 14 = .ok (.iload_n 1, 1) := by decide +kernel
theorem dX4_thaw_15 : decode cX4_thaw 15 = .ok (.baload, 1) := by decide +kernel
theorem dX4_thaw_16 : decode cX4_thaw 16 = .ok (.ifCond .eq 7, 3) := by decide +kernel
theorem dX4_thaw_19 : decode cX4_thaw 19 = .ok (.iconst 0, 1) := by decide +kernel
theorem dX4_thaw_20 : decode cX4_thaw 20 = .ok (.goto 4, 3) := by decide +kernel
theorem dX4_thaw_23 : decode cX4_thaw 23 = .ok (.iconst 2, 1) := by decide +kernel
theorem dX4_thaw_24 : decode cX4_thaw 24 = .ok (.putfield 48, 3) := by decide +kernel
theorem dX4_thaw_27 : decode cX4_thaw 27 = .ok (.aload_n 0, 1) := by decide +kernel
theorem dX4_thaw_28 : decode cX4_thaw 28 = .ok (.getfield 48, 3) := by decide +kernel
theorem dX4_thaw_31 : decode cX4_thaw 31 = .ok (.ifCond .ne 10, 3) := by decide +kernel
theorem dX4_thaw_34 : decode cX4_thaw 34 = .ok (.aload_n 0, 1) := by decide +kernel
theorem dX4_thaw_35 : decode cX4_thaw 35 = .ok (.getfield 29, 3) := by decide +kernel
theorem dX4_thaw_38 : decode cX4_thaw 38 = .ok (.iload_n 1, 1) := by decide +kernel
theorem dX4_thaw_39 : decode cX4_thaw 39 = .ok (.iconst 0, 1) := by decide +kernel
theorem dX4_thaw_40 : decode cX4_thaw 40 = .ok (.bastore, 1) := by decide +kernel
theorem dX4_thaw_41 : decode cX4_thaw 41 = .ok (.return_, 1) := by decide +kernel
theorem dX4_isDone_0 : decode cX4_isDone 0 = .ok (.aload_n 0, 1) := by decide +kernel
theorem dX4_isDone_1 : decode cX4_isDone 1 = .ok (.iload_n 1, 1) := by decide +kernel
theorem dX4_isDone_2 : decode cX4_isDone 2 = .ok (.iconst 0, 1) := by decide +kernel
theorem dX4_isDone_3 : decode cX4_isDone 3 = .ok (.aload_n 0, 1) := by decide +kernel
theorem dX4_isDone_4 : decode cX4_isDone 4 = .ok (.getfield 61, 3) := by decide +kernel
theorem dX4_isDone_7 : decode cX4_isDone 7 = .ok (.iconst 1, 1) := by decide +kernel
theorem dX4_isDone_8 : decode cX4_isDone 8 = .ok (.isub, 1) := by decide +kernel
theorem dX4_isDone_9 : decode cX4_isDone 9 = .ok (.invokestatic 57, 3) := by decide +kernel
theorem dX4_isDone_12 : decode cX4_isDone 12 = .ok (.ifCond .eq 7, 3) := by decide +kernel
theorem dX4_isDone_15 : decode cX4_isDone 15 = .ok (.iconst 0, 1) := by decide +kernel
theorem dX4_isDone_16 : decode cX4_isDone 16 = .ok (.goto 4, 3) := by decide +kernel
theorem dX4_isDone_19 : decode cX4_isDone 19 = .ok (.iconst 1, 1) := by decide +kernel
theorem dX4_isDone_20 : decode cX4_isDone 20 = .ok (.putfield 48, 3) := by decide +kernel
theorem dX4_isDone_23 : decode cX4_isDone 23 = .ok (.aload_n 0, 1) := by decide +kernel
theorem dX4_isDone_24 : decode cX4_isDone 24 = .ok (.getfield 48, 3) := by decide +kernel
theorem dX4_isDone_27 : decode cX4_isDone 27 = .ok (.ifCond .ne 7, 3) := by decide +kernel
theorem dX4_isDone_30 : decode cX4_isDone 30 = .ok (.iconst 1, 1) := by decide +kernel
theorem dX4_isDone_31 : decode cX4_isDone 31 = .ok (.goto 4, 3) := by decide +kernel
theorem dX4_isDone_34 : decode cX4_isDone 34 = .ok (.iconst 0, 1) := by decide +kernel
theorem dX4_isDone_35 : decode cX4_isDone 35 = .ok (.ireturn, 1) := by decide +kernel
theorem dX4_exclude_0 : decode cX4_exclude 0 = .ok (.aload_n 0, 1) := by decide +kernel
theorem dX4_exclude_1 : decode cX4_exclude 1 = .ok (.iload_n 1, 1) := by decide +kernel
theorem dX4_exclude_2 : decode cX4_exclude 2 = .ok (.invokevirtual 121, 3) := by decide +kernel
theorem dX4_exclude_5 : decode cX4_exclude 5 = .ok (.ifCond .ne 5, 3) := by decide +kernel
theorem dX4_exclude_8 : decode cX4_exclude 8 = .ok (.iconst 0, 1) := by decide +kernel
theorem dX4_exclude_9 : decode cX4_exclude 9 = .ok (.ireturn, 1) := by decide +kernel
theorem dX4_exclude_10 : decode cX4_exclude 10 = .ok (.aload_n 0, 1) := by decide +kernel
theorem dX4_exclude_11 : decode cX4_exclude 11 = .ok (.iload_n 2, 1) := by decide +kernel
theorem dX4_exclude_12 : decode cX4_exclude 12 = .ok (.iconst 0, 1) := by decide +kernel
theorem dX4_exclude_13 : decode cX4_exclude 13 = .ok (.bipush 9, 2) := by decide +kernel
theorem dX4_exclude_15 : decode cX4_exclude 15 = .ok (.invokestatic 57, 3) := by decide +kernel
theorem dX4_exclude_18 : decode cX4_exclude 18 = .ok (.ifCond .eq 7, 3) := by decide +kernel
theorem dX4_exclude_21 : decode cX4_exclude 21 = .ok (.iconst 0, 1) := by decide +kernel
theorem dX4_exclude_22 : decode cX4_exclude 22 = .ok (.goto 4, 3) := by decide +kernel
theorem dX4_exclude_25 : decode cX4_exclude 25 = .ok (.iconst 2, 1) := by decide +kernel
theorem dX4_exclude_26 : decode cX4_exclude 26 = .ok (.putfield 48, 3) := by decide +kernel
theorem dX4_exclude_29 : decode cX4_exclude 29 = .ok (.aload_n 0, 1) := by decide +kernel
theorem dX4_exclude_30 : decode cX4_exclude 30 = .ok (.getfield 48, 3) := by decide +kernel
theorem dX4_exclude_33 : decode cX4_exclude 33 = .ok (.ifCond .le 5, 3) := by decide +kernel
theorem dX4_exclude_36 : decode cX4_exclude 36 = .ok (.iconst 0, 1) := by decide +kernel
theorem dX4_exclude_37 : decode cX4_exclude 37 = .ok (.ireturn, 1) := by decide +kernel
theorem dX4_exclude_38 : decode cX4_exclude 38 = .ok (.aload_n 0, 1) := by decide +kernel
theorem dX4_exclude_39 : decode cX4_exclude 39 = .ok (.getfield 20, 3) := by decide +kernel
theorem dX4_exclude_42 : decode cX4_exclude 42 = .ok (.iload_n 1, 1) := by decide +kernel
theorem dX4_exclude_43 : decode cX4_exclude 43 = .ok (.iaload, 1) := by decide +kernel
theorem dX4_exclude_44 : decode cX4_exclude 44 = .ok (.istore_n 3, 1) := by decide +kernel
theorem dX4_exclude_45 : decode cX4_exclude 45 = .ok (.aload_n 0, 1) := by decide +kernel
theorem dX4_exclude_46 : decode cX4_exclude 46 = .ok (.getfield 20, 3) := by decide +kernel
theorem dX4_exclude_49 : decode cX4_exclude 49 = .ok (.iload_n 1, 1) := by decide +kernel
theorem dX4_exclude_50 : decode cX4_exclude 50 = .ok (.iload_n 2, 1) := by decide +kernel
theorem dX4_exclude_51 : decode cX4_exclude 51 = .ok (.iastore, 1) := by decide +kernel
theorem dX4_exclude_52 : decode cX4_exclude 52 = .ok (.iload_n 3, 1) := by decide +kernel
theorem dX4_exclude_53 : decode cX4_exclude 53 = .ok (.ireturn, 1) := by decide +kernel
theorem dX4_subgroups_0 : decode cX4_subgroups 0 = .ok (.aload_n 0, 1) := by decide +kernel
theorem dX4_subgroups_1 : decode cX4_subgroups 1 = .ok (.iconst 0, 1) := by decide +kernel
theorem dX4_subgroups_2 : decode cX4_subgroups 2 = .ok (.putfield 48, 3) := by decide +kernel
theorem dX4_subgroups_5 : decode cX4_subgroups 5 = .ok (.aload_n 0, 1) := by decide +kernel
theorem dX4_subgroups_6 : decode cX4_subgroups 6 = .ok (.getfield 61, 3) := by decide +kernel
theorem dX4_subgroups_9 : decode cX4_subgroups 9 = .ok (.ireturn, 1) := by decide +kernel
theorem dX4_phases_0 : decode cX4_phases 0 = .ok (.aload_n 0, 1) := by decide +kernel
theorem dX4_phases_1 : decode cX4_phases 1 = .ok (.iconst 0, 1) := by decide +kernel
theorem dX4_phases_2 : decode cX4_phases 2 = .ok (.putfield 48, 3) := by decide +kernel
theorem dX4_phases_5 : decode cX4_phases 5 = .ok (.aload_n 0, 1) := by decide +kernel
theorem dX4_phases_6 : decode cX4_phases 6 = .ok (.getfield 23, 3) := by decide +kernel
theorem dX4_phases_9 : decode cX4_phases 9 = .ok (.ireturn, 1) := by decide +kernel
theorem dX4_mean_0 : decode cX4_mean 0 = .ok (.aload_n 0, 1) := by decide +kernel
theorem dX4_mean_1 : decode cX4_mean 1 = .ok (.iload_n 1, 1) := by decide +kernel
theorem dX4_mean_2 : decode cX4_mean 2 = .ok (.invokevirtual 121, 3) := by decide +kernel
theorem dX4_mean_5 : decode cX4_mean 5 = .ok (.ifCond .eq 25, 3) := by decide +kernel
theorem dX4_mean_8 : decode cX4_mean 8 = .ok (.ldc2_w 83, 3) := by decide +kernel
theorem dX4_mean_11 : decode cX4_mean 11 = .ok (.aload_n 0, 1) := by decide +kernel
theorem dX4_mean_12 : decode cX4_mean 12 = .ok (.getfield 13, 3) := by decide +kernel
theorem dX4_mean_15 : decode cX4_mean 15 = .ok (.iload_n 1, 1) := by decide +kernel
theorem dX4_mean_16 : decode cX4_mean 16 = .ok (.iaload, 1) := by decide +kernel
theorem dX4_mean_17 : decode cX4_mean 17 = .ok (.i2l, 1) := by decide +kernel
theorem dX4_mean_18 : decode cX4_mean 18 = .ok (.lmul, 1) := by decide +kernel
theorem dX4_mean_19 : decode cX4_mean 19 = .ok (.aload_n 0, 1) := by decide +kernel
theorem dX4_mean_20 : decode cX4_mean 20 = .ok (.getfield 7, 3) := by decide +kernel
theorem dX4_mean_23 : decode cX4_mean 23 = .ok (.i2l, 1) := by decide +kernel
theorem dX4_mean_24 : decode cX4_mean 24 = .ok (.invokestatic 85, 3) := by decide +kernel
theorem dX4_mean_27 : decode cX4_mean 27 = .ok (.goto 4, 3) := by decide +kernel
theorem dX4_mean_30 : decode cX4_mean 30 = .ok (.iconst 0, 1) := by decide +kernel
theorem dX4_mean_31 : decode cX4_mean 31 = .ok (.ireturn, 1) := by decide +kernel
theorem dX4_range_0 : decode cX4_range 0 = .ok (.aload_n 0, 1) := by decide +kernel
theorem dX4_range_1 : decode cX4_range 1 = .ok (.iload_n 1, 1) := by decide +kernel
theorem dX4_range_2 : decode cX4_range 2 = .ok (.invokevirtual 121, 3) := by decide +kernel
theorem dX4_range_5 : decode cX4_range 5 = .ok (.ifCond .eq 12, 3) := by decide +kernel
theorem dX4_range_8 : decode cX4_range 8 = .ok (.aload_n 0, 1) := by decide +kernel
theorem dX4_range_9 : decode cX4_range 9 = .ok (.getfield 17, 3) := by decide +kernel
theorem dX4_range_12 : decode cX4_range 12 = .ok (.iload_n 1, 1) := by decide +kernel
theorem dX4_range_13 : decode cX4_range 13 = .ok (.iaload, 1) := by decide +kernel
theorem dX4_range_14 : decode cX4_range 14 = .ok (.goto 4, 3) := by decide +kernel
theorem dX4_range_17 : decode cX4_range 17 = .ok (.iconst 0, 1) := by decide +kernel
theorem dX4_range_18 : decode cX4_range 18 = .ok (.ireturn, 1) := by decide +kernel
theorem dX4_phaseOf_0 : decode cX4_phaseOf 0 = .ok (.aload_n 0, 1) := by decide +kernel
theorem dX4_phaseOf_1 : decode cX4_phaseOf 1 = .ok (.iload_n 1, 1) := by decide +kernel
theorem dX4_phaseOf_2 : decode cX4_phaseOf 2 = .ok (.invokevirtual 121, 3) := by decide +kernel
theorem dX4_phaseOf_5 : decode cX4_phaseOf 5 = .ok (.ifCond .eq 11, 3) := by decide +kernel
theorem dX4_phaseOf_8 : decode cX4_phaseOf 8 = .ok (.aload_n 0, 1) := by decide +kernel
theorem dX4_phaseOf_9 : decode cX4_phaseOf 9 = .ok (.iload_n 1, 1) := by decide +kernel
theorem dX4_phaseOf_10 : decode cX4_phaseOf 10 = .ok (.invokevirtual 79, 3) := by decide +kernel
theorem dX4_phaseOf_13 : decode cX4_phaseOf 13 = .ok (.goto 4, 3) := by decide +kernel
theorem dX4_phaseOf_16 : decode cX4_phaseOf 16 = .ok (.iconst 0, 1) := by decide +kernel
theorem dX4_phaseOf_17 : decode cX4_phaseOf 17 = .ok (.ireturn, 1) := by decide +kernel
theorem dX4_points_0 : decode cX4_points 0 = .ok (.aload_n 0, 1) := by decide +kernel
theorem dX4_points_1 : decode cX4_points 1 = .ok (.iload_n 1, 1) := by decide +kernel
theorem dX4_points_2 : decode cX4_points 2 = .ok (.invokevirtual 113, 3) := by decide +kernel
theorem dX4_points_5 : decode cX4_points 5 = .ok (.ifCond .ne 5, 3) := by decide +kernel
theorem dX4_points_8 : decode cX4_points 8 = .ok (.iconst 0, 1) := by decide +kernel
theorem dX4_points_9 : decode cX4_points 9 = .ok (.ireturn, 1) := by decide +kernel
theorem dX4_points_10 : decode cX4_points 10 = .ok (.aload_n 0, 1) := by decide +kernel
theorem dX4_points_11 : decode cX4_points 11 = .ok (.iload_n 1, 1) := by decide +kernel
theorem dX4_points_12 : decode cX4_points 12 = .ok (.bipush 59, 2) := by decide +kernel
theorem dX4_points_14 : decode cX4_points 14 = .ok (.invokevirtual 89, 3) := by decide +kernel
theorem dX4_points_17 : decode cX4_points 17 = .ok (.aload_n 0, 1) := by decide +kernel
theorem dX4_points_18 : decode cX4_points 18 = .ok (.getfield 76, 3) := by decide +kernel
theorem dX4_points_21 : decode cX4_points 21 = .ok (.ireturn, 1) := by decide +kernel
theorem dX4_isLimited_0 : decode cX4_isLimited 0 = .ok (.aload_n 0, 1) := by decide +kernel
theorem dX4_isLimited_1 : decode cX4_isLimited 1 = .ok (.iload_n 1, 1) := by decide +kernel
theorem dX4_isLimited_2 : decode cX4_isLimited 2 = .ok (.invokevirtual 113, 3) := by decide +kernel
theorem dX4_isLimited_5 : decode cX4_isLimited 5 = .ok (.ifCond .ne 5, 3) := by decide +kernel
theorem dX4_isLimited_8 : decode cX4_isLimited 8 = .ok (.iconst 0, 1) := by decide +kernel
theorem dX4_isLimited_9 : decode cX4_isLimited 9 = .ok (.ireturn, 1) := by decide +kernel
theorem dX4_isLimited_10 : decode cX4_isLimited 10 = .ok (.aload_n 0, 1) := by decide +kernel
theorem dX4_isLimited_11 : decode cX4_isLimited 11 = .ok (.iload_n 1, 1) := by decide +kernel
theorem dX4_isLimited_12 : decode cX4_isLimited 12 = .ok (.invokevirtual 117, 3) := by decide +kernel
theorem dX4_isLimited_15 : decode cX4_isLimited 15 = .ok (.aload_n 0, 1) := by decide +kernel
theorem dX4_isLimited_16 : decode cX4_isLimited 16 = .ok (.aload_n 0, 1) := by decide +kernel
theorem dX4_isLimited_17 : decode cX4_isLimited 17 = .ok (.getfield 93, 3) := by decide +kernel
theorem dX4_isLimited_20 : decode cX4_isLimited 20 = .ok (.ifCond .eq 7, 3) := by decide +kernel
theorem dX4_isLimited_23 : decode cX4_isLimited 23 = .ok (.iconst 0, 1) := by decide +kernel
theorem dX4_isLimited_24 : decode cX4_isLimited 24 = .ok (.goto 4, 3) := by decide +kernel
theorem dX4_isLimited_27 : decode cX4_isLimited 27 = .ok (.iconst 2, 1) := by decide +kernel
theorem dX4_isLimited_28 : decode cX4_isLimited 28 = .ok (.putfield 48, 3) := by decide +kernel
theorem dX4_isLimited_31 : decode cX4_isLimited 31 = .ok (.aload_n 0, 1) := by decide +kernel
theorem dX4_isLimited_32 : decode cX4_isLimited 32 = .ok (.getfield 93, 3) := by decide +kernel
theorem dX4_isLimited_35 : decode cX4_isLimited 35 = .ok (.ireturn, 1) := by decide +kernel
theorem dX4_center_0 : decode cX4_center 0 = .ok (.aload_n 0, 1) := by decide +kernel
theorem dX4_center_1 : decode cX4_center 1 = .ok (.iload_n 1, 1) := by decide +kernel
theorem dX4_center_2 : decode cX4_center 2 = .ok (.invokevirtual 124, 3) := by decide +kernel
theorem dX4_center_5 : decode cX4_center 5 = .ok (.ifCond .eq 10, 3) := by decide +kernel
theorem dX4_center_8 : decode cX4_center 8 = .ok (.aload_n 0, 1) := by decide +kernel
theorem dX4_center_9 : decode cX4_center 9 = .ok (.getfield 97, 3) := by decide +kernel
theorem dX4_center_12 : decode cX4_center 12 = .ok (.goto 4, 3) := by decide +kernel
theorem dX4_center_15 : decode cX4_center 15 = .ok (.iconst 0, 1) := by decide +kernel
theorem dX4_center_16 : decode cX4_center 16 = .ok (.ireturn, 1) := by decide +kernel
theorem dX4_width_0 : decode cX4_width 0 = .ok (.aload_n 0, 1) := by decide +kernel
theorem dX4_width_1 : decode cX4_width 1 = .ok (.iload_n 1, 1) := by decide +kernel
theorem dX4_width_2 : decode cX4_width 2 = .ok (.invokevirtual 124, 3) := by decide +kernel
theorem dX4_width_5 : decode cX4_width 5 = .ok (.ifCond .eq 10, 3) := by decide +kernel
theorem dX4_width_8 : decode cX4_width 8 = .ok (.aload_n 0, 1) := by decide +kernel
theorem dX4_width_9 : decode cX4_width 9 = .ok (.getfield 107, 3) := by decide +kernel
theorem dX4_width_12 : decode cX4_width 12 = .ok (.goto 4, 3) := by decide +kernel
theorem dX4_width_15 : decode cX4_width 15 = .ok (.iconst 0, 1) := by decide +kernel
theorem dX4_width_16 : decode cX4_width 16 = .ok (.ireturn, 1) := by decide +kernel
theorem dX4_rangeLimit_0 : decode cX4_rangeLimit 0 = .ok (.aload_n 0, 1) := by decide +kernel
theorem dX4_rangeLimit_1 : decode cX4_rangeLimit 1 = .ok (.iload_n 1, 1) := by decide +kernel
theorem dX4_rangeLimit_2 : decode cX4_rangeLimit 2 = .ok (.invokevirtual 124, 3) := by decide +kernel
theorem dX4_rangeLimit_5 : decode cX4_rangeLimit 5 = .ok (.ifCond .eq 10, 3) := by decide +kernel
theorem dX4_rangeLimit_8 : decode cX4_rangeLimit 8 = .ok (.aload_n 0, 1) := by decide +kernel
theorem dX4_rangeLimit_9 : decode cX4_rangeLimit 9 = .ok (.getfield 110, 3) := by decide +kernel
theorem dX4_rangeLimit_12 : decode cX4_rangeLimit 12 = .ok (.goto 4, 3) := by decide +kernel
theorem dX4_rangeLimit_15 : decode cX4_rangeLimit 15 = .ok (.iconst 0, 1) := by decide +kernel
theorem dX4_rangeLimit_16 : decode cX4_rangeLimit 16 = .ok (.ireturn, 1) := by decide +kernel
theorem dX4_back_0 : decode cX4_back 0 = .ok (.aload_n 0, 1) := by decide +kernel
theorem dX4_back_1 : decode cX4_back 1 = .ok (.getfield 45, 3) := by decide +kernel
theorem dX4_back_4 : decode cX4_back 4 = .ok (.aload_n 0, 1) := by decide +kernel
theorem dX4_back_5 : decode cX4_back 5 = .ok (.getfield 76, 3) := by decide +kernel
theorem dX4_back_8 : decode cX4_back 8 = .ok (.iconst 1, 1) := by decide +kernel
theorem dX4_back_9 : decode cX4_back 9 = .ok (.isub, 1) := by decide +kernel
theorem dX4_back_10 : decode cX4_back 10 = .ok (.iload_n 1, 1) := by decide +kernel
theorem dX4_back_11 : decode cX4_back 11 = .ok (.isub, 1) := by decide +kernel
theorem dX4_back_12 : decode cX4_back 12 = .ok (.iaload, 1) := by decide +kernel
theorem dX4_back_13 : decode cX4_back 13 = .ok (.ireturn, 1) := by decide +kernel
theorem dX4_isBeyond_0 : decode cX4_isBeyond 0 = .ok (.ldc2_w 127, 3) := by decide +kernel
theorem dX4_isBeyond_3 : decode cX4_isBeyond 3 = .ok (.aload_n 0, 1) := by decide +kernel
theorem dX4_isBeyond_4 : decode cX4_isBeyond 4 = .ok (.iload_n 1, 1) := by decide +kernel
theorem dX4_isBeyond_5 : decode cX4_isBeyond 5 = .ok (.invokevirtual 129, 3) := by decide +kernel
theorem dX4_isBeyond_8 : decode cX4_isBeyond 8 = .ok (.aload_n 0, 1) := by decide +kernel
theorem dX4_isBeyond_9 : decode cX4_isBeyond 9 = .ok (.getfield 97, 3) := by decide +kernel
theorem dX4_isBeyond_12 : decode cX4_isBeyond 12 = .ok (.isub, 1) := by decide +kernel
theorem dX4_isBeyond_13 : decode cX4_isBeyond 13 = .ok (.i2l, 1) := by decide +kernel
theorem dX4_isBeyond_14 : decode cX4_isBeyond 14 = .ok (.lmul, 1) := by decide +kernel
theorem dX4_isBeyond_15 : decode cX4_isBeyond 15 = .ok (.iload_n 3, 1) := by decide +kernel
theorem dX4_isBeyond_16 : decode cX4_isBeyond 16 = .ok (.i2l, 1) := by decide +kernel
theorem dX4_isBeyond_17 : decode cX4_isBeyond 17 = .ok (.lmul, 1) := by decide +kernel
theorem dX4_isBeyond_18 : decode cX4_isBeyond 18 = .ok (.iload_n 2, 1) := by decide +kernel
theorem dX4_isBeyond_19 : decode cX4_isBeyond 19 = .ok (.i2l, 1) := by decide +kernel
theorem dX4_isBeyond_20 : decode cX4_isBeyond 20 = .ok (.aload_n 0, 1) := by decide +kernel
theorem dX4_isBeyond_21 : decode cX4_isBeyond 21 = .ok (.getfield 107, 3) := by decide +kernel
theorem dX4_isBeyond_24 : decode cX4_isBeyond 24 = .ok (.i2l, 1) := by decide +kernel
theorem dX4_isBeyond_25 : decode cX4_isBeyond 25 = .ok (.lmul, 1) := by decide +kernel
theorem dX4_isBeyond_26 : decode cX4_isBeyond 26 = .ok (.lcmp, 1) := by decide +kernel
theorem dX4_isBeyond_27 : decode cX4_isBeyond 27 = .ok (.ifCond .le 7, 3) := by decide +kernel
theorem dX4_isBeyond_30 : decode cX4_isBeyond 30 = .ok (.iconst 1, 1) := by decide +kernel
theorem dX4_isBeyond_31 : decode cX4_isBeyond 31 = .ok (.goto 4, 3) := by decide +kernel
theorem dX4_isBeyond_34 : decode cX4_isBeyond 34 = .ok (.iconst 0, 1) := by decide +kernel
theorem dX4_isBeyond_35 : decode cX4_isBeyond 35 = .ok (.ireturn, 1) := by decide +kernel
theorem dX4_beyond_0 : decode cX4_beyond 0 = .ok (.iconst 0, 1) := by decide +kernel
theorem dX4_beyond_1 : decode cX4_beyond 1 = .ok (.istore 4, 2) := by decide +kernel
theorem dX4_beyond_3 : decode cX4_beyond 3 = .ok (.iconst 0, 1) := by decide +kernel
theorem dX4_beyond_4 : decode cX4_beyond 4 = .ok (.istore 5, 2) := by decide +kernel
theorem dX4_beyond_6 : decode cX4_beyond 6 = .ok (.iload 5, 2) := by decide +kernel
theorem dX4_beyond_8 : decode cX4_beyond 8 = .ok (.iload_n 1, 1) := by decide +kernel
theorem dX4_beyond_9 : decode cX4_beyond 9 = .ok (.if_icmp .ge 30, 3) := by decide +kernel
theorem dX4_beyond_12 : decode cX4_beyond 12 = .ok (.iload 4, 2) := by decide +kernel
theorem dX4_beyond_14 : decode cX4_beyond 14 = .ok (.aload_n 0, 1) := by decide +kernel
theorem dX4_beyond_15 : decode cX4_beyond 15 = .ok (.iload 5, 2) := by decide +kernel
theorem dX4_beyond_17 : decode cX4_beyond 17 = .ok (.iload_n 2, 1) := by decide +kernel
theorem dX4_beyond_18 : decode cX4_beyond 18 = .ok (.iload_n 3, 1) := by decide +kernel
theorem dX4_beyond_19 : decode cX4_beyond 19 = .ok (.invokevirtual 132, 3) := by decide +kernel
theorem dX4_beyond_22 : decode cX4_beyond 22 = .ok (.ifCond .eq 7, 3) := by decide +kernel
theorem dX4_beyond_25 : decode cX4_beyond 25 = .ok (.iconst 1, 1) := by decide +kernel
theorem dX4_beyond_26 : decode cX4_beyond 26 = .ok (.goto 4, 3) := by decide +kernel
theorem dX4_beyond_29 : decode cX4_beyond 29 = .ok (.iconst 0, 1) := by decide +kernel
theorem dX4_beyond_30 : decode cX4_beyond 30 = .ok (.iadd, 1) := by decide +kernel
theorem dX4_beyond_31 : decode cX4_beyond 31 = .ok (.istore 4, 2) := by decide +kernel
theorem dX4_beyond_33 : decode cX4_beyond 33 = .ok (.iinc 5 1, 3) := by decide +kernel
theorem dX4_beyond_36 : decode cX4_beyond 36 = .ok (.goto (-30), 3) := by decide +kernel
theorem dX4_beyond_39 : decode cX4_beyond 39 = .ok (.iload 4, 2) := by decide +kernel
theorem dX4_beyond_41 : decode cX4_beyond 41 = .ok (.ireturn, 1) := by decide +kernel
theorem dX4_steps_0 : decode cX4_steps 0 = .ok (.iconst 0, 1) := by decide +kernel
theorem dX4_steps_1 : decode cX4_steps 1 = .ok (.istore_n 3, 1) := by decide +kernel
theorem dX4_steps_2 : decode cX4_steps 2 = .ok (.iconst 0, 1) := by decide +kernel
theorem dX4_steps_3 : decode cX4_steps 3 = .ok (.istore 4, 2) := by decide +kernel
theorem dX4_steps_5 : decode cX4_steps 5 = .ok (.iload 4, 2) := by decide +kernel
theorem dX4_steps_7 : decode cX4_steps 7 = .ok (.iload_n 1, 1) := by decide +kernel
theorem dX4_steps_8 : decode cX4_steps 8 = .ok (.if_icmp .ge 37, 3) := by decide +kernel
theorem dX4_steps_11 : decode cX4_steps 11 = .ok (.iload_n 3, 1) := by decide +kernel
theorem dX4_steps_12 : decode cX4_steps 12 = .ok (.aload_n 0, 1) := by decide +kernel
theorem dX4_steps_13 : decode cX4_steps 13 = .ok (.iload 4, 2) := by decide +kernel
theorem dX4_steps_15 : decode cX4_steps 15 = .ok (.invokevirtual 129, 3) := by decide +kernel
theorem dX4_steps_18 : decode cX4_steps 18 = .ok (.aload_n 0, 1) := by decide +kernel
theorem dX4_steps_19 : decode cX4_steps 19 = .ok (.iload 4, 2) := by decide +kernel
theorem dX4_steps_21 : decode cX4_steps 21 = .ok (.iconst 1, 1) := by decide +kernel
theorem dX4_steps_22 : decode cX4_steps 22 = .ok (.iadd, 1) := by decide +kernel
theorem dX4_steps_23 : decode cX4_steps 23 = .ok (.invokevirtual 129, 3) := by decide +kernel
theorem dX4_steps_26 : decode cX4_steps 26 = .ok (.isub, 1) := by decide +kernel
theorem dX4_steps_27 : decode cX4_steps 27 = .ok (.iload_n 2, 1) := by decide +kernel
theorem dX4_steps_28 : decode cX4_steps 28 = .ok (.imul, 1) := by decide +kernel
theorem dX4_steps_29 : decode cX4_steps 29 = .ok (.ifCond .le 7, 3) := by decide +kernel
theorem dX4_steps_32 : decode cX4_steps 32 = .ok (.iconst 1, 1) := by decide +kernel
theorem dX4_steps_33 : decode cX4_steps 33 = .ok (.goto 4, 3) := by decide +kernel
theorem dX4_steps_36 : decode cX4_steps 36 = .ok (.iconst 0, 1) := by decide +kernel
theorem dX4_steps_37 : decode cX4_steps 37 = .ok (.iadd, 1) := by decide +kernel
theorem dX4_steps_38 : decode cX4_steps 38 = .ok (.istore_n 3, 1) := by decide +kernel
theorem dX4_steps_39 : decode cX4_steps 39 = .ok (.iinc 4 1, 3) := by decide +kernel
theorem dX4_steps_42 : decode cX4_steps 42 = .ok (.goto (-37), 3) := by decide +kernel
theorem dX4_steps_45 : decode cX4_steps 45 = .ok (.iload_n 3, 1) := by decide +kernel
theorem dX4_steps_46 : decode cX4_steps 46 = .ok (.ireturn, 1) := by decide +kernel
theorem dX4_isTurning_0 : decode cX4_isTurning 0 = .ok (.iconst 1, 1) := by decide +kernel
theorem dX4_isTurning_1 : decode cX4_isTurning 1 = .ok (.istore_n 1, 1) := by decide +kernel
theorem dX4_isTurning_2 : decode cX4_isTurning 2 = .ok (.iconst 0, 1) := by decide +kernel
theorem dX4_isTurning_3 : decode cX4_isTurning 3 = .ok (.istore_n 2, 1) := by decide +kernel
theorem dX4_isTurning_4 : decode cX4_isTurning 4 = .ok (.iload_n 2, 1) := by decide +kernel
theorem dX4_isTurning_5 : decode cX4_isTurning 5 = .ok (.bipush 13, 2) := by decide +kernel
theorem dX4_isTurning_7 : decode cX4_isTurning 7 = .ok (.if_icmp .ge 32, 3) := by decide +kernel
theorem dX4_isTurning_10 : decode cX4_isTurning 10 = .ok (.iload_n 1, 1) := by decide +kernel
theorem dX4_isTurning_11 : decode cX4_isTurning 11 = .ok (.aload_n 0, 1) := by decide +kernel
theorem dX4_isTurning_12 : decode cX4_isTurning 12 = .ok (.iload_n 2, 1) := by decide +kernel
theorem dX4_isTurning_13 : decode cX4_isTurning 13 = .ok (.invokevirtual 129, 3) := by decide +kernel
theorem dX4_isTurning_16 : decode cX4_isTurning 16 = .ok (.aload_n 0, 1) := by decide +kernel
theorem dX4_isTurning_17 : decode cX4_isTurning 17 = .ok (.iload_n 2, 1) := by decide +kernel
theorem dX4_isTurning_18 : decode cX4_isTurning 18 = .ok (.iconst 1, 1) := by decide +kernel
theorem dX4_isTurning_19 : decode cX4_isTurning 19 = .ok (.iadd, 1) := by decide +kernel
theorem dX4_isTurning_20 : decode cX4_isTurning 20 = .ok (.invokevirtual 129, 3) := by decide +kernel
theorem dX4_isTurning_23 : decode cX4_isTurning 23 = .ok (.if_icmp .eq 7, 3) := by decide +kernel
theorem dX4_isTurning_26 : decode cX4_isTurning 26 = .ok (.iconst 1, 1) := by decide +kernel
theorem dX4_isTurning_27 : decode cX4_isTurning 27 = .ok (.goto 4, 3) := by decide +kernel
theorem dX4_isTurning_30 : decode cX4_isTurning 30 = .ok (.iconst 0, 1) := by decide +kernel
theorem dX4_isTurning_31 : decode cX4_isTurning 31 = .ok (.iand, 1) := by decide +kernel
theorem dX4_isTurning_32 : decode cX4_isTurning 32 = .ok (.istore_n 1, 1) := by decide +kernel
theorem dX4_isTurning_33 : decode cX4_isTurning 33 = .ok (.iinc 2 1, 3) := by decide +kernel
theorem dX4_isTurning_36 : decode cX4_isTurning 36 = .ok (.goto (-32), 3) := by decide +kernel
theorem dX4_isTurning_39 : decode cX4_isTurning 39 = .ok (.iconst 0, 1) := by decide +kernel
theorem dX4_isTurning_40 : decode cX4_isTurning 40 = .ok (.istore_n 2, 1) := by decide +kernel
theorem dX4_isTurning_41 : decode cX4_isTurning 41 = .ok (.iload_n 2, 1) := by decide +kernel
theorem dX4_isTurning_42 : decode cX4_isTurning 42 = .ok (.bipush 12, 2) := by decide +kernel
theorem dX4_isTurning_44 : decode cX4_isTurning 44 = .ok (.if_icmp .ge 62, 3) := by decide +kernel
theorem dX4_isTurning_47 : decode cX4_isTurning 47 = .ok (.iload_n 1, 1) := by decide +kernel
theorem dX4_isTurning_48 : decode cX4_isTurning 48 = .ok (.aload_n 0, 1) := by decide +kernel
theorem dX4_isTurning_49 : decode cX4_isTurning 49 = .ok (.iload_n 2, 1) := by decide +kernel
theorem dX4_isTurning_50 : decode cX4_isTurning 50 = .ok (.invokevirtual 129, 3) := by decide +kernel
theorem dX4_isTurning_53 : decode cX4_isTurning 53 = .ok (.aload_n 0, 1) := by decide +kernel
theorem dX4_isTurning_54 : decode cX4_isTurning 54 = .ok (.iload_n 2, 1) := by decide +kernel
theorem dX4_isTurning_55 : decode cX4_isTurning 55 = .ok (.iconst 1, 1) := by decide +kernel
theorem dX4_isTurning_56 : decode cX4_isTurning 56 = .ok (.iadd, 1) := by decide +kernel
theorem dX4_isTurning_57 : decode cX4_isTurning 57 = .ok (.invokevirtual 129, 3) := by decide +kernel
theorem dX4_isTurning_60 : decode cX4_isTurning 60 = .ok (.if_icmp .ge 7, 3) := by decide +kernel
theorem dX4_isTurning_63 : decode cX4_isTurning 63 = .ok (.iconst 1, 1) := by decide +kernel
theorem dX4_isTurning_64 : decode cX4_isTurning 64 = .ok (.goto 4, 3) := by decide +kernel
theorem dX4_isTurning_67 : decode cX4_isTurning 67 = .ok (.iconst 0, 1) := by decide +kernel
theorem dX4_isTurning_68 : decode cX4_isTurning 68 = .ok (.aload_n 0, 1) := by decide +kernel
theorem dX4_isTurning_69 : decode cX4_isTurning 69 = .ok (.iload_n 2, 1) := by decide +kernel
theorem dX4_isTurning_70 : decode cX4_isTurning 70 = .ok (.iconst 2, 1) := by decide +kernel
theorem dX4_isTurning_71 : decode cX4_isTurning 71 = .ok (.iadd, 1) := by decide +kernel
theorem dX4_isTurning_72 : decode cX4_isTurning 72 = .ok (.invokevirtual 129, 3) := by decide +kernel
theorem dX4_isTurning_75 : decode cX4_isTurning 75 = .ok (.aload_n 0, 1) := by decide +kernel
theorem dX4_isTurning_76 : decode cX4_isTurning 76 = .ok (.iload_n 2, 1) := by decide +kernel
theorem dX4_isTurning_77 : decode cX4_isTurning 77 = .ok (.iconst 1, 1) := by decide +kernel
theorem dX4_isTurning_78 : decode cX4_isTurning 78 = .ok (.iadd, 1) := by decide +kernel
theorem dX4_isTurning_79 : decode cX4_isTurning 79 = .ok (.invokevirtual 129, 3) := by decide +kernel
theorem dX4_isTurning_82 : decode cX4_isTurning 82 = .ok (.if_icmp .ge 7, 3) := by decide +kernel
theorem dX4_isTurning_85 : decode cX4_isTurning 85 = .ok (.iconst 1, 1) := by decide +kernel
theorem dX4_isTurning_86 : decode cX4_isTurning 86 = .ok (.goto 4, 3) := by decide +kernel
theorem dX4_isTurning_89 : decode cX4_isTurning 89 = .ok (.iconst 0, 1) := by decide +kernel
theorem dX4_isTurning_90 : decode cX4_isTurning 90 = .ok (.if_icmp .ne 7, 3) := by decide +kernel
theorem dX4_isTurning_93 : decode cX4_isTurning 93 = .ok (.iconst 1, 1) := by decide +kernel
theorem dX4_isTurning_94 : decode cX4_isTurning 94 = .ok (.goto 4, 3) := by decide +kernel
theorem dX4_isTurning_97 : decode cX4_isTurning 97 = .ok (.iconst 0, 1) := by decide +kernel
theorem dX4_isTurning_98 : decode cX4_isTurning 98 = .ok (.iand, 1) := by decide +kernel
theorem dX4_isTurning_99 : decode cX4_isTurning 99 = .ok (.istore_n 1, 1) := by decide +kernel
theorem dX4_isTurning_100 : decode cX4_isTurning 100 = .ok (.iinc 2 1, 3) := by decide +kernel
theorem dX4_isTurning_103 : decode cX4_isTurning 103 = .ok (.goto (-62), 3) := by decide +kernel
theorem dX4_isTurning_106 : decode cX4_isTurning 106 = .ok (.iload_n 1, 1) := by decide +kernel
theorem dX4_isTurning_107 : decode cX4_isTurning 107 = .ok (.ireturn, 1) := by decide +kernel
theorem dX4_aboveOf_0 : decode cX4_aboveOf 0 = .ok (.iconst 0, 1) := by decide +kernel
theorem dX4_aboveOf_1 : decode cX4_aboveOf 1 = .ok (.istore_n 3, 1) := by decide +kernel
theorem dX4_aboveOf_2 : decode cX4_aboveOf 2 = .ok (.iconst 0, 1) := by decide +kernel
theorem dX4_aboveOf_3 : decode cX4_aboveOf 3 = .ok (.istore 4, 2) := by decide +kernel
theorem dX4_aboveOf_5 : decode cX4_aboveOf 5 = .ok (.iload 4, 2) := by decide +kernel
theorem dX4_aboveOf_7 : decode cX4_aboveOf 7 = .ok (.iload_n 1, 1) := by decide +kernel
theorem dX4_aboveOf_8 : decode cX4_aboveOf 8 = .ok (.if_icmp .ge 33, 3) := by decide +kernel
theorem dX4_aboveOf_11 : decode cX4_aboveOf 11 = .ok (.iload_n 3, 1) := by decide +kernel
theorem dX4_aboveOf_12 : decode cX4_aboveOf 12 = .ok (.aload_n 0, 1) := by decide +kernel
theorem dX4_aboveOf_13 : decode cX4_aboveOf 13 = .ok (.iload 4, 2) := by decide +kernel
theorem dX4_aboveOf_15 : decode cX4_aboveOf 15 = .ok (.invokevirtual 129, 3) := by decide +kernel
theorem dX4_aboveOf_18 : decode cX4_aboveOf 18 = .ok (.aload_n 0, 1) := by decide +kernel
theorem dX4_aboveOf_19 : decode cX4_aboveOf 19 = .ok (.getfield 97, 3) := by decide +kernel
theorem dX4_aboveOf_22 : decode cX4_aboveOf 22 = .ok (.isub, 1) := by decide +kernel
theorem dX4_aboveOf_23 : decode cX4_aboveOf 23 = .ok (.iload_n 2, 1) := by decide +kernel
theorem dX4_aboveOf_24 : decode cX4_aboveOf 24 = .ok (.imul, 1) := by decide +kernel
theorem dX4_aboveOf_25 : decode cX4_aboveOf 25 = .ok (.ifCond .le 7, 3) := by decide +kernel
theorem dX4_aboveOf_28 : decode cX4_aboveOf 28 = .ok (.iconst 1, 1) := by decide +kernel
theorem dX4_aboveOf_29 : decode cX4_aboveOf 29 = .ok (.goto 4, 3) := by decide +kernel
theorem dX4_aboveOf_32 : decode cX4_aboveOf 32 = .ok (.iconst 0, 1) := by decide +kernel
theorem dX4_aboveOf_33 : decode cX4_aboveOf 33 = .ok (.iadd, 1) := by decide +kernel
theorem dX4_aboveOf_34 : decode cX4_aboveOf 34 = .ok (.istore_n 3, 1) := by decide +kernel
theorem dX4_aboveOf_35 : decode cX4_aboveOf 35 = .ok (.iinc 4 1, 3) := by decide +kernel
theorem dX4_aboveOf_38 : decode cX4_aboveOf 38 = .ok (.goto (-33), 3) := by decide +kernel
theorem dX4_aboveOf_41 : decode cX4_aboveOf 41 = .ok (.iload_n 3, 1) := by decide +kernel
theorem dX4_aboveOf_42 : decode cX4_aboveOf 42 = .ok (.ireturn, 1) := by decide +kernel
theorem dX4_named_0 : decode cX4_named 0 = .ok (.iload_n 0, 1) := by decide +kernel
theorem dX4_named_1 : decode cX4_named 1 = .ok (.iconst 1, 1) := by decide +kernel
theorem dX4_named_2 : decode cX4_named 2 = .ok (.if_icmp .ne 7, 3) := by decide +kernel
theorem dX4_named_5 : decode cX4_named 5 = .ok (.iconst 1, 1) := by decide +kernel
theorem dX4_named_6 : decode cX4_named 6 = .ok (.goto 65, 3) := by decide +kernel
theorem dX4_named_9 : decode cX4_named 9 = .ok (.iload_n 0, 1) := by decide +kernel
theorem dX4_named_10 : decode cX4_named 10 = .ok (.iconst 2, 1) := by decide +kernel
theorem dX4_named_11 : decode cX4_named 11 = .ok (.if_icmp .ne 8, 3) := by decide +kernel
theorem dX4_named_14 : decode cX4_named 14 = .ok (.bipush 9, 2) := by decide +kernel
theorem dX4_named_16 : decode cX4_named 16 = .ok (.goto 55, 3) := by decide +kernel
theorem dX4_named_19 : decode cX4_named 19 = .ok (.iload_n 0, 1) := by decide +kernel
theorem dX4_named_20 : decode cX4_named 20 = .ok (.iconst 3, 1) := by decide +kernel
theorem dX4_named_21 : decode cX4_named 21 = .ok (.if_icmp .ne 8, 3) := by decide +kernel
theorem dX4_named_24 : decode cX4_named 24 = .ok (.bipush 6, 2) := by decide +kernel
theorem dX4_named_26 : decode cX4_named 26 = .ok (.goto 45, 3) := by decide +kernel
theorem dX4_named_29 : decode cX4_named 29 = .ok (.iload_n 0, 1) := by decide +kernel
theorem dX4_named_30 : decode cX4_named 30 = .ok (.iconst 4, 1) := by decide +kernel
theorem dX4_named_31 : decode cX4_named 31 = .ok (.if_icmp .ne 8, 3) := by decide +kernel
theorem dX4_named_34 : decode cX4_named 34 = .ok (.bipush 14, 2) := by decide +kernel
theorem dX4_named_36 : decode cX4_named 36 = .ok (.goto 35, 3) := by decide +kernel
theorem dX4_named_39 : decode cX4_named 39 = .ok (.iload_n 0, 1) := by decide +kernel
theorem dX4_named_40 : decode cX4_named 40 = .ok (.iconst 5, 1) := by decide +kernel
theorem dX4_named_41 : decode cX4_named 41 = .ok (.if_icmp .ne 7, 3) := by decide +kernel
theorem dX4_named_44 : decode cX4_named 44 = .ok (.iconst 3, 1) := by decide +kernel
theorem dX4_named_45 : decode cX4_named 45 = .ok (.goto 26, 3) := by decide +kernel
theorem dX4_named_48 : decode cX4_named 48 = .ok (.iload_n 0, 1) := by decide +kernel
theorem dX4_named_49 : decode cX4_named 49 = .ok (.bipush 6, 2) := by decide +kernel
theorem dX4_named_51 : decode cX4_named 51 = .ok (.if_icmp .ne 7, 3) := by decide +kernel
theorem dX4_named_54 : decode cX4_named 54 = .ok (.iconst 5, 1) := by decide +kernel
theorem dX4_named_55 : decode cX4_named 55 = .ok (.goto 16, 3) := by decide +kernel
theorem dX4_named_58 : decode cX4_named 58 = .ok (.iload_n 0, 1) := by decide +kernel
theorem dX4_named_59 : decode cX4_named 59 = .ok (.bipush 7, 2) := by decide +kernel
theorem dX4_named_61 : decode cX4_named 61 = .ok (.if_icmp .ne 8, 3) := by decide +kernel
theorem dX4_named_64 : decode cX4_named 64 = .ok (.bipush 15, 2) := by decide +kernel
theorem dX4_named_66 : decode cX4_named 66 = .ok (.goto 5, 3) := by decide +kernel
theorem dX4_named_69 : decode cX4_named 69 = .ok (.bipush 8, 2) := by decide +kernel
theorem dX4_named_71 : decode cX4_named 71 = .ok (.ireturn, 1) := by decide +kernel
theorem dX4_breaks_0 : decode cX4_breaks 0 = .ok (.aload_n 0, 1) := by decide +kernel
theorem dX4_breaks_1 : decode cX4_breaks 1 = .ok (.getfield 76, 3) := by decide +kernel
theorem dX4_breaks_4 : decode cX4_breaks 4 = .ok (.iload_n 1, 1) := by decide +kernel
theorem dX4_breaks_5 : decode cX4_breaks 5 = .ok (.invokestatic 135, 3) := by decide +kernel
theorem dX4_breaks_8 : decode cX4_breaks 8 = .ok (.if_icmp .ge 5, 3) := by decide +kernel
theorem dX4_breaks_11 : decode cX4_breaks 11 = .ok (.iconst 0, 1) := by decide +kernel
theorem dX4_breaks_12 : decode cX4_breaks 12 = .ok (.ireturn, 1) := by decide +kernel
theorem dX4_breaks_13 : decode cX4_breaks 13 = .ok (.iload_n 1, 1) := by decide +kernel
theorem dX4_breaks_14 : decode cX4_breaks 14 = .ok (.iconst 1, 1) := by decide +kernel
theorem dX4_breaks_15 : decode cX4_breaks 15 = .ok (.if_icmp .ne 11, 3) := by decide +kernel
theorem dX4_breaks_18 : decode cX4_breaks 18 = .ok (.aload_n 0, 1) := by decide +kernel
theorem dX4_breaks_19 : decode cX4_breaks 19 = .ok (.iconst 0, 1) := by decide +kernel
theorem dX4_breaks_20 : decode cX4_breaks 20 = .ok (.iconst 3, 1) := by decide +kernel
theorem dX4_breaks_21 : decode cX4_breaks 21 = .ok (.iload_n 2, 1) := by decide +kernel
theorem dX4_breaks_22 : decode cX4_breaks 22 = .ok (.invokevirtual 132, 3) := by decide +kernel
theorem dX4_breaks_25 : decode cX4_breaks 25 = .ok (.ireturn, 1) := by decide +kernel
theorem dX4_breaks_26 : decode cX4_breaks 26 = .ok (.iload_n 1, 1) := by decide +kernel
theorem dX4_breaks_27 : decode cX4_breaks 27 = .ok (.iconst 2, 1) := by decide +kernel
theorem dX4_breaks_28 : decode cX4_breaks 28 = .ok (.if_icmp .ne 21, 3) := by decide +kernel
theorem dX4_breaks_31 : decode cX4_breaks 31 = .ok (.aload_n 0, 1) := by decide +kernel
theorem dX4_breaks_32 : decode cX4_breaks 32 = .ok (.bipush 9, 2) := by decide +kernel
theorem dX4_breaks_34 : decode cX4_breaks 34 = .ok (.iload_n 2, 1) := by decide +kernel
theorem dX4_breaks_35 : decode cX4_breaks 35 = .ok (.invokevirtual 138, 3) := by decide +kernel
theorem dX4_breaks_38 : decode cX4_breaks 38 = .ok (.bipush 9, 2) := by decide +kernel
theorem dX4_breaks_40 : decode cX4_breaks 40 = .ok (.if_icmp .ne 7, 3) := by decide +kernel
theorem dX4_breaks_43 : decode cX4_breaks 43 = .ok (.iconst 1, 1) := by decide +kernel
theorem dX4_breaks_44 : decode cX4_breaks 44 = .ok (.goto 4, 3) := by decide +kernel
theorem dX4_breaks_47 : decode cX4_breaks 47 = .ok (.iconst 0, 1) := by decide +kernel
theorem dX4_breaks_48 : decode cX4_breaks 48 = .ok (.ireturn, 1) := by decide +kernel
theorem dX4_breaks_49 : decode cX4_breaks 49 = .ok (.iload_n 1, 1) := by decide +kernel
theorem dX4_breaks_50 : decode cX4_breaks 50 = .ok (.iconst 3, 1) := by decide +kernel
theorem dX4_breaks_51 : decode cX4_breaks 51 = .ok (.if_icmp .ne 19, 3) := by decide +kernel
theorem dX4_breaks_54 : decode cX4_breaks 54 = .ok (.aload_n 0, 1) := by decide +kernel
theorem dX4_breaks_55 : decode cX4_breaks 55 = .ok (.iconst 5, 1) := by decide +kernel
theorem dX4_breaks_56 : decode cX4_breaks 56 = .ok (.iload_n 2, 1) := by decide +kernel
theorem dX4_breaks_57 : decode cX4_breaks 57 = .ok (.invokevirtual 142, 3) := by decide +kernel
theorem dX4_breaks_60 : decode cX4_breaks 60 = .ok (.iconst 5, 1) := by decide +kernel
theorem dX4_breaks_61 : decode cX4_breaks 61 = .ok (.if_icmp .ne 7, 3) := by decide +kernel
theorem dX4_breaks_64 : decode cX4_breaks 64 = .ok (.iconst 1, 1) := by decide +kernel
theorem dX4_breaks_65 : decode cX4_breaks 65 = .ok (.goto 4, 3) := by decide +kernel
theorem dX4_breaks_68 : decode cX4_breaks 68 = .ok (.iconst 0, 1) := by decide +kernel
theorem dX4_breaks_69 : decode cX4_breaks 69 = .ok (.ireturn, 1) := by decide +kernel
theorem dX4_breaks_70 : decode cX4_breaks 70 = .ok (.iload_n 1, 1) := by decide +kernel
theorem dX4_breaks_71 : decode cX4_breaks 71 = .ok (.iconst 4, 1) := by decide +kernel
theorem dX4_breaks_72 : decode cX4_breaks 72 = .ok (.if_icmp .ne 8, 3) := by decide +kernel
theorem dX4_breaks_75 : decode cX4_breaks 75 = .ok (.aload_n 0, 1) := by decide +kernel
theorem dX4_breaks_76 : decode cX4_breaks 76 = .ok (.invokevirtual 145, 3) := by decide +kernel
theorem dX4_breaks_79 : decode cX4_breaks 79 = .ok (.ireturn, 1) := by decide +kernel
theorem dX4_breaks_80 : decode cX4_breaks 80 = .ok (.iload_n 1, 1) := by decide +kernel
theorem dX4_breaks_81 : decode cX4_breaks 81 = .ok (.iconst 5, 1) := by decide +kernel
theorem dX4_breaks_82 : decode cX4_breaks 82 = .ok (.if_icmp .ne 30, 3) := by decide +kernel
theorem dX4_breaks_85 : decode cX4_breaks 85 = .ok (.aload_n 0, 1) := by decide +kernel
theorem dX4_breaks_86 : decode cX4_breaks 86 = .ok (.iconst 0, 1) := by decide +kernel
theorem dX4_breaks_87 : decode cX4_breaks 87 = .ok (.iconst 2, 1) := by decide +kernel
theorem dX4_breaks_88 : decode cX4_breaks 88 = .ok (.iload_n 2, 1) := by decide +kernel
theorem dX4_breaks_89 : decode cX4_breaks 89 = .ok (.invokevirtual 132, 3) := by decide +kernel
theorem dX4_breaks_92 : decode cX4_breaks 92 = .ok (.ifCond .eq 18, 3) := by decide +kernel
theorem dX4_breaks_95 : decode cX4_breaks 95 = .ok (.aload_n 0, 1) := by decide +kernel
theorem dX4_breaks_96 : decode cX4_breaks 96 = .ok (.iconst 3, 1) := by decide +kernel
theorem dX4_breaks_97 : decode cX4_breaks 97 = .ok (.iconst 2, 1) := by decide +kernel
theorem dX4_breaks_98 : decode cX4_breaks 98 = .ok (.iload_n 2, 1) := by decide +kernel
theorem dX4_breaks_99 : decode cX4_breaks 99 = .ok (.invokevirtual 149, 3) := by decide +kernel
theorem dX4_breaks_102 : decode cX4_breaks 102 = .ok (.iconst 2, 1) := by decide +kernel
theorem dX4_breaks_103 : decode cX4_breaks 103 = .ok (.if_icmp .lt 7, 3) := by decide +kernel
theorem dX4_breaks_106 : decode cX4_breaks 106 = .ok (.iconst 1, 1) := by decide +kernel
theorem dX4_breaks_107 : decode cX4_breaks 107 = .ok (.goto 4, 3) := by decide +kernel
theorem dX4_breaks_110 : decode cX4_breaks 110 = .ok (.iconst 0, 1) := by decide +kernel
theorem dX4_breaks_111 : decode cX4_breaks 111 = .ok (.ireturn, 1) := by decide +kernel
theorem dX4_breaks_112 : decode cX4_breaks 112 = .ok (.iload_n 1, 1) := by decide +kernel
theorem dX4_breaks_113 : decode cX4_breaks 113 = .ok (.bipush 6, 2) := by decide +kernel
theorem dX4_breaks_115 : decode cX4_breaks 115 = .ok (.if_icmp .ne 30, 3) := by decide +kernel
theorem dX4_breaks_118 : decode cX4_breaks 118 = .ok (.aload_n 0, 1) := by decide +kernel
theorem dX4_breaks_119 : decode cX4_breaks 119 = .ok (.iconst 0, 1) := by decide +kernel
theorem dX4_breaks_120 : decode cX4_breaks 120 = .ok (.iconst 1, 1) := by decide +kernel
theorem dX4_breaks_121 : decode cX4_breaks 121 = .ok (.iload_n 2, 1) := by decide +kernel
theorem dX4_breaks_122 : decode cX4_breaks 122 = .ok (.invokevirtual 132, 3) := by decide +kernel
theorem dX4_breaks_125 : decode cX4_breaks 125 = .ok (.ifCond .eq 18, 3) := by decide +kernel
theorem dX4_breaks_128 : decode cX4_breaks 128 = .ok (.aload_n 0, 1) := by decide +kernel
theorem dX4_breaks_129 : decode cX4_breaks 129 = .ok (.iconst 5, 1) := by decide +kernel
theorem dX4_breaks_130 : decode cX4_breaks 130 = .ok (.iconst 1, 1) := by decide +kernel
theorem dX4_breaks_131 : decode cX4_breaks 131 = .ok (.iload_n 2, 1) := by decide +kernel
theorem dX4_breaks_132 : decode cX4_breaks 132 = .ok (.invokevirtual 149, 3) := by decide +kernel
theorem dX4_breaks_135 : decode cX4_breaks 135 = .ok (.iconst 4, 1) := by decide +kernel
theorem dX4_breaks_136 : decode cX4_breaks 136 = .ok (.if_icmp .lt 7, 3) := by decide +kernel
theorem dX4_breaks_139 : decode cX4_breaks 139 = .ok (.iconst 1, 1) := by decide +kernel
theorem dX4_breaks_140 : decode cX4_breaks 140 = .ok (.goto 4, 3) := by decide +kernel
theorem dX4_breaks_143 : decode cX4_breaks 143 = .ok (.iconst 0, 1) := by decide +kernel
theorem dX4_breaks_144 : decode cX4_breaks 144 = .ok (.ireturn, 1) := by decide +kernel
theorem dX4_breaks_145 : decode cX4_breaks 145 = .ok (.iload_n 1, 1) := by decide +kernel
theorem dX4_breaks_146 : decode cX4_breaks 146 = .ok (.bipush 7, 2) := by decide +kernel
theorem dX4_breaks_148 : decode cX4_breaks 148 = .ok (.if_icmp .ne 29, 3) := by decide +kernel
theorem dX4_breaks_151 : decode cX4_breaks 151 = .ok (.aload_n 0, 1) := by decide +kernel
theorem dX4_breaks_152 : decode cX4_breaks 152 = .ok (.bipush 15, 2) := by decide +kernel
theorem dX4_breaks_154 : decode cX4_breaks 154 = .ok (.iconst 1, 1) := by decide +kernel
theorem dX4_breaks_155 : decode cX4_breaks 155 = .ok (.iconst 1, 1) := by decide +kernel
theorem dX4_breaks_156 : decode cX4_breaks 156 = .ok (.invokevirtual 149, 3) := by decide +kernel
theorem dX4_breaks_159 : decode cX4_breaks 159 = .ok (.aload_n 0, 1) := by decide +kernel
theorem dX4_breaks_160 : decode cX4_breaks 160 = .ok (.bipush 15, 2) := by decide +kernel
theorem dX4_breaks_162 : decode cX4_breaks 162 = .ok (.iconst 1, 1) := by decide +kernel
theorem dX4_breaks_163 : decode cX4_breaks 163 = .ok (.iconst (-1), 1) := by decide +kernel
theorem dX4_breaks_164 : decode cX4_breaks 164 = .ok (.invokevirtual 149, 3) := by decide +kernel
theorem dX4_breaks_167 : decode cX4_breaks 167 = .ok (.iadd, 1) := by decide +kernel
theorem dX4_breaks_168 : decode cX4_breaks 168 = .ok (.ifCond .ne 7, 3) := by decide +kernel
theorem dX4_breaks_171 : decode cX4_breaks 171 = .ok (.iconst 1, 1) := by decide +kernel
theorem dX4_breaks_172 : decode cX4_breaks 172 = .ok (.goto 4, 3) := by decide +kernel
theorem dX4_breaks_175 : decode cX4_breaks 175 = .ok (.iconst 0, 1) := by decide +kernel
theorem dX4_breaks_176 : decode cX4_breaks 176 = .ok (.ireturn, 1) := by decide +kernel
theorem dX4_breaks_177 : decode cX4_breaks 177 = .ok (.aload_n 0, 1) := by decide +kernel
theorem dX4_breaks_178 : decode cX4_breaks 178 = .ok (.bipush 8, 2) := by decide +kernel
theorem dX4_breaks_180 : decode cX4_breaks 180 = .ok (.iconst 1, 1) := by decide +kernel
theorem dX4_breaks_181 : decode cX4_breaks 181 = .ok (.iconst 1, 1) := by decide +kernel
theorem dX4_breaks_182 : decode cX4_breaks 182 = .ok (.invokevirtual 149, 3) := by decide +kernel
theorem dX4_breaks_185 : decode cX4_breaks 185 = .ok (.aload_n 0, 1) := by decide +kernel
theorem dX4_breaks_186 : decode cX4_breaks 186 = .ok (.bipush 8, 2) := by decide +kernel
theorem dX4_breaks_188 : decode cX4_breaks 188 = .ok (.iconst 1, 1) := by decide +kernel
theorem dX4_breaks_189 : decode cX4_breaks 189 = .ok (.iconst (-1), 1) := by decide +kernel
theorem dX4_breaks_190 : decode cX4_breaks 190 = .ok (.invokevirtual 149, 3) := by decide +kernel
theorem dX4_breaks_193 : decode cX4_breaks 193 = .ok (.iadd, 1) := by decide +kernel
theorem dX4_breaks_194 : decode cX4_breaks 194 = .ok (.bipush 8, 2) := by decide +kernel
theorem dX4_breaks_196 : decode cX4_breaks 196 = .ok (.if_icmp .ne 7, 3) := by decide +kernel
theorem dX4_breaks_199 : decode cX4_breaks 199 = .ok (.iconst 1, 1) := by decide +kernel
theorem dX4_breaks_200 : decode cX4_breaks 200 = .ok (.goto 4, 3) := by decide +kernel
theorem dX4_breaks_203 : decode cX4_breaks 203 = .ok (.iconst 0, 1) := by decide +kernel
theorem dX4_breaks_204 : decode cX4_breaks 204 = .ok (.ireturn, 1) := by decide +kernel
theorem dX4_broken_0 : decode cX4_broken 0 = .ok (.aload_n 0, 1) := by decide +kernel
theorem dX4_broken_1 : decode cX4_broken 1 = .ok (.getfield 20, 3) := by decide +kernel
theorem dX4_broken_4 : decode cX4_broken 4 = .ok (.iload_n 1, 1) := by decide +kernel
theorem dX4_broken_5 : decode cX4_broken 5 = .ok (.iaload, 1) := by decide +kernel
theorem dX4_broken_6 : decode cX4_broken 6 = .ok (.ifCond .le 5, 3) := by decide +kernel
theorem dX4_broken_9 : decode cX4_broken 9 = .ok (.iconst 0, 1) := by decide +kernel
theorem dX4_broken_10 : decode cX4_broken 10 = .ok (.ireturn, 1) := by decide +kernel
theorem dX4_broken_11 : decode cX4_broken 11 = .ok (.aload_n 0, 1) := by decide +kernel
theorem dX4_broken_12 : decode cX4_broken 12 = .ok (.aload_n 0, 1) := by decide +kernel
theorem dX4_broken_13 : decode cX4_broken 13 = .ok (.iload_n 1, 1) := by decide +kernel
theorem dX4_broken_14 : decode cX4_broken 14 = .ok (.invokevirtual 79, 3) := by decide +kernel
theorem dX4_broken_17 : decode cX4_broken 17 = .ok (.invokevirtual 117, 3) := by decide +kernel
theorem dX4_broken_20 : decode cX4_broken 20 = .ok (.aload_n 0, 1) := by decide +kernel
theorem dX4_broken_21 : decode cX4_broken 21 = .ok (.aload_n 0, 1) := by decide +kernel
theorem dX4_broken_22 : decode cX4_broken 22 = .ok (.iload_n 1, 1) := by decide +kernel
theorem dX4_broken_23 : decode cX4_broken 23 = .ok (.invokevirtual 79, 3) := by decide +kernel
theorem dX4_broken_26 : decode cX4_broken 26 = .ok (.iload_n 1, 1) := by decide +kernel
theorem dX4_broken_27 : decode cX4_broken 27 = .ok (.invokevirtual 89, 3) := by decide +kernel
theorem dX4_broken_30 : decode cX4_broken 30 = .ok (.iconst 0, 1) := by decide +kernel
theorem dX4_broken_31 : decode cX4_broken 31 = .ok (.istore_n 2, 1) := by decide +kernel
theorem dX4_broken_32 : decode cX4_broken 32 = .ok (.iconst 1, 1) := by decide +kernel
theorem dX4_broken_33 : decode cX4_broken 33 = .ok (.istore_n 3, 1) := by decide +kernel
theorem dX4_broken_34 : decode cX4_broken 34 = .ok (.iload_n 3, 1) := by decide +kernel
theorem dX4_broken_35 : decode cX4_broken 35 = .ok (.bipush 9, 2) := by decide +kernel
theorem dX4_broken_37 : decode cX4_broken 37 = .ok (.if_icmp .ge 37, 3) := by decide +kernel
theorem dX4_broken_40 : decode cX4_broken 40 = .ok (.iload_n 2, 1) := by decide +kernel
theorem dX4_broken_41 : decode cX4_broken 41 = .ok (.aload_n 0, 1) := by decide +kernel
theorem dX4_broken_42 : decode cX4_broken 42 = .ok (.iload_n 3, 1) := by decide +kernel
theorem dX4_broken_43 : decode cX4_broken 43 = .ok (.iconst 1, 1) := by decide +kernel
theorem dX4_broken_44 : decode cX4_broken 44 = .ok (.invokevirtual 153, 3) := by decide +kernel
theorem dX4_broken_47 : decode cX4_broken 47 = .ok (.ifCond .ne 12, 3) := by decide +kernel
theorem dX4_broken_50 : decode cX4_broken 50 = .ok (.aload_n 0, 1) := by decide +kernel
theorem dX4_broken_51 : decode cX4_broken 51 = .ok (.iload_n 3, 1) := by decide +kernel
theorem dX4_broken_52 : decode cX4_broken 52 = .ok (.iconst (-1), 1) := by decide +kernel
theorem dX4_broken_53 : decode cX4_broken 53 = .ok (.invokevirtual 153, 3) := by decide +kernel
theorem dX4_broken_56 : decode cX4_broken 56 = .ok (.ifCond .eq 9, 3) := by decide +kernel
theorem dX4_broken_59 : decode cX4_broken 59 = .ok (.iconst 1, 1) := by decide +kernel
theorem dX4_broken_60 : decode cX4_broken 60 = .ok (.iload_n 3, 1) := by decide +kernel
theorem dX4_broken_61 : decode cX4_broken 61 = .ok (.ishl, 1) := by decide +kernel
theorem dX4_broken_62 : decode cX4_broken 62 = .ok (.goto 4, 3) := by decide +kernel
theorem dX4_broken_65 : decode cX4_broken 65 = .ok (.iconst 0, 1) := by decide +kernel
theorem dX4_broken_66 : decode cX4_broken 66 = .ok (.ior, 1) := by decide +kernel
theorem dX4_broken_67 : decode cX4_broken 67 = .ok (.istore_n 2, 1) := by decide +kernel
theorem dX4_broken_68 : decode cX4_broken 68 = .ok (.iinc 3 1, 3) := by decide +kernel
theorem dX4_broken_71 : decode cX4_broken 71 = .ok (.goto (-37), 3) := by decide +kernel
theorem dX4_broken_74 : decode cX4_broken 74 = .ok (.iload_n 2, 1) := by decide +kernel
theorem dX4_broken_75 : decode cX4_broken 75 = .ok (.ireturn, 1) := by decide +kernel
theorem dX4_signals_0 : decode cX4_signals 0 = .ok (.aload_n 0, 1) := by decide +kernel
theorem dX4_signals_1 : decode cX4_signals 1 = .ok (.iload_n 1, 1) := by decide +kernel
theorem dX4_signals_2 : decode cX4_signals 2 = .ok (.invokevirtual 121, 3) := by decide +kernel
theorem dX4_signals_5 : decode cX4_signals 5 = .ok (.ifCond .eq 11, 3) := by decide +kernel
theorem dX4_signals_8 : decode cX4_signals 8 = .ok (.aload_n 0, 1) := by decide +kernel
theorem dX4_signals_9 : decode cX4_signals 9 = .ok (.iload_n 1, 1) := by decide +kernel
theorem dX4_signals_10 : decode cX4_signals 10 = .ok (.invokevirtual 157, 3) := by decide +kernel
theorem dX4_signals_13 : decode cX4_signals 13 = .ok (.goto 4, 3) := by decide +kernel
theorem dX4_signals_16 : decode cX4_signals 16 = .ok (.iconst 0, 1) := by decide +kernel
theorem dX4_signals_17 : decode cX4_signals 17 = .ok (.ireturn, 1) := by decide +kernel
theorem dX4_signalsByWindows_0 : decode cX4_signalsByWindows 0 = .ok (.aload_n 0, 1) := by decide +kernel
theorem dX4_signalsByWindows_1 : decode cX4_signalsByWindows 1 = .ok (.iload_n 1, 1) := by decide +kernel
theorem dX4_signalsByWindows_2 : decode cX4_signalsByWindows 2 = .ok (.invokevirtual 121, 3) := by decide +kernel
theorem dX4_signalsByWindows_5 : decode cX4_signalsByWindows 5 = .ok (.ifCond .eq 11, 3) := by decide +kernel
theorem dX4_signalsByWindows_8 : decode cX4_signalsByWindows 8 = .ok (.aload_n 0, 1) := by decide +kernel
theorem dX4_signalsByWindows_9 : decode cX4_signalsByWindows 9 = .ok (.iload_n 1, 1) := by decide +kernel
theorem dX4_signalsByWindows_10 : decode cX4_signalsByWindows 10 = .ok (.invokevirtual 157, 3) := by decide +kernel
theorem dX4_signalsByWindows_13 : decode cX4_signalsByWindows 13 = .ok (.goto 4, 3) := by decide +kernel
theorem dX4_signalsByWindows_16 : decode cX4_signalsByWindows 16 = .ok (.iconst 0, 1) := by decide +kernel
theorem dX4_signalsByWindows_17 : decode cX4_signalsByWindows 17 = .ok (.ireturn, 1) := by decide +kernel
theorem dX4_firstOf_0 : decode cX4_firstOf 0 = .ok (.aload_n 0, 1) := by decide +kernel
theorem dX4_firstOf_1 : decode cX4_firstOf 1 = .ok (.iload_n 1, 1) := by decide +kernel
theorem dX4_firstOf_2 : decode cX4_firstOf 2 = .ok (.iconst 0, 1) := by decide +kernel
theorem dX4_firstOf_3 : decode cX4_firstOf 3 = .ok (.aload_n 0, 1) := by decide +kernel
theorem dX4_firstOf_4 : decode cX4_firstOf 4 = .ok (.getfield 61, 3) := by decide +kernel
theorem dX4_firstOf_7 : decode cX4_firstOf 7 = .ok (.iconst 1, 1) := by decide +kernel
theorem dX4_firstOf_8 : decode cX4_firstOf 8 = .ok (.isub, 1) := by decide +kernel
theorem dX4_firstOf_9 : decode cX4_firstOf 9 = .ok (.invokestatic 57, 3) := by decide +kernel
theorem dX4_firstOf_12 : decode cX4_firstOf 12 = .ok (.ifCond .eq 17, 3) := by decide +kernel
theorem dX4_firstOf_15 : decode cX4_firstOf 15 = .ok (.iload_n 2, 1) := by decide +kernel
theorem dX4_firstOf_16 : decode cX4_firstOf 16 = .ok (.iconst 1, 1) := by decide +kernel
theorem dX4_firstOf_17 : decode cX4_firstOf 17 = .ok (.bipush 8, 2) := by decide +kernel
theorem dX4_firstOf_19 : decode cX4_firstOf 19 = .ok (.invokestatic 57, 3) := by decide +kernel
theorem dX4_firstOf_22 : decode cX4_firstOf 22 = .ok (.ifCond .eq 7, 3) := by decide +kernel
theorem dX4_firstOf_25 : decode cX4_firstOf 25 = .ok (.iconst 0, 1) := by decide +kernel
theorem dX4_firstOf_26 : decode cX4_firstOf 26 = .ok (.goto 4, 3) := by decide +kernel
theorem dX4_firstOf_29 : decode cX4_firstOf 29 = .ok (.iconst 1, 1) := by decide +kernel
theorem dX4_firstOf_30 : decode cX4_firstOf 30 = .ok (.putfield 48, 3) := by decide +kernel
theorem dX4_firstOf_33 : decode cX4_firstOf 33 = .ok (.aload_n 0, 1) := by decide +kernel
theorem dX4_firstOf_34 : decode cX4_firstOf 34 = .ok (.getfield 48, 3) := by decide +kernel
theorem dX4_firstOf_37 : decode cX4_firstOf 37 = .ok (.ifCond .le 5, 3) := by decide +kernel
theorem dX4_firstOf_40 : decode cX4_firstOf 40 = .ok (.iconst 0, 1) := by decide +kernel
theorem dX4_firstOf_41 : decode cX4_firstOf 41 = .ok (.ireturn, 1) := by decide +kernel
theorem dX4_firstOf_42 : decode cX4_firstOf 42 = .ok (.aload_n 0, 1) := by decide +kernel
theorem dX4_firstOf_43 : decode cX4_firstOf 43 = .ok (.iload_n 1, 1) := by decide +kernel
theorem dX4_firstOf_44 : decode cX4_firstOf 44 = .ok (.invokevirtual 157, 3) := by decide +kernel
theorem dX4_firstOf_47 : decode cX4_firstOf 47 = .ok (.iload_n 2, 1) := by decide +kernel
theorem dX4_firstOf_48 : decode cX4_firstOf 48 = .ok (.ishr, 1) := by decide +kernel
theorem dX4_firstOf_49 : decode cX4_firstOf 49 = .ok (.iconst 1, 1) := by decide +kernel
theorem dX4_firstOf_50 : decode cX4_firstOf 50 = .ok (.iand, 1) := by decide +kernel
theorem dX4_firstOf_51 : decode cX4_firstOf 51 = .ok (.iconst 1, 1) := by decide +kernel
theorem dX4_firstOf_52 : decode cX4_firstOf 52 = .ok (.if_icmp .ne 20, 3) := by decide +kernel
theorem dX4_firstOf_55 : decode cX4_firstOf 55 = .ok (.aload_n 0, 1) := by decide +kernel
theorem dX4_firstOf_56 : decode cX4_firstOf 56 = .ok (.getfield 42, 3) := by decide +kernel
theorem dX4_firstOf_59 : decode cX4_firstOf 59 = .ok (.aload_n 0, 1) := by decide +kernel
theorem dX4_firstOf_60 : decode cX4_firstOf 60 = .ok (.getfield 76, 3) := by decide +kernel
theorem dX4_firstOf_63 : decode cX4_firstOf 63 = .ok (.iload_n 2, 1) := by decide +kernel
theorem dX4_firstOf_64 : decode cX4_firstOf 64 = .ok (.invokestatic 135, 3) := by decide +kernel
theorem dX4_firstOf_67 : decode cX4_firstOf 67 = .ok (.isub, 1) := by decide +kernel
theorem dX4_firstOf_68 : decode cX4_firstOf 68 = .ok (.iaload, 1) := by decide +kernel
theorem dX4_firstOf_69 : decode cX4_firstOf 69 = .ok (.goto 4, 3) := by decide +kernel
theorem dX4_firstOf_72 : decode cX4_firstOf 72 = .ok (.iconst (-1), 1) := by decide +kernel
theorem dX4_firstOf_73 : decode cX4_firstOf 73 = .ok (.ireturn, 1) := by decide +kernel
theorem dX4_isWide_0 : decode cX4_isWide 0 = .ok (.aload_n 0, 1) := by decide +kernel
theorem dX4_isWide_1 : decode cX4_isWide 1 = .ok (.iload_n 1, 1) := by decide +kernel
theorem dX4_isWide_2 : decode cX4_isWide 2 = .ok (.invokevirtual 121, 3) := by decide +kernel
theorem dX4_isWide_5 : decode cX4_isWide 5 = .ok (.ifCond .eq 12, 3) := by decide +kernel
theorem dX4_isWide_8 : decode cX4_isWide 8 = .ok (.aload_n 0, 1) := by decide +kernel
theorem dX4_isWide_9 : decode cX4_isWide 9 = .ok (.getfield 20, 3) := by decide +kernel
theorem dX4_isWide_12 : decode cX4_isWide 12 = .ok (.iload_n 1, 1) := by decide +kernel
theorem dX4_isWide_13 : decode cX4_isWide 13 = .ok (.iaload, 1) := by decide +kernel
theorem dX4_isWide_14 : decode cX4_isWide 14 = .ok (.ifCond .le 5, 3) := by decide +kernel
theorem dX4_isWide_17 : decode cX4_isWide 17 = .ok (.iconst 0, 1) := by decide +kernel
theorem dX4_isWide_18 : decode cX4_isWide 18 = .ok (.ireturn, 1) := by decide +kernel
theorem dX4_isWide_19 : decode cX4_isWide 19 = .ok (.aload_n 0, 1) := by decide +kernel
theorem dX4_isWide_20 : decode cX4_isWide 20 = .ok (.aload_n 0, 1) := by decide +kernel
theorem dX4_isWide_21 : decode cX4_isWide 21 = .ok (.iload_n 1, 1) := by decide +kernel
theorem dX4_isWide_22 : decode cX4_isWide 22 = .ok (.invokevirtual 79, 3) := by decide +kernel
theorem dX4_isWide_25 : decode cX4_isWide 25 = .ok (.invokevirtual 117, 3) := by decide +kernel
theorem dX4_isWide_28 : decode cX4_isWide 28 = .ok (.sipush 1000, 3) := by decide +kernel
theorem dX4_isWide_31 : decode cX4_isWide 31 = .ok (.aload_n 0, 1) := by decide +kernel
theorem dX4_isWide_32 : decode cX4_isWide 32 = .ok (.getfield 17, 3) := by decide +kernel
theorem dX4_isWide_35 : decode cX4_isWide 35 = .ok (.iload_n 1, 1) := by decide +kernel
theorem dX4_isWide_36 : decode cX4_isWide 36 = .ok (.iaload, 1) := by decide +kernel
theorem dX4_isWide_37 : decode cX4_isWide 37 = .ok (.imul, 1) := by decide +kernel
theorem dX4_isWide_38 : decode cX4_isWide 38 = .ok (.aload_n 0, 1) := by decide +kernel
theorem dX4_isWide_39 : decode cX4_isWide 39 = .ok (.getfield 110, 3) := by decide +kernel
theorem dX4_isWide_42 : decode cX4_isWide 42 = .ok (.if_icmp .le 7, 3) := by decide +kernel
theorem dX4_isWide_45 : decode cX4_isWide 45 = .ok (.iconst 1, 1) := by decide +kernel
theorem dX4_isWide_46 : decode cX4_isWide 46 = .ok (.goto 4, 3) := by decide +kernel
theorem dX4_isWide_49 : decode cX4_isWide 49 = .ok (.iconst 0, 1) := by decide +kernel
theorem dX4_isWide_50 : decode cX4_isWide 50 = .ok (.ireturn, 1) := by decide +kernel
theorem dX4_alarms_0 : decode cX4_alarms 0 = .ok (.aload_n 0, 1) := by decide +kernel
theorem dX4_alarms_1 : decode cX4_alarms 1 = .ok (.iconst 0, 1) := by decide +kernel
theorem dX4_alarms_2 : decode cX4_alarms 2 = .ok (.putfield 48, 3) := by decide +kernel
theorem dX4_alarms_5 : decode cX4_alarms 5 = .ok (.iconst 0, 1) := by decide +kernel
theorem dX4_alarms_6 : decode cX4_alarms 6 = .ok (.istore_n 1, 1) := by decide +kernel
theorem dX4_alarms_7 : decode cX4_alarms 7 = .ok (.iconst 0, 1) := by decide +kernel
theorem dX4_alarms_8 : decode cX4_alarms 8 = .ok (.istore_n 2, 1) := by decide +kernel
theorem dX4_alarms_9 : decode cX4_alarms 9 = .ok (.iload_n 2, 1) := by decide +kernel
theorem dX4_alarms_10 : decode cX4_alarms 10 = .ok (.aload_n 0, 1) := by decide +kernel
theorem dX4_alarms_11 : decode cX4_alarms 11 = .ok (.getfield 61, 3) := by decide +kernel
theorem dX4_alarms_14 : decode cX4_alarms 14 = .ok (.if_icmp .ge 25, 3) := by decide +kernel
theorem dX4_alarms_17 : decode cX4_alarms 17 = .ok (.iload_n 1, 1) := by decide +kernel
theorem dX4_alarms_18 : decode cX4_alarms 18 = .ok (.aload_n 0, 1) := by decide +kernel
theorem dX4_alarms_19 : decode cX4_alarms 19 = .ok (.iload_n 2, 1) := by decide +kernel
theorem dX4_alarms_20 : decode cX4_alarms 20 = .ok (.invokevirtual 157, 3) := by decide +kernel
theorem dX4_alarms_23 : decode cX4_alarms 23 = .ok (.ifCond .le 7, 3) := by decide +kernel
theorem dX4_alarms_26 : decode cX4_alarms 26 = .ok (.iconst 1, 1) := by decide +kernel
theorem dX4_alarms_27 : decode cX4_alarms 27 = .ok (.goto 4, 3) := by decide +kernel
theorem dX4_alarms_30 : decode cX4_alarms 30 = .ok (.iconst 0, 1) := by decide +kernel
theorem dX4_alarms_31 : decode cX4_alarms 31 = .ok (.iadd, 1) := by decide +kernel
theorem dX4_alarms_32 : decode cX4_alarms 32 = .ok (.istore_n 1, 1) := by decide +kernel
theorem dX4_alarms_33 : decode cX4_alarms 33 = .ok (.iinc 2 1, 3) := by decide +kernel
theorem dX4_alarms_36 : decode cX4_alarms 36 = .ok (.goto (-27), 3) := by decide +kernel
theorem dX4_alarms_39 : decode cX4_alarms 39 = .ok (.iload_n 1, 1) := by decide +kernel
theorem dX4_alarms_40 : decode cX4_alarms 40 = .ok (.ireturn, 1) := by decide +kernel
theorem dX4_setWeight_0 : decode cX4_setWeight 0 = .ok (.aload_n 0, 1) := by decide +kernel
theorem dX4_setWeight_1 : decode cX4_setWeight 1 = .ok (.iload_n 1, 1) := by decide +kernel
theorem dX4_setWeight_2 : decode cX4_setWeight 2 = .ok (.iconst 1, 1) := by decide +kernel
theorem dX4_setWeight_3 : decode cX4_setWeight 3 = .ok (.bipush 10, 2) := by decide +kernel
theorem dX4_setWeight_5 : decode cX4_setWeight 5 = .ok (.invokestatic 57, 3) := by decide +kernel
theorem dX4_setWeight_8 : decode cX4_setWeight 8 = .ok (.ifCond .eq 7, 3) := by decide +kernel
theorem dX4_setWeight_11 : decode cX4_setWeight 11 = .ok (.iconst 0, 1) := by decide +kernel
theorem dX4_setWeight_12 : decode cX4_setWeight 12 = .ok (.goto 4, 3) := by decide +kernel
theorem dX4_setWeight_15 : decode cX4_setWeight 15 = .ok (.iconst 1, 1) := by decide +kernel
theorem dX4_setWeight_16 : decode cX4_setWeight 16 = .ok (.putfield 48, 3) := by decide +kernel
theorem dX4_setWeight_19 : decode cX4_setWeight 19 = .ok (.aload_n 0, 1) := by decide +kernel
theorem dX4_setWeight_20 : decode cX4_setWeight 20 = .ok (.getfield 48, 3) := by decide +kernel
theorem dX4_setWeight_23 : decode cX4_setWeight 23 = .ok (.ifCond .le 5, 3) := by decide +kernel
theorem dX4_setWeight_26 : decode cX4_setWeight 26 = .ok (.iconst 0, 1) := by decide +kernel
theorem dX4_setWeight_27 : decode cX4_setWeight 27 = .ok (.ireturn, 1) := by decide +kernel
theorem dX4_setWeight_28 : decode cX4_setWeight 28 = .ok (.aload_n 0, 1) := by decide +kernel
theorem dX4_setWeight_29 : decode cX4_setWeight 29 = .ok (.getfield 39, 3) := by decide +kernel
theorem dX4_setWeight_32 : decode cX4_setWeight 32 = .ok (.istore_n 2, 1) := by decide +kernel
theorem dX4_setWeight_33 : decode cX4_setWeight 33 = .ok (.aload_n 0, 1) := by decide +kernel
theorem dX4_setWeight_34 : decode cX4_setWeight 34 = .ok (.iload_n 1, 1) := by decide +kernel
theorem dX4_setWeight_35 : decode cX4_setWeight 35 = .ok (.putfield 39, 3) := by decide +kernel
theorem dX4_setWeight_38 : decode cX4_setWeight 38 = .ok (.iload_n 2, 1) := by decide +kernel
theorem dX4_setWeight_39 : decode cX4_setWeight 39 = .ok (.ireturn, 1) := by decide +kernel
theorem dX4_isPoint_0 : decode cX4_isPoint 0 = .ok (.aload_n 0, 1) := by decide +kernel
theorem dX4_isPoint_1 : decode cX4_isPoint 1 = .ok (.iload_n 1, 1) := by decide +kernel
theorem dX4_isPoint_2 : decode cX4_isPoint 2 = .ok (.invokevirtual 121, 3) := by decide +kernel
theorem dX4_isPoint_5 : decode cX4_isPoint 5 = .ok (.ifCond .ne 5, 3) := by decide +kernel
theorem dX4_isPoint_8 : decode cX4_isPoint 8 = .ok (.iconst 0, 1) := by decide +kernel
theorem dX4_isPoint_9 : decode cX4_isPoint 9 = .ok (.ireturn, 1) := by decide +kernel
theorem dX4_isPoint_10 : decode cX4_isPoint 10 = .ok (.aload_n 0, 1) := by decide +kernel
theorem dX4_isPoint_11 : decode cX4_isPoint 11 = .ok (.aload_n 0, 1) := by decide +kernel
theorem dX4_isPoint_12 : decode cX4_isPoint 12 = .ok (.getfield 20, 3) := by decide +kernel
theorem dX4_isPoint_15 : decode cX4_isPoint 15 = .ok (.iload_n 1, 1) := by decide +kernel
theorem dX4_isPoint_16 : decode cX4_isPoint 16 = .ok (.iaload, 1) := by decide +kernel
theorem dX4_isPoint_17 : decode cX4_isPoint 17 = .ok (.ifCond .le 7, 3) := by decide +kernel
theorem dX4_isPoint_20 : decode cX4_isPoint 20 = .ok (.iconst 2, 1) := by decide +kernel
theorem dX4_isPoint_21 : decode cX4_isPoint 21 = .ok (.goto 4, 3) := by decide +kernel
theorem dX4_isPoint_24 : decode cX4_isPoint 24 = .ok (.iconst 0, 1) := by decide +kernel
theorem dX4_isPoint_25 : decode cX4_isPoint 25 = .ok (.putfield 48, 3) := by decide +kernel
theorem dX4_isPoint_28 : decode cX4_isPoint 28 = .ok (.aload_n 0, 1) := by decide +kernel
theorem dX4_isPoint_29 : decode cX4_isPoint 29 = .ok (.getfield 48, 3) := by decide +kernel
theorem dX4_isPoint_32 : decode cX4_isPoint 32 = .ok (.ifCond .ne 22, 3) := by decide +kernel
theorem dX4_isPoint_35 : decode cX4_isPoint 35 = .ok (.aload_n 0, 1) := by decide +kernel
theorem dX4_isPoint_36 : decode cX4_isPoint 36 = .ok (.aload_n 0, 1) := by decide +kernel
theorem dX4_isPoint_37 : decode cX4_isPoint 37 = .ok (.iload_n 1, 1) := by decide +kernel
theorem dX4_isPoint_38 : decode cX4_isPoint 38 = .ok (.invokevirtual 79, 3) := by decide +kernel
theorem dX4_isPoint_41 : decode cX4_isPoint 41 = .ok (.invokevirtual 117, 3) := by decide +kernel
theorem dX4_isPoint_44 : decode cX4_isPoint 44 = .ok (.aload_n 0, 1) := by decide +kernel
theorem dX4_isPoint_45 : decode cX4_isPoint 45 = .ok (.aload_n 0, 1) := by decide +kernel
theorem dX4_isPoint_46 : decode cX4_isPoint 46 = .ok (.iload_n 1, 1) := by decide +kernel
theorem dX4_isPoint_47 : decode cX4_isPoint 47 = .ok (.invokevirtual 79, 3) := by decide +kernel
theorem dX4_isPoint_50 : decode cX4_isPoint 50 = .ok (.iload_n 1, 1) := by decide +kernel
theorem dX4_isPoint_51 : decode cX4_isPoint 51 = .ok (.invokevirtual 89, 3) := by decide +kernel
theorem dX4_isPoint_54 : decode cX4_isPoint 54 = .ok (.aload_n 0, 1) := by decide +kernel
theorem dX4_isPoint_55 : decode cX4_isPoint 55 = .ok (.getfield 48, 3) := by decide +kernel
theorem dX4_isPoint_58 : decode cX4_isPoint 58 = .ok (.ifCond .ne 7, 3) := by decide +kernel
theorem dX4_isPoint_61 : decode cX4_isPoint 61 = .ok (.iconst 1, 1) := by decide +kernel
theorem dX4_isPoint_62 : decode cX4_isPoint 62 = .ok (.goto 4, 3) := by decide +kernel
theorem dX4_isPoint_65 : decode cX4_isPoint 65 = .ok (.iconst 0, 1) := by decide +kernel
theorem dX4_isPoint_66 : decode cX4_isPoint 66 = .ok (.ireturn, 1) := by decide +kernel
theorem dX4_weighted_0 : decode cX4_weighted 0 = .ok (.aload_n 0, 1) := by decide +kernel
theorem dX4_weighted_1 : decode cX4_weighted 1 = .ok (.iload_n 1, 1) := by decide +kernel
theorem dX4_weighted_2 : decode cX4_weighted 2 = .ok (.invokevirtual 160, 3) := by decide +kernel
theorem dX4_weighted_5 : decode cX4_weighted 5 = .ok (.ifCond .ne 5, 3) := by decide +kernel
theorem dX4_weighted_8 : decode cX4_weighted 8 = .ok (.iconst 0, 1) := by decide +kernel
theorem dX4_weighted_9 : decode cX4_weighted 9 = .ok (.ireturn, 1) := by decide +kernel
theorem dX4_weighted_10 : decode cX4_weighted 10 = .ok (.aload_n 0, 1) := by decide +kernel
theorem dX4_weighted_11 : decode cX4_weighted 11 = .ok (.getfield 97, 3) := by decide +kernel
theorem dX4_weighted_14 : decode cX4_weighted 14 = .ok (.i2l, 1) := by decide +kernel
theorem dX4_weighted_15 : decode cX4_weighted 15 = .ok (.lstore_n 2, 1) := by decide +kernel
theorem dX4_weighted_16 : decode cX4_weighted 16 = .ok (.iconst 0, 1) := by decide +kernel
theorem dX4_weighted_17 : decode cX4_weighted 17 = .ok (.istore 4, 2) := by decide +kernel
theorem dX4_weighted_19 : decode cX4_weighted 19 = .ok (.iload 4, 2) := by decide +kernel
theorem dX4_weighted_21 : decode cX4_weighted 21 = .ok (.aload_n 0, 1) := by decide +kernel
theorem dX4_weighted_22 : decode cX4_weighted 22 = .ok (.getfield 76, 3) := by decide +kernel
theorem dX4_weighted_25 : decode cX4_weighted 25 = .ok (.if_icmp .ge 34, 3) := by decide +kernel
theorem dX4_weighted_28 : decode cX4_weighted 28 = .ok (.lload_n 2, 1) := by decide +kernel
theorem dX4_weighted_29 : decode cX4_weighted 29 = .ok (.aload_n 0, 1) := by decide +kernel
theorem dX4_weighted_30 : decode cX4_weighted 30 = .ok (.getfield 39, 3) := by decide +kernel
theorem dX4_weighted_33 : decode cX4_weighted 33 = .ok (.i2l, 1) := by decide +kernel
theorem dX4_weighted_34 : decode cX4_weighted 34 = .ok (.aload_n 0, 1) := by decide +kernel
theorem dX4_weighted_35 : decode cX4_weighted 35 = .ok (.getfield 45, 3) := by decide +kernel
theorem dX4_weighted_38 : decode cX4_weighted 38 = .ok (.iload 4, 2) := by decide +kernel
theorem dX4_weighted_40 : decode cX4_weighted 40 = .ok (.iaload, 1) := by decide +kernel
theorem dX4_weighted_41 : decode cX4_weighted 41 = .ok (.i2l, 1) := by decide +kernel
theorem dX4_weighted_42 : decode cX4_weighted 42 = .ok (.lload_n 2, 1) := by decide +kernel
theorem dX4_weighted_43 : decode cX4_weighted 43 = .ok (.lsub, 1) := by decide +kernel
theorem dX4_weighted_44 : decode cX4_weighted 44 = .ok (.lmul, 1) := by decide +kernel
theorem dX4_weighted_45 : decode cX4_weighted 45 = .ok (.ldc2_w 163, 3) := by decide +kernel
theorem dX4_weighted_48 : decode cX4_weighted 48 = .ok (.invokestatic 53, 3) := by decide +kernel
theorem dX4_weighted_51 : decode cX4_weighted 51 = .ok (.ladd, 1) := by decide +kernel
theorem dX4_weighted_52 : decode cX4_weighted 52 = .ok (.lstore_n 2, 1) := by decide +kernel
theorem dX4_weighted_53 : decode cX4_weighted 53 = .ok (.iinc 4 1, 3) := by decide +kernel
theorem dX4_weighted_56 : decode cX4_weighted 56 = .ok (.goto (-37), 3) := by decide +kernel
theorem dX4_weighted_59 : decode cX4_weighted 59 = .ok (.lload_n 2, 1) := by decide +kernel
theorem dX4_weighted_60 : decode cX4_weighted 60 = .ok (.l2i, 1) := by decide +kernel
theorem dX4_weighted_61 : decode cX4_weighted 61 = .ok (.ireturn, 1) := by decide +kernel
theorem dX4_cumulative_0 : decode cX4_cumulative 0 = .ok (.aload_n 0, 1) := by decide +kernel
theorem dX4_cumulative_1 : decode cX4_cumulative 1 = .ok (.iload_n 1, 1) := by decide +kernel
theorem dX4_cumulative_2 : decode cX4_cumulative 2 = .ok (.invokevirtual 160, 3) := by decide +kernel
theorem dX4_cumulative_5 : decode cX4_cumulative 5 = .ok (.ifCond .ne 5, 3) := by decide +kernel
theorem dX4_cumulative_8 : decode cX4_cumulative 8 = .ok (.iconst 0, 1) := by decide +kernel
theorem dX4_cumulative_9 : decode cX4_cumulative 9 = .ok (.ireturn, 1) := by decide +kernel
theorem dX4_cumulative_10 : decode cX4_cumulative 10 = .ok (.aload_n 0, 1) := by decide +kernel
theorem dX4_cumulative_11 : decode cX4_cumulative 11 = .ok (.getfield 107, 3) := by decide +kernel
theorem dX4_cumulative_14 : decode cX4_cumulative 14 = .ok (.iconst 3, 1) := by decide +kernel
theorem dX4_cumulative_15 : decode cX4_cumulative 15 = .ok (.idiv, 1) := by decide +kernel
theorem dX4_cumulative_16 : decode cX4_cumulative 16 = .ok (.iconst 2, 1) := by decide +kernel
theorem dX4_cumulative_17 : decode cX4_cumulative 17 = .ok (.idiv, 1) := by decide +kernel
theorem dX4_cumulative_18 : decode cX4_cumulative 18 = .ok (.istore_n 3, 1) := by decide +kernel
theorem dX4_cumulative_19 : decode cX4_cumulative 19 = .ok (.iload_n 2, 1) := by decide +kernel
theorem dX4_cumulative_20 : decode cX4_cumulative 20 = .ok (.ifCond .eq 7, 3) := by decide +kernel
theorem dX4_cumulative_23 : decode cX4_cumulative 23 = .ok (.iconst 1, 1) := by decide +kernel
theorem dX4_cumulative_24 : decode cX4_cumulative 24 = .ok (.goto 4, 3) := by decide +kernel
theorem dX4_cumulative_27 : decode cX4_cumulative 27 = .ok (.iconst (-1), 1) := by decide +kernel
theorem dX4_cumulative_28 : decode cX4_cumulative 28 = .ok (.istore 4, 2) := by decide +kernel
theorem dX4_cumulative_30 : decode cX4_cumulative 30 = .ok (.iconst 0, 1) := by decide +kernel
theorem dX4_cumulative_31 : decode cX4_cumulative 31 = .ok (.istore 5, 2) := by decide +kernel
theorem dX4_cumulative_33 : decode cX4_cumulative 33 = .ok (.iconst 0, 1) := by decide +kernel
theorem dX4_cumulative_34 : decode cX4_cumulative 34 = .ok (.istore 6, 2) := by decide +kernel
theorem dX4_cumulative_36 : decode cX4_cumulative 36 = .ok (.iload 6, 2) := by decide +kernel
theorem dX4_cumulative_38 : decode cX4_cumulative 38 = .ok (.aload_n 0, 1) := by decide +kernel
theorem dX4_cumulative_39 : decode cX4_cumulative 39 = .ok (.getfield 76, 3) := by decide +kernel
theorem dX4_cumulative_42 : decode cX4_cumulative 42 = .ok (.if_icmp .ge 44, 3) := by decide +kernel
theorem dX4_cumulative_45 : decode cX4_cumulative 45 = .ok (.iload 5, 2) := by decide +kernel
theorem dX4_cumulative_47 : decode cX4_cumulative 47 = .ok (.aload_n 0, 1) := by decide +kernel
theorem dX4_cumulative_48 : decode cX4_cumulative 48 = .ok (.getfield 45, 3) := by decide +kernel
theorem dX4_cumulative_51 : decode cX4_cumulative 51 = .ok (.iload 6, 2) := by decide +kernel
theorem dX4_cumulative_53 : decode cX4_cumulative 53 = .ok (.iaload, 1) := by decide +kernel
theorem dX4_cumulative_54 : decode cX4_cumulative 54 = .ok (.aload_n 0, 1) := by decide +kernel
theorem dX4_cumulative_55 : decode cX4_cumulative 55 = .ok (.getfield 97, 3) := by decide +kernel
theorem dX4_cumulative_58 : decode cX4_cumulative 58 = .ok (.isub, 1) := by decide +kernel
theorem dX4_cumulative_59 : decode cX4_cumulative 59 = .ok (.iload 4, 2) := by decide +kernel
theorem dX4_cumulative_61 : decode cX4_cumulative 61 = .ok (.imul, 1) := by decide +kernel
theorem dX4_cumulative_62 : decode cX4_cumulative 62 = .ok (.iload_n 3, 1) := by decide +kernel
theorem dX4_cumulative_63 : decode cX4_cumulative 63 = .ok (.isub, 1) := by decide +kernel
theorem dX4_cumulative_64 : decode cX4_cumulative 64 = .ok (.iadd, 1) := by decide +kernel
theorem dX4_cumulative_65 : decode cX4_cumulative 65 = .ok (.istore 5, 2) := by decide +kernel
theorem dX4_cumulative_67 : decode cX4_cumulative 67 = .ok (.iload 5, 2) := by decide +kernel
theorem dX4_cumulative_69 : decode cX4_cumulative 69 = .ok (.ifCond .le 8, 3) := by decide +kernel
theorem dX4_cumulative_72 : decode cX4_cumulative 72 = .ok (.iload 5, 2) := by decide +kernel
theorem dX4_cumulative_74 : decode cX4_cumulative 74 = .ok (.goto 4, 3) := by decide +kernel
theorem dX4_cumulative_77 : decode cX4_cumulative 77 = .ok (.iconst 0, 1) := by decide +kernel
theorem dX4_cumulative_78 : decode cX4_cumulative 78 = .ok (.istore 5, 2) := by decide +kernel
theorem dX4_cumulative_80 : decode cX4_cumulative 80 = .ok (.iinc 6 1, 3) := by decide +kernel
theorem dX4_cumulative_83 : decode cX4_cumulative 83 = .ok (.goto (-47), 3) := by decide +kernel
theorem dX4_cumulative_86 : decode cX4_cumulative 86 = .ok (.iload 5, 2) := by decide +kernel
theorem dX4_cumulative_88 : decode cX4_cumulative 88 = .ok (.ireturn, 1) := by decide +kernel
theorem dX4_capability_0 : decode cX4_capability 0 = .ok (.aload_n 0, 1) := by decide +kernel
theorem dX4_capability_1 : decode cX4_capability 1 = .ok (.iload_n 1, 1) := by decide +kernel
theorem dX4_capability_2 : decode cX4_capability 2 = .ok (.invokevirtual 113, 3) := by decide +kernel
theorem dX4_capability_5 : decode cX4_capability 5 = .ok (.ifCond .ne 5, 3) := by decide +kernel
theorem dX4_capability_8 : decode cX4_capability 8 = .ok (.lconst 0, 1) := by decide +kernel
theorem dX4_capability_9 : decode cX4_capability 9 = .ok (.lreturn, 1) := by decide +kernel
theorem dX4_capability_10 : decode cX4_capability 10 = .ok (.aload_n 0, 1) := by decide +kernel
theorem dX4_capability_11 : decode cX4_capability 11 = .ok (.iload_n 2, 1) := by decide +kernel
theorem dX4_capability_12 : decode cX4_capability 12 = .ok (.sipush (-9999), 3) := by decide +kernel
theorem dX4_capability_15 : decode cX4_capability 15 = .ok (.sipush 9999, 3) := by decide +kernel
theorem dX4_capability_18 : decode cX4_capability 18 = .ok (.invokestatic 57, 3) := by decide +kernel
theorem dX4_capability_21 : decode cX4_capability 21 = .ok (.ifCond .eq 18, 3) := by decide +kernel
theorem dX4_capability_24 : decode cX4_capability 24 = .ok (.iload_n 3, 1) := by decide +kernel
theorem dX4_capability_25 : decode cX4_capability 25 = .ok (.iload_n 2, 1) := by decide +kernel
theorem dX4_capability_26 : decode cX4_capability 26 = .ok (.sipush 9999, 3) := by decide +kernel
theorem dX4_capability_29 : decode cX4_capability 29 = .ok (.invokestatic 57, 3) := by decide +kernel
theorem dX4_capability_32 : decode cX4_capability 32 = .ok (.ifCond .eq 7, 3) := by decide +kernel
theorem dX4_capability_35 : decode cX4_capability 35 = .ok (.iconst 0, 1) := by decide +kernel
theorem dX4_capability_36 : decode cX4_capability 36 = .ok (.goto 4, 3) := by decide +kernel
theorem dX4_capability_39 : decode cX4_capability 39 = .ok (.iconst 2, 1) := by decide +kernel
theorem dX4_capability_40 : decode cX4_capability 40 = .ok (.putfield 48, 3) := by decide +kernel
theorem dX4_capability_43 : decode cX4_capability 43 = .ok (.aload_n 0, 1) := by decide +kernel
theorem dX4_capability_44 : decode cX4_capability 44 = .ok (.getfield 48, 3) := by decide +kernel
theorem dX4_capability_47 : decode cX4_capability 47 = .ok (.ifCond .le 5, 3) := by decide +kernel
theorem dX4_capability_50 : decode cX4_capability 50 = .ok (.lconst 0, 1) := by decide +kernel
theorem dX4_capability_51 : decode cX4_capability 51 = .ok (.lreturn, 1) := by decide +kernel
theorem dX4_capability_52 : decode cX4_capability 52 = .ok (.aload_n 0, 1) := by decide +kernel
theorem dX4_capability_53 : decode cX4_capability 53 = .ok (.iload_n 1, 1) := by decide +kernel
theorem dX4_capability_54 : decode cX4_capability 54 = .ok (.invokevirtual 117, 3) := by decide +kernel
theorem dX4_capability_57 : decode cX4_capability 57 = .ok (.aload_n 0, 1) := by decide +kernel
theorem dX4_capability_58 : decode cX4_capability 58 = .ok (.getfield 93, 3) := by decide +kernel
theorem dX4_capability_61 : decode cX4_capability 61 = .ok (.ifCond .eq 39, 3) := by decide +kernel
theorem dX4_capability_64 : decode cX4_capability 64 = .ok (.ldc2_w 83, 3) := by decide +kernel
theorem dX4_capability_67 : decode cX4_capability 67 = .ok (.aload_n 0, 1) := by decide +kernel
theorem dX4_capability_68 : decode cX4_capability 68 = .ok (.getfield 100, 3) := by decide +kernel
theorem dX4_capability_71 : decode cX4_capability 71 = .ok (.i2l, 1) := by decide +kernel
theorem dX4_capability_72 : decode cX4_capability 72 = .ok (.lmul, 1) := by decide +kernel
theorem dX4_capability_73 : decode cX4_capability 73 = .ok (.aload_n 0, 1) := by decide +kernel
theorem dX4_capability_74 : decode cX4_capability 74 = .ok (.getfield 7, 3) := by decide +kernel
theorem dX4_capability_77 : decode cX4_capability 77 = .ok (.sipush 1128, 3) := by decide +kernel
theorem dX4_capability_80 : decode cX4_capability 80 = .ok (.sipush 1693, 3) := by decide +kernel
theorem dX4_capability_83 : decode cX4_capability 83 = .ok (.sipush 2059, 3) := by decide +kernel
theorem dX4_capability_86 : decode cX4_capability 86 = .ok (.sipush 2326, 3) := by decide +kernel
theorem dX4_capability_89 : decode cX4_capability 89 = .ok (.sipush 2534, 3) := by decide +kernel
theorem dX4_capability_92 : decode cX4_capability 92 = .ok (.invokestatic 103, 3) := by decide +kernel
theorem dX4_capability_95 : decode cX4_capability 95 = .ok (.i2l, 1) := by decide +kernel
theorem dX4_capability_96 : decode cX4_capability 96 = .ok (.ldiv, 1) := by decide +kernel
theorem dX4_capability_97 : decode cX4_capability 97 = .ok (.goto 4, 3) := by decide +kernel
theorem dX4_capability_100 : decode cX4_capability 100 = .ok (.lconst 0, 1) := by decide +kernel
theorem dX4_capability_101 : decode cX4_capability 101 = .ok (.lstore 5, 2) := by decide +kernel
theorem dX4_capability_103 : decode cX4_capability 103 = .ok (.aload_n 0, 1) := by decide +kernel
theorem dX4_capability_104 : decode cX4_capability 104 = .ok (.lload 5, 2) := by decide +kernel
theorem dX4_capability_106 : decode cX4_capability 106 = .ok (.lconst 0, 1) := by decide +kernel
theorem dX4_capability_107 : decode cX4_capability 107 = .ok (.lcmp, 1) := by decide +kernel
theorem dX4_capability_108 : decode cX4_capability 108 = .ok (.ifCond .ne 7, 3) := by decide +kernel
theorem dX4_capability_111 : decode cX4_capability 111 = .ok (.iconst 3, 1) := by decide +kernel
theorem dX4_capability_112 : decode cX4_capability 112 = .ok (.goto 4, 3) := by decide +kernel
theorem dX4_capability_115 : decode cX4_capability 115 = .ok (.iconst 0, 1) := by decide +kernel
theorem dX4_capability_116 : decode cX4_capability 116 = .ok (.putfield 48, 3) := by decide +kernel
theorem dX4_capability_119 : decode cX4_capability 119 = .ok (.aload_n 0, 1) := by decide +kernel
theorem dX4_capability_120 : decode cX4_capability 120 = .ok (.getfield 48, 3) := by decide +kernel
theorem dX4_capability_123 : decode cX4_capability 123 = .ok (.ifCond .le 5, 3) := by decide +kernel
theorem dX4_capability_126 : decode cX4_capability 126 = .ok (.lconst 0, 1) := by decide +kernel
theorem dX4_capability_127 : decode cX4_capability 127 = .ok (.lreturn, 1) := by decide +kernel
theorem dX4_capability_128 : decode cX4_capability 128 = .ok (.ldc2_w 83, 3) := by decide +kernel
theorem dX4_capability_131 : decode cX4_capability 131 = .ok (.iload_n 3, 1) := by decide +kernel
theorem dX4_capability_132 : decode cX4_capability 132 = .ok (.i2l, 1) := by decide +kernel
theorem dX4_capability_133 : decode cX4_capability 133 = .ok (.lmul, 1) := by decide +kernel
theorem dX4_capability_134 : decode cX4_capability 134 = .ok (.aload_n 0, 1) := by decide +kernel
theorem dX4_capability_135 : decode cX4_capability 135 = .ok (.getfield 97, 3) := by decide +kernel
theorem dX4_capability_138 : decode cX4_capability 138 = .ok (.i2l, 1) := by decide +kernel
theorem dX4_capability_139 : decode cX4_capability 139 = .ok (.lsub, 1) := by decide +kernel
theorem dX4_capability_140 : decode cX4_capability 140 = .ok (.lstore 7, 2) := by decide +kernel
theorem dX4_capability_142 : decode cX4_capability 142 = .ok (.aload_n 0, 1) := by decide +kernel
theorem dX4_capability_143 : decode cX4_capability 143 = .ok (.getfield 97, 3) := by decide +kernel
theorem dX4_capability_146 : decode cX4_capability 146 = .ok (.i2l, 1) := by decide +kernel
theorem dX4_capability_147 : decode cX4_capability 147 = .ok (.ldc2_w 83, 3) := by decide +kernel
theorem dX4_capability_150 : decode cX4_capability 150 = .ok (.iload_n 2, 1) := by decide +kernel
theorem dX4_capability_151 : decode cX4_capability 151 = .ok (.i2l, 1) := by decide +kernel
theorem dX4_capability_152 : decode cX4_capability 152 = .ok (.lmul, 1) := by decide +kernel
theorem dX4_capability_153 : decode cX4_capability 153 = .ok (.lsub, 1) := by decide +kernel
theorem dX4_capability_154 : decode cX4_capability 154 = .ok (.lstore 9, 2) := by decide +kernel
theorem dX4_capability_156 : decode cX4_capability 156 = .ok (.lload 7, 2) := by decide +kernel
theorem dX4_capability_158 : decode cX4_capability 158 = .ok (.lload 9, 2) := by decide +kernel
theorem dX4_capability_160 : decode cX4_capability 160 = .ok (.lcmp, 1) := by decide +kernel
theorem dX4_capability_161 : decode cX4_capability 161 = .ok (.ifCond .ge 8, 3) := by decide +kernel
theorem dX4_capability_164 : decode cX4_capability 164 = .ok (.lload 7, 2) := by decide +kernel
theorem dX4_capability_166 : decode cX4_capability 166 = .ok (.goto 5, 3) := by decide +kernel
theorem dX4_capability_169 : decode cX4_capability 169 = .ok (.lload 9, 2) := by decide +kernel
theorem dX4_capability_171 : decode cX4_capability 171 = .ok (.lstore 11, 2) := by decide +kernel
theorem dX4_capability_173 : decode cX4_capability 173 = .ok (.iload 4, 2) := by decide +kernel
theorem dX4_capability_175 : decode cX4_capability 175 = .ok (.ifCond .eq 21, 3) := by decide +kernel
theorem dX4_capability_178 : decode cX4_capability 178 = .ok (.ldc2_w 83, 3) := by decide +kernel
theorem dX4_capability_181 : decode cX4_capability 181 = .ok (.lload 11, 2) := by decide +kernel
theorem dX4_capability_183 : decode cX4_capability 183 = .ok (.lmul, 1) := by decide +kernel
theorem dX4_capability_184 : decode cX4_capability 184 = .ok (.ldc2_w 127, 3) := by decide +kernel
theorem dX4_capability_187 : decode cX4_capability 187 = .ok (.lload 5, 2) := by decide +kernel
theorem dX4_capability_189 : decode cX4_capability 189 = .ok (.lmul, 1) := by decide +kernel
theorem dX4_capability_190 : decode cX4_capability 190 = .ok (.invokestatic 53, 3) := by decide +kernel
theorem dX4_capability_193 : decode cX4_capability 193 = .ok (.goto 27, 3) := by decide +kernel
theorem dX4_capability_196 : decode cX4_capability 196 = .ok (.ldc2_w 83, 3) := by decide +kernel
theorem dX4_capability_199 : decode cX4_capability 199 = .ok (.ldc2_w 83, 3) := by decide +kernel
theorem dX4_capability_202 : decode cX4_capability 202 = .ok (.iload_n 3, 1) := by decide +kernel
theorem dX4_capability_203 : decode cX4_capability 203 = .ok (.i2l, 1) := by decide +kernel
theorem dX4_capability_204 : decode cX4_capability 204 = .ok (.lmul, 1) := by decide +kernel
theorem dX4_capability_205 : decode cX4_capability 205 = .ok (.ldc2_w 83, 3) := by decide +kernel
theorem dX4_capability_208 : decode cX4_capability 208 = .ok (.iload_n 2, 1) := by decide +kernel
theorem dX4_capability_209 : decode cX4_capability 209 = .ok (.i2l, 1) := by decide +kernel
theorem dX4_capability_210 : decode cX4_capability 210 = .ok (.lmul, 1) := by decide +kernel
theorem dX4_capability_211 : decode cX4_capability 211 = .ok (.lsub, 1) := by decide +kernel
theorem dX4_capability_212 : decode cX4_capability 212 = .ok (.lmul, 1) := by decide +kernel
theorem dX4_capability_213 : decode cX4_capability 213 = .ok (.ldc2_w 165, 3) := by decide +kernel
theorem dX4_capability_216 : decode cX4_capability 216 = .ok (.lload 5, 2) := by decide +kernel
theorem dX4_capability_218 : decode cX4_capability 218 = .ok (.lmul, 1) := by decide +kernel
theorem dX4_capability_219 : decode cX4_capability 219 = .ok (.ldiv, 1) := by decide +kernel
theorem dX4_capability_220 : decode cX4_capability 220 = .ok (.lreturn, 1) := by decide +kernel
end
section
theorem dL_begin_0 : decode cL_begin 0 = .ok (.aload_n 0, 1) := by decide +kernel
theorem dL_begin_1 : decode cL_begin 1 = .ok (.iload_n 1, 1) := by decide +kernel
theorem dL_begin_2 : decode cL_begin 2 = .ok (.invokevirtual 7, 3) := by decide +kernel
theorem dL_begin_5 : decode cL_begin 5 = .ok (.goto 6, 3) := by decide +kernel
theorem dL_begin_8 : decode cL_begin 8 = .ok (.astore_n 2, 1) := by decide +kernel
theorem dL_begin_9 : decode cL_begin 9 = .ok (.iconst 1, 1) := by decide +kernel
theorem dL_begin_10 : decode cL_begin 10 = .ok (.ireturn, 1) := by decide +kernel
theorem dL_begin_11 : decode cL_begin 11 = .ok (.iconst 0, 1) := by decide +kernel
theorem dL_begin_12 : decode cL_begin 12 = .ok (.ireturn, 1) := by decide +kernel
theorem dL_put_0 : decode cL_put 0 = .ok (.aload_n 2, 1) := by decide +kernel
theorem dL_put_1 : decode cL_put 1 = .ok (.iconst 0, 1) := by decide +kernel
theorem dL_put_2 : decode cL_put 2 = .ok (.aload_n 0, 1) := by decide +kernel
theorem dL_put_3 : decode cL_put 3 = .ok (.iload_n 1, 1) := by decide +kernel
theorem dL_put_4 : decode cL_put 4 = .ok (.invokevirtual 15, 3) := by decide +kernel
theorem dL_put_7 : decode cL_put 7 = .ok (.ifCond .eq 7, 3) := by decide +kernel
theorem dL_put_10 : decode cL_put 10 = .ok (.lconst 1, 1) := by decide +kernel
theorem dL_put_11 : decode cL_put 11 = .ok (.goto 4, 3) := by decide +kernel
theorem dL_put_14 : decode cL_put 14 = .ok (.lconst 0, 1) := by decide +kernel
theorem dL_put_15 : decode cL_put 15 = .ok (.lastore, 1) := by decide +kernel
theorem dL_put_16 : decode cL_put 16 = .ok (.goto 9, 3) := by decide +kernel
theorem dL_put_19 : decode cL_put 19 = .ok (.astore_n 3, 1) := by decide +kernel
theorem dL_put_20 : decode cL_put 20 = .ok (.iconst 1, 1) := by decide +kernel
theorem dL_put_21 : decode cL_put 21 = .ok (.ireturn, 1) := by decide +kernel
theorem dL_put_22 : decode cL_put 22 = .ok (.astore_n 3, 1) := by decide +kernel
theorem dL_put_23 : decode cL_put 23 = .ok (.iconst 2, 1) := by decide +kernel
theorem dL_put_24 : decode cL_put 24 = .ok (.ireturn, 1) := by decide +kernel
theorem dL_put_25 : decode cL_put 25 = .ok (.iconst 0, 1) := by decide +kernel
theorem dL_put_26 : decode cL_put 26 = .ok (.ireturn, 1) := by decide +kernel
theorem dL_newPhase_0 : decode cL_newPhase 0 = .ok (.aload_n 1, 1) := by decide +kernel
theorem dL_newPhase_1 : decode cL_newPhase 1 = .ok (.iconst 0, 1) := by decide +kernel
theorem dL_newPhase_2 : decode cL_newPhase 2 = .ok (.aload_n 0, 1) := by decide +kernel
theorem dL_newPhase_3 : decode cL_newPhase 3 = .ok (.invokevirtual 21, 3) := by decide +kernel
theorem dL_newPhase_6 : decode cL_newPhase 6 = .ok (.i2l, 1) := by decide +kernel
theorem dL_newPhase_7 : decode cL_newPhase 7 = .ok (.lastore, 1) := by decide +kernel
theorem dL_newPhase_8 : decode cL_newPhase 8 = .ok (.goto 6, 3) := by decide +kernel
theorem dL_newPhase_11 : decode cL_newPhase 11 = .ok (.astore_n 2, 1) := by decide +kernel
theorem dL_newPhase_12 : decode cL_newPhase 12 = .ok (.iconst 1, 1) := by decide +kernel
theorem dL_newPhase_13 : decode cL_newPhase 13 = .ok (.ireturn, 1) := by decide +kernel
theorem dL_newPhase_14 : decode cL_newPhase 14 = .ok (.iconst 0, 1) := by decide +kernel
theorem dL_newPhase_15 : decode cL_newPhase 15 = .ok (.ireturn, 1) := by decide +kernel
theorem dL_freeze_0 : decode cL_freeze 0 = .ok (.aload_n 0, 1) := by decide +kernel
theorem dL_freeze_1 : decode cL_freeze 1 = .ok (.iload_n 1, 1) := by decide +kernel
theorem dL_freeze_2 : decode cL_freeze 2 = .ok (.invokevirtual 25, 3) := by decide +kernel
theorem dL_freeze_5 : decode cL_freeze 5 = .ok (.goto 9, 3) := by decide +kernel
theorem dL_freeze_8 : decode cL_freeze 8 = .ok (.astore_n 2, 1) := by decide +kernel
theorem dL_freeze_9 : decode cL_freeze 9 = .ok (.iconst 1, 1) := by decide +kernel
theorem dL_freeze_10 : decode cL_freeze 10 = .ok (.ireturn, 1) := by decide +kernel
theorem dL_freeze_11 : decode cL_freeze 11 = .ok (.astore_n 2, 1) := by decide +kernel
theorem dL_freeze_12 : decode cL_freeze 12 = .ok (.iconst 2, 1) := by decide +kernel
theorem dL_freeze_13 : decode cL_freeze 13 = .ok (.ireturn, 1) := by decide +kernel
theorem dL_freeze_14 : decode cL_freeze 14 = .ok (.iconst 0, 1) := by decide +kernel
theorem dL_freeze_15 : decode cL_freeze 15 = .ok (.ireturn, 1) := by decide +kernel
theorem dL_thaw_0 : decode cL_thaw 0 = .ok (.aload_n 0, 1) := by decide +kernel
theorem dL_thaw_1 : decode cL_thaw 1 = .ok (.iload_n 1, 1) := by decide +kernel
theorem dL_thaw_2 : decode cL_thaw 2 = .ok (.invokevirtual 30, 3) := by decide +kernel
theorem dL_thaw_5 : decode cL_thaw 5 = .ok (.goto 9, 3) := by decide +kernel
theorem dL_thaw_8 : decode cL_thaw 8 = .ok (.astore_n 2, 1) := by decide +kernel
theorem dL_thaw_9 : decode cL_thaw 9 = .ok (.iconst 1, 1) := by decide +kernel
theorem dL_thaw_10 : decode cL_thaw 10 = .ok (.ireturn, 1) := by decide +kernel
theorem dL_thaw_11 : decode cL_thaw 11 = .ok (.astore_n 2, 1) := by decide +kernel
theorem dL_thaw_12 : decode cL_thaw 12 = .ok (.iconst 2, 1) := by decide +kernel
theorem dL_thaw_13 : decode cL_thaw 13 = .ok (.ireturn, 1) := by decide +kernel
theorem dL_thaw_14 : decode cL_thaw 14 = .ok (.iconst 0, 1) := by decide +kernel
theorem dL_thaw_15 : decode cL_thaw 15 = .ok (.ireturn, 1) := by decide +kernel
theorem dL_exclude_0 : decode cL_exclude 0 = .ok (.aload_n 3, 1) := by decide +kernel
theorem dL_exclude_1 : decode cL_exclude 1 = .ok (.iconst 0, 1) := by decide +kernel
theorem dL_exclude_2 : decode cL_exclude 2 = .ok (.aload_n 0, 1) := by decide +kernel
theorem dL_exclude_3 : decode cL_exclude 3 = .ok (.iload_n 1, 1) := by decide +kernel
theorem dL_exclude_4 : decode cL_exclude 4 = .ok (.iload_n 2, 1) := by decide +kernel
theorem dL_exclude_5 : decode cL_exclude 5 = .ok (.invokevirtual 33, 3) := by decide +kernel
theorem dL_exclude_8 : decode cL_exclude 8 = .ok (.i2l, 1) := by decide +kernel
theorem dL_exclude_9 : decode cL_exclude 9 = .ok (.lastore, 1) := by decide +kernel
theorem dL_exclude_10 : decode cL_exclude 10 = .ok (.goto 11, 3) := by decide +kernel
theorem dL_exclude_13 : decode cL_exclude 13 = .ok (.astore 4, 2) := by decide +kernel
theorem dL_exclude_15 : decode cL_exclude 15 = .ok (.iconst 1, 1) := by decide +kernel
theorem dL_exclude_16 : decode cL_exclude 16 = .ok (.ireturn, 1) := by decide +kernel
theorem dL_exclude_17 : decode cL_exclude 17 = .ok (.astore 4, 2) := by decide +kernel
theorem dL_exclude_19 : decode cL_exclude 19 = .ok (.iconst 2, 1) := by decide +kernel
theorem dL_exclude_20 : decode cL_exclude 20 = .ok (.ireturn, 1) := by decide +kernel
theorem dL_exclude_21 : decode cL_exclude 21 = .ok (.iconst 0, 1) := by decide +kernel
theorem dL_exclude_22 : decode cL_exclude 22 = .ok (.ireturn, 1) := by decide +kernel
theorem dL_mean_0 : decode cL_mean 0 = .ok (.aload_n 2, 1) := by decide +kernel
theorem dL_mean_1 : decode cL_mean 1 = .ok (.iconst 0, 1) := by decide +kernel
theorem dL_mean_2 : decode cL_mean 2 = .ok (.aload_n 0, 1) := by decide +kernel
theorem dL_mean_3 : decode cL_mean 3 = .ok (.iload_n 1, 1) := by decide +kernel
theorem dL_mean_4 : decode cL_mean 4 = .ok (.invokevirtual 37, 3) := by decide +kernel
theorem dL_mean_7 : decode cL_mean 7 = .ok (.i2l, 1) := by decide +kernel
theorem dL_mean_8 : decode cL_mean 8 = .ok (.lastore, 1) := by decide +kernel
theorem dL_mean_9 : decode cL_mean 9 = .ok (.goto 6, 3) := by decide +kernel
theorem dL_mean_12 : decode cL_mean 12 = .ok (.astore_n 3, 1) := by decide +kernel
theorem dL_mean_13 : decode cL_mean 13 = .ok (.iconst 1, 1) := by decide +kernel
theorem dL_mean_14 : decode cL_mean 14 = .ok (.ireturn, 1) := by decide +kernel
theorem dL_mean_15 : decode cL_mean 15 = .ok (.iconst 0, 1) := by decide +kernel
theorem dL_mean_16 : decode cL_mean 16 = .ok (.ireturn, 1) := by decide +kernel
theorem dL_range_0 : decode cL_range 0 = .ok (.aload_n 2, 1) := by decide +kernel
theorem dL_range_1 : decode cL_range 1 = .ok (.iconst 0, 1) := by decide +kernel
theorem dL_range_2 : decode cL_range 2 = .ok (.aload_n 0, 1) := by decide +kernel
theorem dL_range_3 : decode cL_range 3 = .ok (.iload_n 1, 1) := by decide +kernel
theorem dL_range_4 : decode cL_range 4 = .ok (.invokevirtual 41, 3) := by decide +kernel
theorem dL_range_7 : decode cL_range 7 = .ok (.i2l, 1) := by decide +kernel
theorem dL_range_8 : decode cL_range 8 = .ok (.lastore, 1) := by decide +kernel
theorem dL_range_9 : decode cL_range 9 = .ok (.goto 6, 3) := by decide +kernel
theorem dL_range_12 : decode cL_range 12 = .ok (.astore_n 3, 1) := by decide +kernel
theorem dL_range_13 : decode cL_range 13 = .ok (.iconst 1, 1) := by decide +kernel
theorem dL_range_14 : decode cL_range 14 = .ok (.ireturn, 1) := by decide +kernel
theorem dL_range_15 : decode cL_range 15 = .ok (.iconst 0, 1) := by decide +kernel
theorem dL_range_16 : decode cL_range 16 = .ok (.ireturn, 1) := by decide +kernel
theorem dL_phaseOf_0 : decode cL_phaseOf 0 = .ok (.aload_n 2, 1) := by decide +kernel
theorem dL_phaseOf_1 : decode cL_phaseOf 1 = .ok (.iconst 0, 1) := by decide +kernel
theorem dL_phaseOf_2 : decode cL_phaseOf 2 = .ok (.aload_n 0, 1) := by decide +kernel
theorem dL_phaseOf_3 : decode cL_phaseOf 3 = .ok (.iload_n 1, 1) := by decide +kernel
theorem dL_phaseOf_4 : decode cL_phaseOf 4 = .ok (.invokevirtual 44, 3) := by decide +kernel
theorem dL_phaseOf_7 : decode cL_phaseOf 7 = .ok (.i2l, 1) := by decide +kernel
theorem dL_phaseOf_8 : decode cL_phaseOf 8 = .ok (.lastore, 1) := by decide +kernel
theorem dL_phaseOf_9 : decode cL_phaseOf 9 = .ok (.goto 6, 3) := by decide +kernel
theorem dL_phaseOf_12 : decode cL_phaseOf 12 = .ok (.astore_n 3, 1) := by decide +kernel
theorem dL_phaseOf_13 : decode cL_phaseOf 13 = .ok (.iconst 1, 1) := by decide +kernel
theorem dL_phaseOf_14 : decode cL_phaseOf 14 = .ok (.ireturn, 1) := by decide +kernel
theorem dL_phaseOf_15 : decode cL_phaseOf 15 = .ok (.iconst 0, 1) := by decide +kernel
theorem dL_phaseOf_16 : decode cL_phaseOf 16 = .ok (.ireturn, 1) := by decide +kernel
theorem dL_points_0 : decode cL_points 0 = .ok (.aload_n 2, 1) := by decide +kernel
theorem dL_points_1 : decode cL_points 1 = .ok (.iconst 0, 1) := by decide +kernel
theorem dL_points_2 : decode cL_points 2 = .ok (.aload_n 0, 1) := by decide +kernel
theorem dL_points_3 : decode cL_points 3 = .ok (.iload_n 1, 1) := by decide +kernel
theorem dL_points_4 : decode cL_points 4 = .ok (.invokevirtual 47, 3) := by decide +kernel
theorem dL_points_7 : decode cL_points 7 = .ok (.i2l, 1) := by decide +kernel
theorem dL_points_8 : decode cL_points 8 = .ok (.lastore, 1) := by decide +kernel
theorem dL_points_9 : decode cL_points 9 = .ok (.goto 6, 3) := by decide +kernel
theorem dL_points_12 : decode cL_points 12 = .ok (.astore_n 3, 1) := by decide +kernel
theorem dL_points_13 : decode cL_points 13 = .ok (.iconst 1, 1) := by decide +kernel
theorem dL_points_14 : decode cL_points 14 = .ok (.ireturn, 1) := by decide +kernel
theorem dL_points_15 : decode cL_points 15 = .ok (.iconst 0, 1) := by decide +kernel
theorem dL_points_16 : decode cL_points 16 = .ok (.ireturn, 1) := by decide +kernel
theorem dL_center_0 : decode cL_center 0 = .ok (.aload_n 2, 1) := by decide +kernel
theorem dL_center_1 : decode cL_center 1 = .ok (.iconst 0, 1) := by decide +kernel
theorem dL_center_2 : decode cL_center 2 = .ok (.aload_n 0, 1) := by decide +kernel
theorem dL_center_3 : decode cL_center 3 = .ok (.iload_n 1, 1) := by decide +kernel
theorem dL_center_4 : decode cL_center 4 = .ok (.invokevirtual 50, 3) := by decide +kernel
theorem dL_center_7 : decode cL_center 7 = .ok (.i2l, 1) := by decide +kernel
theorem dL_center_8 : decode cL_center 8 = .ok (.lastore, 1) := by decide +kernel
theorem dL_center_9 : decode cL_center 9 = .ok (.goto 9, 3) := by decide +kernel
theorem dL_center_12 : decode cL_center 12 = .ok (.astore_n 3, 1) := by decide +kernel
theorem dL_center_13 : decode cL_center 13 = .ok (.iconst 1, 1) := by decide +kernel
theorem dL_center_14 : decode cL_center 14 = .ok (.ireturn, 1) := by decide +kernel
theorem dL_center_15 : decode cL_center 15 = .ok (.astore_n 3, 1) := by decide +kernel
theorem dL_center_16 : decode cL_center 16 = .ok (.iconst 2, 1) := by decide +kernel
theorem dL_center_17 : decode cL_center 17 = .ok (.ireturn, 1) := by decide +kernel
theorem dL_center_18 : decode cL_center 18 = .ok (.iconst 0, 1) := by decide +kernel
theorem dL_center_19 : decode cL_center 19 = .ok (.ireturn, 1) := by decide +kernel
theorem dL_width_0 : decode cL_width 0 = .ok (.aload_n 2, 1) := by decide +kernel
theorem dL_width_1 : decode cL_width 1 = .ok (.iconst 0, 1) := by decide +kernel
theorem dL_width_2 : decode cL_width 2 = .ok (.aload_n 0, 1) := by decide +kernel
theorem dL_width_3 : decode cL_width 3 = .ok (.iload_n 1, 1) := by decide +kernel
theorem dL_width_4 : decode cL_width 4 = .ok (.invokevirtual 53, 3) := by decide +kernel
theorem dL_width_7 : decode cL_width 7 = .ok (.i2l, 1) := by decide +kernel
theorem dL_width_8 : decode cL_width 8 = .ok (.lastore, 1) := by decide +kernel
theorem dL_width_9 : decode cL_width 9 = .ok (.goto 9, 3) := by decide +kernel
theorem dL_width_12 : decode cL_width 12 = .ok (.astore_n 3, 1) := by decide +kernel
theorem dL_width_13 : decode cL_width 13 = .ok (.iconst 1, 1) := by decide +kernel
theorem dL_width_14 : decode cL_width 14 = .ok (.ireturn, 1) := by decide +kernel
theorem dL_width_15 : decode cL_width 15 = .ok (.astore_n 3, 1) := by decide +kernel
theorem dL_width_16 : decode cL_width 16 = .ok (.iconst 2, 1) := by decide +kernel
theorem dL_width_17 : decode cL_width 17 = .ok (.ireturn, 1) := by decide +kernel
theorem dL_width_18 : decode cL_width 18 = .ok (.iconst 0, 1) := by decide +kernel
theorem dL_width_19 : decode cL_width 19 = .ok (.ireturn, 1) := by decide +kernel
theorem dL_rangeLimit_0 : decode cL_rangeLimit 0 = .ok (.aload_n 2, 1) := by decide +kernel
theorem dL_rangeLimit_1 : decode cL_rangeLimit 1 = .ok (.iconst 0, 1) := by decide +kernel
theorem dL_rangeLimit_2 : decode cL_rangeLimit 2 = .ok (.aload_n 0, 1) := by decide +kernel
theorem dL_rangeLimit_3 : decode cL_rangeLimit 3 = .ok (.iload_n 1, 1) := by decide +kernel
theorem dL_rangeLimit_4 : decode cL_rangeLimit 4 = .ok (.invokevirtual 56, 3) := by decide +kernel
theorem dL_rangeLimit_7 : decode cL_rangeLimit 7 = .ok (.i2l, 1) := by decide +kernel
theorem dL_rangeLimit_8 : decode cL_rangeLimit 8 = .ok (.lastore, 1) := by decide +kernel
theorem dL_rangeLimit_9 : decode cL_rangeLimit 9 = .ok (.goto 9, 3) := by decide +kernel
theorem dL_rangeLimit_12 : decode cL_rangeLimit 12 = .ok (.astore_n 3, 1) := by decide +kernel
theorem dL_rangeLimit_13 : decode cL_rangeLimit 13 = .ok (.iconst 1, 1) := by decide +kernel
theorem dL_rangeLimit_14 : decode cL_rangeLimit 14 = .ok (.ireturn, 1) := by decide +kernel
theorem dL_rangeLimit_15 : decode cL_rangeLimit 15 = .ok (.astore_n 3, 1) := by decide +kernel
theorem dL_rangeLimit_16 : decode cL_rangeLimit 16 = .ok (.iconst 2, 1) := by decide +kernel
theorem dL_rangeLimit_17 : decode cL_rangeLimit 17 = .ok (.ireturn, 1) := by decide +kernel
theorem dL_rangeLimit_18 : decode cL_rangeLimit 18 = .ok (.iconst 0, 1) := by decide +kernel
theorem dL_rangeLimit_19 : decode cL_rangeLimit 19 = .ok (.ireturn, 1) := by decide +kernel
theorem dL_signals_0 : decode cL_signals 0 = .ok (.aload_n 2, 1) := by decide +kernel
theorem dL_signals_1 : decode cL_signals 1 = .ok (.iconst 0, 1) := by decide +kernel
theorem dL_signals_2 : decode cL_signals 2 = .ok (.aload_n 0, 1) := by decide +kernel
theorem dL_signals_3 : decode cL_signals 3 = .ok (.iload_n 1, 1) := by decide +kernel
theorem dL_signals_4 : decode cL_signals 4 = .ok (.invokevirtual 59, 3) := by decide +kernel
theorem dL_signals_7 : decode cL_signals 7 = .ok (.i2l, 1) := by decide +kernel
theorem dL_signals_8 : decode cL_signals 8 = .ok (.lastore, 1) := by decide +kernel
theorem dL_signals_9 : decode cL_signals 9 = .ok (.goto 6, 3) := by decide +kernel
theorem dL_signals_12 : decode cL_signals 12 = .ok (.astore_n 3, 1) := by decide +kernel
theorem dL_signals_13 : decode cL_signals 13 = .ok (.iconst 1, 1) := by decide +kernel
theorem dL_signals_14 : decode cL_signals 14 = .ok (.ireturn, 1) := by decide +kernel
theorem dL_signals_15 : decode cL_signals 15 = .ok (.iconst 0, 1) := by decide +kernel
theorem dL_signals_16 : decode cL_signals 16 = .ok (.ireturn, 1) := by decide +kernel
theorem dL_signalsByWindows_0 : decode cL_signalsByWindows 0 = .ok (.aload_n 2, 1) := by decide +kernel
theorem dL_signalsByWindows_1 : decode cL_signalsByWindows 1 = .ok (.iconst 0, 1) := by decide +kernel
theorem dL_signalsByWindows_2 : decode cL_signalsByWindows 2 = .ok (.aload_n 0, 1) := by decide +kernel
theorem dL_signalsByWindows_3 : decode cL_signalsByWindows 3 = .ok (.iload_n 1, 1) := by decide +kernel
theorem dL_signalsByWindows_4 : decode cL_signalsByWindows 4 = .ok (.invokevirtual 62, 3) := by decide +kernel
theorem dL_signalsByWindows_7 : decode cL_signalsByWindows 7 = .ok (.i2l, 1) := by decide +kernel
theorem dL_signalsByWindows_8 : decode cL_signalsByWindows 8 = .ok (.lastore, 1) := by decide +kernel
theorem dL_signalsByWindows_9 : decode cL_signalsByWindows 9 = .ok (.goto 6, 3) := by decide +kernel
theorem dL_signalsByWindows_12 : decode cL_signalsByWindows 12 = .ok (.astore_n 3, 1) := by decide +kernel
theorem dL_signalsByWindows_13 : decode cL_signalsByWindows 13 = .ok (.iconst 1, 1) := by decide +kernel
theorem dL_signalsByWindows_14 : decode cL_signalsByWindows 14 = .ok (.ireturn, 1) := by decide +kernel
theorem dL_signalsByWindows_15 : decode cL_signalsByWindows 15 = .ok (.iconst 0, 1) := by decide +kernel
theorem dL_signalsByWindows_16 : decode cL_signalsByWindows 16 = .ok (.ireturn, 1) := by decide +kernel
theorem dL_firstOf_0 : decode cL_firstOf 0 = .ok (.aload_n 3, 1) := by decide +kernel
theorem dL_firstOf_1 : decode cL_firstOf 1 = .ok (.iconst 0, 1) := by decide +kernel
theorem dL_firstOf_2 : decode cL_firstOf 2 = .ok (.aload_n 0, 1) := by decide +kernel
theorem dL_firstOf_3 : decode cL_firstOf 3 = .ok (.iload_n 1, 1) := by decide +kernel
theorem dL_firstOf_4 : decode cL_firstOf 4 = .ok (.iload_n 2, 1) := by decide +kernel
theorem dL_firstOf_5 : decode cL_firstOf 5 = .ok (.invokevirtual 65, 3) := by decide +kernel
theorem dL_firstOf_8 : decode cL_firstOf 8 = .ok (.i2l, 1) := by decide +kernel
theorem dL_firstOf_9 : decode cL_firstOf 9 = .ok (.lastore, 1) := by decide +kernel
theorem dL_firstOf_10 : decode cL_firstOf 10 = .ok (.goto 7, 3) := by decide +kernel
theorem dL_firstOf_13 : decode cL_firstOf 13 = .ok (.astore 4, 2) := by decide +kernel
theorem dL_firstOf_15 : decode cL_firstOf 15 = .ok (.iconst 1, 1) := by decide +kernel
theorem dL_firstOf_16 : decode cL_firstOf 16 = .ok (.ireturn, 1) := by decide +kernel
theorem dL_firstOf_17 : decode cL_firstOf 17 = .ok (.iconst 0, 1) := by decide +kernel
theorem dL_firstOf_18 : decode cL_firstOf 18 = .ok (.ireturn, 1) := by decide +kernel
theorem dL_isWide_0 : decode cL_isWide 0 = .ok (.aload_n 2, 1) := by decide +kernel
theorem dL_isWide_1 : decode cL_isWide 1 = .ok (.iconst 0, 1) := by decide +kernel
theorem dL_isWide_2 : decode cL_isWide 2 = .ok (.aload_n 0, 1) := by decide +kernel
theorem dL_isWide_3 : decode cL_isWide 3 = .ok (.iload_n 1, 1) := by decide +kernel
theorem dL_isWide_4 : decode cL_isWide 4 = .ok (.invokevirtual 68, 3) := by decide +kernel
theorem dL_isWide_7 : decode cL_isWide 7 = .ok (.ifCond .eq 7, 3) := by decide +kernel
theorem dL_isWide_10 : decode cL_isWide 10 = .ok (.lconst 1, 1) := by decide +kernel
theorem dL_isWide_11 : decode cL_isWide 11 = .ok (.goto 4, 3) := by decide +kernel
theorem dL_isWide_14 : decode cL_isWide 14 = .ok (.lconst 0, 1) := by decide +kernel
theorem dL_isWide_15 : decode cL_isWide 15 = .ok (.lastore, 1) := by decide +kernel
theorem dL_isWide_16 : decode cL_isWide 16 = .ok (.goto 6, 3) := by decide +kernel
theorem dL_isWide_19 : decode cL_isWide 19 = .ok (.astore_n 3, 1) := by decide +kernel
theorem dL_isWide_20 : decode cL_isWide 20 = .ok (.iconst 1, 1) := by decide +kernel
theorem dL_isWide_21 : decode cL_isWide 21 = .ok (.ireturn, 1) := by decide +kernel
theorem dL_isWide_22 : decode cL_isWide 22 = .ok (.iconst 0, 1) := by decide +kernel
theorem dL_isWide_23 : decode cL_isWide 23 = .ok (.ireturn, 1) := by decide +kernel
theorem dL_setWeight_0 : decode cL_setWeight 0 = .ok (.aload_n 2, 1) := by decide +kernel
theorem dL_setWeight_1 : decode cL_setWeight 1 = .ok (.iconst 0, 1) := by decide +kernel
theorem dL_setWeight_2 : decode cL_setWeight 2 = .ok (.aload_n 0, 1) := by decide +kernel
theorem dL_setWeight_3 : decode cL_setWeight 3 = .ok (.iload_n 1, 1) := by decide +kernel
theorem dL_setWeight_4 : decode cL_setWeight 4 = .ok (.invokevirtual 71, 3) := by decide +kernel
theorem dL_setWeight_7 : decode cL_setWeight 7 = .ok (.i2l, 1) := by decide +kernel
theorem dL_setWeight_8 : decode cL_setWeight 8 = .ok (.lastore, 1) := by decide +kernel
theorem dL_setWeight_9 : decode cL_setWeight 9 = .ok (.goto 6, 3) := by decide +kernel
theorem dL_setWeight_12 : decode cL_setWeight 12 = .ok (.astore_n 3, 1) := by decide +kernel
theorem dL_setWeight_13 : decode cL_setWeight 13 = .ok (.iconst 1, 1) := by decide +kernel
theorem dL_setWeight_14 : decode cL_setWeight 14 = .ok (.ireturn, 1) := by decide +kernel
theorem dL_setWeight_15 : decode cL_setWeight 15 = .ok (.iconst 0, 1) := by decide +kernel
theorem dL_setWeight_16 : decode cL_setWeight 16 = .ok (.ireturn, 1) := by decide +kernel
theorem dL_weighted_0 : decode cL_weighted 0 = .ok (.aload_n 2, 1) := by decide +kernel
theorem dL_weighted_1 : decode cL_weighted 1 = .ok (.iconst 0, 1) := by decide +kernel
theorem dL_weighted_2 : decode cL_weighted 2 = .ok (.aload_n 0, 1) := by decide +kernel
theorem dL_weighted_3 : decode cL_weighted 3 = .ok (.iload_n 1, 1) := by decide +kernel
theorem dL_weighted_4 : decode cL_weighted 4 = .ok (.invokevirtual 74, 3) := by decide +kernel
theorem dL_weighted_7 : decode cL_weighted 7 = .ok (.i2l, 1) := by decide +kernel
theorem dL_weighted_8 : decode cL_weighted 8 = .ok (.lastore, 1) := by decide +kernel
theorem dL_weighted_9 : decode cL_weighted 9 = .ok (.goto 9, 3) := by decide +kernel
theorem dL_weighted_12 : decode cL_weighted 12 = .ok (.astore_n 3, 1) := by decide +kernel
theorem dL_weighted_13 : decode cL_weighted 13 = .ok (.iconst 1, 1) := by decide +kernel
theorem dL_weighted_14 : decode cL_weighted 14 = .ok (.ireturn, 1) := by decide +kernel
theorem dL_weighted_15 : decode cL_weighted 15 = .ok (.astore_n 3, 1) := by decide +kernel
theorem dL_weighted_16 : decode cL_weighted 16 = .ok (.iconst 2, 1) := by decide +kernel
theorem dL_weighted_17 : decode cL_weighted 17 = .ok (.ireturn, 1) := by decide +kernel
theorem dL_weighted_18 : decode cL_weighted 18 = .ok (.iconst 0, 1) := by decide +kernel
theorem dL_weighted_19 : decode cL_weighted 19 = .ok (.ireturn, 1) := by decide +kernel
theorem dL_cumulative_0 : decode cL_cumulative 0 = .ok (.aload_n 3, 1) := by decide +kernel
theorem dL_cumulative_1 : decode cL_cumulative 1 = .ok (.iconst 0, 1) := by decide +kernel
theorem dL_cumulative_2 : decode cL_cumulative 2 = .ok (.aload_n 0, 1) := by decide +kernel
theorem dL_cumulative_3 : decode cL_cumulative 3 = .ok (.iload_n 1, 1) := by decide +kernel
theorem dL_cumulative_4 : decode cL_cumulative 4 = .ok (.iload_n 2, 1) := by decide +kernel
theorem dL_cumulative_5 : decode cL_cumulative 5 = .ok (.invokevirtual 77, 3) := by decide +kernel
theorem dL_cumulative_8 : decode cL_cumulative 8 = .ok (.i2l, 1) := by decide +kernel
theorem dL_cumulative_9 : decode cL_cumulative 9 = .ok (.lastore, 1) := by decide +kernel
theorem dL_cumulative_10 : decode cL_cumulative 10 = .ok (.goto 11, 3) := by decide +kernel
theorem dL_cumulative_13 : decode cL_cumulative 13 = .ok (.astore 4, 2) := by decide +kernel
theorem dL_cumulative_15 : decode cL_cumulative 15 = .ok (.iconst 1, 1) := by decide +kernel
theorem dL_cumulative_16 : decode cL_cumulative 16 = .ok (.ireturn, 1) := by decide +kernel
theorem dL_cumulative_17 : decode cL_cumulative 17 = .ok (.astore 4, 2) := by decide +kernel
theorem dL_cumulative_19 : decode cL_cumulative 19 = .ok (.iconst 2, 1) := by decide +kernel
theorem dL_cumulative_20 : decode cL_cumulative 20 = .ok (.ireturn, 1) := by decide +kernel
theorem dL_cumulative_21 : decode cL_cumulative 21 = .ok (.iconst 0, 1) := by decide +kernel
theorem dL_cumulative_22 : decode cL_cumulative 22 = .ok (.ireturn, 1) := by decide +kernel
theorem dL_capability_0 : decode cL_capability 0 = .ok (.aload 5, 2) := by decide +kernel
theorem dL_capability_2 : decode cL_capability 2 = .ok (.iconst 0, 1) := by decide +kernel
theorem dL_capability_3 : decode cL_capability 3 = .ok (.aload_n 0, 1) := by decide +kernel
theorem dL_capability_4 : decode cL_capability 4 = .ok (.iload_n 1, 1) := by decide +kernel
theorem dL_capability_5 : decode cL_capability 5 = .ok (.iload_n 2, 1) := by decide +kernel
theorem dL_capability_6 : decode cL_capability 6 = .ok (.iload_n 3, 1) := by decide +kernel
theorem dL_capability_7 : decode cL_capability 7 = .ok (.iload 4, 2) := by decide +kernel
theorem dL_capability_9 : decode cL_capability 9 = .ok (.invokevirtual 81, 3) := by decide +kernel
theorem dL_capability_12 : decode cL_capability 12 = .ok (.lastore, 1) := by decide +kernel
theorem dL_capability_13 : decode cL_capability 13 = .ok (.goto 15, 3) := by decide +kernel
theorem dL_capability_16 : decode cL_capability 16 = .ok (.astore 6, 2) := by decide +kernel
theorem dL_capability_18 : decode cL_capability 18 = .ok (.iconst 1, 1) := by decide +kernel
theorem dL_capability_19 : decode cL_capability 19 = .ok (.ireturn, 1) := by decide +kernel
theorem dL_capability_20 : decode cL_capability 20 = .ok (.astore 6, 2) := by decide +kernel
theorem dL_capability_22 : decode cL_capability 22 = .ok (.iconst 2, 1) := by decide +kernel
theorem dL_capability_23 : decode cL_capability 23 = .ok (.ireturn, 1) := by decide +kernel
theorem dL_capability_24 : decode cL_capability 24 = .ok (.astore 6, 2) := by decide +kernel
theorem dL_capability_26 : decode cL_capability 26 = .ok (.iconst 3, 1) := by decide +kernel
theorem dL_capability_27 : decode cL_capability 27 = .ok (.ireturn, 1) := by decide +kernel
theorem dL_capability_28 : decode cL_capability 28 = .ok (.iconst 0, 1) := by decide +kernel
theorem dL_capability_29 : decode cL_capability 29 = .ok (.ireturn, 1) := by decide +kernel
theorem dL_law_0 : decode cL_law 0 = .ok (.new 8, 3) := by decide +kernel
theorem dL_law_3 : decode cL_law 3 = .ok (.dup, 1) := by decide +kernel
theorem dL_law_4 : decode cL_law 4 = .ok (.invokespecial 85, 3) := by decide +kernel
theorem dL_law_7 : decode cL_law 7 = .ok (.astore_n 1, 1) := by decide +kernel
theorem dL_law_8 : decode cL_law 8 = .ok (.new 86, 3) := by decide +kernel
theorem dL_law_11 : decode cL_law 11 = .ok (.dup, 1) := by decide +kernel
theorem dL_law_12 : decode cL_law 12 = .ok (.invokespecial 88, 3) := by decide +kernel
theorem dL_law_15 : decode cL_law 15 = .ok (.astore_n 2, 1) := by decide +kernel
theorem dL_law_16 : decode cL_law 16 = .ok (.iconst 1, 1) := by decide +kernel
theorem dL_law_17 : decode cL_law 17 = .ok (.newarray .long, 2) := by decide +kernel
theorem dL_law_19 : decode cL_law 19 = .ok (.astore_n 3, 1) := by decide +kernel
theorem dL_law_20 : decode cL_law 20 = .ok (.iconst 0, 1) := by decide +kernel
theorem dL_law_21 : decode cL_law 21 = .ok (.istore 4, 2) := by decide +kernel
theorem dL_law_23 : decode cL_law 23 = .ok (.iload 4, 2) := by decide +kernel
theorem dL_law_25 : decode cL_law 25 = .ok (.aload_n 0, 1) := by decide +kernel
theorem dL_law_26 : decode cL_law 26 = .ok (.arraylength, 1) := by decide +kernel
theorem dL_law_27 : decode cL_law 27 = .ok (.iconst 5, 1) := by decide +kernel
theorem dL_law_28 : decode cL_law 28 = .ok (.isub, 1) := by decide +kernel
theorem dL_law_29 : decode cL_law 29 = .ok (.if_icmp .gt 1385, 3) := by decide +kernel
theorem dL_law_32 : decode cL_law 32 = .ok (.aload_n 0, 1) := by decide +kernel
theorem dL_law_33 : decode cL_law 33 = .ok (.iload 4, 2) := by decide +kernel
theorem dL_law_35 : decode cL_law 35 = .ok (.iaload, 1) := by decide +kernel
theorem dL_law_36 : decode cL_law 36 = .ok (.bipush 31, 2) := by decide +kernel
theorem dL_law_38 : decode cL_law 38 = .ok (.iand, 1) := by decide +kernel
theorem dL_law_39 : decode cL_law 39 = .ok (.tableswitch 1369 0 23 #[109, 145, 208, 252, 288, 324, 392, 405, 418, 474, 530, 586, 642, 698, 754, 810, 866, 922, 990, 1053, 1066, 1122, 1178, 1262], 109) := by decide +kernel
theorem dL_law_148 : decode cL_law 148 = .ok (.aload_n 1, 1) := by decide +kernel
theorem dL_law_149 : decode cL_law 149 = .ok (.aload_n 0, 1) := by decide +kernel
theorem dL_law_150 : decode cL_law 150 = .ok (.iload 4, 2) := by decide +kernel
theorem dL_law_152 : decode cL_law 152 = .ok (.iconst 1, 1) := by decide +kernel
theorem dL_law_153 : decode cL_law 153 = .ok (.iadd, 1) := by decide +kernel
theorem dL_law_154 : decode cL_law 154 = .ok (.iaload, 1) := by decide +kernel
theorem dL_law_155 : decode cL_law 155 = .ok (.invokestatic 89, 3) := by decide +kernel
theorem dL_law_158 : decode cL_law 158 = .ok (.istore 5, 2) := by decide +kernel
theorem dL_law_160 : decode cL_law 160 = .ok (.aload_n 2, 1) := by decide +kernel
theorem dL_law_161 : decode cL_law 161 = .ok (.aload_n 0, 1) := by decide +kernel
theorem dL_law_162 : decode cL_law 162 = .ok (.iload 4, 2) := by decide +kernel
theorem dL_law_164 : decode cL_law 164 = .ok (.iconst 1, 1) := by decide +kernel
theorem dL_law_165 : decode cL_law 165 = .ok (.iadd, 1) := by decide +kernel
theorem dL_law_166 : decode cL_law 166 = .ok (.iaload, 1) := by decide +kernel
theorem dL_law_167 : decode cL_law 167 = .ok (.invokevirtual 94, 3) := by decide +kernel
theorem dL_law_170 : decode cL_law 170 = .ok (.aload_n 2, 1) := by decide +kernel
theorem dL_law_171 : decode cL_law 171 = .ok (.invokevirtual 95, 3) := by decide +kernel
theorem dL_law_174 : decode cL_law 174 = .ok (.iload 5, 2) := by decide +kernel
theorem dL_law_176 : decode cL_law 176 = .ok (.if_icmp .eq 5, 3) := by decide +kernel
theorem dL_law_179 : decode cL_law 179 = .ok (.iconst 0, 1) := by decide +kernel
theorem dL_law_180 : decode cL_law 180 = .ok (.ireturn, 1) := by decide +kernel
theorem dL_law_181 : decode cL_law 181 = .ok (.goto 1227, 3) := by decide +kernel
theorem dL_law_184 : decode cL_law 184 = .ok (.aload_n 1, 1) := by decide +kernel
theorem dL_law_185 : decode cL_law 185 = .ok (.aload_n 0, 1) := by decide +kernel
theorem dL_law_186 : decode cL_law 186 = .ok (.iload 4, 2) := by decide +kernel
theorem dL_law_188 : decode cL_law 188 = .ok (.iconst 1, 1) := by decide +kernel
theorem dL_law_189 : decode cL_law 189 = .ok (.iadd, 1) := by decide +kernel
theorem dL_law_190 : decode cL_law 190 = .ok (.iaload, 1) := by decide +kernel
theorem dL_law_191 : decode cL_law 191 = .ok (.aload_n 3, 1) := by decide +kernel
theorem dL_law_192 : decode cL_law 192 = .ok (.invokestatic 98, 3) := by decide +kernel
theorem dL_law_195 : decode cL_law 195 = .ok (.istore 5, 2) := by decide +kernel
theorem dL_law_197 : decode cL_law 197 = .ok (.aload_n 2, 1) := by decide +kernel
theorem dL_law_198 : decode cL_law 198 = .ok (.aload_n 0, 1) := by decide +kernel
theorem dL_law_199 : decode cL_law 199 = .ok (.iload 4, 2) := by decide +kernel
theorem dL_law_201 : decode cL_law 201 = .ok (.iconst 1, 1) := by decide +kernel
theorem dL_law_202 : decode cL_law 202 = .ok (.iadd, 1) := by decide +kernel
theorem dL_law_203 : decode cL_law 203 = .ok (.iaload, 1) := by decide +kernel
theorem dL_law_204 : decode cL_law 204 = .ok (.invokevirtual 101, 3) := by decide +kernel
theorem dL_law_207 : decode cL_law 207 = .ok (.istore 6, 2) := by decide +kernel
theorem dL_law_209 : decode cL_law 209 = .ok (.aload_n 2, 1) := by decide +kernel
theorem dL_law_210 : decode cL_law 210 = .ok (.invokevirtual 95, 3) := by decide +kernel
theorem dL_law_213 : decode cL_law 213 = .ok (.iload 5, 2) := by decide +kernel
theorem dL_law_215 : decode cL_law 215 = .ok (.if_icmp .eq 5, 3) := by decide +kernel
theorem dL_law_218 : decode cL_law 218 = .ok (.iconst 0, 1) := by decide +kernel
theorem dL_law_219 : decode cL_law 219 = .ok (.ireturn, 1) := by decide +kernel
theorem dL_law_220 : decode cL_law 220 = .ok (.iload 5, 2) := by decide +kernel
theorem dL_law_222 : decode cL_law 222 = .ok (.ifCond .ne 22, 3) := by decide +kernel
theorem dL_law_225 : decode cL_law 225 = .ok (.aload_n 3, 1) := by decide +kernel
theorem dL_law_226 : decode cL_law 226 = .ok (.iconst 0, 1) := by decide +kernel
theorem dL_law_227 : decode cL_law 227 = .ok (.laload, 1) := by decide +kernel
theorem dL_law_228 : decode cL_law 228 = .ok (.iload 6, 2) := by decide +kernel
theorem dL_law_230 : decode cL_law 230 = .ok (.ifCond .eq 7, 3) := by decide +kernel
theorem dL_law_233 : decode cL_law 233 = .ok (.lconst 1, 1) := by decide +kernel
theorem dL_law_234 : decode cL_law 234 = .ok (.goto 4, 3) := by decide +kernel
theorem dL_law_237 : decode cL_law 237 = .ok (.lconst 0, 1) := by decide +kernel
theorem dL_law_238 : decode cL_law 238 = .ok (.lcmp, 1) := by decide +kernel
theorem dL_law_239 : decode cL_law 239 = .ok (.ifCond .eq 5, 3) := by decide +kernel
theorem dL_law_242 : decode cL_law 242 = .ok (.iconst 0, 1) := by decide +kernel
theorem dL_law_243 : decode cL_law 243 = .ok (.ireturn, 1) := by decide +kernel
theorem dL_law_244 : decode cL_law 244 = .ok (.goto 1164, 3) := by decide +kernel
theorem dL_law_247 : decode cL_law 247 = .ok (.aload_n 1, 1) := by decide +kernel
theorem dL_law_248 : decode cL_law 248 = .ok (.aload_n 3, 1) := by decide +kernel
theorem dL_law_249 : decode cL_law 249 = .ok (.invokestatic 102, 3) := by decide +kernel
theorem dL_law_252 : decode cL_law 252 = .ok (.istore 5, 2) := by decide +kernel
theorem dL_law_254 : decode cL_law 254 = .ok (.aload_n 2, 1) := by decide +kernel
theorem dL_law_255 : decode cL_law 255 = .ok (.invokevirtual 105, 3) := by decide +kernel
theorem dL_law_258 : decode cL_law 258 = .ok (.istore 6, 2) := by decide +kernel
theorem dL_law_260 : decode cL_law 260 = .ok (.aload_n 2, 1) := by decide +kernel
theorem dL_law_261 : decode cL_law 261 = .ok (.invokevirtual 95, 3) := by decide +kernel
theorem dL_law_264 : decode cL_law 264 = .ok (.iload 5, 2) := by decide +kernel
theorem dL_law_266 : decode cL_law 266 = .ok (.if_icmp .eq 5, 3) := by decide +kernel
theorem dL_law_269 : decode cL_law 269 = .ok (.iconst 0, 1) := by decide +kernel
theorem dL_law_270 : decode cL_law 270 = .ok (.ireturn, 1) := by decide +kernel
theorem dL_law_271 : decode cL_law 271 = .ok (.iload 5, 2) := by decide +kernel
theorem dL_law_273 : decode cL_law 273 = .ok (.ifCond .ne 15, 3) := by decide +kernel
theorem dL_law_276 : decode cL_law 276 = .ok (.aload_n 3, 1) := by decide +kernel
theorem dL_law_277 : decode cL_law 277 = .ok (.iconst 0, 1) := by decide +kernel
theorem dL_law_278 : decode cL_law 278 = .ok (.laload, 1) := by decide +kernel
theorem dL_law_279 : decode cL_law 279 = .ok (.iload 6, 2) := by decide +kernel
theorem dL_law_281 : decode cL_law 281 = .ok (.i2l, 1) := by decide +kernel
theorem dL_law_282 : decode cL_law 282 = .ok (.lcmp, 1) := by decide +kernel
theorem dL_law_283 : decode cL_law 283 = .ok (.ifCond .eq 5, 3) := by decide +kernel
theorem dL_law_286 : decode cL_law 286 = .ok (.iconst 0, 1) := by decide +kernel
theorem dL_law_287 : decode cL_law 287 = .ok (.ireturn, 1) := by decide +kernel
theorem dL_law_288 : decode cL_law 288 = .ok (.goto 1120, 3) := by decide +kernel
theorem dL_law_291 : decode cL_law 291 = .ok (.aload_n 1, 1) := by decide +kernel
theorem dL_law_292 : decode cL_law 292 = .ok (.aload_n 0, 1) := by decide +kernel
theorem dL_law_293 : decode cL_law 293 = .ok (.iload 4, 2) := by decide +kernel
theorem dL_law_295 : decode cL_law 295 = .ok (.iconst 1, 1) := by decide +kernel
theorem dL_law_296 : decode cL_law 296 = .ok (.iadd, 1) := by decide +kernel
theorem dL_law_297 : decode cL_law 297 = .ok (.iaload, 1) := by decide +kernel
theorem dL_law_298 : decode cL_law 298 = .ok (.invokestatic 106, 3) := by decide +kernel
theorem dL_law_301 : decode cL_law 301 = .ok (.istore 5, 2) := by decide +kernel
theorem dL_law_303 : decode cL_law 303 = .ok (.aload_n 2, 1) := by decide +kernel
theorem dL_law_304 : decode cL_law 304 = .ok (.aload_n 0, 1) := by decide +kernel
theorem dL_law_305 : decode cL_law 305 = .ok (.iload 4, 2) := by decide +kernel
theorem dL_law_307 : decode cL_law 307 = .ok (.iconst 1, 1) := by decide +kernel
theorem dL_law_308 : decode cL_law 308 = .ok (.iadd, 1) := by decide +kernel
theorem dL_law_309 : decode cL_law 309 = .ok (.iaload, 1) := by decide +kernel
theorem dL_law_310 : decode cL_law 310 = .ok (.invokevirtual 108, 3) := by decide +kernel
theorem dL_law_313 : decode cL_law 313 = .ok (.aload_n 2, 1) := by decide +kernel
theorem dL_law_314 : decode cL_law 314 = .ok (.invokevirtual 95, 3) := by decide +kernel
theorem dL_law_317 : decode cL_law 317 = .ok (.iload 5, 2) := by decide +kernel
theorem dL_law_319 : decode cL_law 319 = .ok (.if_icmp .eq 5, 3) := by decide +kernel
theorem dL_law_322 : decode cL_law 322 = .ok (.iconst 0, 1) := by decide +kernel
theorem dL_law_323 : decode cL_law 323 = .ok (.ireturn, 1) := by decide +kernel
theorem dL_law_324 : decode cL_law 324 = .ok (.goto 1084, 3) := by decide +kernel
theorem dL_law_327 : decode cL_law 327 = .ok (.aload_n 1, 1) := by decide +kernel
theorem dL_law_328 : decode cL_law 328 = .ok (.aload_n 0, 1) := by decide +kernel
theorem dL_law_329 : decode cL_law 329 = .ok (.iload 4, 2) := by decide +kernel
theorem dL_law_331 : decode cL_law 331 = .ok (.iconst 1, 1) := by decide +kernel
theorem dL_law_332 : decode cL_law 332 = .ok (.iadd, 1) := by decide +kernel
theorem dL_law_333 : decode cL_law 333 = .ok (.iaload, 1) := by decide +kernel
theorem dL_law_334 : decode cL_law 334 = .ok (.invokestatic 109, 3) := by decide +kernel
theorem dL_law_337 : decode cL_law 337 = .ok (.istore 5, 2) := by decide +kernel
theorem dL_law_339 : decode cL_law 339 = .ok (.aload_n 2, 1) := by decide +kernel
theorem dL_law_340 : decode cL_law 340 = .ok (.aload_n 0, 1) := by decide +kernel
theorem dL_law_341 : decode cL_law 341 = .ok (.iload 4, 2) := by decide +kernel
theorem dL_law_343 : decode cL_law 343 = .ok (.iconst 1, 1) := by decide +kernel
theorem dL_law_344 : decode cL_law 344 = .ok (.iadd, 1) := by decide +kernel
theorem dL_law_345 : decode cL_law 345 = .ok (.iaload, 1) := by decide +kernel
theorem dL_law_346 : decode cL_law 346 = .ok (.invokevirtual 111, 3) := by decide +kernel
theorem dL_law_349 : decode cL_law 349 = .ok (.aload_n 2, 1) := by decide +kernel
theorem dL_law_350 : decode cL_law 350 = .ok (.invokevirtual 95, 3) := by decide +kernel
theorem dL_law_353 : decode cL_law 353 = .ok (.iload 5, 2) := by decide +kernel
theorem dL_law_355 : decode cL_law 355 = .ok (.if_icmp .eq 5, 3) := by decide +kernel
theorem dL_law_358 : decode cL_law 358 = .ok (.iconst 0, 1) := by decide +kernel
theorem dL_law_359 : decode cL_law 359 = .ok (.ireturn, 1) := by decide +kernel
theorem dL_law_360 : decode cL_law 360 = .ok (.goto 1048, 3) := by decide +kernel
theorem dL_law_363 : decode cL_law 363 = .ok (.aload_n 1, 1) := by decide +kernel
theorem dL_law_364 : decode cL_law 364 = .ok (.aload_n 0, 1) := by decide +kernel
theorem dL_law_365 : decode cL_law 365 = .ok (.iload 4, 2) := by decide +kernel
theorem dL_law_367 : decode cL_law 367 = .ok (.iconst 1, 1) := by decide +kernel
theorem dL_law_368 : decode cL_law 368 = .ok (.iadd, 1) := by decide +kernel
theorem dL_law_369 : decode cL_law 369 = .ok (.iaload, 1) := by decide +kernel
theorem dL_law_370 : decode cL_law 370 = .ok (.aload_n 0, 1) := by decide +kernel
theorem dL_law_371 : decode cL_law 371 = .ok (.iload 4, 2) := by decide +kernel
theorem dL_law_373 : decode cL_law 373 = .ok (.iconst 2, 1) := by decide +kernel
theorem dL_law_374 : decode cL_law 374 = .ok (.iadd, 1) := by decide +kernel
theorem dL_law_375 : decode cL_law 375 = .ok (.iaload, 1) := by decide +kernel
theorem dL_law_376 : decode cL_law 376 = .ok (.aload_n 3, 1) := by decide +kernel
theorem dL_law_377 : decode cL_law 377 = .ok (.invokestatic 112, 3) := by decide +kernel
theorem dL_law_380 : decode cL_law 380 = .ok (.istore 5, 2) := by decide +kernel
theorem dL_law_382 : decode cL_law 382 = .ok (.aload_n 2, 1) := by decide +kernel
theorem dL_law_383 : decode cL_law 383 = .ok (.aload_n 0, 1) := by decide +kernel
theorem dL_law_384 : decode cL_law 384 = .ok (.iload 4, 2) := by decide +kernel
theorem dL_law_386 : decode cL_law 386 = .ok (.iconst 1, 1) := by decide +kernel
theorem dL_law_387 : decode cL_law 387 = .ok (.iadd, 1) := by decide +kernel
theorem dL_law_388 : decode cL_law 388 = .ok (.iaload, 1) := by decide +kernel
theorem dL_law_389 : decode cL_law 389 = .ok (.aload_n 0, 1) := by decide +kernel
theorem dL_law_390 : decode cL_law 390 = .ok (.iload 4, 2) := by decide +kernel
theorem dL_law_392 : decode cL_law 392 = .ok (.iconst 2, 1) := by decide +kernel
theorem dL_law_393 : decode cL_law 393 = .ok (.iadd, 1) := by decide +kernel
theorem dL_law_394 : decode cL_law 394 = .ok (.iaload, 1) := by decide +kernel
theorem dL_law_395 : decode cL_law 395 = .ok (.invokevirtual 115, 3) := by decide +kernel
theorem dL_law_398 : decode cL_law 398 = .ok (.istore 6, 2) := by decide +kernel
theorem dL_law_400 : decode cL_law 400 = .ok (.aload_n 2, 1) := by decide +kernel
theorem dL_law_401 : decode cL_law 401 = .ok (.invokevirtual 95, 3) := by decide +kernel
theorem dL_law_404 : decode cL_law 404 = .ok (.iload 5, 2) := by decide +kernel
theorem dL_law_406 : decode cL_law 406 = .ok (.if_icmp .eq 5, 3) := by decide +kernel
theorem dL_law_409 : decode cL_law 409 = .ok (.iconst 0, 1) := by decide +kernel
theorem dL_law_410 : decode cL_law 410 = .ok (.ireturn, 1) := by decide +kernel
theorem dL_law_411 : decode cL_law 411 = .ok (.iload 5, 2) := by decide +kernel
theorem dL_law_413 : decode cL_law 413 = .ok (.ifCond .ne 15, 3) := by decide +kernel
theorem dL_law_416 : decode cL_law 416 = .ok (.aload_n 3, 1) := by decide +kernel
theorem dL_law_417 : decode cL_law 417 = .ok (.iconst 0, 1) := by decide +kernel
theorem dL_law_418 : decode cL_law 418 = .ok (.laload, 1) := by decide +kernel
theorem dL_law_419 : decode cL_law 419 = .ok (.iload 6, 2) := by decide +kernel
theorem dL_law_421 : decode cL_law 421 = .ok (.i2l, 1) := by decide +kernel
theorem dL_law_422 : decode cL_law 422 = .ok (.lcmp, 1) := by decide +kernel
theorem dL_law_423 : decode cL_law 423 = .ok (.ifCond .eq 5, 3) := by decide +kernel
theorem dL_law_426 : decode cL_law 426 = .ok (.iconst 0, 1) := by decide +kernel
theorem dL_law_427 : decode cL_law 427 = .ok (.ireturn, 1) := by decide +kernel
theorem dL_law_428 : decode cL_law 428 = .ok (.goto 980, 3) := by decide +kernel
theorem dL_law_431 : decode cL_law 431 = .ok (.aload_n 1, 1) := by decide +kernel
theorem dL_law_432 : decode cL_law 432 = .ok (.invokevirtual 116, 3) := by decide +kernel
theorem dL_law_435 : decode cL_law 435 = .ok (.aload_n 2, 1) := by decide +kernel
theorem dL_law_436 : decode cL_law 436 = .ok (.invokevirtual 119, 3) := by decide +kernel
theorem dL_law_439 : decode cL_law 439 = .ok (.if_icmp .eq 969, 3) := by decide +kernel
theorem dL_law_442 : decode cL_law 442 = .ok (.iconst 0, 1) := by decide +kernel
theorem dL_law_443 : decode cL_law 443 = .ok (.ireturn, 1) := by decide +kernel
theorem dL_law_444 : decode cL_law 444 = .ok (.aload_n 1, 1) := by decide +kernel
theorem dL_law_445 : decode cL_law 445 = .ok (.invokevirtual 120, 3) := by decide +kernel
theorem dL_law_448 : decode cL_law 448 = .ok (.aload_n 2, 1) := by decide +kernel
theorem dL_law_449 : decode cL_law 449 = .ok (.invokevirtual 123, 3) := by decide +kernel
theorem dL_law_452 : decode cL_law 452 = .ok (.if_icmp .eq 956, 3) := by decide +kernel
theorem dL_law_455 : decode cL_law 455 = .ok (.iconst 0, 1) := by decide +kernel
theorem dL_law_456 : decode cL_law 456 = .ok (.ireturn, 1) := by decide +kernel
theorem dL_law_457 : decode cL_law 457 = .ok (.aload_n 1, 1) := by decide +kernel
theorem dL_law_458 : decode cL_law 458 = .ok (.aload_n 0, 1) := by decide +kernel
theorem dL_law_459 : decode cL_law 459 = .ok (.iload 4, 2) := by decide +kernel
theorem dL_law_461 : decode cL_law 461 = .ok (.iconst 1, 1) := by decide +kernel
theorem dL_law_462 : decode cL_law 462 = .ok (.iadd, 1) := by decide +kernel
theorem dL_law_463 : decode cL_law 463 = .ok (.iaload, 1) := by decide +kernel
theorem dL_law_464 : decode cL_law 464 = .ok (.aload_n 3, 1) := by decide +kernel
theorem dL_law_465 : decode cL_law 465 = .ok (.invokestatic 124, 3) := by decide +kernel
theorem dL_law_468 : decode cL_law 468 = .ok (.istore 5, 2) := by decide +kernel
theorem dL_law_470 : decode cL_law 470 = .ok (.aload_n 2, 1) := by decide +kernel
theorem dL_law_471 : decode cL_law 471 = .ok (.aload_n 0, 1) := by decide +kernel
theorem dL_law_472 : decode cL_law 472 = .ok (.iload 4, 2) := by decide +kernel
theorem dL_law_474 : decode cL_law 474 = .ok (.iconst 1, 1) := by decide +kernel
theorem dL_law_475 : decode cL_law 475 = .ok (.iadd, 1) := by decide +kernel
theorem dL_law_476 : decode cL_law 476 = .ok (.iaload, 1) := by decide +kernel
theorem dL_law_477 : decode cL_law 477 = .ok (.invokevirtual 126, 3) := by decide +kernel
theorem dL_law_480 : decode cL_law 480 = .ok (.istore 6, 2) := by decide +kernel
theorem dL_law_482 : decode cL_law 482 = .ok (.aload_n 2, 1) := by decide +kernel
theorem dL_law_483 : decode cL_law 483 = .ok (.invokevirtual 95, 3) := by decide +kernel
theorem dL_law_486 : decode cL_law 486 = .ok (.iload 5, 2) := by decide +kernel
theorem dL_law_488 : decode cL_law 488 = .ok (.if_icmp .eq 5, 3) := by decide +kernel
theorem dL_law_491 : decode cL_law 491 = .ok (.iconst 0, 1) := by decide +kernel
theorem dL_law_492 : decode cL_law 492 = .ok (.ireturn, 1) := by decide +kernel
theorem dL_law_493 : decode cL_law 493 = .ok (.iload 5, 2) := by decide +kernel
theorem dL_law_495 : decode cL_law 495 = .ok (.ifCond .ne 15, 3) := by decide +kernel
theorem dL_law_498 : decode cL_law 498 = .ok (.aload_n 3, 1) := by decide +kernel
theorem dL_law_499 : decode cL_law 499 = .ok (.iconst 0, 1) := by decide +kernel
theorem dL_law_500 : decode cL_law 500 = .ok (.laload, 1) := by decide +kernel
theorem dL_law_501 : decode cL_law 501 = .ok (.iload 6, 2) := by decide +kernel
theorem dL_law_503 : decode cL_law 503 = .ok (.i2l, 1) := by decide +kernel
theorem dL_law_504 : decode cL_law 504 = .ok (.lcmp, 1) := by decide +kernel
theorem dL_law_505 : decode cL_law 505 = .ok (.ifCond .eq 5, 3) := by decide +kernel
theorem dL_law_508 : decode cL_law 508 = .ok (.iconst 0, 1) := by decide +kernel
theorem dL_law_509 : decode cL_law 509 = .ok (.ireturn, 1) := by decide +kernel
theorem dL_law_510 : decode cL_law 510 = .ok (.goto 898, 3) := by decide +kernel
theorem dL_law_513 : decode cL_law 513 = .ok (.aload_n 1, 1) := by decide +kernel
theorem dL_law_514 : decode cL_law 514 = .ok (.aload_n 0, 1) := by decide +kernel
theorem dL_law_515 : decode cL_law 515 = .ok (.iload 4, 2) := by decide +kernel
theorem dL_law_517 : decode cL_law 517 = .ok (.iconst 1, 1) := by decide +kernel
theorem dL_law_518 : decode cL_law 518 = .ok (.iadd, 1) := by decide +kernel
theorem dL_law_519 : decode cL_law 519 = .ok (.iaload, 1) := by decide +kernel
theorem dL_law_520 : decode cL_law 520 = .ok (.aload_n 3, 1) := by decide +kernel
theorem dL_law_521 : decode cL_law 521 = .ok (.invokestatic 127, 3) := by decide +kernel
theorem dL_law_524 : decode cL_law 524 = .ok (.istore 5, 2) := by decide +kernel
theorem dL_law_526 : decode cL_law 526 = .ok (.aload_n 2, 1) := by decide +kernel
theorem dL_law_527 : decode cL_law 527 = .ok (.aload_n 0, 1) := by decide +kernel
theorem dL_law_528 : decode cL_law 528 = .ok (.iload 4, 2) := by decide +kernel
theorem dL_law_530 : decode cL_law 530 = .ok (.iconst 1, 1) := by decide +kernel
theorem dL_law_531 : decode cL_law 531 = .ok (.iadd, 1) := by decide +kernel
theorem dL_law_532 : decode cL_law 532 = .ok (.iaload, 1) := by decide +kernel
theorem dL_law_533 : decode cL_law 533 = .ok (.invokevirtual 129, 3) := by decide +kernel
theorem dL_law_536 : decode cL_law 536 = .ok (.istore 6, 2) := by decide +kernel
theorem dL_law_538 : decode cL_law 538 = .ok (.aload_n 2, 1) := by decide +kernel
theorem dL_law_539 : decode cL_law 539 = .ok (.invokevirtual 95, 3) := by decide +kernel
theorem dL_law_542 : decode cL_law 542 = .ok (.iload 5, 2) := by decide +kernel
theorem dL_law_544 : decode cL_law 544 = .ok (.if_icmp .eq 5, 3) := by decide +kernel
theorem dL_law_547 : decode cL_law 547 = .ok (.iconst 0, 1) := by decide +kernel
theorem dL_law_548 : decode cL_law 548 = .ok (.ireturn, 1) := by decide +kernel
theorem dL_law_549 : decode cL_law 549 = .ok (.iload 5, 2) := by decide +kernel
theorem dL_law_551 : decode cL_law 551 = .ok (.ifCond .ne 15, 3) := by decide +kernel
theorem dL_law_554 : decode cL_law 554 = .ok (.aload_n 3, 1) := by decide +kernel
theorem dL_law_555 : decode cL_law 555 = .ok (.iconst 0, 1) := by decide +kernel
theorem dL_law_556 : decode cL_law 556 = .ok (.laload, 1) := by decide +kernel
theorem dL_law_557 : decode cL_law 557 = .ok (.iload 6, 2) := by decide +kernel
theorem dL_law_559 : decode cL_law 559 = .ok (.i2l, 1) := by decide +kernel
theorem dL_law_560 : decode cL_law 560 = .ok (.lcmp, 1) := by decide +kernel
theorem dL_law_561 : decode cL_law 561 = .ok (.ifCond .eq 5, 3) := by decide +kernel
theorem dL_law_564 : decode cL_law 564 = .ok (.iconst 0, 1) := by decide +kernel
theorem dL_law_565 : decode cL_law 565 = .ok (.ireturn, 1) := by decide +kernel
theorem dL_law_566 : decode cL_law 566 = .ok (.goto 842, 3) := by decide +kernel
theorem dL_law_569 : decode cL_law 569 = .ok (.aload_n 1, 1) := by decide +kernel
theorem dL_law_570 : decode cL_law 570 = .ok (.aload_n 0, 1) := by decide +kernel
theorem dL_law_571 : decode cL_law 571 = .ok (.iload 4, 2) := by decide +kernel
theorem dL_law_573 : decode cL_law 573 = .ok (.iconst 1, 1) := by decide +kernel
theorem dL_law_574 : decode cL_law 574 = .ok (.iadd, 1) := by decide +kernel
theorem dL_law_575 : decode cL_law 575 = .ok (.iaload, 1) := by decide +kernel
theorem dL_law_576 : decode cL_law 576 = .ok (.aload_n 3, 1) := by decide +kernel
theorem dL_law_577 : decode cL_law 577 = .ok (.invokestatic 130, 3) := by decide +kernel
theorem dL_law_580 : decode cL_law 580 = .ok (.istore 5, 2) := by decide +kernel
theorem dL_law_582 : decode cL_law 582 = .ok (.aload_n 2, 1) := by decide +kernel
theorem dL_law_583 : decode cL_law 583 = .ok (.aload_n 0, 1) := by decide +kernel
theorem dL_law_584 : decode cL_law 584 = .ok (.iload 4, 2) := by decide +kernel
theorem dL_law_586 : decode cL_law 586 = .ok (.iconst 1, 1) := by decide +kernel
theorem dL_law_587 : decode cL_law 587 = .ok (.iadd, 1) := by decide +kernel
theorem dL_law_588 : decode cL_law 588 = .ok (.iaload, 1) := by decide +kernel
theorem dL_law_589 : decode cL_law 589 = .ok (.invokevirtual 132, 3) := by decide +kernel
theorem dL_law_592 : decode cL_law 592 = .ok (.istore 6, 2) := by decide +kernel
theorem dL_law_594 : decode cL_law 594 = .ok (.aload_n 2, 1) := by decide +kernel
theorem dL_law_595 : decode cL_law 595 = .ok (.invokevirtual 95, 3) := by decide +kernel
theorem dL_law_598 : decode cL_law 598 = .ok (.iload 5, 2) := by decide +kernel
theorem dL_law_600 : decode cL_law 600 = .ok (.if_icmp .eq 5, 3) := by decide +kernel
theorem dL_law_603 : decode cL_law 603 = .ok (.iconst 0, 1) := by decide +kernel
theorem dL_law_604 : decode cL_law 604 = .ok (.ireturn, 1) := by decide +kernel
theorem dL_law_605 : decode cL_law 605 = .ok (.iload 5, 2) := by decide +kernel
theorem dL_law_607 : decode cL_law 607 = .ok (.ifCond .ne 15, 3) := by decide +kernel
theorem dL_law_610 : decode cL_law 610 = .ok (.aload_n 3, 1) := by decide +kernel
theorem dL_law_611 : decode cL_law 611 = .ok (.iconst 0, 1) := by decide +kernel
theorem dL_law_612 : decode cL_law 612 = .ok (.laload, 1) := by decide +kernel
theorem dL_law_613 : decode cL_law 613 = .ok (.iload 6, 2) := by decide +kernel
theorem dL_law_615 : decode cL_law 615 = .ok (.i2l, 1) := by decide +kernel
theorem dL_law_616 : decode cL_law 616 = .ok (.lcmp, 1) := by decide +kernel
theorem dL_law_617 : decode cL_law 617 = .ok (.ifCond .eq 5, 3) := by decide +kernel
theorem dL_law_620 : decode cL_law 620 = .ok (.iconst 0, 1) := by decide +kernel
theorem dL_law_621 : decode cL_law 621 = .ok (.ireturn, 1) := by decide +kernel
theorem dL_law_622 : decode cL_law 622 = .ok (.goto 786, 3) := by decide +kernel
theorem dL_law_625 : decode cL_law 625 = .ok (.aload_n 1, 1) := by decide +kernel
theorem dL_law_626 : decode cL_law 626 = .ok (.aload_n 0, 1) := by decide +kernel
theorem dL_law_627 : decode cL_law 627 = .ok (.iload 4, 2) := by decide +kernel
theorem dL_law_629 : decode cL_law 629 = .ok (.iconst 1, 1) := by decide +kernel
theorem dL_law_630 : decode cL_law 630 = .ok (.iadd, 1) := by decide +kernel
theorem dL_law_631 : decode cL_law 631 = .ok (.iaload, 1) := by decide +kernel
theorem dL_law_632 : decode cL_law 632 = .ok (.aload_n 3, 1) := by decide +kernel
theorem dL_law_633 : decode cL_law 633 = .ok (.invokestatic 133, 3) := by decide +kernel
theorem dL_law_636 : decode cL_law 636 = .ok (.istore 5, 2) := by decide +kernel
theorem dL_law_638 : decode cL_law 638 = .ok (.aload_n 2, 1) := by decide +kernel
theorem dL_law_639 : decode cL_law 639 = .ok (.aload_n 0, 1) := by decide +kernel
theorem dL_law_640 : decode cL_law 640 = .ok (.iload 4, 2) := by decide +kernel
theorem dL_law_642 : decode cL_law 642 = .ok (.iconst 1, 1) := by decide +kernel
theorem dL_law_643 : decode cL_law 643 = .ok (.iadd, 1) := by decide +kernel
theorem dL_law_644 : decode cL_law 644 = .ok (.iaload, 1) := by decide +kernel
theorem dL_law_645 : decode cL_law 645 = .ok (.invokevirtual 135, 3) := by decide +kernel
theorem dL_law_648 : decode cL_law 648 = .ok (.istore 6, 2) := by decide +kernel
theorem dL_law_650 : decode cL_law 650 = .ok (.aload_n 2, 1) := by decide +kernel
theorem dL_law_651 : decode cL_law 651 = .ok (.invokevirtual 95, 3) := by decide +kernel
theorem dL_law_654 : decode cL_law 654 = .ok (.iload 5, 2) := by decide +kernel
theorem dL_law_656 : decode cL_law 656 = .ok (.if_icmp .eq 5, 3) := by decide +kernel
theorem dL_law_659 : decode cL_law 659 = .ok (.iconst 0, 1) := by decide +kernel
theorem dL_law_660 : decode cL_law 660 = .ok (.ireturn, 1) := by decide +kernel
theorem dL_law_661 : decode cL_law 661 = .ok (.iload 5, 2) := by decide +kernel
theorem dL_law_663 : decode cL_law 663 = .ok (.ifCond .ne 15, 3) := by decide +kernel
theorem dL_law_666 : decode cL_law 666 = .ok (.aload_n 3, 1) := by decide +kernel
theorem dL_law_667 : decode cL_law 667 = .ok (.iconst 0, 1) := by decide +kernel
theorem dL_law_668 : decode cL_law 668 = .ok (.laload, 1) := by decide +kernel
theorem dL_law_669 : decode cL_law 669 = .ok (.iload 6, 2) := by decide +kernel
theorem dL_law_671 : decode cL_law 671 = .ok (.i2l, 1) := by decide +kernel
theorem dL_law_672 : decode cL_law 672 = .ok (.lcmp, 1) := by decide +kernel
theorem dL_law_673 : decode cL_law 673 = .ok (.ifCond .eq 5, 3) := by decide +kernel
theorem dL_law_676 : decode cL_law 676 = .ok (.iconst 0, 1) := by decide +kernel
theorem dL_law_677 : decode cL_law 677 = .ok (.ireturn, 1) := by decide +kernel
theorem dL_law_678 : decode cL_law 678 = .ok (.goto 730, 3) := by decide +kernel
theorem dL_law_681 : decode cL_law 681 = .ok (.aload_n 1, 1) := by decide +kernel
theorem dL_law_682 : decode cL_law 682 = .ok (.aload_n 0, 1) := by decide +kernel
theorem dL_law_683 : decode cL_law 683 = .ok (.iload 4, 2) := by decide +kernel
theorem dL_law_685 : decode cL_law 685 = .ok (.iconst 1, 1) := by decide +kernel
theorem dL_law_686 : decode cL_law 686 = .ok (.iadd, 1) := by decide +kernel
theorem dL_law_687 : decode cL_law 687 = .ok (.iaload, 1) := by decide +kernel
theorem dL_law_688 : decode cL_law 688 = .ok (.aload_n 3, 1) := by decide +kernel
theorem dL_law_689 : decode cL_law 689 = .ok (.invokestatic 136, 3) := by decide +kernel
theorem dL_law_692 : decode cL_law 692 = .ok (.istore 5, 2) := by decide +kernel
theorem dL_law_694 : decode cL_law 694 = .ok (.aload_n 2, 1) := by decide +kernel
theorem dL_law_695 : decode cL_law 695 = .ok (.aload_n 0, 1) := by decide +kernel
theorem dL_law_696 : decode cL_law 696 = .ok (.iload 4, 2) := by decide +kernel
theorem dL_law_698 : decode cL_law 698 = .ok (.iconst 1, 1) := by decide +kernel
theorem dL_law_699 : decode cL_law 699 = .ok (.iadd, 1) := by decide +kernel
theorem dL_law_700 : decode cL_law 700 = .ok (.iaload, 1) := by decide +kernel
theorem dL_law_701 : decode cL_law 701 = .ok (.invokevirtual 138, 3) := by decide +kernel
theorem dL_law_704 : decode cL_law 704 = .ok (.istore 6, 2) := by decide +kernel
theorem dL_law_706 : decode cL_law 706 = .ok (.aload_n 2, 1) := by decide +kernel
theorem dL_law_707 : decode cL_law 707 = .ok (.invokevirtual 95, 3) := by decide +kernel
theorem dL_law_710 : decode cL_law 710 = .ok (.iload 5, 2) := by decide +kernel
theorem dL_law_712 : decode cL_law 712 = .ok (.if_icmp .eq 5, 3) := by decide +kernel
theorem dL_law_715 : decode cL_law 715 = .ok (.iconst 0, 1) := by decide +kernel
theorem dL_law_716 : decode cL_law 716 = .ok (.ireturn, 1) := by decide +kernel
theorem dL_law_717 : decode cL_law 717 = .ok (.iload 5, 2) := by decide +kernel
theorem dL_law_719 : decode cL_law 719 = .ok (.ifCond .ne 15, 3) := by decide +kernel
theorem dL_law_722 : decode cL_law 722 = .ok (.aload_n 3, 1) := by decide +kernel
theorem dL_law_723 : decode cL_law 723 = .ok (.iconst 0, 1) := by decide +kernel
theorem dL_law_724 : decode cL_law 724 = .ok (.laload, 1) := by decide +kernel
theorem dL_law_725 : decode cL_law 725 = .ok (.iload 6, 2) := by decide +kernel
theorem dL_law_727 : decode cL_law 727 = .ok (.i2l, 1) := by decide +kernel
theorem dL_law_728 : decode cL_law 728 = .ok (.lcmp, 1) := by decide +kernel
theorem dL_law_729 : decode cL_law 729 = .ok (.ifCond .eq 5, 3) := by decide +kernel
theorem dL_law_732 : decode cL_law 732 = .ok (.iconst 0, 1) := by decide +kernel
theorem dL_law_733 : decode cL_law 733 = .ok (.ireturn, 1) := by decide +kernel
theorem dL_law_734 : decode cL_law 734 = .ok (.goto 674, 3) := by decide +kernel
theorem dL_law_737 : decode cL_law 737 = .ok (.aload_n 1, 1) := by decide +kernel
theorem dL_law_738 : decode cL_law 738 = .ok (.aload_n 0, 1) := by decide +kernel
theorem dL_law_739 : decode cL_law 739 = .ok (.iload 4, 2) := by decide +kernel
theorem dL_law_741 : decode cL_law 741 = .ok (.iconst 1, 1) := by decide +kernel
theorem dL_law_742 : decode cL_law 742 = .ok (.iadd, 1) := by decide +kernel
theorem dL_law_743 : decode cL_law 743 = .ok (.iaload, 1) := by decide +kernel
theorem dL_law_744 : decode cL_law 744 = .ok (.aload_n 3, 1) := by decide +kernel
theorem dL_law_745 : decode cL_law 745 = .ok (.invokestatic 139, 3) := by decide +kernel
theorem dL_law_748 : decode cL_law 748 = .ok (.istore 5, 2) := by decide +kernel
theorem dL_law_750 : decode cL_law 750 = .ok (.aload_n 2, 1) := by decide +kernel
theorem dL_law_751 : decode cL_law 751 = .ok (.aload_n 0, 1) := by decide +kernel
theorem dL_law_752 : decode cL_law 752 = .ok (.iload 4, 2) := by decide +kernel
theorem dL_law_754 : decode cL_law 754 = .ok (.iconst 1, 1) := by decide +kernel
theorem dL_law_755 : decode cL_law 755 = .ok (.iadd, 1) := by decide +kernel
theorem dL_law_756 : decode cL_law 756 = .ok (.iaload, 1) := by decide +kernel
theorem dL_law_757 : decode cL_law 757 = .ok (.invokevirtual 141, 3) := by decide +kernel
theorem dL_law_760 : decode cL_law 760 = .ok (.istore 6, 2) := by decide +kernel
theorem dL_law_762 : decode cL_law 762 = .ok (.aload_n 2, 1) := by decide +kernel
theorem dL_law_763 : decode cL_law 763 = .ok (.invokevirtual 95, 3) := by decide +kernel
theorem dL_law_766 : decode cL_law 766 = .ok (.iload 5, 2) := by decide +kernel
theorem dL_law_768 : decode cL_law 768 = .ok (.if_icmp .eq 5, 3) := by decide +kernel
theorem dL_law_771 : decode cL_law 771 = .ok (.iconst 0, 1) := by decide +kernel
theorem dL_law_772 : decode cL_law 772 = .ok (.ireturn, 1) := by decide +kernel
theorem dL_law_773 : decode cL_law 773 = .ok (.iload 5, 2) := by decide +kernel
theorem dL_law_775 : decode cL_law 775 = .ok (.ifCond .ne 15, 3) := by decide +kernel
theorem dL_law_778 : decode cL_law 778 = .ok (.aload_n 3, 1) := by decide +kernel
theorem dL_law_779 : decode cL_law 779 = .ok (.iconst 0, 1) := by decide +kernel
theorem dL_law_780 : decode cL_law 780 = .ok (.laload, 1) := by decide +kernel
theorem dL_law_781 : decode cL_law 781 = .ok (.iload 6, 2) := by decide +kernel
theorem dL_law_783 : decode cL_law 783 = .ok (.i2l, 1) := by decide +kernel
theorem dL_law_784 : decode cL_law 784 = .ok (.lcmp, 1) := by decide +kernel
theorem dL_law_785 : decode cL_law 785 = .ok (.ifCond .eq 5, 3) := by decide +kernel
theorem dL_law_788 : decode cL_law 788 = .ok (.iconst 0, 1) := by decide +kernel
theorem dL_law_789 : decode cL_law 789 = .ok (.ireturn, 1) := by decide +kernel
theorem dL_law_790 : decode cL_law 790 = .ok (.goto 618, 3) := by decide +kernel
theorem dL_law_793 : decode cL_law 793 = .ok (.aload_n 1, 1) := by decide +kernel
theorem dL_law_794 : decode cL_law 794 = .ok (.aload_n 0, 1) := by decide +kernel
theorem dL_law_795 : decode cL_law 795 = .ok (.iload 4, 2) := by decide +kernel
theorem dL_law_797 : decode cL_law 797 = .ok (.iconst 1, 1) := by decide +kernel
theorem dL_law_798 : decode cL_law 798 = .ok (.iadd, 1) := by decide +kernel
theorem dL_law_799 : decode cL_law 799 = .ok (.iaload, 1) := by decide +kernel
theorem dL_law_800 : decode cL_law 800 = .ok (.aload_n 3, 1) := by decide +kernel
theorem dL_law_801 : decode cL_law 801 = .ok (.invokestatic 142, 3) := by decide +kernel
theorem dL_law_804 : decode cL_law 804 = .ok (.istore 5, 2) := by decide +kernel
theorem dL_law_806 : decode cL_law 806 = .ok (.aload_n 2, 1) := by decide +kernel
theorem dL_law_807 : decode cL_law 807 = .ok (.aload_n 0, 1) := by decide +kernel
theorem dL_law_808 : decode cL_law 808 = .ok (.iload 4, 2) := by decide +kernel
theorem dL_law_810 : decode cL_law 810 = .ok (.iconst 1, 1) := by decide +kernel
theorem dL_law_811 : decode cL_law 811 = .ok (.iadd, 1) := by decide +kernel
theorem dL_law_812 : decode cL_law 812 = .ok (.iaload, 1) := by decide +kernel
theorem dL_law_813 : decode cL_law 813 = .ok (.invokevirtual 144, 3) := by decide +kernel
theorem dL_law_816 : decode cL_law 816 = .ok (.istore 6, 2) := by decide +kernel
theorem dL_law_818 : decode cL_law 818 = .ok (.aload_n 2, 1) := by decide +kernel
theorem dL_law_819 : decode cL_law 819 = .ok (.invokevirtual 95, 3) := by decide +kernel
theorem dL_law_822 : decode cL_law 822 = .ok (.iload 5, 2) := by decide +kernel
theorem dL_law_824 : decode cL_law 824 = .ok (.if_icmp .eq 5, 3) := by decide +kernel
theorem dL_law_827 : decode cL_law 827 = .ok (.iconst 0, 1) := by decide +kernel
theorem dL_law_828 : decode cL_law 828 = .ok (.ireturn, 1) := by decide +kernel
theorem dL_law_829 : decode cL_law 829 = .ok (.iload 5, 2) := by decide +kernel
theorem dL_law_831 : decode cL_law 831 = .ok (.ifCond .ne 15, 3) := by decide +kernel
theorem dL_law_834 : decode cL_law 834 = .ok (.aload_n 3, 1) := by decide +kernel
theorem dL_law_835 : decode cL_law 835 = .ok (.iconst 0, 1) := by decide +kernel
theorem dL_law_836 : decode cL_law 836 = .ok (.laload, 1) := by decide +kernel
theorem dL_law_837 : decode cL_law 837 = .ok (.iload 6, 2) := by decide +kernel
theorem dL_law_839 : decode cL_law 839 = .ok (.i2l, 1) := by decide +kernel
theorem dL_law_840 : decode cL_law 840 = .ok (.lcmp, 1) := by decide +kernel
theorem dL_law_841 : decode cL_law 841 = .ok (.ifCond .eq 5, 3) := by decide +kernel
theorem dL_law_844 : decode cL_law 844 = .ok (.iconst 0, 1) := by decide +kernel
theorem dL_law_845 : decode cL_law 845 = .ok (.ireturn, 1) := by decide +kernel
theorem dL_law_846 : decode cL_law 846 = .ok (.goto 562, 3) := by decide +kernel
theorem dL_law_849 : decode cL_law 849 = .ok (.aload_n 1, 1) := by decide +kernel
theorem dL_law_850 : decode cL_law 850 = .ok (.aload_n 0, 1) := by decide +kernel
theorem dL_law_851 : decode cL_law 851 = .ok (.iload 4, 2) := by decide +kernel
theorem dL_law_853 : decode cL_law 853 = .ok (.iconst 1, 1) := by decide +kernel
theorem dL_law_854 : decode cL_law 854 = .ok (.iadd, 1) := by decide +kernel
theorem dL_law_855 : decode cL_law 855 = .ok (.iaload, 1) := by decide +kernel
theorem dL_law_856 : decode cL_law 856 = .ok (.aload_n 3, 1) := by decide +kernel
theorem dL_law_857 : decode cL_law 857 = .ok (.invokestatic 145, 3) := by decide +kernel
theorem dL_law_860 : decode cL_law 860 = .ok (.istore 5, 2) := by decide +kernel
theorem dL_law_862 : decode cL_law 862 = .ok (.aload_n 2, 1) := by decide +kernel
theorem dL_law_863 : decode cL_law 863 = .ok (.aload_n 0, 1) := by decide +kernel
theorem dL_law_864 : decode cL_law 864 = .ok (.iload 4, 2) := by decide +kernel
theorem dL_law_866 : decode cL_law 866 = .ok (.iconst 1, 1) := by decide +kernel
theorem dL_law_867 : decode cL_law 867 = .ok (.iadd, 1) := by decide +kernel
theorem dL_law_868 : decode cL_law 868 = .ok (.iaload, 1) := by decide +kernel
theorem dL_law_869 : decode cL_law 869 = .ok (.invokevirtual 147, 3) := by decide +kernel
theorem dL_law_872 : decode cL_law 872 = .ok (.istore 6, 2) := by decide +kernel
theorem dL_law_874 : decode cL_law 874 = .ok (.aload_n 2, 1) := by decide +kernel
theorem dL_law_875 : decode cL_law 875 = .ok (.invokevirtual 95, 3) := by decide +kernel
theorem dL_law_878 : decode cL_law 878 = .ok (.iload 5, 2) := by decide +kernel
theorem dL_law_880 : decode cL_law 880 = .ok (.if_icmp .eq 5, 3) := by decide +kernel
theorem dL_law_883 : decode cL_law 883 = .ok (.iconst 0, 1) := by decide +kernel
theorem dL_law_884 : decode cL_law 884 = .ok (.ireturn, 1) := by decide +kernel
theorem dL_law_885 : decode cL_law 885 = .ok (.iload 5, 2) := by decide +kernel
theorem dL_law_887 : decode cL_law 887 = .ok (.ifCond .ne 15, 3) := by decide +kernel
theorem dL_law_890 : decode cL_law 890 = .ok (.aload_n 3, 1) := by decide +kernel
theorem dL_law_891 : decode cL_law 891 = .ok (.iconst 0, 1) := by decide +kernel
theorem dL_law_892 : decode cL_law 892 = .ok (.laload, 1) := by decide +kernel
theorem dL_law_893 : decode cL_law 893 = .ok (.iload 6, 2) := by decide +kernel
theorem dL_law_895 : decode cL_law 895 = .ok (.i2l, 1) := by decide +kernel
theorem dL_law_896 : decode cL_law 896 = .ok (.lcmp, 1) := by decide +kernel
theorem dL_law_897 : decode cL_law 897 = .ok (.ifCond .eq 5, 3) := by decide +kernel
theorem dL_law_900 : decode cL_law 900 = .ok (.iconst 0, 1) := by decide +kernel
theorem dL_law_901 : decode cL_law 901 = .ok (.ireturn, 1) := by decide +kernel
theorem dL_law_902 : decode cL_law 902 = .ok (.goto 506, 3) := by decide +kernel
theorem dL_law_905 : decode cL_law 905 = .ok (.aload_n 1, 1) := by decide +kernel
theorem dL_law_906 : decode cL_law 906 = .ok (.aload_n 0, 1) := by decide +kernel
theorem dL_law_907 : decode cL_law 907 = .ok (.iload 4, 2) := by decide +kernel
theorem dL_law_909 : decode cL_law 909 = .ok (.iconst 1, 1) := by decide +kernel
theorem dL_law_910 : decode cL_law 910 = .ok (.iadd, 1) := by decide +kernel
theorem dL_law_911 : decode cL_law 911 = .ok (.iaload, 1) := by decide +kernel
theorem dL_law_912 : decode cL_law 912 = .ok (.aload_n 3, 1) := by decide +kernel
theorem dL_law_913 : decode cL_law 913 = .ok (.invokestatic 148, 3) := by decide +kernel
theorem dL_law_916 : decode cL_law 916 = .ok (.istore 5, 2) := by decide +kernel
theorem dL_law_918 : decode cL_law 918 = .ok (.aload_n 2, 1) := by decide +kernel
theorem dL_law_919 : decode cL_law 919 = .ok (.aload_n 0, 1) := by decide +kernel
theorem dL_law_920 : decode cL_law 920 = .ok (.iload 4, 2) := by decide +kernel
theorem dL_law_922 : decode cL_law 922 = .ok (.iconst 1, 1) := by decide +kernel
theorem dL_law_923 : decode cL_law 923 = .ok (.iadd, 1) := by decide +kernel
theorem dL_law_924 : decode cL_law 924 = .ok (.iaload, 1) := by decide +kernel
theorem dL_law_925 : decode cL_law 925 = .ok (.invokevirtual 150, 3) := by decide +kernel
theorem dL_law_928 : decode cL_law 928 = .ok (.istore 6, 2) := by decide +kernel
theorem dL_law_930 : decode cL_law 930 = .ok (.aload_n 2, 1) := by decide +kernel
theorem dL_law_931 : decode cL_law 931 = .ok (.invokevirtual 95, 3) := by decide +kernel
theorem dL_law_934 : decode cL_law 934 = .ok (.iload 5, 2) := by decide +kernel
theorem dL_law_936 : decode cL_law 936 = .ok (.if_icmp .eq 5, 3) := by decide +kernel
theorem dL_law_939 : decode cL_law 939 = .ok (.iconst 0, 1) := by decide +kernel
theorem dL_law_940 : decode cL_law 940 = .ok (.ireturn, 1) := by decide +kernel
theorem dL_law_941 : decode cL_law 941 = .ok (.iload 5, 2) := by decide +kernel
theorem dL_law_943 : decode cL_law 943 = .ok (.ifCond .ne 15, 3) := by decide +kernel
theorem dL_law_946 : decode cL_law 946 = .ok (.aload_n 3, 1) := by decide +kernel
theorem dL_law_947 : decode cL_law 947 = .ok (.iconst 0, 1) := by decide +kernel
theorem dL_law_948 : decode cL_law 948 = .ok (.laload, 1) := by decide +kernel
theorem dL_law_949 : decode cL_law 949 = .ok (.iload 6, 2) := by decide +kernel
theorem dL_law_951 : decode cL_law 951 = .ok (.i2l, 1) := by decide +kernel
theorem dL_law_952 : decode cL_law 952 = .ok (.lcmp, 1) := by decide +kernel
theorem dL_law_953 : decode cL_law 953 = .ok (.ifCond .eq 5, 3) := by decide +kernel
theorem dL_law_956 : decode cL_law 956 = .ok (.iconst 0, 1) := by decide +kernel
theorem dL_law_957 : decode cL_law 957 = .ok (.ireturn, 1) := by decide +kernel
theorem dL_law_958 : decode cL_law 958 = .ok (.goto 450, 3) := by decide +kernel
theorem dL_law_961 : decode cL_law 961 = .ok (.aload_n 1, 1) := by decide +kernel
theorem dL_law_962 : decode cL_law 962 = .ok (.aload_n 0, 1) := by decide +kernel
theorem dL_law_963 : decode cL_law 963 = .ok (.iload 4, 2) := by decide +kernel
theorem dL_law_965 : decode cL_law 965 = .ok (.iconst 1, 1) := by decide +kernel
theorem dL_law_966 : decode cL_law 966 = .ok (.iadd, 1) := by decide +kernel
theorem dL_law_967 : decode cL_law 967 = .ok (.iaload, 1) := by decide +kernel
theorem dL_law_968 : decode cL_law 968 = .ok (.aload_n 0, 1) := by decide +kernel
theorem dL_law_969 : decode cL_law 969 = .ok (.iload 4, 2) := by decide +kernel
theorem dL_law_971 : decode cL_law 971 = .ok (.iconst 2, 1) := by decide +kernel
theorem dL_law_972 : decode cL_law 972 = .ok (.iadd, 1) := by decide +kernel
theorem dL_law_973 : decode cL_law 973 = .ok (.iaload, 1) := by decide +kernel
theorem dL_law_974 : decode cL_law 974 = .ok (.aload_n 3, 1) := by decide +kernel
theorem dL_law_975 : decode cL_law 975 = .ok (.invokestatic 151, 3) := by decide +kernel
theorem dL_law_978 : decode cL_law 978 = .ok (.istore 5, 2) := by decide +kernel
theorem dL_law_980 : decode cL_law 980 = .ok (.aload_n 2, 1) := by decide +kernel
theorem dL_law_981 : decode cL_law 981 = .ok (.aload_n 0, 1) := by decide +kernel
theorem dL_law_982 : decode cL_law 982 = .ok (.iload 4, 2) := by decide +kernel
theorem dL_law_984 : decode cL_law 984 = .ok (.iconst 1, 1) := by decide +kernel
theorem dL_law_985 : decode cL_law 985 = .ok (.iadd, 1) := by decide +kernel
theorem dL_law_986 : decode cL_law 986 = .ok (.iaload, 1) := by decide +kernel
theorem dL_law_987 : decode cL_law 987 = .ok (.aload_n 0, 1) := by decide +kernel
theorem dL_law_988 : decode cL_law 988 = .ok (.iload 4, 2) := by decide +kernel
theorem dL_law_990 : decode cL_law 990 = .ok (.iconst 2, 1) := by decide +kernel
theorem dL_law_991 : decode cL_law 991 = .ok (.iadd, 1) := by decide +kernel
theorem dL_law_992 : decode cL_law 992 = .ok (.iaload, 1) := by decide +kernel
theorem dL_law_993 : decode cL_law 993 = .ok (.invokevirtual 153, 3) := by decide +kernel
theorem dL_law_996 : decode cL_law 996 = .ok (.istore 6, 2) := by decide +kernel
theorem dL_law_998 : decode cL_law 998 = .ok (.aload_n 2, 1) := by decide +kernel
theorem dL_law_999 : decode cL_law 999 = .ok (.invokevirtual 95, 3) := by decide +kernel
theorem dL_law_1002 : decode cL_law 1002 = .ok (.iload 5, 2) := by decide +kernel
theorem dL_law_1004 : decode cL_law 1004 = .ok (.if_icmp .eq 5, 3) := by decide +kernel
theorem dL_law_1007 : decode cL_law 1007 = .ok (.iconst 0, 1) := by decide +kernel
theorem dL_law_1008 : decode cL_law 1008 = .ok (.ireturn, 1) := by decide +kernel
theorem dL_law_1009 : decode cL_law 1009 = .ok (.iload 5, 2) := by decide +kernel
theorem dL_law_1011 : decode cL_law 1011 = .ok (.ifCond .ne 15, 3) := by decide +kernel
theorem dL_law_1014 : decode cL_law 1014 = .ok (.aload_n 3, 1) := by decide +kernel
theorem dL_law_1015 : decode cL_law 1015 = .ok (.iconst 0, 1) := by decide +kernel
theorem dL_law_1016 : decode cL_law 1016 = .ok (.laload, 1) := by decide +kernel
theorem dL_law_1017 : decode cL_law 1017 = .ok (.iload 6, 2) := by decide +kernel
theorem dL_law_1019 : decode cL_law 1019 = .ok (.i2l, 1) := by decide +kernel
theorem dL_law_1020 : decode cL_law 1020 = .ok (.lcmp, 1) := by decide +kernel
theorem dL_law_1021 : decode cL_law 1021 = .ok (.ifCond .eq 5, 3) := by decide +kernel
theorem dL_law_1024 : decode cL_law 1024 = .ok (.iconst 0, 1) := by decide +kernel
theorem dL_law_1025 : decode cL_law 1025 = .ok (.ireturn, 1) := by decide +kernel
theorem dL_law_1026 : decode cL_law 1026 = .ok (.goto 382, 3) := by decide +kernel
theorem dL_law_1029 : decode cL_law 1029 = .ok (.aload_n 1, 1) := by decide +kernel
theorem dL_law_1030 : decode cL_law 1030 = .ok (.aload_n 0, 1) := by decide +kernel
theorem dL_law_1031 : decode cL_law 1031 = .ok (.iload 4, 2) := by decide +kernel
theorem dL_law_1033 : decode cL_law 1033 = .ok (.iconst 1, 1) := by decide +kernel
theorem dL_law_1034 : decode cL_law 1034 = .ok (.iadd, 1) := by decide +kernel
theorem dL_law_1035 : decode cL_law 1035 = .ok (.iaload, 1) := by decide +kernel
theorem dL_law_1036 : decode cL_law 1036 = .ok (.aload_n 3, 1) := by decide +kernel
theorem dL_law_1037 : decode cL_law 1037 = .ok (.invokestatic 154, 3) := by decide +kernel
theorem dL_law_1040 : decode cL_law 1040 = .ok (.istore 5, 2) := by decide +kernel
theorem dL_law_1042 : decode cL_law 1042 = .ok (.aload_n 2, 1) := by decide +kernel
theorem dL_law_1043 : decode cL_law 1043 = .ok (.aload_n 0, 1) := by decide +kernel
theorem dL_law_1044 : decode cL_law 1044 = .ok (.iload 4, 2) := by decide +kernel
theorem dL_law_1046 : decode cL_law 1046 = .ok (.iconst 1, 1) := by decide +kernel
theorem dL_law_1047 : decode cL_law 1047 = .ok (.iadd, 1) := by decide +kernel
theorem dL_law_1048 : decode cL_law 1048 = .ok (.iaload, 1) := by decide +kernel
theorem dL_law_1049 : decode cL_law 1049 = .ok (.invokevirtual 156, 3) := by decide +kernel
theorem dL_law_1052 : decode cL_law 1052 = .ok (.istore 6, 2) := by decide +kernel
theorem dL_law_1054 : decode cL_law 1054 = .ok (.aload_n 2, 1) := by decide +kernel
theorem dL_law_1055 : decode cL_law 1055 = .ok (.invokevirtual 95, 3) := by decide +kernel
theorem dL_law_1058 : decode cL_law 1058 = .ok (.iload 5, 2) := by decide +kernel
theorem dL_law_1060 : decode cL_law 1060 = .ok (.if_icmp .eq 5, 3) := by decide +kernel
theorem dL_law_1063 : decode cL_law 1063 = .ok (.iconst 0, 1) := by decide +kernel
theorem dL_law_1064 : decode cL_law 1064 = .ok (.ireturn, 1) := by decide +kernel
theorem dL_law_1065 : decode cL_law 1065 = .ok (.iload 5, 2) := by decide +kernel
theorem dL_law_1067 : decode cL_law 1067 = .ok (.ifCond .ne 22, 3) := by decide +kernel
theorem dL_law_1070 : decode cL_law 1070 = .ok (.aload_n 3, 1) := by decide +kernel
theorem dL_law_1071 : decode cL_law 1071 = .ok (.iconst 0, 1) := by decide +kernel
theorem dL_law_1072 : decode cL_law 1072 = .ok (.laload, 1) := by decide +kernel
theorem dL_law_1073 : decode cL_law 1073 = .ok (.iload 6, 2) := by decide +kernel
theorem dL_law_1075 : decode cL_law 1075 = .ok (.ifCond .eq 7, 3) := by decide +kernel
theorem dL_law_1078 : decode cL_law 1078 = .ok (.lconst 1, 1) := by decide +kernel
theorem dL_law_1079 : decode cL_law 1079 = .ok (.goto 4, 3) := by decide +kernel
theorem dL_law_1082 : decode cL_law 1082 = .ok (.lconst 0, 1) := by decide +kernel
theorem dL_law_1083 : decode cL_law 1083 = .ok (.lcmp, 1) := by decide +kernel
theorem dL_law_1084 : decode cL_law 1084 = .ok (.ifCond .eq 5, 3) := by decide +kernel
theorem dL_law_1087 : decode cL_law 1087 = .ok (.iconst 0, 1) := by decide +kernel
theorem dL_law_1088 : decode cL_law 1088 = .ok (.ireturn, 1) := by decide +kernel
theorem dL_law_1089 : decode cL_law 1089 = .ok (.goto 319, 3) := by decide +kernel
theorem dL_law_1092 : decode cL_law 1092 = .ok (.aload_n 1, 1) := by decide +kernel
theorem dL_law_1093 : decode cL_law 1093 = .ok (.invokevirtual 157, 3) := by decide +kernel
theorem dL_law_1096 : decode cL_law 1096 = .ok (.aload_n 2, 1) := by decide +kernel
theorem dL_law_1097 : decode cL_law 1097 = .ok (.invokevirtual 160, 3) := by decide +kernel
theorem dL_law_1100 : decode cL_law 1100 = .ok (.if_icmp .eq 308, 3) := by decide +kernel
theorem dL_law_1103 : decode cL_law 1103 = .ok (.iconst 0, 1) := by decide +kernel
theorem dL_law_1104 : decode cL_law 1104 = .ok (.ireturn, 1) := by decide +kernel
theorem dL_law_1105 : decode cL_law 1105 = .ok (.aload_n 1, 1) := by decide +kernel
theorem dL_law_1106 : decode cL_law 1106 = .ok (.aload_n 0, 1) := by decide +kernel
theorem dL_law_1107 : decode cL_law 1107 = .ok (.iload 4, 2) := by decide +kernel
theorem dL_law_1109 : decode cL_law 1109 = .ok (.iconst 1, 1) := by decide +kernel
theorem dL_law_1110 : decode cL_law 1110 = .ok (.iadd, 1) := by decide +kernel
theorem dL_law_1111 : decode cL_law 1111 = .ok (.iaload, 1) := by decide +kernel
theorem dL_law_1112 : decode cL_law 1112 = .ok (.aload_n 3, 1) := by decide +kernel
theorem dL_law_1113 : decode cL_law 1113 = .ok (.invokestatic 161, 3) := by decide +kernel
theorem dL_law_1116 : decode cL_law 1116 = .ok (.istore 5, 2) := by decide +kernel
theorem dL_law_1118 : decode cL_law 1118 = .ok (.aload_n 2, 1) := by decide +kernel
theorem dL_law_1119 : decode cL_law 1119 = .ok (.aload_n 0, 1) := by decide +kernel
theorem dL_law_1120 : decode cL_law 1120 = .ok (.iload 4, 2) := by decide +kernel
theorem dL_law_1122 : decode cL_law 1122 = .ok (.iconst 1, 1) := by decide +kernel
theorem dL_law_1123 : decode cL_law 1123 = .ok (.iadd, 1) := by decide +kernel
theorem dL_law_1124 : decode cL_law 1124 = .ok (.iaload, 1) := by decide +kernel
theorem dL_law_1125 : decode cL_law 1125 = .ok (.invokevirtual 163, 3) := by decide +kernel
theorem dL_law_1128 : decode cL_law 1128 = .ok (.istore 6, 2) := by decide +kernel
theorem dL_law_1130 : decode cL_law 1130 = .ok (.aload_n 2, 1) := by decide +kernel
theorem dL_law_1131 : decode cL_law 1131 = .ok (.invokevirtual 95, 3) := by decide +kernel
theorem dL_law_1134 : decode cL_law 1134 = .ok (.iload 5, 2) := by decide +kernel
theorem dL_law_1136 : decode cL_law 1136 = .ok (.if_icmp .eq 5, 3) := by decide +kernel
theorem dL_law_1139 : decode cL_law 1139 = .ok (.iconst 0, 1) := by decide +kernel
theorem dL_law_1140 : decode cL_law 1140 = .ok (.ireturn, 1) := by decide +kernel
theorem dL_law_1141 : decode cL_law 1141 = .ok (.iload 5, 2) := by decide +kernel
theorem dL_law_1143 : decode cL_law 1143 = .ok (.ifCond .ne 15, 3) := by decide +kernel
theorem dL_law_1146 : decode cL_law 1146 = .ok (.aload_n 3, 1) := by decide +kernel
theorem dL_law_1147 : decode cL_law 1147 = .ok (.iconst 0, 1) := by decide +kernel
theorem dL_law_1148 : decode cL_law 1148 = .ok (.laload, 1) := by decide +kernel
theorem dL_law_1149 : decode cL_law 1149 = .ok (.iload 6, 2) := by decide +kernel
theorem dL_law_1151 : decode cL_law 1151 = .ok (.i2l, 1) := by decide +kernel
theorem dL_law_1152 : decode cL_law 1152 = .ok (.lcmp, 1) := by decide +kernel
theorem dL_law_1153 : decode cL_law 1153 = .ok (.ifCond .eq 5, 3) := by decide +kernel
theorem dL_law_1156 : decode cL_law 1156 = .ok (.iconst 0, 1) := by decide +kernel
theorem dL_law_1157 : decode cL_law 1157 = .ok (.ireturn, 1) := by decide +kernel
theorem dL_law_1158 : decode cL_law 1158 = .ok (.goto 250, 3) := by decide +kernel
theorem dL_law_1161 : decode cL_law 1161 = .ok (.aload_n 1, 1) := by decide +kernel
theorem dL_law_1162 : decode cL_law 1162 = .ok (.aload_n 0, 1) := by decide +kernel
theorem dL_law_1163 : decode cL_law 1163 = .ok (.iload 4, 2) := by decide +kernel
theorem dL_law_1165 : decode cL_law 1165 = .ok (.iconst 1, 1) := by decide +kernel
theorem dL_law_1166 : decode cL_law 1166 = .ok (.iadd, 1) := by decide +kernel
theorem dL_law_1167 : decode cL_law 1167 = .ok (.iaload, 1) := by decide +kernel
theorem dL_law_1168 : decode cL_law 1168 = .ok (.aload_n 3, 1) := by decide +kernel
theorem dL_law_1169 : decode cL_law 1169 = .ok (.invokestatic 164, 3) := by decide +kernel
theorem dL_law_1172 : decode cL_law 1172 = .ok (.istore 5, 2) := by decide +kernel
theorem dL_law_1174 : decode cL_law 1174 = .ok (.aload_n 2, 1) := by decide +kernel
theorem dL_law_1175 : decode cL_law 1175 = .ok (.aload_n 0, 1) := by decide +kernel
theorem dL_law_1176 : decode cL_law 1176 = .ok (.iload 4, 2) := by decide +kernel
theorem dL_law_1178 : decode cL_law 1178 = .ok (.iconst 1, 1) := by decide +kernel
theorem dL_law_1179 : decode cL_law 1179 = .ok (.iadd, 1) := by decide +kernel
theorem dL_law_1180 : decode cL_law 1180 = .ok (.iaload, 1) := by decide +kernel
theorem dL_law_1181 : decode cL_law 1181 = .ok (.invokevirtual 166, 3) := by decide +kernel
theorem dL_law_1184 : decode cL_law 1184 = .ok (.istore 6, 2) := by decide +kernel
theorem dL_law_1186 : decode cL_law 1186 = .ok (.aload_n 2, 1) := by decide +kernel
theorem dL_law_1187 : decode cL_law 1187 = .ok (.invokevirtual 95, 3) := by decide +kernel
theorem dL_law_1190 : decode cL_law 1190 = .ok (.iload 5, 2) := by decide +kernel
theorem dL_law_1192 : decode cL_law 1192 = .ok (.if_icmp .eq 5, 3) := by decide +kernel
theorem dL_law_1195 : decode cL_law 1195 = .ok (.iconst 0, 1) := by decide +kernel
theorem dL_law_1196 : decode cL_law 1196 = .ok (.ireturn, 1) := by decide +kernel
theorem dL_law_1197 : decode cL_law 1197 = .ok (.iload 5, 2) := by decide +kernel
theorem dL_law_1199 : decode cL_law 1199 = .ok (.ifCond .ne 15, 3) := by decide +kernel
theorem dL_law_1202 : decode cL_law 1202 = .ok (.aload_n 3, 1) := by decide +kernel
theorem dL_law_1203 : decode cL_law 1203 = .ok (.iconst 0, 1) := by decide +kernel
theorem dL_law_1204 : decode cL_law 1204 = .ok (.laload, 1) := by decide +kernel
theorem dL_law_1205 : decode cL_law 1205 = .ok (.iload 6, 2) := by decide +kernel
theorem dL_law_1207 : decode cL_law 1207 = .ok (.i2l, 1) := by decide +kernel
theorem dL_law_1208 : decode cL_law 1208 = .ok (.lcmp, 1) := by decide +kernel
theorem dL_law_1209 : decode cL_law 1209 = .ok (.ifCond .eq 5, 3) := by decide +kernel
theorem dL_law_1212 : decode cL_law 1212 = .ok (.iconst 0, 1) := by decide +kernel
theorem dL_law_1213 : decode cL_law 1213 = .ok (.ireturn, 1) := by decide +kernel
theorem dL_law_1214 : decode cL_law 1214 = .ok (.goto 194, 3) := by decide +kernel
theorem dL_law_1217 : decode cL_law 1217 = .ok (.aload_n 1, 1) := by decide +kernel
theorem dL_law_1218 : decode cL_law 1218 = .ok (.aload_n 0, 1) := by decide +kernel
theorem dL_law_1219 : decode cL_law 1219 = .ok (.iload 4, 2) := by decide +kernel
theorem dL_law_1221 : decode cL_law 1221 = .ok (.iconst 1, 1) := by decide +kernel
theorem dL_law_1222 : decode cL_law 1222 = .ok (.iadd, 1) := by decide +kernel
theorem dL_law_1223 : decode cL_law 1223 = .ok (.iaload, 1) := by decide +kernel
theorem dL_law_1224 : decode cL_law 1224 = .ok (.aload_n 0, 1) := by decide +kernel
theorem dL_law_1225 : decode cL_law 1225 = .ok (.iload 4, 2) := by decide +kernel
theorem dL_law_1227 : decode cL_law 1227 = .ok (.iconst 2, 1) := by decide +kernel
theorem dL_law_1228 : decode cL_law 1228 = .ok (.iadd, 1) := by decide +kernel
theorem dL_law_1229 : decode cL_law 1229 = .ok (.iaload, 1) := by decide +kernel
theorem dL_law_1230 : decode cL_law 1230 = .ok (.ifCond .eq 7, 3) := by decide +kernel
theorem dL_law_1233 : decode cL_law 1233 = .ok (.iconst 1, 1) := by decide +kernel
theorem dL_law_1234 : decode cL_law 1234 = .ok (.goto 4, 3) := by decide +kernel
theorem dL_law_1237 : decode cL_law 1237 = .ok (.iconst 0, 1) := by decide +kernel
theorem dL_law_1238 : decode cL_law 1238 = .ok (.aload_n 3, 1) := by decide +kernel
theorem dL_law_1239 : decode cL_law 1239 = .ok (.invokestatic 167, 3) := by decide +kernel
theorem dL_law_1242 : decode cL_law 1242 = .ok (.istore 5, 2) := by decide +kernel
theorem dL_law_1244 : decode cL_law 1244 = .ok (.aload_n 2, 1) := by decide +kernel
theorem dL_law_1245 : decode cL_law 1245 = .ok (.aload_n 0, 1) := by decide +kernel
theorem dL_law_1246 : decode cL_law 1246 = .ok (.iload 4, 2) := by decide +kernel
theorem dL_law_1248 : decode cL_law 1248 = .ok (.iconst 1, 1) := by decide +kernel
theorem dL_law_1249 : decode cL_law 1249 = .ok (.iadd, 1) := by decide +kernel
theorem dL_law_1250 : decode cL_law 1250 = .ok (.iaload, 1) := by decide +kernel
theorem dL_law_1251 : decode cL_law 1251 = .ok (.aload_n 0, 1) := by decide +kernel
theorem dL_law_1252 : decode cL_law 1252 = .ok (.iload 4, 2) := by decide +kernel
theorem dL_law_1254 : decode cL_law 1254 = .ok (.iconst 2, 1) := by decide +kernel
theorem dL_law_1255 : decode cL_law 1255 = .ok (.iadd, 1) := by decide +kernel
theorem dL_law_1256 : decode cL_law 1256 = .ok (.iaload, 1) := by decide +kernel
theorem dL_law_1257 : decode cL_law 1257 = .ok (.ifCond .eq 7, 3) := by decide +kernel
theorem dL_law_1260 : decode cL_law 1260 = .ok (.iconst 1, 1) := by decide +kernel
theorem dL_law_1261 : decode cL_law 1261 = .ok (.goto 4, 3) := by decide +kernel
theorem dL_law_1264 : decode cL_law 1264 = .ok (.iconst 0, 1) := by decide +kernel
theorem dL_law_1265 : decode cL_law 1265 = .ok (.invokevirtual 170, 3) := by decide +kernel
theorem dL_law_1268 : decode cL_law 1268 = .ok (.istore 6, 2) := by decide +kernel
theorem dL_law_1270 : decode cL_law 1270 = .ok (.aload_n 2, 1) := by decide +kernel
theorem dL_law_1271 : decode cL_law 1271 = .ok (.invokevirtual 95, 3) := by decide +kernel
theorem dL_law_1274 : decode cL_law 1274 = .ok (.iload 5, 2) := by decide +kernel
theorem dL_law_1276 : decode cL_law 1276 = .ok (.if_icmp .eq 5, 3) := by decide +kernel
theorem dL_law_1279 : decode cL_law 1279 = .ok (.iconst 0, 1) := by decide +kernel
theorem dL_law_1280 : decode cL_law 1280 = .ok (.ireturn, 1) := by decide +kernel
theorem dL_law_1281 : decode cL_law 1281 = .ok (.iload 5, 2) := by decide +kernel
theorem dL_law_1283 : decode cL_law 1283 = .ok (.ifCond .ne 15, 3) := by decide +kernel
theorem dL_law_1286 : decode cL_law 1286 = .ok (.aload_n 3, 1) := by decide +kernel
theorem dL_law_1287 : decode cL_law 1287 = .ok (.iconst 0, 1) := by decide +kernel
theorem dL_law_1288 : decode cL_law 1288 = .ok (.laload, 1) := by decide +kernel
theorem dL_law_1289 : decode cL_law 1289 = .ok (.iload 6, 2) := by decide +kernel
theorem dL_law_1291 : decode cL_law 1291 = .ok (.i2l, 1) := by decide +kernel
theorem dL_law_1292 : decode cL_law 1292 = .ok (.lcmp, 1) := by decide +kernel
theorem dL_law_1293 : decode cL_law 1293 = .ok (.ifCond .eq 5, 3) := by decide +kernel
theorem dL_law_1296 : decode cL_law 1296 = .ok (.iconst 0, 1) := by decide +kernel
theorem dL_law_1297 : decode cL_law 1297 = .ok (.ireturn, 1) := by decide +kernel
theorem dL_law_1298 : decode cL_law 1298 = .ok (.goto 110, 3) := by decide +kernel
theorem dL_law_1301 : decode cL_law 1301 = .ok (.aload_n 1, 1) := by decide +kernel
theorem dL_law_1302 : decode cL_law 1302 = .ok (.aload_n 0, 1) := by decide +kernel
theorem dL_law_1303 : decode cL_law 1303 = .ok (.iload 4, 2) := by decide +kernel
theorem dL_law_1305 : decode cL_law 1305 = .ok (.iconst 1, 1) := by decide +kernel
theorem dL_law_1306 : decode cL_law 1306 = .ok (.iadd, 1) := by decide +kernel
theorem dL_law_1307 : decode cL_law 1307 = .ok (.iaload, 1) := by decide +kernel
theorem dL_law_1308 : decode cL_law 1308 = .ok (.aload_n 0, 1) := by decide +kernel
theorem dL_law_1309 : decode cL_law 1309 = .ok (.iload 4, 2) := by decide +kernel
theorem dL_law_1311 : decode cL_law 1311 = .ok (.iconst 2, 1) := by decide +kernel
theorem dL_law_1312 : decode cL_law 1312 = .ok (.iadd, 1) := by decide +kernel
theorem dL_law_1313 : decode cL_law 1313 = .ok (.iaload, 1) := by decide +kernel
theorem dL_law_1314 : decode cL_law 1314 = .ok (.aload_n 0, 1) := by decide +kernel
theorem dL_law_1315 : decode cL_law 1315 = .ok (.iload 4, 2) := by decide +kernel
theorem dL_law_1317 : decode cL_law 1317 = .ok (.iconst 3, 1) := by decide +kernel
theorem dL_law_1318 : decode cL_law 1318 = .ok (.iadd, 1) := by decide +kernel
theorem dL_law_1319 : decode cL_law 1319 = .ok (.iaload, 1) := by decide +kernel
theorem dL_law_1320 : decode cL_law 1320 = .ok (.aload_n 0, 1) := by decide +kernel
theorem dL_law_1321 : decode cL_law 1321 = .ok (.iload 4, 2) := by decide +kernel
theorem dL_law_1323 : decode cL_law 1323 = .ok (.iconst 4, 1) := by decide +kernel
theorem dL_law_1324 : decode cL_law 1324 = .ok (.iadd, 1) := by decide +kernel
theorem dL_law_1325 : decode cL_law 1325 = .ok (.iaload, 1) := by decide +kernel
theorem dL_law_1326 : decode cL_law 1326 = .ok (.ifCond .eq 7, 3) := by decide +kernel
theorem dL_law_1329 : decode cL_law 1329 = .ok (.iconst 1, 1) := by decide +kernel
theorem dL_law_1330 : decode cL_law 1330 = .ok (.goto 4, 3) := by decide +kernel
theorem dL_law_1333 : decode cL_law 1333 = .ok (.iconst 0, 1) := by decide +kernel
theorem dL_law_1334 : decode cL_law 1334 = .ok (.aload_n 3, 1) := by decide +kernel
theorem dL_law_1335 : decode cL_law 1335 = .ok (.invokestatic 171, 3) := by decide +kernel
theorem dL_law_1338 : decode cL_law 1338 = .ok (.istore 5, 2) := by decide +kernel
theorem dL_law_1340 : decode cL_law 1340 = .ok (.aload_n 2, 1) := by decide +kernel
theorem dL_law_1341 : decode cL_law 1341 = .ok (.aload_n 0, 1) := by decide +kernel
theorem dL_law_1342 : decode cL_law 1342 = .ok (.iload 4, 2) := by decide +kernel
theorem dL_law_1344 : decode cL_law 1344 = .ok (.iconst 1, 1) := by decide +kernel
theorem dL_law_1345 : decode cL_law 1345 = .ok (.iadd, 1) := by decide +kernel
theorem dL_law_1346 : decode cL_law 1346 = .ok (.iaload, 1) := by decide +kernel
theorem dL_law_1347 : decode cL_law 1347 = .ok (.aload_n 0, 1) := by decide +kernel
theorem dL_law_1348 : decode cL_law 1348 = .ok (.iload 4, 2) := by decide +kernel
theorem dL_law_1350 : decode cL_law 1350 = .ok (.iconst 2, 1) := by decide +kernel
theorem dL_law_1351 : decode cL_law 1351 = .ok (.iadd, 1) := by decide +kernel
theorem dL_law_1352 : decode cL_law 1352 = .ok (.iaload, 1) := by decide +kernel
theorem dL_law_1353 : decode cL_law 1353 = .ok (.aload_n 0, 1) := by decide +kernel
theorem dL_law_1354 : decode cL_law 1354 = .ok (.iload 4, 2) := by decide +kernel
theorem dL_law_1356 : decode cL_law 1356 = .ok (.iconst 3, 1) := by decide +kernel
theorem dL_law_1357 : decode cL_law 1357 = .ok (.iadd, 1) := by decide +kernel
theorem dL_law_1358 : decode cL_law 1358 = .ok (.iaload, 1) := by decide +kernel
theorem dL_law_1359 : decode cL_law 1359 = .ok (.aload_n 0, 1) := by decide +kernel
theorem dL_law_1360 : decode cL_law 1360 = .ok (.iload 4, 2) := by decide +kernel
theorem dL_law_1362 : decode cL_law 1362 = .ok (.iconst 4, 1) := by decide +kernel
theorem dL_law_1363 : decode cL_law 1363 = .ok (.iadd, 1) := by decide +kernel
theorem dL_law_1364 : decode cL_law 1364 = .ok (.iaload, 1) := by decide +kernel
theorem dL_law_1365 : decode cL_law 1365 = .ok (.ifCond .eq 7, 3) := by decide +kernel
theorem dL_law_1368 : decode cL_law 1368 = .ok (.iconst 1, 1) := by decide +kernel
theorem dL_law_1369 : decode cL_law 1369 = .ok (.goto 4, 3) := by decide +kernel
theorem dL_law_1372 : decode cL_law 1372 = .ok (.iconst 0, 1) := by decide +kernel
theorem dL_law_1373 : decode cL_law 1373 = .ok (.invokevirtual 174, 3) := by decide +kernel
theorem dL_law_1376 : decode cL_law 1376 = .ok (.lstore 6, 2) := by decide +kernel
theorem dL_law_1378 : decode cL_law 1378 = .ok (.aload_n 2, 1) := by decide +kernel
theorem dL_law_1379 : decode cL_law 1379 = .ok (.invokevirtual 95, 3) := by decide +kernel
theorem dL_law_1382 : decode cL_law 1382 = .ok (.iload 5, 2) := by decide +kernel
theorem dL_law_1384 : decode cL_law 1384 = .ok (.if_icmp .eq 5, 3) := by decide +kernel
theorem dL_law_1387 : decode cL_law 1387 = .ok (.iconst 0, 1) := by decide +kernel
theorem dL_law_1388 : decode cL_law 1388 = .ok (.ireturn, 1) := by decide +kernel
theorem dL_law_1389 : decode cL_law 1389 = .ok (.iload 5, 2) := by decide +kernel
theorem dL_law_1391 : decode cL_law 1391 = .ok (.ifCond .ne 14, 3) := by decide +kernel
theorem dL_law_1394 : decode cL_law 1394 = .ok (.aload_n 3, 1) := by decide +kernel
theorem dL_law_1395 : decode cL_law 1395 = .ok (.iconst 0, 1) := by decide +kernel
theorem dL_law_1396 : decode cL_law 1396 = .ok (.laload, 1) := by decide +kernel
theorem dL_law_1397 : decode cL_law 1397 = .ok (.lload 6, 2) := by decide +kernel
theorem dL_law_1399 : decode cL_law 1399 = .ok (.lcmp, 1) := by decide +kernel
theorem dL_law_1400 : decode cL_law 1400 = .ok (.ifCond .eq 5, 3) := by decide +kernel
theorem dL_law_1403 : decode cL_law 1403 = .ok (.iconst 0, 1) := by decide +kernel
theorem dL_law_1404 : decode cL_law 1404 = .ok (.ireturn, 1) := by decide +kernel
theorem dL_law_1405 : decode cL_law 1405 = .ok (.goto 3, 3) := by decide +kernel
theorem dL_law_1408 : decode cL_law 1408 = .ok (.iinc 4 5, 3) := by decide +kernel
theorem dL_law_1411 : decode cL_law 1411 = .ok (.goto (-1388), 3) := by decide +kernel
theorem dL_law_1414 : decode cL_law 1414 = .ok (.iconst 1, 1) := by decide +kernel
theorem dL_law_1415 : decode cL_law 1415 = .ok (.ireturn, 1) := by decide +kernel
end
section
/-! THE WORLD OF THE RUN: places 0 to 31, one memory of ints (place, slot) beside one row of longs; addresses, row kinds, and the tables' addresses are variables.
0 the desk; 1 sums, 2 rangeRow, 3 meanRow, 4 reasons, 5 phaseNumbers, 6 phaseRow, 7 counts, 8 window, 9 numbers, 10 levels, 11 to 20 the phases; 21 the reference, 22 sum, 23 range, 24 reason, 25 start, 26 frozen, 27 keptCenter, 28 keptRange, 29 point, 30 x; 31 the law's out. -/
abbrev zM : Type := (Nat → Nat → Int32) × (Nat → Int64)
abbrev zG : Type := va_G × Nat × (Nat → Nat) × (Nat → ClassId) × (Nat → Nat) × Nat
def zD (g : zG) : va_G := g.1
def zn (g : zG) : Nat := g.2.1
def za (g : zG) (k : Nat) : Nat := g.2.2.1 k
def zc (g : zG) (k : Nat) : ClassId := g.2.2.2.1 k
def zt (g : zG) (k : Nat) : Nat := g.2.2.2.2.1 k
def zA (g : zG) (q : Nat) : Prop := g.2.2.2.2.2 ≤ q
def zki (k : Nat) : Nat := if k = 0 then 3 else if k = 6 then 6 else if k = 7 then 1 else if k = 8 then 2 else if k < 11 then 5 else if k < 21 then 0 else if k = 21 then 4 else if k = 26 then 7 else if k = 31 then 8 else 5
def zlen (k : Nat) : Nat := if k < 6 then 60 else if k < 7 then 10 else if k < 11 then 15 else if k < 25 then 60 else if k < 29 then 10 else if k < 31 then 60 else 1
def zN (ci : Nat) : Nat := if ci = 0 then 9 else if ci = 1 then 16 else if ci = 2 then 3 else if ci = 3 then 16 else 24
def zref (ci j : Nat) : Option Nat := match ci, j with
  | 2, 0 => some 9
  | 2, 1 => some 10
  | 3, 7 => some 1
  | 3, 8 => some 2
  | 3, 9 => some 3
  | 3, 10 => some 4
  | 3, 11 => some 5
  | 3, 13 => some 6
  | 3, 14 => some 7
  | 3, 15 => some 8
  | 4, 6 => some 22
  | 4, 7 => some 23
  | 4, 8 => some 24
  | 4, 10 => some 25
  | 4, 11 => some 26
  | 4, 12 => some 27
  | 4, 13 => some 28
  | 4, 21 => some 29
  | 4, 22 => some 30
  | _, _ => none
def zsl (g : zG) (m : Nat → Int32) (ci j : Nat) : Value := match zref ci j with
  | some r => .ref (za g r)
  | none => .int (m j)
def zfs (g : zG) (m : Nat → Int32) (ci : Nat) : List Value := (List.range (zN ci)).map (zsl g m ci)
def zcell (g : zG) (k : Nat) (m : Nat → Int32) (o : Nat → Int64) : va_E :=
  if zki k < 5 then .inr (zki k, zfs g m (zki k))
  else if zki k = 6 then .inl (zc g k, 10, .inr (.inr (.inr (.inr (fun j => some (za g (11 + j)))))))
  else if zki k = 8 then .inl (zc g k, 1, .inr (.inl o))
  else .inl (zc g k, zlen k, .inl m)
def zW (g : zG) (μ : zM) : va_W := (List.range (zn g)).map (fun k => (za g k, zcell g k (μ.1 k) μ.2))
def zty (k : Nat) : FieldType := if zki k = 6 then .object "ChartroomSpc$Phase" else if zki k = 7 then .boolean else if zki k = 8 then .long else .int
def zTy (g : zG) : List (ClassId × FieldType) := (List.range (zn g)).map (fun k => (zc g k, zty k))
def zu (μ : zM) (k j : Nat) (v : Int32) : zM := (fun a b => if a = k then (if b = j then v else μ.1 a b) else μ.1 a b, μ.2)
def zuo (μ : zM) (v : Int64) : zM := (μ.1, vp_updL μ.2 0 v)
def zset (μ : zM) (p : Nat) (f : Nat → Int32) : zM := (fun a b => if a = p then f b else μ.1 a b, μ.2)
theorem zset_at (μ : zM) (p : Nat) (f : Nat → Int32) : (zset μ p f).1 p = f := by
  funext b
  simp [zset]
theorem zset_off (μ : zM) {p a : Nat} (f : Nat → Int32) (h : a ≠ p) : (zset μ p f).1 a = μ.1 a := by
  funext b
  simp [zset, h]
theorem zset_2 (μ : zM) (p : Nat) (f : Nat → Int32) : (zset μ p f).2 = μ.2 := rfl
theorem zu_2 (μ : zM) (p j : Nat) (v : Int32) : (zu μ p j v).2 = μ.2 := rfl
theorem zu_set (μ : zM) (p j : Nat) (v : Int32) : zu μ p j v = zset μ p (upd (μ.1 p) j v) := by
  refine Prod.ext (funext fun a => funext fun b => ?_) rfl
  by_cases h : a = p
  · subst h
    simp [zu, zset, upd]
  · simp [zu, zset, h]
theorem zu_zset (μ : zM) (p j : Nat) (v : Int32) (f : Nat → Int32) : zu (zset μ p f) p j v = zset μ p (upd f j v) := by
  refine Prod.ext (funext fun a => funext fun b => ?_) rfl
  by_cases h : a = p
  · subst h
    simp [zu, zset, upd]
  · simp [zu, zset, h]
theorem zset_zset (μ : zM) (p : Nat) (f h : Nat → Int32) : zset (zset μ p f) p h = zset μ p h := by
  refine Prod.ext (funext fun a => funext fun b => ?_) rfl
  by_cases q : a = p
  · simp [zset, q]
  · simp [zset, q]
theorem zset_self (μ : zM) (p : Nat) : zset μ p (μ.1 p) = μ := by
  refine Prod.ext (funext fun a => funext fun b => ?_) rfl
  by_cases q : a = p
  · simp [zset, q]
  · simp [zset, q]
theorem zu_at (μ : zM) (k j : Nat) (v : Int32) : (zu μ k j v).1 k = upd (μ.1 k) j v := by
  funext b
  simp [zu, upd]
theorem zu_off (μ : zM) (k j : Nat) (v : Int32) {a : Nat} (h : a ≠ k) : (zu μ k j v).1 a = μ.1 a := by
  funext b
  simp [zu, h]
theorem zW_get (g : zG) (μ : zM) {k : Nat} (h : k < zn g) : (zW g μ)[k]? = some (za g k, zcell g k (μ.1 k) μ.2) := by
  simp [zW, h]
theorem zTy_get (g : zG) {k : Nat} (h : k < zn g) : (zTy g)[k]? = some (zc g k, zty k) := by
  simp [zTy, h]
theorem zW_set (g : zG) (μ ν : zM) {k : Nat} (ho : ∀ a, a ≠ k → zcell g a (ν.1 a) ν.2 = zcell g a (μ.1 a) μ.2) : (zW g μ).set k (za g k, zcell g k (ν.1 k) ν.2) = zW g ν := by
  apply List.ext_getElem?
  intro i
  rw [List.getElem?_set]
  by_cases hi : i < zn g
  · rw [zW_get g ν hi]
    by_cases e : k = i
    · subst e
      simp [zW, hi]
    · rw [if_neg e, zW_get g μ hi, ho i (fun q => e q.symm)]
  · have h1 : (zW g ν)[i]? = none := by simp [zW, Nat.not_lt.mp hi]
    have h2 : (zW g μ)[i]? = none := by simp [zW, Nat.not_lt.mp hi]
    rw [h1]
    by_cases e : k = i
    · subst e
      simp [zW, Nat.not_lt.mp hi]
    · rw [if_neg e, h2]
theorem zW_zu (g : zG) (μ : zM) (k j : Nat) (v : Int32) : (zW g μ).set k (za g k, zcell g k (upd (μ.1 k) j v) μ.2) = zW g (zu μ k j v) := by
  have h := zW_set g μ (zu μ k j v) (k := k) (fun a ha => by rw [zu_off μ k j v ha]; rfl)
  rw [zu_at] at h
  exact h
theorem zfs_get (g : zG) (m : Nat → Int32) {ci j : Nat} (hj : j < zN ci) : (zfs g m ci)[j]? = some (zsl g m ci j) := by
  simp [zfs, hj]
theorem zfs_set (g : zG) (m : Nat → Int32) {ci j : Nat} (v : Int32) (hr : zref ci j = none) : (zfs g m ci).set j (.int v) = zfs g (upd m j v) ci := by
  apply List.ext_getElem?
  intro i
  rw [List.getElem?_set]
  by_cases hi : i < zN ci
  · rw [zfs_get g (upd m j v) hi]
    by_cases e : j = i
    · subst e
      rw [if_pos rfl, if_pos (by simp [zfs, hi])]
      simp [zsl, hr, upd]
    · rw [if_neg e, zfs_get g m hi]
      simp only [zsl]
      cases zref ci i with
      | some r => rfl
      | none => simp [upd, Ne.symm e]
  · have h1 : (zfs g (upd m j v) ci)[i]? = none := by simp [zfs, Nat.not_lt.mp hi]
    have h2 : (zfs g m ci)[i]? = none := by simp [zfs, Nat.not_lt.mp hi]
    rw [h1]
    by_cases e : j = i
    · subst e
      simp [zfs, Nat.not_lt.mp hi]
    · rw [if_neg e, h2]
theorem zcell_obj (g : zG) {k ci : Nat} (m : Nat → Int32) (o : Nat → Int64) (hk : zki k = ci) (hc : ci < 5) : zcell g k m o = .inr (ci, zfs g m ci) := by
  unfold zcell
  rw [hk, if_pos hc]
theorem zcell_row (g : zG) {k ci : Nat} (m : Nat → Int32) (o : Nat → Int64) (hk : zki k = ci) (hc : ci = 5 ∨ ci = 7) : zcell g k m o = .inl (zc g k, zlen k, .inl m) := by
  unfold zcell
  rw [hk]
  rcases hc with rfl | rfl <;> rfl
theorem zcell_phs (g : zG) {k : Nat} (m : Nat → Int32) (o : Nat → Int64) (hk : zki k = 6) : zcell g k m o = .inl (zc g k, 10, .inr (.inr (.inr (.inr (fun j => some (za g (11 + j))))))) := by
  unfold zcell
  rw [hk]
  rfl
theorem zcell_out (g : zG) {k : Nat} (m : Nat → Int32) (o : Nat → Int64) (hk : zki k = 8) : zcell g k m o = .inl (zc g k, 1, .inr (.inl o)) := by
  unfold zcell
  rw [hk]
  rfl
theorem zki_ph {j : Nat} (h : j < 10) : zki (11 + j) = 0 := by
  unfold zki
  rw [if_neg (by omega), if_neg (by omega), if_neg (by omega), if_neg (by omega), if_neg (by omega), if_pos (by omega)]
def zOK (g : zG) : Prop := (∀ i j, i < zn g → j < zn g → za g i = za g j → i = j) ∧ (∀ k, k < zn g → zA g (za g k)) ∧ 21 ≤ zn g
theorem zOK.D {g : zG} (h : zOK g) (μ : zM) : va_D (zA g) (zW g μ) := by
  have hlt : ∀ {i : Nat} {p : Nat × va_E}, (zW g μ)[i]? = some p → i < zn g ∧ p.1 = za g i := by
    intro i p hp
    by_cases hi : i < zn g
    · rw [zW_get g μ hi] at hp
      cases hp
      exact ⟨hi, rfl⟩
    · have h2 : (zW g μ)[i]? = none := by simp [zW, Nat.not_lt.mp hi]
      rw [h2] at hp
      cases hp
  refine ⟨fun i j p q hp hq e => ?_, fun k q hq => ?_⟩
  · obtain ⟨h1, e1⟩ := hlt hp
    obtain ⟨h2, e2⟩ := hlt hq
    exact h.1 i j h1 h2 (by rw [← e1, ← e2]; exact e)
  · obtain ⟨h1, e1⟩ := hlt hq
    rw [e1]
    exact h.2.1 k h1
/-! what the statics, the links of nest mates, and the texts say, at any state of the run -/
def zNest : List Cond := [.methodLinkNest RX3 31 yX0_init RX3, .methodLinkNest RX3 34 yX1_init RX3, .methodLinkNest RX3 41 yX2_init RX3, .methodLinkNest RX0 57 yX3_direction RX3, .methodLinkNest RX1 68 yX3_direction RX3, .methodLinkNest RX1 92 yX3_pointsOfRule RX3, .methodLinkNest RX0 28 yX3_rounded RX3, .fieldLinkNest RX0 40 RX3 "WIDTH_FACTORS" "[I" RX3, .methodLinkNest RX0 44 yX3_bySize RX3, .fieldLinkNest RX0 51 RX3 "RANGE_FACTORS" "[I" RX3, .methodLinkNest RX2 26 yX3_pointsOfRule RX3, .methodLinkNest RX2 58 yX3_direction RX3,
  .castable "java/lang/IllegalArgumentException" "java/lang/IllegalArgumentException", .castable "java/lang/IllegalStateException" "java/lang/IllegalStateException", .castable "java/lang/IndexOutOfBoundsException" "java/lang/IndexOutOfBoundsException",
  .declares ⟨"java/lang/RuntimeException", "<init>", "(Ljava/lang/String;)V"⟩, .declares ⟨"java/lang/Exception", "<init>", "(Ljava/lang/String;)V"⟩, .declares ⟨"java/lang/Throwable", "<init>", "(Ljava/lang/String;)V"⟩]
def zStr : List (Nat × String) := [(52, "size is out of range"), (61, "value is out of range"), (69, "all subgroups are done"), (87, "there are no more phases"), (89, "a subgroup is begun and not done"), (98, "the last phase has no subgroups"), (258, "there is no such phase"), (109, "the phase is frozen"), (114, "the phase has too few points"), (116, "the phase is not frozen"), (254, "there is no such subgroup"), (124, "reason is out of range"), (200, "the phase has no limits"), (167, "there is no such rule"), (177, "tenths is out of range"), (256, "the subgroup is excluded"), (194, "lowest or highest is out of range"), (218, "the spread is 0")]
def zNcs : List (String × String) := [("java/lang/IllegalStateException", "java/lang/IllegalArgumentException"), ("java/lang/IllegalArgumentException", "java/lang/IndexOutOfBoundsException"), ("java/lang/IllegalStateException", "java/lang/IndexOutOfBoundsException")]
def zTabN (i : Nat) : String := if i = 0 then "WIDTH_FACTORS" else if i = 1 then "RANGE_FACTORS" else if i = 2 then "SPREAD_DIVISORS" else "POINTS_OF_RULES"
def zTabL (i : Nat) : List Int32 := if i = 0 then [1880, 1023, 729, 577, 483] else if i = 1 then [3267, 2574, 2282, 2114, 2004] else if i = 2 then [1128, 1693, 2059, 2326, 2534] else [1, 9, 6, 14, 3, 5, 15, 8]
def zTab (i j : Nat) : Int32 := (zTabL i).getD j 0
def zSt (l : Launch) (g : zG) (U : State) (H : Heap) : Prop :=
  (∀ i, i < 4 → va_Z RX3 (zTabN i) "[I" (.ref (zt g i)) (zA g) U H ∧ va_T .int (zt g i) (zTabL i).length (fun j => .int (zTab i j)) (zA g) U H) ∧
  (vx_Zq Bundle.tN "UNASSIGNED_STACK" Bundle.steD (zA g) U H ∧ vx_Zq Bundle.tN "SUPPRESSED_SENTINEL" Bundle.listD (zA g) U H) ∧
  (∀ w ∈ zNest, va_Nw w U) ∧ (∀ (i : Nat) (q : Nat × String), zStr[i]? = some q → vk_R RX3 q.1 q.2 (zt g (4 + i)) U) ∧ (∀ q ∈ zNcs, va_Nc q.1 q.2 U) ∧ l.stackTraces = false
theorem zNest_warm {s U : State} (hW : s.WarmedH U.vm) : ∀ w ∈ zNest, va_Nw w s → va_Nw w U := by
  intro w hw
  simp only [zNest, List.mem_cons, List.not_mem_nil, or_false] at hw
  rcases hw with h | h | h | h | h | h | h | h | h | h | h | h | h | h | h | h | h | h <;> subst h <;> first | exact va_Nw.warmM hW | exact va_Nw.warmF hW | exact va_Nw.warmC hW | exact va_Nw.warmD hW
theorem zNest_tab : ∀ w ∈ zNest, w.onTables = true := by decide +kernel
theorem zSt.go {l : Launch} {g : zG} {s U : State} {H : Heap} {locs : List Loc} (h : zSt l g s s.heap) (hS : va_S (zA g) s.heap H locs) (hU : U.heap = H) (hW : s.WarmedH U.vm) : zSt l g U U.heap := by
  obtain ⟨h1, h2, h3, h4, h5, h6⟩ := h
  have k : ∀ a : Nat, a < s.heap.size → ¬ zA g a → U.heap[a]? = s.heap[a]? := by rw [hU]; exact hS.2.1
  exact ⟨fun i hi => ⟨((h1 i hi).1.kept k).moved hW.alike, ((h1 i hi).2.kept k).moved hW.alike⟩, ⟨(h2.1.kept k).moved hW.alike, (h2.2.kept k).moved hW.alike⟩, fun w hw => zNest_warm hW w hw (h3 w hw), fun i q hq => vk_R.warm hW (h4 i q hq), fun q hq => (h5 q hq).moved hW.alike, h6⟩
theorem zSt.same {l : Launch} {g : zG} {s U : State} (h : zSt l g s s.heap) (hh : U.heap = s.heap) (hv : s.vm = U.vm) : zSt l g U U.heap := by
  obtain ⟨h1, h2, h3, h4, h5, h6⟩ := h
  have al : s.vm.Alike U.vm := by rw [← hv]; exact Vm.Alike.refl s.vm
  rw [hh]
  exact ⟨fun i hi => ⟨(h1 i hi).1.moved al, (h1 i hi).2.moved al⟩, ⟨h2.1.moved al, h2.2.moved al⟩, fun w hw => (h3 w hw).same (zNest_tab w hw) hv, fun i q hq => vk_R.same hv.symm (h4 i q hq), fun q hq => (h5 q hq).moved al, h6⟩
def zPre (l : Launch) (g : zG) (μ : zM) (U : State) : Prop := va_P (zD g) vwCl (zW g μ) U.heap ∧ va_K (zD g) vwCl (zTy g) U ∧ zOK g ∧ zSt l g U U.heap
/-- a method's contract: from these arguments and this memory it returns v with the memory ν where RT v ν, or throws E with the memory ν where XT E ν -/
def zQr (g : zG) (RT : Option Value → zM → Prop) : Array Value → State → Outcome → State → Prop := fun _ st o t => ∃ (v : Option Value) (ν : zM), o = .returned v ∧ RT v ν ∧ va_P (zD g) vwCl (zW g ν) t.heap ∧ va_F (zA g) st t
def zQx (g : zG) (XT : String → zM → Prop) : String → State → State → Prop := fun E st t => ∃ ν : zM, XT E ν ∧ va_P (zD g) vwCl (zW g ν) t.heap ∧ va_F (zA g) st t
abbrev zws (y : MethodName) (cc : ByteArray) (maxL : Nat) (ret : Option FieldType) : List Cond := Cond.code y cc maxL ret :: zU
def zC (l : Launch) (g : zG) (y : MethodName) (cc : ByteArray) (maxL : Nat) (ret : Option FieldType) (rm : Room) (mc ms : Nat) (av : List Value) (μ : zM) (RT : Option Value → zM → Prop) (XT : String → zM → Prop) : Prop :=
  vx_Met l y (zws y cc maxL ret) rm (va_Pc av (zPre l g μ)) (zQr g RT) (zQx g XT) mc ms (zA g)
theorem zPre_blind (l : Launch) (g : zG) (μ : zM) (av : List Value) : FrameBlind (va_Pc av (zPre l g μ)) := by
  intro a U f mk q
  obtain ⟨q0, qP, qK, qO, qS⟩ := q
  exact ⟨q0, qP, va_K.moved (u := U) (U := U.calling f mk a) (Vm.Alike.refl U.vm) qK, qO, zSt.same qS rfl rfl⟩
/-- what the tables say of a method that is called on an object, or without one -/
def zMV (y : MethodName) (C : String) (cc : ByteArray) (maxL : Nat) (ret : Option FieldType) (na : Nat) : Prop := Cond.instanceMethod y ∈ zU ∧ Cond.selects C y y ∈ zU ∧ Cond.initialized C ∈ zU ∧ Cond.code y cc maxL ret ∈ zU ∧
  (y.cls = C ∧ y.cls ≠ "java/lang/invoke/MethodHandle" ∧ y.cls ≠ "java/lang/invoke/VarHandle" ∧ (parseMethodDescriptor y.desc).map (fun d => d.parameters.length) = some na)
def zMS (y : MethodName) (cc : ByteArray) (maxL : Nat) (ret : Option FieldType) (na : Nat) : Prop := Cond.static y ∈ zU ∧ Cond.initialized y.cls ∈ zU ∧ Cond.code y cc maxL ret ∈ zU ∧
  (y.cls ≠ "java/lang/invoke/MethodHandle" ∧ y.cls ≠ "java/lang/invoke/VarHandle" ∧ (parseMethodDescriptor y.desc).map (fun d => d.parameters.length) = some na)
theorem zU_ok {w : Cond} (h : w ∈ zU) : w ∈ zU ∧ ((w.onTables && w.keeps) = true ∨ ∃ ty, w = .arrayClass ty) := ⟨h, good_of_word (zU_good w h)⟩
theorem zgood {y : MethodName} {cc : ByteArray} {maxL : Nat} {ret : Option FieldType} (h : Cond.code y cc maxL ret ∈ zU) : GoodIn zU (zws y cc maxL ret) := fun w hw => (List.mem_cons.mp hw).elim (fun e => e ▸ zU_ok h) (fun h9 => zU_ok h9)
theorem zMV.good {y : MethodName} {C own : String} {cc : ByteArray} {maxL na index : Nat} {ret : Option FieldType} (h : zMV y C cc maxL ret na) (hl : Cond.methodLink own index y ∈ zU) : GoodIn zU (wsV own index C y (zws y cc maxL ret)) := by
  intro w hw
  rcases List.mem_append.mp hw with h9 | h9
  · simp only [List.mem_cons, List.not_mem_nil, or_false] at h9
    rcases h9 with e | e | e | e <;> subst e
    · exact zU_ok hl
    · exact zU_ok h.1
    · exact zU_ok h.2.1
    · exact zU_ok h.2.2.1
  · exact zgood h.2.2.2.1 w h9
theorem zMS.goodw {y : MethodName} {cc : ByteArray} {maxL na : Nat} {ret : Option FieldType} (h : zMS y cc maxL ret na) : GoodIn zU (zws y cc maxL ret) := zgood h.2.2.1
theorem zMS.good {y : MethodName} {own : String} {cc : ByteArray} {maxL na index : Nat} {ret : Option FieldType} (h : zMS y cc maxL ret na) (hl : Cond.methodLink own index y ∈ zU) : GoodIn zU (va_wsS own index y (zws y cc maxL ret)) := by
  intro w hw
  rcases List.mem_append.mp hw with h9 | h9
  · simp only [List.mem_cons, List.not_mem_nil, or_false] at h9
    rcases h9 with e | e | e <;> subst e
    · exact zU_ok hl
    · exact zU_ok h.1
    · exact zU_ok h.2.1
  · exact h.goodw w h9
end
section
/-! ONE LAW AN INSTRUCTION, over the world of part 02 -/
abbrev zX : Type := Program × Launch × Env × State × MethodId × Array Value × List Frame × Method × Code × (State → Prop)
abbrev xp (x : zX) : Program := x.1
abbrev xl (x : zX) : Launch := x.2.1
abbrev xe (x : zX) : Env := x.2.2.1
abbrev xs (x : zX) : State := x.2.2.2.1
abbrev xm (x : zX) : MethodId := x.2.2.2.2.1
abbrev xa (x : zX) : Array Value := x.2.2.2.2.2.1
abbrev xb (x : zX) : List Frame := x.2.2.2.2.2.2.1
abbrev xh (x : zX) : Method := x.2.2.2.2.2.2.2.1
abbrev xc (x : zX) : Code := x.2.2.2.2.2.2.2.2.1
abbrev xQ (x : zX) : State → Prop := x.2.2.2.2.2.2.2.2.2
def zl : Nat → List (Option Value) → List (Nat × Value)
  | _, [] => []
  | i, none :: t => zl (i + 1) t
  | i, some v :: t => (i, v) :: zl (i + 1) t
theorem zl_mem : ∀ (L : List (Option Value)) (i j : Nat) (v : Value), (j, v) ∈ zl i L ↔ ∃ k, j = i + k ∧ L[k]? = some (some v)
  | [], i, j, v => by simp [zl]
  | none :: t, i, j, v => by
    rw [zl, zl_mem t (i + 1) j v]
    constructor
    · rintro ⟨k, h1, h2⟩
      exact ⟨k + 1, by omega, by simpa using h2⟩
    · rintro ⟨k, h1, h2⟩
      cases k with
      | zero => simp at h2
      | succ k => exact ⟨k, by omega, by simpa using h2⟩
  | some a :: t, i, j, v => by
    rw [zl, List.mem_cons, zl_mem t (i + 1) j v]
    constructor
    · rintro (h | ⟨k, h1, h2⟩)
      · cases h
        exact ⟨0, by omega, by simp⟩
      · exact ⟨k + 1, by omega, by simpa using h2⟩
    · rintro ⟨k, h1, h2⟩
      cases k with
      | zero => simp at h2; subst h2; exact Or.inl (by rw [h1]; rfl)
      | succ k => exact Or.inr ⟨k, by omega, by simpa using h2⟩
theorem zl_get {ls : Array Slot} {nL : Nat} {L : List (Option Value)} (h : lv_has ls nL (zl 0 L)) {i : Nat} {v : Value} (hi : L[i]? = some (some v)) : ls[i]? = some (.val v) := h.2.2 (i, v) ((zl_mem L 0 i v).mpr ⟨i, by omega, hi⟩)
theorem zl_set1 {ls : Array Slot} {nL : Nat} {L : List (Option Value)} {i : Nat} {v : Value} (hp : ∀ (j : Nat) (u : Value), j + 1 = i → L[j]? = some (some u) → u.category ≠ 2) (h : lv_has ls nL ((i, v) :: (zl 0 L).filter (fun q => !(q.1 == i) && !(q.1 + 1 == i && q.2.category == 2)))) : lv_has ls nL (zl 0 (L.set i (some v))) := by
  refine ⟨h.1, h.2.1, fun q hq => h.2.2 q ?_⟩
  obtain ⟨j, u⟩ := q
  obtain ⟨k, e, hk⟩ := (zl_mem _ 0 j u).mp hq
  have e : j = k := by omega
  subst e
  rw [List.getElem?_set] at hk
  by_cases hij : i = j
  · subst hij
    rw [if_pos rfl] at hk
    split at hk
    · cases hk
      exact List.mem_cons_self
    · cases hk
  · rw [if_neg hij] at hk
    refine List.mem_cons_of_mem _ (List.mem_filter.mpr ⟨(zl_mem L 0 j u).mpr ⟨j, by omega, hk⟩, ?_⟩)
    have h1 : (j == i) = false := by simpa using fun q => hij q.symm
    have h2 : (j + 1 == i && u.category == 2) = false := by
      by_cases q : j + 1 = i
      · have h3 := hp j u q hk
        simp [h3]
      · simp [q]
    show (!(j == i) && !(j + 1 == i && u.category == 2)) = true
    rw [h1, h2]
    rfl
theorem zl_set2 {ls : Array Slot} {nL : Nat} {L : List (Option Value)} {i : Nat} {v : Value} (hp : ∀ (j : Nat) (u : Value), j + 1 = i → L[j]? = some (some u) → u.category ≠ 2) (h : lv_has ls nL ((i, v) :: (zl 0 L).filter (fun q => !(q.1 == i) && (!(q.1 == i + 1) && !(q.1 + 1 == i && q.2.category == 2))))) : lv_has ls nL (zl 0 ((L.set i (some v)).set (i + 1) none)) := by
  refine ⟨h.1, h.2.1, fun q hq => h.2.2 q ?_⟩
  obtain ⟨j, u⟩ := q
  obtain ⟨k, e, hk⟩ := (zl_mem _ 0 j u).mp hq
  have e : j = k := by omega
  subst e
  rw [List.getElem?_set] at hk
  by_cases hij1 : i + 1 = j
  · subst hij1
    rw [if_pos rfl] at hk
    split at hk <;> cases hk
  · rw [if_neg hij1, List.getElem?_set] at hk
    by_cases hij : i = j
    · subst hij
      rw [if_pos rfl] at hk
      split at hk
      · cases hk
        exact List.mem_cons_self
      · cases hk
    · rw [if_neg hij] at hk
      refine List.mem_cons_of_mem _ (List.mem_filter.mpr ⟨(zl_mem L 0 j u).mpr ⟨j, by omega, hk⟩, ?_⟩)
      have h1 : (j == i) = false := by simpa using fun q => hij q.symm
      have h0 : (j == i + 1) = false := by simpa using fun q => hij1 q.symm
      have h2 : (j + 1 == i && u.category == 2) = false := by
        by_cases q : j + 1 = i
        · have h3 := hp j u q hk
          simp [h3]
        · simp [q]
      show (!(j == i) && (!(j == i + 1) && !(j + 1 == i && u.category == 2))) = true
      rw [h1, h0, h2]
      rfl
/-- at pc, with locals L, stack st, memory μ: the machine comes to its end -/
def zK (x : zX) (g : zG) (R : Room) (nL ce sl pc : Nat) (L : List (Option Value)) (st : List Value) (μ : zM) : Prop :=
  ∀ (H : Heap) (locs : List Loc) (ls : Array Slot), va_P (zD g) vwCl (zW g μ) H → va_S (zA g) (xs x).heap H locs → lv_has ls nL (zl 0 L) → W (xp x) (xl x) (xe x) R (xs x) (xm x) (xa x) (xb x) (xh x) (xc x) H locs ce sl (xQ x) (F0 (xm x) pc ls st)
/-- the same, with an exception of class E on its way out of the call at pc -/
def zKX (x : zX) (g : zG) (R : Room) (nL ce sl pc : Nat) (L : List (Option Value)) (st : List Value) (E : String) (μ : zM) : Prop :=
  ∀ (H : Heap) (locs : List Loc) (ls : Array Slot) (ce9 : Cell) (q : Addr), va_P (zD g) vwCl (zW g μ) H → va_S (zA g) (xs x).heap H locs → lv_has ls nL (zl 0 L) → H[q]? = some ce9 → ce9.vm = .none → (xs x).vm.findClass E = some ce9.cls → vx_W (xp x) (xl x) (xe x) R (xs x) (xm x) (xa x) (xb x) (xh x) (xc x) H locs ce sl (xQ x) (F0 (xm x) pc ls st) q
/-- what stands through a whole method -/
def zS (x : zX) (g : zG) (nL : Nat) (cc : ByteArray) (own : String) : Prop :=
  (xp x).tables.exec = Jvm.exec ∧ (xc x).code = cc ∧ (xc x).maxLocals = nL ∧ (xs x).vm.findClass own = some (xm x).cls ∧ (∀ w ∈ zU, w.before (xa x) (xs x) = true) ∧ va_K (zD g) vwCl (zTy g) (xs x) ∧ zOK g ∧ zSt (xl x) g (xs x) (xs x).heap ∧ (xh x).locks = false
theorem zS.ex {x g nL cc own} (S : zS x g nL cc own) : (xp x).tables.exec = Jvm.exec := S.1
theorem zS.by {x g nL cc own} (S : zS x g nL cc own) : (xc x).code = cc := S.2.1
theorem zS.ml {x g nL cc own} (S : zS x g nL cc own) : (xc x).maxLocals = nL := S.2.2.1
theorem zS.own {x g nL cc own} (S : zS x g nL cc own) : (xs x).vm.findClass own = some (xm x).cls := S.2.2.2.1
theorem zS.ts {x g nL cc own} (S : zS x g nL cc own) : ∀ w ∈ zU, w.before (xa x) (xs x) = true := S.2.2.2.2.1
theorem zS.K {x g nL cc own} (S : zS x g nL cc own) : va_K (zD g) vwCl (zTy g) (xs x) := S.2.2.2.2.2.1
theorem zS.ok {x g nL cc own} (S : zS x g nL cc own) : zOK g := S.2.2.2.2.2.2.1
theorem zS.st {x g nL cc own} (S : zS x g nL cc own) : zSt (xl x) g (xs x) (xs x).heap := S.2.2.2.2.2.2.2.1
theorem zS.lk {x g nL cc own} (S : zS x g nL cc own) : (xh x).locks = false := S.2.2.2.2.2.2.2.2
/-- how a method ends -/
def zR (x : zX) (g : zG) (ret : Option FieldType) (mc ms : Nat) (tb : List ExceptionTableEntry) (RT : Option Value → zM → Prop) (XT : String → zM → Prop) : Prop :=
  xQ x = vx_MQ (xb x) (zQr g RT) (zQx g XT) (xa x) (xs x) mc ms (zA g) ∧ (xh x).sig.returnType = ret ∧ (xc x).exceptionTable.toList = tb
section SNN
variable {p : Program} {l : Launch} {e : Env} {R : Room} {s : State} {m : MethodId} {args : Array Value} {below : List Frame} {meth : Method} {c : Code} {H : Heap} {locs : List Loc} {cells slots : Nat}
variable {T : State}
theorem vx_callSN (X : Stand p l e R s m args below meth c T locs cells slots) (hexec : p.tables.exec = Jvm.exec) {own : String} {index : Nat} {host : String} {y : MethodName} {bytes : ByteArray} {maxL : Nat} {ret : Option FieldType}
    (hown : s.vm.findClass own = some m.cls) (hlink : (Cond.methodLinkNest own index y host).before args s = true) (hstat : (Cond.static y).before args s = true) (hinit : (Cond.initialized y.cls).before args s = true)
    (hcode : (Cond.code y bytes maxL ret).before args s = true) (hy : y.cls ≠ "java/lang/invoke/MethodHandle" ∧ y.cls ≠ "java/lang/invoke/VarHandle")
    {W : Nat} {Pre : Pt → Array Value → Prop} {Post : Pt → Array Value → Option Value → Pt → Prop} {PostX : Pt → Array Value → Addr → Pt → Prop} (hK : vx_Back l R p e below s args y 3 W Pre Post PostX)
    {g : JFrame} (hg : g.method = m) (hsize : g.locals.size = c.maxLocals) {argsL rest : List Value} (hlen : ∀ sig, parseMethodDescriptor y.desc = some sig → argsL.length = sig.parameters.length)
    (hstack : g.stack = argsL.reverse ++ rest) (hW : 2 * g.monitorRoom + (rest.map fun v => v.category).sum ≤ W) (hdg : decode c.code g.pc = .ok (.invokestatic index, 3))
    (hpre : ∀ vm₁, s.WarmedH vm₁ → Pre ⟨T.setVm vm₁, locs, cells, slots⟩ argsL.toArray) :
    (∃ (v : Option Value) (vm₁ : Vm) (B : Pt), s.WarmedH vm₁ ∧ Stand p l e R s m args below meth c B.U B.locs B.cells B.slots ∧ Post ⟨T.setVm vm₁, locs, cells, slots⟩ argsL.toArray v B ∧
      ∀ target, Steps p.tables e below (B.U.setTop { g with pc := g.pc + 3, stack := v.toList ++ rest }) target → Steps p.tables e below (T.setTop g) target) ∨
    (∃ (q : Addr) (vm₁ : Vm) (B : Pt), s.WarmedH vm₁ ∧ Stand p l e R s m args below meth c B.U B.locs B.cells B.slots ∧ PostX ⟨T.setVm vm₁, locs, cells, slots⟩ argsL.toArray q B ∧
      Steps p.tables e below (T.setTop g) ((B.U.setTop { g with stack := rest }).pushFrame (.throwing q))) := by
  obtain ⟨mk, hnamed⟩ := Cond.code_named hcode
  obtain ⟨methM, cM, hmethM, -, -, -, -, -, -, hsigM⟩ := Cond.code_spec hnamed hcode
  have hstatic : methM.isStatic = true := Cond.static_spec hnamed hmethM hstat
  obtain ⟨kP, hkP, -⟩ := className_of_methodNamed hnamed
  have hinitP : kP.init = .initialized := Cond.initialized_spec (findClass_of_methodNamed hnamed) hkP hinit
  obtain ⟨vm₁, X₁, hstep₁⟩ := X.invokestaticNest hexec hown hlink hnamed hmethM hstatic hkP hinitP hy (g := g) hg (argsL := argsL) (rest := rest) (hlen _ hsigM) hstack hdg
  rcases hK m meth c ⟨T.setVm vm₁, locs, cells, slots⟩ { g with stack := rest } (.invokestatic index) mk argsL.toArray X₁ hg hsize hdg hW (X₁.named hnamed) (hpre vm₁ X₁.warmed) with ⟨v, B, X', hpost, hsteps⟩ | ⟨q, B, X', hpost, hsteps⟩
  · exact Or.inl ⟨v, vm₁, B, X₁.warmed, X', hpost, fun target h => hstep₁ _ fun acts => by rw [doInvoke_state]; exact hsteps.trans h⟩
  · exact Or.inr ⟨q, vm₁, B, X₁.warmed, X', hpost, hstep₁ _ fun acts => by rw [doInvoke_state]; exact hsteps⟩
theorem vx_runSN {y : MethodName} {bytes cc : ByteArray} {maxL nL mc ms n index : Nat} {ret : Option FieldType} {ws : List Cond} {rm : Room} {Pc : Array Value → State → Prop} {Qc : Array Value → State → Outcome → State → Prop} {XC : String → State → State → Prop} {free : Addr → Prop} {Ts : List Cond} {own host : String} {As rest : List Value} {g : JFrame}
    (S : CallFix p m c cc nL s args Ts own) (hM : vx_Met l y ws rm Pc Qc XC mc ms free) (cw : va_CN R s args own index y host bytes maxL ret ws rm mc ms n ∧ (Cond.static y).before args s = true ∧ True) (hp : PreS s H Pc As)
    (hg : g.method = m) (hn : As.length = n) (hsize : g.locals.size = nL) (hstack : g.stack = As.reverse ++ rest) (hW : 2 * g.monitorRoom + (rest.map fun v => v.category).sum ≤ 8) (hdg : decode cc g.pc = .ok (.invokestatic index, 3)) (hf : cells + mc ≤ R.cells ∧ slots + ms ≤ R.slots) :
    vx_Run p l e R s m args below meth c H locs cells slots mc ms g rest (Qc As.toArray) XC free := by
  obtain ⟨⟨⟨hrc, hrs, hfr, hlo, hws, hcw⟩, hcode, hini, hy, hlen, hl⟩, hx1, hx2⟩ := cw
  have hK : vx_Back l R p e below s args y 3 8 (PreOf R mc ms Pc) (PostOf Qc mc ms free) (vx_Post XC mc ms free) := vx_back (bytes := bytes) (maxL := maxL) (ret := ret) hM hp.1 hrc hrs hfr hlo hws hcw (fun a' U hW => word_at hW (Or.inl (by first | rfl | simp [Cond.onTables, Cond.keeps, Cond.steady])) hini)
  obtain ⟨hx, hb, hml, ho, -⟩ := S
  have hPc := hp.2
  intro T hT X
  rcases vx_callSN X hx (bytes := bytes) (maxL := maxL) (ret := ret) ho hl hx1 hini hcode hy hK hg (hsize.trans hml.symm) (argsL := As) (rest := rest) (fun sig h => hn.trans (hlen sig h)) hstack hW (by rw [hb]; exact hdg)
    (fun vm₁ hW₁ => ⟨hf.1, hf.2, hPc (T.setVm vm₁) hT hW₁⟩) with ⟨v, vm₁, ⟨U', l2, c2, s2⟩, hW₁, X', ⟨g', mk, t, L, e1, e2, hq, h1, hL, h2, h3⟩, st⟩ | ⟨q, vm₁, ⟨U', l2, c2, s2⟩, hW₁, X', ⟨g', mk, t, L, E, ce, e1, e2, hq, hce, hcv, hcl, h1, hL, h2, h3⟩, st⟩
  · dsimp only [Pt.U, Pt.locs, Pt.cells, Pt.slots] at X' e1 e2 h1 h2 h3 st
    subst h1; subst h2; subst h3
    exact Or.inl ⟨v, (T.setVm vm₁).calling g' mk As.toArray, t, U', L, hT, X', hL, e1, e2, hq, st⟩
  · dsimp only [Pt.U, Pt.locs, Pt.cells, Pt.slots] at X' e1 e2 h1 h2 h3 st hcl
    subst h1; subst h2; subst h3
    exact Or.inr ⟨q, (T.setVm vm₁).calling g' mk As.toArray, t, U', L, E, ce, hT, X', hL, e1, e2, hq, hce, hcv, vx_cls hW₁ hcl, st⟩
end SNN
section KK
variable {x : zX} {g : zG} {R : Room} {nL ce sl pc n : Nat} {L : List (Option Value)} {st : List Value} {μ : zM} {cc : ByteArray} {own : String}
theorem k_iadd {a b : Int32} (S : zS x g nL cc own) (hd : decode cc pc = .ok (.iadd, 1)) (hn : pc + 1 = n) (k : zK x g R nL ce sl n L (.int (a + b) :: st) μ) : zK x g R nL ce sl pc L (.int b :: .int a :: st) μ := by subst hn; exact fun H locs ls hP hS hl => lv_iadd S.ex S.by hd (k H locs ls hP hS hl)
theorem k_isub {a b : Int32} (S : zS x g nL cc own) (hd : decode cc pc = .ok (.isub, 1)) (hn : pc + 1 = n) (k : zK x g R nL ce sl n L (.int (a - b) :: st) μ) : zK x g R nL ce sl pc L (.int b :: .int a :: st) μ := by subst hn; exact fun H locs ls hP hS hl => lv_isub S.ex S.by hd (k H locs ls hP hS hl)
theorem k_imul {a b : Int32} (S : zS x g nL cc own) (hd : decode cc pc = .ok (.imul, 1)) (hn : pc + 1 = n) (k : zK x g R nL ce sl n L (.int (a * b) :: st) μ) : zK x g R nL ce sl pc L (.int b :: .int a :: st) μ := by subst hn; exact fun H locs ls hP hS hl => lv_imul S.ex S.by hd (k H locs ls hP hS hl)
theorem k_iand {a b : Int32} (S : zS x g nL cc own) (hd : decode cc pc = .ok (.iand, 1)) (hn : pc + 1 = n) (k : zK x g R nL ce sl n L (.int (a &&& b) :: st) μ) : zK x g R nL ce sl pc L (.int b :: .int a :: st) μ := by subst hn; exact fun H locs ls hP hS hl => lv_iand S.ex S.by hd (k H locs ls hP hS hl)
theorem k_ior {a b : Int32} (S : zS x g nL cc own) (hd : decode cc pc = .ok (.ior, 1)) (hn : pc + 1 = n) (k : zK x g R nL ce sl n L (.int (a ||| b) :: st) μ) : zK x g R nL ce sl pc L (.int b :: .int a :: st) μ := by subst hn; exact fun H locs ls hP hS hl => lv_ior S.ex S.by hd (k H locs ls hP hS hl)
theorem k_ixor {a b : Int32} (S : zS x g nL cc own) (hd : decode cc pc = .ok (.ixor, 1)) (hn : pc + 1 = n) (k : zK x g R nL ce sl n L (.int (a ^^^ b) :: st) μ) : zK x g R nL ce sl pc L (.int b :: .int a :: st) μ := by subst hn; exact fun H locs ls hP hS hl => lv_ixor S.ex S.by hd (k H locs ls hP hS hl)
theorem k_ishl {a b : Int32} (S : zS x g nL cc own) (hd : decode cc pc = .ok (.ishl, 1)) (hn : pc + 1 = n) (k : zK x g R nL ce sl n L (.int (a <<< (b &&& 31)) :: st) μ) : zK x g R nL ce sl pc L (.int b :: .int a :: st) μ := by subst hn; exact fun H locs ls hP hS hl => lv_ishl S.ex S.by hd (k H locs ls hP hS hl)
theorem k_ishr {a b : Int32} (S : zS x g nL cc own) (hd : decode cc pc = .ok (.ishr, 1)) (hn : pc + 1 = n) (k : zK x g R nL ce sl n L (.int (a >>> (b &&& 31)) :: st) μ) : zK x g R nL ce sl pc L (.int b :: .int a :: st) μ := by subst hn; exact fun H locs ls hP hS hl => lv_ishr S.ex S.by hd (k H locs ls hP hS hl)
theorem k_ladd {a b : Int64} (S : zS x g nL cc own) (hd : decode cc pc = .ok (.ladd, 1)) (hn : pc + 1 = n) (k : zK x g R nL ce sl n L (.long (a + b) :: st) μ) : zK x g R nL ce sl pc L (.long b :: .long a :: st) μ := by subst hn; exact fun H locs ls hP hS hl => lv_ladd S.ex S.by hd (k H locs ls hP hS hl)
theorem k_lsub {a b : Int64} (S : zS x g nL cc own) (hd : decode cc pc = .ok (.lsub, 1)) (hn : pc + 1 = n) (k : zK x g R nL ce sl n L (.long (a - b) :: st) μ) : zK x g R nL ce sl pc L (.long b :: .long a :: st) μ := by subst hn; exact fun H locs ls hP hS hl => lv_lsub S.ex S.by hd (k H locs ls hP hS hl)
theorem k_lmul {a b : Int64} (S : zS x g nL cc own) (hd : decode cc pc = .ok (.lmul, 1)) (hn : pc + 1 = n) (k : zK x g R nL ce sl n L (.long (a * b) :: st) μ) : zK x g R nL ce sl pc L (.long b :: .long a :: st) μ := by subst hn; exact fun H locs ls hP hS hl => lv_lmul S.ex S.by hd (k H locs ls hP hS hl)
theorem k_lxor {a b : Int64} (S : zS x g nL cc own) (hd : decode cc pc = .ok (.lxor, 1)) (hn : pc + 1 = n) (k : zK x g R nL ce sl n L (.long (a ^^^ b) :: st) μ) : zK x g R nL ce sl pc L (.long b :: .long a :: st) μ := by subst hn; exact fun H locs ls hP hS hl => lv_lxor S.ex S.by hd (k H locs ls hP hS hl)
theorem k_idiv {a b : Int32} (S : zS x g nL cc own) (hd : decode cc pc = .ok (.idiv, 1)) (h0 : ¬ b = 0) (hn : pc + 1 = n) (k : zK x g R nL ce sl n L (.int (a / b) :: st) μ) : zK x g R nL ce sl pc L (.int b :: .int a :: st) μ := by subst hn; exact fun H locs ls hP hS hl => lv_idiv S.ex S.by hd h0 (k H locs ls hP hS hl)
theorem k_ldiv {a b : Int64} (S : zS x g nL cc own) (hd : decode cc pc = .ok (.ldiv, 1)) (h0 : ¬ b = 0) (hn : pc + 1 = n) (k : zK x g R nL ce sl n L (.long (a / b) :: st) μ) : zK x g R nL ce sl pc L (.long b :: .long a :: st) μ := by subst hn; exact fun H locs ls hP hS hl => lv_ldiv S.ex S.by hd h0 (k H locs ls hP hS hl)
theorem k_ineg {a : Int32} (S : zS x g nL cc own) (hd : decode cc pc = .ok (.ineg, 1)) (hn : pc + 1 = n) (k : zK x g R nL ce sl n L (.int (-a) :: st) μ) : zK x g R nL ce sl pc L (.int a :: st) μ := by subst hn; exact fun H locs ls hP hS hl => lv_ineg S.ex S.by hd (k H locs ls hP hS hl)
theorem k_iushr {a b v : Int32} (S : zS x g nL cc own) (hd : decode cc pc = .ok (.iushr, 1)) (hv : (a.toUInt32 >>> (b.toUInt32 &&& Int32.toUInt32 31)).toInt32 = v) (hn : pc + 1 = n) (k : zK x g R nL ce sl n L (.int v :: st) μ) : zK x g R nL ce sl pc L (.int b :: .int a :: st) μ := by subst hn; exact fun H locs ls hP hS hl => lv_iushr S.ex S.by hd hv (k H locs ls hP hS hl)
theorem k_i2l {a : Int32} (S : zS x g nL cc own) (hd : decode cc pc = .ok (.i2l, 1)) (hn : pc + 1 = n) (k : zK x g R nL ce sl n L (.long a.toInt64 :: st) μ) : zK x g R nL ce sl pc L (.int a :: st) μ := by subst hn; exact fun H locs ls hP hS hl => lv_i2l S.ex S.by hd rfl (k H locs ls hP hS hl)
theorem k_l2i {a : Int64} (S : zS x g nL cc own) (hd : decode cc pc = .ok (.l2i, 1)) (hn : pc + 1 = n) (k : zK x g R nL ce sl n L (.int a.toInt32 :: st) μ) : zK x g R nL ce sl pc L (.long a :: st) μ := by subst hn; exact fun H locs ls hP hS hl => lv_l2i S.ex S.by hd rfl (k H locs ls hP hS hl)
theorem k_lcmp {a b : Int64} (S : zS x g nL cc own) (hd : decode cc pc = .ok (.lcmp, 1)) (hn : pc + 1 = n) (k : zK x g R nL ce sl n L (.int (lg_cmp a b) :: st) μ) : zK x g R nL ce sl pc L (.long b :: .long a :: st) μ := by subst hn; exact fun H locs ls hP hS hl => W.lcmp S.ex S.by hd (k H locs ls hP hS hl)
theorem k_dup {a : Value} (S : zS x g nL cc own) (hd : decode cc pc = .ok (.dup, 1)) (hc : a.category = 1) (hn : pc + 1 = n) (k : zK x g R nL ce sl n L (a :: a :: st) μ) : zK x g R nL ce sl pc L (a :: st) μ := by subst hn; exact fun H locs ls hP hS hl => lv_dup S.ex S.by hd hc (k H locs ls hP hS hl)
theorem k_pop {a : Value} (S : zS x g nL cc own) (hd : decode cc pc = .ok (.pop, 1)) (hc : a.category = 1) (hn : pc + 1 = n) (k : zK x g R nL ce sl n L (st) μ) : zK x g R nL ce sl pc L (a :: st) μ := by subst hn; exact fun H locs ls hP hS hl => lv_pop S.ex S.by hd hc (k H locs ls hP hS hl)
theorem k_iconst {i : Int} {v : Int32} (S : zS x g nL cc own) (hd : decode cc pc = .ok (.iconst i, 1)) (hv : Int32.ofInt i = v) (hn : pc + 1 = n) (k : zK x g R nL ce sl n L (.int v :: st) μ) : zK x g R nL ce sl pc L (st) μ := by subst hn; exact fun H locs ls hP hS hl => lv_iconst S.ex S.by hd hv (k H locs ls hP hS hl)
theorem k_bipush {i : Int} {v : Int32} (S : zS x g nL cc own) (hd : decode cc pc = .ok (.bipush i, 2)) (hv : (Int8.ofInt i).toInt32 = v) (hn : pc + 2 = n) (k : zK x g R nL ce sl n L (.int v :: st) μ) : zK x g R nL ce sl pc L (st) μ := by subst hn; exact fun H locs ls hP hS hl => lv_bipush S.ex S.by hd hv (k H locs ls hP hS hl)
theorem k_sipush {i : Int} {v : Int32} (S : zS x g nL cc own) (hd : decode cc pc = .ok (.sipush i, 3)) (hv : (Int16.ofInt i).toInt32 = v) (hn : pc + 3 = n) (k : zK x g R nL ce sl n L (.int v :: st) μ) : zK x g R nL ce sl pc L (st) μ := by subst hn; exact fun H locs ls hP hS hl => lv_sipush S.ex S.by hd hv (k H locs ls hP hS hl)
theorem k_lconst {i : Fin 2} {v : Int64} (S : zS x g nL cc own) (hd : decode cc pc = .ok (.lconst i, 1)) (hv : Int64.ofNat (i : Nat) = v) (hn : pc + 1 = n) (k : zK x g R nL ce sl n L (.long v :: st) μ) : zK x g R nL ce sl pc L (st) μ := by subst hn; exact fun H locs ls hP hS hl => lv_lconst S.ex S.by hd hv (k H locs ls hP hS hl)
theorem k_ldc {i : Nat} {v : Int32} (S : zS x g nL cc own) (hd : decode cc pc = .ok (.ldc i, 2)) (hw : Cond.constant own i v ∈ zU) (hn : pc + 2 = n) (k : zK x g R nL ce sl n L (.int v :: st) μ) : zK x g R nL ce sl pc L st μ := by subst hn; exact fun H locs ls hP hS hl => lv_ldc S.ex S.by S.own (S.ts _ hw) hd (k H locs ls hP hS hl)
theorem k_ldcw {i : Nat} {v : Int32} (S : zS x g nL cc own) (hd : decode cc pc = .ok (.ldc_w i, 3)) (hw : Cond.constant own i v ∈ zU) (hn : pc + 3 = n) (k : zK x g R nL ce sl n L (.int v :: st) μ) : zK x g R nL ce sl pc L st μ := by subst hn; exact fun H locs ls hP hS hl => lv_ldcw S.ex S.by S.own (S.ts _ hw) hd (k H locs ls hP hS hl)
theorem k_ldc2 {i : Nat} {v : Int64} (S : zS x g nL cc own) (hd : decode cc pc = .ok (.ldc2_w i, 3)) (hw : Cond.constantLong own i v ∈ zU) (hn : pc + 3 = n) (k : zK x g R nL ce sl n L (.long v :: st) μ) : zK x g R nL ce sl pc L st μ := by subst hn; exact fun H locs ls hP hS hl => lv_ldc2 S.ex S.by S.own (S.ts _ hw) hd (k H locs ls hP hS hl)
theorem k_if_eq {a : Int32} {off : Int} {tgt : Nat} (S : zS x g nL cc own) (hd : decode cc pc = .ok (.ifCond .eq off, 3)) (ht : (pc : Int) + off = (tgt : Int)) (hn : pc + 3 = n) (kt : a = 0 → zK x g R nL ce sl tgt L st μ) (kf : ¬ (a = 0) → zK x g R nL ce sl n L st μ) : zK x g R nL ce sl pc L (.int a :: st) μ := by subst hn; exact fun H locs ls hP hS hl => lv_if_eq S.ex S.by hd ht (fun h => kt h H locs ls hP hS hl) (fun h => kf h H locs ls hP hS hl)
theorem k_if_lt {a : Int32} {off : Int} {tgt : Nat} (S : zS x g nL cc own) (hd : decode cc pc = .ok (.ifCond .lt off, 3)) (ht : (pc : Int) + off = (tgt : Int)) (hn : pc + 3 = n) (kt : a < 0 → zK x g R nL ce sl tgt L st μ) (kf : ¬ (a < 0) → zK x g R nL ce sl n L st μ) : zK x g R nL ce sl pc L (.int a :: st) μ := by subst hn; exact fun H locs ls hP hS hl => lv_if_lt S.ex S.by hd ht (fun h => kt h H locs ls hP hS hl) (fun h => kf h H locs ls hP hS hl)
theorem k_if_ge {a : Int32} {off : Int} {tgt : Nat} (S : zS x g nL cc own) (hd : decode cc pc = .ok (.ifCond .ge off, 3)) (ht : (pc : Int) + off = (tgt : Int)) (hn : pc + 3 = n) (kt : 0 ≤ a → zK x g R nL ce sl tgt L st μ) (kf : ¬ (0 ≤ a) → zK x g R nL ce sl n L st μ) : zK x g R nL ce sl pc L (.int a :: st) μ := by subst hn; exact fun H locs ls hP hS hl => lv_if_ge S.ex S.by hd ht (fun h => kt h H locs ls hP hS hl) (fun h => kf h H locs ls hP hS hl)
theorem k_if_gt {a : Int32} {off : Int} {tgt : Nat} (S : zS x g nL cc own) (hd : decode cc pc = .ok (.ifCond .gt off, 3)) (ht : (pc : Int) + off = (tgt : Int)) (hn : pc + 3 = n) (kt : 0 < a → zK x g R nL ce sl tgt L st μ) (kf : ¬ (0 < a) → zK x g R nL ce sl n L st μ) : zK x g R nL ce sl pc L (.int a :: st) μ := by subst hn; exact fun H locs ls hP hS hl => lv_if_gt S.ex S.by hd ht (fun h => kt h H locs ls hP hS hl) (fun h => kf h H locs ls hP hS hl)
theorem k_if_le {a : Int32} {off : Int} {tgt : Nat} (S : zS x g nL cc own) (hd : decode cc pc = .ok (.ifCond .le off, 3)) (ht : (pc : Int) + off = (tgt : Int)) (hn : pc + 3 = n) (kt : a ≤ 0 → zK x g R nL ce sl tgt L st μ) (kf : ¬ (a ≤ 0) → zK x g R nL ce sl n L st μ) : zK x g R nL ce sl pc L (.int a :: st) μ := by subst hn; exact fun H locs ls hP hS hl => lv_if_le S.ex S.by hd ht (fun h => kt h H locs ls hP hS hl) (fun h => kf h H locs ls hP hS hl)
theorem k_icmp_eq {a b : Int32} {off : Int} {tgt : Nat} (S : zS x g nL cc own) (hd : decode cc pc = .ok (.if_icmp .eq off, 3)) (ht : (pc : Int) + off = (tgt : Int)) (hn : pc + 3 = n) (kt : a = b → zK x g R nL ce sl tgt L st μ) (kf : ¬ (a = b) → zK x g R nL ce sl n L st μ) : zK x g R nL ce sl pc L (.int b :: .int a :: st) μ := by subst hn; exact fun H locs ls hP hS hl => lv_icmp_eq S.ex S.by hd ht (fun h => kt h H locs ls hP hS hl) (fun h => kf h H locs ls hP hS hl)
theorem k_icmp_lt {a b : Int32} {off : Int} {tgt : Nat} (S : zS x g nL cc own) (hd : decode cc pc = .ok (.if_icmp .lt off, 3)) (ht : (pc : Int) + off = (tgt : Int)) (hn : pc + 3 = n) (kt : a < b → zK x g R nL ce sl tgt L st μ) (kf : ¬ (a < b) → zK x g R nL ce sl n L st μ) : zK x g R nL ce sl pc L (.int b :: .int a :: st) μ := by subst hn; exact fun H locs ls hP hS hl => lv_icmp_lt S.ex S.by hd ht (fun h => kt h H locs ls hP hS hl) (fun h => kf h H locs ls hP hS hl)
theorem k_icmp_ge {a b : Int32} {off : Int} {tgt : Nat} (S : zS x g nL cc own) (hd : decode cc pc = .ok (.if_icmp .ge off, 3)) (ht : (pc : Int) + off = (tgt : Int)) (hn : pc + 3 = n) (kt : b ≤ a → zK x g R nL ce sl tgt L st μ) (kf : ¬ (b ≤ a) → zK x g R nL ce sl n L st μ) : zK x g R nL ce sl pc L (.int b :: .int a :: st) μ := by subst hn; exact fun H locs ls hP hS hl => lv_icmp_ge S.ex S.by hd ht (fun h => kt h H locs ls hP hS hl) (fun h => kf h H locs ls hP hS hl)
theorem k_icmp_gt {a b : Int32} {off : Int} {tgt : Nat} (S : zS x g nL cc own) (hd : decode cc pc = .ok (.if_icmp .gt off, 3)) (ht : (pc : Int) + off = (tgt : Int)) (hn : pc + 3 = n) (kt : b < a → zK x g R nL ce sl tgt L st μ) (kf : ¬ (b < a) → zK x g R nL ce sl n L st μ) : zK x g R nL ce sl pc L (.int b :: .int a :: st) μ := by subst hn; exact fun H locs ls hP hS hl => lv_icmp_gt S.ex S.by hd ht (fun h => kt h H locs ls hP hS hl) (fun h => kf h H locs ls hP hS hl)
theorem k_icmp_le {a b : Int32} {off : Int} {tgt : Nat} (S : zS x g nL cc own) (hd : decode cc pc = .ok (.if_icmp .le off, 3)) (ht : (pc : Int) + off = (tgt : Int)) (hn : pc + 3 = n) (kt : a ≤ b → zK x g R nL ce sl tgt L st μ) (kf : ¬ (a ≤ b) → zK x g R nL ce sl n L st μ) : zK x g R nL ce sl pc L (.int b :: .int a :: st) μ := by subst hn; exact fun H locs ls hP hS hl => lv_icmp_le S.ex S.by hd ht (fun h => kt h H locs ls hP hS hl) (fun h => kf h H locs ls hP hS hl)
theorem k_if_ne {a : Int32} {off : Int} {tgt : Nat} (S : zS x g nL cc own) (hd : decode cc pc = .ok (.ifCond .ne off, 3)) (ht : (pc : Int) + off = (tgt : Int)) (hn : pc + 3 = n) (kt : ¬ (a = 0) → zK x g R nL ce sl tgt L st μ) (kf : a = 0 → zK x g R nL ce sl n L st μ) : zK x g R nL ce sl pc L (.int a :: st) μ := by subst hn; exact fun H locs ls hP hS hl => lv_if_ne S.ex S.by hd ht (fun h => kt h H locs ls hP hS hl) (fun h => kf h H locs ls hP hS hl)
theorem k_icmp_ne {a b : Int32} {off : Int} {tgt : Nat} (S : zS x g nL cc own) (hd : decode cc pc = .ok (.if_icmp .ne off, 3)) (ht : (pc : Int) + off = (tgt : Int)) (hn : pc + 3 = n) (kt : ¬ (a = b) → zK x g R nL ce sl tgt L st μ) (kf : a = b → zK x g R nL ce sl n L st μ) : zK x g R nL ce sl pc L (.int b :: .int a :: st) μ := by subst hn; exact fun H locs ls hP hS hl => lv_icmp_ne S.ex S.by hd ht (fun h => kt h H locs ls hP hS hl) (fun h => kf h H locs ls hP hS hl)
theorem k_goto {off : Int} {tgt : Nat} (S : zS x g nL cc own) (hd : decode cc pc = .ok (.goto off, 3)) (ht : (pc : Int) + off = (tgt : Int)) (k : zK x g R nL ce sl tgt L st μ) : zK x g R nL ce sl pc L st μ := fun H locs ls hP hS hl => lv_goto S.ex S.by hd ht (k H locs ls hP hS hl)
theorem k_iload_n {i : Fin 4} {j : Nat} {a : Int32} (S : zS x g nL cc own) (hd : decode cc pc = .ok (.iload_n i, 1)) (hj : (i : Nat) = j) (hL : L[j]? = some (some (.int a))) (hn : pc + 1 = n) (k : zK x g R nL ce sl n L (.int a :: st) μ) : zK x g R nL ce sl pc L st μ := by subst hn; exact fun H locs ls hP hS hl => lv_iload_n S.ex S.by hd hj (zl_get hl hL) (k H locs ls hP hS hl)
theorem k_iload {j : Nat} {a : Int32} (S : zS x g nL cc own) (hd : decode cc pc = .ok (.iload j, 2)) (hL : L[j]? = some (some (.int a))) (hn : pc + 2 = n) (k : zK x g R nL ce sl n L (.int a :: st) μ) : zK x g R nL ce sl pc L st μ := by subst hn; exact fun H locs ls hP hS hl => lv_iload S.ex S.by hd (zl_get hl hL) (k H locs ls hP hS hl)
theorem k_istore_n {i : Fin 4} {j : Nat} {a : Int32} (S : zS x g nL cc own) (hd : decode cc pc = .ok (.istore_n i, 1)) (hj : (i : Nat) = j) (hb : j < nL) (hp : ∀ (i : Nat) (u : Value), i + 1 = j → L[i]? = some (some u) → u.category ≠ 2) (hn : pc + 1 = n) (k : zK x g R nL ce sl n (L.set j (some (.int a))) st μ) : zK x g R nL ce sl pc L (.int a :: st) μ := by subst hn; exact fun H locs ls hP hS hl => lv_istore_n S.ex S.by hd hj hl hb rfl (fun ls1 h1 => k H locs ls1 hP hS (zl_set1 hp h1))
theorem k_istore {j : Nat} {a : Int32} (S : zS x g nL cc own) (hd : decode cc pc = .ok (.istore j, 2)) (hb : j < nL) (hp : ∀ (i : Nat) (u : Value), i + 1 = j → L[i]? = some (some u) → u.category ≠ 2) (hn : pc + 2 = n) (k : zK x g R nL ce sl n (L.set j (some (.int a))) st μ) : zK x g R nL ce sl pc L (.int a :: st) μ := by subst hn; exact fun H locs ls hP hS hl => lv_istore S.ex S.by hd hl hb rfl (fun ls1 h1 => k H locs ls1 hP hS (zl_set1 hp h1))
theorem k_lload_n {i : Fin 4} {j : Nat} {a : Int64} (S : zS x g nL cc own) (hd : decode cc pc = .ok (.lload_n i, 1)) (hj : (i : Nat) = j) (hL : L[j]? = some (some (.long a))) (hn : pc + 1 = n) (k : zK x g R nL ce sl n L (.long a :: st) μ) : zK x g R nL ce sl pc L st μ := by subst hn; exact fun H locs ls hP hS hl => lv_lload_n S.ex S.by hd hj (zl_get hl hL) (k H locs ls hP hS hl)
theorem k_lload {j : Nat} {a : Int64} (S : zS x g nL cc own) (hd : decode cc pc = .ok (.lload j, 2)) (hL : L[j]? = some (some (.long a))) (hn : pc + 2 = n) (k : zK x g R nL ce sl n L (.long a :: st) μ) : zK x g R nL ce sl pc L st μ := by subst hn; exact fun H locs ls hP hS hl => lv_lload S.ex S.by hd (zl_get hl hL) (k H locs ls hP hS hl)
theorem k_lstore_n {i : Fin 4} {j : Nat} {a : Int64} (S : zS x g nL cc own) (hd : decode cc pc = .ok (.lstore_n i, 1)) (hj : (i : Nat) = j) (hb : j + 1 < nL) (hp : ∀ (i : Nat) (u : Value), i + 1 = j → L[i]? = some (some u) → u.category ≠ 2) (hn : pc + 1 = n) (k : zK x g R nL ce sl n ((L.set j (some (.long a))).set (j + 1) none) st μ) : zK x g R nL ce sl pc L (.long a :: st) μ := by subst hn; exact fun H locs ls hP hS hl => lv_lstore_n S.ex S.by hd hj hl hb rfl (fun ls1 h1 => k H locs ls1 hP hS (zl_set2 hp h1))
theorem k_lstore {j : Nat} {a : Int64} (S : zS x g nL cc own) (hd : decode cc pc = .ok (.lstore j, 2)) (hb : j + 1 < nL) (hp : ∀ (i : Nat) (u : Value), i + 1 = j → L[i]? = some (some u) → u.category ≠ 2) (hn : pc + 2 = n) (k : zK x g R nL ce sl n ((L.set j (some (.long a))).set (j + 1) none) st μ) : zK x g R nL ce sl pc L (.long a :: st) μ := by subst hn; exact fun H locs ls hP hS hl => lv_lstore S.ex S.by hd hl hb rfl (fun ls1 h1 => k H locs ls1 hP hS (zl_set2 hp h1))
theorem k_aload_n {i : Fin 4} {j : Nat} {a : Nat} (S : zS x g nL cc own) (hd : decode cc pc = .ok (.aload_n i, 1)) (hj : (i : Nat) = j) (hL : L[j]? = some (some (.ref a))) (hn : pc + 1 = n) (k : zK x g R nL ce sl n L (.ref a :: st) μ) : zK x g R nL ce sl pc L st μ := by subst hn; exact fun H locs ls hP hS hl => lv_aload_n S.ex S.by hd hj (zl_get hl hL) (k H locs ls hP hS hl)
theorem k_aload {j : Nat} {a : Nat} (S : zS x g nL cc own) (hd : decode cc pc = .ok (.aload j, 2)) (hL : L[j]? = some (some (.ref a))) (hn : pc + 2 = n) (k : zK x g R nL ce sl n L (.ref a :: st) μ) : zK x g R nL ce sl pc L st μ := by subst hn; exact fun H locs ls hP hS hl => lv_aload S.ex S.by hd (zl_get hl hL) (k H locs ls hP hS hl)
theorem k_astore_n {i : Fin 4} {j : Nat} {a : Nat} (S : zS x g nL cc own) (hd : decode cc pc = .ok (.astore_n i, 1)) (hj : (i : Nat) = j) (hb : j < nL) (hp : ∀ (i : Nat) (u : Value), i + 1 = j → L[i]? = some (some u) → u.category ≠ 2) (hn : pc + 1 = n) (k : zK x g R nL ce sl n (L.set j (some (.ref a))) st μ) : zK x g R nL ce sl pc L (.ref a :: st) μ := by subst hn; exact fun H locs ls hP hS hl => lv_astore_n S.ex S.by hd hj hl hb rfl (fun ls1 h1 => k H locs ls1 hP hS (zl_set1 hp h1))
theorem k_astore {j : Nat} {a : Nat} (S : zS x g nL cc own) (hd : decode cc pc = .ok (.astore j, 2)) (hb : j < nL) (hp : ∀ (i : Nat) (u : Value), i + 1 = j → L[i]? = some (some u) → u.category ≠ 2) (hn : pc + 2 = n) (k : zK x g R nL ce sl n (L.set j (some (.ref a))) st μ) : zK x g R nL ce sl pc L (.ref a :: st) μ := by subst hn; exact fun H locs ls hP hS hl => lv_astore S.ex S.by hd hl hb rfl (fun ls1 h1 => k H locs ls1 hP hS (zl_set1 hp h1))
theorem k_iinc {j : Nat} {i : Int} {a v : Int32} (S : zS x g nL cc own) (hd : decode cc pc = .ok (.iinc j i, 3)) (hL : L[j]? = some (some (.int a))) (hv : a + Int32.ofInt i = v) (hb : j < nL) (hn : pc + 3 = n) (k : zK x g R nL ce sl n (L.set j (some (.int v))) st μ) : zK x g R nL ce sl pc L st μ := by
  subst hn
  intro H locs ls hP hS hl
  obtain ⟨k9, hk9⟩ := List.mem_iff_getElem?.mp ((zl_mem L 0 j (.int a)).mpr ⟨j, by omega, hL⟩)
  refine lv_iinc S.ex S.by hd hl hk9 hv hb rfl (fun ls1 h1 => k H locs ls1 hP hS (zl_set1 (fun i9 u e hu he => ?_) h1))
  have h2 := hl.2.1.1 i9 u (zl_get hl hu) he
  rw [e, zl_get hl hL] at h2
  cases h2
def zc1 : Option Value → Bool | some (.long _) => false | some (.double _) => false | _ => true
theorem zc1_ok {u : Value} (h : zc1 (some u) = true) : u.category ≠ 2 := by
  cases u <;> first | (intro q; cases q; done) | cases h
theorem k_iload0 {t : List (Option Value)} {a : Int32} (S : zS x g nL cc own) (hd : decode cc pc = .ok (.iload_n 0, 1)) (hn : pc + 1 = n) (k : zK x g R nL ce sl n (some (.int a) :: t) (.int a :: st) μ) : zK x g R nL ce sl pc (some (.int a) :: t) st μ := k_iload_n S hd rfl rfl hn k
theorem k_istore0 {a0 : Option Value} {t : List (Option Value)} {a : Int32} (S : zS x g nL cc own) (hd : decode cc pc = .ok (.istore_n 0, 1)) (hb : 0 < nL) (hn : pc + 1 = n) (k : zK x g R nL ce sl n (some (.int a) :: t) st μ) : zK x g R nL ce sl pc (a0 :: t) (.int a :: st) μ := k_istore_n S hd rfl hb (fun i9 u e hu => by omega) hn k
theorem k_lload0 {t : List (Option Value)} {a : Int64} (S : zS x g nL cc own) (hd : decode cc pc = .ok (.lload_n 0, 1)) (hn : pc + 1 = n) (k : zK x g R nL ce sl n (some (.long a) :: t) (.long a :: st) μ) : zK x g R nL ce sl pc (some (.long a) :: t) st μ := k_lload_n S hd rfl rfl hn k
theorem k_lstore0 {a0 a1 : Option Value} {t : List (Option Value)} {a : Int64} (S : zS x g nL cc own) (hd : decode cc pc = .ok (.lstore_n 0, 1)) (hb : 0 + 1 < nL) (hn : pc + 1 = n) (k : zK x g R nL ce sl n (some (.long a) :: none :: t) st μ) : zK x g R nL ce sl pc (a0 :: a1 :: t) (.long a :: st) μ := k_lstore_n S hd rfl hb (fun i9 u e hu => by omega) hn k
theorem k_aload0 {t : List (Option Value)} {a : Nat} (S : zS x g nL cc own) (hd : decode cc pc = .ok (.aload_n 0, 1)) (hn : pc + 1 = n) (k : zK x g R nL ce sl n (some (.ref a) :: t) (.ref a :: st) μ) : zK x g R nL ce sl pc (some (.ref a) :: t) st μ := k_aload_n S hd rfl rfl hn k
theorem k_astore0 {a0 : Option Value} {t : List (Option Value)} {a : Nat} (S : zS x g nL cc own) (hd : decode cc pc = .ok (.astore_n 0, 1)) (hb : 0 < nL) (hn : pc + 1 = n) (k : zK x g R nL ce sl n (some (.ref a) :: t) st μ) : zK x g R nL ce sl pc (a0 :: t) (.ref a :: st) μ := k_astore_n S hd rfl hb (fun i9 u e hu => by omega) hn k
theorem k_iinc0 {t : List (Option Value)} {a v : Int32} {d : Int} (S : zS x g nL cc own) (hd : decode cc pc = .ok (.iinc 0 d, 3)) (hv : a + Int32.ofInt d = v) (hb : 0 < nL) (hn : pc + 3 = n) (k : zK x g R nL ce sl n (some (.int v) :: t) st μ) : zK x g R nL ce sl pc (some (.int a) :: t) st μ := k_iinc S hd rfl hv hb hn k
theorem k_iload1 {a0 : Option Value} {t : List (Option Value)} {a : Int32} (S : zS x g nL cc own) (hd : decode cc pc = .ok (.iload_n 1, 1)) (hn : pc + 1 = n) (k : zK x g R nL ce sl n (a0 :: some (.int a) :: t) (.int a :: st) μ) : zK x g R nL ce sl pc (a0 :: some (.int a) :: t) st μ := k_iload_n S hd rfl rfl hn k
theorem k_istore1 {a0 a1 : Option Value} {t : List (Option Value)} {a : Int32} (S : zS x g nL cc own) (hd : decode cc pc = .ok (.istore_n 1, 1)) (hb : 1 < nL) (hp : zc1 a0 = true) (hn : pc + 1 = n) (k : zK x g R nL ce sl n (a0 :: some (.int a) :: t) st μ) : zK x g R nL ce sl pc (a0 :: a1 :: t) (.int a :: st) μ := k_istore_n S hd rfl hb (fun i9 u e hu => by
    have e9 : i9 = 0 := by omega
    subst e9
    simp at hu
    subst hu
    exact zc1_ok hp) hn k
theorem k_lload1 {a0 : Option Value} {t : List (Option Value)} {a : Int64} (S : zS x g nL cc own) (hd : decode cc pc = .ok (.lload_n 1, 1)) (hn : pc + 1 = n) (k : zK x g R nL ce sl n (a0 :: some (.long a) :: t) (.long a :: st) μ) : zK x g R nL ce sl pc (a0 :: some (.long a) :: t) st μ := k_lload_n S hd rfl rfl hn k
theorem k_lstore1 {a0 a1 a2 : Option Value} {t : List (Option Value)} {a : Int64} (S : zS x g nL cc own) (hd : decode cc pc = .ok (.lstore_n 1, 1)) (hb : 1 + 1 < nL) (hp : zc1 a0 = true) (hn : pc + 1 = n) (k : zK x g R nL ce sl n (a0 :: some (.long a) :: none :: t) st μ) : zK x g R nL ce sl pc (a0 :: a1 :: a2 :: t) (.long a :: st) μ := k_lstore_n S hd rfl hb (fun i9 u e hu => by
    have e9 : i9 = 0 := by omega
    subst e9
    simp at hu
    subst hu
    exact zc1_ok hp) hn k
theorem k_aload1 {a0 : Option Value} {t : List (Option Value)} {a : Nat} (S : zS x g nL cc own) (hd : decode cc pc = .ok (.aload_n 1, 1)) (hn : pc + 1 = n) (k : zK x g R nL ce sl n (a0 :: some (.ref a) :: t) (.ref a :: st) μ) : zK x g R nL ce sl pc (a0 :: some (.ref a) :: t) st μ := k_aload_n S hd rfl rfl hn k
theorem k_astore1 {a0 a1 : Option Value} {t : List (Option Value)} {a : Nat} (S : zS x g nL cc own) (hd : decode cc pc = .ok (.astore_n 1, 1)) (hb : 1 < nL) (hp : zc1 a0 = true) (hn : pc + 1 = n) (k : zK x g R nL ce sl n (a0 :: some (.ref a) :: t) st μ) : zK x g R nL ce sl pc (a0 :: a1 :: t) (.ref a :: st) μ := k_astore_n S hd rfl hb (fun i9 u e hu => by
    have e9 : i9 = 0 := by omega
    subst e9
    simp at hu
    subst hu
    exact zc1_ok hp) hn k
theorem k_iinc1 {a0 : Option Value} {t : List (Option Value)} {a v : Int32} {d : Int} (S : zS x g nL cc own) (hd : decode cc pc = .ok (.iinc 1 d, 3)) (hv : a + Int32.ofInt d = v) (hb : 1 < nL) (hn : pc + 3 = n) (k : zK x g R nL ce sl n (a0 :: some (.int v) :: t) st μ) : zK x g R nL ce sl pc (a0 :: some (.int a) :: t) st μ := k_iinc S hd rfl hv hb hn k
theorem k_iload2 {a0 a1 : Option Value} {t : List (Option Value)} {a : Int32} (S : zS x g nL cc own) (hd : decode cc pc = .ok (.iload_n 2, 1)) (hn : pc + 1 = n) (k : zK x g R nL ce sl n (a0 :: a1 :: some (.int a) :: t) (.int a :: st) μ) : zK x g R nL ce sl pc (a0 :: a1 :: some (.int a) :: t) st μ := k_iload_n S hd rfl rfl hn k
theorem k_istore2 {a0 a1 a2 : Option Value} {t : List (Option Value)} {a : Int32} (S : zS x g nL cc own) (hd : decode cc pc = .ok (.istore_n 2, 1)) (hb : 2 < nL) (hp : zc1 a1 = true) (hn : pc + 1 = n) (k : zK x g R nL ce sl n (a0 :: a1 :: some (.int a) :: t) st μ) : zK x g R nL ce sl pc (a0 :: a1 :: a2 :: t) (.int a :: st) μ := k_istore_n S hd rfl hb (fun i9 u e hu => by
    have e9 : i9 = 1 := by omega
    subst e9
    simp at hu
    subst hu
    exact zc1_ok hp) hn k
theorem k_lload2 {a0 a1 : Option Value} {t : List (Option Value)} {a : Int64} (S : zS x g nL cc own) (hd : decode cc pc = .ok (.lload_n 2, 1)) (hn : pc + 1 = n) (k : zK x g R nL ce sl n (a0 :: a1 :: some (.long a) :: t) (.long a :: st) μ) : zK x g R nL ce sl pc (a0 :: a1 :: some (.long a) :: t) st μ := k_lload_n S hd rfl rfl hn k
theorem k_lstore2 {a0 a1 a2 a3 : Option Value} {t : List (Option Value)} {a : Int64} (S : zS x g nL cc own) (hd : decode cc pc = .ok (.lstore_n 2, 1)) (hb : 2 + 1 < nL) (hp : zc1 a1 = true) (hn : pc + 1 = n) (k : zK x g R nL ce sl n (a0 :: a1 :: some (.long a) :: none :: t) st μ) : zK x g R nL ce sl pc (a0 :: a1 :: a2 :: a3 :: t) (.long a :: st) μ := k_lstore_n S hd rfl hb (fun i9 u e hu => by
    have e9 : i9 = 1 := by omega
    subst e9
    simp at hu
    subst hu
    exact zc1_ok hp) hn k
theorem k_aload2 {a0 a1 : Option Value} {t : List (Option Value)} {a : Nat} (S : zS x g nL cc own) (hd : decode cc pc = .ok (.aload_n 2, 1)) (hn : pc + 1 = n) (k : zK x g R nL ce sl n (a0 :: a1 :: some (.ref a) :: t) (.ref a :: st) μ) : zK x g R nL ce sl pc (a0 :: a1 :: some (.ref a) :: t) st μ := k_aload_n S hd rfl rfl hn k
theorem k_astore2 {a0 a1 a2 : Option Value} {t : List (Option Value)} {a : Nat} (S : zS x g nL cc own) (hd : decode cc pc = .ok (.astore_n 2, 1)) (hb : 2 < nL) (hp : zc1 a1 = true) (hn : pc + 1 = n) (k : zK x g R nL ce sl n (a0 :: a1 :: some (.ref a) :: t) st μ) : zK x g R nL ce sl pc (a0 :: a1 :: a2 :: t) (.ref a :: st) μ := k_astore_n S hd rfl hb (fun i9 u e hu => by
    have e9 : i9 = 1 := by omega
    subst e9
    simp at hu
    subst hu
    exact zc1_ok hp) hn k
theorem k_iinc2 {a0 a1 : Option Value} {t : List (Option Value)} {a v : Int32} {d : Int} (S : zS x g nL cc own) (hd : decode cc pc = .ok (.iinc 2 d, 3)) (hv : a + Int32.ofInt d = v) (hb : 2 < nL) (hn : pc + 3 = n) (k : zK x g R nL ce sl n (a0 :: a1 :: some (.int v) :: t) st μ) : zK x g R nL ce sl pc (a0 :: a1 :: some (.int a) :: t) st μ := k_iinc S hd rfl hv hb hn k
theorem k_iload3 {a0 a1 a2 : Option Value} {t : List (Option Value)} {a : Int32} (S : zS x g nL cc own) (hd : decode cc pc = .ok (.iload_n 3, 1)) (hn : pc + 1 = n) (k : zK x g R nL ce sl n (a0 :: a1 :: a2 :: some (.int a) :: t) (.int a :: st) μ) : zK x g R nL ce sl pc (a0 :: a1 :: a2 :: some (.int a) :: t) st μ := k_iload_n S hd rfl rfl hn k
theorem k_istore3 {a0 a1 a2 a3 : Option Value} {t : List (Option Value)} {a : Int32} (S : zS x g nL cc own) (hd : decode cc pc = .ok (.istore_n 3, 1)) (hb : 3 < nL) (hp : zc1 a2 = true) (hn : pc + 1 = n) (k : zK x g R nL ce sl n (a0 :: a1 :: a2 :: some (.int a) :: t) st μ) : zK x g R nL ce sl pc (a0 :: a1 :: a2 :: a3 :: t) (.int a :: st) μ := k_istore_n S hd rfl hb (fun i9 u e hu => by
    have e9 : i9 = 2 := by omega
    subst e9
    simp at hu
    subst hu
    exact zc1_ok hp) hn k
theorem k_lload3 {a0 a1 a2 : Option Value} {t : List (Option Value)} {a : Int64} (S : zS x g nL cc own) (hd : decode cc pc = .ok (.lload_n 3, 1)) (hn : pc + 1 = n) (k : zK x g R nL ce sl n (a0 :: a1 :: a2 :: some (.long a) :: t) (.long a :: st) μ) : zK x g R nL ce sl pc (a0 :: a1 :: a2 :: some (.long a) :: t) st μ := k_lload_n S hd rfl rfl hn k
theorem k_lstore3 {a0 a1 a2 a3 a4 : Option Value} {t : List (Option Value)} {a : Int64} (S : zS x g nL cc own) (hd : decode cc pc = .ok (.lstore_n 3, 1)) (hb : 3 + 1 < nL) (hp : zc1 a2 = true) (hn : pc + 1 = n) (k : zK x g R nL ce sl n (a0 :: a1 :: a2 :: some (.long a) :: none :: t) st μ) : zK x g R nL ce sl pc (a0 :: a1 :: a2 :: a3 :: a4 :: t) (.long a :: st) μ := k_lstore_n S hd rfl hb (fun i9 u e hu => by
    have e9 : i9 = 2 := by omega
    subst e9
    simp at hu
    subst hu
    exact zc1_ok hp) hn k
theorem k_aload3 {a0 a1 a2 : Option Value} {t : List (Option Value)} {a : Nat} (S : zS x g nL cc own) (hd : decode cc pc = .ok (.aload_n 3, 1)) (hn : pc + 1 = n) (k : zK x g R nL ce sl n (a0 :: a1 :: a2 :: some (.ref a) :: t) (.ref a :: st) μ) : zK x g R nL ce sl pc (a0 :: a1 :: a2 :: some (.ref a) :: t) st μ := k_aload_n S hd rfl rfl hn k
theorem k_astore3 {a0 a1 a2 a3 : Option Value} {t : List (Option Value)} {a : Nat} (S : zS x g nL cc own) (hd : decode cc pc = .ok (.astore_n 3, 1)) (hb : 3 < nL) (hp : zc1 a2 = true) (hn : pc + 1 = n) (k : zK x g R nL ce sl n (a0 :: a1 :: a2 :: some (.ref a) :: t) st μ) : zK x g R nL ce sl pc (a0 :: a1 :: a2 :: a3 :: t) (.ref a :: st) μ := k_astore_n S hd rfl hb (fun i9 u e hu => by
    have e9 : i9 = 2 := by omega
    subst e9
    simp at hu
    subst hu
    exact zc1_ok hp) hn k
theorem k_iinc3 {a0 a1 a2 : Option Value} {t : List (Option Value)} {a v : Int32} {d : Int} (S : zS x g nL cc own) (hd : decode cc pc = .ok (.iinc 3 d, 3)) (hv : a + Int32.ofInt d = v) (hb : 3 < nL) (hn : pc + 3 = n) (k : zK x g R nL ce sl n (a0 :: a1 :: a2 :: some (.int v) :: t) st μ) : zK x g R nL ce sl pc (a0 :: a1 :: a2 :: some (.int a) :: t) st μ := k_iinc S hd rfl hv hb hn k
theorem k_iload4 {a0 a1 a2 a3 : Option Value} {t : List (Option Value)} {a : Int32} (S : zS x g nL cc own) (hd : decode cc pc = .ok (.iload 4, 2)) (hn : pc + 2 = n) (k : zK x g R nL ce sl n (a0 :: a1 :: a2 :: a3 :: some (.int a) :: t) (.int a :: st) μ) : zK x g R nL ce sl pc (a0 :: a1 :: a2 :: a3 :: some (.int a) :: t) st μ := k_iload S hd rfl hn k
theorem k_istore4 {a0 a1 a2 a3 a4 : Option Value} {t : List (Option Value)} {a : Int32} (S : zS x g nL cc own) (hd : decode cc pc = .ok (.istore 4, 2)) (hb : 4 < nL) (hp : zc1 a3 = true) (hn : pc + 2 = n) (k : zK x g R nL ce sl n (a0 :: a1 :: a2 :: a3 :: some (.int a) :: t) st μ) : zK x g R nL ce sl pc (a0 :: a1 :: a2 :: a3 :: a4 :: t) (.int a :: st) μ := k_istore S hd hb (fun i9 u e hu => by
    have e9 : i9 = 3 := by omega
    subst e9
    simp at hu
    subst hu
    exact zc1_ok hp) hn k
theorem k_lload4 {a0 a1 a2 a3 : Option Value} {t : List (Option Value)} {a : Int64} (S : zS x g nL cc own) (hd : decode cc pc = .ok (.lload 4, 2)) (hn : pc + 2 = n) (k : zK x g R nL ce sl n (a0 :: a1 :: a2 :: a3 :: some (.long a) :: t) (.long a :: st) μ) : zK x g R nL ce sl pc (a0 :: a1 :: a2 :: a3 :: some (.long a) :: t) st μ := k_lload S hd rfl hn k
theorem k_lstore4 {a0 a1 a2 a3 a4 a5 : Option Value} {t : List (Option Value)} {a : Int64} (S : zS x g nL cc own) (hd : decode cc pc = .ok (.lstore 4, 2)) (hb : 4 + 1 < nL) (hp : zc1 a3 = true) (hn : pc + 2 = n) (k : zK x g R nL ce sl n (a0 :: a1 :: a2 :: a3 :: some (.long a) :: none :: t) st μ) : zK x g R nL ce sl pc (a0 :: a1 :: a2 :: a3 :: a4 :: a5 :: t) (.long a :: st) μ := k_lstore S hd hb (fun i9 u e hu => by
    have e9 : i9 = 3 := by omega
    subst e9
    simp at hu
    subst hu
    exact zc1_ok hp) hn k
theorem k_aload4 {a0 a1 a2 a3 : Option Value} {t : List (Option Value)} {a : Nat} (S : zS x g nL cc own) (hd : decode cc pc = .ok (.aload 4, 2)) (hn : pc + 2 = n) (k : zK x g R nL ce sl n (a0 :: a1 :: a2 :: a3 :: some (.ref a) :: t) (.ref a :: st) μ) : zK x g R nL ce sl pc (a0 :: a1 :: a2 :: a3 :: some (.ref a) :: t) st μ := k_aload S hd rfl hn k
theorem k_astore4 {a0 a1 a2 a3 a4 : Option Value} {t : List (Option Value)} {a : Nat} (S : zS x g nL cc own) (hd : decode cc pc = .ok (.astore 4, 2)) (hb : 4 < nL) (hp : zc1 a3 = true) (hn : pc + 2 = n) (k : zK x g R nL ce sl n (a0 :: a1 :: a2 :: a3 :: some (.ref a) :: t) st μ) : zK x g R nL ce sl pc (a0 :: a1 :: a2 :: a3 :: a4 :: t) (.ref a :: st) μ := k_astore S hd hb (fun i9 u e hu => by
    have e9 : i9 = 3 := by omega
    subst e9
    simp at hu
    subst hu
    exact zc1_ok hp) hn k
theorem k_iinc4 {a0 a1 a2 a3 : Option Value} {t : List (Option Value)} {a v : Int32} {d : Int} (S : zS x g nL cc own) (hd : decode cc pc = .ok (.iinc 4 d, 3)) (hv : a + Int32.ofInt d = v) (hb : 4 < nL) (hn : pc + 3 = n) (k : zK x g R nL ce sl n (a0 :: a1 :: a2 :: a3 :: some (.int v) :: t) st μ) : zK x g R nL ce sl pc (a0 :: a1 :: a2 :: a3 :: some (.int a) :: t) st μ := k_iinc S hd rfl hv hb hn k
theorem k_iload5 {a0 a1 a2 a3 a4 : Option Value} {t : List (Option Value)} {a : Int32} (S : zS x g nL cc own) (hd : decode cc pc = .ok (.iload 5, 2)) (hn : pc + 2 = n) (k : zK x g R nL ce sl n (a0 :: a1 :: a2 :: a3 :: a4 :: some (.int a) :: t) (.int a :: st) μ) : zK x g R nL ce sl pc (a0 :: a1 :: a2 :: a3 :: a4 :: some (.int a) :: t) st μ := k_iload S hd rfl hn k
theorem k_istore5 {a0 a1 a2 a3 a4 a5 : Option Value} {t : List (Option Value)} {a : Int32} (S : zS x g nL cc own) (hd : decode cc pc = .ok (.istore 5, 2)) (hb : 5 < nL) (hp : zc1 a4 = true) (hn : pc + 2 = n) (k : zK x g R nL ce sl n (a0 :: a1 :: a2 :: a3 :: a4 :: some (.int a) :: t) st μ) : zK x g R nL ce sl pc (a0 :: a1 :: a2 :: a3 :: a4 :: a5 :: t) (.int a :: st) μ := k_istore S hd hb (fun i9 u e hu => by
    have e9 : i9 = 4 := by omega
    subst e9
    simp at hu
    subst hu
    exact zc1_ok hp) hn k
theorem k_lload5 {a0 a1 a2 a3 a4 : Option Value} {t : List (Option Value)} {a : Int64} (S : zS x g nL cc own) (hd : decode cc pc = .ok (.lload 5, 2)) (hn : pc + 2 = n) (k : zK x g R nL ce sl n (a0 :: a1 :: a2 :: a3 :: a4 :: some (.long a) :: t) (.long a :: st) μ) : zK x g R nL ce sl pc (a0 :: a1 :: a2 :: a3 :: a4 :: some (.long a) :: t) st μ := k_lload S hd rfl hn k
theorem k_lstore5 {a0 a1 a2 a3 a4 a5 a6 : Option Value} {t : List (Option Value)} {a : Int64} (S : zS x g nL cc own) (hd : decode cc pc = .ok (.lstore 5, 2)) (hb : 5 + 1 < nL) (hp : zc1 a4 = true) (hn : pc + 2 = n) (k : zK x g R nL ce sl n (a0 :: a1 :: a2 :: a3 :: a4 :: some (.long a) :: none :: t) st μ) : zK x g R nL ce sl pc (a0 :: a1 :: a2 :: a3 :: a4 :: a5 :: a6 :: t) (.long a :: st) μ := k_lstore S hd hb (fun i9 u e hu => by
    have e9 : i9 = 4 := by omega
    subst e9
    simp at hu
    subst hu
    exact zc1_ok hp) hn k
theorem k_aload5 {a0 a1 a2 a3 a4 : Option Value} {t : List (Option Value)} {a : Nat} (S : zS x g nL cc own) (hd : decode cc pc = .ok (.aload 5, 2)) (hn : pc + 2 = n) (k : zK x g R nL ce sl n (a0 :: a1 :: a2 :: a3 :: a4 :: some (.ref a) :: t) (.ref a :: st) μ) : zK x g R nL ce sl pc (a0 :: a1 :: a2 :: a3 :: a4 :: some (.ref a) :: t) st μ := k_aload S hd rfl hn k
theorem k_astore5 {a0 a1 a2 a3 a4 a5 : Option Value} {t : List (Option Value)} {a : Nat} (S : zS x g nL cc own) (hd : decode cc pc = .ok (.astore 5, 2)) (hb : 5 < nL) (hp : zc1 a4 = true) (hn : pc + 2 = n) (k : zK x g R nL ce sl n (a0 :: a1 :: a2 :: a3 :: a4 :: some (.ref a) :: t) st μ) : zK x g R nL ce sl pc (a0 :: a1 :: a2 :: a3 :: a4 :: a5 :: t) (.ref a :: st) μ := k_astore S hd hb (fun i9 u e hu => by
    have e9 : i9 = 4 := by omega
    subst e9
    simp at hu
    subst hu
    exact zc1_ok hp) hn k
theorem k_iinc5 {a0 a1 a2 a3 a4 : Option Value} {t : List (Option Value)} {a v : Int32} {d : Int} (S : zS x g nL cc own) (hd : decode cc pc = .ok (.iinc 5 d, 3)) (hv : a + Int32.ofInt d = v) (hb : 5 < nL) (hn : pc + 3 = n) (k : zK x g R nL ce sl n (a0 :: a1 :: a2 :: a3 :: a4 :: some (.int v) :: t) st μ) : zK x g R nL ce sl pc (a0 :: a1 :: a2 :: a3 :: a4 :: some (.int a) :: t) st μ := k_iinc S hd rfl hv hb hn k
theorem k_iload6 {a0 a1 a2 a3 a4 a5 : Option Value} {t : List (Option Value)} {a : Int32} (S : zS x g nL cc own) (hd : decode cc pc = .ok (.iload 6, 2)) (hn : pc + 2 = n) (k : zK x g R nL ce sl n (a0 :: a1 :: a2 :: a3 :: a4 :: a5 :: some (.int a) :: t) (.int a :: st) μ) : zK x g R nL ce sl pc (a0 :: a1 :: a2 :: a3 :: a4 :: a5 :: some (.int a) :: t) st μ := k_iload S hd rfl hn k
theorem k_istore6 {a0 a1 a2 a3 a4 a5 a6 : Option Value} {t : List (Option Value)} {a : Int32} (S : zS x g nL cc own) (hd : decode cc pc = .ok (.istore 6, 2)) (hb : 6 < nL) (hp : zc1 a5 = true) (hn : pc + 2 = n) (k : zK x g R nL ce sl n (a0 :: a1 :: a2 :: a3 :: a4 :: a5 :: some (.int a) :: t) st μ) : zK x g R nL ce sl pc (a0 :: a1 :: a2 :: a3 :: a4 :: a5 :: a6 :: t) (.int a :: st) μ := k_istore S hd hb (fun i9 u e hu => by
    have e9 : i9 = 5 := by omega
    subst e9
    simp at hu
    subst hu
    exact zc1_ok hp) hn k
theorem k_lload6 {a0 a1 a2 a3 a4 a5 : Option Value} {t : List (Option Value)} {a : Int64} (S : zS x g nL cc own) (hd : decode cc pc = .ok (.lload 6, 2)) (hn : pc + 2 = n) (k : zK x g R nL ce sl n (a0 :: a1 :: a2 :: a3 :: a4 :: a5 :: some (.long a) :: t) (.long a :: st) μ) : zK x g R nL ce sl pc (a0 :: a1 :: a2 :: a3 :: a4 :: a5 :: some (.long a) :: t) st μ := k_lload S hd rfl hn k
theorem k_lstore6 {a0 a1 a2 a3 a4 a5 a6 a7 : Option Value} {t : List (Option Value)} {a : Int64} (S : zS x g nL cc own) (hd : decode cc pc = .ok (.lstore 6, 2)) (hb : 6 + 1 < nL) (hp : zc1 a5 = true) (hn : pc + 2 = n) (k : zK x g R nL ce sl n (a0 :: a1 :: a2 :: a3 :: a4 :: a5 :: some (.long a) :: none :: t) st μ) : zK x g R nL ce sl pc (a0 :: a1 :: a2 :: a3 :: a4 :: a5 :: a6 :: a7 :: t) (.long a :: st) μ := k_lstore S hd hb (fun i9 u e hu => by
    have e9 : i9 = 5 := by omega
    subst e9
    simp at hu
    subst hu
    exact zc1_ok hp) hn k
theorem k_aload6 {a0 a1 a2 a3 a4 a5 : Option Value} {t : List (Option Value)} {a : Nat} (S : zS x g nL cc own) (hd : decode cc pc = .ok (.aload 6, 2)) (hn : pc + 2 = n) (k : zK x g R nL ce sl n (a0 :: a1 :: a2 :: a3 :: a4 :: a5 :: some (.ref a) :: t) (.ref a :: st) μ) : zK x g R nL ce sl pc (a0 :: a1 :: a2 :: a3 :: a4 :: a5 :: some (.ref a) :: t) st μ := k_aload S hd rfl hn k
theorem k_astore6 {a0 a1 a2 a3 a4 a5 a6 : Option Value} {t : List (Option Value)} {a : Nat} (S : zS x g nL cc own) (hd : decode cc pc = .ok (.astore 6, 2)) (hb : 6 < nL) (hp : zc1 a5 = true) (hn : pc + 2 = n) (k : zK x g R nL ce sl n (a0 :: a1 :: a2 :: a3 :: a4 :: a5 :: some (.ref a) :: t) st μ) : zK x g R nL ce sl pc (a0 :: a1 :: a2 :: a3 :: a4 :: a5 :: a6 :: t) (.ref a :: st) μ := k_astore S hd hb (fun i9 u e hu => by
    have e9 : i9 = 5 := by omega
    subst e9
    simp at hu
    subst hu
    exact zc1_ok hp) hn k
theorem k_iinc6 {a0 a1 a2 a3 a4 a5 : Option Value} {t : List (Option Value)} {a v : Int32} {d : Int} (S : zS x g nL cc own) (hd : decode cc pc = .ok (.iinc 6 d, 3)) (hv : a + Int32.ofInt d = v) (hb : 6 < nL) (hn : pc + 3 = n) (k : zK x g R nL ce sl n (a0 :: a1 :: a2 :: a3 :: a4 :: a5 :: some (.int v) :: t) st μ) : zK x g R nL ce sl pc (a0 :: a1 :: a2 :: a3 :: a4 :: a5 :: some (.int a) :: t) st μ := k_iinc S hd rfl hv hb hn k
theorem k_iload7 {a0 a1 a2 a3 a4 a5 a6 : Option Value} {t : List (Option Value)} {a : Int32} (S : zS x g nL cc own) (hd : decode cc pc = .ok (.iload 7, 2)) (hn : pc + 2 = n) (k : zK x g R nL ce sl n (a0 :: a1 :: a2 :: a3 :: a4 :: a5 :: a6 :: some (.int a) :: t) (.int a :: st) μ) : zK x g R nL ce sl pc (a0 :: a1 :: a2 :: a3 :: a4 :: a5 :: a6 :: some (.int a) :: t) st μ := k_iload S hd rfl hn k
theorem k_istore7 {a0 a1 a2 a3 a4 a5 a6 a7 : Option Value} {t : List (Option Value)} {a : Int32} (S : zS x g nL cc own) (hd : decode cc pc = .ok (.istore 7, 2)) (hb : 7 < nL) (hp : zc1 a6 = true) (hn : pc + 2 = n) (k : zK x g R nL ce sl n (a0 :: a1 :: a2 :: a3 :: a4 :: a5 :: a6 :: some (.int a) :: t) st μ) : zK x g R nL ce sl pc (a0 :: a1 :: a2 :: a3 :: a4 :: a5 :: a6 :: a7 :: t) (.int a :: st) μ := k_istore S hd hb (fun i9 u e hu => by
    have e9 : i9 = 6 := by omega
    subst e9
    simp at hu
    subst hu
    exact zc1_ok hp) hn k
theorem k_lload7 {a0 a1 a2 a3 a4 a5 a6 : Option Value} {t : List (Option Value)} {a : Int64} (S : zS x g nL cc own) (hd : decode cc pc = .ok (.lload 7, 2)) (hn : pc + 2 = n) (k : zK x g R nL ce sl n (a0 :: a1 :: a2 :: a3 :: a4 :: a5 :: a6 :: some (.long a) :: t) (.long a :: st) μ) : zK x g R nL ce sl pc (a0 :: a1 :: a2 :: a3 :: a4 :: a5 :: a6 :: some (.long a) :: t) st μ := k_lload S hd rfl hn k
theorem k_lstore7 {a0 a1 a2 a3 a4 a5 a6 a7 a8 : Option Value} {t : List (Option Value)} {a : Int64} (S : zS x g nL cc own) (hd : decode cc pc = .ok (.lstore 7, 2)) (hb : 7 + 1 < nL) (hp : zc1 a6 = true) (hn : pc + 2 = n) (k : zK x g R nL ce sl n (a0 :: a1 :: a2 :: a3 :: a4 :: a5 :: a6 :: some (.long a) :: none :: t) st μ) : zK x g R nL ce sl pc (a0 :: a1 :: a2 :: a3 :: a4 :: a5 :: a6 :: a7 :: a8 :: t) (.long a :: st) μ := k_lstore S hd hb (fun i9 u e hu => by
    have e9 : i9 = 6 := by omega
    subst e9
    simp at hu
    subst hu
    exact zc1_ok hp) hn k
theorem k_aload7 {a0 a1 a2 a3 a4 a5 a6 : Option Value} {t : List (Option Value)} {a : Nat} (S : zS x g nL cc own) (hd : decode cc pc = .ok (.aload 7, 2)) (hn : pc + 2 = n) (k : zK x g R nL ce sl n (a0 :: a1 :: a2 :: a3 :: a4 :: a5 :: a6 :: some (.ref a) :: t) (.ref a :: st) μ) : zK x g R nL ce sl pc (a0 :: a1 :: a2 :: a3 :: a4 :: a5 :: a6 :: some (.ref a) :: t) st μ := k_aload S hd rfl hn k
theorem k_astore7 {a0 a1 a2 a3 a4 a5 a6 a7 : Option Value} {t : List (Option Value)} {a : Nat} (S : zS x g nL cc own) (hd : decode cc pc = .ok (.astore 7, 2)) (hb : 7 < nL) (hp : zc1 a6 = true) (hn : pc + 2 = n) (k : zK x g R nL ce sl n (a0 :: a1 :: a2 :: a3 :: a4 :: a5 :: a6 :: some (.ref a) :: t) st μ) : zK x g R nL ce sl pc (a0 :: a1 :: a2 :: a3 :: a4 :: a5 :: a6 :: a7 :: t) (.ref a :: st) μ := k_astore S hd hb (fun i9 u e hu => by
    have e9 : i9 = 6 := by omega
    subst e9
    simp at hu
    subst hu
    exact zc1_ok hp) hn k
theorem k_iinc7 {a0 a1 a2 a3 a4 a5 a6 : Option Value} {t : List (Option Value)} {a v : Int32} {d : Int} (S : zS x g nL cc own) (hd : decode cc pc = .ok (.iinc 7 d, 3)) (hv : a + Int32.ofInt d = v) (hb : 7 < nL) (hn : pc + 3 = n) (k : zK x g R nL ce sl n (a0 :: a1 :: a2 :: a3 :: a4 :: a5 :: a6 :: some (.int v) :: t) st μ) : zK x g R nL ce sl pc (a0 :: a1 :: a2 :: a3 :: a4 :: a5 :: a6 :: some (.int a) :: t) st μ := k_iinc S hd rfl hv hb hn k
theorem k_iload8 {a0 a1 a2 a3 a4 a5 a6 a7 : Option Value} {t : List (Option Value)} {a : Int32} (S : zS x g nL cc own) (hd : decode cc pc = .ok (.iload 8, 2)) (hn : pc + 2 = n) (k : zK x g R nL ce sl n (a0 :: a1 :: a2 :: a3 :: a4 :: a5 :: a6 :: a7 :: some (.int a) :: t) (.int a :: st) μ) : zK x g R nL ce sl pc (a0 :: a1 :: a2 :: a3 :: a4 :: a5 :: a6 :: a7 :: some (.int a) :: t) st μ := k_iload S hd rfl hn k
theorem k_istore8 {a0 a1 a2 a3 a4 a5 a6 a7 a8 : Option Value} {t : List (Option Value)} {a : Int32} (S : zS x g nL cc own) (hd : decode cc pc = .ok (.istore 8, 2)) (hb : 8 < nL) (hp : zc1 a7 = true) (hn : pc + 2 = n) (k : zK x g R nL ce sl n (a0 :: a1 :: a2 :: a3 :: a4 :: a5 :: a6 :: a7 :: some (.int a) :: t) st μ) : zK x g R nL ce sl pc (a0 :: a1 :: a2 :: a3 :: a4 :: a5 :: a6 :: a7 :: a8 :: t) (.int a :: st) μ := k_istore S hd hb (fun i9 u e hu => by
    have e9 : i9 = 7 := by omega
    subst e9
    simp at hu
    subst hu
    exact zc1_ok hp) hn k
theorem k_lload8 {a0 a1 a2 a3 a4 a5 a6 a7 : Option Value} {t : List (Option Value)} {a : Int64} (S : zS x g nL cc own) (hd : decode cc pc = .ok (.lload 8, 2)) (hn : pc + 2 = n) (k : zK x g R nL ce sl n (a0 :: a1 :: a2 :: a3 :: a4 :: a5 :: a6 :: a7 :: some (.long a) :: t) (.long a :: st) μ) : zK x g R nL ce sl pc (a0 :: a1 :: a2 :: a3 :: a4 :: a5 :: a6 :: a7 :: some (.long a) :: t) st μ := k_lload S hd rfl hn k
theorem k_lstore8 {a0 a1 a2 a3 a4 a5 a6 a7 a8 a9 : Option Value} {t : List (Option Value)} {a : Int64} (S : zS x g nL cc own) (hd : decode cc pc = .ok (.lstore 8, 2)) (hb : 8 + 1 < nL) (hp : zc1 a7 = true) (hn : pc + 2 = n) (k : zK x g R nL ce sl n (a0 :: a1 :: a2 :: a3 :: a4 :: a5 :: a6 :: a7 :: some (.long a) :: none :: t) st μ) : zK x g R nL ce sl pc (a0 :: a1 :: a2 :: a3 :: a4 :: a5 :: a6 :: a7 :: a8 :: a9 :: t) (.long a :: st) μ := k_lstore S hd hb (fun i9 u e hu => by
    have e9 : i9 = 7 := by omega
    subst e9
    simp at hu
    subst hu
    exact zc1_ok hp) hn k
theorem k_aload8 {a0 a1 a2 a3 a4 a5 a6 a7 : Option Value} {t : List (Option Value)} {a : Nat} (S : zS x g nL cc own) (hd : decode cc pc = .ok (.aload 8, 2)) (hn : pc + 2 = n) (k : zK x g R nL ce sl n (a0 :: a1 :: a2 :: a3 :: a4 :: a5 :: a6 :: a7 :: some (.ref a) :: t) (.ref a :: st) μ) : zK x g R nL ce sl pc (a0 :: a1 :: a2 :: a3 :: a4 :: a5 :: a6 :: a7 :: some (.ref a) :: t) st μ := k_aload S hd rfl hn k
theorem k_astore8 {a0 a1 a2 a3 a4 a5 a6 a7 a8 : Option Value} {t : List (Option Value)} {a : Nat} (S : zS x g nL cc own) (hd : decode cc pc = .ok (.astore 8, 2)) (hb : 8 < nL) (hp : zc1 a7 = true) (hn : pc + 2 = n) (k : zK x g R nL ce sl n (a0 :: a1 :: a2 :: a3 :: a4 :: a5 :: a6 :: a7 :: some (.ref a) :: t) st μ) : zK x g R nL ce sl pc (a0 :: a1 :: a2 :: a3 :: a4 :: a5 :: a6 :: a7 :: a8 :: t) (.ref a :: st) μ := k_astore S hd hb (fun i9 u e hu => by
    have e9 : i9 = 7 := by omega
    subst e9
    simp at hu
    subst hu
    exact zc1_ok hp) hn k
theorem k_iinc8 {a0 a1 a2 a3 a4 a5 a6 a7 : Option Value} {t : List (Option Value)} {a v : Int32} {d : Int} (S : zS x g nL cc own) (hd : decode cc pc = .ok (.iinc 8 d, 3)) (hv : a + Int32.ofInt d = v) (hb : 8 < nL) (hn : pc + 3 = n) (k : zK x g R nL ce sl n (a0 :: a1 :: a2 :: a3 :: a4 :: a5 :: a6 :: a7 :: some (.int v) :: t) st μ) : zK x g R nL ce sl pc (a0 :: a1 :: a2 :: a3 :: a4 :: a5 :: a6 :: a7 :: some (.int a) :: t) st μ := k_iinc S hd rfl hv hb hn k
theorem k_iload9 {a0 a1 a2 a3 a4 a5 a6 a7 a8 : Option Value} {t : List (Option Value)} {a : Int32} (S : zS x g nL cc own) (hd : decode cc pc = .ok (.iload 9, 2)) (hn : pc + 2 = n) (k : zK x g R nL ce sl n (a0 :: a1 :: a2 :: a3 :: a4 :: a5 :: a6 :: a7 :: a8 :: some (.int a) :: t) (.int a :: st) μ) : zK x g R nL ce sl pc (a0 :: a1 :: a2 :: a3 :: a4 :: a5 :: a6 :: a7 :: a8 :: some (.int a) :: t) st μ := k_iload S hd rfl hn k
theorem k_istore9 {a0 a1 a2 a3 a4 a5 a6 a7 a8 a9 : Option Value} {t : List (Option Value)} {a : Int32} (S : zS x g nL cc own) (hd : decode cc pc = .ok (.istore 9, 2)) (hb : 9 < nL) (hp : zc1 a8 = true) (hn : pc + 2 = n) (k : zK x g R nL ce sl n (a0 :: a1 :: a2 :: a3 :: a4 :: a5 :: a6 :: a7 :: a8 :: some (.int a) :: t) st μ) : zK x g R nL ce sl pc (a0 :: a1 :: a2 :: a3 :: a4 :: a5 :: a6 :: a7 :: a8 :: a9 :: t) (.int a :: st) μ := k_istore S hd hb (fun i9 u e hu => by
    have e9 : i9 = 8 := by omega
    subst e9
    simp at hu
    subst hu
    exact zc1_ok hp) hn k
theorem k_lload9 {a0 a1 a2 a3 a4 a5 a6 a7 a8 : Option Value} {t : List (Option Value)} {a : Int64} (S : zS x g nL cc own) (hd : decode cc pc = .ok (.lload 9, 2)) (hn : pc + 2 = n) (k : zK x g R nL ce sl n (a0 :: a1 :: a2 :: a3 :: a4 :: a5 :: a6 :: a7 :: a8 :: some (.long a) :: t) (.long a :: st) μ) : zK x g R nL ce sl pc (a0 :: a1 :: a2 :: a3 :: a4 :: a5 :: a6 :: a7 :: a8 :: some (.long a) :: t) st μ := k_lload S hd rfl hn k
theorem k_lstore9 {a0 a1 a2 a3 a4 a5 a6 a7 a8 a9 a10 : Option Value} {t : List (Option Value)} {a : Int64} (S : zS x g nL cc own) (hd : decode cc pc = .ok (.lstore 9, 2)) (hb : 9 + 1 < nL) (hp : zc1 a8 = true) (hn : pc + 2 = n) (k : zK x g R nL ce sl n (a0 :: a1 :: a2 :: a3 :: a4 :: a5 :: a6 :: a7 :: a8 :: some (.long a) :: none :: t) st μ) : zK x g R nL ce sl pc (a0 :: a1 :: a2 :: a3 :: a4 :: a5 :: a6 :: a7 :: a8 :: a9 :: a10 :: t) (.long a :: st) μ := k_lstore S hd hb (fun i9 u e hu => by
    have e9 : i9 = 8 := by omega
    subst e9
    simp at hu
    subst hu
    exact zc1_ok hp) hn k
theorem k_aload9 {a0 a1 a2 a3 a4 a5 a6 a7 a8 : Option Value} {t : List (Option Value)} {a : Nat} (S : zS x g nL cc own) (hd : decode cc pc = .ok (.aload 9, 2)) (hn : pc + 2 = n) (k : zK x g R nL ce sl n (a0 :: a1 :: a2 :: a3 :: a4 :: a5 :: a6 :: a7 :: a8 :: some (.ref a) :: t) (.ref a :: st) μ) : zK x g R nL ce sl pc (a0 :: a1 :: a2 :: a3 :: a4 :: a5 :: a6 :: a7 :: a8 :: some (.ref a) :: t) st μ := k_aload S hd rfl hn k
theorem k_astore9 {a0 a1 a2 a3 a4 a5 a6 a7 a8 a9 : Option Value} {t : List (Option Value)} {a : Nat} (S : zS x g nL cc own) (hd : decode cc pc = .ok (.astore 9, 2)) (hb : 9 < nL) (hp : zc1 a8 = true) (hn : pc + 2 = n) (k : zK x g R nL ce sl n (a0 :: a1 :: a2 :: a3 :: a4 :: a5 :: a6 :: a7 :: a8 :: some (.ref a) :: t) st μ) : zK x g R nL ce sl pc (a0 :: a1 :: a2 :: a3 :: a4 :: a5 :: a6 :: a7 :: a8 :: a9 :: t) (.ref a :: st) μ := k_astore S hd hb (fun i9 u e hu => by
    have e9 : i9 = 8 := by omega
    subst e9
    simp at hu
    subst hu
    exact zc1_ok hp) hn k
theorem k_iinc9 {a0 a1 a2 a3 a4 a5 a6 a7 a8 : Option Value} {t : List (Option Value)} {a v : Int32} {d : Int} (S : zS x g nL cc own) (hd : decode cc pc = .ok (.iinc 9 d, 3)) (hv : a + Int32.ofInt d = v) (hb : 9 < nL) (hn : pc + 3 = n) (k : zK x g R nL ce sl n (a0 :: a1 :: a2 :: a3 :: a4 :: a5 :: a6 :: a7 :: a8 :: some (.int v) :: t) st μ) : zK x g R nL ce sl pc (a0 :: a1 :: a2 :: a3 :: a4 :: a5 :: a6 :: a7 :: a8 :: some (.int a) :: t) st μ := k_iinc S hd rfl hv hb hn k
theorem k_iload10 {a0 a1 a2 a3 a4 a5 a6 a7 a8 a9 : Option Value} {t : List (Option Value)} {a : Int32} (S : zS x g nL cc own) (hd : decode cc pc = .ok (.iload 10, 2)) (hn : pc + 2 = n) (k : zK x g R nL ce sl n (a0 :: a1 :: a2 :: a3 :: a4 :: a5 :: a6 :: a7 :: a8 :: a9 :: some (.int a) :: t) (.int a :: st) μ) : zK x g R nL ce sl pc (a0 :: a1 :: a2 :: a3 :: a4 :: a5 :: a6 :: a7 :: a8 :: a9 :: some (.int a) :: t) st μ := k_iload S hd rfl hn k
theorem k_istore10 {a0 a1 a2 a3 a4 a5 a6 a7 a8 a9 a10 : Option Value} {t : List (Option Value)} {a : Int32} (S : zS x g nL cc own) (hd : decode cc pc = .ok (.istore 10, 2)) (hb : 10 < nL) (hp : zc1 a9 = true) (hn : pc + 2 = n) (k : zK x g R nL ce sl n (a0 :: a1 :: a2 :: a3 :: a4 :: a5 :: a6 :: a7 :: a8 :: a9 :: some (.int a) :: t) st μ) : zK x g R nL ce sl pc (a0 :: a1 :: a2 :: a3 :: a4 :: a5 :: a6 :: a7 :: a8 :: a9 :: a10 :: t) (.int a :: st) μ := k_istore S hd hb (fun i9 u e hu => by
    have e9 : i9 = 9 := by omega
    subst e9
    simp at hu
    subst hu
    exact zc1_ok hp) hn k
theorem k_lload10 {a0 a1 a2 a3 a4 a5 a6 a7 a8 a9 : Option Value} {t : List (Option Value)} {a : Int64} (S : zS x g nL cc own) (hd : decode cc pc = .ok (.lload 10, 2)) (hn : pc + 2 = n) (k : zK x g R nL ce sl n (a0 :: a1 :: a2 :: a3 :: a4 :: a5 :: a6 :: a7 :: a8 :: a9 :: some (.long a) :: t) (.long a :: st) μ) : zK x g R nL ce sl pc (a0 :: a1 :: a2 :: a3 :: a4 :: a5 :: a6 :: a7 :: a8 :: a9 :: some (.long a) :: t) st μ := k_lload S hd rfl hn k
theorem k_lstore10 {a0 a1 a2 a3 a4 a5 a6 a7 a8 a9 a10 a11 : Option Value} {t : List (Option Value)} {a : Int64} (S : zS x g nL cc own) (hd : decode cc pc = .ok (.lstore 10, 2)) (hb : 10 + 1 < nL) (hp : zc1 a9 = true) (hn : pc + 2 = n) (k : zK x g R nL ce sl n (a0 :: a1 :: a2 :: a3 :: a4 :: a5 :: a6 :: a7 :: a8 :: a9 :: some (.long a) :: none :: t) st μ) : zK x g R nL ce sl pc (a0 :: a1 :: a2 :: a3 :: a4 :: a5 :: a6 :: a7 :: a8 :: a9 :: a10 :: a11 :: t) (.long a :: st) μ := k_lstore S hd hb (fun i9 u e hu => by
    have e9 : i9 = 9 := by omega
    subst e9
    simp at hu
    subst hu
    exact zc1_ok hp) hn k
theorem k_aload10 {a0 a1 a2 a3 a4 a5 a6 a7 a8 a9 : Option Value} {t : List (Option Value)} {a : Nat} (S : zS x g nL cc own) (hd : decode cc pc = .ok (.aload 10, 2)) (hn : pc + 2 = n) (k : zK x g R nL ce sl n (a0 :: a1 :: a2 :: a3 :: a4 :: a5 :: a6 :: a7 :: a8 :: a9 :: some (.ref a) :: t) (.ref a :: st) μ) : zK x g R nL ce sl pc (a0 :: a1 :: a2 :: a3 :: a4 :: a5 :: a6 :: a7 :: a8 :: a9 :: some (.ref a) :: t) st μ := k_aload S hd rfl hn k
theorem k_astore10 {a0 a1 a2 a3 a4 a5 a6 a7 a8 a9 a10 : Option Value} {t : List (Option Value)} {a : Nat} (S : zS x g nL cc own) (hd : decode cc pc = .ok (.astore 10, 2)) (hb : 10 < nL) (hp : zc1 a9 = true) (hn : pc + 2 = n) (k : zK x g R nL ce sl n (a0 :: a1 :: a2 :: a3 :: a4 :: a5 :: a6 :: a7 :: a8 :: a9 :: some (.ref a) :: t) st μ) : zK x g R nL ce sl pc (a0 :: a1 :: a2 :: a3 :: a4 :: a5 :: a6 :: a7 :: a8 :: a9 :: a10 :: t) (.ref a :: st) μ := k_astore S hd hb (fun i9 u e hu => by
    have e9 : i9 = 9 := by omega
    subst e9
    simp at hu
    subst hu
    exact zc1_ok hp) hn k
theorem k_iinc10 {a0 a1 a2 a3 a4 a5 a6 a7 a8 a9 : Option Value} {t : List (Option Value)} {a v : Int32} {d : Int} (S : zS x g nL cc own) (hd : decode cc pc = .ok (.iinc 10 d, 3)) (hv : a + Int32.ofInt d = v) (hb : 10 < nL) (hn : pc + 3 = n) (k : zK x g R nL ce sl n (a0 :: a1 :: a2 :: a3 :: a4 :: a5 :: a6 :: a7 :: a8 :: a9 :: some (.int v) :: t) st μ) : zK x g R nL ce sl pc (a0 :: a1 :: a2 :: a3 :: a4 :: a5 :: a6 :: a7 :: a8 :: a9 :: some (.int a) :: t) st μ := k_iinc S hd rfl hv hb hn k
theorem k_iload11 {a0 a1 a2 a3 a4 a5 a6 a7 a8 a9 a10 : Option Value} {t : List (Option Value)} {a : Int32} (S : zS x g nL cc own) (hd : decode cc pc = .ok (.iload 11, 2)) (hn : pc + 2 = n) (k : zK x g R nL ce sl n (a0 :: a1 :: a2 :: a3 :: a4 :: a5 :: a6 :: a7 :: a8 :: a9 :: a10 :: some (.int a) :: t) (.int a :: st) μ) : zK x g R nL ce sl pc (a0 :: a1 :: a2 :: a3 :: a4 :: a5 :: a6 :: a7 :: a8 :: a9 :: a10 :: some (.int a) :: t) st μ := k_iload S hd rfl hn k
theorem k_istore11 {a0 a1 a2 a3 a4 a5 a6 a7 a8 a9 a10 a11 : Option Value} {t : List (Option Value)} {a : Int32} (S : zS x g nL cc own) (hd : decode cc pc = .ok (.istore 11, 2)) (hb : 11 < nL) (hp : zc1 a10 = true) (hn : pc + 2 = n) (k : zK x g R nL ce sl n (a0 :: a1 :: a2 :: a3 :: a4 :: a5 :: a6 :: a7 :: a8 :: a9 :: a10 :: some (.int a) :: t) st μ) : zK x g R nL ce sl pc (a0 :: a1 :: a2 :: a3 :: a4 :: a5 :: a6 :: a7 :: a8 :: a9 :: a10 :: a11 :: t) (.int a :: st) μ := k_istore S hd hb (fun i9 u e hu => by
    have e9 : i9 = 10 := by omega
    subst e9
    simp at hu
    subst hu
    exact zc1_ok hp) hn k
theorem k_lload11 {a0 a1 a2 a3 a4 a5 a6 a7 a8 a9 a10 : Option Value} {t : List (Option Value)} {a : Int64} (S : zS x g nL cc own) (hd : decode cc pc = .ok (.lload 11, 2)) (hn : pc + 2 = n) (k : zK x g R nL ce sl n (a0 :: a1 :: a2 :: a3 :: a4 :: a5 :: a6 :: a7 :: a8 :: a9 :: a10 :: some (.long a) :: t) (.long a :: st) μ) : zK x g R nL ce sl pc (a0 :: a1 :: a2 :: a3 :: a4 :: a5 :: a6 :: a7 :: a8 :: a9 :: a10 :: some (.long a) :: t) st μ := k_lload S hd rfl hn k
theorem k_lstore11 {a0 a1 a2 a3 a4 a5 a6 a7 a8 a9 a10 a11 a12 : Option Value} {t : List (Option Value)} {a : Int64} (S : zS x g nL cc own) (hd : decode cc pc = .ok (.lstore 11, 2)) (hb : 11 + 1 < nL) (hp : zc1 a10 = true) (hn : pc + 2 = n) (k : zK x g R nL ce sl n (a0 :: a1 :: a2 :: a3 :: a4 :: a5 :: a6 :: a7 :: a8 :: a9 :: a10 :: some (.long a) :: none :: t) st μ) : zK x g R nL ce sl pc (a0 :: a1 :: a2 :: a3 :: a4 :: a5 :: a6 :: a7 :: a8 :: a9 :: a10 :: a11 :: a12 :: t) (.long a :: st) μ := k_lstore S hd hb (fun i9 u e hu => by
    have e9 : i9 = 10 := by omega
    subst e9
    simp at hu
    subst hu
    exact zc1_ok hp) hn k
theorem k_aload11 {a0 a1 a2 a3 a4 a5 a6 a7 a8 a9 a10 : Option Value} {t : List (Option Value)} {a : Nat} (S : zS x g nL cc own) (hd : decode cc pc = .ok (.aload 11, 2)) (hn : pc + 2 = n) (k : zK x g R nL ce sl n (a0 :: a1 :: a2 :: a3 :: a4 :: a5 :: a6 :: a7 :: a8 :: a9 :: a10 :: some (.ref a) :: t) (.ref a :: st) μ) : zK x g R nL ce sl pc (a0 :: a1 :: a2 :: a3 :: a4 :: a5 :: a6 :: a7 :: a8 :: a9 :: a10 :: some (.ref a) :: t) st μ := k_aload S hd rfl hn k
theorem k_astore11 {a0 a1 a2 a3 a4 a5 a6 a7 a8 a9 a10 a11 : Option Value} {t : List (Option Value)} {a : Nat} (S : zS x g nL cc own) (hd : decode cc pc = .ok (.astore 11, 2)) (hb : 11 < nL) (hp : zc1 a10 = true) (hn : pc + 2 = n) (k : zK x g R nL ce sl n (a0 :: a1 :: a2 :: a3 :: a4 :: a5 :: a6 :: a7 :: a8 :: a9 :: a10 :: some (.ref a) :: t) st μ) : zK x g R nL ce sl pc (a0 :: a1 :: a2 :: a3 :: a4 :: a5 :: a6 :: a7 :: a8 :: a9 :: a10 :: a11 :: t) (.ref a :: st) μ := k_astore S hd hb (fun i9 u e hu => by
    have e9 : i9 = 10 := by omega
    subst e9
    simp at hu
    subst hu
    exact zc1_ok hp) hn k
theorem k_iinc11 {a0 a1 a2 a3 a4 a5 a6 a7 a8 a9 a10 : Option Value} {t : List (Option Value)} {a v : Int32} {d : Int} (S : zS x g nL cc own) (hd : decode cc pc = .ok (.iinc 11 d, 3)) (hv : a + Int32.ofInt d = v) (hb : 11 < nL) (hn : pc + 3 = n) (k : zK x g R nL ce sl n (a0 :: a1 :: a2 :: a3 :: a4 :: a5 :: a6 :: a7 :: a8 :: a9 :: a10 :: some (.int v) :: t) st μ) : zK x g R nL ce sl pc (a0 :: a1 :: a2 :: a3 :: a4 :: a5 :: a6 :: a7 :: a8 :: a9 :: a10 :: some (.int a) :: t) st μ := k_iinc S hd rfl hv hb hn k
theorem k_iload12 {a0 a1 a2 a3 a4 a5 a6 a7 a8 a9 a10 a11 : Option Value} {t : List (Option Value)} {a : Int32} (S : zS x g nL cc own) (hd : decode cc pc = .ok (.iload 12, 2)) (hn : pc + 2 = n) (k : zK x g R nL ce sl n (a0 :: a1 :: a2 :: a3 :: a4 :: a5 :: a6 :: a7 :: a8 :: a9 :: a10 :: a11 :: some (.int a) :: t) (.int a :: st) μ) : zK x g R nL ce sl pc (a0 :: a1 :: a2 :: a3 :: a4 :: a5 :: a6 :: a7 :: a8 :: a9 :: a10 :: a11 :: some (.int a) :: t) st μ := k_iload S hd rfl hn k
theorem k_istore12 {a0 a1 a2 a3 a4 a5 a6 a7 a8 a9 a10 a11 a12 : Option Value} {t : List (Option Value)} {a : Int32} (S : zS x g nL cc own) (hd : decode cc pc = .ok (.istore 12, 2)) (hb : 12 < nL) (hp : zc1 a11 = true) (hn : pc + 2 = n) (k : zK x g R nL ce sl n (a0 :: a1 :: a2 :: a3 :: a4 :: a5 :: a6 :: a7 :: a8 :: a9 :: a10 :: a11 :: some (.int a) :: t) st μ) : zK x g R nL ce sl pc (a0 :: a1 :: a2 :: a3 :: a4 :: a5 :: a6 :: a7 :: a8 :: a9 :: a10 :: a11 :: a12 :: t) (.int a :: st) μ := k_istore S hd hb (fun i9 u e hu => by
    have e9 : i9 = 11 := by omega
    subst e9
    simp at hu
    subst hu
    exact zc1_ok hp) hn k
theorem k_lload12 {a0 a1 a2 a3 a4 a5 a6 a7 a8 a9 a10 a11 : Option Value} {t : List (Option Value)} {a : Int64} (S : zS x g nL cc own) (hd : decode cc pc = .ok (.lload 12, 2)) (hn : pc + 2 = n) (k : zK x g R nL ce sl n (a0 :: a1 :: a2 :: a3 :: a4 :: a5 :: a6 :: a7 :: a8 :: a9 :: a10 :: a11 :: some (.long a) :: t) (.long a :: st) μ) : zK x g R nL ce sl pc (a0 :: a1 :: a2 :: a3 :: a4 :: a5 :: a6 :: a7 :: a8 :: a9 :: a10 :: a11 :: some (.long a) :: t) st μ := k_lload S hd rfl hn k
theorem k_lstore12 {a0 a1 a2 a3 a4 a5 a6 a7 a8 a9 a10 a11 a12 a13 : Option Value} {t : List (Option Value)} {a : Int64} (S : zS x g nL cc own) (hd : decode cc pc = .ok (.lstore 12, 2)) (hb : 12 + 1 < nL) (hp : zc1 a11 = true) (hn : pc + 2 = n) (k : zK x g R nL ce sl n (a0 :: a1 :: a2 :: a3 :: a4 :: a5 :: a6 :: a7 :: a8 :: a9 :: a10 :: a11 :: some (.long a) :: none :: t) st μ) : zK x g R nL ce sl pc (a0 :: a1 :: a2 :: a3 :: a4 :: a5 :: a6 :: a7 :: a8 :: a9 :: a10 :: a11 :: a12 :: a13 :: t) (.long a :: st) μ := k_lstore S hd hb (fun i9 u e hu => by
    have e9 : i9 = 11 := by omega
    subst e9
    simp at hu
    subst hu
    exact zc1_ok hp) hn k
theorem k_aload12 {a0 a1 a2 a3 a4 a5 a6 a7 a8 a9 a10 a11 : Option Value} {t : List (Option Value)} {a : Nat} (S : zS x g nL cc own) (hd : decode cc pc = .ok (.aload 12, 2)) (hn : pc + 2 = n) (k : zK x g R nL ce sl n (a0 :: a1 :: a2 :: a3 :: a4 :: a5 :: a6 :: a7 :: a8 :: a9 :: a10 :: a11 :: some (.ref a) :: t) (.ref a :: st) μ) : zK x g R nL ce sl pc (a0 :: a1 :: a2 :: a3 :: a4 :: a5 :: a6 :: a7 :: a8 :: a9 :: a10 :: a11 :: some (.ref a) :: t) st μ := k_aload S hd rfl hn k
theorem k_astore12 {a0 a1 a2 a3 a4 a5 a6 a7 a8 a9 a10 a11 a12 : Option Value} {t : List (Option Value)} {a : Nat} (S : zS x g nL cc own) (hd : decode cc pc = .ok (.astore 12, 2)) (hb : 12 < nL) (hp : zc1 a11 = true) (hn : pc + 2 = n) (k : zK x g R nL ce sl n (a0 :: a1 :: a2 :: a3 :: a4 :: a5 :: a6 :: a7 :: a8 :: a9 :: a10 :: a11 :: some (.ref a) :: t) st μ) : zK x g R nL ce sl pc (a0 :: a1 :: a2 :: a3 :: a4 :: a5 :: a6 :: a7 :: a8 :: a9 :: a10 :: a11 :: a12 :: t) (.ref a :: st) μ := k_astore S hd hb (fun i9 u e hu => by
    have e9 : i9 = 11 := by omega
    subst e9
    simp at hu
    subst hu
    exact zc1_ok hp) hn k
theorem k_iinc12 {a0 a1 a2 a3 a4 a5 a6 a7 a8 a9 a10 a11 : Option Value} {t : List (Option Value)} {a v : Int32} {d : Int} (S : zS x g nL cc own) (hd : decode cc pc = .ok (.iinc 12 d, 3)) (hv : a + Int32.ofInt d = v) (hb : 12 < nL) (hn : pc + 3 = n) (k : zK x g R nL ce sl n (a0 :: a1 :: a2 :: a3 :: a4 :: a5 :: a6 :: a7 :: a8 :: a9 :: a10 :: a11 :: some (.int v) :: t) st μ) : zK x g R nL ce sl pc (a0 :: a1 :: a2 :: a3 :: a4 :: a5 :: a6 :: a7 :: a8 :: a9 :: a10 :: a11 :: some (.int a) :: t) st μ := k_iinc S hd rfl hv hb hn k
/-! fields: an object's, of kind ci, at place p, its slot j -/
theorem k_get {C : String} {T : u_T} {N ci p j index : Nat} {ref : String} (S : zS x g nL cc own) (hd : decode cc pc = .ok (.getfield index, 3)) (hp : p < zn g) (hk : zki p = ci) (hc : vwCl[ci]? = some (C, T, N)) (hNN : N = zN ci) (hj : j < N) (hin : ∀ w ∈ u_ws C T N, w ∈ zU) (hw : Cond.fieldLink own index ref (T j).2.1 (T j).2.2.1 ∈ zU) (href : (T j).1 = ref) (hn : pc + 3 = n)
    (k : zK x g R nL ce sl n L (zsl g (μ.1 p) ci j :: st) μ) : zK x g R nL ce sl pc L (.ref (za g p) :: st) μ := by
  subst hn; subst hNN; subst href
  intro H locs ls hP hS hl
  have h5 : ci < 5 := by
    have h9 := (List.getElem?_eq_some_iff.mp hc).1
    exact h9
  have he := zW_get g μ hp
  rw [zcell_obj g (μ.1 p) μ.2 hk h5] at he
  exact va_get S.ex S.by S.ts hin S.own S.K hP p he hc j hj (S.ts _ hw) (fun _ h9 => h9) (zfs_get g _ hj) hd (k H locs ls hP hS hl)
theorem k_geti {C : String} {T : u_T} {N ci p j index : Nat} {ref : String} (S : zS x g nL cc own) (hd : decode cc pc = .ok (.getfield index, 3)) (hp : p < zn g) (hk : zki p = ci) (hc : vwCl[ci]? = some (C, T, N)) (hNN : N = zN ci) (hj : j < N) (hin : ∀ w ∈ u_ws C T N, w ∈ zU) (hw : Cond.fieldLink own index ref (T j).2.1 (T j).2.2.1 ∈ zU) (href : (T j).1 = ref) (hr : zref ci j = none) (hn : pc + 3 = n)
    (k : zK x g R nL ce sl n L (.int (μ.1 p j) :: st) μ) : zK x g R nL ce sl pc L (.ref (za g p) :: st) μ :=
  k_get S hd hp hk hc hNN hj hin hw href hn (by simp only [zsl, hr]; exact k)
theorem k_getv {C : String} {T : u_T} {N ci p j index : Nat} {ref : String} {v : Int32} (S : zS x g nL cc own) (hd : decode cc pc = .ok (.getfield index, 3)) (hp : p < zn g) (hk : zki p = ci) (hc : vwCl[ci]? = some (C, T, N)) (hNN : N = zN ci) (hj : j < N) (hin : ∀ w ∈ u_ws C T N, w ∈ zU) (hw : Cond.fieldLink own index ref (T j).2.1 (T j).2.2.1 ∈ zU) (href : (T j).1 = ref) (hr : zref ci j = none) (hv : μ.1 p j = v) (hn : pc + 3 = n)
    (k : zK x g R nL ce sl n L (.int v :: st) μ) : zK x g R nL ce sl pc L (.ref (za g p) :: st) μ :=
  k_geti S hd hp hk hc hNN hj hin hw href hr hn (by rw [hv]; exact k)
theorem k_getr {C : String} {T : u_T} {N ci p j index r : Nat} {ref : String} (S : zS x g nL cc own) (hd : decode cc pc = .ok (.getfield index, 3)) (hp : p < zn g) (hk : zki p = ci) (hc : vwCl[ci]? = some (C, T, N)) (hNN : N = zN ci) (hj : j < N) (hin : ∀ w ∈ u_ws C T N, w ∈ zU) (hw : Cond.fieldLink own index ref (T j).2.1 (T j).2.2.1 ∈ zU) (href : (T j).1 = ref) (hr : zref ci j = some r) (hn : pc + 3 = n)
    (k : zK x g R nL ce sl n L (.ref (za g r) :: st) μ) : zK x g R nL ce sl pc L (.ref (za g p) :: st) μ :=
  k_get S hd hp hk hc hNN hj hin hw href hn (by simp only [zsl, hr]; exact k)
theorem k_put {C : String} {T : u_T} {N ci p j index : Nat} {ref : String} {ty0 : Nat → FieldType} {a : Int32} (S : zS x g nL cc own) (hd : decode cc pc = .ok (.putfield index, 3)) (hp : p < zn g) (hk : zki p = ci) (hc : vwCl[ci]? = some (C, T, N)) (hNN : N = zN ci) (hj : j < N) (hin : ∀ w ∈ u_ws C T N, w ∈ zU) (hw : Cond.fieldLink own index ref (T j).2.1 (T j).2.2.1 ∈ zU) (href : (T j).1 = ref) (hr : zref ci j = none)
    (hty : ∀ k, k < N → parseFieldDescriptor (T k).2.2.1 = some (ty0 k)) (hnm : ∀ a, a < N → ∀ b, b < N → a ≠ b → (T a).2.1 ≠ (T b).2.1) (hfin : (T j).2.2.2 = false) (hna : narrow (ty0 j) (.int a) = .int a) (hfi : fits (ty0 j) (.int a) = true) (hn : pc + 3 = n)
    (k : zK x g R nL ce sl n L st (zu μ p j a)) : zK x g R nL ce sl pc L (.int a :: .ref (za g p) :: st) μ := by
  subst hn; subst hNN; subst href
  intro H locs ls hP hS hl
  have h5 : ci < 5 := by
    have h9 := (List.getElem?_eq_some_iff.mp hc).1
    exact h9
  have he := zW_get g μ hp
  rw [zcell_obj g (μ.1 p) μ.2 hk h5] at he
  refine va_put S.ex S.by S.ts hin ty0 hty hnm S.own S.K hP (S.ok.D μ) hS p he hc j hj (S.ts _ hw) (fun _ h9 => h9) hfin (hty j hj) hna hfi (by simp [zfs]; exact hj) hd (fun H1 locs1 hP1 hD1 hS1 => ?_)
  have e1 : (zW g μ).set p (za g p, .inr (ci, (zfs g (μ.1 p) ci).set j (.int a))) = zW g (zu μ p j a) := by
    rw [zfs_set g (μ.1 p) a hr, ← zcell_obj g _ μ.2 hk h5]
    exact zW_zu g μ p j a
  rw [e1] at hP1
  exact k H1 locs1 ls hP1 hS1 hl
theorem k_putz {C : String} {T : u_T} {N ci p j index : Nat} {ref : String} {ty0 : Nat → FieldType} {a : Int32} {f : Nat → Int32} (S : zS x g nL cc own) (hd : decode cc pc = .ok (.putfield index, 3)) (hp : p < zn g) (hk : zki p = ci) (hc : vwCl[ci]? = some (C, T, N)) (hNN : N = zN ci) (hj : j < N) (hin : ∀ w ∈ u_ws C T N, w ∈ zU) (hw : Cond.fieldLink own index ref (T j).2.1 (T j).2.2.1 ∈ zU) (href : (T j).1 = ref) (hr : zref ci j = none)
    (hty : ∀ k, k < N → parseFieldDescriptor (T k).2.2.1 = some (ty0 k)) (hnm : ∀ a, a < N → ∀ b, b < N → a ≠ b → (T a).2.1 ≠ (T b).2.1) (hfin : (T j).2.2.2 = false) (hna : narrow (ty0 j) (.int a) = .int a) (hfi : fits (ty0 j) (.int a) = true) (hn : pc + 3 = n)
    (k : zK x g R nL ce sl n L st (zset μ p (upd f j a))) : zK x g R nL ce sl pc L (.int a :: .ref (za g p) :: st) (zset μ p f) :=
  k_put S hd hp hk hc hNN hj hin hw href hr hty hnm hfin hna hfi hn (by rw [zu_zset]; exact k)
/-! rows -/
theorem k_iald {p j : Nat} {i : Int32} (S : zS x g nL cc own) (hd : decode cc pc = .ok (.iaload, 1)) (hp : p < zn g) (hk : zki p = 5) (hi : i = nI j) (hj : j < zlen p) (hz : zlen p < 2 ^ 31) (hn : pc + 1 = n)
    (k : zK x g R nL ce sl n L (.int (μ.1 p j) :: st) μ) : zK x g R nL ce sl pc L (.int i :: .ref (za g p) :: st) μ := by
  subst hn; subst hi
  intro H locs ls hP hS hl
  have he := zW_get g μ hp
  rw [zcell_row g (μ.1 p) μ.2 hk (Or.inl rfl)] at he
  have ht := zTy_get g hp
  have ht2 : (zTy g)[p]? = some (zc g p, .int) := by rw [ht]; simp [zty, hk]
  have h2 := va_iald (i := nI j) S.ex S.by S.K hP p p he ht2 (vp_in_nI hj hz) hd (args := xa x) (m := xm x) (ls := ls) (rest := st) (pc := pc) (e := xe x) (R := R) (l := xl x) (below := xb x) (meth := xh x) (locs := locs) (cells := ce) (slots := sl) (Q := xQ x)
  rw [nI_clamp (Nat.lt_trans hj hz)] at h2
  exact h2 (k H locs ls hP hS hl)
theorem k_zald {p j : Nat} {i : Int32} (S : zS x g nL cc own) (hd : decode cc pc = .ok (.baload, 1)) (hp : p < zn g) (hk : zki p = 7) (hi : i = nI j) (hj : j < zlen p) (hz : zlen p < 2 ^ 31) (hn : pc + 1 = n)
    (k : zK x g R nL ce sl n L (.int (μ.1 p j) :: st) μ) : zK x g R nL ce sl pc L (.int i :: .ref (za g p) :: st) μ := by
  subst hn; subst hi
  intro H locs ls hP hS hl
  have he := zW_get g μ hp
  rw [zcell_row g (μ.1 p) μ.2 hk (Or.inr rfl)] at he
  have ht := zTy_get g hp
  have ht2 : (zTy g)[p]? = some (zc g p, .boolean) := by rw [ht]; simp [zty, hk]
  have h2 := va_zald (i := nI j) S.ex S.by S.K hP p p he ht2 (vp_in_nI hj hz) hd (args := xa x) (m := xm x) (ls := ls) (rest := st) (pc := pc) (e := xe x) (R := R) (l := xl x) (below := xb x) (meth := xh x) (locs := locs) (cells := ce) (slots := sl) (Q := xQ x)
  rw [nI_clamp (Nat.lt_trans hj hz)] at h2
  exact h2 (k H locs ls hP hS hl)
theorem k_ialdv {p j : Nat} {i v : Int32} (S : zS x g nL cc own) (hd : decode cc pc = .ok (.iaload, 1)) (hp : p < zn g) (hk : zki p = 5) (hi : i = nI j) (hj : j < zlen p) (hz : zlen p < 2 ^ 31) (hv : μ.1 p j = v) (hn : pc + 1 = n)
    (k : zK x g R nL ce sl n L (.int v :: st) μ) : zK x g R nL ce sl pc L (.int i :: .ref (za g p) :: st) μ := k_iald S hd hp hk hi hj hz hn (by rw [hv]; exact k)
theorem k_zaldv {p j : Nat} {i v : Int32} (S : zS x g nL cc own) (hd : decode cc pc = .ok (.baload, 1)) (hp : p < zn g) (hk : zki p = 7) (hi : i = nI j) (hj : j < zlen p) (hz : zlen p < 2 ^ 31) (hv : μ.1 p j = v) (hn : pc + 1 = n)
    (k : zK x g R nL ce sl n L (.int v :: st) μ) : zK x g R nL ce sl pc L (.int i :: .ref (za g p) :: st) μ := k_zald S hd hp hk hi hj hz hn (by rw [hv]; exact k)
theorem k_iast {p j : Nat} {i a : Int32} (S : zS x g nL cc own) (hd : decode cc pc = .ok (.iastore, 1)) (hp : p < zn g) (hk : zki p = 5) (hi : i = nI j) (hj : j < zlen p) (hz : zlen p < 2 ^ 31) (hn : pc + 1 = n)
    (k : zK x g R nL ce sl n L st (zu μ p j a)) : zK x g R nL ce sl pc L (.int a :: .int i :: .ref (za g p) :: st) μ := by
  subst hn; subst hi
  intro H locs ls hP hS hl
  have he := zW_get g μ hp
  rw [zcell_row g (μ.1 p) μ.2 hk (Or.inl rfl)] at he
  have ht := zTy_get g hp
  have ht2 : (zTy g)[p]? = some (zc g p, .int) := by rw [ht]; simp [zty, hk]
  refine va_iast (i := nI j) S.ex S.by S.K hP (S.ok.D μ) hS p p he ht2 (vp_in_nI hj hz) hd (fun H1 locs1 hP1 hD1 hS1 => ?_)
  rw [nI_clamp (Nat.lt_trans hj hz), ← zcell_row g _ μ.2 hk (Or.inl rfl), zW_zu] at hP1
  exact k H1 locs1 ls hP1 hS1 hl
theorem k_zast {p j : Nat} {i a : Int32} (S : zS x g nL cc own) (hd : decode cc pc = .ok (.bastore, 1)) (hp : p < zn g) (hk : zki p = 7) (hi : i = nI j) (hj : j < zlen p) (hz : zlen p < 2 ^ 31) (ha : vp_nar .boolean a = a) (hn : pc + 1 = n)
    (k : zK x g R nL ce sl n L st (zu μ p j a)) : zK x g R nL ce sl pc L (.int a :: .int i :: .ref (za g p) :: st) μ := by
  subst hn; subst hi
  intro H locs ls hP hS hl
  have he := zW_get g μ hp
  rw [zcell_row g (μ.1 p) μ.2 hk (Or.inr rfl)] at he
  have ht := zTy_get g hp
  have ht2 : (zTy g)[p]? = some (zc g p, .boolean) := by rw [ht]; simp [zty, hk]
  refine va_zast (i := nI j) S.ex S.by S.K hP (S.ok.D μ) hS p p he ht2 (vp_in_nI hj hz) hd (fun H1 locs1 hP1 hD1 hS1 => ?_)
  rw [nI_clamp (Nat.lt_trans hj hz), ha, ← zcell_row g _ μ.2 hk (Or.inr rfl), zW_zu] at hP1
  exact k H1 locs1 ls hP1 hS1 hl
theorem k_aald {p j : Nat} {i : Int32} (S : zS x g nL cc own) (hd : decode cc pc = .ok (.aaload, 1)) (hp : p < zn g) (hk : zki p = 6) (hi : i = nI j) (hj : j < 10) (hn : pc + 1 = n)
    (k : zK x g R nL ce sl n L (.ref (za g (11 + j)) :: st) μ) : zK x g R nL ce sl pc L (.int i :: .ref (za g p) :: st) μ := by
  subst hn; subst hi
  intro H locs ls hP hS hl
  have he := zW_get g μ hp
  rw [zcell_phs g (μ.1 p) μ.2 hk] at he
  have ht := zTy_get g hp
  have ht2 : (zTy g)[p]? = some (zc g p, .object "ChartroomSpc$Phase") := by rw [ht]; simp [zty, hk]
  have h2 := va_aldq (i := nI j) S.ex S.by S.K hP p p he ht2 (vp_in_nI hj (by omega)) hd (args := xa x) (m := xm x) (ls := ls) (rest := st) (pc := pc) (e := xe x) (R := R) (l := xl x) (below := xb x) (meth := xh x) (locs := locs) (cells := ce) (slots := sl) (Q := xQ x)
  rw [nI_clamp (by omega)] at h2
  exact h2 (k H locs ls hP hS hl)
theorem k_lald {p : Nat} {i : Int32} (S : zS x g nL cc own) (hd : decode cc pc = .ok (.laload, 1)) (hp : p < zn g) (hk : zki p = 8) (hi : i = nI 0) (hn : pc + 1 = n)
    (k : zK x g R nL ce sl n L (.long (μ.2 0) :: st) μ) : zK x g R nL ce sl pc L (.int i :: .ref (za g p) :: st) μ := by
  subst hn; subst hi
  intro H locs ls hP hS hl
  have he := zW_get g μ hp
  rw [zcell_out g (μ.1 p) μ.2 hk] at he
  have ht := zTy_get g hp
  have ht2 : (zTy g)[p]? = some (zc g p, .long) := by rw [ht]; simp [zty, hk]
  have h2 := va_lald (i := nI 0) S.ex S.by S.K hP p p he ht2 (vp_in_nI (by omega) (by omega)) hd (args := xa x) (m := xm x) (ls := ls) (rest := st) (pc := pc) (e := xe x) (R := R) (l := xl x) (below := xb x) (meth := xh x) (locs := locs) (cells := ce) (slots := sl) (Q := xQ x)
  rw [nI_clamp (by omega)] at h2
  exact h2 (k H locs ls hP hS hl)
theorem k_last {p : Nat} {i : Int32} {a : Int64} (S : zS x g nL cc own) (hd : decode cc pc = .ok (.lastore, 1)) (hp : p < zn g) (hp31 : p = 31) (hi : i = nI 0) (hn : pc + 1 = n)
    (k : zK x g R nL ce sl n L st (zuo μ a)) : zK x g R nL ce sl pc L (.long a :: .int i :: .ref (za g p) :: st) μ := by
  subst hn; subst hi; subst hp31
  intro H locs ls hP hS hl
  have hk : zki 31 = 8 := by decide
  have he := zW_get g μ hp
  rw [zcell_out g (μ.1 31) μ.2 hk] at he
  have ht := zTy_get g hp
  have ht2 : (zTy g)[31]? = some (zc g 31, .long) := by rw [ht]; simp [zty, hk]
  refine va_last (i := nI 0) S.ex S.by S.K hP (S.ok.D μ) hS 31 31 he ht2 (vp_in_nI (by omega) (by omega)) hd (fun H1 locs1 hP1 hD1 hS1 => ?_)
  have h9 := zW_set g μ (zuo μ a) (k := 31) (fun b hb => by
    have hb8 : zki b ≠ 8 := by
      unfold zki
      repeat' split
      all_goals (first | omega | (intro q; cases q; done) | decide)
    unfold zcell
    simp only [if_neg hb8]
    rfl)
  rw [nI_clamp (by omega)] at hP1
  rw [zcell_out g _ _ hk] at h9
  have e9 : (zW g μ).set 31 (za g 31, .inl (zc g 31, 1, .inr (.inl (vp_updL μ.2 0 a)))) = zW g (zuo μ a) := h9
  rw [e9] at hP1
  exact k H1 locs1 ls hP1 hS1 hl
/-! the written tables: row i of zTabL at the address zt g i -/
theorem k_gets {i index : Nat} (S : zS x g nL cc own) (hd : decode cc pc = .ok (.getstatic index, 3)) (hi : i < 4) (hw : Cond.fieldLink own index RX3 (zTabN i) "[I" ∈ zU) (hn : pc + 3 = n)
    (k : zK x g R nL ce sl n L (.ref (zt g i) :: st) μ) : zK x g R nL ce sl pc L st μ := by
  subst hn
  exact fun H locs ls hP hS hl => va_gets S.ex S.by (S.st.1 i hi).1 hS S.own (S.ts _ hw) (fun _ h9 => h9) hd (k H locs ls hP hS hl)
theorem k_getsN {i index : Nat} {host : String} (S : zS x g nL cc own) (hd : decode cc pc = .ok (.getstatic index, 3)) (hi : i < 4) (hw : Cond.fieldLinkNest own index RX3 (zTabN i) "[I" host ∈ zNest) (hn : pc + 3 = n)
    (k : zK x g R nL ce sl n L (.ref (zt g i) :: st) μ) : zK x g R nL ce sl pc L st μ := by
  subst hn
  exact fun H locs ls hP hS hl => va_getsN S.ex S.by (S.st.1 i hi).1 hS S.own (va_Nw.use rfl (S.st.2.2.1 _ hw)) (fun _ h9 => h9) hd (k H locs ls hP hS hl)
theorem k_tald {i j : Nat} {a : Int32} (S : zS x g nL cc own) (hd : decode cc pc = .ok (.iaload, 1)) (hi : i < 4) (ha : a = nI j) (hj : j < (zTabL i).length) (hz : (zTabL i).length < 2 ^ 31) (hn : pc + 1 = n)
    (k : zK x g R nL ce sl n L (.int (zTab i j) :: st) μ) : zK x g R nL ce sl pc L (.int a :: .ref (zt g i) :: st) μ := by
  subst hn; subst ha
  intro H locs ls hP hS hl
  exact va_ti S.ex S.by (S.st.1 i hi).2 hS (vp_in_nI hj hz) (by rw [nI_clamp (Nat.lt_trans hj hz)]) hd (k H locs ls hP hS hl)
theorem k_tlen {i : Nat} {v : Int32} (S : zS x g nL cc own) (hd : decode cc pc = .ok (.arraylength, 1)) (hi : i < 4) (hv : Int32.ofNat (zTabL i).length = v) (hn : pc + 1 = n)
    (k : zK x g R nL ce sl n L (.int v :: st) μ) : zK x g R nL ce sl pc L (.ref (zt g i) :: st) μ := by
  subst hn
  exact fun H locs ls hP hS hl => va_tlen S.ex S.by (S.st.1 i hi).2 hS hv hd (k H locs ls hP hS hl)
/-! the ends -/
variable {ret : Option FieldType} {mc ms : Nat} {tb : List ExceptionTableEntry} {RT : Option Value → zM → Prop} {XT : String → zM → Prop}
theorem k_iret {a : Int32} {ty : FieldType} (S : zS x g nL cc own) (Y : zR x g (some ty) mc ms tb RT XT) (hd : decode cc pc = .ok (.ireturn, 1)) (hc : ce ≤ mc) (hs : sl ≤ ms) (hna : narrow ty (.int a) = .int a) (h : RT (some (.int a)) μ) : zK x g R nL ce sl pc L [.int a] μ := by
  obtain ⟨hQ, hr, -⟩ := Y
  intro H locs ls hP hS hl
  rw [hQ]
  exact W.widen hc hs (vx_ret (W.zret S.ex S.by hr hna (fun t ht hW => ⟨_, μ, rfl, h, by rw [ht]; exact hP, hS.F ht⟩) hS.2.2 hd S.lk))
theorem k_vret (S : zS x g nL cc own) (Y : zR x g none mc ms tb RT XT) (hd : decode cc pc = .ok (.return_, 1)) (hc : ce ≤ mc) (hs : sl ≤ ms) (h : RT none μ) : zK x g R nL ce sl pc L [] μ := by
  obtain ⟨hQ, hr, -⟩ := Y
  intro H locs ls hP hS hl
  rw [hQ]
  exact W.widen hc hs (vx_ret (W.vret S.ex S.by hr (fun t ht hW => ⟨_, μ, rfl, h, by rw [ht]; exact hP, hS.F ht⟩) hS.2.2 hd S.lk))
theorem k_lret {a : Int64} (S : zS x g nL cc own) (Y : zR x g (some .long) mc ms tb RT XT) (hd : decode cc pc = .ok (.lreturn, 1)) (hc : ce ≤ mc) (hs : sl ≤ ms) (h : RT (some (.long a)) μ) : zK x g R nL ce sl pc L [.long a] μ := by
  obtain ⟨hQ, hr, -⟩ := Y
  intro H locs ls hP hS hl
  rw [hQ]
  exact W.widen hc hs (vx_ret (W.lret S.ex S.by hr (fun t ht hW => ⟨_, μ, rfl, h, by rw [ht]; exact hP, hS.F ht⟩) hS.2.2 hd S.lk))
theorem k_aret {a : Nat} {cn : String} (S : zS x g nL cc own) (Y : zR x g (some (.object cn)) mc ms tb RT XT) (hd : decode cc pc = .ok (.areturn, 1)) (hc : ce ≤ mc) (hs : sl ≤ ms) (h : RT (some (.ref a)) μ) : zK x g R nL ce sl pc L [.ref a] μ := by
  obtain ⟨hQ, hr, -⟩ := Y
  intro H locs ls hP hS hl
  rw [hQ]
  exact W.widen hc hs (vx_ret (W.aret S.ex S.by hr (Or.inl ⟨_, rfl⟩) (Or.inr ⟨_, rfl⟩) (fun t ht hW => ⟨_, μ, rfl, h, by rw [ht]; exact hP, hS.F ht⟩) hS.2.2 hd S.lk))
theorem k_out {E : String} (S : zS x g nL cc own) (Y : zR x g ret mc ms [] RT XT) (hc : ce ≤ mc) (hs : sl ≤ ms) (h : XT E μ) : zKX x g R nL ce sl pc L st E μ := by
  obtain ⟨hQ, -, ht⟩ := Y
  intro H locs ls ce9 q hP hS hl h1 h2 h3
  rw [hQ]
  exact vx_out (fun z hz => by rw [ht] at hz; cases hz) S.lk h1 h2 h3 (fun t ht hW => ⟨μ, h, by rw [ht]; exact hP, hS.F ht⟩) hS.2.2 hc hs
/-! calls -/
theorem zPre.of (S : zS x g nL cc own) {H : Heap} {locs : List Loc} (hP : va_P (zD g) vwCl (zW g μ) H) (hS : va_S (zA g) (xs x).heap H locs) : ∀ U : State, U.heap = H → (xs x).WarmedH U.vm → zPre (xl x) g μ U := fun U hU hW =>
  ⟨by rw [hU]; exact hP, va_K.moved hW.alike S.K, S.ok, S.st.go hS hU hW⟩
theorem zRun {rest : List Value} {mc9 ms9 : Nat} {a : Array Value} {RT9 : Option Value → zM → Prop} {XT9 : String → zM → Prop} {H : Heap} {locs : List Loc} {ls : Array Slot}
    (hr : vx_Run (xp x) (xl x) (xe x) R (xs x) (xm x) (xa x) (xb x) (xh x) (xc x) H locs ce sl mc9 ms9 (F0 (xm x) pc ls st) rest (zQr g RT9 a) (zQx g XT9) (zA g)) (hS : va_S (zA g) (xs x).heap H locs) (hl : lv_has ls nL (zl 0 L))
    (kx : ∀ E ν, XT9 E ν → zKX x g R nL (ce + mc9) (sl + ms9) pc L rest E ν) (kk : ∀ v ν, RT9 v ν → zK x g R nL (ce + mc9) (sl + ms9) (pc + 3) L (v.toList ++ rest) ν) : W (xp x) (xl x) (xe x) R (xs x) (xm x) (xa x) (xb x) (xh x) (xc x) H locs ce sl (xQ x) (F0 (xm x) pc ls st) := by
  intro T hT X
  rcases hr T hT X with ⟨v, st₀, t, T', Ls, h0, X', hL, e1, e2, ⟨v', ν, hv, hp, hb, hF⟩, go⟩ | ⟨q, st₀, t, T', Ls, E, ce9, h0, X', hL, e1, e2, ⟨ν, hp, hb, hF⟩, hce, hcv, hcl, go⟩
  · cases hv
    obtain ⟨-, -, k3⟩ := vx_keep h0 e1 hS (fun _ _ h => h) (fun _ h => h) hL hF
    obtain ⟨t2, a1, b1⟩ := kk v ν hp T'.heap (locs ++ Ls) ls (by rw [e1]; exact hb) k3 hl T' rfl X'
    exact ⟨t2, go t2 a1, b1⟩
  · obtain ⟨-, -, k3⟩ := vx_keep h0 e1 hS (fun _ _ h => h) (fun _ h => h) hL hF
    obtain ⟨t2, a1, b1⟩ := kx E ν hp T'.heap (locs ++ Ls) ls ce9 q (by rw [e1]; exact hb) k3 hl (by rw [e1]; exact hce) hcv hcl T' rfl X'
    exact ⟨t2, go.trans a1, b1⟩
theorem zS.fix (S : zS x g nL cc own) : CallFix (xp x) (xm x) (xc x) cc nL (xs x) (xa x) zU own := ⟨S.ex, S.by, S.ml, S.own, S.ts⟩
theorem zrecv (S : zS x g nL cc own) {H : Heap} (hP : va_P (zD g) vwCl (zW g μ) H) {p ci N : Nat} {C : String} {T : u_T} (hp : p < zn g) (hk : zki p = ci) (hc : vwCl[ci]? = some (C, T, N)) : ∃ cellB : Cell, H[za g p]? = some cellB ∧ cellB.vm.isStatics = false ∧ (xs x).vm.findClass C = some cellB.cls := by
  have h5 : ci < 5 := by
    have h9 := (List.getElem?_eq_some_iff.mp hc).1
    exact h9
  have he := zW_get g μ hp
  rw [zcell_obj g (μ.1 p) μ.2 hk h5] at he
  exact va_recv S.K hP hc he
theorem k_callV {y : MethodName} {rm : Room} {mc9 ms9 maxL na index p ci N : Nat} {C : String} {T : u_T} {bytes : ByteArray} {ret9 : Option FieldType} {As rest : List Value} {RT9 : Option Value → zM → Prop} {XT9 : String → zM → Prop}
    (S : zS x g nL cc own) (hM : zC (xl x) g y bytes maxL ret9 rm mc9 ms9 (.ref (za g p) :: As) μ RT9 XT9) (hv : zMV y C bytes maxL ret9 na) (hli : Cond.methodLink own index y ∈ zU) (hd : decode cc pc = .ok (.invokevirtual index, 3)) (hrc : rm.cells = mc9) (hrs : rm.slots = ms9)
    (hR : rm.frames + 1 ≤ R.frames ∧ 8 + (maxL + 11) + rm.locals ≤ R.locals)
    (hp : p < zn g) (hk : zki p = ci) (hc : vwCl[ci]? = some (C, T, N)) (hst : st = As.reverse ++ .ref (za g p) :: rest) (hna : As.length = na) (hcat : (rest.map fun v => v.category).sum ≤ 8) (hf : ce + mc9 ≤ R.cells ∧ sl + ms9 ≤ R.slots) (hn : pc + 3 = n)
    (kx : ∀ E ν, XT9 E ν → zKX x g R nL (ce + mc9) (sl + ms9) pc L rest E ν) (kk : ∀ v ν, RT9 v ν → zK x g R nL (ce + mc9) (sl + ms9) n L (v.toList ++ rest) ν) : zK x g R nL ce sl pc L st μ := by
  subst hn; subst hst
  intro H locs ls hP hS hl
  exact zRun (vx_runV S.fix hM (cwV na S.ts (hv.good hli) rfl hrc hrs hv.2.2.2.2 hR) ⟨zPre_blind _ _ _ _, zrecv S hP hp hk hc, fun U hU hW => ⟨rfl, zPre.of S hP hS U hU hW⟩⟩ rfl hna hl.1 rfl (lv_room hcat) hd hf) hS hl kx kk
theorem k_callS {y : MethodName} {rm : Room} {mc9 ms9 maxL na index : Nat} {bytes : ByteArray} {ret9 : Option FieldType} {As rest : List Value} {RT9 : Option Value → zM → Prop} {XT9 : String → zM → Prop}
    (S : zS x g nL cc own) (hM : zC (xl x) g y bytes maxL ret9 rm mc9 ms9 As μ RT9 XT9) (hv : zMS y bytes maxL ret9 na) (hli : Cond.methodLink own index y ∈ zU) (hd : decode cc pc = .ok (.invokestatic index, 3)) (hrc : rm.cells = mc9) (hrs : rm.slots = ms9)
    (hR : rm.frames + 1 ≤ R.frames ∧ 8 + (maxL + 11) + rm.locals ≤ R.locals)
    (hst : st = As.reverse ++ rest) (hna : As.length = na) (hcat : (rest.map fun v => v.category).sum ≤ 8) (hf : ce + mc9 ≤ R.cells ∧ sl + ms9 ≤ R.slots) (hn : pc + 3 = n)
    (kx : ∀ E ν, XT9 E ν → zKX x g R nL (ce + mc9) (sl + ms9) pc L rest E ν) (kk : ∀ v ν, RT9 v ν → zK x g R nL (ce + mc9) (sl + ms9) n L (v.toList ++ rest) ν) : zK x g R nL ce sl pc L st μ := by
  subst hn; subst hst
  intro H locs ls hP hS hl
  exact zRun (vx_runS S.fix hM (va_cwS na S.ts (hv.good hli) rfl hrc hrs hv.2.2.2 hR) ⟨zPre_blind _ _ _ _, fun U hU hW => ⟨rfl, zPre.of S hP hS U hU hW⟩⟩ rfl hna hl.1 rfl (lv_room hcat) hd hf) hS hl kx kk
theorem k_callSN {y : MethodName} {rm : Room} {mc9 ms9 maxL na index : Nat} {host : String} {bytes : ByteArray} {ret9 : Option FieldType} {As rest : List Value} {RT9 : Option Value → zM → Prop} {XT9 : String → zM → Prop}
    (S : zS x g nL cc own) (hM : zC (xl x) g y bytes maxL ret9 rm mc9 ms9 As μ RT9 XT9) (hv : zMS y bytes maxL ret9 na) (hnest : Cond.methodLinkNest own index y host ∈ zNest) (hd : decode cc pc = .ok (.invokestatic index, 3)) (hrc : rm.cells = mc9) (hrs : rm.slots = ms9)
    (hR : rm.frames + 1 ≤ R.frames ∧ 8 + (maxL + 11) + rm.locals ≤ R.locals)
    (hst : st = As.reverse ++ rest) (hna : As.length = na) (hcat : (rest.map fun v => v.category).sum ≤ 8) (hf : ce + mc9 ≤ R.cells ∧ sl + ms9 ≤ R.slots) (hn : pc + 3 = n)
    (kx : ∀ E ν, XT9 E ν → zKX x g R nL (ce + mc9) (sl + ms9) pc L rest E ν) (kk : ∀ v ν, RT9 v ν → zK x g R nL (ce + mc9) (sl + ms9) n L (v.toList ++ rest) ν) : zK x g R nL ce sl pc L st μ := by
  subst hn; subst hst
  intro H locs ls hP hS hl
  exact zRun (vx_runSN S.fix hM ⟨va_cnB na S.ts hv.goodw rfl hrc hrs (S.st.2.2.1 _ hnest) (S.ts _ hv.2.1) hv.2.2.2 hR, S.ts _ hv.1, trivial⟩ ⟨zPre_blind _ _ _ _, fun U hU hW => ⟨rfl, zPre.of S hP hS U hU hW⟩⟩ rfl hna hl.1 rfl (lv_room hcat) hd hf) hS hl kx kk
/-! throw new E("text") -/
theorem k_throw {cls text : String} {names : List String} {ik is ic i9 : Nat} (S : zS x g nL cc own) (Y : zR x g ret mc ms [] RT XT) (hown9 : own = RX3) (hcls : Bundle.fit cls = true) (hnames : ∀ n ∈ names, Bundle.fit n = true) (hk : Cond.classLink own ik cls ∈ zU) (hini : Cond.initialized cls ∈ zU)
    (hstr : zStr[i9]? = some (is, text)) (hat : ∀ w ∈ (vx_atS own ic cls names).filter goodWord, w ∈ zU) (hng : ∀ w ∈ (vx_atS own ic cls names).filter (fun w => !goodWord w), w ∈ zNest) (hgood : ∀ w ∈ Cond.classLink own ik cls :: Cond.initialized cls :: vx_atS own ic cls names, vx_ot w = true)
    (d0 : decode cc pc = .ok (.new ik, 3)) (d3 : decode cc (pc + 3) = .ok (.dup, 1)) (d4 : decode cc (pc + 4) = .ok (.ldc is, 2)) (d6 : decode cc (pc + 6) = .ok (.invokespecial ic, 3)) (d9 : decode cc (pc + 9) = .ok (.athrow, 1))
    (hRf : names.length + 3 < R.frames) (hRl : (st.map fun v => v.category).sum + (13 * (names.length + 1) + 43) ≤ R.locals) (hRc : ce + 1 ≤ R.cells) (hRs : sl + 6 ≤ R.slots) (hc : ce + 1 ≤ mc) (hs : sl + 6 ≤ ms) (h : XT cls μ) : zK x g R nL ce sl pc L st μ := by
  subst hown9
  obtain ⟨hQ, -, ht⟩ := Y
  intro H locs ls hP hS hl
  rw [hQ]
  have hno : ∀ z ∈ (xc x).exceptionTable.toList, covers z (pc + 9) = false := fun z hz => by rw [ht] at hz; cases hz
  refine vx_throwS (own := RX3) (cls := cls) (text := text) (names := names) (ik := ik) (is := is) (ic := ic) (sa := zt g (4 + i9)) (A := zA g) S.ex S.by S.st.2.2.2.2.2 S.own hcls hnames (S.ts _ hk) (S.ts _ hini) (S.st.2.2.2.1 i9 _ hstr)
    (vx_hat (fun w hw => S.ts w (hat w hw)) hng (fun w hw => va_Nw.use (zNest_tab w hw) (S.st.2.2.1 w hw))) hgood S.st.2.1.1 S.st.2.1.2 hS (hl.1.trans S.ml.symm) d0 d3 d4 d6 d9 hno hRf hRl hRc hRs S.lk (fun t hW h1 h2 => ⟨μ, h, ?_, ?_⟩) hS.2.2 hc hs
  · exact hP.kept (fun k q hq => h2 q.1 ((hP k q hq).lt))
  · exact ⟨Nat.le_trans hS.1 h1, fun q h3 h4 => by rw [h2 q (Nat.lt_of_lt_of_le h3 hS.1)]; exact hS.2.1 q h3 h4⟩
theorem k_throwW {cls text : String} {names : List String} {ik is ic i9 : Nat} (S : zS x g nL cc own) (Y : zR x g ret mc ms [] RT XT) (hown9 : own = RX3) (hcls : Bundle.fit cls = true) (hnames : ∀ n ∈ names, Bundle.fit n = true) (hk : Cond.classLink own ik cls ∈ zU) (hini : Cond.initialized cls ∈ zU)
    (hstr : zStr[i9]? = some (is, text)) (hat : ∀ w ∈ (vx_atS own ic cls names).filter goodWord, w ∈ zU) (hng : ∀ w ∈ (vx_atS own ic cls names).filter (fun w => !goodWord w), w ∈ zNest) (hgood : ∀ w ∈ Cond.classLink own ik cls :: Cond.initialized cls :: vx_atS own ic cls names, vx_ot w = true)
    (d0 : decode cc pc = .ok (.new ik, 3)) (d3 : decode cc (pc + 3) = .ok (.dup, 1)) (d4 : decode cc (pc + 4) = .ok (.ldc_w is, 3)) (d7 : decode cc (pc + 7) = .ok (.invokespecial ic, 3)) (d10 : decode cc (pc + 10) = .ok (.athrow, 1))
    (hRf : names.length + 3 < R.frames) (hRl : (st.map fun v => v.category).sum + (13 * (names.length + 1) + 43) ≤ R.locals) (hRc : ce + 1 ≤ R.cells) (hRs : sl + 6 ≤ R.slots) (hc : ce + 1 ≤ mc) (hs : sl + 6 ≤ ms) (h : XT cls μ) : zK x g R nL ce sl pc L st μ := by
  subst hown9
  obtain ⟨hQ, -, ht⟩ := Y
  intro H locs ls hP hS hl
  rw [hQ]
  have hno : ∀ z ∈ (xc x).exceptionTable.toList, covers z (pc + 10) = false := fun z hz => by rw [ht] at hz; cases hz
  refine vx_throwSW (own := RX3) (cls := cls) (text := text) (names := names) (ik := ik) (is := is) (ic := ic) (sa := zt g (4 + i9)) (A := zA g) S.ex S.by S.st.2.2.2.2.2 S.own hcls hnames (S.ts _ hk) (S.ts _ hini) (S.st.2.2.2.1 i9 _ hstr)
    (vx_hat (fun w hw => S.ts w (hat w hw)) hng (fun w hw => va_Nw.use (zNest_tab w hw) (S.st.2.2.1 w hw))) hgood S.st.2.1.1 S.st.2.1.2 hS (hl.1.trans S.ml.symm) d0 d3 d4 d7 d10 hno hRf hRl hRc hRs S.lk (fun t hW h1 h2 => ⟨μ, h, ?_, ?_⟩) hS.2.2 hc hs
  · exact hP.kept (fun k q hq => h2 q.1 ((hP k q hq).lt))
  · exact ⟨Nat.le_trans hS.1 h1, fun q h3 h4 => by rw [h2 q (Nat.lt_of_lt_of_le h3 hS.1)]; exact hS.2.1 q h3 h4⟩
end KK
/-- vx_ofW, by the method's own name (JDK methods too) -/
theorem z_ofF {l : Launch} {y : MethodName} {ws ws' : List Cond} {rm : Room} {Pc : Array Value → State → Prop} {Qc : Array Value → State → Outcome → State → Prop} {XC : String → State → State → Prop} {mc ms : Nat} {free : Addr → Prop} {cc : ByteArray} {maxL : Nat} {ret : Option FieldType}
    (hy : plainFor y = true) (hw : ws = Cond.code y cc maxL ret :: ws')
    (body : ∀ p e s m args below meth c s₁, BodyLoose p l y (headSpec ws rm) cc maxL ret e s m args below meth c s₁ → c.maxLocals = maxL → (∀ x ∈ c.exceptionTable.toList, False) → Pc args s →
      W p l e (headSpec ws rm).room s m args below meth c s.heap [] 0 0 (vx_MQ below Qc XC args s mc ms free) (entryFrame m args maxL)) : vx_Met l y ws rm Pc Qc XC mc ms free := by
  refine MetFree.of_bodySF (code := cc) (maxLocals := maxL) (ret := ret) hy ?_ ?_
  · intro args s m h hn
    obtain ⟨meth, c, h1, h2, h3, h4, h5, h6, -, -⟩ := Cond.code_spec hn (atoms_spec (ws := ws) h _ (by rw [hw]; exact List.mem_cons_self))
    exact ⟨meth, c, h1, h2, h3, h4, h5, h6⟩
  · intro p e s m args below meth c s₁ B hml hP _
    have hh0 : s₁.heap = s.heap := by rw [B.state]; rfl
    have ht : ∀ x ∈ c.exceptionTable.toList, False := by
      obtain ⟨meth9, c9, h1, h2, -, -, -, -, h7, -⟩ := Cond.code_spec B.named (atoms_spec (ws := ws) B.pre _ (by rw [hw]; exact List.mem_cons_self))
      cases Option.some.inj (h1.symm.trans B.method)
      cases Option.some.inj (h2.symm.trans (Stand.of_body B).code)
      intro x hx
      rw [Array.isEmpty_iff.mp h7] at hx
      cases hx
    obtain ⟨t, a1, o, b1, b2, b3⟩ := body p e s m args below meth c s₁ B hml ht hP s₁ hh0 (Stand.of_body B)
    exact ⟨t, o, a1, b1, b2, b3⟩
/-- a contract, from a walk of the body -/
theorem zC_of {l : Launch} {g : zG} {y : MethodName} {rm : Room} {mc ms maxL : Nat} {av : List Value} {μ : zM} {RT : Option Value → zM → Prop} {XT : String → zM → Prop} {cc : ByteArray} {ret : Option FieldType} {L0 : List (Option Value)} (hy : plainFor y = true) (hlen : (lg_sl av).length ≤ maxL) (hL : zl 0 L0 = lv_args 0 av)
    (body : ∀ x : zX, zS x g maxL cc y.cls → zR x g ret mc ms [] RT XT → xl x = l → zK x g rm maxL 0 0 0 L0 [] μ) : zC l g y cc maxL ret rm mc ms av μ RT XT := by
  refine z_ofF (cc := cc) (maxL := maxL) (ret := ret) hy rfl ?_
  intro p e s m args below meth c s₁ B hml htab hv
  obtain ⟨rfl, hP, hK, hO, hSt⟩ := hv
  have hts := atoms_spec (ws := zws y cc maxL ret) B.pre
  have hl := lv_entry av (n := maxL) hlen
  rw [lg_entry_eq]
  have htb : c.exceptionTable.toList = [] := by
    cases h9 : c.exceptionTable.toList with
    | nil => rfl
    | cons z t => exact absurd (htab z (by rw [h9]; exact List.mem_cons_self)) id
  exact body (p, l, e, s, m, av.toArray, below, meth, c, vx_MQ below (zQr g RT) (zQx g XT) av.toArray s mc ms (zA g)) ⟨B.exec, B.bytes, hml, findClass_of_methodNamed B.named, fun w hw => hts w (List.mem_cons_of_mem _ hw), hK, hO, hSt, B.notSynchronized⟩ ⟨rfl, B.returns, htb⟩ rfl s.heap [] _ hP va_S.rf (by rw [hL]; exact hl)
end
section
def zEx : List String := ["java/lang/RuntimeException", "java/lang/Exception"]
theorem zlt {x : zX} {g : zG} {nL : Nat} {cc : ByteArray} {own : String} (S : zS x g nL cc own) {p : Nat} (h : p < 21) : p < zn g := Nat.lt_of_lt_of_le h S.ok.2.2
/-- a contract's end that throws nothing; one that is known -/
def zNX : String → zM → Prop := fun _ _ => False
def zRv (u : Option Value) (ν0 : zM) : Option Value → zM → Prop := fun v ν => v = u ∧ ν = ν0
def zXv (E : String) (ν0 : zM) : String → zM → Prop := fun F ν => F = E ∧ ν = ν0
theorem at0_IAE : ∀ w ∈ (vx_atS RX3 54 "java/lang/IllegalArgumentException" zEx).filter goodWord, w ∈ lw_tbl := by decide +kernel
theorem at_IAE : ∀ w ∈ (vx_atS RX3 54 "java/lang/IllegalArgumentException" zEx).filter goodWord, w ∈ zU := fun w hw => List.mem_filter.mpr ⟨at0_IAE w hw, (List.mem_filter.mp hw).2⟩
theorem ng_IAE : ∀ w ∈ (vx_atS RX3 54 "java/lang/IllegalArgumentException" zEx).filter (fun w => !goodWord w), w ∈ zNest := by decide +kernel
theorem go_IAE : ∀ w ∈ Cond.classLink RX3 50 "java/lang/IllegalArgumentException" :: Cond.initialized "java/lang/IllegalArgumentException" :: vx_atS RX3 54 "java/lang/IllegalArgumentException" zEx, vx_ot w = true := by decide +kernel
theorem at0_ISE : ∀ w ∈ (vx_atS RX3 71 "java/lang/IllegalStateException" zEx).filter goodWord, w ∈ lw_tbl := by decide +kernel
theorem at_ISE : ∀ w ∈ (vx_atS RX3 71 "java/lang/IllegalStateException" zEx).filter goodWord, w ∈ zU := fun w hw => List.mem_filter.mpr ⟨at0_ISE w hw, (List.mem_filter.mp hw).2⟩
theorem ng_ISE : ∀ w ∈ (vx_atS RX3 71 "java/lang/IllegalStateException" zEx).filter (fun w => !goodWord w), w ∈ zNest := by decide +kernel
theorem go_ISE : ∀ w ∈ Cond.classLink RX3 67 "java/lang/IllegalStateException" :: Cond.initialized "java/lang/IllegalStateException" :: vx_atS RX3 71 "java/lang/IllegalStateException" zEx, vx_ot w = true := by decide +kernel
theorem at0_IOB : ∀ w ∈ (vx_atS RX3 169 "java/lang/IndexOutOfBoundsException" zEx).filter goodWord, w ∈ lw_tbl := by decide +kernel
theorem at_IOB : ∀ w ∈ (vx_atS RX3 169 "java/lang/IndexOutOfBoundsException" zEx).filter goodWord, w ∈ zU := fun w hw => List.mem_filter.mpr ⟨at0_IOB w hw, (List.mem_filter.mp hw).2⟩
theorem ng_IOB : ∀ w ∈ (vx_atS RX3 169 "java/lang/IndexOutOfBoundsException" zEx).filter (fun w => !goodWord w), w ∈ zNest := by decide +kernel
theorem go_IOB : ∀ w ∈ Cond.classLink RX3 165 "java/lang/IndexOutOfBoundsException" :: Cond.initialized "java/lang/IndexOutOfBoundsException" :: vx_atS RX3 169 "java/lang/IndexOutOfBoundsException" zEx, vx_ot w = true := by decide +kernel
theorem mv_X0_restart : zMV yX0_restart RX0 cX0_restart 2 none 1 := ⟨m_143, m_144, m_2, m_145, by decide +kernel⟩
theorem mv_X0_hasLimits : zMV yX0_hasLimits RX0 cX0_hasLimits 1 (some .boolean) 0 := ⟨m_522, m_523, m_2, m_524, by decide +kernel⟩
theorem mv_X0_settle : zMV yX0_settle RX0 cX0_settle 4 none 1 := ⟨m_405, m_406, m_2, m_407, by decide +kernel⟩
theorem mv_X0_sideOfCenter : zMV yX0_sideOfCenter RX0 cX0_sideOfCenter 2 (some .int) 1 := ⟨m_224, m_225, m_2, m_226, by decide +kernel⟩
theorem mv_X0_sideBeyond : zMV yX0_sideBeyond RX0 cX0_sideBeyond 3 (some .int) 2 := ⟨m_244, m_245, m_2, m_246, by decide +kernel⟩
theorem mv_X1_restart : zMV yX1_restart RX1 cX1_restart 1 none 0 := ⟨m_208, m_209, m_3, m_210, by decide +kernel⟩
theorem mv_X1_take : zMV yX1_take RX1 cX1_take 3 none 2 := ⟨m_220, m_221, m_3, m_222, by decide +kernel⟩
theorem mv_X1_takeCenterSide : zMV yX1_takeCenterSide RX1 cX1_takeCenterSide 2 none 1 := ⟨m_232, mp_3, m_3, m_233, by decide +kernel⟩
theorem mv_X1_takeDirection : zMV yX1_takeDirection RX1 cX1_takeDirection 2 none 1 := ⟨m_237, mp_4, m_3, m_238, by decide +kernel⟩
theorem mv_X1_takeSidesBeyond : zMV yX1_takeSidesBeyond RX1 cX1_takeSidesBeyond 3 none 2 := ⟨m_241, mp_5, m_3, m_242, by decide +kernel⟩
theorem mv_X1_pushed : zMS yX1_pushed cX1_pushed 3 (some .int) 3 := ⟨m_248, m_3, m_249, by decide +kernel⟩
theorem mv_X1_brokenRules : zMV yX1_brokenRules RX1 cX1_brokenRules 1 (some .int) 0 := ⟨m_251, m_252, m_3, m_253, by decide +kernel⟩
theorem mv_X1_bitOf : zMS yX1_bitOf cX1_bitOf 2 (some .int) 2 := ⟨m_255, m_3, m_256, by decide +kernel⟩
theorem mv_X1_isOften : zMS yX1_isOften cX1_isOften 4 (some .boolean) 4 := ⟨m_263, m_3, m_264, by decide +kernel⟩
theorem mv_X2_restart : zMV yX2_restart RX2 cX2_restart 1 none 0 := ⟨m_559, m_560, m_4, m_561, by decide +kernel⟩
theorem mv_X2_isFull : zMV yX2_isFull RX2 cX2_isFull 1 (some .boolean) 0 := ⟨m_563, m_564, m_4, m_565, by decide +kernel⟩
theorem mv_X2_add : zMV yX2_add RX2 cX2_add 3 none 2 := ⟨m_567, m_568, m_4, m_569, by decide +kernel⟩
theorem mv_X2_subgroupAt : zMV yX2_subgroupAt RX2 cX2_subgroupAt 2 (some .int) 1 := ⟨m_609, m_610, m_4, m_611, by decide +kernel⟩
theorem mv_X2_breaks : zMV yX2_breaks RX2 cX2_breaks 4 (some .boolean) 2 := ⟨m_572, m_573, m_4, m_574, by decide +kernel⟩
theorem mv_X2_isOnOneSide : zMV yX2_isOnOneSide RX2 cX2_isOnOneSide 5 (some .boolean) 2 := ⟨m_579, mp_15, m_4, m_580, by decide +kernel⟩
theorem mv_X2_isSteady : zMV yX2_isSteady RX2 cX2_isSteady 4 (some .boolean) 1 := ⟨m_584, mp_16, m_4, m_585, by decide +kernel⟩
theorem mv_X2_isTurning : zMV yX2_isTurning RX2 cX2_isTurning 4 (some .boolean) 1 := ⟨m_589, mp_17, m_4, m_590, by decide +kernel⟩
theorem mv_X2_isOften : zMV yX2_isOften RX2 cX2_isOften 8 (some .boolean) 4 := ⟨m_593, mp_18, m_4, m_594, by decide +kernel⟩
theorem mv_X2_beyondSome : zMV yX2_beyondSome RX2 cX2_beyondSome 5 (some .int) 2 := ⟨m_597, mp_19, m_4, m_598, by decide +kernel⟩
theorem mv_X3_begin : zMV yX3_begin RX3 cX3_begin 2 none 1 := ⟨m_276, m_277, m_1, m_278, by decide +kernel⟩
theorem mv_X3_put : zMV yX3_put RX3 cX3_put 2 (some .boolean) 1 := ⟨m_352, m_353, m_1, m_354, by decide +kernel⟩
theorem mv_X3_newPhase : zMV yX3_newPhase RX3 cX3_newPhase 1 (some .int) 0 := ⟨m_421, m_422, m_1, m_423, by decide +kernel⟩
theorem mv_X3_freeze : zMV yX3_freeze RX3 cX3_freeze 3 none 1 := ⟨m_436, m_437, m_1, m_438, by decide +kernel⟩
theorem mv_X3_thaw : zMV yX3_thaw RX3 cX3_thaw 3 none 1 := ⟨m_465, m_466, m_1, m_467, by decide +kernel⟩
theorem mv_X3_exclude : zMV yX3_exclude RX3 cX3_exclude 4 (some .int) 2 := ⟨m_473, m_474, m_1, m_475, by decide +kernel⟩
theorem mv_X3_subgroups : zMV yX3_subgroups RX3 cX3_subgroups 1 (some .int) 0 := ⟨m_196, m_197, m_1, m_198, by decide +kernel⟩
theorem mv_X3_phases : zMV yX3_phases RX3 cX3_phases 1 (some .int) 0 := ⟨m_200, m_201, m_1, m_202, by decide +kernel⟩
theorem mv_X3_mean : zMV yX3_mean RX3 cX3_mean 2 (some .int) 1 := ⟨m_486, m_487, m_1, m_488, by decide +kernel⟩
theorem mv_X3_range : zMV yX3_range RX3 cX3_range 2 (some .int) 1 := ⟨m_493, m_494, m_1, m_495, by decide +kernel⟩
theorem mv_X3_phaseOf : zMV yX3_phaseOf RX3 cX3_phaseOf 2 (some .int) 1 := ⟨m_500, m_501, m_1, m_502, by decide +kernel⟩
theorem mv_X3_points : zMV yX3_points RX3 cX3_points 2 (some .int) 1 := ⟨m_507, m_508, m_1, m_509, by decide +kernel⟩
theorem mv_X3_center : zMV yX3_center RX3 cX3_center 2 (some .int) 1 := ⟨m_514, m_515, m_1, m_516, by decide +kernel⟩
theorem mv_X3_width : zMV yX3_width RX3 cX3_width 2 (some .int) 1 := ⟨m_530, m_531, m_1, m_532, by decide +kernel⟩
theorem mv_X3_rangeLimit : zMV yX3_rangeLimit RX3 cX3_rangeLimit 2 (some .int) 1 := ⟨m_537, m_538, m_1, m_539, by decide +kernel⟩
theorem mv_X3_signals : zMV yX3_signals RX3 cX3_signals 4 (some .int) 1 := ⟨m_544, m_545, m_1, m_546, by decide +kernel⟩
theorem mv_X3_signalsByWindows : zMV yX3_signalsByWindows RX3 cX3_signalsByWindows 5 (some .int) 1 := ⟨m_551, m_552, m_1, m_553, by decide +kernel⟩
theorem mv_X3_firstOf : zMV yX3_firstOf RX3 cX3_firstOf 4 (some .int) 2 := ⟨m_603, m_604, m_1, m_605, by decide +kernel⟩
theorem mv_X3_isWide : zMV yX3_isWide RX3 cX3_isWide 2 (some .boolean) 1 := ⟨m_616, m_617, m_1, m_618, by decide +kernel⟩
theorem mv_X3_alarms : zMV yX3_alarms RX3 cX3_alarms 4 (some .int) 0 := ⟨m_204, m_205, m_1, m_206, by decide +kernel⟩
theorem mv_X3_setWeight : zMV yX3_setWeight RX3 cX3_setWeight 3 (some .int) 1 := ⟨m_623, m_624, m_1, m_625, by decide +kernel⟩
theorem mv_X3_weighted : zMV yX3_weighted RX3 cX3_weighted 5 (some .int) 1 := ⟨m_631, m_632, m_1, m_633, by decide +kernel⟩
theorem mv_X3_cumulative : zMV yX3_cumulative RX3 cX3_cumulative 8 (some .int) 2 := ⟨m_646, m_647, m_1, m_648, by decide +kernel⟩
theorem mv_X3_capability : zMV yX3_capability RX3 cX3_capability 12 (some .long) 4 := ⟨m_653, m_654, m_1, m_655, by decide +kernel⟩
theorem mv_X3_restart : zMV yX3_restart RX3 cX3_restart 2 none 1 := ⟨m_140, mp_0, m_1, m_141, by decide +kernel⟩
theorem mv_X3_takeMeasurement : zMV yX3_takeMeasurement RX3 cX3_takeMeasurement 3 none 1 := ⟨m_377, mp_7, m_1, m_378, by decide +kernel⟩
theorem mv_X3_finishSubgroup : zMV yX3_finishSubgroup RX3 cX3_finishSubgroup 2 none 0 := ⟨m_387, mp_8, m_1, m_388, by decide +kernel⟩
theorem mv_X3_countPoint : zMV yX3_countPoint RX3 cX3_countPoint 4 none 2 := ⟨m_402, mp_9, m_1, m_403, by decide +kernel⟩
theorem mv_X3_lookBack : zMV yX3_lookBack RX3 cX3_lookBack 4 none 2 := ⟨m_556, mp_14, m_1, m_557, by decide +kernel⟩
theorem mv_X3_checkSubgroup : zMV yX3_checkSubgroup RX3 cX3_checkSubgroup 2 none 1 := ⟨m_478, mp_12, m_1, m_479, by decide +kernel⟩
theorem mv_X3_checkPoint : zMV yX3_checkPoint RX3 cX3_checkPoint 2 none 1 := ⟨m_636, mp_20, m_1, m_637, by decide +kernel⟩
theorem mv_X3_isPoint : zMV yX3_isPoint RX3 cX3_isPoint 2 (some .boolean) 1 := ⟨m_213, mp_1, m_1, m_214, by decide +kernel⟩
theorem mv_X3_findPhase : zMV yX3_findPhase RX3 cX3_findPhase 2 (some (.object "ChartroomSpc$Phase")) 1 := ⟨m_441, mp_11, m_1, m_442, by decide +kernel⟩
theorem mv_X3_findLimits : zMV yX3_findLimits RX3 cX3_findLimits 3 (some (.object "ChartroomSpc$Phase")) 1 := ⟨m_519, mp_13, m_1, m_520, by decide +kernel⟩
theorem mv_X3_phaseHolding : zMV yX3_phaseHolding RX3 cX3_phaseHolding 3 (some (.object "ChartroomSpc$Phase")) 1 := ⟨m_217, mp_2, m_1, m_218, by decide +kernel⟩
theorem mv_X3_lastPhase : zMV yX3_lastPhase RX3 cX3_lastPhase 1 (some (.object "ChartroomSpc$Phase")) 0 := ⟨m_428, mp_10, m_1, m_429, by decide +kernel⟩
theorem mv_X3_isMeasurement : zMS yX3_isMeasurement cX3_isMeasurement 1 (some .boolean) 1 := ⟨m_356, m_1, m_357, by decide +kernel⟩
theorem mv_X3_bySize : zMS yX3_bySize cX3_bySize 3 (some .int) 2 := ⟨m_413, m_1, m_414, by decide +kernel⟩
theorem mv_X3_pointsOfRule : zMS yX3_pointsOfRule cX3_pointsOfRule 1 (some .int) 1 := ⟨m_258, m_1, m_259, by decide +kernel⟩
theorem mv_X3_floored : zMS yX3_floored cX3_floored 4 (some .long) 2 := ⟨m_395, m_1, m_396, by decide +kernel⟩
theorem mv_X3_rounded : zMS yX3_rounded cX3_rounded 4 (some .long) 2 := ⟨m_391, m_1, m_392, by decide +kernel⟩
theorem mv_X3_direction : zMS yX3_direction cX3_direction 2 (some .int) 2 := ⟨m_228, m_1, m_229, by decide +kernel⟩
theorem mv_X4_thrown : zMV yX4_thrown RX4 cX4_thrown 1 (some .int) 0 := ⟨m_747, m_748, m_5, m_749, by decide +kernel⟩
theorem mv_X4_isIn : zMS yX4_isIn cX4_isIn 3 (some .boolean) 3 := ⟨m_755, m_5, m_756, by decide +kernel⟩
theorem mv_X4_floored : zMS yX4_floored cX4_floored 6 (some .long) 2 := ⟨m_791, m_5, m_792, by decide +kernel⟩
theorem mv_X4_rounded : zMS yX4_rounded cX4_rounded 4 (some .int) 2 := ⟨m_787, m_5, m_788, by decide +kernel⟩
theorem mv_X4_factor : zMS yX4_factor cX4_factor 6 (some .int) 6 := ⟨m_794, m_5, m_795, by decide +kernel⟩
theorem mv_X4_begin : zMV yX4_begin RX4 cX4_begin 3 none 1 := ⟨m_751, m_752, m_5, m_753, by decide +kernel⟩
theorem mv_X4_put : zMV yX4_put RX4 cX4_put 2 (some .boolean) 1 := ⟨m_758, m_759, m_5, m_760, by decide +kernel⟩
theorem mv_X4_newPhase : zMV yX4_newPhase RX4 cX4_newPhase 1 (some .int) 0 := ⟨m_762, m_763, m_5, m_764, by decide +kernel⟩
theorem mv_X4_phase : zMV yX4_phase RX4 cX4_phase 4 (some .int) 1 := ⟨m_783, mp_24, m_5, m_784, by decide +kernel⟩
theorem mv_X4_laysPoints : zMV yX4_laysPoints RX4 cX4_laysPoints 4 none 2 := ⟨m_779, mp_23, m_5, m_780, by decide +kernel⟩
theorem mv_X4_laysLimits : zMV yX4_laysLimits RX4 cX4_laysLimits 7 none 1 := ⟨m_775, mp_22, m_5, m_776, by decide +kernel⟩
theorem mv_X4_isPhase : zMV yX4_isPhase RX4 cX4_isPhase 2 (some .boolean) 1 := ⟨m_771, mp_21, m_5, m_772, by decide +kernel⟩
theorem mv_X4_freeze : zMV yX4_freeze RX4 cX4_freeze 2 none 1 := ⟨m_766, m_767, m_5, m_768, by decide +kernel⟩
theorem mv_X4_thaw : zMV yX4_thaw RX4 cX4_thaw 2 none 1 := ⟨m_797, m_798, m_5, m_799, by decide +kernel⟩
theorem mv_X4_isDone : zMV yX4_isDone RX4 cX4_isDone 2 (some .boolean) 1 := ⟨m_806, mp_25, m_5, m_807, by decide +kernel⟩
theorem mv_X4_exclude : zMV yX4_exclude RX4 cX4_exclude 4 (some .int) 2 := ⟨m_801, m_802, m_5, m_803, by decide +kernel⟩
theorem mv_X4_subgroups : zMV yX4_subgroups RX4 cX4_subgroups 1 (some .int) 0 := ⟨m_809, m_810, m_5, m_811, by decide +kernel⟩
theorem mv_X4_phases : zMV yX4_phases RX4 cX4_phases 1 (some .int) 0 := ⟨m_813, m_814, m_5, m_815, by decide +kernel⟩
theorem mv_X4_mean : zMV yX4_mean RX4 cX4_mean 2 (some .int) 1 := ⟨m_817, m_818, m_5, m_819, by decide +kernel⟩
theorem mv_X4_range : zMV yX4_range RX4 cX4_range 2 (some .int) 1 := ⟨m_821, m_822, m_5, m_823, by decide +kernel⟩
theorem mv_X4_phaseOf : zMV yX4_phaseOf RX4 cX4_phaseOf 2 (some .int) 1 := ⟨m_825, m_826, m_5, m_827, by decide +kernel⟩
theorem mv_X4_points : zMV yX4_points RX4 cX4_points 2 (some .int) 1 := ⟨m_829, m_830, m_5, m_831, by decide +kernel⟩
theorem mv_X4_isLimited : zMV yX4_isLimited RX4 cX4_isLimited 2 (some .boolean) 1 := ⟨m_838, mp_26, m_5, m_839, by decide +kernel⟩
theorem mv_X4_center : zMV yX4_center RX4 cX4_center 2 (some .int) 1 := ⟨m_833, m_834, m_5, m_835, by decide +kernel⟩
theorem mv_X4_width : zMV yX4_width RX4 cX4_width 2 (some .int) 1 := ⟨m_841, m_842, m_5, m_843, by decide +kernel⟩
theorem mv_X4_rangeLimit : zMV yX4_rangeLimit RX4 cX4_rangeLimit 2 (some .int) 1 := ⟨m_845, m_846, m_5, m_847, by decide +kernel⟩
theorem mv_X4_back : zMV yX4_back RX4 cX4_back 2 (some .int) 1 := ⟨m_870, mp_30, m_5, m_871, by decide +kernel⟩
theorem mv_X4_isBeyond : zMV yX4_isBeyond RX4 cX4_isBeyond 4 (some .boolean) 3 := ⟨m_865, mp_29, m_5, m_866, by decide +kernel⟩
theorem mv_X4_beyond : zMV yX4_beyond RX4 cX4_beyond 6 (some .int) 3 := ⟨m_886, mp_34, m_5, m_887, by decide +kernel⟩
theorem mv_X4_steps : zMV yX4_steps RX4 cX4_steps 5 (some .int) 2 := ⟨m_878, mp_32, m_5, m_879, by decide +kernel⟩
theorem mv_X4_isTurning : zMV yX4_isTurning RX4 cX4_isTurning 3 (some .boolean) 0 := ⟨m_882, mp_33, m_5, m_883, by decide +kernel⟩
theorem mv_X4_aboveOf : zMV yX4_aboveOf RX4 cX4_aboveOf 5 (some .int) 2 := ⟨m_874, mp_31, m_5, m_875, by decide +kernel⟩
theorem mv_X4_named : zMS yX4_named cX4_named 1 (some .int) 1 := ⟨m_861, m_5, m_862, by decide +kernel⟩
theorem mv_X4_breaks : zMV yX4_breaks RX4 cX4_breaks 3 (some .boolean) 2 := ⟨m_858, mp_28, m_5, m_859, by decide +kernel⟩
theorem mv_X4_broken : zMV yX4_broken RX4 cX4_broken 4 (some .int) 1 := ⟨m_854, mp_27, m_5, m_855, by decide +kernel⟩
theorem mv_X4_signals : zMV yX4_signals RX4 cX4_signals 2 (some .int) 1 := ⟨m_849, m_850, m_5, m_851, by decide +kernel⟩
theorem mv_X4_signalsByWindows : zMV yX4_signalsByWindows RX4 cX4_signalsByWindows 2 (some .int) 1 := ⟨m_889, m_890, m_5, m_891, by decide +kernel⟩
theorem mv_X4_firstOf : zMV yX4_firstOf RX4 cX4_firstOf 3 (some .int) 2 := ⟨m_893, m_894, m_5, m_895, by decide +kernel⟩
theorem mv_X4_isWide : zMV yX4_isWide RX4 cX4_isWide 2 (some .boolean) 1 := ⟨m_897, m_898, m_5, m_899, by decide +kernel⟩
theorem mv_X4_alarms : zMV yX4_alarms RX4 cX4_alarms 3 (some .int) 0 := ⟨m_901, m_902, m_5, m_903, by decide +kernel⟩
theorem mv_X4_setWeight : zMV yX4_setWeight RX4 cX4_setWeight 3 (some .int) 1 := ⟨m_905, m_906, m_5, m_907, by decide +kernel⟩
theorem mv_X4_isPoint : zMV yX4_isPoint RX4 cX4_isPoint 2 (some .boolean) 1 := ⟨m_914, mp_35, m_5, m_915, by decide +kernel⟩
theorem mv_X4_weighted : zMV yX4_weighted RX4 cX4_weighted 5 (some .int) 1 := ⟨m_909, m_910, m_5, m_911, by decide +kernel⟩
theorem mv_X4_cumulative : zMV yX4_cumulative RX4 cX4_cumulative 7 (some .int) 2 := ⟨m_918, m_919, m_5, m_920, by decide +kernel⟩
theorem mv_X4_capability : zMV yX4_capability RX4 cX4_capability 13 (some .long) 4 := ⟨m_922, m_923, m_5, m_924, by decide +kernel⟩
theorem mv_J6_bitCount_0f7a4 : zMS yJ6_bitCount_0f7a4 cJ6_bitCount_0f7a4 1 (some .int) 1 := ⟨m_266, m_13, m_267, by decide +kernel⟩
theorem mv_J9_floorDiv_7cf53 : zMS yJ9_floorDiv_7cf53 cJ9_floorDiv_7cf53 3 (some .int) 2 := ⟨m_640, m_11, m_641, by decide +kernel⟩
theorem mv_J9_floorDiv_f86c9 : zMS yJ9_floorDiv_f86c9 cJ9_floorDiv_f86c9 6 (some .long) 2 := ⟨m_398, m_11, m_399, by decide +kernel⟩
theorem mv_J9_max_7cf53 : zMS yJ9_max_7cf53 cJ9_max_7cf53 2 (some .int) 2 := ⟨m_383, m_11, m_384, by decide +kernel⟩
theorem mv_J9_min_7cf53 : zMS yJ9_min_7cf53 cJ9_min_7cf53 2 (some .int) 2 := ⟨m_380, m_11, m_381, by decide +kernel⟩
theorem mv_J9_min_f86c9 : zMS yJ9_min_f86c9 cJ9_min_f86c9 4 (some .long) 2 := ⟨m_663, m_11, m_664, by decide +kernel⟩
end
section
/-! THE LEAVES: what the JDK's and the desk's small functions answer, in the words of their own code -/
def zfd (a b : Int32) : Int32 := if 0 ≤ a ^^^ b then a / b else if a / b * b = a then a / b else a / b - 1
def zfdL (a b : Int64) : Int64 := if 0 ≤ lg_cmp (a ^^^ b) 0 then a / b else if lg_cmp (a / b * b) a = 0 then a / b else a / b - 1
def zdir (f t : Int32) : Int32 := if t ≤ f then (if f ≤ t then 0 else (-1)) else 1
def zmax (a b : Int32) : Int32 := if a < b then b else a
def zmin (a b : Int32) : Int32 := if b < a then b else a
def zminL (a b : Int64) : Int64 := if 0 < lg_cmp a b then b else a
def zme (v : Int32) : Int32 := if v < (-9999) then 0 else (if 9999 < v then 0 else 1)
def zfl (a b : Int64) : Int64 := if lg_cmp b 0 ≤ 0 then 0 else zfdL a b
def zrd (a b : Int64) : Int64 := zfl (2 * a + b) (2 * b)
theorem zcmp_ne {b : Int64} (h : ¬ lg_cmp b 0 ≤ 0) : ¬ b = 0 := fun e => h ((lg_cmp_le b 0).mpr (by rw [e]; exact Int64.le_refl _))
def zsb (x c w m : Int32) : Int32 := if 3 * (x - c) ≤ m * w then (if 3 * (c - x) ≤ m * w then 0 else (-1)) else 1
set_option maxRecDepth 100000 in
set_option maxHeartbeats 4000000 in
theorem c_J9_floorDiv_7cf53 {l : Launch} {g : zG} {a b : Int32} {μ : zM} (h0 : ¬ b = 0) : zC l g yJ9_floorDiv_7cf53 cJ9_floorDiv_7cf53 3 (some .int) ({ frames := 0, cells := 0, slots := 0, locals := 0 } : Room) 0 0 [.int a, .int b] μ (zRv (some (.int (zfd a b))) μ) zNX := by
  refine zC_of (L0 := [some (.int a), some (.int b), none]) (by decide +kernel) (Nat.le_of_ble_eq_true rfl) rfl ?_
  intro x S Y hxl
  subst hxl
  refine k_iload0 S dJ9_floorDiv_7cf53_0 (n := 1) rfl ?_
  refine k_iload1 S dJ9_floorDiv_7cf53_1 (n := 2) rfl ?_
  refine k_idiv S dJ9_floorDiv_7cf53_2 h0 (n := 3) rfl ?_
  refine k_istore2 S dJ9_floorDiv_7cf53_3 (by decide) rfl (n := 4) rfl ?_
  refine k_iload0 S dJ9_floorDiv_7cf53_4 (n := 5) rfl ?_
  refine k_iload1 S dJ9_floorDiv_7cf53_5 (n := 6) rfl ?_
  refine k_ixor S dJ9_floorDiv_7cf53_6 (n := 7) rfl ?_
  refine k_if_ge S dJ9_floorDiv_7cf53_7 (tgt := 21) (by decide) (n := 10) rfl (fun c1 => ?_) (fun c1 => ?_)
  ·
    refine k_iload2 S dJ9_floorDiv_7cf53_21 (n := 22) rfl ?_
    exact k_iret S Y dJ9_floorDiv_7cf53_22 (by decide) (by decide) rfl (⟨by first | rw [zfd, if_pos c1] | rw [zfd, if_neg c1, if_pos c2], rfl⟩)
  ·
    refine k_iload2 S dJ9_floorDiv_7cf53_10 (n := 11) rfl ?_
    refine k_iload1 S dJ9_floorDiv_7cf53_11 (n := 12) rfl ?_
    refine k_imul S dJ9_floorDiv_7cf53_12 (n := 13) rfl ?_
    refine k_iload0 S dJ9_floorDiv_7cf53_13 (n := 14) rfl ?_
    refine k_icmp_eq S dJ9_floorDiv_7cf53_14 (tgt := 21) (by decide) (n := 17) rfl (fun c2 => ?_) (fun c2 => ?_)
    ·
      refine k_iload2 S dJ9_floorDiv_7cf53_21 (n := 22) rfl ?_
      exact k_iret S Y dJ9_floorDiv_7cf53_22 (by decide) (by decide) rfl (⟨by first | rw [zfd, if_pos c1] | rw [zfd, if_neg c1, if_pos c2], rfl⟩)
    ·
      refine k_iload2 S dJ9_floorDiv_7cf53_17 (n := 18) rfl ?_
      refine k_iconst S dJ9_floorDiv_7cf53_18 (v := 1) (by decide) (n := 19) rfl ?_
      refine k_isub S dJ9_floorDiv_7cf53_19 (n := 20) rfl ?_
      exact k_iret S Y dJ9_floorDiv_7cf53_20 (by decide) (by decide) rfl (⟨by rw [zfd, if_neg c1, if_neg c2], rfl⟩)
set_option maxRecDepth 100000 in
set_option maxHeartbeats 4000000 in
theorem c_J9_floorDiv_f86c9 {l : Launch} {g : zG} {a b : Int64} {μ : zM} (h0 : ¬ b = 0) : zC l g yJ9_floorDiv_f86c9 cJ9_floorDiv_f86c9 6 (some .long) ({ frames := 0, cells := 0, slots := 0, locals := 0 } : Room) 0 0 [.long a, .long b] μ (zRv (some (.long (zfdL a b))) μ) zNX := by
  refine zC_of (L0 := [some (.long a), none, some (.long b), none, none, none]) (by decide +kernel) (Nat.le_of_ble_eq_true rfl) rfl ?_
  intro x S Y hxl
  subst hxl
  refine k_lload0 S dJ9_floorDiv_f86c9_0 (n := 1) rfl ?_
  refine k_lload2 S dJ9_floorDiv_f86c9_1 (n := 2) rfl ?_
  refine k_ldiv S dJ9_floorDiv_f86c9_2 h0 (n := 3) rfl ?_
  refine k_lstore4 S dJ9_floorDiv_f86c9_3 (by decide) rfl (n := 5) rfl ?_
  refine k_lload0 S dJ9_floorDiv_f86c9_5 (n := 6) rfl ?_
  refine k_lload2 S dJ9_floorDiv_f86c9_6 (n := 7) rfl ?_
  refine k_lxor S dJ9_floorDiv_f86c9_7 (n := 8) rfl ?_
  refine k_lconst S dJ9_floorDiv_f86c9_8 (v := 0) (by decide) (n := 9) rfl ?_
  refine k_lcmp S dJ9_floorDiv_f86c9_9 (n := 10) rfl ?_
  refine k_if_ge S dJ9_floorDiv_f86c9_10 (tgt := 27) (by decide) (n := 13) rfl (fun c1 => ?_) (fun c1 => ?_)
  ·
    refine k_lload4 S dJ9_floorDiv_f86c9_27 (n := 29) rfl ?_
    exact k_lret S Y dJ9_floorDiv_f86c9_29 (by decide) (by decide) (⟨by first | rw [zfdL, if_pos c1] | rw [zfdL, if_neg c1, if_pos c2], rfl⟩)
  ·
    refine k_lload4 S dJ9_floorDiv_f86c9_13 (n := 15) rfl ?_
    refine k_lload2 S dJ9_floorDiv_f86c9_15 (n := 16) rfl ?_
    refine k_lmul S dJ9_floorDiv_f86c9_16 (n := 17) rfl ?_
    refine k_lload0 S dJ9_floorDiv_f86c9_17 (n := 18) rfl ?_
    refine k_lcmp S dJ9_floorDiv_f86c9_18 (n := 19) rfl ?_
    refine k_if_eq S dJ9_floorDiv_f86c9_19 (tgt := 27) (by decide) (n := 22) rfl (fun c2 => ?_) (fun c2 => ?_)
    ·
      refine k_lload4 S dJ9_floorDiv_f86c9_27 (n := 29) rfl ?_
      exact k_lret S Y dJ9_floorDiv_f86c9_29 (by decide) (by decide) (⟨by first | rw [zfdL, if_pos c1] | rw [zfdL, if_neg c1, if_pos c2], rfl⟩)
    ·
      refine k_lload4 S dJ9_floorDiv_f86c9_22 (n := 24) rfl ?_
      refine k_lconst S dJ9_floorDiv_f86c9_24 (v := 1) (by decide) (n := 25) rfl ?_
      refine k_lsub S dJ9_floorDiv_f86c9_25 (n := 26) rfl ?_
      exact k_lret S Y dJ9_floorDiv_f86c9_26 (by decide) (by decide) (⟨by rw [zfdL, if_neg c1, if_neg c2], rfl⟩)
set_option maxRecDepth 100000 in
set_option maxHeartbeats 4000000 in
theorem c_J9_max_7cf53 {l : Launch} {g : zG} {a b : Int32} {μ : zM} : zC l g yJ9_max_7cf53 cJ9_max_7cf53 2 (some .int) ({ frames := 0, cells := 0, slots := 0, locals := 0 } : Room) 0 0 [.int a, .int b] μ (zRv (some (.int (zmax a b))) μ) zNX := by
  refine zC_of (L0 := [some (.int a), some (.int b)]) (by decide +kernel) (Nat.le_of_ble_eq_true rfl) rfl ?_
  intro x S Y hxl
  subst hxl
  refine k_iload0 S dJ9_max_7cf53_0 (n := 1) rfl ?_
  refine k_iload1 S dJ9_max_7cf53_1 (n := 2) rfl ?_
  have hJ2 : zK x g ({ frames := 0, cells := 0, slots := 0, locals := 0 } : Room) 2 0 0 10 [some (.int a), some (.int b)] [.int ((if a < b then b else a))] μ := by
    exact k_iret S Y dJ9_max_7cf53_10 (by decide) (by decide) rfl (⟨rfl, rfl⟩)
  refine k_icmp_lt S dJ9_max_7cf53_2 (tgt := 9) (by decide) (n := 5) rfl (fun c1 => ?_) (fun c1 => ?_)
  ·
    refine k_iload1 S dJ9_max_7cf53_9 (n := 10) rfl ?_
    rw [if_pos c1] at hJ2
    exact hJ2
  ·
    refine k_iload0 S dJ9_max_7cf53_5 (n := 6) rfl ?_
    refine k_goto S dJ9_max_7cf53_6 (tgt := 10) (by decide) ?_
    rw [if_neg c1] at hJ2
    exact hJ2
set_option maxRecDepth 100000 in
set_option maxHeartbeats 4000000 in
theorem c_J9_min_7cf53 {l : Launch} {g : zG} {a b : Int32} {μ : zM} : zC l g yJ9_min_7cf53 cJ9_min_7cf53 2 (some .int) ({ frames := 0, cells := 0, slots := 0, locals := 0 } : Room) 0 0 [.int a, .int b] μ (zRv (some (.int (zmin a b))) μ) zNX := by
  refine zC_of (L0 := [some (.int a), some (.int b)]) (by decide +kernel) (Nat.le_of_ble_eq_true rfl) rfl ?_
  intro x S Y hxl
  subst hxl
  refine k_iload0 S dJ9_min_7cf53_0 (n := 1) rfl ?_
  refine k_iload1 S dJ9_min_7cf53_1 (n := 2) rfl ?_
  have hJ2 : zK x g ({ frames := 0, cells := 0, slots := 0, locals := 0 } : Room) 2 0 0 10 [some (.int a), some (.int b)] [.int ((if b < a then b else a))] μ := by
    exact k_iret S Y dJ9_min_7cf53_10 (by decide) (by decide) rfl (⟨rfl, rfl⟩)
  refine k_icmp_gt S dJ9_min_7cf53_2 (tgt := 9) (by decide) (n := 5) rfl (fun c1 => ?_) (fun c1 => ?_)
  ·
    refine k_iload1 S dJ9_min_7cf53_9 (n := 10) rfl ?_
    rw [if_pos c1] at hJ2
    exact hJ2
  ·
    refine k_iload0 S dJ9_min_7cf53_5 (n := 6) rfl ?_
    refine k_goto S dJ9_min_7cf53_6 (tgt := 10) (by decide) ?_
    rw [if_neg c1] at hJ2
    exact hJ2
set_option maxRecDepth 100000 in
set_option maxHeartbeats 4000000 in
theorem c_J9_min_f86c9 {l : Launch} {g : zG} {a b : Int64} {μ : zM} : zC l g yJ9_min_f86c9 cJ9_min_f86c9 4 (some .long) ({ frames := 0, cells := 0, slots := 0, locals := 0 } : Room) 0 0 [.long a, .long b] μ (zRv (some (.long (zminL a b))) μ) zNX := by
  refine zC_of (L0 := [some (.long a), none, some (.long b), none]) (by decide +kernel) (Nat.le_of_ble_eq_true rfl) rfl ?_
  intro x S Y hxl
  subst hxl
  refine k_lload0 S dJ9_min_f86c9_0 (n := 1) rfl ?_
  refine k_lload2 S dJ9_min_f86c9_1 (n := 2) rfl ?_
  refine k_lcmp S dJ9_min_f86c9_2 (n := 3) rfl ?_
  have hJ2 : zK x g ({ frames := 0, cells := 0, slots := 0, locals := 0 } : Room) 4 0 0 11 [some (.long a), none, some (.long b), none] [.long ((if 0 < (lg_cmp a b) then b else a))] μ := by
    exact k_lret S Y dJ9_min_f86c9_11 (by decide) (by decide) (⟨rfl, rfl⟩)
  refine k_if_gt S dJ9_min_f86c9_3 (tgt := 10) (by decide) (n := 6) rfl (fun c1 => ?_) (fun c1 => ?_)
  ·
    refine k_lload2 S dJ9_min_f86c9_10 (n := 11) rfl ?_
    rw [if_pos c1] at hJ2
    exact hJ2
  ·
    refine k_lload0 S dJ9_min_f86c9_6 (n := 7) rfl ?_
    refine k_goto S dJ9_min_f86c9_7 (tgt := 11) (by decide) ?_
    rw [if_neg c1] at hJ2
    exact hJ2
set_option maxRecDepth 100000 in
set_option maxHeartbeats 4000000 in
theorem c_X3_direction {l : Launch} {g : zG} {a b : Int32} {μ : zM} : zC l g yX3_direction cX3_direction 2 (some .int) ({ frames := 0, cells := 0, slots := 0, locals := 0 } : Room) 0 0 [.int a, .int b] μ (zRv (some (.int (zdir a b))) μ) zNX := by
  refine zC_of (L0 := [some (.int a), some (.int b)]) (plainFor_of_name (by decide)) (Nat.le_of_ble_eq_true rfl) rfl ?_
  intro x S Y hxl
  subst hxl
  refine k_iload1 S dX3_direction_0 (n := 1) rfl ?_
  refine k_iload0 S dX3_direction_1 (n := 2) rfl ?_
  have hJ2 : zK x g ({ frames := 0, cells := 0, slots := 0, locals := 0 } : Room) 2 0 0 19 [some (.int a), some (.int b)] [.int ((if b ≤ a then (if a ≤ b then (0 : Int32) else (-1 : Int32)) else (1 : Int32)))] μ := by
    exact k_iret S Y dX3_direction_19 (by decide) (by decide) rfl (⟨rfl, rfl⟩)
  refine k_icmp_le S dX3_direction_2 (tgt := 9) (by decide) (n := 5) rfl (fun c1 => ?_) (fun c1 => ?_)
  ·
    refine k_iload1 S dX3_direction_9 (n := 10) rfl ?_
    refine k_iload0 S dX3_direction_10 (n := 11) rfl ?_
    refine k_icmp_ge S dX3_direction_11 (tgt := 18) (by decide) (n := 14) rfl (fun c3 => ?_) (fun c3 => ?_)
    ·
      refine k_iconst S dX3_direction_18 (v := 0) (by decide) (n := 19) rfl ?_
      rw [if_pos c1, if_pos c3] at hJ2
      exact hJ2
    ·
      refine k_iconst S dX3_direction_14 (v := (-1)) (by decide) (n := 15) rfl ?_
      refine k_goto S dX3_direction_15 (tgt := 19) (by decide) ?_
      rw [if_pos c1, if_neg c3] at hJ2
      exact hJ2
  ·
    refine k_iconst S dX3_direction_5 (v := 1) (by decide) (n := 6) rfl ?_
    refine k_goto S dX3_direction_6 (tgt := 19) (by decide) ?_
    rw [if_neg c1] at hJ2
    exact hJ2
set_option maxRecDepth 100000 in
set_option maxHeartbeats 4000000 in
theorem c_X3_isMeasurement {l : Launch} {g : zG} {v : Int32} {μ : zM} : zC l g yX3_isMeasurement cX3_isMeasurement 1 (some .boolean) ({ frames := 0, cells := 0, slots := 0, locals := 0 } : Room) 0 0 [.int v] μ (zRv (some (.int (zme v))) μ) zNX := by
  refine zC_of (L0 := [some (.int v)]) (plainFor_of_name (by decide)) (Nat.le_of_ble_eq_true rfl) rfl ?_
  intro x S Y hxl
  subst hxl
  refine k_iload0 S dX3_isMeasurement_0 (n := 1) rfl ?_
  refine k_sipush S dX3_isMeasurement_1 (v := (-9999)) (by decide) (n := 4) rfl ?_
  have hJ2 : zK x g ({ frames := 0, cells := 0, slots := 0, locals := 0 } : Room) 1 0 0 19 [some (.int v)] [.int ((if v < ((-9999)) then (0 : Int32) else (if 9999 < v then (0 : Int32) else (1 : Int32))))] μ := by
    exact k_iret S Y dX3_isMeasurement_19 (by decide) (by decide) (by repeat' (first | rfl | split)) (⟨rfl, rfl⟩)
  refine k_icmp_lt S dX3_isMeasurement_4 (tgt := 18) (by decide) (n := 7) rfl (fun c1 => ?_) (fun c1 => ?_)
  ·
    refine k_iconst S dX3_isMeasurement_18 (v := 0) (by decide) (n := 19) rfl ?_
    rw [if_pos c1] at hJ2
    exact hJ2
  ·
    refine k_iload0 S dX3_isMeasurement_7 (n := 8) rfl ?_
    refine k_sipush S dX3_isMeasurement_8 (v := 9999) (by decide) (n := 11) rfl ?_
    refine k_icmp_gt S dX3_isMeasurement_11 (tgt := 18) (by decide) (n := 14) rfl (fun c3 => ?_) (fun c3 => ?_)
    ·
      refine k_iconst S dX3_isMeasurement_18 (v := 0) (by decide) (n := 19) rfl ?_
      rw [if_neg c1, if_pos c3] at hJ2
      exact hJ2
    ·
      refine k_iconst S dX3_isMeasurement_14 (v := 1) (by decide) (n := 15) rfl ?_
      refine k_goto S dX3_isMeasurement_15 (tgt := 19) (by decide) ?_
      rw [if_neg c1, if_neg c3] at hJ2
      exact hJ2
set_option maxRecDepth 100000 in
set_option maxHeartbeats 4000000 in
theorem c_X3_floored {l : Launch} {g : zG} {a b : Int64} {μ : zM} : zC l g yX3_floored cX3_floored 4 (some .long) ({ frames := 1, cells := 0, slots := 0, locals := 25 } : Room) 0 0 [.long a, .long b] μ (zRv (some (.long (zfl a b))) μ) zNX := by
  refine zC_of (L0 := [some (.long a), none, some (.long b), none]) (plainFor_of_name (by decide)) (Nat.le_of_ble_eq_true rfl) rfl ?_
  intro x S Y hxl
  subst hxl
  refine k_lload2 S dX3_floored_0 (n := 1) rfl ?_
  refine k_lconst S dX3_floored_1 (v := 0) (by decide) (n := 2) rfl ?_
  refine k_lcmp S dX3_floored_2 (n := 3) rfl ?_
  have hJ1 : zK x g ({ frames := 1, cells := 0, slots := 0, locals := 25 } : Room) 4 0 0 15 [some (.long a), none, some (.long b), none] [.long ((if (lg_cmp b 0) ≤ 0 then (0 : Int64) else zfdL a b))] μ := by
    exact k_lret S Y dX3_floored_15 (by decide) (by decide) (⟨rfl, rfl⟩)
  refine k_if_le S dX3_floored_3 (tgt := 14) (by decide) (n := 6) rfl (fun c1 => ?_) (fun c1 => ?_)
  ·
    refine k_lconst S dX3_floored_14 (v := 0) (by decide) (n := 15) rfl ?_
    rw [if_pos c1] at hJ1
    exact hJ1
  ·
    refine k_lload0 S dX3_floored_6 (n := 7) rfl ?_
    refine k_lload2 S dX3_floored_7 (n := 8) rfl ?_
    refine k_callS (As := [.long a, .long b]) (rest := []) S (c_J9_floorDiv_f86c9 (a := a) (b := b) (zcmp_ne c1)) mv_J9_floorDiv_f86c9 m_397 dX3_floored_8 rfl rfl ⟨by decide, by decide⟩ rfl rfl (Nat.le_of_ble_eq_true rfl) ⟨by decide, by decide⟩ (n := 11) rfl (fun _ _ h => h.elim) (fun v9 ν9 h9 => ?_)
    rw [h9.1, h9.2]
    show zK x g ({ frames := 1, cells := 0, slots := 0, locals := 25 } : Room) 4 0 0 11 [some (.long a), none, some (.long b), none] [.long (zfdL a b)] μ
    refine k_goto S dX3_floored_11 (tgt := 15) (by decide) ?_
    rw [if_neg c1] at hJ1
    exact hJ1
end
section
/-! tables by size and by rule; the long division; a phase's own small methods -/
def zpk (b s k : Int32) : Int32 := ((b <<< ((1 : Int32) &&& 31)) ||| s) &&& (((1 : Int32) <<< (k &&& 31)) - 1)
def zbo (r b : Int32) : Int32 := if b = 0 then 0 else (1 : Int32) <<< (r &&& 31)
theorem zsub2 (j : Nat) : nI (j + 2) - 2 = nI j := by
  have h := pk_sub (a := j + 2) (b := 2) (by omega)
  rwa [Nat.add_sub_cancel] at h
theorem zsub1 (j : Nat) : nI (j + 1) - 1 = nI j := nI_pred j
def zbc1 (a : Int32) : Int32 := a - ((a.toUInt32 >>> (Int32.toUInt32 1 &&& Int32.toUInt32 31)).toInt32 &&& 1431655765)
def zbc2 (a : Int32) : Int32 := (a &&& 858993459) + ((a.toUInt32 >>> (Int32.toUInt32 2 &&& Int32.toUInt32 31)).toInt32 &&& 858993459)
def zbc3 (a : Int32) : Int32 := (a + (a.toUInt32 >>> (Int32.toUInt32 4 &&& Int32.toUInt32 31)).toInt32) &&& 252645135
def zbc4 (a : Int32) : Int32 := a + (a.toUInt32 >>> (Int32.toUInt32 8 &&& Int32.toUInt32 31)).toInt32
def zbc5 (a : Int32) : Int32 := a + (a.toUInt32 >>> (Int32.toUInt32 16 &&& Int32.toUInt32 31)).toInt32
def zbc (a : Int32) : Int32 := zbc5 (zbc4 (zbc3 (zbc2 (zbc1 a)))) &&& 63
set_option maxRecDepth 100000 in
set_option maxHeartbeats 4000000 in
theorem c_X3_rounded {l : Launch} {g : zG} {a b : Int64} {μ : zM} : zC l g yX3_rounded cX3_rounded 4 (some .long) ({ frames := 2, cells := 0, slots := 0, locals := 48 } : Room) 0 0 [.long a, .long b] μ (zRv (some (.long (zrd a b))) μ) zNX := by
  refine zC_of (L0 := [some (.long a), none, some (.long b), none]) (plainFor_of_name (by decide)) (Nat.le_of_ble_eq_true rfl) rfl ?_
  intro x S Y hxl
  subst hxl
  refine k_ldc2 S dX3_rounded_0 (v := 2) m_393 (n := 3) rfl ?_
  refine k_lload0 S dX3_rounded_3 (n := 4) rfl ?_
  refine k_lmul S dX3_rounded_4 (n := 5) rfl ?_
  refine k_lload2 S dX3_rounded_5 (n := 6) rfl ?_
  refine k_ladd S dX3_rounded_6 (n := 7) rfl ?_
  refine k_ldc2 S dX3_rounded_7 (v := 2) m_393 (n := 10) rfl ?_
  refine k_lload2 S dX3_rounded_10 (n := 11) rfl ?_
  refine k_lmul S dX3_rounded_11 (n := 12) rfl ?_
  refine k_callS (As := [.long ((2 * a) + b), .long (2 * b)]) (rest := []) S (c_X3_floored) mv_X3_floored m_394 dX3_rounded_12 rfl rfl ⟨by decide, by decide⟩ rfl rfl (Nat.le_of_ble_eq_true rfl) ⟨by decide, by decide⟩ (n := 15) rfl (fun _ _ h => h.elim) (fun v9 ν9 h9 => ?_)
  rw [h9.1, h9.2]
  show zK x g ({ frames := 2, cells := 0, slots := 0, locals := 48 } : Room) 4 0 0 15 [some (.long a), none, some (.long b), none] [.long (zfl ((2 * a) + b) (2 * b))] μ
  exact k_lret S Y dX3_rounded_15 (by decide) (by decide) (⟨rfl, rfl⟩)
set_option maxRecDepth 100000 in
set_option maxHeartbeats 4000000 in
theorem c_X3_bySize0 {l : Launch} {g : zG} {j : Nat} {μ : zM} (hj : j < 5) : zC l g yX3_bySize cX3_bySize 3 (some .int) ({ frames := 0, cells := 0, slots := 0, locals := 0 } : Room) 0 0 [.ref (zt g 0), .int (nI (j + 2))] μ (zRv (some (.int (zTab 0 j))) μ) zNX := by
  refine zC_of (L0 := [some (.ref (zt g 0)), some (.int (nI (j + 2))), none]) (plainFor_of_name (by decide)) (Nat.le_of_ble_eq_true rfl) rfl ?_
  intro x S Y hxl
  subst hxl
  refine k_iload1 S dX3_bySize_0 (n := 1) rfl ?_
  refine k_iconst S dX3_bySize_1 (v := 2) (by decide) (n := 2) rfl ?_
  refine k_isub S dX3_bySize_2 (n := 3) rfl ?_
  refine k_istore2 S dX3_bySize_3 (by decide) rfl (n := 4) rfl ?_
  refine k_iload2 S dX3_bySize_4 (n := 5) rfl ?_
  refine k_if_lt S dX3_bySize_5 (tgt := 20) (by decide) (n := 8) rfl (fun h9 => absurd h9 (by rw [zsub2]; exact nI_pos (by omega))) (fun _ => ?_)
  refine k_iload2 S dX3_bySize_8 (n := 9) rfl ?_
  refine k_aload0 S dX3_bySize_9 (n := 10) rfl ?_
  refine k_tlen S dX3_bySize_10 (i := 0) (v := 5) (by decide) (by decide) (n := 11) rfl ?_
  refine k_icmp_ge S dX3_bySize_11 (tgt := 20) (by decide) (n := 14) rfl (fun h9 => absurd h9 (by rw [zsub2]; exact fun q => absurd ((nI_leI (by omega) (by omega)).mp (show nI 5 ≤ nI j from q)) (by omega))) (fun _ => ?_)
  refine k_aload0 S dX3_bySize_14 (n := 15) rfl ?_
  refine k_iload2 S dX3_bySize_15 (n := 16) rfl ?_
  refine k_tald S dX3_bySize_16 (i := 0) (j := j) (by decide) (zsub2 j) (show j < 5 from hj) (by decide) (n := 17) rfl ?_
  refine k_goto S dX3_bySize_17 (tgt := 21) (by decide) ?_
  exact k_iret S Y dX3_bySize_21 (by decide) (by decide) rfl (⟨rfl, rfl⟩)
set_option maxRecDepth 100000 in
set_option maxHeartbeats 4000000 in
theorem c_X3_bySize1 {l : Launch} {g : zG} {j : Nat} {μ : zM} (hj : j < 5) : zC l g yX3_bySize cX3_bySize 3 (some .int) ({ frames := 0, cells := 0, slots := 0, locals := 0 } : Room) 0 0 [.ref (zt g 1), .int (nI (j + 2))] μ (zRv (some (.int (zTab 1 j))) μ) zNX := by
  refine zC_of (L0 := [some (.ref (zt g 1)), some (.int (nI (j + 2))), none]) (plainFor_of_name (by decide)) (Nat.le_of_ble_eq_true rfl) rfl ?_
  intro x S Y hxl
  subst hxl
  refine k_iload1 S dX3_bySize_0 (n := 1) rfl ?_
  refine k_iconst S dX3_bySize_1 (v := 2) (by decide) (n := 2) rfl ?_
  refine k_isub S dX3_bySize_2 (n := 3) rfl ?_
  refine k_istore2 S dX3_bySize_3 (by decide) rfl (n := 4) rfl ?_
  refine k_iload2 S dX3_bySize_4 (n := 5) rfl ?_
  refine k_if_lt S dX3_bySize_5 (tgt := 20) (by decide) (n := 8) rfl (fun h9 => absurd h9 (by rw [zsub2]; exact nI_pos (by omega))) (fun _ => ?_)
  refine k_iload2 S dX3_bySize_8 (n := 9) rfl ?_
  refine k_aload0 S dX3_bySize_9 (n := 10) rfl ?_
  refine k_tlen S dX3_bySize_10 (i := 1) (v := 5) (by decide) (by decide) (n := 11) rfl ?_
  refine k_icmp_ge S dX3_bySize_11 (tgt := 20) (by decide) (n := 14) rfl (fun h9 => absurd h9 (by rw [zsub2]; exact fun q => absurd ((nI_leI (by omega) (by omega)).mp (show nI 5 ≤ nI j from q)) (by omega))) (fun _ => ?_)
  refine k_aload0 S dX3_bySize_14 (n := 15) rfl ?_
  refine k_iload2 S dX3_bySize_15 (n := 16) rfl ?_
  refine k_tald S dX3_bySize_16 (i := 1) (j := j) (by decide) (zsub2 j) (show j < 5 from hj) (by decide) (n := 17) rfl ?_
  refine k_goto S dX3_bySize_17 (tgt := 21) (by decide) ?_
  exact k_iret S Y dX3_bySize_21 (by decide) (by decide) rfl (⟨rfl, rfl⟩)
set_option maxRecDepth 100000 in
set_option maxHeartbeats 4000000 in
theorem c_X3_bySize2 {l : Launch} {g : zG} {j : Nat} {μ : zM} (hj : j < 5) : zC l g yX3_bySize cX3_bySize 3 (some .int) ({ frames := 0, cells := 0, slots := 0, locals := 0 } : Room) 0 0 [.ref (zt g 2), .int (nI (j + 2))] μ (zRv (some (.int (zTab 2 j))) μ) zNX := by
  refine zC_of (L0 := [some (.ref (zt g 2)), some (.int (nI (j + 2))), none]) (plainFor_of_name (by decide)) (Nat.le_of_ble_eq_true rfl) rfl ?_
  intro x S Y hxl
  subst hxl
  refine k_iload1 S dX3_bySize_0 (n := 1) rfl ?_
  refine k_iconst S dX3_bySize_1 (v := 2) (by decide) (n := 2) rfl ?_
  refine k_isub S dX3_bySize_2 (n := 3) rfl ?_
  refine k_istore2 S dX3_bySize_3 (by decide) rfl (n := 4) rfl ?_
  refine k_iload2 S dX3_bySize_4 (n := 5) rfl ?_
  refine k_if_lt S dX3_bySize_5 (tgt := 20) (by decide) (n := 8) rfl (fun h9 => absurd h9 (by rw [zsub2]; exact nI_pos (by omega))) (fun _ => ?_)
  refine k_iload2 S dX3_bySize_8 (n := 9) rfl ?_
  refine k_aload0 S dX3_bySize_9 (n := 10) rfl ?_
  refine k_tlen S dX3_bySize_10 (i := 2) (v := 5) (by decide) (by decide) (n := 11) rfl ?_
  refine k_icmp_ge S dX3_bySize_11 (tgt := 20) (by decide) (n := 14) rfl (fun h9 => absurd h9 (by rw [zsub2]; exact fun q => absurd ((nI_leI (by omega) (by omega)).mp (show nI 5 ≤ nI j from q)) (by omega))) (fun _ => ?_)
  refine k_aload0 S dX3_bySize_14 (n := 15) rfl ?_
  refine k_iload2 S dX3_bySize_15 (n := 16) rfl ?_
  refine k_tald S dX3_bySize_16 (i := 2) (j := j) (by decide) (zsub2 j) (show j < 5 from hj) (by decide) (n := 17) rfl ?_
  refine k_goto S dX3_bySize_17 (tgt := 21) (by decide) ?_
  exact k_iret S Y dX3_bySize_21 (by decide) (by decide) rfl (⟨rfl, rfl⟩)
set_option maxRecDepth 100000 in
set_option maxHeartbeats 4000000 in
theorem c_X3_pointsOfRule {l : Launch} {g : zG} {j : Nat} {μ : zM} (hj : j < 8) : zC l g yX3_pointsOfRule cX3_pointsOfRule 1 (some .int) ({ frames := 0, cells := 0, slots := 0, locals := 0 } : Room) 0 0 [.int (nI (j + 1))] μ (zRv (some (.int (zTab 3 j))) μ) zNX := by
  refine zC_of (L0 := [some (.int (nI (j + 1)))]) (plainFor_of_name (by decide)) (Nat.le_of_ble_eq_true rfl) rfl ?_
  intro x S Y hxl
  subst hxl
  refine k_iload0 S dX3_pointsOfRule_0 (n := 1) rfl ?_
  refine k_iconst S dX3_pointsOfRule_1 (v := 1) (by decide) (n := 2) rfl ?_
  refine k_icmp_lt S dX3_pointsOfRule_2 (tgt := 23) (by decide) (n := 5) rfl (fun h9 => absurd h9 (fun q => absurd ((nI_ltI (by omega) (by omega)).mp (show nI (j + 1) < nI 1 from q)) (by omega))) (fun _ => ?_)
  refine k_iload0 S dX3_pointsOfRule_5 (n := 6) rfl ?_
  refine k_gets S dX3_pointsOfRule_6 (i := 3) (by decide) m_260 (n := 9) rfl ?_
  refine k_tlen S dX3_pointsOfRule_9 (i := 3) (v := 8) (by decide) (by decide) (n := 10) rfl ?_
  refine k_icmp_gt S dX3_pointsOfRule_10 (tgt := 23) (by decide) (n := 13) rfl (fun h9 => absurd h9 (fun q => absurd ((nI_ltI (by omega) (by omega)).mp (show nI 8 < nI (j + 1) from q)) (by omega))) (fun _ => ?_)
  refine k_gets S dX3_pointsOfRule_13 (i := 3) (by decide) m_260 (n := 16) rfl ?_
  refine k_iload0 S dX3_pointsOfRule_16 (n := 17) rfl ?_
  refine k_iconst S dX3_pointsOfRule_17 (v := 1) (by decide) (n := 18) rfl ?_
  refine k_isub S dX3_pointsOfRule_18 (n := 19) rfl ?_
  refine k_tald S dX3_pointsOfRule_19 (i := 3) (j := j) (by decide) (zsub1 j) (show j < 8 from hj) (by decide) (n := 20) rfl ?_
  refine k_goto S dX3_pointsOfRule_20 (tgt := 24) (by decide) ?_
  exact k_iret S Y dX3_pointsOfRule_24 (by decide) (by decide) rfl (⟨rfl, rfl⟩)
set_option maxRecDepth 100000 in
set_option maxHeartbeats 4000000 in
theorem c_X1_pushed {l : Launch} {g : zG} {a b c : Int32} {μ : zM} : zC l g yX1_pushed cX1_pushed 3 (some .int) ({ frames := 0, cells := 0, slots := 0, locals := 0 } : Room) 0 0 [.int a, .int b, .int c] μ (zRv (some (.int (zpk a (if b = 0 then 0 else 1) c)) ) μ) zNX := by
  refine zC_of (L0 := [some (.int a), some (.int b), some (.int c)]) (plainFor_of_name (by decide)) (Nat.le_of_ble_eq_true rfl) rfl ?_
  intro x S Y hxl
  subst hxl
  refine k_iload0 S dX1_pushed_0 (n := 1) rfl ?_
  refine k_iconst S dX1_pushed_1 (v := 1) (by decide) (n := 2) rfl ?_
  refine k_ishl S dX1_pushed_2 (n := 3) rfl ?_
  refine k_iload1 S dX1_pushed_3 (n := 4) rfl ?_
  have hJ2 : zK x g ({ frames := 0, cells := 0, slots := 0, locals := 0 } : Room) 3 0 0 12 [some (.int a), some (.int b), some (.int c)] [.int ((if b = 0 then (0 : Int32) else (1 : Int32))), .int (a <<< (1 &&& 31))] μ := by
    refine k_ior S dX1_pushed_12 (n := 13) rfl ?_
    refine k_iconst S dX1_pushed_13 (v := 1) (by decide) (n := 14) rfl ?_
    refine k_iload2 S dX1_pushed_14 (n := 15) rfl ?_
    refine k_ishl S dX1_pushed_15 (n := 16) rfl ?_
    refine k_iconst S dX1_pushed_16 (v := 1) (by decide) (n := 17) rfl ?_
    refine k_isub S dX1_pushed_17 (n := 18) rfl ?_
    refine k_iand S dX1_pushed_18 (n := 19) rfl ?_
    exact k_iret S Y dX1_pushed_19 (by decide) (by decide) rfl (⟨rfl, rfl⟩)
  refine k_if_eq S dX1_pushed_4 (tgt := 11) (by decide) (n := 7) rfl (fun c1 => ?_) (fun c1 => ?_)
  ·
    refine k_iconst S dX1_pushed_11 (v := 0) (by decide) (n := 12) rfl ?_
    rw [if_pos c1] at hJ2
    exact hJ2
  ·
    refine k_iconst S dX1_pushed_7 (v := 1) (by decide) (n := 8) rfl ?_
    refine k_goto S dX1_pushed_8 (tgt := 12) (by decide) ?_
    rw [if_neg c1] at hJ2
    exact hJ2
set_option maxRecDepth 100000 in
set_option maxHeartbeats 4000000 in
theorem c_X1_bitOf {l : Launch} {g : zG} {a b : Int32} {μ : zM} : zC l g yX1_bitOf cX1_bitOf 2 (some .int) ({ frames := 0, cells := 0, slots := 0, locals := 0 } : Room) 0 0 [.int a, .int b] μ (zRv (some (.int (zbo a b))) μ) zNX := by
  refine zC_of (L0 := [some (.int a), some (.int b)]) (plainFor_of_name (by decide)) (Nat.le_of_ble_eq_true rfl) rfl ?_
  intro x S Y hxl
  subst hxl
  refine k_iload1 S dX1_bitOf_0 (n := 1) rfl ?_
  have hJ2 : zK x g ({ frames := 0, cells := 0, slots := 0, locals := 0 } : Room) 2 0 0 11 [some (.int a), some (.int b)] [.int ((if b = 0 then (0 : Int32) else 1 <<< (a &&& 31)))] μ := by
    exact k_iret S Y dX1_bitOf_11 (by decide) (by decide) rfl (⟨rfl, rfl⟩)
  refine k_if_eq S dX1_bitOf_1 (tgt := 10) (by decide) (n := 4) rfl (fun c1 => ?_) (fun c1 => ?_)
  ·
    refine k_iconst S dX1_bitOf_10 (v := 0) (by decide) (n := 11) rfl ?_
    rw [if_pos c1] at hJ2
    exact hJ2
  ·
    refine k_iconst S dX1_bitOf_4 (v := 1) (by decide) (n := 5) rfl ?_
    refine k_iload0 S dX1_bitOf_5 (n := 6) rfl ?_
    refine k_ishl S dX1_bitOf_6 (n := 7) rfl ?_
    refine k_goto S dX1_bitOf_7 (tgt := 11) (by decide) ?_
    rw [if_neg c1] at hJ2
    exact hJ2
set_option maxRecDepth 100000 in
set_option maxHeartbeats 4000000 in
theorem c_J6_bitCount_0f7a4 {l : Launch} {g : zG} {a : Int32} {μ : zM} : zC l g yJ6_bitCount_0f7a4 cJ6_bitCount_0f7a4 1 (some .int) ({ frames := 0, cells := 0, slots := 0, locals := 0 } : Room) 0 0 [.int a] μ (zRv (some (.int (zbc a))) μ) zNX := by
  refine zC_of (L0 := [some (.int a)]) (by decide +kernel) (Nat.le_of_ble_eq_true rfl) rfl ?_
  intro x S Y hxl
  subst hxl
  refine k_iload0 S dJ6_bitCount_0f7a4_0 (n := 1) rfl ?_
  refine k_iload0 S dJ6_bitCount_0f7a4_1 (n := 2) rfl ?_
  refine k_iconst S dJ6_bitCount_0f7a4_2 (v := 1) (by decide) (n := 3) rfl ?_
  refine k_iushr S dJ6_bitCount_0f7a4_3 rfl (n := 4) rfl ?_
  refine k_ldcw S dJ6_bitCount_0f7a4_4 (v := 1431655765) m_268 (n := 7) rfl ?_
  refine k_iand S dJ6_bitCount_0f7a4_7 (n := 8) rfl ?_
  refine k_isub S dJ6_bitCount_0f7a4_8 (n := 9) rfl ?_
  refine k_istore0 S dJ6_bitCount_0f7a4_9 (by decide) (n := 10) rfl ?_
  refine k_iload0 S dJ6_bitCount_0f7a4_10 (n := 11) rfl ?_
  refine k_ldcw S dJ6_bitCount_0f7a4_11 (v := 858993459) m_269 (n := 14) rfl ?_
  refine k_iand S dJ6_bitCount_0f7a4_14 (n := 15) rfl ?_
  refine k_iload0 S dJ6_bitCount_0f7a4_15 (n := 16) rfl ?_
  refine k_iconst S dJ6_bitCount_0f7a4_16 (v := 2) (by decide) (n := 17) rfl ?_
  refine k_iushr S dJ6_bitCount_0f7a4_17 rfl (n := 18) rfl ?_
  refine k_ldcw S dJ6_bitCount_0f7a4_18 (v := 858993459) m_269 (n := 21) rfl ?_
  refine k_iand S dJ6_bitCount_0f7a4_21 (n := 22) rfl ?_
  refine k_iadd S dJ6_bitCount_0f7a4_22 (n := 23) rfl ?_
  refine k_istore0 S dJ6_bitCount_0f7a4_23 (by decide) (n := 24) rfl ?_
  refine k_iload0 S dJ6_bitCount_0f7a4_24 (n := 25) rfl ?_
  refine k_iload0 S dJ6_bitCount_0f7a4_25 (n := 26) rfl ?_
  refine k_iconst S dJ6_bitCount_0f7a4_26 (v := 4) (by decide) (n := 27) rfl ?_
  refine k_iushr S dJ6_bitCount_0f7a4_27 rfl (n := 28) rfl ?_
  refine k_iadd S dJ6_bitCount_0f7a4_28 (n := 29) rfl ?_
  refine k_ldcw S dJ6_bitCount_0f7a4_29 (v := 252645135) m_270 (n := 32) rfl ?_
  refine k_iand S dJ6_bitCount_0f7a4_32 (n := 33) rfl ?_
  refine k_istore0 S dJ6_bitCount_0f7a4_33 (by decide) (n := 34) rfl ?_
  refine k_iload0 S dJ6_bitCount_0f7a4_34 (n := 35) rfl ?_
  refine k_iload0 S dJ6_bitCount_0f7a4_35 (n := 36) rfl ?_
  refine k_bipush S dJ6_bitCount_0f7a4_36 (v := 8) (by decide) (n := 38) rfl ?_
  refine k_iushr S dJ6_bitCount_0f7a4_38 rfl (n := 39) rfl ?_
  refine k_iadd S dJ6_bitCount_0f7a4_39 (n := 40) rfl ?_
  refine k_istore0 S dJ6_bitCount_0f7a4_40 (by decide) (n := 41) rfl ?_
  refine k_iload0 S dJ6_bitCount_0f7a4_41 (n := 42) rfl ?_
  refine k_iload0 S dJ6_bitCount_0f7a4_42 (n := 43) rfl ?_
  refine k_bipush S dJ6_bitCount_0f7a4_43 (v := 16) (by decide) (n := 45) rfl ?_
  refine k_iushr S dJ6_bitCount_0f7a4_45 rfl (n := 46) rfl ?_
  refine k_iadd S dJ6_bitCount_0f7a4_46 (n := 47) rfl ?_
  refine k_istore0 S dJ6_bitCount_0f7a4_47 (by decide) (n := 48) rfl ?_
  refine k_iload0 S dJ6_bitCount_0f7a4_48 (n := 49) rfl ?_
  refine k_bipush S dJ6_bitCount_0f7a4_49 (v := 63) (by decide) (n := 51) rfl ?_
  refine k_iand S dJ6_bitCount_0f7a4_51 (n := 52) rfl ?_
  exact k_iret S Y dJ6_bitCount_0f7a4_52 (by decide) (by decide) rfl (⟨rfl, rfl⟩)
set_option maxRecDepth 100000 in
set_option maxHeartbeats 4000000 in
theorem c_X0_sideOfCenter {l : Launch} {g : zG} {k : Nat} {μ : zM} {a : Int32} (hk : k < 10) : zC l g yX0_sideOfCenter cX0_sideOfCenter 2 (some .int) ({ frames := 1, cells := 0, slots := 0, locals := 21 } : Room) 0 0 [.ref (za g (11 + k)), .int a] μ (zRv (some (.int (zdir (μ.1 (11 + k) 5) a))) μ) zNX := by
  refine zC_of (L0 := [some (.ref (za g (11 + k))), some (.int a)]) (plainFor_of_name (by decide)) (Nat.le_of_ble_eq_true rfl) rfl ?_
  intro x S Y hxl
  subst hxl
  refine k_aload0 S dX0_sideOfCenter_0 (n := 1) rfl ?_
  refine k_geti (T := TX0) (j := 5) S dX0_sideOfCenter_1 (zlt S (by omega)) (zki_ph hk) (ci := 0) rfl rfl (by decide) in_0 m_39 rfl rfl (n := 4) rfl ?_
  refine k_iload1 S dX0_sideOfCenter_4 (n := 5) rfl ?_
  refine k_callSN (As := [.int (μ.1 (11 + k) 5), .int a]) (rest := []) (host := RX3) S (c_X3_direction) mv_X3_direction (by decide +kernel) dX0_sideOfCenter_5 rfl rfl ⟨by decide, by decide⟩ rfl rfl (Nat.le_of_ble_eq_true rfl) ⟨by decide, by decide⟩ (n := 8) rfl (fun _ _ h => h.elim) (fun v9 ν9 h9 => ?_)
  rw [h9.1, h9.2]
  show zK x g ({ frames := 1, cells := 0, slots := 0, locals := 21 } : Room) 2 0 0 8 [some (.ref (za g (11 + k))), some (.int a)] [.int (zdir (μ.1 (11 + k) 5) a)] μ
  exact k_iret S Y dX0_sideOfCenter_8 (by decide) (by decide) rfl (⟨rfl, rfl⟩)
set_option maxRecDepth 100000 in
set_option maxHeartbeats 4000000 in
theorem c_X0_sideBeyond {l : Launch} {g : zG} {k : Nat} {μ : zM} {a b : Int32} (hk : k < 10) : zC l g yX0_sideBeyond cX0_sideBeyond 3 (some .int) ({ frames := 0, cells := 0, slots := 0, locals := 0 } : Room) 0 0 [.ref (za g (11 + k)), .int a, .int b] μ (zRv (some (.int (zsb a (μ.1 (11 + k) 5) (μ.1 (11 + k) 7) b))) μ) zNX := by
  refine zC_of (L0 := [some (.ref (za g (11 + k))), some (.int a), some (.int b)]) (plainFor_of_name (by decide)) (Nat.le_of_ble_eq_true rfl) rfl ?_
  intro x S Y hxl
  subst hxl
  refine k_iconst S dX0_sideBeyond_0 (v := 3) (by decide) (n := 1) rfl ?_
  refine k_iload1 S dX0_sideBeyond_1 (n := 2) rfl ?_
  refine k_aload0 S dX0_sideBeyond_2 (n := 3) rfl ?_
  refine k_geti (T := TX0) (j := 5) S dX0_sideBeyond_3 (zlt S (by omega)) (zki_ph hk) (ci := 0) rfl rfl (by decide) in_0 m_39 rfl rfl (n := 6) rfl ?_
  refine k_isub S dX0_sideBeyond_6 (n := 7) rfl ?_
  refine k_imul S dX0_sideBeyond_7 (n := 8) rfl ?_
  refine k_iload2 S dX0_sideBeyond_8 (n := 9) rfl ?_
  refine k_aload0 S dX0_sideBeyond_9 (n := 10) rfl ?_
  refine k_geti (T := TX0) (j := 7) S dX0_sideBeyond_10 (zlt S (by omega)) (zki_ph hk) (ci := 0) rfl rfl (by decide) in_0 m_43 rfl rfl (n := 13) rfl ?_
  refine k_imul S dX0_sideBeyond_13 (n := 14) rfl ?_
  refine k_icmp_le S dX0_sideBeyond_14 (tgt := 19) (by decide) (n := 17) rfl (fun c1 => ?_) (fun c1 => ?_)
  ·
    refine k_iconst S dX0_sideBeyond_19 (v := 3) (by decide) (n := 20) rfl ?_
    refine k_aload0 S dX0_sideBeyond_20 (n := 21) rfl ?_
    refine k_geti (T := TX0) (j := 5) S dX0_sideBeyond_21 (zlt S (by omega)) (zki_ph hk) (ci := 0) rfl rfl (by decide) in_0 m_39 rfl rfl (n := 24) rfl ?_
    refine k_iload1 S dX0_sideBeyond_24 (n := 25) rfl ?_
    refine k_isub S dX0_sideBeyond_25 (n := 26) rfl ?_
    refine k_imul S dX0_sideBeyond_26 (n := 27) rfl ?_
    refine k_iload2 S dX0_sideBeyond_27 (n := 28) rfl ?_
    refine k_aload0 S dX0_sideBeyond_28 (n := 29) rfl ?_
    refine k_geti (T := TX0) (j := 7) S dX0_sideBeyond_29 (zlt S (by omega)) (zki_ph hk) (ci := 0) rfl rfl (by decide) in_0 m_43 rfl rfl (n := 32) rfl ?_
    refine k_imul S dX0_sideBeyond_32 (n := 33) rfl ?_
    have hJ3 : zK x g ({ frames := 0, cells := 0, slots := 0, locals := 0 } : Room) 3 0 0 41 [some (.ref (za g (11 + k))), some (.int a), some (.int b)] [.int ((if (3 * ((μ.1 (11 + k) 5) - a)) ≤ (b * (μ.1 (11 + k) 7)) then (0 : Int32) else (-1 : Int32)))] μ := by
      exact k_iret S Y dX0_sideBeyond_41 (by decide) (by decide) rfl (⟨by first | rw [zsb, if_neg c1] | rw [zsb, if_pos c1], rfl⟩)
    refine k_icmp_le S dX0_sideBeyond_33 (tgt := 40) (by decide) (n := 36) rfl (fun c2 => ?_) (fun c2 => ?_)
    ·
      refine k_iconst S dX0_sideBeyond_40 (v := 0) (by decide) (n := 41) rfl ?_
      rw [if_pos c2] at hJ3
      exact hJ3
    ·
      refine k_iconst S dX0_sideBeyond_36 (v := (-1)) (by decide) (n := 37) rfl ?_
      refine k_goto S dX0_sideBeyond_37 (tgt := 41) (by decide) ?_
      rw [if_neg c2] at hJ3
      exact hJ3
  ·
    refine k_iconst S dX0_sideBeyond_17 (v := 1) (by decide) (n := 18) rfl ?_
    exact k_iret S Y dX0_sideBeyond_18 (by decide) (by decide) rfl (⟨by first | rw [zsb, if_neg c1] | rw [zsb, if_pos c1], rfl⟩)
set_option maxRecDepth 100000 in
set_option maxHeartbeats 4000000 in
theorem c_X0_hasLimits {l : Launch} {g : zG} {k : Nat} {μ : zM} (hk : k < 10) : zC l g yX0_hasLimits cX0_hasLimits 1 (some .boolean) ({ frames := 0, cells := 0, slots := 0, locals := 0 } : Room) 0 0 [.ref (za g (11 + k))] μ (zRv (some (.int (if μ.1 (11 + k) 4 = 0 then (if μ.1 (11 + k) 1 ≤ 0 then 0 else 1) else 1))) μ) zNX := by
  refine zC_of (L0 := [some (.ref (za g (11 + k)))]) (plainFor_of_name (by decide)) (Nat.le_of_ble_eq_true rfl) rfl ?_
  intro x S Y hxl
  subst hxl
  refine k_aload0 S dX0_hasLimits_0 (n := 1) rfl ?_
  refine k_geti (T := TX0) (j := 4) S dX0_hasLimits_1 (zlt S (by omega)) (zki_ph hk) (ci := 0) rfl rfl (by decide) in_0 m_37 rfl rfl (n := 4) rfl ?_
  have hJ2 : zK x g ({ frames := 0, cells := 0, slots := 0, locals := 0 } : Room) 1 0 0 19 [some (.ref (za g (11 + k)))] [.int ((if (μ.1 (11 + k) 4) = 0 then (if (μ.1 (11 + k) 1) ≤ 0 then (0 : Int32) else (1 : Int32)) else (1 : Int32)))] μ := by
    exact k_iret S Y dX0_hasLimits_19 (by decide) (by decide) (by repeat' (first | rfl | split)) (⟨rfl, rfl⟩)
  refine k_if_ne S dX0_hasLimits_4 (tgt := 14) (by decide) (n := 7) rfl (fun c1 => ?_) (fun c1 => ?_)
  ·
    refine k_iconst S dX0_hasLimits_14 (v := 1) (by decide) (n := 15) rfl ?_
    refine k_goto S dX0_hasLimits_15 (tgt := 19) (by decide) ?_
    rw [if_neg c1] at hJ2
    exact hJ2
  ·
    refine k_aload0 S dX0_hasLimits_7 (n := 8) rfl ?_
    refine k_geti (T := TX0) (j := 1) S dX0_hasLimits_8 (zlt S (by omega)) (zki_ph hk) (ci := 0) rfl rfl (by decide) in_0 m_31 rfl rfl (n := 11) rfl ?_
    refine k_if_le S dX0_hasLimits_11 (tgt := 18) (by decide) (n := 14) rfl (fun c3 => ?_) (fun c3 => ?_)
    ·
      refine k_iconst S dX0_hasLimits_18 (v := 0) (by decide) (n := 19) rfl ?_
      rw [if_pos c1, if_pos c3] at hJ2
      exact hJ2
    ·
      refine k_iconst S dX0_hasLimits_14 (v := 1) (by decide) (n := 15) rfl ?_
      refine k_goto S dX0_hasLimits_15 (tgt := 19) (by decide) ?_
      rw [if_pos c1, if_neg c3] at hJ2
      exact hJ2
set_option maxRecDepth 100000 in
set_option maxHeartbeats 4000000 in
theorem c_X0_restart {l : Launch} {g : zG} {k : Nat} {μ : zM} {a : Int32} (hk : k < 10) : zC l g yX0_restart cX0_restart 2 none ({ frames := 0, cells := 0, slots := 0, locals := 0 } : Room) 0 0 [.ref (za g (11 + k)), .int a] μ (zRv none (zset μ (11 + k) (upd (upd (upd (upd (upd (μ.1 (11 + k)) 0 a) 1 0) 2 0) 3 0) 4 0))) zNX := by
  refine zC_of (L0 := [some (.ref (za g (11 + k))), some (.int a)]) (plainFor_of_name (by decide)) (Nat.le_of_ble_eq_true rfl) rfl ?_
  intro x S Y hxl
  subst hxl
  refine k_aload0 S dX0_restart_0 (n := 1) rfl ?_
  refine k_iload1 S dX0_restart_1 (n := 2) rfl ?_
  refine k_put (T := TX0) (j := 0) S dX0_restart_2 (zlt S (by omega)) (zki_ph hk) (ci := 0) rfl rfl (by decide) in_0 m_29 rfl rfl (ty0 := tyX0) tyX0_ok nmX0 rfl rfl rfl (n := 5) rfl ?_
  refine k_aload0 S dX0_restart_5 (n := 6) rfl ?_
  refine k_iconst S dX0_restart_6 (v := 0) (by decide) (n := 7) rfl ?_
  refine k_put (T := TX0) (j := 1) S dX0_restart_7 (zlt S (by omega)) (zki_ph hk) (ci := 0) rfl rfl (by decide) in_0 m_31 rfl rfl (ty0 := tyX0) tyX0_ok nmX0 rfl rfl rfl (n := 10) rfl ?_
  refine k_aload0 S dX0_restart_10 (n := 11) rfl ?_
  refine k_iconst S dX0_restart_11 (v := 0) (by decide) (n := 12) rfl ?_
  refine k_put (T := TX0) (j := 2) S dX0_restart_12 (zlt S (by omega)) (zki_ph hk) (ci := 0) rfl rfl (by decide) in_0 m_33 rfl rfl (ty0 := tyX0) tyX0_ok nmX0 rfl rfl rfl (n := 15) rfl ?_
  refine k_aload0 S dX0_restart_15 (n := 16) rfl ?_
  refine k_iconst S dX0_restart_16 (v := 0) (by decide) (n := 17) rfl ?_
  refine k_put (T := TX0) (j := 3) S dX0_restart_17 (zlt S (by omega)) (zki_ph hk) (ci := 0) rfl rfl (by decide) in_0 m_35 rfl rfl (ty0 := tyX0) tyX0_ok nmX0 rfl rfl rfl (n := 20) rfl ?_
  refine k_aload0 S dX0_restart_20 (n := 21) rfl ?_
  refine k_iconst S dX0_restart_21 (v := 0) (by decide) (n := 22) rfl ?_
  refine k_put (T := TX0) (j := 4) S dX0_restart_22 (zlt S (by omega)) (zki_ph hk) (ci := 0) rfl rfl (by decide) in_0 m_37 rfl rfl (ty0 := tyX0) tyX0_ok nmX0 rfl rfl rfl (n := 25) rfl ?_
  exact k_vret S Y dX0_restart_25 (by decide) (by decide) (⟨rfl, by simp only [zu_set, zset_zset, zset_at]⟩)
end
section
/-! RUNCOUNTS (place 7): its memory is 'zset μ 7 f' throughout; f the row of its 16 numbers -/

set_option maxRecDepth 100000 in
set_option maxHeartbeats 4000000 in
theorem c_X0_side {l : Launch} {g : zG} {k : Nat} {μ : zM} {a ce : Int32} (hk : k < 10) (hc : μ.1 (11 + k) 5 = ce) : zC l g yX0_sideOfCenter cX0_sideOfCenter 2 (some .int) ({ frames := 1, cells := 0, slots := 0, locals := 21 } : Room) 0 0 [.ref (za g (11 + k)), .int a] μ (zRv (some (.int (zdir ce a))) μ) zNX := by
  refine zC_of (L0 := [some (.ref (za g (11 + k))), some (.int a)]) (plainFor_of_name (by decide)) (Nat.le_of_ble_eq_true rfl) rfl ?_
  intro x S Y hxl
  subst hxl
  refine k_aload0 S dX0_sideOfCenter_0 (n := 1) rfl ?_
  refine k_getv (v := ce) (T := TX0) (j := 5) S dX0_sideOfCenter_1 (zlt S (by omega)) (zki_ph hk) (ci := 0) rfl rfl (by decide) in_0 m_39 rfl rfl hc (n := 4) rfl ?_
  refine k_iload1 S dX0_sideOfCenter_4 (n := 5) rfl ?_
  refine k_callSN (As := [.int ce, .int a]) (rest := []) (host := RX3) S (c_X3_direction) mv_X3_direction (by decide +kernel) dX0_sideOfCenter_5 rfl rfl ⟨by decide, by decide⟩ rfl rfl (Nat.le_of_ble_eq_true rfl) ⟨by decide, by decide⟩ (n := 8) rfl (fun _ _ h => h.elim) (fun v9 ν9 h9 => ?_)
  rw [h9.1, h9.2]
  show zK x g ({ frames := 1, cells := 0, slots := 0, locals := 21 } : Room) 2 0 0 8 [some (.ref (za g (11 + k))), some (.int a)] [.int (zdir ce a)] μ
  exact k_iret S Y dX0_sideOfCenter_8 (by decide) (by decide) rfl (⟨rfl, rfl⟩)
set_option maxRecDepth 100000 in
set_option maxHeartbeats 4000000 in
theorem c_X0_beyond {l : Launch} {g : zG} {k : Nat} {μ : zM} {a b ce w : Int32} (hk : k < 10) (hc : μ.1 (11 + k) 5 = ce) (hw : μ.1 (11 + k) 7 = w) : zC l g yX0_sideBeyond cX0_sideBeyond 3 (some .int) ({ frames := 0, cells := 0, slots := 0, locals := 0 } : Room) 0 0 [.ref (za g (11 + k)), .int a, .int b] μ (zRv (some (.int (zsb a ce w b))) μ) zNX := by
  refine zC_of (L0 := [some (.ref (za g (11 + k))), some (.int a), some (.int b)]) (plainFor_of_name (by decide)) (Nat.le_of_ble_eq_true rfl) rfl ?_
  intro x S Y hxl
  subst hxl
  refine k_iconst S dX0_sideBeyond_0 (v := 3) (by decide) (n := 1) rfl ?_
  refine k_iload1 S dX0_sideBeyond_1 (n := 2) rfl ?_
  refine k_aload0 S dX0_sideBeyond_2 (n := 3) rfl ?_
  refine k_getv (v := ce) (T := TX0) (j := 5) S dX0_sideBeyond_3 (zlt S (by omega)) (zki_ph hk) (ci := 0) rfl rfl (by decide) in_0 m_39 rfl rfl hc (n := 6) rfl ?_
  refine k_isub S dX0_sideBeyond_6 (n := 7) rfl ?_
  refine k_imul S dX0_sideBeyond_7 (n := 8) rfl ?_
  refine k_iload2 S dX0_sideBeyond_8 (n := 9) rfl ?_
  refine k_aload0 S dX0_sideBeyond_9 (n := 10) rfl ?_
  refine k_getv (v := w) (T := TX0) (j := 7) S dX0_sideBeyond_10 (zlt S (by omega)) (zki_ph hk) (ci := 0) rfl rfl (by decide) in_0 m_43 rfl rfl hw (n := 13) rfl ?_
  refine k_imul S dX0_sideBeyond_13 (n := 14) rfl ?_
  refine k_icmp_le S dX0_sideBeyond_14 (tgt := 19) (by decide) (n := 17) rfl (fun c1 => ?_) (fun c1 => ?_)
  ·
    refine k_iconst S dX0_sideBeyond_19 (v := 3) (by decide) (n := 20) rfl ?_
    refine k_aload0 S dX0_sideBeyond_20 (n := 21) rfl ?_
    refine k_getv (v := ce) (T := TX0) (j := 5) S dX0_sideBeyond_21 (zlt S (by omega)) (zki_ph hk) (ci := 0) rfl rfl (by decide) in_0 m_39 rfl rfl hc (n := 24) rfl ?_
    refine k_iload1 S dX0_sideBeyond_24 (n := 25) rfl ?_
    refine k_isub S dX0_sideBeyond_25 (n := 26) rfl ?_
    refine k_imul S dX0_sideBeyond_26 (n := 27) rfl ?_
    refine k_iload2 S dX0_sideBeyond_27 (n := 28) rfl ?_
    refine k_aload0 S dX0_sideBeyond_28 (n := 29) rfl ?_
    refine k_getv (v := w) (T := TX0) (j := 7) S dX0_sideBeyond_29 (zlt S (by omega)) (zki_ph hk) (ci := 0) rfl rfl (by decide) in_0 m_43 rfl rfl hw (n := 32) rfl ?_
    refine k_imul S dX0_sideBeyond_32 (n := 33) rfl ?_
    have hJ2 : zK x g ({ frames := 0, cells := 0, slots := 0, locals := 0 } : Room) 3 0 0 41 [some (.ref (za g (11 + k))), some (.int a), some (.int b)] [.int ((if (3 * (ce - a)) ≤ (b * w) then (0 : Int32) else (-1 : Int32)))] μ := by
      exact k_iret S Y dX0_sideBeyond_41 (by decide) (by decide) rfl (⟨by first | rw [zsb, if_neg c1] | rw [zsb, if_pos c1], rfl⟩)
    refine k_icmp_le S dX0_sideBeyond_33 (tgt := 40) (by decide) (n := 36) rfl (fun c1 => ?_) (fun c1 => ?_)
    ·
      refine k_iconst S dX0_sideBeyond_40 (v := 0) (by decide) (n := 41) rfl ?_
      rw [if_pos c1] at hJ2
      exact hJ2
    ·
      refine k_iconst S dX0_sideBeyond_36 (v := (-1)) (by decide) (n := 37) rfl ?_
      refine k_goto S dX0_sideBeyond_37 (tgt := 41) (by decide) ?_
      rw [if_neg c1] at hJ2
      exact hJ2
  ·
    refine k_iconst S dX0_sideBeyond_17 (v := 1) (by decide) (n := 18) rfl ?_
    exact k_iret S Y dX0_sideBeyond_18 (by decide) (by decide) rfl (⟨by first | rw [zsb, if_neg c1] | rw [zsb, if_pos c1], rfl⟩)
def r_X1_restart (f : Nat → Int32)  : Nat → Int32 := (upd (upd (upd (upd (upd (upd (upd (upd (upd (upd (upd (upd (upd (upd (upd (upd f 0 0) 1 0) 2 0) 3 0) 4 0) 5 0) 6 0) 7 0) 8 0) 12 0) 13 0) 14 0) 15 0) 9 0) 10 0) 11 0)
set_option maxRecDepth 100000 in
set_option maxHeartbeats 4000000 in
theorem c_X1_restart {l : Launch} {g : zG} {μ : zM} {f : Nat → Int32}  : zC l g yX1_restart cX1_restart 1 none ({ frames := 0, cells := 0, slots := 0, locals := 0 } : Room) 0 0 [.ref (za g 7)] (zset μ 7 f) (zRv none (zset μ 7 (r_X1_restart f ))) zNX := by
  refine zC_of (L0 := [some (.ref (za g 7))]) (plainFor_of_name (by decide)) (Nat.le_of_ble_eq_true rfl) rfl ?_
  intro x S Y hxl
  subst hxl
  refine k_aload0 S dX1_restart_0 (n := 1) rfl ?_
  refine k_iconst S dX1_restart_1 (v := 0) (by decide) (n := 2) rfl ?_
  refine k_putz (T := TX1) (j := 0) S dX1_restart_2 (zlt S (by decide)) (by decide) (ci := 1) rfl rfl (by decide) in_1 m_73 rfl rfl (ty0 := tyX1) tyX1_ok nmX1 rfl rfl rfl (n := 5) rfl ?_
  refine k_aload0 S dX1_restart_5 (n := 6) rfl ?_
  refine k_iconst S dX1_restart_6 (v := 0) (by decide) (n := 7) rfl ?_
  refine k_putz (T := TX1) (j := 1) S dX1_restart_7 (zlt S (by decide)) (by decide) (ci := 1) rfl rfl (by decide) in_1 m_74 rfl rfl (ty0 := tyX1) tyX1_ok nmX1 rfl rfl rfl (n := 10) rfl ?_
  refine k_aload0 S dX1_restart_10 (n := 11) rfl ?_
  refine k_iconst S dX1_restart_11 (v := 0) (by decide) (n := 12) rfl ?_
  refine k_putz (T := TX1) (j := 2) S dX1_restart_12 (zlt S (by decide)) (by decide) (ci := 1) rfl rfl (by decide) in_1 m_75 rfl rfl (ty0 := tyX1) tyX1_ok nmX1 rfl rfl rfl (n := 15) rfl ?_
  refine k_aload0 S dX1_restart_15 (n := 16) rfl ?_
  refine k_iconst S dX1_restart_16 (v := 0) (by decide) (n := 17) rfl ?_
  refine k_putz (T := TX1) (j := 3) S dX1_restart_17 (zlt S (by decide)) (by decide) (ci := 1) rfl rfl (by decide) in_1 m_76 rfl rfl (ty0 := tyX1) tyX1_ok nmX1 rfl rfl rfl (n := 20) rfl ?_
  refine k_aload0 S dX1_restart_20 (n := 21) rfl ?_
  refine k_iconst S dX1_restart_21 (v := 0) (by decide) (n := 22) rfl ?_
  refine k_putz (T := TX1) (j := 4) S dX1_restart_22 (zlt S (by decide)) (by decide) (ci := 1) rfl rfl (by decide) in_1 m_77 rfl rfl (ty0 := tyX1) tyX1_ok nmX1 rfl rfl rfl (n := 25) rfl ?_
  refine k_aload0 S dX1_restart_25 (n := 26) rfl ?_
  refine k_iconst S dX1_restart_26 (v := 0) (by decide) (n := 27) rfl ?_
  refine k_putz (T := TX1) (j := 5) S dX1_restart_27 (zlt S (by decide)) (by decide) (ci := 1) rfl rfl (by decide) in_1 m_78 rfl rfl (ty0 := tyX1) tyX1_ok nmX1 rfl rfl rfl (n := 30) rfl ?_
  refine k_aload0 S dX1_restart_30 (n := 31) rfl ?_
  refine k_iconst S dX1_restart_31 (v := 0) (by decide) (n := 32) rfl ?_
  refine k_putz (T := TX1) (j := 6) S dX1_restart_32 (zlt S (by decide)) (by decide) (ci := 1) rfl rfl (by decide) in_1 m_79 rfl rfl (ty0 := tyX1) tyX1_ok nmX1 rfl rfl rfl (n := 35) rfl ?_
  refine k_aload0 S dX1_restart_35 (n := 36) rfl ?_
  refine k_iconst S dX1_restart_36 (v := 0) (by decide) (n := 37) rfl ?_
  refine k_putz (T := TX1) (j := 7) S dX1_restart_37 (zlt S (by decide)) (by decide) (ci := 1) rfl rfl (by decide) in_1 m_80 rfl rfl (ty0 := tyX1) tyX1_ok nmX1 rfl rfl rfl (n := 40) rfl ?_
  refine k_aload0 S dX1_restart_40 (n := 41) rfl ?_
  refine k_iconst S dX1_restart_41 (v := 0) (by decide) (n := 42) rfl ?_
  refine k_putz (T := TX1) (j := 8) S dX1_restart_42 (zlt S (by decide)) (by decide) (ci := 1) rfl rfl (by decide) in_1 m_81 rfl rfl (ty0 := tyX1) tyX1_ok nmX1 rfl rfl rfl (n := 45) rfl ?_
  refine k_aload0 S dX1_restart_45 (n := 46) rfl ?_
  refine k_iconst S dX1_restart_46 (v := 0) (by decide) (n := 47) rfl ?_
  refine k_putz (T := TX1) (j := 12) S dX1_restart_47 (zlt S (by decide)) (by decide) (ci := 1) rfl rfl (by decide) in_1 m_85 rfl rfl (ty0 := tyX1) tyX1_ok nmX1 rfl rfl rfl (n := 50) rfl ?_
  refine k_aload0 S dX1_restart_50 (n := 51) rfl ?_
  refine k_iconst S dX1_restart_51 (v := 0) (by decide) (n := 52) rfl ?_
  refine k_putz (T := TX1) (j := 13) S dX1_restart_52 (zlt S (by decide)) (by decide) (ci := 1) rfl rfl (by decide) in_1 m_86 rfl rfl (ty0 := tyX1) tyX1_ok nmX1 rfl rfl rfl (n := 55) rfl ?_
  refine k_aload0 S dX1_restart_55 (n := 56) rfl ?_
  refine k_iconst S dX1_restart_56 (v := 0) (by decide) (n := 57) rfl ?_
  refine k_putz (T := TX1) (j := 14) S dX1_restart_57 (zlt S (by decide)) (by decide) (ci := 1) rfl rfl (by decide) in_1 m_87 rfl rfl (ty0 := tyX1) tyX1_ok nmX1 rfl rfl rfl (n := 60) rfl ?_
  refine k_aload0 S dX1_restart_60 (n := 61) rfl ?_
  refine k_iconst S dX1_restart_61 (v := 0) (by decide) (n := 62) rfl ?_
  refine k_putz (T := TX1) (j := 15) S dX1_restart_62 (zlt S (by decide)) (by decide) (ci := 1) rfl rfl (by decide) in_1 m_88 rfl rfl (ty0 := tyX1) tyX1_ok nmX1 rfl rfl rfl (n := 65) rfl ?_
  refine k_aload0 S dX1_restart_65 (n := 66) rfl ?_
  refine k_iconst S dX1_restart_66 (v := 0) (by decide) (n := 67) rfl ?_
  refine k_putz (T := TX1) (j := 9) S dX1_restart_67 (zlt S (by decide)) (by decide) (ci := 1) rfl rfl (by decide) in_1 m_82 rfl rfl (ty0 := tyX1) tyX1_ok nmX1 rfl rfl rfl (n := 70) rfl ?_
  refine k_aload0 S dX1_restart_70 (n := 71) rfl ?_
  refine k_iconst S dX1_restart_71 (v := 0) (by decide) (n := 72) rfl ?_
  refine k_putz (T := TX1) (j := 10) S dX1_restart_72 (zlt S (by decide)) (by decide) (ci := 1) rfl rfl (by decide) in_1 m_83 rfl rfl (ty0 := tyX1) tyX1_ok nmX1 rfl rfl rfl (n := 75) rfl ?_
  refine k_aload0 S dX1_restart_75 (n := 76) rfl ?_
  refine k_iconst S dX1_restart_76 (v := 0) (by decide) (n := 77) rfl ?_
  refine k_putz (T := TX1) (j := 11) S dX1_restart_77 (zlt S (by decide)) (by decide) (ci := 1) rfl rfl (by decide) in_1 m_84 rfl rfl (ty0 := tyX1) tyX1_ok nmX1 rfl rfl rfl (n := 80) rfl ?_
  exact k_vret S Y dX1_restart_80 (by decide) (by decide) (⟨rfl, rfl⟩)
def r_X1_takeCenterSide (f : Nat → Int32) (a : Int32) : Nat → Int32 := (upd (upd f 4 ((if a = 0 then (0 : Int32) else (if a = (f 3) then (f 4) + 1 else (1 : Int32))))) 3 a)
set_option maxRecDepth 100000 in
set_option maxHeartbeats 4000000 in
theorem c_X1_takeCenterSide {l : Launch} {g : zG} {μ : zM} {f : Nat → Int32} {a : Int32} : zC l g yX1_takeCenterSide cX1_takeCenterSide 2 none ({ frames := 0, cells := 0, slots := 0, locals := 0 } : Room) 0 0 [.ref (za g 7), .int a] (zset μ 7 f) (zRv none (zset μ 7 (r_X1_takeCenterSide f a))) zNX := by
  refine zC_of (L0 := [some (.ref (za g 7)), some (.int a)]) (plainFor_of_name (by decide)) (Nat.le_of_ble_eq_true rfl) rfl ?_
  intro x S Y hxl
  subst hxl
  refine k_aload0 S dX1_takeCenterSide_0 (n := 1) rfl ?_
  refine k_iload1 S dX1_takeCenterSide_1 (n := 2) rfl ?_
  have hJ2 : zK x g ({ frames := 0, cells := 0, slots := 0, locals := 0 } : Room) 2 0 0 27 [some (.ref (za g 7)), some (.int a)] [.int ((if a = 0 then (0 : Int32) else (if a = (f 3) then (f 4) + 1 else (1 : Int32)))), .ref (za g 7)] (zset μ 7 f) := by
    refine k_putz (T := TX1) (j := 4) S dX1_takeCenterSide_27 (zlt S (by decide)) (by decide) (ci := 1) rfl rfl (by decide) in_1 m_77 rfl rfl (ty0 := tyX1) tyX1_ok nmX1 rfl rfl rfl (n := 30) rfl ?_
    refine k_aload0 S dX1_takeCenterSide_30 (n := 31) rfl ?_
    refine k_iload1 S dX1_takeCenterSide_31 (n := 32) rfl ?_
    refine k_putz (T := TX1) (j := 3) S dX1_takeCenterSide_32 (zlt S (by decide)) (by decide) (ci := 1) rfl rfl (by decide) in_1 m_76 rfl rfl (ty0 := tyX1) tyX1_ok nmX1 rfl rfl rfl (n := 35) rfl ?_
    exact k_vret S Y dX1_takeCenterSide_35 (by decide) (by decide) (⟨rfl, rfl⟩)
  refine k_if_ne S dX1_takeCenterSide_2 (tgt := 9) (by decide) (n := 5) rfl (fun c1 => ?_) (fun c1 => ?_)
  ·
    refine k_iload1 S dX1_takeCenterSide_9 (n := 10) rfl ?_
    refine k_aload0 S dX1_takeCenterSide_10 (n := 11) rfl ?_
    refine k_getv (v := f 3) (T := TX1) (j := 3) S dX1_takeCenterSide_11 (zlt S (by decide)) (by decide) (ci := 1) rfl rfl (by decide) in_1 m_76 rfl rfl (by simp [zu, zset, upd]) (n := 14) rfl ?_
    refine k_icmp_ne S dX1_takeCenterSide_14 (tgt := 26) (by decide) (n := 17) rfl (fun c3 => ?_) (fun c3 => ?_)
    ·
      refine k_iconst S dX1_takeCenterSide_26 (v := 1) (by decide) (n := 27) rfl ?_
      rw [if_neg c1, if_neg c3] at hJ2
      exact hJ2
    ·
      refine k_aload0 S dX1_takeCenterSide_17 (n := 18) rfl ?_
      refine k_getv (v := f 4) (T := TX1) (j := 4) S dX1_takeCenterSide_18 (zlt S (by decide)) (by decide) (ci := 1) rfl rfl (by decide) in_1 m_77 rfl rfl (by simp [zu, zset, upd]) (n := 21) rfl ?_
      refine k_iconst S dX1_takeCenterSide_21 (v := 1) (by decide) (n := 22) rfl ?_
      refine k_iadd S dX1_takeCenterSide_22 (n := 23) rfl ?_
      refine k_goto S dX1_takeCenterSide_23 (tgt := 27) (by decide) ?_
      rw [if_neg c1, if_pos c3] at hJ2
      exact hJ2
  ·
    refine k_iconst S dX1_takeCenterSide_5 (v := 0) (by decide) (n := 6) rfl ?_
    refine k_goto S dX1_takeCenterSide_6 (tgt := 27) (by decide) ?_
    rw [if_pos c1] at hJ2
    exact hJ2
def r_X1_takeDirection (f : Nat → Int32) (a : Int32) : Nat → Int32 := (if a = 0 then (upd (upd (upd f 5 1) 6 1) 2 a) else (upd (upd (upd f 5 ((if a = (f 2) then (f 5) + 1 else (2 : Int32)))) 6 ((if a = (-(f 2)) then (f 6) + 1 else (2 : Int32)))) 2 a))
set_option maxRecDepth 100000 in
set_option maxHeartbeats 4000000 in
theorem c_X1_takeDirection {l : Launch} {g : zG} {μ : zM} {f : Nat → Int32} {a : Int32} : zC l g yX1_takeDirection cX1_takeDirection 2 none ({ frames := 0, cells := 0, slots := 0, locals := 0 } : Room) 0 0 [.ref (za g 7), .int a] (zset μ 7 f) (zRv none (zset μ 7 (r_X1_takeDirection f a))) zNX := by
  refine zC_of (L0 := [some (.ref (za g 7)), some (.int a)]) (plainFor_of_name (by decide)) (Nat.le_of_ble_eq_true rfl) rfl ?_
  intro x S Y hxl
  subst hxl
  refine k_iload1 S dX1_takeDirection_0 (n := 1) rfl ?_
  refine k_if_ne S dX1_takeDirection_1 (tgt := 17) (by decide) (n := 4) rfl (fun c1 => ?_) (fun c1 => ?_)
  ·
    refine k_aload0 S dX1_takeDirection_17 (n := 18) rfl ?_
    refine k_iload1 S dX1_takeDirection_18 (n := 19) rfl ?_
    refine k_aload0 S dX1_takeDirection_19 (n := 20) rfl ?_
    refine k_getv (v := f 2) (T := TX1) (j := 2) S dX1_takeDirection_20 (zlt S (by decide)) (by decide) (ci := 1) rfl rfl (by decide) in_1 m_75 rfl rfl (by simp [zu, zset, upd]) (n := 23) rfl ?_
    have hJ3 : zK x g ({ frames := 0, cells := 0, slots := 0, locals := 0 } : Room) 2 0 0 36 [some (.ref (za g 7)), some (.int a)] [.int ((if a = (f 2) then (f 5) + 1 else (2 : Int32))), .ref (za g 7)] (zset μ 7 f) := by
      refine k_putz (T := TX1) (j := 5) S dX1_takeDirection_36 (zlt S (by decide)) (by decide) (ci := 1) rfl rfl (by decide) in_1 m_78 rfl rfl (ty0 := tyX1) tyX1_ok nmX1 rfl rfl rfl (n := 39) rfl ?_
      refine k_aload0 S dX1_takeDirection_39 (n := 40) rfl ?_
      refine k_iload1 S dX1_takeDirection_40 (n := 41) rfl ?_
      refine k_aload0 S dX1_takeDirection_41 (n := 42) rfl ?_
      refine k_getv (v := f 2) (T := TX1) (j := 2) S dX1_takeDirection_42 (zlt S (by decide)) (by decide) (ci := 1) rfl rfl (by decide) in_1 m_75 rfl rfl (by simp [zu, zset, upd]) (n := 45) rfl ?_
      refine k_ineg S dX1_takeDirection_45 (n := 46) rfl ?_
      have hJ5 : zK x g ({ frames := 0, cells := 0, slots := 0, locals := 0 } : Room) 2 0 0 59 [some (.ref (za g 7)), some (.int a)] [.int ((if a = (-(f 2)) then (f 6) + 1 else (2 : Int32))), .ref (za g 7)] (zset μ 7 (upd f 5 ((if a = (f 2) then (f 5) + 1 else (2 : Int32))))) := by
        refine k_putz (T := TX1) (j := 6) S dX1_takeDirection_59 (zlt S (by decide)) (by decide) (ci := 1) rfl rfl (by decide) in_1 m_79 rfl rfl (ty0 := tyX1) tyX1_ok nmX1 rfl rfl rfl (n := 62) rfl ?_
        refine k_aload0 S dX1_takeDirection_62 (n := 63) rfl ?_
        refine k_iload1 S dX1_takeDirection_63 (n := 64) rfl ?_
        refine k_putz (T := TX1) (j := 2) S dX1_takeDirection_64 (zlt S (by decide)) (by decide) (ci := 1) rfl rfl (by decide) in_1 m_75 rfl rfl (ty0 := tyX1) tyX1_ok nmX1 rfl rfl rfl (n := 67) rfl ?_
        exact k_vret S Y dX1_takeDirection_67 (by decide) (by decide) (⟨rfl, by rw [r_X1_takeDirection, if_neg c1]⟩)
      refine k_icmp_ne S dX1_takeDirection_46 (tgt := 58) (by decide) (n := 49) rfl (fun c4 => ?_) (fun c4 => ?_)
      ·
        refine k_iconst S dX1_takeDirection_58 (v := 2) (by decide) (n := 59) rfl ?_
        rw [if_neg c4] at hJ5
        exact hJ5
      ·
        refine k_aload0 S dX1_takeDirection_49 (n := 50) rfl ?_
        refine k_getv (v := f 6) (T := TX1) (j := 6) S dX1_takeDirection_50 (zlt S (by decide)) (by decide) (ci := 1) rfl rfl (by decide) in_1 m_79 rfl rfl (by simp [zu, zset, upd]) (n := 53) rfl ?_
        refine k_iconst S dX1_takeDirection_53 (v := 1) (by decide) (n := 54) rfl ?_
        refine k_iadd S dX1_takeDirection_54 (n := 55) rfl ?_
        refine k_goto S dX1_takeDirection_55 (tgt := 59) (by decide) ?_
        rw [if_pos c4] at hJ5
        exact hJ5
    refine k_icmp_ne S dX1_takeDirection_23 (tgt := 35) (by decide) (n := 26) rfl (fun c2 => ?_) (fun c2 => ?_)
    ·
      refine k_iconst S dX1_takeDirection_35 (v := 2) (by decide) (n := 36) rfl ?_
      rw [if_neg c2] at hJ3
      exact hJ3
    ·
      refine k_aload0 S dX1_takeDirection_26 (n := 27) rfl ?_
      refine k_getv (v := f 5) (T := TX1) (j := 5) S dX1_takeDirection_27 (zlt S (by decide)) (by decide) (ci := 1) rfl rfl (by decide) in_1 m_78 rfl rfl (by simp [zu, zset, upd]) (n := 30) rfl ?_
      refine k_iconst S dX1_takeDirection_30 (v := 1) (by decide) (n := 31) rfl ?_
      refine k_iadd S dX1_takeDirection_31 (n := 32) rfl ?_
      refine k_goto S dX1_takeDirection_32 (tgt := 36) (by decide) ?_
      rw [if_pos c2] at hJ3
      exact hJ3
  ·
    refine k_aload0 S dX1_takeDirection_4 (n := 5) rfl ?_
    refine k_iconst S dX1_takeDirection_5 (v := 1) (by decide) (n := 6) rfl ?_
    refine k_putz (T := TX1) (j := 5) S dX1_takeDirection_6 (zlt S (by decide)) (by decide) (ci := 1) rfl rfl (by decide) in_1 m_78 rfl rfl (ty0 := tyX1) tyX1_ok nmX1 rfl rfl rfl (n := 9) rfl ?_
    refine k_aload0 S dX1_takeDirection_9 (n := 10) rfl ?_
    refine k_iconst S dX1_takeDirection_10 (v := 1) (by decide) (n := 11) rfl ?_
    refine k_putz (T := TX1) (j := 6) S dX1_takeDirection_11 (zlt S (by decide)) (by decide) (ci := 1) rfl rfl (by decide) in_1 m_79 rfl rfl (ty0 := tyX1) tyX1_ok nmX1 rfl rfl rfl (n := 14) rfl ?_
    refine k_goto S dX1_takeDirection_14 (tgt := 62) (by decide) ?_
    refine k_aload0 S dX1_takeDirection_62 (n := 63) rfl ?_
    refine k_iload1 S dX1_takeDirection_63 (n := 64) rfl ?_
    refine k_putz (T := TX1) (j := 2) S dX1_takeDirection_64 (zlt S (by decide)) (by decide) (ci := 1) rfl rfl (by decide) in_1 m_75 rfl rfl (ty0 := tyX1) tyX1_ok nmX1 rfl rfl rfl (n := 67) rfl ?_
    exact k_vret S Y dX1_takeDirection_67 (by decide) (by decide) (⟨rfl, by rw [r_X1_takeDirection, if_pos c1]⟩)
def r_X1_takeSidesBeyond (f : Nat → Int32) (m : Int32) (ce : Int32) (w : Int32) : Nat → Int32 := (upd (upd (upd (upd (upd (upd (upd (upd (upd f 9 (zsb m ce w 3)) 10 (zsb m ce w 2)) 11 (zsb m ce w 1)) 12 (zpk (f 12) (if ((if (zsb m ce w 2) ≤ 0 then (0 : Int32) else (1 : Int32))) = 0 then 0 else 1) 3)) 13 (zpk (f 13) (if ((if 0 ≤ (zsb m ce w 2) then (0 : Int32) else (1 : Int32))) = 0 then 0 else 1) 3)) 14 (zpk (f 14) (if ((if (zsb m ce w 1) ≤ 0 then (0 : Int32) else (1 : Int32))) = 0 then 0 else 1) 5)) 15 (zpk (f 15) (if ((if 0 ≤ (zsb m ce w 1) then (0 : Int32) else (1 : Int32))) = 0 then 0 else 1) 5)) 7 ((if (zsb m ce w 1) = 0 then (f 7) + 1 else (0 : Int32)))) 8 ((if (zsb m ce w 1) = 0 then (0 : Int32) else (f 8) + 1)))
set_option maxRecDepth 100000 in
set_option maxHeartbeats 4000000 in
theorem c_X1_takeSidesBeyond {l : Launch} {g : zG} {μ : zM} {f : Nat → Int32} {m : Int32} {ce : Int32} {w : Int32} {k : Nat} (hk : k < 10) (hk7 : 11 + k ≠ 7) (hc : μ.1 (11 + k) 5 = ce) (hw : μ.1 (11 + k) 7 = w) : zC l g yX1_takeSidesBeyond cX1_takeSidesBeyond 3 none ({ frames := 1, cells := 0, slots := 0, locals := 22 } : Room) 0 0 [.ref (za g 7), .int m, .ref (za g (11 + k))] (zset μ 7 f) (zRv none (zset μ 7 (r_X1_takeSidesBeyond f m ce w))) zNX := by
  refine zC_of (L0 := [some (.ref (za g 7)), some (.int m), some (.ref (za g (11 + k)))]) (plainFor_of_name (by decide)) (Nat.le_of_ble_eq_true rfl) rfl ?_
  intro x S Y hxl
  subst hxl
  refine k_aload0 S dX1_takeSidesBeyond_0 (n := 1) rfl ?_
  refine k_aload2 S dX1_takeSidesBeyond_1 (n := 2) rfl ?_
  refine k_iload1 S dX1_takeSidesBeyond_2 (n := 3) rfl ?_
  refine k_iconst S dX1_takeSidesBeyond_3 (v := 3) (by decide) (n := 4) rfl ?_
  refine k_callV (As := [.int m, .int 3]) (rest := [.ref (za g 7)]) (p := 11 + k) S (c_X0_beyond (k := k) hk (ce := ce) (w := w) (by simp only [zset_at, zset_off _ _ hk7]; exact hc) (by simp only [zset_off _ _ hk7]; exact hw)) mv_X0_sideBeyond m_243 dX1_takeSidesBeyond_4 rfl rfl ⟨by decide, by decide⟩ (zlt S (by omega)) (zki_ph hk) (ci := 0) rfl rfl rfl (Nat.le_of_ble_eq_true rfl) ⟨by decide, by decide⟩ (n := 7) rfl (fun _ _ h => h.elim) (fun v9 ν9 h9 => ?_)
  rw [h9.1, h9.2]
  show zK x g ({ frames := 1, cells := 0, slots := 0, locals := 22 } : Room) 3 0 0 7 [some (.ref (za g 7)), some (.int m), some (.ref (za g (11 + k)))] [.int (zsb m ce w 3), .ref (za g 7)] (zset μ 7 f)
  refine k_putz (T := TX1) (j := 9) S dX1_takeSidesBeyond_7 (zlt S (by decide)) (by decide) (ci := 1) rfl rfl (by decide) in_1 m_82 rfl rfl (ty0 := tyX1) tyX1_ok nmX1 rfl rfl rfl (n := 10) rfl ?_
  refine k_aload0 S dX1_takeSidesBeyond_10 (n := 11) rfl ?_
  refine k_aload2 S dX1_takeSidesBeyond_11 (n := 12) rfl ?_
  refine k_iload1 S dX1_takeSidesBeyond_12 (n := 13) rfl ?_
  refine k_iconst S dX1_takeSidesBeyond_13 (v := 2) (by decide) (n := 14) rfl ?_
  refine k_callV (As := [.int m, .int 2]) (rest := [.ref (za g 7)]) (p := 11 + k) S (c_X0_beyond (k := k) hk (ce := ce) (w := w) (by simp only [zset_at, zset_off _ _ hk7]; exact hc) (by simp only [zset_off _ _ hk7]; exact hw)) mv_X0_sideBeyond m_243 dX1_takeSidesBeyond_14 rfl rfl ⟨by decide, by decide⟩ (zlt S (by omega)) (zki_ph hk) (ci := 0) rfl rfl rfl (Nat.le_of_ble_eq_true rfl) ⟨by decide, by decide⟩ (n := 17) rfl (fun _ _ h => h.elim) (fun v9 ν9 h9 => ?_)
  rw [h9.1, h9.2]
  show zK x g ({ frames := 1, cells := 0, slots := 0, locals := 22 } : Room) 3 0 0 17 [some (.ref (za g 7)), some (.int m), some (.ref (za g (11 + k)))] [.int (zsb m ce w 2), .ref (za g 7)] (zset μ 7 (upd f 9 (zsb m ce w 3)))
  refine k_putz (T := TX1) (j := 10) S dX1_takeSidesBeyond_17 (zlt S (by decide)) (by decide) (ci := 1) rfl rfl (by decide) in_1 m_83 rfl rfl (ty0 := tyX1) tyX1_ok nmX1 rfl rfl rfl (n := 20) rfl ?_
  refine k_aload0 S dX1_takeSidesBeyond_20 (n := 21) rfl ?_
  refine k_aload2 S dX1_takeSidesBeyond_21 (n := 22) rfl ?_
  refine k_iload1 S dX1_takeSidesBeyond_22 (n := 23) rfl ?_
  refine k_iconst S dX1_takeSidesBeyond_23 (v := 1) (by decide) (n := 24) rfl ?_
  refine k_callV (As := [.int m, .int 1]) (rest := [.ref (za g 7)]) (p := 11 + k) S (c_X0_beyond (k := k) hk (ce := ce) (w := w) (by simp only [zset_at, zset_off _ _ hk7]; exact hc) (by simp only [zset_off _ _ hk7]; exact hw)) mv_X0_sideBeyond m_243 dX1_takeSidesBeyond_24 rfl rfl ⟨by decide, by decide⟩ (zlt S (by omega)) (zki_ph hk) (ci := 0) rfl rfl rfl (Nat.le_of_ble_eq_true rfl) ⟨by decide, by decide⟩ (n := 27) rfl (fun _ _ h => h.elim) (fun v9 ν9 h9 => ?_)
  rw [h9.1, h9.2]
  show zK x g ({ frames := 1, cells := 0, slots := 0, locals := 22 } : Room) 3 0 0 27 [some (.ref (za g 7)), some (.int m), some (.ref (za g (11 + k)))] [.int (zsb m ce w 1), .ref (za g 7)] (zset μ 7 (upd (upd f 9 (zsb m ce w 3)) 10 (zsb m ce w 2)))
  refine k_putz (T := TX1) (j := 11) S dX1_takeSidesBeyond_27 (zlt S (by decide)) (by decide) (ci := 1) rfl rfl (by decide) in_1 m_84 rfl rfl (ty0 := tyX1) tyX1_ok nmX1 rfl rfl rfl (n := 30) rfl ?_
  refine k_aload0 S dX1_takeSidesBeyond_30 (n := 31) rfl ?_
  refine k_aload0 S dX1_takeSidesBeyond_31 (n := 32) rfl ?_
  refine k_getv (v := f 12) (T := TX1) (j := 12) S dX1_takeSidesBeyond_32 (zlt S (by decide)) (by decide) (ci := 1) rfl rfl (by decide) in_1 m_85 rfl rfl (by simp [zu, zset, upd]) (n := 35) rfl ?_
  refine k_aload0 S dX1_takeSidesBeyond_35 (n := 36) rfl ?_
  refine k_getv (v := zsb m ce w 2) (T := TX1) (j := 10) S dX1_takeSidesBeyond_36 (zlt S (by decide)) (by decide) (ci := 1) rfl rfl (by decide) in_1 m_83 rfl rfl (by simp [zu, zset, upd]) (n := 39) rfl ?_
  have hJ2 : zK x g ({ frames := 1, cells := 0, slots := 0, locals := 22 } : Room) 3 0 0 47 [some (.ref (za g 7)), some (.int m), some (.ref (za g (11 + k)))] [.int ((if (zsb m ce w 2) ≤ 0 then (0 : Int32) else (1 : Int32))), .int (f 12), .ref (za g 7)] (zset μ 7 (upd (upd (upd f 9 (zsb m ce w 3)) 10 (zsb m ce w 2)) 11 (zsb m ce w 1))) := by
    refine k_iconst S dX1_takeSidesBeyond_47 (v := 3) (by decide) (n := 48) rfl ?_
    refine k_callS (As := [.int (f 12), .int ((if (zsb m ce w 2) ≤ 0 then (0 : Int32) else (1 : Int32))), .int 3]) (rest := [.ref (za g 7)]) S (c_X1_pushed) mv_X1_pushed m_247 dX1_takeSidesBeyond_48 rfl rfl ⟨by decide, by decide⟩ rfl rfl (Nat.le_of_ble_eq_true rfl) ⟨by decide, by decide⟩ (n := 51) rfl (fun _ _ h => h.elim) (fun v9 ν9 h9 => ?_)
    rw [h9.1, h9.2]
    show zK x g ({ frames := 1, cells := 0, slots := 0, locals := 22 } : Room) 3 0 0 51 [some (.ref (za g 7)), some (.int m), some (.ref (za g (11 + k)))] [.int (zpk (f 12) (if ((if (zsb m ce w 2) ≤ 0 then (0 : Int32) else (1 : Int32))) = 0 then 0 else 1) 3), .ref (za g 7)] (zset μ 7 (upd (upd (upd f 9 (zsb m ce w 3)) 10 (zsb m ce w 2)) 11 (zsb m ce w 1)))
    refine k_putz (T := TX1) (j := 12) S dX1_takeSidesBeyond_51 (zlt S (by decide)) (by decide) (ci := 1) rfl rfl (by decide) in_1 m_85 rfl rfl (ty0 := tyX1) tyX1_ok nmX1 rfl rfl rfl (n := 54) rfl ?_
    refine k_aload0 S dX1_takeSidesBeyond_54 (n := 55) rfl ?_
    refine k_aload0 S dX1_takeSidesBeyond_55 (n := 56) rfl ?_
    refine k_getv (v := f 13) (T := TX1) (j := 13) S dX1_takeSidesBeyond_56 (zlt S (by decide)) (by decide) (ci := 1) rfl rfl (by decide) in_1 m_86 rfl rfl (by simp [zu, zset, upd]) (n := 59) rfl ?_
    refine k_aload0 S dX1_takeSidesBeyond_59 (n := 60) rfl ?_
    refine k_getv (v := zsb m ce w 2) (T := TX1) (j := 10) S dX1_takeSidesBeyond_60 (zlt S (by decide)) (by decide) (ci := 1) rfl rfl (by decide) in_1 m_83 rfl rfl (by simp [zu, zset, upd]) (n := 63) rfl ?_
    have hJ4 : zK x g ({ frames := 1, cells := 0, slots := 0, locals := 22 } : Room) 3 0 0 71 [some (.ref (za g 7)), some (.int m), some (.ref (za g (11 + k)))] [.int ((if 0 ≤ (zsb m ce w 2) then (0 : Int32) else (1 : Int32))), .int (f 13), .ref (za g 7)] (zset μ 7 (upd (upd (upd (upd f 9 (zsb m ce w 3)) 10 (zsb m ce w 2)) 11 (zsb m ce w 1)) 12 (zpk (f 12) (if ((if (zsb m ce w 2) ≤ 0 then (0 : Int32) else (1 : Int32))) = 0 then 0 else 1) 3))) := by
      refine k_iconst S dX1_takeSidesBeyond_71 (v := 3) (by decide) (n := 72) rfl ?_
      refine k_callS (As := [.int (f 13), .int ((if 0 ≤ (zsb m ce w 2) then (0 : Int32) else (1 : Int32))), .int 3]) (rest := [.ref (za g 7)]) S (c_X1_pushed) mv_X1_pushed m_247 dX1_takeSidesBeyond_72 rfl rfl ⟨by decide, by decide⟩ rfl rfl (Nat.le_of_ble_eq_true rfl) ⟨by decide, by decide⟩ (n := 75) rfl (fun _ _ h => h.elim) (fun v9 ν9 h9 => ?_)
      rw [h9.1, h9.2]
      show zK x g ({ frames := 1, cells := 0, slots := 0, locals := 22 } : Room) 3 0 0 75 [some (.ref (za g 7)), some (.int m), some (.ref (za g (11 + k)))] [.int (zpk (f 13) (if ((if 0 ≤ (zsb m ce w 2) then (0 : Int32) else (1 : Int32))) = 0 then 0 else 1) 3), .ref (za g 7)] (zset μ 7 (upd (upd (upd (upd f 9 (zsb m ce w 3)) 10 (zsb m ce w 2)) 11 (zsb m ce w 1)) 12 (zpk (f 12) (if ((if (zsb m ce w 2) ≤ 0 then (0 : Int32) else (1 : Int32))) = 0 then 0 else 1) 3)))
      refine k_putz (T := TX1) (j := 13) S dX1_takeSidesBeyond_75 (zlt S (by decide)) (by decide) (ci := 1) rfl rfl (by decide) in_1 m_86 rfl rfl (ty0 := tyX1) tyX1_ok nmX1 rfl rfl rfl (n := 78) rfl ?_
      refine k_aload0 S dX1_takeSidesBeyond_78 (n := 79) rfl ?_
      refine k_aload0 S dX1_takeSidesBeyond_79 (n := 80) rfl ?_
      refine k_getv (v := f 14) (T := TX1) (j := 14) S dX1_takeSidesBeyond_80 (zlt S (by decide)) (by decide) (ci := 1) rfl rfl (by decide) in_1 m_87 rfl rfl (by simp [zu, zset, upd]) (n := 83) rfl ?_
      refine k_aload0 S dX1_takeSidesBeyond_83 (n := 84) rfl ?_
      refine k_getv (v := zsb m ce w 1) (T := TX1) (j := 11) S dX1_takeSidesBeyond_84 (zlt S (by decide)) (by decide) (ci := 1) rfl rfl (by decide) in_1 m_84 rfl rfl (by simp [zu, zset, upd]) (n := 87) rfl ?_
      have hJ6 : zK x g ({ frames := 1, cells := 0, slots := 0, locals := 22 } : Room) 3 0 0 95 [some (.ref (za g 7)), some (.int m), some (.ref (za g (11 + k)))] [.int ((if (zsb m ce w 1) ≤ 0 then (0 : Int32) else (1 : Int32))), .int (f 14), .ref (za g 7)] (zset μ 7 (upd (upd (upd (upd (upd f 9 (zsb m ce w 3)) 10 (zsb m ce w 2)) 11 (zsb m ce w 1)) 12 (zpk (f 12) (if ((if (zsb m ce w 2) ≤ 0 then (0 : Int32) else (1 : Int32))) = 0 then 0 else 1) 3)) 13 (zpk (f 13) (if ((if 0 ≤ (zsb m ce w 2) then (0 : Int32) else (1 : Int32))) = 0 then 0 else 1) 3))) := by
        refine k_iconst S dX1_takeSidesBeyond_95 (v := 5) (by decide) (n := 96) rfl ?_
        refine k_callS (As := [.int (f 14), .int ((if (zsb m ce w 1) ≤ 0 then (0 : Int32) else (1 : Int32))), .int 5]) (rest := [.ref (za g 7)]) S (c_X1_pushed) mv_X1_pushed m_247 dX1_takeSidesBeyond_96 rfl rfl ⟨by decide, by decide⟩ rfl rfl (Nat.le_of_ble_eq_true rfl) ⟨by decide, by decide⟩ (n := 99) rfl (fun _ _ h => h.elim) (fun v9 ν9 h9 => ?_)
        rw [h9.1, h9.2]
        show zK x g ({ frames := 1, cells := 0, slots := 0, locals := 22 } : Room) 3 0 0 99 [some (.ref (za g 7)), some (.int m), some (.ref (za g (11 + k)))] [.int (zpk (f 14) (if ((if (zsb m ce w 1) ≤ 0 then (0 : Int32) else (1 : Int32))) = 0 then 0 else 1) 5), .ref (za g 7)] (zset μ 7 (upd (upd (upd (upd (upd f 9 (zsb m ce w 3)) 10 (zsb m ce w 2)) 11 (zsb m ce w 1)) 12 (zpk (f 12) (if ((if (zsb m ce w 2) ≤ 0 then (0 : Int32) else (1 : Int32))) = 0 then 0 else 1) 3)) 13 (zpk (f 13) (if ((if 0 ≤ (zsb m ce w 2) then (0 : Int32) else (1 : Int32))) = 0 then 0 else 1) 3)))
        refine k_putz (T := TX1) (j := 14) S dX1_takeSidesBeyond_99 (zlt S (by decide)) (by decide) (ci := 1) rfl rfl (by decide) in_1 m_87 rfl rfl (ty0 := tyX1) tyX1_ok nmX1 rfl rfl rfl (n := 102) rfl ?_
        refine k_aload0 S dX1_takeSidesBeyond_102 (n := 103) rfl ?_
        refine k_aload0 S dX1_takeSidesBeyond_103 (n := 104) rfl ?_
        refine k_getv (v := f 15) (T := TX1) (j := 15) S dX1_takeSidesBeyond_104 (zlt S (by decide)) (by decide) (ci := 1) rfl rfl (by decide) in_1 m_88 rfl rfl (by simp [zu, zset, upd]) (n := 107) rfl ?_
        refine k_aload0 S dX1_takeSidesBeyond_107 (n := 108) rfl ?_
        refine k_getv (v := zsb m ce w 1) (T := TX1) (j := 11) S dX1_takeSidesBeyond_108 (zlt S (by decide)) (by decide) (ci := 1) rfl rfl (by decide) in_1 m_84 rfl rfl (by simp [zu, zset, upd]) (n := 111) rfl ?_
        have hJ8 : zK x g ({ frames := 1, cells := 0, slots := 0, locals := 22 } : Room) 3 0 0 119 [some (.ref (za g 7)), some (.int m), some (.ref (za g (11 + k)))] [.int ((if 0 ≤ (zsb m ce w 1) then (0 : Int32) else (1 : Int32))), .int (f 15), .ref (za g 7)] (zset μ 7 (upd (upd (upd (upd (upd (upd f 9 (zsb m ce w 3)) 10 (zsb m ce w 2)) 11 (zsb m ce w 1)) 12 (zpk (f 12) (if ((if (zsb m ce w 2) ≤ 0 then (0 : Int32) else (1 : Int32))) = 0 then 0 else 1) 3)) 13 (zpk (f 13) (if ((if 0 ≤ (zsb m ce w 2) then (0 : Int32) else (1 : Int32))) = 0 then 0 else 1) 3)) 14 (zpk (f 14) (if ((if (zsb m ce w 1) ≤ 0 then (0 : Int32) else (1 : Int32))) = 0 then 0 else 1) 5))) := by
          refine k_iconst S dX1_takeSidesBeyond_119 (v := 5) (by decide) (n := 120) rfl ?_
          refine k_callS (As := [.int (f 15), .int ((if 0 ≤ (zsb m ce w 1) then (0 : Int32) else (1 : Int32))), .int 5]) (rest := [.ref (za g 7)]) S (c_X1_pushed) mv_X1_pushed m_247 dX1_takeSidesBeyond_120 rfl rfl ⟨by decide, by decide⟩ rfl rfl (Nat.le_of_ble_eq_true rfl) ⟨by decide, by decide⟩ (n := 123) rfl (fun _ _ h => h.elim) (fun v9 ν9 h9 => ?_)
          rw [h9.1, h9.2]
          show zK x g ({ frames := 1, cells := 0, slots := 0, locals := 22 } : Room) 3 0 0 123 [some (.ref (za g 7)), some (.int m), some (.ref (za g (11 + k)))] [.int (zpk (f 15) (if ((if 0 ≤ (zsb m ce w 1) then (0 : Int32) else (1 : Int32))) = 0 then 0 else 1) 5), .ref (za g 7)] (zset μ 7 (upd (upd (upd (upd (upd (upd f 9 (zsb m ce w 3)) 10 (zsb m ce w 2)) 11 (zsb m ce w 1)) 12 (zpk (f 12) (if ((if (zsb m ce w 2) ≤ 0 then (0 : Int32) else (1 : Int32))) = 0 then 0 else 1) 3)) 13 (zpk (f 13) (if ((if 0 ≤ (zsb m ce w 2) then (0 : Int32) else (1 : Int32))) = 0 then 0 else 1) 3)) 14 (zpk (f 14) (if ((if (zsb m ce w 1) ≤ 0 then (0 : Int32) else (1 : Int32))) = 0 then 0 else 1) 5)))
          refine k_putz (T := TX1) (j := 15) S dX1_takeSidesBeyond_123 (zlt S (by decide)) (by decide) (ci := 1) rfl rfl (by decide) in_1 m_88 rfl rfl (ty0 := tyX1) tyX1_ok nmX1 rfl rfl rfl (n := 126) rfl ?_
          refine k_aload0 S dX1_takeSidesBeyond_126 (n := 127) rfl ?_
          refine k_aload0 S dX1_takeSidesBeyond_127 (n := 128) rfl ?_
          refine k_getv (v := zsb m ce w 1) (T := TX1) (j := 11) S dX1_takeSidesBeyond_128 (zlt S (by decide)) (by decide) (ci := 1) rfl rfl (by decide) in_1 m_84 rfl rfl (by simp [zu, zset, upd]) (n := 131) rfl ?_
          have hJ10 : zK x g ({ frames := 1, cells := 0, slots := 0, locals := 22 } : Room) 3 0 0 144 [some (.ref (za g 7)), some (.int m), some (.ref (za g (11 + k)))] [.int ((if (zsb m ce w 1) = 0 then (f 7) + 1 else (0 : Int32))), .ref (za g 7)] (zset μ 7 (upd (upd (upd (upd (upd (upd (upd f 9 (zsb m ce w 3)) 10 (zsb m ce w 2)) 11 (zsb m ce w 1)) 12 (zpk (f 12) (if ((if (zsb m ce w 2) ≤ 0 then (0 : Int32) else (1 : Int32))) = 0 then 0 else 1) 3)) 13 (zpk (f 13) (if ((if 0 ≤ (zsb m ce w 2) then (0 : Int32) else (1 : Int32))) = 0 then 0 else 1) 3)) 14 (zpk (f 14) (if ((if (zsb m ce w 1) ≤ 0 then (0 : Int32) else (1 : Int32))) = 0 then 0 else 1) 5)) 15 (zpk (f 15) (if ((if 0 ≤ (zsb m ce w 1) then (0 : Int32) else (1 : Int32))) = 0 then 0 else 1) 5))) := by
            refine k_putz (T := TX1) (j := 7) S dX1_takeSidesBeyond_144 (zlt S (by decide)) (by decide) (ci := 1) rfl rfl (by decide) in_1 m_80 rfl rfl (ty0 := tyX1) tyX1_ok nmX1 rfl rfl rfl (n := 147) rfl ?_
            refine k_aload0 S dX1_takeSidesBeyond_147 (n := 148) rfl ?_
            refine k_aload0 S dX1_takeSidesBeyond_148 (n := 149) rfl ?_
            refine k_getv (v := zsb m ce w 1) (T := TX1) (j := 11) S dX1_takeSidesBeyond_149 (zlt S (by decide)) (by decide) (ci := 1) rfl rfl (by decide) in_1 m_84 rfl rfl (by simp [zu, zset, upd]) (n := 152) rfl ?_
            have hJ12 : zK x g ({ frames := 1, cells := 0, slots := 0, locals := 22 } : Room) 3 0 0 165 [some (.ref (za g 7)), some (.int m), some (.ref (za g (11 + k)))] [.int ((if (zsb m ce w 1) = 0 then (0 : Int32) else (f 8) + 1)), .ref (za g 7)] (zset μ 7 (upd (upd (upd (upd (upd (upd (upd (upd f 9 (zsb m ce w 3)) 10 (zsb m ce w 2)) 11 (zsb m ce w 1)) 12 (zpk (f 12) (if ((if (zsb m ce w 2) ≤ 0 then (0 : Int32) else (1 : Int32))) = 0 then 0 else 1) 3)) 13 (zpk (f 13) (if ((if 0 ≤ (zsb m ce w 2) then (0 : Int32) else (1 : Int32))) = 0 then 0 else 1) 3)) 14 (zpk (f 14) (if ((if (zsb m ce w 1) ≤ 0 then (0 : Int32) else (1 : Int32))) = 0 then 0 else 1) 5)) 15 (zpk (f 15) (if ((if 0 ≤ (zsb m ce w 1) then (0 : Int32) else (1 : Int32))) = 0 then 0 else 1) 5)) 7 ((if (zsb m ce w 1) = 0 then (f 7) + 1 else (0 : Int32))))) := by
              refine k_putz (T := TX1) (j := 8) S dX1_takeSidesBeyond_165 (zlt S (by decide)) (by decide) (ci := 1) rfl rfl (by decide) in_1 m_81 rfl rfl (ty0 := tyX1) tyX1_ok nmX1 rfl rfl rfl (n := 168) rfl ?_
              exact k_vret S Y dX1_takeSidesBeyond_168 (by decide) (by decide) (⟨rfl, rfl⟩)
            refine k_if_eq S dX1_takeSidesBeyond_152 (tgt := 164) (by decide) (n := 155) rfl (fun c11 => ?_) (fun c11 => ?_)
            ·
              refine k_iconst S dX1_takeSidesBeyond_164 (v := 0) (by decide) (n := 165) rfl ?_
              rw [if_pos c11] at hJ12
              exact hJ12
            ·
              refine k_aload0 S dX1_takeSidesBeyond_155 (n := 156) rfl ?_
              refine k_getv (v := f 8) (T := TX1) (j := 8) S dX1_takeSidesBeyond_156 (zlt S (by decide)) (by decide) (ci := 1) rfl rfl (by decide) in_1 m_81 rfl rfl (by simp [zu, zset, upd]) (n := 159) rfl ?_
              refine k_iconst S dX1_takeSidesBeyond_159 (v := 1) (by decide) (n := 160) rfl ?_
              refine k_iadd S dX1_takeSidesBeyond_160 (n := 161) rfl ?_
              refine k_goto S dX1_takeSidesBeyond_161 (tgt := 165) (by decide) ?_
              rw [if_neg c11] at hJ12
              exact hJ12
          refine k_if_ne S dX1_takeSidesBeyond_131 (tgt := 143) (by decide) (n := 134) rfl (fun c9 => ?_) (fun c9 => ?_)
          ·
            refine k_iconst S dX1_takeSidesBeyond_143 (v := 0) (by decide) (n := 144) rfl ?_
            rw [if_neg c9] at hJ10
            exact hJ10
          ·
            refine k_aload0 S dX1_takeSidesBeyond_134 (n := 135) rfl ?_
            refine k_getv (v := f 7) (T := TX1) (j := 7) S dX1_takeSidesBeyond_135 (zlt S (by decide)) (by decide) (ci := 1) rfl rfl (by decide) in_1 m_80 rfl rfl (by simp [zu, zset, upd]) (n := 138) rfl ?_
            refine k_iconst S dX1_takeSidesBeyond_138 (v := 1) (by decide) (n := 139) rfl ?_
            refine k_iadd S dX1_takeSidesBeyond_139 (n := 140) rfl ?_
            refine k_goto S dX1_takeSidesBeyond_140 (tgt := 144) (by decide) ?_
            rw [if_pos c9] at hJ10
            exact hJ10
        refine k_if_ge S dX1_takeSidesBeyond_111 (tgt := 118) (by decide) (n := 114) rfl (fun c7 => ?_) (fun c7 => ?_)
        ·
          refine k_iconst S dX1_takeSidesBeyond_118 (v := 0) (by decide) (n := 119) rfl ?_
          rw [if_pos c7] at hJ8
          exact hJ8
        ·
          refine k_iconst S dX1_takeSidesBeyond_114 (v := 1) (by decide) (n := 115) rfl ?_
          refine k_goto S dX1_takeSidesBeyond_115 (tgt := 119) (by decide) ?_
          rw [if_neg c7] at hJ8
          exact hJ8
      refine k_if_le S dX1_takeSidesBeyond_87 (tgt := 94) (by decide) (n := 90) rfl (fun c5 => ?_) (fun c5 => ?_)
      ·
        refine k_iconst S dX1_takeSidesBeyond_94 (v := 0) (by decide) (n := 95) rfl ?_
        rw [if_pos c5] at hJ6
        exact hJ6
      ·
        refine k_iconst S dX1_takeSidesBeyond_90 (v := 1) (by decide) (n := 91) rfl ?_
        refine k_goto S dX1_takeSidesBeyond_91 (tgt := 95) (by decide) ?_
        rw [if_neg c5] at hJ6
        exact hJ6
    refine k_if_ge S dX1_takeSidesBeyond_63 (tgt := 70) (by decide) (n := 66) rfl (fun c3 => ?_) (fun c3 => ?_)
    ·
      refine k_iconst S dX1_takeSidesBeyond_70 (v := 0) (by decide) (n := 71) rfl ?_
      rw [if_pos c3] at hJ4
      exact hJ4
    ·
      refine k_iconst S dX1_takeSidesBeyond_66 (v := 1) (by decide) (n := 67) rfl ?_
      refine k_goto S dX1_takeSidesBeyond_67 (tgt := 71) (by decide) ?_
      rw [if_neg c3] at hJ4
      exact hJ4
  refine k_if_le S dX1_takeSidesBeyond_39 (tgt := 46) (by decide) (n := 42) rfl (fun c1 => ?_) (fun c1 => ?_)
  ·
    refine k_iconst S dX1_takeSidesBeyond_46 (v := 0) (by decide) (n := 47) rfl ?_
    rw [if_pos c1] at hJ2
    exact hJ2
  ·
    refine k_iconst S dX1_takeSidesBeyond_42 (v := 1) (by decide) (n := 43) rfl ?_
    refine k_goto S dX1_takeSidesBeyond_43 (tgt := 47) (by decide) ?_
    rw [if_neg c1] at hJ2
    exact hJ2
def r_X1_take (f : Nat → Int32) (m : Int32) (ce : Int32) (w : Int32) : Nat → Int32 := (upd (upd (r_X1_takeSidesBeyond (r_X1_takeDirection (r_X1_takeCenterSide f (zdir ce m)) ((if ((r_X1_takeCenterSide f (zdir ce m)) 0) = 0 then (0 : Int32) else zdir ((r_X1_takeCenterSide f (zdir ce m)) 1) m))) m ce w) 1 m) 0 (((r_X1_takeSidesBeyond (r_X1_takeDirection (r_X1_takeCenterSide f (zdir ce m)) ((if ((r_X1_takeCenterSide f (zdir ce m)) 0) = 0 then (0 : Int32) else zdir ((r_X1_takeCenterSide f (zdir ce m)) 1) m))) m ce w) 0) + 1))
set_option maxRecDepth 100000 in
set_option maxHeartbeats 4000000 in
theorem c_X1_take {l : Launch} {g : zG} {μ : zM} {f : Nat → Int32} {m : Int32} {ce : Int32} {w : Int32} {k : Nat} (hk : k < 10) (hk7 : 11 + k ≠ 7) (hc : μ.1 (11 + k) 5 = ce) (hw : μ.1 (11 + k) 7 = w) : zC l g yX1_take cX1_take 3 none ({ frames := 2, cells := 0, slots := 0, locals := 44 } : Room) 0 0 [.ref (za g 7), .int m, .ref (za g (11 + k))] (zset μ 7 f) (zRv none (zset μ 7 (r_X1_take f m ce w))) zNX := by
  refine zC_of (L0 := [some (.ref (za g 7)), some (.int m), some (.ref (za g (11 + k)))]) (plainFor_of_name (by decide)) (Nat.le_of_ble_eq_true rfl) rfl ?_
  intro x S Y hxl
  subst hxl
  refine k_aload0 S dX1_take_0 (n := 1) rfl ?_
  refine k_aload2 S dX1_take_1 (n := 2) rfl ?_
  refine k_iload1 S dX1_take_2 (n := 3) rfl ?_
  refine k_callV (As := [.int m]) (rest := [.ref (za g 7)]) (p := 11 + k) S (c_X0_side (k := k) hk (ce := ce) (by simp only [zset_off _ _ hk7]; exact hc)) mv_X0_sideOfCenter m_223 dX1_take_3 rfl rfl ⟨by decide, by decide⟩ (zlt S (by omega)) (zki_ph hk) (ci := 0) rfl rfl rfl (Nat.le_of_ble_eq_true rfl) ⟨by decide, by decide⟩ (n := 6) rfl (fun _ _ h => h.elim) (fun v9 ν9 h9 => ?_)
  rw [h9.1, h9.2]
  show zK x g ({ frames := 2, cells := 0, slots := 0, locals := 44 } : Room) 3 0 0 6 [some (.ref (za g 7)), some (.int m), some (.ref (za g (11 + k)))] [.int (zdir ce m), .ref (za g 7)] (zset μ 7 f)
  refine k_callV (As := [.int (zdir ce m)]) (rest := []) (p := 7) S (c_X1_takeCenterSide) mv_X1_takeCenterSide m_230 dX1_take_6 rfl rfl ⟨by decide, by decide⟩ (zlt S (by decide)) (by decide) (ci := 1) rfl rfl rfl (Nat.le_of_ble_eq_true rfl) ⟨by decide, by decide⟩ (n := 9) rfl (fun _ _ h => h.elim) (fun v9 ν9 h9 => ?_)
  rw [h9.1, h9.2]
  show zK x g ({ frames := 2, cells := 0, slots := 0, locals := 44 } : Room) 3 0 0 9 [some (.ref (za g 7)), some (.int m), some (.ref (za g (11 + k)))] [] (zset μ 7 (r_X1_takeCenterSide f (zdir ce m)))
  refine k_aload0 S dX1_take_9 (n := 10) rfl ?_
  refine k_aload0 S dX1_take_10 (n := 11) rfl ?_
  refine k_getv (v := (r_X1_takeCenterSide f (zdir ce m)) 0) (T := TX1) (j := 0) S dX1_take_11 (zlt S (by decide)) (by decide) (ci := 1) rfl rfl (by decide) in_1 m_73 rfl rfl (by simp [zu, zset, upd]) (n := 14) rfl ?_
  have hJ2 : zK x g ({ frames := 2, cells := 0, slots := 0, locals := 44 } : Room) 3 0 0 29 [some (.ref (za g 7)), some (.int m), some (.ref (za g (11 + k)))] [.int ((if ((r_X1_takeCenterSide f (zdir ce m)) 0) = 0 then (0 : Int32) else zdir ((r_X1_takeCenterSide f (zdir ce m)) 1) m)), .ref (za g 7)] (zset μ 7 (r_X1_takeCenterSide f (zdir ce m))) := by
    refine k_callV (As := [.int ((if ((r_X1_takeCenterSide f (zdir ce m)) 0) = 0 then (0 : Int32) else zdir ((r_X1_takeCenterSide f (zdir ce m)) 1) m))]) (rest := []) (p := 7) S (c_X1_takeDirection) mv_X1_takeDirection m_235 dX1_take_29 rfl rfl ⟨by decide, by decide⟩ (zlt S (by decide)) (by decide) (ci := 1) rfl rfl rfl (Nat.le_of_ble_eq_true rfl) ⟨by decide, by decide⟩ (n := 32) rfl (fun _ _ h => h.elim) (fun v9 ν9 h9 => ?_)
    rw [h9.1, h9.2]
    show zK x g ({ frames := 2, cells := 0, slots := 0, locals := 44 } : Room) 3 0 0 32 [some (.ref (za g 7)), some (.int m), some (.ref (za g (11 + k)))] [] (zset μ 7 (r_X1_takeDirection (r_X1_takeCenterSide f (zdir ce m)) ((if ((r_X1_takeCenterSide f (zdir ce m)) 0) = 0 then (0 : Int32) else zdir ((r_X1_takeCenterSide f (zdir ce m)) 1) m))))
    refine k_aload0 S dX1_take_32 (n := 33) rfl ?_
    refine k_iload1 S dX1_take_33 (n := 34) rfl ?_
    refine k_aload2 S dX1_take_34 (n := 35) rfl ?_
    refine k_callV (As := [.int m, .ref (za g (11 + k))]) (rest := []) (p := 7) S (c_X1_takeSidesBeyond hk hk7 hc hw) mv_X1_takeSidesBeyond m_239 dX1_take_35 rfl rfl ⟨by decide, by decide⟩ (zlt S (by decide)) (by decide) (ci := 1) rfl rfl rfl (Nat.le_of_ble_eq_true rfl) ⟨by decide, by decide⟩ (n := 38) rfl (fun _ _ h => h.elim) (fun v9 ν9 h9 => ?_)
    rw [h9.1, h9.2]
    show zK x g ({ frames := 2, cells := 0, slots := 0, locals := 44 } : Room) 3 0 0 38 [some (.ref (za g 7)), some (.int m), some (.ref (za g (11 + k)))] [] (zset μ 7 (r_X1_takeSidesBeyond (r_X1_takeDirection (r_X1_takeCenterSide f (zdir ce m)) ((if ((r_X1_takeCenterSide f (zdir ce m)) 0) = 0 then (0 : Int32) else zdir ((r_X1_takeCenterSide f (zdir ce m)) 1) m))) m ce w))
    refine k_aload0 S dX1_take_38 (n := 39) rfl ?_
    refine k_iload1 S dX1_take_39 (n := 40) rfl ?_
    refine k_putz (T := TX1) (j := 1) S dX1_take_40 (zlt S (by decide)) (by decide) (ci := 1) rfl rfl (by decide) in_1 m_74 rfl rfl (ty0 := tyX1) tyX1_ok nmX1 rfl rfl rfl (n := 43) rfl ?_
    refine k_aload0 S dX1_take_43 (n := 44) rfl ?_
    refine k_dup S dX1_take_44 rfl (n := 45) rfl ?_
    refine k_getv (v := (r_X1_takeSidesBeyond (r_X1_takeDirection (r_X1_takeCenterSide f (zdir ce m)) ((if ((r_X1_takeCenterSide f (zdir ce m)) 0) = 0 then (0 : Int32) else zdir ((r_X1_takeCenterSide f (zdir ce m)) 1) m))) m ce w) 0) (T := TX1) (j := 0) S dX1_take_45 (zlt S (by decide)) (by decide) (ci := 1) rfl rfl (by decide) in_1 m_73 rfl rfl (by simp [zu, zset, upd]) (n := 48) rfl ?_
    refine k_iconst S dX1_take_48 (v := 1) (by decide) (n := 49) rfl ?_
    refine k_iadd S dX1_take_49 (n := 50) rfl ?_
    refine k_putz (T := TX1) (j := 0) S dX1_take_50 (zlt S (by decide)) (by decide) (ci := 1) rfl rfl (by decide) in_1 m_73 rfl rfl (ty0 := tyX1) tyX1_ok nmX1 rfl rfl rfl (n := 53) rfl ?_
    exact k_vret S Y dX1_take_53 (by decide) (by decide) (⟨rfl, rfl⟩)
  refine k_if_ne S dX1_take_14 (tgt := 21) (by decide) (n := 17) rfl (fun c1 => ?_) (fun c1 => ?_)
  ·
    refine k_aload0 S dX1_take_21 (n := 22) rfl ?_
    refine k_getv (v := (r_X1_takeCenterSide f (zdir ce m)) 1) (T := TX1) (j := 1) S dX1_take_22 (zlt S (by decide)) (by decide) (ci := 1) rfl rfl (by decide) in_1 m_74 rfl rfl (by simp [zu, zset, upd]) (n := 25) rfl ?_
    refine k_iload1 S dX1_take_25 (n := 26) rfl ?_
    refine k_callSN (As := [.int ((r_X1_takeCenterSide f (zdir ce m)) 1), .int m]) (rest := [.ref (za g 7)]) (host := RX3) S (c_X3_direction) mv_X3_direction (by decide +kernel) dX1_take_26 rfl rfl ⟨by decide, by decide⟩ rfl rfl (Nat.le_of_ble_eq_true rfl) ⟨by decide, by decide⟩ (n := 29) rfl (fun _ _ h => h.elim) (fun v9 ν9 h9 => ?_)
    rw [h9.1, h9.2]
    show zK x g ({ frames := 2, cells := 0, slots := 0, locals := 44 } : Room) 3 0 0 29 [some (.ref (za g 7)), some (.int m), some (.ref (za g (11 + k)))] [.int (zdir ((r_X1_takeCenterSide f (zdir ce m)) 1) m), .ref (za g 7)] (zset μ 7 (r_X1_takeCenterSide f (zdir ce m)))
    rw [if_neg c1] at hJ2
    exact hJ2
  ·
    refine k_iconst S dX1_take_17 (v := 0) (by decide) (n := 18) rfl ?_
    refine k_goto S dX1_take_18 (tgt := 29) (by decide) ?_
    rw [if_pos c1] at hJ2
    exact hJ2
end
section
/-! WHAT RUNCOUNTS SAYS; THE WINDOW (places 8, 9, 10): lv j = μ.1 10 j -/
noncomputable def zpb (P : Prop) : Int32 := @ite Int32 P (Classical.propDecidable P) 1 0
theorem zpb_t {P : Prop} (h : P) : zpb P = 1 := @if_pos P (Classical.propDecidable P) h Int32 1 0
theorem zpb_f {P : Prop} (h : ¬ P) : zpb P = 0 := @if_neg P (Classical.propDecidable P) h Int32 1 0
theorem zpb_c {P Q : Prop} (h : P ↔ Q) : zpb P = zpb Q := by rw [propext h]
theorem zpb_0 {P : Prop} : zpb P = 0 ↔ ¬ P := by
  by_cases h : P
  · rw [zpb_t h]; exact ⟨fun q => absurd q (by decide), fun q => absurd h q⟩
  · rw [zpb_f h]; exact ⟨fun _ => h, fun _ => rfl⟩
theorem zpb_i {P : Prop} [Decidable P] : (if P then (1 : Int32) else 0) = zpb P := by
  by_cases h : P
  · rw [if_pos h, zpb_t h]
  · rw [if_neg h, zpb_f h]
theorem zpb_n {P : Prop} [Decidable P] : (if P then (0 : Int32) else 1) = zpb (¬ P) := by
  by_cases h : P
  · rw [if_pos h, zpb_f (fun q => q h)]
  · rw [if_neg h, zpb_t h]
theorem zpb_nar (P : Prop) : narrow .boolean (.int (zpb P)) = .int (zpb P) := by
  by_cases h : P
  · rw [zpb_t h]; rfl
  · rw [zpb_f h]; rfl
noncomputable def zct (p : Nat → Prop) : Nat → Nat
  | 0 => 0
  | n + 1 => zct p n + @ite Nat (p n) (Classical.propDecidable (p n)) 1 0
theorem zct_t {p : Nat → Prop} {n : Nat} (h : p n) : zct p (n + 1) = zct p n + 1 := by
  show zct p n + _ = _
  rw [@if_pos _ (Classical.propDecidable (p n)) h]
theorem zct_f {p : Nat → Prop} {n : Nat} (h : ¬ p n) : zct p (n + 1) = zct p n := by
  show zct p n + _ = _
  rw [@if_neg _ (Classical.propDecidable (p n)) h]
  rfl
theorem zct_le (p : Nat → Prop) : ∀ n, zct p n ≤ n
  | 0 => Nat.le_refl _
  | n + 1 => by
    have := zct_le p n
    by_cases h : p n
    · rw [zct_t h]; omega
    · rw [zct_f h]; omega
theorem zct_s (p : Nat → Prop) (i : Nat) [Decidable (p i)] : nI (zct p i) + (if p i then (1 : Int32) else 0) = nI (zct p (i + 1)) := by
  by_cases h : p i
  · rw [if_pos h, zct_t h]; exact nI_1 _
  · rw [if_neg h, zct_f h]; exact Int32.add_zero _
theorem zct_n (p : Nat → Prop) (i : Nat) [Decidable (p i)] : nI (zct (fun i => ¬ p i) i) + (if p i then (0 : Int32) else 1) = nI (zct (fun i => ¬ p i) (i + 1)) := by
  by_cases h : p i
  · rw [if_pos h, zct_f (fun q => q h)]; exact Int32.add_zero _
  · rw [if_neg h, zct_t h]; exact nI_1 _
theorem zi1 (i : Nat) : nI i + Int32.ofInt 1 = nI (i + 1) := nI_1 i
theorem c_pr1 {l : Launch} {g : zG} {μ : zM} : zC l g yX3_pointsOfRule cX3_pointsOfRule 1 (some .int) ({ frames := 0, cells := 0, slots := 0, locals := 0 } : Room) 0 0 [.int 1] μ (zRv (some (.int 1)) μ) zNX := c_X3_pointsOfRule (j := 0) (by omega)
theorem c_pr2 {l : Launch} {g : zG} {μ : zM} : zC l g yX3_pointsOfRule cX3_pointsOfRule 1 (some .int) ({ frames := 0, cells := 0, slots := 0, locals := 0 } : Room) 0 0 [.int 2] μ (zRv (some (.int 9)) μ) zNX := c_X3_pointsOfRule (j := 1) (by omega)
theorem c_pr3 {l : Launch} {g : zG} {μ : zM} : zC l g yX3_pointsOfRule cX3_pointsOfRule 1 (some .int) ({ frames := 0, cells := 0, slots := 0, locals := 0 } : Room) 0 0 [.int 3] μ (zRv (some (.int 6)) μ) zNX := c_X3_pointsOfRule (j := 2) (by omega)
theorem c_pr4 {l : Launch} {g : zG} {μ : zM} : zC l g yX3_pointsOfRule cX3_pointsOfRule 1 (some .int) ({ frames := 0, cells := 0, slots := 0, locals := 0 } : Room) 0 0 [.int 4] μ (zRv (some (.int 14)) μ) zNX := c_X3_pointsOfRule (j := 3) (by omega)
theorem c_pr5 {l : Launch} {g : zG} {μ : zM} : zC l g yX3_pointsOfRule cX3_pointsOfRule 1 (some .int) ({ frames := 0, cells := 0, slots := 0, locals := 0 } : Room) 0 0 [.int 5] μ (zRv (some (.int 3)) μ) zNX := c_X3_pointsOfRule (j := 4) (by omega)
theorem c_pr6 {l : Launch} {g : zG} {μ : zM} : zC l g yX3_pointsOfRule cX3_pointsOfRule 1 (some .int) ({ frames := 0, cells := 0, slots := 0, locals := 0 } : Room) 0 0 [.int 6] μ (zRv (some (.int 5)) μ) zNX := c_X3_pointsOfRule (j := 5) (by omega)
theorem c_pr7 {l : Launch} {g : zG} {μ : zM} : zC l g yX3_pointsOfRule cX3_pointsOfRule 1 (some .int) ({ frames := 0, cells := 0, slots := 0, locals := 0 } : Room) 0 0 [.int 7] μ (zRv (some (.int 15)) μ) zNX := c_X3_pointsOfRule (j := 6) (by omega)
theorem c_pr8 {l : Launch} {g : zG} {μ : zM} : zC l g yX3_pointsOfRule cX3_pointsOfRule 1 (some .int) ({ frames := 0, cells := 0, slots := 0, locals := 0 } : Room) 0 0 [.int 8] μ (zRv (some (.int 8)) μ) zNX := c_X3_pointsOfRule (j := 7) (by omega)
set_option maxRecDepth 100000 in
set_option maxHeartbeats 4000000 in
theorem c_X1_isOften {l : Launch} {g : zG} {a b c d : Int32} {μ : zM} : zC l g yX1_isOften cX1_isOften 4 (some .boolean) ({ frames := 1, cells := 0, slots := 0, locals := 20 } : Room) 0 0 [.int a, .int b, .int c, .int d] μ (zRv (some (.int (if a = 0 then 0 else (if a ≤ 0 then (if (zbc c) < d then 0 else 1) else (if (zbc b) < d then 0 else 1))))) μ) zNX := by
  refine zC_of (L0 := [some (.int a), some (.int b), some (.int c), some (.int d)]) (plainFor_of_name (by decide)) (Nat.le_of_ble_eq_true rfl) rfl ?_
  intro x S Y hxl
  subst hxl
  refine k_iload0 S dX1_isOften_0 (n := 1) rfl ?_
  have hJ2 : zK x g ({ frames := 1, cells := 0, slots := 0, locals := 20 } : Room) 4 0 0 25 [some (.int a), some (.int b), some (.int c), some (.int d)] [.int ((if a = 0 then (0 : Int32) else (if a ≤ 0 then (if (zbc c) < d then (0 : Int32) else (1 : Int32)) else (if (zbc b) < d then (0 : Int32) else (1 : Int32)))))] μ := by
    exact k_iret S Y dX1_isOften_25 (by decide) (by decide) (by repeat' (first | rfl | split)) (⟨rfl, rfl⟩)
  refine k_if_eq S dX1_isOften_1 (tgt := 24) (by decide) (n := 4) rfl (fun c1 => ?_) (fun c1 => ?_)
  ·
    refine k_iconst S dX1_isOften_24 (v := 0) (by decide) (n := 25) rfl ?_
    rw [if_pos c1] at hJ2
    exact hJ2
  ·
    refine k_iload0 S dX1_isOften_4 (n := 5) rfl ?_
    refine k_if_le S dX1_isOften_5 (tgt := 12) (by decide) (n := 8) rfl (fun c3 => ?_) (fun c3 => ?_)
    ·
      refine k_iload2 S dX1_isOften_12 (n := 13) rfl ?_
      refine k_callS (As := [.int c]) (rest := []) S (c_J6_bitCount_0f7a4) mv_J6_bitCount_0f7a4 m_265 dX1_isOften_13 rfl rfl ⟨by decide, by decide⟩ rfl rfl (Nat.le_of_ble_eq_true rfl) ⟨by decide, by decide⟩ (n := 16) rfl (fun _ _ h => h.elim) (fun v9 ν9 h9 => ?_)
      rw [h9.1, h9.2]
      show zK x g ({ frames := 1, cells := 0, slots := 0, locals := 20 } : Room) 4 0 0 16 [some (.int a), some (.int b), some (.int c), some (.int d)] [.int (zbc c)] μ
      refine k_iload3 S dX1_isOften_16 (n := 17) rfl ?_
      refine k_icmp_lt S dX1_isOften_17 (tgt := 24) (by decide) (n := 20) rfl (fun c4 => ?_) (fun c4 => ?_)
      ·
        refine k_iconst S dX1_isOften_24 (v := 0) (by decide) (n := 25) rfl ?_
        rw [if_neg c1, if_pos c3, if_pos c4] at hJ2
        exact hJ2
      ·
        refine k_iconst S dX1_isOften_20 (v := 1) (by decide) (n := 21) rfl ?_
        refine k_goto S dX1_isOften_21 (tgt := 25) (by decide) ?_
        rw [if_neg c1, if_pos c3, if_neg c4] at hJ2
        exact hJ2
    ·
      refine k_iload1 S dX1_isOften_8 (n := 9) rfl ?_
      refine k_goto S dX1_isOften_9 (tgt := 13) (by decide) ?_
      refine k_callS (As := [.int b]) (rest := []) S (c_J6_bitCount_0f7a4) mv_J6_bitCount_0f7a4 m_265 dX1_isOften_13 rfl rfl ⟨by decide, by decide⟩ rfl rfl (Nat.le_of_ble_eq_true rfl) ⟨by decide, by decide⟩ (n := 16) rfl (fun _ _ h => h.elim) (fun v9 ν9 h9 => ?_)
      rw [h9.1, h9.2]
      show zK x g ({ frames := 1, cells := 0, slots := 0, locals := 20 } : Room) 4 0 0 16 [some (.int a), some (.int b), some (.int c), some (.int d)] [.int (zbc b)] μ
      refine k_iload3 S dX1_isOften_16 (n := 17) rfl ?_
      refine k_icmp_lt S dX1_isOften_17 (tgt := 24) (by decide) (n := 20) rfl (fun c5 => ?_) (fun c5 => ?_)
      ·
        refine k_iconst S dX1_isOften_24 (v := 0) (by decide) (n := 25) rfl ?_
        rw [if_neg c1, if_neg c3, if_pos c5] at hJ2
        exact hJ2
      ·
        refine k_iconst S dX1_isOften_20 (v := 1) (by decide) (n := 21) rfl ?_
        refine k_goto S dX1_isOften_21 (tgt := 25) (by decide) ?_
        rw [if_neg c1, if_neg c3, if_neg c5] at hJ2
        exact hJ2
def v_X1_brokenRules (f : Nat → Int32) : Int32 := (((((((zbo 1 ((if (f 9) = 0 then (0 : Int32) else (1 : Int32)))) ||| (zbo 2 ((if (f 4) < 9 then (0 : Int32) else (1 : Int32))))) ||| (zbo 3 ((if (f 5) < 6 then (0 : Int32) else (1 : Int32))))) ||| (zbo 4 ((if (f 6) < 14 then (0 : Int32) else (1 : Int32))))) ||| (zbo 5 ((if (f 0) < 3 then (0 : Int32) else (if ((if (f 10) = 0 then (0 : Int32) else (if (f 10) ≤ 0 then (if (zbc (f 13)) < 2 then 0 else 1) else (if (zbc (f 12)) < 2 then 0 else 1)))) = 0 then (0 : Int32) else (1 : Int32)))))) ||| (zbo 6 ((if (f 0) < 5 then (0 : Int32) else (if ((if (f 11) = 0 then (0 : Int32) else (if (f 11) ≤ 0 then (if (zbc (f 15)) < 4 then 0 else 1) else (if (zbc (f 14)) < 4 then 0 else 1)))) = 0 then (0 : Int32) else (1 : Int32)))))) ||| (zbo 7 ((if (f 7) < 15 then (0 : Int32) else (1 : Int32))))) ||| (zbo 8 ((if (f 8) < 8 then (0 : Int32) else (1 : Int32))))
set_option maxRecDepth 100000 in
set_option maxHeartbeats 4000000 in
theorem c_X1_brokenRules {l : Launch} {g : zG} {μ : zM} {f : Nat → Int32} : zC l g yX1_brokenRules cX1_brokenRules 1 (some .int) ({ frames := 2, cells := 0, slots := 0, locals := 43 } : Room) 0 0 [.ref (za g 7)] (zset μ 7 f) (zRv (some (.int (v_X1_brokenRules f))) (zset μ 7 f)) zNX := by
  refine zC_of (L0 := [some (.ref (za g 7))]) (plainFor_of_name (by decide)) (Nat.le_of_ble_eq_true rfl) rfl ?_
  intro x S Y hxl
  subst hxl
  refine k_iconst S dX1_brokenRules_0 (v := 1) (by decide) (n := 1) rfl ?_
  refine k_aload0 S dX1_brokenRules_1 (n := 2) rfl ?_
  refine k_getv (v := f 9) (T := TX1) (j := 9) S dX1_brokenRules_2 (zlt S (by decide)) (by decide) (ci := 1) rfl rfl (by decide) in_1 m_82 rfl rfl (by simp [zu, zset, upd]) (n := 5) rfl ?_
  have hJ2 : zK x g ({ frames := 2, cells := 0, slots := 0, locals := 43 } : Room) 1 0 0 13 [some (.ref (za g 7))] [.int ((if (f 9) = 0 then (0 : Int32) else (1 : Int32))), .int 1] (zset μ 7 f) := by
    refine k_callS (As := [.int 1, .int ((if (f 9) = 0 then (0 : Int32) else (1 : Int32)))]) (rest := []) S (c_X1_bitOf) mv_X1_bitOf m_254 dX1_brokenRules_13 rfl rfl ⟨by decide, by decide⟩ rfl rfl (Nat.le_of_ble_eq_true rfl) ⟨by decide, by decide⟩ (n := 16) rfl (fun _ _ h => h.elim) (fun v9 ν9 h9 => ?_)
    rw [h9.1, h9.2]
    show zK x g ({ frames := 2, cells := 0, slots := 0, locals := 43 } : Room) 1 0 0 16 [some (.ref (za g 7))] [.int (zbo 1 ((if (f 9) = 0 then (0 : Int32) else (1 : Int32))))] (zset μ 7 f)
    refine k_iconst S dX1_brokenRules_16 (v := 2) (by decide) (n := 17) rfl ?_
    refine k_aload0 S dX1_brokenRules_17 (n := 18) rfl ?_
    refine k_getv (v := f 4) (T := TX1) (j := 4) S dX1_brokenRules_18 (zlt S (by decide)) (by decide) (ci := 1) rfl rfl (by decide) in_1 m_77 rfl rfl (by simp [zu, zset, upd]) (n := 21) rfl ?_
    refine k_iconst S dX1_brokenRules_21 (v := 2) (by decide) (n := 22) rfl ?_
    refine k_callSN (As := [.int 2]) (rest := [.int (f 4), .int 2, .int (zbo 1 ((if (f 9) = 0 then (0 : Int32) else (1 : Int32))))]) (host := RX3) S (c_pr2) mv_X3_pointsOfRule (by decide +kernel) dX1_brokenRules_22 rfl rfl ⟨by decide, by decide⟩ rfl rfl (Nat.le_of_ble_eq_true rfl) ⟨by decide, by decide⟩ (n := 25) rfl (fun _ _ h => h.elim) (fun v9 ν9 h9 => ?_)
    rw [h9.1, h9.2]
    show zK x g ({ frames := 2, cells := 0, slots := 0, locals := 43 } : Room) 1 0 0 25 [some (.ref (za g 7))] [.int 9, .int (f 4), .int 2, .int (zbo 1 ((if (f 9) = 0 then (0 : Int32) else (1 : Int32))))] (zset μ 7 f)
    have hJ4 : zK x g ({ frames := 2, cells := 0, slots := 0, locals := 43 } : Room) 1 0 0 33 [some (.ref (za g 7))] [.int ((if (f 4) < 9 then (0 : Int32) else (1 : Int32))), .int 2, .int (zbo 1 ((if (f 9) = 0 then (0 : Int32) else (1 : Int32))))] (zset μ 7 f) := by
      refine k_callS (As := [.int 2, .int ((if (f 4) < 9 then (0 : Int32) else (1 : Int32)))]) (rest := [.int (zbo 1 ((if (f 9) = 0 then (0 : Int32) else (1 : Int32))))]) S (c_X1_bitOf) mv_X1_bitOf m_254 dX1_brokenRules_33 rfl rfl ⟨by decide, by decide⟩ rfl rfl (Nat.le_of_ble_eq_true rfl) ⟨by decide, by decide⟩ (n := 36) rfl (fun _ _ h => h.elim) (fun v9 ν9 h9 => ?_)
      rw [h9.1, h9.2]
      show zK x g ({ frames := 2, cells := 0, slots := 0, locals := 43 } : Room) 1 0 0 36 [some (.ref (za g 7))] [.int (zbo 2 ((if (f 4) < 9 then (0 : Int32) else (1 : Int32)))), .int (zbo 1 ((if (f 9) = 0 then (0 : Int32) else (1 : Int32))))] (zset μ 7 f)
      refine k_ior S dX1_brokenRules_36 (n := 37) rfl ?_
      refine k_iconst S dX1_brokenRules_37 (v := 3) (by decide) (n := 38) rfl ?_
      refine k_aload0 S dX1_brokenRules_38 (n := 39) rfl ?_
      refine k_getv (v := f 5) (T := TX1) (j := 5) S dX1_brokenRules_39 (zlt S (by decide)) (by decide) (ci := 1) rfl rfl (by decide) in_1 m_78 rfl rfl (by simp [zu, zset, upd]) (n := 42) rfl ?_
      refine k_iconst S dX1_brokenRules_42 (v := 3) (by decide) (n := 43) rfl ?_
      refine k_callSN (As := [.int 3]) (rest := [.int (f 5), .int 3, .int ((zbo 1 ((if (f 9) = 0 then (0 : Int32) else (1 : Int32)))) ||| (zbo 2 ((if (f 4) < 9 then (0 : Int32) else (1 : Int32)))))]) (host := RX3) S (c_pr3) mv_X3_pointsOfRule (by decide +kernel) dX1_brokenRules_43 rfl rfl ⟨by decide, by decide⟩ rfl rfl (Nat.le_of_ble_eq_true rfl) ⟨by decide, by decide⟩ (n := 46) rfl (fun _ _ h => h.elim) (fun v9 ν9 h9 => ?_)
      rw [h9.1, h9.2]
      show zK x g ({ frames := 2, cells := 0, slots := 0, locals := 43 } : Room) 1 0 0 46 [some (.ref (za g 7))] [.int 6, .int (f 5), .int 3, .int ((zbo 1 ((if (f 9) = 0 then (0 : Int32) else (1 : Int32)))) ||| (zbo 2 ((if (f 4) < 9 then (0 : Int32) else (1 : Int32)))))] (zset μ 7 f)
      have hJ6 : zK x g ({ frames := 2, cells := 0, slots := 0, locals := 43 } : Room) 1 0 0 54 [some (.ref (za g 7))] [.int ((if (f 5) < 6 then (0 : Int32) else (1 : Int32))), .int 3, .int ((zbo 1 ((if (f 9) = 0 then (0 : Int32) else (1 : Int32)))) ||| (zbo 2 ((if (f 4) < 9 then (0 : Int32) else (1 : Int32)))))] (zset μ 7 f) := by
        refine k_callS (As := [.int 3, .int ((if (f 5) < 6 then (0 : Int32) else (1 : Int32)))]) (rest := [.int ((zbo 1 ((if (f 9) = 0 then (0 : Int32) else (1 : Int32)))) ||| (zbo 2 ((if (f 4) < 9 then (0 : Int32) else (1 : Int32)))))]) S (c_X1_bitOf) mv_X1_bitOf m_254 dX1_brokenRules_54 rfl rfl ⟨by decide, by decide⟩ rfl rfl (Nat.le_of_ble_eq_true rfl) ⟨by decide, by decide⟩ (n := 57) rfl (fun _ _ h => h.elim) (fun v9 ν9 h9 => ?_)
        rw [h9.1, h9.2]
        show zK x g ({ frames := 2, cells := 0, slots := 0, locals := 43 } : Room) 1 0 0 57 [some (.ref (za g 7))] [.int (zbo 3 ((if (f 5) < 6 then (0 : Int32) else (1 : Int32)))), .int ((zbo 1 ((if (f 9) = 0 then (0 : Int32) else (1 : Int32)))) ||| (zbo 2 ((if (f 4) < 9 then (0 : Int32) else (1 : Int32)))))] (zset μ 7 f)
        refine k_ior S dX1_brokenRules_57 (n := 58) rfl ?_
        refine k_iconst S dX1_brokenRules_58 (v := 4) (by decide) (n := 59) rfl ?_
        refine k_aload0 S dX1_brokenRules_59 (n := 60) rfl ?_
        refine k_getv (v := f 6) (T := TX1) (j := 6) S dX1_brokenRules_60 (zlt S (by decide)) (by decide) (ci := 1) rfl rfl (by decide) in_1 m_79 rfl rfl (by simp [zu, zset, upd]) (n := 63) rfl ?_
        refine k_iconst S dX1_brokenRules_63 (v := 4) (by decide) (n := 64) rfl ?_
        refine k_callSN (As := [.int 4]) (rest := [.int (f 6), .int 4, .int (((zbo 1 ((if (f 9) = 0 then (0 : Int32) else (1 : Int32)))) ||| (zbo 2 ((if (f 4) < 9 then (0 : Int32) else (1 : Int32))))) ||| (zbo 3 ((if (f 5) < 6 then (0 : Int32) else (1 : Int32)))))]) (host := RX3) S (c_pr4) mv_X3_pointsOfRule (by decide +kernel) dX1_brokenRules_64 rfl rfl ⟨by decide, by decide⟩ rfl rfl (Nat.le_of_ble_eq_true rfl) ⟨by decide, by decide⟩ (n := 67) rfl (fun _ _ h => h.elim) (fun v9 ν9 h9 => ?_)
        rw [h9.1, h9.2]
        show zK x g ({ frames := 2, cells := 0, slots := 0, locals := 43 } : Room) 1 0 0 67 [some (.ref (za g 7))] [.int 14, .int (f 6), .int 4, .int (((zbo 1 ((if (f 9) = 0 then (0 : Int32) else (1 : Int32)))) ||| (zbo 2 ((if (f 4) < 9 then (0 : Int32) else (1 : Int32))))) ||| (zbo 3 ((if (f 5) < 6 then (0 : Int32) else (1 : Int32)))))] (zset μ 7 f)
        have hJ8 : zK x g ({ frames := 2, cells := 0, slots := 0, locals := 43 } : Room) 1 0 0 75 [some (.ref (za g 7))] [.int ((if (f 6) < 14 then (0 : Int32) else (1 : Int32))), .int 4, .int (((zbo 1 ((if (f 9) = 0 then (0 : Int32) else (1 : Int32)))) ||| (zbo 2 ((if (f 4) < 9 then (0 : Int32) else (1 : Int32))))) ||| (zbo 3 ((if (f 5) < 6 then (0 : Int32) else (1 : Int32)))))] (zset μ 7 f) := by
          refine k_callS (As := [.int 4, .int ((if (f 6) < 14 then (0 : Int32) else (1 : Int32)))]) (rest := [.int (((zbo 1 ((if (f 9) = 0 then (0 : Int32) else (1 : Int32)))) ||| (zbo 2 ((if (f 4) < 9 then (0 : Int32) else (1 : Int32))))) ||| (zbo 3 ((if (f 5) < 6 then (0 : Int32) else (1 : Int32)))))]) S (c_X1_bitOf) mv_X1_bitOf m_254 dX1_brokenRules_75 rfl rfl ⟨by decide, by decide⟩ rfl rfl (Nat.le_of_ble_eq_true rfl) ⟨by decide, by decide⟩ (n := 78) rfl (fun _ _ h => h.elim) (fun v9 ν9 h9 => ?_)
          rw [h9.1, h9.2]
          show zK x g ({ frames := 2, cells := 0, slots := 0, locals := 43 } : Room) 1 0 0 78 [some (.ref (za g 7))] [.int (zbo 4 ((if (f 6) < 14 then (0 : Int32) else (1 : Int32)))), .int (((zbo 1 ((if (f 9) = 0 then (0 : Int32) else (1 : Int32)))) ||| (zbo 2 ((if (f 4) < 9 then (0 : Int32) else (1 : Int32))))) ||| (zbo 3 ((if (f 5) < 6 then (0 : Int32) else (1 : Int32)))))] (zset μ 7 f)
          refine k_ior S dX1_brokenRules_78 (n := 79) rfl ?_
          refine k_iconst S dX1_brokenRules_79 (v := 5) (by decide) (n := 80) rfl ?_
          refine k_aload0 S dX1_brokenRules_80 (n := 81) rfl ?_
          refine k_getv (v := f 0) (T := TX1) (j := 0) S dX1_brokenRules_81 (zlt S (by decide)) (by decide) (ci := 1) rfl rfl (by decide) in_1 m_73 rfl rfl (by simp [zu, zset, upd]) (n := 84) rfl ?_
          refine k_iconst S dX1_brokenRules_84 (v := 5) (by decide) (n := 85) rfl ?_
          refine k_callSN (As := [.int 5]) (rest := [.int (f 0), .int 5, .int ((((zbo 1 ((if (f 9) = 0 then (0 : Int32) else (1 : Int32)))) ||| (zbo 2 ((if (f 4) < 9 then (0 : Int32) else (1 : Int32))))) ||| (zbo 3 ((if (f 5) < 6 then (0 : Int32) else (1 : Int32))))) ||| (zbo 4 ((if (f 6) < 14 then (0 : Int32) else (1 : Int32)))))]) (host := RX3) S (c_pr5) mv_X3_pointsOfRule (by decide +kernel) dX1_brokenRules_85 rfl rfl ⟨by decide, by decide⟩ rfl rfl (Nat.le_of_ble_eq_true rfl) ⟨by decide, by decide⟩ (n := 88) rfl (fun _ _ h => h.elim) (fun v9 ν9 h9 => ?_)
          rw [h9.1, h9.2]
          show zK x g ({ frames := 2, cells := 0, slots := 0, locals := 43 } : Room) 1 0 0 88 [some (.ref (za g 7))] [.int 3, .int (f 0), .int 5, .int ((((zbo 1 ((if (f 9) = 0 then (0 : Int32) else (1 : Int32)))) ||| (zbo 2 ((if (f 4) < 9 then (0 : Int32) else (1 : Int32))))) ||| (zbo 3 ((if (f 5) < 6 then (0 : Int32) else (1 : Int32))))) ||| (zbo 4 ((if (f 6) < 14 then (0 : Int32) else (1 : Int32)))))] (zset μ 7 f)
          have hJ10 : zK x g ({ frames := 2, cells := 0, slots := 0, locals := 43 } : Room) 1 0 0 115 [some (.ref (za g 7))] [.int ((if (f 0) < 3 then (0 : Int32) else (if ((if (f 10) = 0 then (0 : Int32) else (if (f 10) ≤ 0 then (if (zbc (f 13)) < 2 then 0 else 1) else (if (zbc (f 12)) < 2 then 0 else 1)))) = 0 then (0 : Int32) else (1 : Int32)))), .int 5, .int ((((zbo 1 ((if (f 9) = 0 then (0 : Int32) else (1 : Int32)))) ||| (zbo 2 ((if (f 4) < 9 then (0 : Int32) else (1 : Int32))))) ||| (zbo 3 ((if (f 5) < 6 then (0 : Int32) else (1 : Int32))))) ||| (zbo 4 ((if (f 6) < 14 then (0 : Int32) else (1 : Int32)))))] (zset μ 7 f) := by
            refine k_callS (As := [.int 5, .int ((if (f 0) < 3 then (0 : Int32) else (if ((if (f 10) = 0 then (0 : Int32) else (if (f 10) ≤ 0 then (if (zbc (f 13)) < 2 then 0 else 1) else (if (zbc (f 12)) < 2 then 0 else 1)))) = 0 then (0 : Int32) else (1 : Int32))))]) (rest := [.int ((((zbo 1 ((if (f 9) = 0 then (0 : Int32) else (1 : Int32)))) ||| (zbo 2 ((if (f 4) < 9 then (0 : Int32) else (1 : Int32))))) ||| (zbo 3 ((if (f 5) < 6 then (0 : Int32) else (1 : Int32))))) ||| (zbo 4 ((if (f 6) < 14 then (0 : Int32) else (1 : Int32)))))]) S (c_X1_bitOf) mv_X1_bitOf m_254 dX1_brokenRules_115 rfl rfl ⟨by decide, by decide⟩ rfl rfl (Nat.le_of_ble_eq_true rfl) ⟨by decide, by decide⟩ (n := 118) rfl (fun _ _ h => h.elim) (fun v9 ν9 h9 => ?_)
            rw [h9.1, h9.2]
            show zK x g ({ frames := 2, cells := 0, slots := 0, locals := 43 } : Room) 1 0 0 118 [some (.ref (za g 7))] [.int (zbo 5 ((if (f 0) < 3 then (0 : Int32) else (if ((if (f 10) = 0 then (0 : Int32) else (if (f 10) ≤ 0 then (if (zbc (f 13)) < 2 then 0 else 1) else (if (zbc (f 12)) < 2 then 0 else 1)))) = 0 then (0 : Int32) else (1 : Int32))))), .int ((((zbo 1 ((if (f 9) = 0 then (0 : Int32) else (1 : Int32)))) ||| (zbo 2 ((if (f 4) < 9 then (0 : Int32) else (1 : Int32))))) ||| (zbo 3 ((if (f 5) < 6 then (0 : Int32) else (1 : Int32))))) ||| (zbo 4 ((if (f 6) < 14 then (0 : Int32) else (1 : Int32)))))] (zset μ 7 f)
            refine k_ior S dX1_brokenRules_118 (n := 119) rfl ?_
            refine k_bipush S dX1_brokenRules_119 (v := 6) (by decide) (n := 121) rfl ?_
            refine k_aload0 S dX1_brokenRules_121 (n := 122) rfl ?_
            refine k_getv (v := f 0) (T := TX1) (j := 0) S dX1_brokenRules_122 (zlt S (by decide)) (by decide) (ci := 1) rfl rfl (by decide) in_1 m_73 rfl rfl (by simp [zu, zset, upd]) (n := 125) rfl ?_
            refine k_bipush S dX1_brokenRules_125 (v := 6) (by decide) (n := 127) rfl ?_
            refine k_callSN (As := [.int 6]) (rest := [.int (f 0), .int 6, .int (((((zbo 1 ((if (f 9) = 0 then (0 : Int32) else (1 : Int32)))) ||| (zbo 2 ((if (f 4) < 9 then (0 : Int32) else (1 : Int32))))) ||| (zbo 3 ((if (f 5) < 6 then (0 : Int32) else (1 : Int32))))) ||| (zbo 4 ((if (f 6) < 14 then (0 : Int32) else (1 : Int32))))) ||| (zbo 5 ((if (f 0) < 3 then (0 : Int32) else (if ((if (f 10) = 0 then (0 : Int32) else (if (f 10) ≤ 0 then (if (zbc (f 13)) < 2 then 0 else 1) else (if (zbc (f 12)) < 2 then 0 else 1)))) = 0 then (0 : Int32) else (1 : Int32))))))]) (host := RX3) S (c_pr6) mv_X3_pointsOfRule (by decide +kernel) dX1_brokenRules_127 rfl rfl ⟨by decide, by decide⟩ rfl rfl (Nat.le_of_ble_eq_true rfl) ⟨by decide, by decide⟩ (n := 130) rfl (fun _ _ h => h.elim) (fun v9 ν9 h9 => ?_)
            rw [h9.1, h9.2]
            show zK x g ({ frames := 2, cells := 0, slots := 0, locals := 43 } : Room) 1 0 0 130 [some (.ref (za g 7))] [.int 5, .int (f 0), .int 6, .int (((((zbo 1 ((if (f 9) = 0 then (0 : Int32) else (1 : Int32)))) ||| (zbo 2 ((if (f 4) < 9 then (0 : Int32) else (1 : Int32))))) ||| (zbo 3 ((if (f 5) < 6 then (0 : Int32) else (1 : Int32))))) ||| (zbo 4 ((if (f 6) < 14 then (0 : Int32) else (1 : Int32))))) ||| (zbo 5 ((if (f 0) < 3 then (0 : Int32) else (if ((if (f 10) = 0 then (0 : Int32) else (if (f 10) ≤ 0 then (if (zbc (f 13)) < 2 then 0 else 1) else (if (zbc (f 12)) < 2 then 0 else 1)))) = 0 then (0 : Int32) else (1 : Int32))))))] (zset μ 7 f)
            have hJ12 : zK x g ({ frames := 2, cells := 0, slots := 0, locals := 43 } : Room) 1 0 0 157 [some (.ref (za g 7))] [.int ((if (f 0) < 5 then (0 : Int32) else (if ((if (f 11) = 0 then (0 : Int32) else (if (f 11) ≤ 0 then (if (zbc (f 15)) < 4 then 0 else 1) else (if (zbc (f 14)) < 4 then 0 else 1)))) = 0 then (0 : Int32) else (1 : Int32)))), .int 6, .int (((((zbo 1 ((if (f 9) = 0 then (0 : Int32) else (1 : Int32)))) ||| (zbo 2 ((if (f 4) < 9 then (0 : Int32) else (1 : Int32))))) ||| (zbo 3 ((if (f 5) < 6 then (0 : Int32) else (1 : Int32))))) ||| (zbo 4 ((if (f 6) < 14 then (0 : Int32) else (1 : Int32))))) ||| (zbo 5 ((if (f 0) < 3 then (0 : Int32) else (if ((if (f 10) = 0 then (0 : Int32) else (if (f 10) ≤ 0 then (if (zbc (f 13)) < 2 then 0 else 1) else (if (zbc (f 12)) < 2 then 0 else 1)))) = 0 then (0 : Int32) else (1 : Int32))))))] (zset μ 7 f) := by
              refine k_callS (As := [.int 6, .int ((if (f 0) < 5 then (0 : Int32) else (if ((if (f 11) = 0 then (0 : Int32) else (if (f 11) ≤ 0 then (if (zbc (f 15)) < 4 then 0 else 1) else (if (zbc (f 14)) < 4 then 0 else 1)))) = 0 then (0 : Int32) else (1 : Int32))))]) (rest := [.int (((((zbo 1 ((if (f 9) = 0 then (0 : Int32) else (1 : Int32)))) ||| (zbo 2 ((if (f 4) < 9 then (0 : Int32) else (1 : Int32))))) ||| (zbo 3 ((if (f 5) < 6 then (0 : Int32) else (1 : Int32))))) ||| (zbo 4 ((if (f 6) < 14 then (0 : Int32) else (1 : Int32))))) ||| (zbo 5 ((if (f 0) < 3 then (0 : Int32) else (if ((if (f 10) = 0 then (0 : Int32) else (if (f 10) ≤ 0 then (if (zbc (f 13)) < 2 then 0 else 1) else (if (zbc (f 12)) < 2 then 0 else 1)))) = 0 then (0 : Int32) else (1 : Int32))))))]) S (c_X1_bitOf) mv_X1_bitOf m_254 dX1_brokenRules_157 rfl rfl ⟨by decide, by decide⟩ rfl rfl (Nat.le_of_ble_eq_true rfl) ⟨by decide, by decide⟩ (n := 160) rfl (fun _ _ h => h.elim) (fun v9 ν9 h9 => ?_)
              rw [h9.1, h9.2]
              show zK x g ({ frames := 2, cells := 0, slots := 0, locals := 43 } : Room) 1 0 0 160 [some (.ref (za g 7))] [.int (zbo 6 ((if (f 0) < 5 then (0 : Int32) else (if ((if (f 11) = 0 then (0 : Int32) else (if (f 11) ≤ 0 then (if (zbc (f 15)) < 4 then 0 else 1) else (if (zbc (f 14)) < 4 then 0 else 1)))) = 0 then (0 : Int32) else (1 : Int32))))), .int (((((zbo 1 ((if (f 9) = 0 then (0 : Int32) else (1 : Int32)))) ||| (zbo 2 ((if (f 4) < 9 then (0 : Int32) else (1 : Int32))))) ||| (zbo 3 ((if (f 5) < 6 then (0 : Int32) else (1 : Int32))))) ||| (zbo 4 ((if (f 6) < 14 then (0 : Int32) else (1 : Int32))))) ||| (zbo 5 ((if (f 0) < 3 then (0 : Int32) else (if ((if (f 10) = 0 then (0 : Int32) else (if (f 10) ≤ 0 then (if (zbc (f 13)) < 2 then 0 else 1) else (if (zbc (f 12)) < 2 then 0 else 1)))) = 0 then (0 : Int32) else (1 : Int32))))))] (zset μ 7 f)
              refine k_ior S dX1_brokenRules_160 (n := 161) rfl ?_
              refine k_bipush S dX1_brokenRules_161 (v := 7) (by decide) (n := 163) rfl ?_
              refine k_aload0 S dX1_brokenRules_163 (n := 164) rfl ?_
              refine k_getv (v := f 7) (T := TX1) (j := 7) S dX1_brokenRules_164 (zlt S (by decide)) (by decide) (ci := 1) rfl rfl (by decide) in_1 m_80 rfl rfl (by simp [zu, zset, upd]) (n := 167) rfl ?_
              refine k_bipush S dX1_brokenRules_167 (v := 7) (by decide) (n := 169) rfl ?_
              refine k_callSN (As := [.int 7]) (rest := [.int (f 7), .int 7, .int ((((((zbo 1 ((if (f 9) = 0 then (0 : Int32) else (1 : Int32)))) ||| (zbo 2 ((if (f 4) < 9 then (0 : Int32) else (1 : Int32))))) ||| (zbo 3 ((if (f 5) < 6 then (0 : Int32) else (1 : Int32))))) ||| (zbo 4 ((if (f 6) < 14 then (0 : Int32) else (1 : Int32))))) ||| (zbo 5 ((if (f 0) < 3 then (0 : Int32) else (if ((if (f 10) = 0 then (0 : Int32) else (if (f 10) ≤ 0 then (if (zbc (f 13)) < 2 then 0 else 1) else (if (zbc (f 12)) < 2 then 0 else 1)))) = 0 then (0 : Int32) else (1 : Int32)))))) ||| (zbo 6 ((if (f 0) < 5 then (0 : Int32) else (if ((if (f 11) = 0 then (0 : Int32) else (if (f 11) ≤ 0 then (if (zbc (f 15)) < 4 then 0 else 1) else (if (zbc (f 14)) < 4 then 0 else 1)))) = 0 then (0 : Int32) else (1 : Int32))))))]) (host := RX3) S (c_pr7) mv_X3_pointsOfRule (by decide +kernel) dX1_brokenRules_169 rfl rfl ⟨by decide, by decide⟩ rfl rfl (Nat.le_of_ble_eq_true rfl) ⟨by decide, by decide⟩ (n := 172) rfl (fun _ _ h => h.elim) (fun v9 ν9 h9 => ?_)
              rw [h9.1, h9.2]
              show zK x g ({ frames := 2, cells := 0, slots := 0, locals := 43 } : Room) 1 0 0 172 [some (.ref (za g 7))] [.int 15, .int (f 7), .int 7, .int ((((((zbo 1 ((if (f 9) = 0 then (0 : Int32) else (1 : Int32)))) ||| (zbo 2 ((if (f 4) < 9 then (0 : Int32) else (1 : Int32))))) ||| (zbo 3 ((if (f 5) < 6 then (0 : Int32) else (1 : Int32))))) ||| (zbo 4 ((if (f 6) < 14 then (0 : Int32) else (1 : Int32))))) ||| (zbo 5 ((if (f 0) < 3 then (0 : Int32) else (if ((if (f 10) = 0 then (0 : Int32) else (if (f 10) ≤ 0 then (if (zbc (f 13)) < 2 then 0 else 1) else (if (zbc (f 12)) < 2 then 0 else 1)))) = 0 then (0 : Int32) else (1 : Int32)))))) ||| (zbo 6 ((if (f 0) < 5 then (0 : Int32) else (if ((if (f 11) = 0 then (0 : Int32) else (if (f 11) ≤ 0 then (if (zbc (f 15)) < 4 then 0 else 1) else (if (zbc (f 14)) < 4 then 0 else 1)))) = 0 then (0 : Int32) else (1 : Int32))))))] (zset μ 7 f)
              have hJ14 : zK x g ({ frames := 2, cells := 0, slots := 0, locals := 43 } : Room) 1 0 0 180 [some (.ref (za g 7))] [.int ((if (f 7) < 15 then (0 : Int32) else (1 : Int32))), .int 7, .int ((((((zbo 1 ((if (f 9) = 0 then (0 : Int32) else (1 : Int32)))) ||| (zbo 2 ((if (f 4) < 9 then (0 : Int32) else (1 : Int32))))) ||| (zbo 3 ((if (f 5) < 6 then (0 : Int32) else (1 : Int32))))) ||| (zbo 4 ((if (f 6) < 14 then (0 : Int32) else (1 : Int32))))) ||| (zbo 5 ((if (f 0) < 3 then (0 : Int32) else (if ((if (f 10) = 0 then (0 : Int32) else (if (f 10) ≤ 0 then (if (zbc (f 13)) < 2 then 0 else 1) else (if (zbc (f 12)) < 2 then 0 else 1)))) = 0 then (0 : Int32) else (1 : Int32)))))) ||| (zbo 6 ((if (f 0) < 5 then (0 : Int32) else (if ((if (f 11) = 0 then (0 : Int32) else (if (f 11) ≤ 0 then (if (zbc (f 15)) < 4 then 0 else 1) else (if (zbc (f 14)) < 4 then 0 else 1)))) = 0 then (0 : Int32) else (1 : Int32))))))] (zset μ 7 f) := by
                refine k_callS (As := [.int 7, .int ((if (f 7) < 15 then (0 : Int32) else (1 : Int32)))]) (rest := [.int ((((((zbo 1 ((if (f 9) = 0 then (0 : Int32) else (1 : Int32)))) ||| (zbo 2 ((if (f 4) < 9 then (0 : Int32) else (1 : Int32))))) ||| (zbo 3 ((if (f 5) < 6 then (0 : Int32) else (1 : Int32))))) ||| (zbo 4 ((if (f 6) < 14 then (0 : Int32) else (1 : Int32))))) ||| (zbo 5 ((if (f 0) < 3 then (0 : Int32) else (if ((if (f 10) = 0 then (0 : Int32) else (if (f 10) ≤ 0 then (if (zbc (f 13)) < 2 then 0 else 1) else (if (zbc (f 12)) < 2 then 0 else 1)))) = 0 then (0 : Int32) else (1 : Int32)))))) ||| (zbo 6 ((if (f 0) < 5 then (0 : Int32) else (if ((if (f 11) = 0 then (0 : Int32) else (if (f 11) ≤ 0 then (if (zbc (f 15)) < 4 then 0 else 1) else (if (zbc (f 14)) < 4 then 0 else 1)))) = 0 then (0 : Int32) else (1 : Int32))))))]) S (c_X1_bitOf) mv_X1_bitOf m_254 dX1_brokenRules_180 rfl rfl ⟨by decide, by decide⟩ rfl rfl (Nat.le_of_ble_eq_true rfl) ⟨by decide, by decide⟩ (n := 183) rfl (fun _ _ h => h.elim) (fun v9 ν9 h9 => ?_)
                rw [h9.1, h9.2]
                show zK x g ({ frames := 2, cells := 0, slots := 0, locals := 43 } : Room) 1 0 0 183 [some (.ref (za g 7))] [.int (zbo 7 ((if (f 7) < 15 then (0 : Int32) else (1 : Int32)))), .int ((((((zbo 1 ((if (f 9) = 0 then (0 : Int32) else (1 : Int32)))) ||| (zbo 2 ((if (f 4) < 9 then (0 : Int32) else (1 : Int32))))) ||| (zbo 3 ((if (f 5) < 6 then (0 : Int32) else (1 : Int32))))) ||| (zbo 4 ((if (f 6) < 14 then (0 : Int32) else (1 : Int32))))) ||| (zbo 5 ((if (f 0) < 3 then (0 : Int32) else (if ((if (f 10) = 0 then (0 : Int32) else (if (f 10) ≤ 0 then (if (zbc (f 13)) < 2 then 0 else 1) else (if (zbc (f 12)) < 2 then 0 else 1)))) = 0 then (0 : Int32) else (1 : Int32)))))) ||| (zbo 6 ((if (f 0) < 5 then (0 : Int32) else (if ((if (f 11) = 0 then (0 : Int32) else (if (f 11) ≤ 0 then (if (zbc (f 15)) < 4 then 0 else 1) else (if (zbc (f 14)) < 4 then 0 else 1)))) = 0 then (0 : Int32) else (1 : Int32))))))] (zset μ 7 f)
                refine k_ior S dX1_brokenRules_183 (n := 184) rfl ?_
                refine k_bipush S dX1_brokenRules_184 (v := 8) (by decide) (n := 186) rfl ?_
                refine k_aload0 S dX1_brokenRules_186 (n := 187) rfl ?_
                refine k_getv (v := f 8) (T := TX1) (j := 8) S dX1_brokenRules_187 (zlt S (by decide)) (by decide) (ci := 1) rfl rfl (by decide) in_1 m_81 rfl rfl (by simp [zu, zset, upd]) (n := 190) rfl ?_
                refine k_bipush S dX1_brokenRules_190 (v := 8) (by decide) (n := 192) rfl ?_
                refine k_callSN (As := [.int 8]) (rest := [.int (f 8), .int 8, .int (((((((zbo 1 ((if (f 9) = 0 then (0 : Int32) else (1 : Int32)))) ||| (zbo 2 ((if (f 4) < 9 then (0 : Int32) else (1 : Int32))))) ||| (zbo 3 ((if (f 5) < 6 then (0 : Int32) else (1 : Int32))))) ||| (zbo 4 ((if (f 6) < 14 then (0 : Int32) else (1 : Int32))))) ||| (zbo 5 ((if (f 0) < 3 then (0 : Int32) else (if ((if (f 10) = 0 then (0 : Int32) else (if (f 10) ≤ 0 then (if (zbc (f 13)) < 2 then 0 else 1) else (if (zbc (f 12)) < 2 then 0 else 1)))) = 0 then (0 : Int32) else (1 : Int32)))))) ||| (zbo 6 ((if (f 0) < 5 then (0 : Int32) else (if ((if (f 11) = 0 then (0 : Int32) else (if (f 11) ≤ 0 then (if (zbc (f 15)) < 4 then 0 else 1) else (if (zbc (f 14)) < 4 then 0 else 1)))) = 0 then (0 : Int32) else (1 : Int32)))))) ||| (zbo 7 ((if (f 7) < 15 then (0 : Int32) else (1 : Int32)))))]) (host := RX3) S (c_pr8) mv_X3_pointsOfRule (by decide +kernel) dX1_brokenRules_192 rfl rfl ⟨by decide, by decide⟩ rfl rfl (Nat.le_of_ble_eq_true rfl) ⟨by decide, by decide⟩ (n := 195) rfl (fun _ _ h => h.elim) (fun v9 ν9 h9 => ?_)
                rw [h9.1, h9.2]
                show zK x g ({ frames := 2, cells := 0, slots := 0, locals := 43 } : Room) 1 0 0 195 [some (.ref (za g 7))] [.int 8, .int (f 8), .int 8, .int (((((((zbo 1 ((if (f 9) = 0 then (0 : Int32) else (1 : Int32)))) ||| (zbo 2 ((if (f 4) < 9 then (0 : Int32) else (1 : Int32))))) ||| (zbo 3 ((if (f 5) < 6 then (0 : Int32) else (1 : Int32))))) ||| (zbo 4 ((if (f 6) < 14 then (0 : Int32) else (1 : Int32))))) ||| (zbo 5 ((if (f 0) < 3 then (0 : Int32) else (if ((if (f 10) = 0 then (0 : Int32) else (if (f 10) ≤ 0 then (if (zbc (f 13)) < 2 then 0 else 1) else (if (zbc (f 12)) < 2 then 0 else 1)))) = 0 then (0 : Int32) else (1 : Int32)))))) ||| (zbo 6 ((if (f 0) < 5 then (0 : Int32) else (if ((if (f 11) = 0 then (0 : Int32) else (if (f 11) ≤ 0 then (if (zbc (f 15)) < 4 then 0 else 1) else (if (zbc (f 14)) < 4 then 0 else 1)))) = 0 then (0 : Int32) else (1 : Int32)))))) ||| (zbo 7 ((if (f 7) < 15 then (0 : Int32) else (1 : Int32)))))] (zset μ 7 f)
                have hJ16 : zK x g ({ frames := 2, cells := 0, slots := 0, locals := 43 } : Room) 1 0 0 203 [some (.ref (za g 7))] [.int ((if (f 8) < 8 then (0 : Int32) else (1 : Int32))), .int 8, .int (((((((zbo 1 ((if (f 9) = 0 then (0 : Int32) else (1 : Int32)))) ||| (zbo 2 ((if (f 4) < 9 then (0 : Int32) else (1 : Int32))))) ||| (zbo 3 ((if (f 5) < 6 then (0 : Int32) else (1 : Int32))))) ||| (zbo 4 ((if (f 6) < 14 then (0 : Int32) else (1 : Int32))))) ||| (zbo 5 ((if (f 0) < 3 then (0 : Int32) else (if ((if (f 10) = 0 then (0 : Int32) else (if (f 10) ≤ 0 then (if (zbc (f 13)) < 2 then 0 else 1) else (if (zbc (f 12)) < 2 then 0 else 1)))) = 0 then (0 : Int32) else (1 : Int32)))))) ||| (zbo 6 ((if (f 0) < 5 then (0 : Int32) else (if ((if (f 11) = 0 then (0 : Int32) else (if (f 11) ≤ 0 then (if (zbc (f 15)) < 4 then 0 else 1) else (if (zbc (f 14)) < 4 then 0 else 1)))) = 0 then (0 : Int32) else (1 : Int32)))))) ||| (zbo 7 ((if (f 7) < 15 then (0 : Int32) else (1 : Int32)))))] (zset μ 7 f) := by
                  refine k_callS (As := [.int 8, .int ((if (f 8) < 8 then (0 : Int32) else (1 : Int32)))]) (rest := [.int (((((((zbo 1 ((if (f 9) = 0 then (0 : Int32) else (1 : Int32)))) ||| (zbo 2 ((if (f 4) < 9 then (0 : Int32) else (1 : Int32))))) ||| (zbo 3 ((if (f 5) < 6 then (0 : Int32) else (1 : Int32))))) ||| (zbo 4 ((if (f 6) < 14 then (0 : Int32) else (1 : Int32))))) ||| (zbo 5 ((if (f 0) < 3 then (0 : Int32) else (if ((if (f 10) = 0 then (0 : Int32) else (if (f 10) ≤ 0 then (if (zbc (f 13)) < 2 then 0 else 1) else (if (zbc (f 12)) < 2 then 0 else 1)))) = 0 then (0 : Int32) else (1 : Int32)))))) ||| (zbo 6 ((if (f 0) < 5 then (0 : Int32) else (if ((if (f 11) = 0 then (0 : Int32) else (if (f 11) ≤ 0 then (if (zbc (f 15)) < 4 then 0 else 1) else (if (zbc (f 14)) < 4 then 0 else 1)))) = 0 then (0 : Int32) else (1 : Int32)))))) ||| (zbo 7 ((if (f 7) < 15 then (0 : Int32) else (1 : Int32)))))]) S (c_X1_bitOf) mv_X1_bitOf m_254 dX1_brokenRules_203 rfl rfl ⟨by decide, by decide⟩ rfl rfl (Nat.le_of_ble_eq_true rfl) ⟨by decide, by decide⟩ (n := 206) rfl (fun _ _ h => h.elim) (fun v9 ν9 h9 => ?_)
                  rw [h9.1, h9.2]
                  show zK x g ({ frames := 2, cells := 0, slots := 0, locals := 43 } : Room) 1 0 0 206 [some (.ref (za g 7))] [.int (zbo 8 ((if (f 8) < 8 then (0 : Int32) else (1 : Int32)))), .int (((((((zbo 1 ((if (f 9) = 0 then (0 : Int32) else (1 : Int32)))) ||| (zbo 2 ((if (f 4) < 9 then (0 : Int32) else (1 : Int32))))) ||| (zbo 3 ((if (f 5) < 6 then (0 : Int32) else (1 : Int32))))) ||| (zbo 4 ((if (f 6) < 14 then (0 : Int32) else (1 : Int32))))) ||| (zbo 5 ((if (f 0) < 3 then (0 : Int32) else (if ((if (f 10) = 0 then (0 : Int32) else (if (f 10) ≤ 0 then (if (zbc (f 13)) < 2 then 0 else 1) else (if (zbc (f 12)) < 2 then 0 else 1)))) = 0 then (0 : Int32) else (1 : Int32)))))) ||| (zbo 6 ((if (f 0) < 5 then (0 : Int32) else (if ((if (f 11) = 0 then (0 : Int32) else (if (f 11) ≤ 0 then (if (zbc (f 15)) < 4 then 0 else 1) else (if (zbc (f 14)) < 4 then 0 else 1)))) = 0 then (0 : Int32) else (1 : Int32)))))) ||| (zbo 7 ((if (f 7) < 15 then (0 : Int32) else (1 : Int32)))))] (zset μ 7 f)
                  refine k_ior S dX1_brokenRules_206 (n := 207) rfl ?_
                  exact k_iret S Y dX1_brokenRules_207 (by decide) (by decide) rfl (⟨rfl, rfl⟩)
                refine k_icmp_lt S dX1_brokenRules_195 (tgt := 202) (by decide) (n := 198) rfl (fun c15 => ?_) (fun c15 => ?_)
                ·
                  refine k_iconst S dX1_brokenRules_202 (v := 0) (by decide) (n := 203) rfl ?_
                  rw [if_pos c15] at hJ16
                  exact hJ16
                ·
                  refine k_iconst S dX1_brokenRules_198 (v := 1) (by decide) (n := 199) rfl ?_
                  refine k_goto S dX1_brokenRules_199 (tgt := 203) (by decide) ?_
                  rw [if_neg c15] at hJ16
                  exact hJ16
              refine k_icmp_lt S dX1_brokenRules_172 (tgt := 179) (by decide) (n := 175) rfl (fun c13 => ?_) (fun c13 => ?_)
              ·
                refine k_iconst S dX1_brokenRules_179 (v := 0) (by decide) (n := 180) rfl ?_
                rw [if_pos c13] at hJ14
                exact hJ14
              ·
                refine k_iconst S dX1_brokenRules_175 (v := 1) (by decide) (n := 176) rfl ?_
                refine k_goto S dX1_brokenRules_176 (tgt := 180) (by decide) ?_
                rw [if_neg c13] at hJ14
                exact hJ14
            refine k_icmp_lt S dX1_brokenRules_130 (tgt := 156) (by decide) (n := 133) rfl (fun c11 => ?_) (fun c11 => ?_)
            ·
              refine k_iconst S dX1_brokenRules_156 (v := 0) (by decide) (n := 157) rfl ?_
              rw [if_pos c11] at hJ12
              exact hJ12
            ·
              refine k_aload0 S dX1_brokenRules_133 (n := 134) rfl ?_
              refine k_getv (v := f 11) (T := TX1) (j := 11) S dX1_brokenRules_134 (zlt S (by decide)) (by decide) (ci := 1) rfl rfl (by decide) in_1 m_84 rfl rfl (by simp [zu, zset, upd]) (n := 137) rfl ?_
              refine k_aload0 S dX1_brokenRules_137 (n := 138) rfl ?_
              refine k_getv (v := f 14) (T := TX1) (j := 14) S dX1_brokenRules_138 (zlt S (by decide)) (by decide) (ci := 1) rfl rfl (by decide) in_1 m_87 rfl rfl (by simp [zu, zset, upd]) (n := 141) rfl ?_
              refine k_aload0 S dX1_brokenRules_141 (n := 142) rfl ?_
              refine k_getv (v := f 15) (T := TX1) (j := 15) S dX1_brokenRules_142 (zlt S (by decide)) (by decide) (ci := 1) rfl rfl (by decide) in_1 m_88 rfl rfl (by simp [zu, zset, upd]) (n := 145) rfl ?_
              refine k_iconst S dX1_brokenRules_145 (v := 4) (by decide) (n := 146) rfl ?_
              refine k_callS (As := [.int (f 11), .int (f 14), .int (f 15), .int 4]) (rest := [.int 6, .int (((((zbo 1 ((if (f 9) = 0 then (0 : Int32) else (1 : Int32)))) ||| (zbo 2 ((if (f 4) < 9 then (0 : Int32) else (1 : Int32))))) ||| (zbo 3 ((if (f 5) < 6 then (0 : Int32) else (1 : Int32))))) ||| (zbo 4 ((if (f 6) < 14 then (0 : Int32) else (1 : Int32))))) ||| (zbo 5 ((if (f 0) < 3 then (0 : Int32) else (if ((if (f 10) = 0 then (0 : Int32) else (if (f 10) ≤ 0 then (if (zbc (f 13)) < 2 then 0 else 1) else (if (zbc (f 12)) < 2 then 0 else 1)))) = 0 then (0 : Int32) else (1 : Int32))))))]) S (c_X1_isOften) mv_X1_isOften m_262 dX1_brokenRules_146 rfl rfl ⟨by decide, by decide⟩ rfl rfl (Nat.le_of_ble_eq_true rfl) ⟨by decide, by decide⟩ (n := 149) rfl (fun _ _ h => h.elim) (fun v9 ν9 h9 => ?_)
              rw [h9.1, h9.2]
              show zK x g ({ frames := 2, cells := 0, slots := 0, locals := 43 } : Room) 1 0 0 149 [some (.ref (za g 7))] [.int ((if (f 11) = 0 then (0 : Int32) else (if (f 11) ≤ 0 then (if (zbc (f 15)) < 4 then 0 else 1) else (if (zbc (f 14)) < 4 then 0 else 1)))), .int 6, .int (((((zbo 1 ((if (f 9) = 0 then (0 : Int32) else (1 : Int32)))) ||| (zbo 2 ((if (f 4) < 9 then (0 : Int32) else (1 : Int32))))) ||| (zbo 3 ((if (f 5) < 6 then (0 : Int32) else (1 : Int32))))) ||| (zbo 4 ((if (f 6) < 14 then (0 : Int32) else (1 : Int32))))) ||| (zbo 5 ((if (f 0) < 3 then (0 : Int32) else (if ((if (f 10) = 0 then (0 : Int32) else (if (f 10) ≤ 0 then (if (zbc (f 13)) < 2 then 0 else 1) else (if (zbc (f 12)) < 2 then 0 else 1)))) = 0 then (0 : Int32) else (1 : Int32))))))] (zset μ 7 f)
              refine k_if_eq S dX1_brokenRules_149 (tgt := 156) (by decide) (n := 152) rfl (fun c17 => ?_) (fun c17 => ?_)
              ·
                refine k_iconst S dX1_brokenRules_156 (v := 0) (by decide) (n := 157) rfl ?_
                rw [if_neg c11, if_pos c17] at hJ12
                exact hJ12
              ·
                refine k_iconst S dX1_brokenRules_152 (v := 1) (by decide) (n := 153) rfl ?_
                refine k_goto S dX1_brokenRules_153 (tgt := 157) (by decide) ?_
                rw [if_neg c11, if_neg c17] at hJ12
                exact hJ12
          refine k_icmp_lt S dX1_brokenRules_88 (tgt := 114) (by decide) (n := 91) rfl (fun c9 => ?_) (fun c9 => ?_)
          ·
            refine k_iconst S dX1_brokenRules_114 (v := 0) (by decide) (n := 115) rfl ?_
            rw [if_pos c9] at hJ10
            exact hJ10
          ·
            refine k_aload0 S dX1_brokenRules_91 (n := 92) rfl ?_
            refine k_getv (v := f 10) (T := TX1) (j := 10) S dX1_brokenRules_92 (zlt S (by decide)) (by decide) (ci := 1) rfl rfl (by decide) in_1 m_83 rfl rfl (by simp [zu, zset, upd]) (n := 95) rfl ?_
            refine k_aload0 S dX1_brokenRules_95 (n := 96) rfl ?_
            refine k_getv (v := f 12) (T := TX1) (j := 12) S dX1_brokenRules_96 (zlt S (by decide)) (by decide) (ci := 1) rfl rfl (by decide) in_1 m_85 rfl rfl (by simp [zu, zset, upd]) (n := 99) rfl ?_
            refine k_aload0 S dX1_brokenRules_99 (n := 100) rfl ?_
            refine k_getv (v := f 13) (T := TX1) (j := 13) S dX1_brokenRules_100 (zlt S (by decide)) (by decide) (ci := 1) rfl rfl (by decide) in_1 m_86 rfl rfl (by simp [zu, zset, upd]) (n := 103) rfl ?_
            refine k_iconst S dX1_brokenRules_103 (v := 2) (by decide) (n := 104) rfl ?_
            refine k_callS (As := [.int (f 10), .int (f 12), .int (f 13), .int 2]) (rest := [.int 5, .int ((((zbo 1 ((if (f 9) = 0 then (0 : Int32) else (1 : Int32)))) ||| (zbo 2 ((if (f 4) < 9 then (0 : Int32) else (1 : Int32))))) ||| (zbo 3 ((if (f 5) < 6 then (0 : Int32) else (1 : Int32))))) ||| (zbo 4 ((if (f 6) < 14 then (0 : Int32) else (1 : Int32)))))]) S (c_X1_isOften) mv_X1_isOften m_262 dX1_brokenRules_104 rfl rfl ⟨by decide, by decide⟩ rfl rfl (Nat.le_of_ble_eq_true rfl) ⟨by decide, by decide⟩ (n := 107) rfl (fun _ _ h => h.elim) (fun v9 ν9 h9 => ?_)
            rw [h9.1, h9.2]
            show zK x g ({ frames := 2, cells := 0, slots := 0, locals := 43 } : Room) 1 0 0 107 [some (.ref (za g 7))] [.int ((if (f 10) = 0 then (0 : Int32) else (if (f 10) ≤ 0 then (if (zbc (f 13)) < 2 then 0 else 1) else (if (zbc (f 12)) < 2 then 0 else 1)))), .int 5, .int ((((zbo 1 ((if (f 9) = 0 then (0 : Int32) else (1 : Int32)))) ||| (zbo 2 ((if (f 4) < 9 then (0 : Int32) else (1 : Int32))))) ||| (zbo 3 ((if (f 5) < 6 then (0 : Int32) else (1 : Int32))))) ||| (zbo 4 ((if (f 6) < 14 then (0 : Int32) else (1 : Int32)))))] (zset μ 7 f)
            refine k_if_eq S dX1_brokenRules_107 (tgt := 114) (by decide) (n := 110) rfl (fun c18 => ?_) (fun c18 => ?_)
            ·
              refine k_iconst S dX1_brokenRules_114 (v := 0) (by decide) (n := 115) rfl ?_
              rw [if_neg c9, if_pos c18] at hJ10
              exact hJ10
            ·
              refine k_iconst S dX1_brokenRules_110 (v := 1) (by decide) (n := 111) rfl ?_
              refine k_goto S dX1_brokenRules_111 (tgt := 115) (by decide) ?_
              rw [if_neg c9, if_neg c18] at hJ10
              exact hJ10
        refine k_icmp_lt S dX1_brokenRules_67 (tgt := 74) (by decide) (n := 70) rfl (fun c7 => ?_) (fun c7 => ?_)
        ·
          refine k_iconst S dX1_brokenRules_74 (v := 0) (by decide) (n := 75) rfl ?_
          rw [if_pos c7] at hJ8
          exact hJ8
        ·
          refine k_iconst S dX1_brokenRules_70 (v := 1) (by decide) (n := 71) rfl ?_
          refine k_goto S dX1_brokenRules_71 (tgt := 75) (by decide) ?_
          rw [if_neg c7] at hJ8
          exact hJ8
      refine k_icmp_lt S dX1_brokenRules_46 (tgt := 53) (by decide) (n := 49) rfl (fun c5 => ?_) (fun c5 => ?_)
      ·
        refine k_iconst S dX1_brokenRules_53 (v := 0) (by decide) (n := 54) rfl ?_
        rw [if_pos c5] at hJ6
        exact hJ6
      ·
        refine k_iconst S dX1_brokenRules_49 (v := 1) (by decide) (n := 50) rfl ?_
        refine k_goto S dX1_brokenRules_50 (tgt := 54) (by decide) ?_
        rw [if_neg c5] at hJ6
        exact hJ6
    refine k_icmp_lt S dX1_brokenRules_25 (tgt := 32) (by decide) (n := 28) rfl (fun c3 => ?_) (fun c3 => ?_)
    ·
      refine k_iconst S dX1_brokenRules_32 (v := 0) (by decide) (n := 33) rfl ?_
      rw [if_pos c3] at hJ4
      exact hJ4
    ·
      refine k_iconst S dX1_brokenRules_28 (v := 1) (by decide) (n := 29) rfl ?_
      refine k_goto S dX1_brokenRules_29 (tgt := 33) (by decide) ?_
      rw [if_neg c3] at hJ4
      exact hJ4
  refine k_if_eq S dX1_brokenRules_5 (tgt := 12) (by decide) (n := 8) rfl (fun c1 => ?_) (fun c1 => ?_)
  ·
    refine k_iconst S dX1_brokenRules_12 (v := 0) (by decide) (n := 13) rfl ?_
    rw [if_pos c1] at hJ2
    exact hJ2
  ·
    refine k_iconst S dX1_brokenRules_8 (v := 1) (by decide) (n := 9) rfl ?_
    refine k_goto S dX1_brokenRules_9 (tgt := 13) (by decide) ?_
    rw [if_neg c1] at hJ2
    exact hJ2
end
section
/-! THE WINDOW: this at place 8, numbers at 9, levels at 10; a phase at 11 + k -/
def v_X2_isFull (μ : zM) : Int32 := (if (μ.1 8 2) < 15 then (0 : Int32) else (1 : Int32))
set_option maxRecDepth 100000 in
set_option maxHeartbeats 4000000 in
theorem c_X2_isFull {l : Launch} {g : zG} {μ : zM} : zC l g yX2_isFull cX2_isFull 1 (some .boolean) ({ frames := 0, cells := 0, slots := 0, locals := 0 } : Room) 0 0 [.ref (za g 8)] μ (zRv (some (.int (v_X2_isFull μ))) μ) zNX := by
  refine zC_of (L0 := [some (.ref (za g 8))]) (plainFor_of_name (by decide)) (Nat.le_of_ble_eq_true rfl) rfl ?_
  intro x S Y hxl
  subst hxl
  refine k_aload0 S dX2_isFull_0 (n := 1) rfl ?_
  refine k_geti (T := TX2) (j := 2) S dX2_isFull_1 (zlt S (by decide)) (by decide) (ci := 2) rfl rfl (by decide) in_2 m_130 rfl rfl (n := 4) rfl ?_
  refine k_bipush S dX2_isFull_4 (v := 15) (by decide) (n := 6) rfl ?_
  have hJ2 : zK x g ({ frames := 0, cells := 0, slots := 0, locals := 0 } : Room) 1 0 0 14 [some (.ref (za g 8))] [.int ((if (μ.1 8 2) < 15 then (0 : Int32) else (1 : Int32)))] μ := by
    exact k_iret S Y dX2_isFull_14 (by decide) (by decide) (by repeat' (first | rfl | split)) (⟨rfl, rfl⟩)
  refine k_icmp_lt S dX2_isFull_6 (tgt := 13) (by decide) (n := 9) rfl (fun c1 => ?_) (fun c1 => ?_)
  ·
    refine k_iconst S dX2_isFull_13 (v := 0) (by decide) (n := 14) rfl ?_
    rw [if_pos c1] at hJ2
    exact hJ2
  ·
    refine k_iconst S dX2_isFull_9 (v := 1) (by decide) (n := 10) rfl ?_
    refine k_goto S dX2_isFull_10 (tgt := 14) (by decide) ?_
    rw [if_neg c1] at hJ2
    exact hJ2
def m_X2_restart (μ : zM) : zM := zu μ 8 2 0
set_option maxRecDepth 100000 in
set_option maxHeartbeats 4000000 in
theorem c_X2_restart {l : Launch} {g : zG} {μ : zM} : zC l g yX2_restart cX2_restart 1 none ({ frames := 0, cells := 0, slots := 0, locals := 0 } : Room) 0 0 [.ref (za g 8)] μ (zRv none (m_X2_restart μ)) zNX := by
  refine zC_of (L0 := [some (.ref (za g 8))]) (plainFor_of_name (by decide)) (Nat.le_of_ble_eq_true rfl) rfl ?_
  intro x S Y hxl
  subst hxl
  refine k_aload0 S dX2_restart_0 (n := 1) rfl ?_
  refine k_iconst S dX2_restart_1 (v := 0) (by decide) (n := 2) rfl ?_
  refine k_put (T := TX2) (j := 2) S dX2_restart_2 (zlt S (by decide)) (by decide) (ci := 2) rfl rfl (by decide) in_2 m_130 rfl rfl (ty0 := tyX2) tyX2_ok nmX2 rfl rfl rfl (n := 5) rfl ?_
  exact k_vret S Y dX2_restart_5 (by decide) (by decide) (⟨rfl, rfl⟩)
theorem zneg0 (a : Int32) : -a = 0 ↔ a = 0 := ⟨fun h => Classical.byContradiction fun q => Int32.neg_ne_zero.mpr q h, fun h => by rw [h]; rfl⟩
theorem zfull {μ : zM} {n : Nat} (hn : μ.1 8 2 = nI n) (h : n < 15) : v_X2_isFull μ = 0 := by
  unfold v_X2_isFull
  rw [hn, if_pos (show nI n < 15 from nI_lt (a := n) (b := 15) h (by omega))]
theorem zfull1 {μ : zM} {n : Nat} (hn : μ.1 8 2 = nI n) (h : ¬ n < 15) (h2 : n < 2 ^ 31) : v_X2_isFull μ = 1 := by
  unfold v_X2_isFull
  rw [hn, if_neg (show ¬ nI n < 15 from nI_nlt (a := n) (b := 15) (by omega) h2)]
set_option maxRecDepth 100000 in
set_option maxHeartbeats 4000000 in
theorem c_X2_add {l : Launch} {g : zG} {μ : zM} {n : Nat} {a b : Int32} (hn : μ.1 8 2 = nI n) (h : n < 15) : zC l g yX2_add cX2_add 3 none ({ frames := 1, cells := 0, slots := 0, locals := 20 } : Room) 0 0 [.ref (za g 8), .int a, .int b] μ (zRv none (zu (zu (zu μ 9 n a) 10 n b) 8 2 (nI (n + 1)))) zNX := by
  refine zC_of (L0 := [some (.ref (za g 8)), some (.int a), some (.int b)]) (plainFor_of_name (by decide)) (Nat.le_of_ble_eq_true rfl) rfl ?_
  intro x S Y hxl
  subst hxl
  refine k_aload0 S dX2_add_0 (n := 1) rfl ?_
  refine k_callV (As := []) (rest := []) (p := 8) S (c_X2_isFull) mv_X2_isFull m_570 dX2_add_1 rfl rfl ⟨by decide, by decide⟩ (zlt S (by decide)) (by decide) (ci := 2) rfl rfl rfl (Nat.le_of_ble_eq_true rfl) ⟨by decide, by decide⟩ (n := 4) rfl (fun _ _ h => h.elim) (fun v9 ν9 h9 => ?_)
  rw [h9.1, h9.2]
  show zK x g ({ frames := 1, cells := 0, slots := 0, locals := 20 } : Room) 3 0 0 4 [some (.ref (za g 8)), some (.int a), some (.int b)] [.int (v_X2_isFull μ)] μ
  refine k_if_eq S dX2_add_4 (tgt := 8) (by decide) (n := 7) rfl (fun _ => ?_) (fun h9 => absurd (zfull hn h) h9)
  refine k_aload0 S dX2_add_8 (n := 9) rfl ?_
  refine k_getr (r := 9) (T := TX2) (j := 0) S dX2_add_9 (zlt S (by decide)) (by decide) (ci := 2) rfl rfl (by decide) in_2 m_128 rfl rfl (n := 12) rfl ?_
  refine k_aload0 S dX2_add_12 (n := 13) rfl ?_
  refine k_geti (T := TX2) (j := 2) S dX2_add_13 (zlt S (by decide)) (by decide) (ci := 2) rfl rfl (by decide) in_2 m_130 rfl rfl (n := 16) rfl ?_
  refine k_iload1 S dX2_add_16 (n := 17) rfl ?_
  refine k_iast S dX2_add_17 (j := n) (zlt S (by decide)) (by decide) hn h (by decide) (n := 18) rfl ?_
  refine k_aload0 S dX2_add_18 (n := 19) rfl ?_
  refine k_getr (r := 10) (T := TX2) (j := 1) S dX2_add_19 (zlt S (by decide)) (by decide) (ci := 2) rfl rfl (by decide) in_2 m_129 rfl rfl (n := 22) rfl ?_
  refine k_aload0 S dX2_add_22 (n := 23) rfl ?_
  refine k_getv (v := μ.1 8 2) (T := TX2) (j := 2) S dX2_add_23 (zlt S (by decide)) (by decide) (ci := 2) rfl rfl (by decide) in_2 m_130 rfl rfl (by simp [zu, zset, upd]) (n := 26) rfl ?_
  refine k_iload2 S dX2_add_26 (n := 27) rfl ?_
  refine k_iast S dX2_add_27 (j := n) (zlt S (by decide)) (by decide) (by simp [zu, hn]) h (by decide) (n := 28) rfl ?_
  refine k_aload0 S dX2_add_28 (n := 29) rfl ?_
  refine k_dup S dX2_add_29 rfl (n := 30) rfl ?_
  refine k_getv (v := μ.1 8 2) (T := TX2) (j := 2) S dX2_add_30 (zlt S (by decide)) (by decide) (ci := 2) rfl rfl (by decide) in_2 m_130 rfl rfl (by simp [zu, zset, upd]) (n := 33) rfl ?_
  refine k_iconst S dX2_add_33 (v := 1) (by decide) (n := 34) rfl ?_
  refine k_iadd S dX2_add_34 (n := 35) rfl ?_
  refine k_put (T := TX2) (j := 2) S dX2_add_35 (zlt S (by decide)) (by decide) (ci := 2) rfl rfl (by decide) in_2 m_130 rfl rfl (ty0 := tyX2) tyX2_ok nmX2 rfl rfl rfl (n := 38) rfl ?_
  exact k_vret S Y dX2_add_38 (by decide) (by decide) (⟨rfl, by rw [show nI (n + 1) = nI n + 1 from nI_succ n, ← hn]⟩)
set_option maxRecDepth 100000 in
set_option maxHeartbeats 4000000 in
theorem c_X2_subgroupAt {l : Launch} {g : zG} {μ : zM} {n j : Nat} (hn : μ.1 8 2 = nI n) (h : n ≤ 15) (hj : j < n) : zC l g yX2_subgroupAt cX2_subgroupAt 2 (some .int) ({ frames := 0, cells := 0, slots := 0, locals := 0 } : Room) 0 0 [.ref (za g 8), .int (nI j)] μ (zRv (some (.int (μ.1 9 j))) μ) zNX := by
  refine zC_of (L0 := [some (.ref (za g 8)), some (.int (nI j))]) (plainFor_of_name (by decide)) (Nat.le_of_ble_eq_true rfl) rfl ?_
  intro x S Y hxl
  subst hxl
  refine k_iload1 S dX2_subgroupAt_0 (n := 1) rfl ?_
  refine k_if_lt S dX2_subgroupAt_1 (tgt := 21) (by decide) (n := 4) rfl (fun h9 => absurd h9 (nI_pos (by omega))) (fun _ => ?_)
  refine k_iload1 S dX2_subgroupAt_4 (n := 5) rfl ?_
  refine k_aload0 S dX2_subgroupAt_5 (n := 6) rfl ?_
  refine k_geti (T := TX2) (j := 2) S dX2_subgroupAt_6 (zlt S (by decide)) (by decide) (ci := 2) rfl rfl (by decide) in_2 m_130 rfl rfl (n := 9) rfl ?_
  refine k_icmp_ge S dX2_subgroupAt_9 (tgt := 21) (by decide) (n := 12) rfl (fun h9 => absurd h9 (by rw [hn]; exact nI_ge hj (by omega))) (fun _ => ?_)
  refine k_aload0 S dX2_subgroupAt_12 (n := 13) rfl ?_
  refine k_getr (r := 9) (T := TX2) (j := 0) S dX2_subgroupAt_13 (zlt S (by decide)) (by decide) (ci := 2) rfl rfl (by decide) in_2 m_128 rfl rfl (n := 16) rfl ?_
  refine k_iload1 S dX2_subgroupAt_16 (n := 17) rfl ?_
  refine k_iald S dX2_subgroupAt_17 (j := j) (zlt S (by decide)) (by decide) rfl (show j < 15 by omega) (by decide) (n := 18) rfl ?_
  refine k_goto S dX2_subgroupAt_18 (tgt := 22) (by decide) ?_
  exact k_iret S Y dX2_subgroupAt_22 (by decide) (by decide) rfl (⟨rfl, rfl⟩)
set_option maxRecDepth 100000 in
set_option maxHeartbeats 4000000 in
theorem l_X2_isOnOneSide {x : zX} {g : zG} {μ : zM} {k n : Nat} {ce : Int32} (S : zS x g 5 cX2_isOnOneSide RX2) (Y : zR x g (some .boolean) 0 0 [] (zRv (some (.int (zpb (zdir ce (μ.1 10 0) ≠ 0 ∧ ∀ i, i < n → zdir ce (μ.1 10 i) = zdir ce (μ.1 10 0))))) μ) zNX) (hk : k < 10) (hn : n ≤ 15) (hc : μ.1 (11 + k) 5 = ce)  : ∀ (m : Nat) (i : Nat), i + m = n → 1 ≤ i → (∀ j, j < i → zdir ce (μ.1 10 j) = zdir ce (μ.1 10 0)) → zK x g ({ frames := 2, cells := 0, slots := 0, locals := 42 } : Room) 5 0 0 14 [some (.ref (za g 8)), some (.int (nI n)), some (.ref (za g (11 + k))), some (.int (zdir ce (μ.1 10 0))), some (.int (nI i))] [] μ := by
  intro m
  induction m with
  | zero =>
    intro i h1 h2 h3
    refine k_iload4 S dX2_isOnOneSide_14 (n := 16) rfl ?_
    refine k_iload1 S dX2_isOnOneSide_16 (n := 17) rfl ?_
    refine k_icmp_ge S dX2_isOnOneSide_17 (tgt := 43) (by decide) (n := 20) rfl (fun _ => ?_) (fun h9 => absurd (nI_le (by omega) (by omega)) h9)
    refine k_iload3 S dX2_isOnOneSide_43 (n := 44) rfl ?_
    have hJ2 : zK x g ({ frames := 2, cells := 0, slots := 0, locals := 42 } : Room) 5 0 0 52 [some (.ref (za g 8)), some (.int (nI n)), some (.ref (za g (11 + k))), some (.int (zdir ce (μ.1 10 0))), some (.int (nI i))] [.int ((if (zdir ce (μ.1 10 0)) = 0 then (0 : Int32) else (1 : Int32)))] μ := by
      exact k_iret S Y dX2_isOnOneSide_52 (by decide) (by decide) (by rw [zpb_n]; exact zpb_nar _) (⟨congrArg (fun z => some (Value.int z)) (by rw [zpb_n]; exact zpb_c ⟨fun q => ⟨q, fun j hj => h3 j (by omega)⟩, fun q => q.1⟩), rfl⟩)
    refine k_if_eq S dX2_isOnOneSide_44 (tgt := 51) (by decide) (n := 47) rfl (fun c1 => ?_) (fun c1 => ?_)
    ·
      refine k_iconst S dX2_isOnOneSide_51 (v := 0) (by decide) (n := 52) rfl ?_
      rw [if_pos c1] at hJ2
      exact hJ2
    ·
      refine k_iconst S dX2_isOnOneSide_47 (v := 1) (by decide) (n := 48) rfl ?_
      refine k_goto S dX2_isOnOneSide_48 (tgt := 52) (by decide) ?_
      rw [if_neg c1] at hJ2
      exact hJ2
  | succ m ih =>
    intro i h1 h2 h3
    refine k_iload4 S dX2_isOnOneSide_14 (n := 16) rfl ?_
    refine k_iload1 S dX2_isOnOneSide_16 (n := 17) rfl ?_
    refine k_icmp_ge S dX2_isOnOneSide_17 (tgt := 43) (by decide) (n := 20) rfl (fun h9 => absurd h9 (nI_ge (by omega) (by omega))) (fun _ => ?_)
    refine k_aload2 S dX2_isOnOneSide_20 (n := 21) rfl ?_
    refine k_aload0 S dX2_isOnOneSide_21 (n := 22) rfl ?_
    refine k_getr (r := 10) (T := TX2) (j := 1) S dX2_isOnOneSide_22 (zlt S (by decide)) (by decide) (ci := 2) rfl rfl (by decide) in_2 m_129 rfl rfl (n := 25) rfl ?_
    refine k_iload4 S dX2_isOnOneSide_25 (n := 27) rfl ?_
    refine k_iald S dX2_isOnOneSide_27 (j := i) (zlt S (by decide)) (by decide) rfl (show i < 15 by omega) (by decide) (n := 28) rfl ?_
    refine k_callV (As := [.int (μ.1 10 i)]) (rest := []) (p := 11 + k) S (c_X0_side (k := k) hk (ce := ce) hc) mv_X0_sideOfCenter m_581 dX2_isOnOneSide_28 rfl rfl ⟨by decide, by decide⟩ (zlt S (by omega)) (zki_ph hk) (ci := 0) rfl rfl rfl (Nat.le_of_ble_eq_true rfl) ⟨by decide, by decide⟩ (n := 31) rfl (fun _ _ h => h.elim) (fun v9 ν9 h9 => ?_)
    rw [h9.1, h9.2]
    show zK x g ({ frames := 2, cells := 0, slots := 0, locals := 42 } : Room) 5 0 0 31 [some (.ref (za g 8)), some (.int (nI n)), some (.ref (za g (11 + k))), some (.int (zdir ce (μ.1 10 0))), some (.int (nI i))] [.int (zdir ce (μ.1 10 i))] μ
    refine k_iload3 S dX2_isOnOneSide_31 (n := 32) rfl ?_
    refine k_icmp_eq S dX2_isOnOneSide_32 (tgt := 37) (by decide) (n := 35) rfl (fun c1 => ?_) (fun c1 => ?_)
    ·
      refine k_iinc4 S dX2_isOnOneSide_37 (v := nI (i + 1)) (zi1 i) (by decide) (n := 40) rfl ?_
      refine k_goto S dX2_isOnOneSide_40 (tgt := 14) (by decide) ?_
      exact ih (i + 1) (by omega) (by omega) (lt_s h3 c1)
    ·
      refine k_iconst S dX2_isOnOneSide_35 (v := 0) (by decide) (n := 36) rfl ?_
      exact k_iret S Y dX2_isOnOneSide_36 (by decide) (by decide) rfl (⟨congrArg (fun z => some (Value.int z)) ((zpb_f (fun q => c1 (q.2 i (by omega)))).symm), rfl⟩)
set_option maxRecDepth 100000 in
set_option maxHeartbeats 4000000 in
theorem c_X2_isOnOneSide {l : Launch} {g : zG} {μ : zM} {k n : Nat} {ce : Int32} (hk : k < 10) (h1 : 1 ≤ n) (hn : n ≤ 15) (hc : μ.1 (11 + k) 5 = ce) : zC l g yX2_isOnOneSide cX2_isOnOneSide 5 (some .boolean) ({ frames := 2, cells := 0, slots := 0, locals := 42 } : Room) 0 0 [.ref (za g 8), .int (nI n), .ref (za g (11 + k))] μ (zRv (some (.int (zpb (zdir ce (μ.1 10 0) ≠ 0 ∧ ∀ i, i < n → zdir ce (μ.1 10 i) = zdir ce (μ.1 10 0))))) μ) zNX := by
  refine zC_of (L0 := [some (.ref (za g 8)), some (.int (nI n)), some (.ref (za g (11 + k))), none, none]) (plainFor_of_name (by decide)) (Nat.le_of_ble_eq_true rfl) rfl ?_
  intro x S Y hxl
  subst hxl
  refine k_aload2 S dX2_isOnOneSide_0 (n := 1) rfl ?_
  refine k_aload0 S dX2_isOnOneSide_1 (n := 2) rfl ?_
  refine k_getr (r := 10) (T := TX2) (j := 1) S dX2_isOnOneSide_2 (zlt S (by decide)) (by decide) (ci := 2) rfl rfl (by decide) in_2 m_129 rfl rfl (n := 5) rfl ?_
  refine k_iconst S dX2_isOnOneSide_5 (v := 0) (by decide) (n := 6) rfl ?_
  refine k_iald S dX2_isOnOneSide_6 (j := 0) (zlt S (by decide)) (by decide) (by decide) (by decide) (by decide) (n := 7) rfl ?_
  refine k_callV (As := [.int (μ.1 10 0)]) (rest := []) (p := 11 + k) S (c_X0_side (k := k) hk (ce := ce) hc) mv_X0_sideOfCenter m_581 dX2_isOnOneSide_7 rfl rfl ⟨by decide, by decide⟩ (zlt S (by omega)) (zki_ph hk) (ci := 0) rfl rfl rfl (Nat.le_of_ble_eq_true rfl) ⟨by decide, by decide⟩ (n := 10) rfl (fun _ _ h => h.elim) (fun v9 ν9 h9 => ?_)
  rw [h9.1, h9.2]
  show zK x g ({ frames := 2, cells := 0, slots := 0, locals := 42 } : Room) 5 0 0 10 [some (.ref (za g 8)), some (.int (nI n)), some (.ref (za g (11 + k))), none, none] [.int (zdir ce (μ.1 10 0))] μ
  refine k_istore3 S dX2_isOnOneSide_10 (by decide) rfl (n := 11) rfl ?_
  refine k_iconst S dX2_isOnOneSide_11 (v := 1) (by decide) (n := 12) rfl ?_
  refine k_istore4 S dX2_isOnOneSide_12 (by decide) rfl (n := 14) rfl ?_
  exact l_X2_isOnOneSide S Y hk hn hc (n - 1) 1 (by omega) (Nat.le_refl 1) (fun j hj => by rw [show j = 0 by omega])
set_option maxRecDepth 100000 in
set_option maxHeartbeats 4000000 in
theorem l_X2_isSteady {x : zX} {g : zG} {μ : zM} {n : Nat} (S : zS x g 4 cX2_isSteady RX2) (Y : zR x g (some .boolean) 0 0 [] (zRv (some (.int (zpb (zdir (μ.1 10 1) (μ.1 10 0) ≠ 0 ∧ ∀ i, i + 1 < n → zdir (μ.1 10 (i + 1)) (μ.1 10 i) = zdir (μ.1 10 1) (μ.1 10 0))))) μ) zNX) (hn : n ≤ 15)  : ∀ (m : Nat) (i : Nat), i + 1 + m = n → 1 ≤ i → (∀ j, j < i → zdir (μ.1 10 (j + 1)) (μ.1 10 j) = zdir (μ.1 10 1) (μ.1 10 0)) → zK x g ({ frames := 1, cells := 0, slots := 0, locals := 21 } : Room) 4 0 0 18 [some (.ref (za g 8)), some (.int (nI n)), some (.int (zdir (μ.1 10 1) (μ.1 10 0))), some (.int (nI i))] [] μ := by
  intro m
  induction m with
  | zero =>
    intro i h1 h2 h3
    refine k_iload3 S dX2_isSteady_18 (n := 19) rfl ?_
    refine k_iconst S dX2_isSteady_19 (v := 1) (by decide) (n := 20) rfl ?_
    refine k_iadd S dX2_isSteady_20 (n := 21) rfl ?_
    refine k_iload1 S dX2_isSteady_21 (n := 22) rfl ?_
    refine k_icmp_ge S dX2_isSteady_22 (tgt := 54) (by decide) (n := 25) rfl (fun _ => ?_) (fun h9 => absurd (by rw [nI_1]; exact nI_le (by omega) (by omega)) h9)
    refine k_iload2 S dX2_isSteady_54 (n := 55) rfl ?_
    have hJ2 : zK x g ({ frames := 1, cells := 0, slots := 0, locals := 21 } : Room) 4 0 0 63 [some (.ref (za g 8)), some (.int (nI n)), some (.int (zdir (μ.1 10 1) (μ.1 10 0))), some (.int (nI i))] [.int ((if (zdir (μ.1 10 1) (μ.1 10 0)) = 0 then (0 : Int32) else (1 : Int32)))] μ := by
      exact k_iret S Y dX2_isSteady_63 (by decide) (by decide) (by rw [zpb_n]; exact zpb_nar _) (⟨congrArg (fun z => some (Value.int z)) (by rw [zpb_n]; exact zpb_c ⟨fun q => ⟨q, fun j hj => h3 j (by omega)⟩, fun q => q.1⟩), rfl⟩)
    refine k_if_eq S dX2_isSteady_55 (tgt := 62) (by decide) (n := 58) rfl (fun c1 => ?_) (fun c1 => ?_)
    ·
      refine k_iconst S dX2_isSteady_62 (v := 0) (by decide) (n := 63) rfl ?_
      rw [if_pos c1] at hJ2
      exact hJ2
    ·
      refine k_iconst S dX2_isSteady_58 (v := 1) (by decide) (n := 59) rfl ?_
      refine k_goto S dX2_isSteady_59 (tgt := 63) (by decide) ?_
      rw [if_neg c1] at hJ2
      exact hJ2
  | succ m ih =>
    intro i h1 h2 h3
    refine k_iload3 S dX2_isSteady_18 (n := 19) rfl ?_
    refine k_iconst S dX2_isSteady_19 (v := 1) (by decide) (n := 20) rfl ?_
    refine k_iadd S dX2_isSteady_20 (n := 21) rfl ?_
    refine k_iload1 S dX2_isSteady_21 (n := 22) rfl ?_
    refine k_icmp_ge S dX2_isSteady_22 (tgt := 54) (by decide) (n := 25) rfl (fun h9 => absurd h9 (by rw [nI_1]; exact nI_ge (by omega) (by omega))) (fun _ => ?_)
    refine k_aload0 S dX2_isSteady_25 (n := 26) rfl ?_
    refine k_getr (r := 10) (T := TX2) (j := 1) S dX2_isSteady_26 (zlt S (by decide)) (by decide) (ci := 2) rfl rfl (by decide) in_2 m_129 rfl rfl (n := 29) rfl ?_
    refine k_iload3 S dX2_isSteady_29 (n := 30) rfl ?_
    refine k_iconst S dX2_isSteady_30 (v := 1) (by decide) (n := 31) rfl ?_
    refine k_iadd S dX2_isSteady_31 (n := 32) rfl ?_
    refine k_iald S dX2_isSteady_32 (j := i + 1) (zlt S (by decide)) (by decide) (nI_1 i) (show i + 1 < 15 by omega) (by decide) (n := 33) rfl ?_
    refine k_aload0 S dX2_isSteady_33 (n := 34) rfl ?_
    refine k_getr (r := 10) (T := TX2) (j := 1) S dX2_isSteady_34 (zlt S (by decide)) (by decide) (ci := 2) rfl rfl (by decide) in_2 m_129 rfl rfl (n := 37) rfl ?_
    refine k_iload3 S dX2_isSteady_37 (n := 38) rfl ?_
    refine k_iald S dX2_isSteady_38 (j := i) (zlt S (by decide)) (by decide) rfl (show i < 15 by omega) (by decide) (n := 39) rfl ?_
    refine k_callSN (As := [.int (μ.1 10 (i + 1)), .int (μ.1 10 i)]) (rest := []) (host := RX3) S (c_X3_direction) mv_X3_direction (by decide +kernel) dX2_isSteady_39 rfl rfl ⟨by decide, by decide⟩ rfl rfl (Nat.le_of_ble_eq_true rfl) ⟨by decide, by decide⟩ (n := 42) rfl (fun _ _ h => h.elim) (fun v9 ν9 h9 => ?_)
    rw [h9.1, h9.2]
    show zK x g ({ frames := 1, cells := 0, slots := 0, locals := 21 } : Room) 4 0 0 42 [some (.ref (za g 8)), some (.int (nI n)), some (.int (zdir (μ.1 10 1) (μ.1 10 0))), some (.int (nI i))] [.int (zdir (μ.1 10 (i + 1)) (μ.1 10 i))] μ
    refine k_iload2 S dX2_isSteady_42 (n := 43) rfl ?_
    refine k_icmp_eq S dX2_isSteady_43 (tgt := 48) (by decide) (n := 46) rfl (fun c1 => ?_) (fun c1 => ?_)
    ·
      refine k_iinc3 S dX2_isSteady_48 (v := nI (i + 1)) (zi1 i) (by decide) (n := 51) rfl ?_
      refine k_goto S dX2_isSteady_51 (tgt := 18) (by decide) ?_
      exact ih (i + 1) (by omega) (by omega) (lt_s h3 c1)
    ·
      refine k_iconst S dX2_isSteady_46 (v := 0) (by decide) (n := 47) rfl ?_
      exact k_iret S Y dX2_isSteady_47 (by decide) (by decide) rfl (⟨congrArg (fun z => some (Value.int z)) ((zpb_f (fun q => c1 (q.2 i (by omega)))).symm), rfl⟩)
set_option maxRecDepth 100000 in
set_option maxHeartbeats 4000000 in
theorem c_X2_isSteady {l : Launch} {g : zG} {μ : zM} {n : Nat} (h1 : 2 ≤ n) (hn : n ≤ 15) : zC l g yX2_isSteady cX2_isSteady 4 (some .boolean) ({ frames := 1, cells := 0, slots := 0, locals := 21 } : Room) 0 0 [.ref (za g 8), .int (nI n)] μ (zRv (some (.int (zpb (zdir (μ.1 10 1) (μ.1 10 0) ≠ 0 ∧ ∀ i, i + 1 < n → zdir (μ.1 10 (i + 1)) (μ.1 10 i) = zdir (μ.1 10 1) (μ.1 10 0))))) μ) zNX := by
  refine zC_of (L0 := [some (.ref (za g 8)), some (.int (nI n)), none, none]) (plainFor_of_name (by decide)) (Nat.le_of_ble_eq_true rfl) rfl ?_
  intro x S Y hxl
  subst hxl
  refine k_aload0 S dX2_isSteady_0 (n := 1) rfl ?_
  refine k_getr (r := 10) (T := TX2) (j := 1) S dX2_isSteady_1 (zlt S (by decide)) (by decide) (ci := 2) rfl rfl (by decide) in_2 m_129 rfl rfl (n := 4) rfl ?_
  refine k_iconst S dX2_isSteady_4 (v := 1) (by decide) (n := 5) rfl ?_
  refine k_iald S dX2_isSteady_5 (j := 1) (zlt S (by decide)) (by decide) (by decide) (by decide) (by decide) (n := 6) rfl ?_
  refine k_aload0 S dX2_isSteady_6 (n := 7) rfl ?_
  refine k_getr (r := 10) (T := TX2) (j := 1) S dX2_isSteady_7 (zlt S (by decide)) (by decide) (ci := 2) rfl rfl (by decide) in_2 m_129 rfl rfl (n := 10) rfl ?_
  refine k_iconst S dX2_isSteady_10 (v := 0) (by decide) (n := 11) rfl ?_
  refine k_iald S dX2_isSteady_11 (j := 0) (zlt S (by decide)) (by decide) (by decide) (by decide) (by decide) (n := 12) rfl ?_
  refine k_callSN (As := [.int (μ.1 10 1), .int (μ.1 10 0)]) (rest := []) (host := RX3) S (c_X3_direction) mv_X3_direction (by decide +kernel) dX2_isSteady_12 rfl rfl ⟨by decide, by decide⟩ rfl rfl (Nat.le_of_ble_eq_true rfl) ⟨by decide, by decide⟩ (n := 15) rfl (fun _ _ h => h.elim) (fun v9 ν9 h9 => ?_)
  rw [h9.1, h9.2]
  show zK x g ({ frames := 1, cells := 0, slots := 0, locals := 21 } : Room) 4 0 0 15 [some (.ref (za g 8)), some (.int (nI n)), none, none] [.int (zdir (μ.1 10 1) (μ.1 10 0))] μ
  refine k_istore2 S dX2_isSteady_15 (by decide) rfl (n := 16) rfl ?_
  refine k_iconst S dX2_isSteady_16 (v := 1) (by decide) (n := 17) rfl ?_
  refine k_istore3 S dX2_isSteady_17 (by decide) rfl (n := 18) rfl ?_
  exact l_X2_isSteady S Y hn (n - 2) 1 (by omega) (Nat.le_refl 1) (fun j hj => by rw [show j = 0 by omega])
set_option maxRecDepth 100000 in
set_option maxHeartbeats 4000000 in
theorem l_X2_isTurning {x : zX} {g : zG} {μ : zM} {n : Nat} (S : zS x g 4 cX2_isTurning RX2) (Y : zR x g (some .boolean) 0 0 [] (zRv (some (.int (zpb (zdir (μ.1 10 1) (μ.1 10 0) ≠ 0 ∧ ∀ i, 1 ≤ i → i + 1 < n → zdir (μ.1 10 (i + 1)) (μ.1 10 i) = -(zdir (μ.1 10 i) (μ.1 10 (i - 1))))))) μ) zNX) (hn : n ≤ 15)  : ∀ (m : Nat) (i : Nat) (d : Int32), i + 1 + m = n → 1 ≤ i → d = zdir (μ.1 10 i) (μ.1 10 (i - 1)) → (d = 0 ↔ zdir (μ.1 10 1) (μ.1 10 0) = 0) → (∀ j, j < i → 1 ≤ j → zdir (μ.1 10 (j + 1)) (μ.1 10 j) = -(zdir (μ.1 10 j) (μ.1 10 (j - 1)))) → zK x g ({ frames := 1, cells := 0, slots := 0, locals := 21 } : Room) 4 0 0 18 [some (.ref (za g 8)), some (.int (nI n)), some (.int d), some (.int (nI i))] [] μ := by
  intro m
  induction m with
  | zero =>
    intro i d h1 h2 h3 h4 h5
    refine k_iload3 S dX2_isTurning_18 (n := 19) rfl ?_
    refine k_iconst S dX2_isTurning_19 (v := 1) (by decide) (n := 20) rfl ?_
    refine k_iadd S dX2_isTurning_20 (n := 21) rfl ?_
    refine k_iload1 S dX2_isTurning_21 (n := 22) rfl ?_
    refine k_icmp_ge S dX2_isTurning_22 (tgt := 57) (by decide) (n := 25) rfl (fun _ => ?_) (fun h9 => absurd (by rw [nI_1]; exact nI_le (by omega) (by omega)) h9)
    refine k_iload2 S dX2_isTurning_57 (n := 58) rfl ?_
    have hJ2 : zK x g ({ frames := 1, cells := 0, slots := 0, locals := 21 } : Room) 4 0 0 66 [some (.ref (za g 8)), some (.int (nI n)), some (.int d), some (.int (nI i))] [.int ((if d = 0 then (0 : Int32) else (1 : Int32)))] μ := by
      exact k_iret S Y dX2_isTurning_66 (by decide) (by decide) (by rw [zpb_n]; exact zpb_nar _) (⟨congrArg (fun z => some (Value.int z)) (by rw [zpb_n]; exact zpb_c ⟨fun q => ⟨fun z => q (h4.mpr z), fun j hj1 hj => h5 j (by omega) hj1⟩, fun q z => q.1 (h4.mp z)⟩), rfl⟩)
    refine k_if_eq S dX2_isTurning_58 (tgt := 65) (by decide) (n := 61) rfl (fun c1 => ?_) (fun c1 => ?_)
    ·
      refine k_iconst S dX2_isTurning_65 (v := 0) (by decide) (n := 66) rfl ?_
      rw [if_pos c1] at hJ2
      exact hJ2
    ·
      refine k_iconst S dX2_isTurning_61 (v := 1) (by decide) (n := 62) rfl ?_
      refine k_goto S dX2_isTurning_62 (tgt := 66) (by decide) ?_
      rw [if_neg c1] at hJ2
      exact hJ2
  | succ m ih =>
    intro i d h1 h2 h3 h4 h5
    refine k_iload3 S dX2_isTurning_18 (n := 19) rfl ?_
    refine k_iconst S dX2_isTurning_19 (v := 1) (by decide) (n := 20) rfl ?_
    refine k_iadd S dX2_isTurning_20 (n := 21) rfl ?_
    refine k_iload1 S dX2_isTurning_21 (n := 22) rfl ?_
    refine k_icmp_ge S dX2_isTurning_22 (tgt := 57) (by decide) (n := 25) rfl (fun h9 => absurd h9 (by rw [nI_1]; exact nI_ge (by omega) (by omega))) (fun _ => ?_)
    refine k_iload2 S dX2_isTurning_25 (n := 26) rfl ?_
    refine k_ineg S dX2_isTurning_26 (n := 27) rfl ?_
    refine k_istore2 S dX2_isTurning_27 (by decide) rfl (n := 28) rfl ?_
    refine k_aload0 S dX2_isTurning_28 (n := 29) rfl ?_
    refine k_getr (r := 10) (T := TX2) (j := 1) S dX2_isTurning_29 (zlt S (by decide)) (by decide) (ci := 2) rfl rfl (by decide) in_2 m_129 rfl rfl (n := 32) rfl ?_
    refine k_iload3 S dX2_isTurning_32 (n := 33) rfl ?_
    refine k_iconst S dX2_isTurning_33 (v := 1) (by decide) (n := 34) rfl ?_
    refine k_iadd S dX2_isTurning_34 (n := 35) rfl ?_
    refine k_iald S dX2_isTurning_35 (j := i + 1) (zlt S (by decide)) (by decide) (nI_1 i) (show i + 1 < 15 by omega) (by decide) (n := 36) rfl ?_
    refine k_aload0 S dX2_isTurning_36 (n := 37) rfl ?_
    refine k_getr (r := 10) (T := TX2) (j := 1) S dX2_isTurning_37 (zlt S (by decide)) (by decide) (ci := 2) rfl rfl (by decide) in_2 m_129 rfl rfl (n := 40) rfl ?_
    refine k_iload3 S dX2_isTurning_40 (n := 41) rfl ?_
    refine k_iald S dX2_isTurning_41 (j := i) (zlt S (by decide)) (by decide) rfl (show i < 15 by omega) (by decide) (n := 42) rfl ?_
    refine k_callSN (As := [.int (μ.1 10 (i + 1)), .int (μ.1 10 i)]) (rest := []) (host := RX3) S (c_X3_direction) mv_X3_direction (by decide +kernel) dX2_isTurning_42 rfl rfl ⟨by decide, by decide⟩ rfl rfl (Nat.le_of_ble_eq_true rfl) ⟨by decide, by decide⟩ (n := 45) rfl (fun _ _ h => h.elim) (fun v9 ν9 h9 => ?_)
    rw [h9.1, h9.2]
    show zK x g ({ frames := 1, cells := 0, slots := 0, locals := 21 } : Room) 4 0 0 45 [some (.ref (za g 8)), some (.int (nI n)), some (.int (-d)), some (.int (nI i))] [.int (zdir (μ.1 10 (i + 1)) (μ.1 10 i))] μ
    refine k_iload2 S dX2_isTurning_45 (n := 46) rfl ?_
    refine k_icmp_eq S dX2_isTurning_46 (tgt := 51) (by decide) (n := 49) rfl (fun c1 => ?_) (fun c1 => ?_)
    ·
      refine k_iinc3 S dX2_isTurning_51 (v := nI (i + 1)) (zi1 i) (by decide) (n := 54) rfl ?_
      refine k_goto S dX2_isTurning_54 (tgt := 18) (by decide) ?_
      rw [← c1]
      refine ih (i + 1) _ (by omega) (by omega) rfl ?_ (lt_s h5 (fun _ => by rw [c1, h3]))
      rw [c1, ← h4]
      exact zneg0 _
    ·
      refine k_iconst S dX2_isTurning_49 (v := 0) (by decide) (n := 50) rfl ?_
      exact k_iret S Y dX2_isTurning_50 (by decide) (by decide) rfl (⟨congrArg (fun z => some (Value.int z)) ((zpb_f (fun q => c1 (by rw [h3]; exact q.2 i h2 (by omega)))).symm), rfl⟩)
set_option maxRecDepth 100000 in
set_option maxHeartbeats 4000000 in
theorem c_X2_isTurning {l : Launch} {g : zG} {μ : zM} {n : Nat} (h1 : 2 ≤ n) (hn : n ≤ 15) : zC l g yX2_isTurning cX2_isTurning 4 (some .boolean) ({ frames := 1, cells := 0, slots := 0, locals := 21 } : Room) 0 0 [.ref (za g 8), .int (nI n)] μ (zRv (some (.int (zpb (zdir (μ.1 10 1) (μ.1 10 0) ≠ 0 ∧ ∀ i, 1 ≤ i → i + 1 < n → zdir (μ.1 10 (i + 1)) (μ.1 10 i) = -(zdir (μ.1 10 i) (μ.1 10 (i - 1))))))) μ) zNX := by
  refine zC_of (L0 := [some (.ref (za g 8)), some (.int (nI n)), none, none]) (plainFor_of_name (by decide)) (Nat.le_of_ble_eq_true rfl) rfl ?_
  intro x S Y hxl
  subst hxl
  refine k_aload0 S dX2_isTurning_0 (n := 1) rfl ?_
  refine k_getr (r := 10) (T := TX2) (j := 1) S dX2_isTurning_1 (zlt S (by decide)) (by decide) (ci := 2) rfl rfl (by decide) in_2 m_129 rfl rfl (n := 4) rfl ?_
  refine k_iconst S dX2_isTurning_4 (v := 1) (by decide) (n := 5) rfl ?_
  refine k_iald S dX2_isTurning_5 (j := 1) (zlt S (by decide)) (by decide) (by decide) (by decide) (by decide) (n := 6) rfl ?_
  refine k_aload0 S dX2_isTurning_6 (n := 7) rfl ?_
  refine k_getr (r := 10) (T := TX2) (j := 1) S dX2_isTurning_7 (zlt S (by decide)) (by decide) (ci := 2) rfl rfl (by decide) in_2 m_129 rfl rfl (n := 10) rfl ?_
  refine k_iconst S dX2_isTurning_10 (v := 0) (by decide) (n := 11) rfl ?_
  refine k_iald S dX2_isTurning_11 (j := 0) (zlt S (by decide)) (by decide) (by decide) (by decide) (by decide) (n := 12) rfl ?_
  refine k_callSN (As := [.int (μ.1 10 1), .int (μ.1 10 0)]) (rest := []) (host := RX3) S (c_X3_direction) mv_X3_direction (by decide +kernel) dX2_isTurning_12 rfl rfl ⟨by decide, by decide⟩ rfl rfl (Nat.le_of_ble_eq_true rfl) ⟨by decide, by decide⟩ (n := 15) rfl (fun _ _ h => h.elim) (fun v9 ν9 h9 => ?_)
  rw [h9.1, h9.2]
  show zK x g ({ frames := 1, cells := 0, slots := 0, locals := 21 } : Room) 4 0 0 15 [some (.ref (za g 8)), some (.int (nI n)), none, none] [.int (zdir (μ.1 10 1) (μ.1 10 0))] μ
  refine k_istore2 S dX2_isTurning_15 (by decide) rfl (n := 16) rfl ?_
  refine k_iconst S dX2_isTurning_16 (v := 1) (by decide) (n := 17) rfl ?_
  refine k_istore3 S dX2_isTurning_17 (by decide) rfl (n := 18) rfl ?_
  exact l_X2_isTurning S Y hn (n - 2) 1 _ (by omega) (Nat.le_refl 1) rfl Iff.rfl (fun j hj h1 => absurd hj (by omega))
set_option maxRecDepth 100000 in
set_option maxHeartbeats 4000000 in
theorem l_X2_isOften {x : zX} {g : zG} {μ : zM} {k n : Nat} {b c ce w : Int32} (S : zS x g 8 cX2_isOften RX2) (Y : zR x g (some .boolean) 0 0 [] (zRv (some (.int (zpb (zsb (μ.1 10 0) ce w b ≠ 0 ∧ c ≤ nI (zct (fun i => zsb (μ.1 10 i) ce w b = zsb (μ.1 10 0) ce w b) n))))) μ) zNX) (hk : k < 10) (hn : n ≤ 15) (hc : μ.1 (11 + k) 5 = ce) (hw : μ.1 (11 + k) 7 = w)  : ∀ (m : Nat) (i : Nat), i + m = n → zK x g ({ frames := 1, cells := 0, slots := 0, locals := 22 } : Room) 8 0 0 20 [some (.ref (za g 8)), some (.int (nI n)), some (.int b), some (.int c), some (.ref (za g (11 + k))), some (.int (zsb (μ.1 10 0) ce w b)), some (.int (nI (zct (fun i => zsb (μ.1 10 i) ce w b = zsb (μ.1 10 0) ce w b) i))), some (.int (nI i))] [] μ := by
  intro m
  induction m with
  | zero =>
    intro i h1
    have e9 : i = n := by omega
    refine k_iload7 S dX2_isOften_20 (n := 22) rfl ?_
    refine k_iload1 S dX2_isOften_22 (n := 23) rfl ?_
    refine k_icmp_ge S dX2_isOften_23 (tgt := 60) (by decide) (n := 26) rfl (fun _ => ?_) (fun h9 => absurd (nI_le (by omega) (by omega)) h9)
    refine k_iload5 S dX2_isOften_60 (n := 62) rfl ?_
    have hJ2 : zK x g ({ frames := 1, cells := 0, slots := 0, locals := 22 } : Room) 8 0 0 76 [some (.ref (za g 8)), some (.int (nI n)), some (.int b), some (.int c), some (.ref (za g (11 + k))), some (.int (zsb (μ.1 10 0) ce w b)), some (.int (nI (zct (fun i => zsb (μ.1 10 i) ce w b = zsb (μ.1 10 0) ce w b) i))), some (.int (nI i))] [.int ((if (zsb (μ.1 10 0) ce w b) = 0 then (0 : Int32) else (if (nI (zct (fun i => zsb (μ.1 10 i) ce w b = zsb (μ.1 10 0) ce w b) i)) < c then (0 : Int32) else (1 : Int32))))] μ := by
      exact k_iret S Y dX2_isOften_76 (by decide) (by decide) (by repeat' (first | rfl | split)) (⟨congrArg (fun z => some (Value.int z)) (by
      subst e9
      by_cases q1 : zsb (μ.1 10 0) ce w b = 0
      · rw [if_pos q1, zpb_f (fun q => q.1 q1)]
      · rw [if_neg q1]
        by_cases q2 : nI (zct (fun i => zsb (μ.1 10 i) ce w b = zsb (μ.1 10 0) ce w b) i) < c
        · rw [if_pos q2, zpb_f (fun q => absurd q2 (Int32.not_lt.mpr q.2))]
        · rw [if_neg q2, zpb_t ⟨q1, Int32.not_lt.mp q2⟩]), rfl⟩)
    refine k_if_eq S dX2_isOften_62 (tgt := 75) (by decide) (n := 65) rfl (fun c1 => ?_) (fun c1 => ?_)
    ·
      refine k_iconst S dX2_isOften_75 (v := 0) (by decide) (n := 76) rfl ?_
      rw [if_pos c1] at hJ2
      exact hJ2
    ·
      refine k_iload6 S dX2_isOften_65 (n := 67) rfl ?_
      refine k_iload3 S dX2_isOften_67 (n := 68) rfl ?_
      refine k_icmp_lt S dX2_isOften_68 (tgt := 75) (by decide) (n := 71) rfl (fun c3 => ?_) (fun c3 => ?_)
      ·
        refine k_iconst S dX2_isOften_75 (v := 0) (by decide) (n := 76) rfl ?_
        rw [if_neg c1, if_pos c3] at hJ2
        exact hJ2
      ·
        refine k_iconst S dX2_isOften_71 (v := 1) (by decide) (n := 72) rfl ?_
        refine k_goto S dX2_isOften_72 (tgt := 76) (by decide) ?_
        rw [if_neg c1, if_neg c3] at hJ2
        exact hJ2
  | succ m ih =>
    intro i h1
    refine k_iload7 S dX2_isOften_20 (n := 22) rfl ?_
    refine k_iload1 S dX2_isOften_22 (n := 23) rfl ?_
    refine k_icmp_ge S dX2_isOften_23 (tgt := 60) (by decide) (n := 26) rfl (fun h9 => absurd h9 (nI_ge (by omega) (by omega))) (fun _ => ?_)
    refine k_iload6 S dX2_isOften_26 (n := 28) rfl ?_
    refine k_aload4 S dX2_isOften_28 (n := 30) rfl ?_
    refine k_aload0 S dX2_isOften_30 (n := 31) rfl ?_
    refine k_getr (r := 10) (T := TX2) (j := 1) S dX2_isOften_31 (zlt S (by decide)) (by decide) (ci := 2) rfl rfl (by decide) in_2 m_129 rfl rfl (n := 34) rfl ?_
    refine k_iload7 S dX2_isOften_34 (n := 36) rfl ?_
    refine k_iald S dX2_isOften_36 (j := i) (zlt S (by decide)) (by decide) rfl (show i < 15 by omega) (by decide) (n := 37) rfl ?_
    refine k_iload2 S dX2_isOften_37 (n := 38) rfl ?_
    refine k_callV (As := [.int (μ.1 10 i), .int b]) (rest := [.int (nI (zct (fun i => zsb (μ.1 10 i) ce w b = zsb (μ.1 10 0) ce w b) i))]) (p := 11 + k) S (c_X0_beyond (k := k) hk (ce := ce) (w := w) hc hw) mv_X0_sideBeyond m_576 dX2_isOften_38 rfl rfl ⟨by decide, by decide⟩ (zlt S (by omega)) (zki_ph hk) (ci := 0) rfl rfl rfl (Nat.le_of_ble_eq_true rfl) ⟨by decide, by decide⟩ (n := 41) rfl (fun _ _ h => h.elim) (fun v9 ν9 h9 => ?_)
    rw [h9.1, h9.2]
    show zK x g ({ frames := 1, cells := 0, slots := 0, locals := 22 } : Room) 8 0 0 41 [some (.ref (za g 8)), some (.int (nI n)), some (.int b), some (.int c), some (.ref (za g (11 + k))), some (.int (zsb (μ.1 10 0) ce w b)), some (.int (nI (zct (fun i => zsb (μ.1 10 i) ce w b = zsb (μ.1 10 0) ce w b) i))), some (.int (nI i))] [.int (zsb (μ.1 10 i) ce w b), .int (nI (zct (fun i => zsb (μ.1 10 i) ce w b = zsb (μ.1 10 0) ce w b) i))] μ
    refine k_iload5 S dX2_isOften_41 (n := 43) rfl ?_
    have hJ2 : zK x g ({ frames := 1, cells := 0, slots := 0, locals := 22 } : Room) 8 0 0 51 [some (.ref (za g 8)), some (.int (nI n)), some (.int b), some (.int c), some (.ref (za g (11 + k))), some (.int (zsb (μ.1 10 0) ce w b)), some (.int (nI (zct (fun i => zsb (μ.1 10 i) ce w b = zsb (μ.1 10 0) ce w b) i))), some (.int (nI i))] [.int ((if (zsb (μ.1 10 i) ce w b) = (zsb (μ.1 10 0) ce w b) then (1 : Int32) else (0 : Int32))), .int (nI (zct (fun i => zsb (μ.1 10 i) ce w b = zsb (μ.1 10 0) ce w b) i))] μ := by
      refine k_iadd S dX2_isOften_51 (n := 52) rfl ?_
      refine k_istore6 S dX2_isOften_52 (by decide) rfl (n := 54) rfl ?_
      refine k_iinc7 S dX2_isOften_54 (v := nI (i + 1)) (zi1 i) (by decide) (n := 57) rfl ?_
      refine k_goto S dX2_isOften_57 (tgt := 20) (by decide) ?_
      rw [zct_s (fun i => zsb (μ.1 10 i) ce w b = zsb (μ.1 10 0) ce w b) i]
      exact ih (i + 1) (by omega)
    refine k_icmp_ne S dX2_isOften_43 (tgt := 50) (by decide) (n := 46) rfl (fun c1 => ?_) (fun c1 => ?_)
    ·
      refine k_iconst S dX2_isOften_50 (v := 0) (by decide) (n := 51) rfl ?_
      rw [if_neg c1] at hJ2
      exact hJ2
    ·
      refine k_iconst S dX2_isOften_46 (v := 1) (by decide) (n := 47) rfl ?_
      refine k_goto S dX2_isOften_47 (tgt := 51) (by decide) ?_
      rw [if_pos c1] at hJ2
      exact hJ2
set_option maxRecDepth 100000 in
set_option maxHeartbeats 4000000 in
theorem c_X2_isOften {l : Launch} {g : zG} {μ : zM} {k n : Nat} {b c ce w : Int32} (hk : k < 10) (hn : n ≤ 15) (hc : μ.1 (11 + k) 5 = ce) (hw : μ.1 (11 + k) 7 = w) : zC l g yX2_isOften cX2_isOften 8 (some .boolean) ({ frames := 1, cells := 0, slots := 0, locals := 22 } : Room) 0 0 [.ref (za g 8), .int (nI n), .int b, .int c, .ref (za g (11 + k))] μ (zRv (some (.int (zpb (zsb (μ.1 10 0) ce w b ≠ 0 ∧ c ≤ nI (zct (fun i => zsb (μ.1 10 i) ce w b = zsb (μ.1 10 0) ce w b) n))))) μ) zNX := by
  refine zC_of (L0 := [some (.ref (za g 8)), some (.int (nI n)), some (.int b), some (.int c), some (.ref (za g (11 + k))), none, none, none]) (plainFor_of_name (by decide)) (Nat.le_of_ble_eq_true rfl) rfl ?_
  intro x S Y hxl
  subst hxl
  refine k_aload4 S dX2_isOften_0 (n := 2) rfl ?_
  refine k_aload0 S dX2_isOften_2 (n := 3) rfl ?_
  refine k_getr (r := 10) (T := TX2) (j := 1) S dX2_isOften_3 (zlt S (by decide)) (by decide) (ci := 2) rfl rfl (by decide) in_2 m_129 rfl rfl (n := 6) rfl ?_
  refine k_iconst S dX2_isOften_6 (v := 0) (by decide) (n := 7) rfl ?_
  refine k_iald S dX2_isOften_7 (j := 0) (zlt S (by decide)) (by decide) (by decide) (by decide) (by decide) (n := 8) rfl ?_
  refine k_iload2 S dX2_isOften_8 (n := 9) rfl ?_
  refine k_callV (As := [.int (μ.1 10 0), .int b]) (rest := []) (p := 11 + k) S (c_X0_beyond (k := k) hk (ce := ce) (w := w) hc hw) mv_X0_sideBeyond m_576 dX2_isOften_9 rfl rfl ⟨by decide, by decide⟩ (zlt S (by omega)) (zki_ph hk) (ci := 0) rfl rfl rfl (Nat.le_of_ble_eq_true rfl) ⟨by decide, by decide⟩ (n := 12) rfl (fun _ _ h => h.elim) (fun v9 ν9 h9 => ?_)
  rw [h9.1, h9.2]
  show zK x g ({ frames := 1, cells := 0, slots := 0, locals := 22 } : Room) 8 0 0 12 [some (.ref (za g 8)), some (.int (nI n)), some (.int b), some (.int c), some (.ref (za g (11 + k))), none, none, none] [.int (zsb (μ.1 10 0) ce w b)] μ
  refine k_istore5 S dX2_isOften_12 (by decide) rfl (n := 14) rfl ?_
  refine k_iconst S dX2_isOften_14 (v := 0) (by decide) (n := 15) rfl ?_
  refine k_istore6 S dX2_isOften_15 (by decide) rfl (n := 17) rfl ?_
  refine k_iconst S dX2_isOften_17 (v := 0) (by decide) (n := 18) rfl ?_
  refine k_istore7 S dX2_isOften_18 (by decide) rfl (n := 20) rfl ?_
  exact l_X2_isOften S Y hk hn hc hw n 0 (by omega)
set_option maxRecDepth 100000 in
set_option maxHeartbeats 4000000 in
theorem l_X2_beyondSome {x : zX} {g : zG} {μ : zM} {k n : Nat} {ce w : Int32} (S : zS x g 5 cX2_beyondSome RX2) (Y : zR x g (some .int) 0 0 [] (zRv (some (.int (nI (zct (fun i => ¬ zsb (μ.1 10 i) ce w 1 = 0) n)))) μ) zNX) (hk : k < 10) (hn : n ≤ 15) (hc : μ.1 (11 + k) 5 = ce) (hw : μ.1 (11 + k) 7 = w)  : ∀ (m : Nat) (i : Nat), i + m = n → zK x g ({ frames := 1, cells := 0, slots := 0, locals := 22 } : Room) 5 0 0 5 [some (.ref (za g 8)), some (.int (nI n)), some (.ref (za g (11 + k))), some (.int (nI (zct (fun i => ¬ zsb (μ.1 10 i) ce w 1 = 0) i))), some (.int (nI i))] [] μ := by
  intro m
  induction m with
  | zero =>
    intro i h1
    have e9 : i = n := by omega
    refine k_iload4 S dX2_beyondSome_5 (n := 7) rfl ?_
    refine k_iload1 S dX2_beyondSome_7 (n := 8) rfl ?_
    refine k_icmp_ge S dX2_beyondSome_8 (tgt := 40) (by decide) (n := 11) rfl (fun _ => ?_) (fun h9 => absurd (nI_le (by omega) (by omega)) h9)
    refine k_iload3 S dX2_beyondSome_40 (n := 41) rfl ?_
    exact k_iret S Y dX2_beyondSome_41 (by decide) (by decide) rfl (⟨by rw [e9], rfl⟩)
  | succ m ih =>
    intro i h1
    refine k_iload4 S dX2_beyondSome_5 (n := 7) rfl ?_
    refine k_iload1 S dX2_beyondSome_7 (n := 8) rfl ?_
    refine k_icmp_ge S dX2_beyondSome_8 (tgt := 40) (by decide) (n := 11) rfl (fun h9 => absurd h9 (nI_ge (by omega) (by omega))) (fun _ => ?_)
    refine k_iload3 S dX2_beyondSome_11 (n := 12) rfl ?_
    refine k_aload2 S dX2_beyondSome_12 (n := 13) rfl ?_
    refine k_aload0 S dX2_beyondSome_13 (n := 14) rfl ?_
    refine k_getr (r := 10) (T := TX2) (j := 1) S dX2_beyondSome_14 (zlt S (by decide)) (by decide) (ci := 2) rfl rfl (by decide) in_2 m_129 rfl rfl (n := 17) rfl ?_
    refine k_iload4 S dX2_beyondSome_17 (n := 19) rfl ?_
    refine k_iald S dX2_beyondSome_19 (j := i) (zlt S (by decide)) (by decide) rfl (show i < 15 by omega) (by decide) (n := 20) rfl ?_
    refine k_iconst S dX2_beyondSome_20 (v := 1) (by decide) (n := 21) rfl ?_
    refine k_callV (As := [.int (μ.1 10 i), .int 1]) (rest := [.int (nI (zct (fun i => ¬ zsb (μ.1 10 i) ce w 1 = 0) i))]) (p := 11 + k) S (c_X0_beyond (k := k) hk (ce := ce) (w := w) hc hw) mv_X0_sideBeyond m_576 dX2_beyondSome_21 rfl rfl ⟨by decide, by decide⟩ (zlt S (by omega)) (zki_ph hk) (ci := 0) rfl rfl rfl (Nat.le_of_ble_eq_true rfl) ⟨by decide, by decide⟩ (n := 24) rfl (fun _ _ h => h.elim) (fun v9 ν9 h9 => ?_)
    rw [h9.1, h9.2]
    show zK x g ({ frames := 1, cells := 0, slots := 0, locals := 22 } : Room) 5 0 0 24 [some (.ref (za g 8)), some (.int (nI n)), some (.ref (za g (11 + k))), some (.int (nI (zct (fun i => ¬ zsb (μ.1 10 i) ce w 1 = 0) i))), some (.int (nI i))] [.int (zsb (μ.1 10 i) ce w 1), .int (nI (zct (fun i => ¬ zsb (μ.1 10 i) ce w 1 = 0) i))] μ
    have hJ2 : zK x g ({ frames := 1, cells := 0, slots := 0, locals := 22 } : Room) 5 0 0 32 [some (.ref (za g 8)), some (.int (nI n)), some (.ref (za g (11 + k))), some (.int (nI (zct (fun i => ¬ zsb (μ.1 10 i) ce w 1 = 0) i))), some (.int (nI i))] [.int ((if (zsb (μ.1 10 i) ce w 1) = 0 then (0 : Int32) else (1 : Int32))), .int (nI (zct (fun i => ¬ zsb (μ.1 10 i) ce w 1 = 0) i))] μ := by
      refine k_iadd S dX2_beyondSome_32 (n := 33) rfl ?_
      refine k_istore3 S dX2_beyondSome_33 (by decide) rfl (n := 34) rfl ?_
      refine k_iinc4 S dX2_beyondSome_34 (v := nI (i + 1)) (zi1 i) (by decide) (n := 37) rfl ?_
      refine k_goto S dX2_beyondSome_37 (tgt := 5) (by decide) ?_
      rw [zct_n (fun i => zsb (μ.1 10 i) ce w 1 = 0) i]
      exact ih (i + 1) (by omega)
    refine k_if_eq S dX2_beyondSome_24 (tgt := 31) (by decide) (n := 27) rfl (fun c1 => ?_) (fun c1 => ?_)
    ·
      refine k_iconst S dX2_beyondSome_31 (v := 0) (by decide) (n := 32) rfl ?_
      rw [if_pos c1] at hJ2
      exact hJ2
    ·
      refine k_iconst S dX2_beyondSome_27 (v := 1) (by decide) (n := 28) rfl ?_
      refine k_goto S dX2_beyondSome_28 (tgt := 32) (by decide) ?_
      rw [if_neg c1] at hJ2
      exact hJ2
set_option maxRecDepth 100000 in
set_option maxHeartbeats 4000000 in
theorem c_X2_beyondSome {l : Launch} {g : zG} {μ : zM} {k n : Nat} {ce w : Int32} (hk : k < 10) (hn : n ≤ 15) (hc : μ.1 (11 + k) 5 = ce) (hw : μ.1 (11 + k) 7 = w) : zC l g yX2_beyondSome cX2_beyondSome 5 (some .int) ({ frames := 1, cells := 0, slots := 0, locals := 22 } : Room) 0 0 [.ref (za g 8), .int (nI n), .ref (za g (11 + k))] μ (zRv (some (.int (nI (zct (fun i => ¬ zsb (μ.1 10 i) ce w 1 = 0) n)))) μ) zNX := by
  refine zC_of (L0 := [some (.ref (za g 8)), some (.int (nI n)), some (.ref (za g (11 + k))), none, none]) (plainFor_of_name (by decide)) (Nat.le_of_ble_eq_true rfl) rfl ?_
  intro x S Y hxl
  subst hxl
  refine k_iconst S dX2_beyondSome_0 (v := 0) (by decide) (n := 1) rfl ?_
  refine k_istore3 S dX2_beyondSome_1 (by decide) rfl (n := 2) rfl ?_
  refine k_iconst S dX2_beyondSome_2 (v := 0) (by decide) (n := 3) rfl ?_
  refine k_istore4 S dX2_beyondSome_3 (by decide) rfl (n := 5) rfl ?_
  exact l_X2_beyondSome S Y hk hn hc hw n 0 (by omega)
end
section
section K15
variable {x : zX} {g : zG} {R : Room} {nL ce sl pc n : Nat} {L : List (Option Value)} {st : List Value} {μ : zM} {cc : ByteArray} {own : String}
theorem k_tsw {a : Int32} {dflt lo hi off : Int} {offs : Array Int} {len tgt : Nat} (S : zS x g nL cc own) (hd : decode cc pc = .ok (.tableswitch dflt lo hi offs, len)) (h1 : ¬ a.toInt < lo) (h2 : ¬ hi < a.toInt) (ho : offs[(a.toInt - lo).toNat]? = some off) (ht : (pc : Int) + off = (tgt : Int)) (k : zK x g R nL ce sl tgt L st μ) : zK x g R nL ce sl pc L (.int a :: st) μ := fun H locs ls hP hS hl => lv_tableIn S.ex S.by hd h1 h2 ho ht (k H locs ls hP hS hl)
theorem k_tswo {a : Int32} {dflt lo hi : Int} {offs : Array Int} {len tgt : Nat} (S : zS x g nL cc own) (hd : decode cc pc = .ok (.tableswitch dflt lo hi offs, len)) (h : a.toInt < lo ∨ hi < a.toInt) (ht : (pc : Int) + dflt = (tgt : Int)) (k : zK x g R nL ce sl tgt L st μ) : zK x g R nL ce sl pc L (.int a :: st) μ := fun H locs ls hP hS hl => lv_tableOut S.ex S.by hd h ht (k H locs ls hP hS hl)
end K15
/-! WHAT THE WINDOW SAYS OF A RULE -/
def zWb (r n : Nat) (lv : Nat → Int32) (ce w : Int32) : Prop := match r with
  | 1 => 1 ≤ n ∧ ¬ zsb (lv 0) ce w 3 = 0
  | 2 => 9 ≤ n ∧ (zdir ce (lv 0) ≠ 0 ∧ ∀ i, i < 9 → zdir ce (lv i) = zdir ce (lv 0))
  | 3 => 6 ≤ n ∧ (zdir (lv 1) (lv 0) ≠ 0 ∧ ∀ i, i + 1 < 6 → zdir (lv (i + 1)) (lv i) = zdir (lv 1) (lv 0))
  | 4 => 14 ≤ n ∧ (zdir (lv 1) (lv 0) ≠ 0 ∧ ∀ i, 1 ≤ i → i + 1 < 14 → zdir (lv (i + 1)) (lv i) = -(zdir (lv i) (lv (i - 1))))
  | 5 => 3 ≤ n ∧ (zsb (lv 0) ce w 2 ≠ 0 ∧ 2 ≤ nI (zct (fun i => zsb (lv i) ce w 2 = zsb (lv 0) ce w 2) 3))
  | 6 => 5 ≤ n ∧ (zsb (lv 0) ce w 1 ≠ 0 ∧ 4 ≤ nI (zct (fun i => zsb (lv i) ce w 1 = zsb (lv 0) ce w 1) 5))
  | 7 => 15 ≤ n ∧ nI (zct (fun i => ¬ zsb (lv i) ce w 1 = 0) 15) = 0
  | _ => 8 ≤ n ∧ nI (zct (fun i => ¬ zsb (lv i) ce w 1 = 0) 8) = 8
set_option maxRecDepth 100000 in
set_option maxHeartbeats 4000000 in
theorem c_X2_breaks1 {l : Launch} {g : zG} {μ : zM} {k n : Nat} {ce w : Int32} (hk : k < 10) (hc : μ.1 (11 + k) 5 = ce) (hw : μ.1 (11 + k) 7 = w) (hn : μ.1 8 2 = nI n) (hn15 : n ≤ 15) : zC l g yX2_breaks cX2_breaks 4 (some .boolean) ({ frames := 3, cells := 0, slots := 0, locals := 66 } : Room) 0 0 [.ref (za g 8), .int 1, .ref (za g (11 + k))] μ (zRv (some (.int (zpb (zWb 1 n (μ.1 10) ce w)))) μ) zNX := by
  refine zC_of (L0 := [some (.ref (za g 8)), some (.int 1), some (.ref (za g (11 + k))), none]) (plainFor_of_name (by decide)) (Nat.le_of_ble_eq_true rfl) rfl ?_
  intro x S Y hxl
  subst hxl
  refine k_iload1 S dX2_breaks_0 (n := 1) rfl ?_
  refine k_callSN (As := [.int 1]) (rest := []) (host := RX3) S (c_pr1) mv_X3_pointsOfRule (by decide +kernel) dX2_breaks_1 rfl rfl ⟨by decide, by decide⟩ rfl rfl (Nat.le_of_ble_eq_true rfl) ⟨by decide, by decide⟩ (n := 4) rfl (fun _ _ h => h.elim) (fun v9 ν9 h9 => ?_)
  rw [h9.1, h9.2]
  show zK x g ({ frames := 3, cells := 0, slots := 0, locals := 66 } : Room) 4 0 0 4 [some (.ref (za g 8)), some (.int 1), some (.ref (za g (11 + k))), none] [.int 1] μ
  refine k_istore3 S dX2_breaks_4 (by decide) rfl (n := 5) rfl ?_
  refine k_iload3 S dX2_breaks_5 (n := 6) rfl ?_
  refine k_iconst S dX2_breaks_6 (v := 1) (by decide) (n := 7) rfl ?_
  refine k_icmp_lt S dX2_breaks_7 (tgt := 18) (by decide) (n := 10) rfl (fun h9 => absurd h9 (by decide)) (fun _ => ?_)
  refine k_iload3 S dX2_breaks_10 (n := 11) rfl ?_
  refine k_aload0 S dX2_breaks_11 (n := 12) rfl ?_
  refine k_getv (v := nI n) (T := TX2) (j := 2) S dX2_breaks_12 (zlt S (by decide)) (by decide) (ci := 2) rfl rfl (by decide) in_2 m_130 rfl rfl hn (n := 15) rfl ?_
  refine k_icmp_le S dX2_breaks_15 (tgt := 20) (by decide) (n := 18) rfl (fun c1 => ?_) (fun c1 => ?_)
  ·
    have h1 : 1 ≤ n := (nI_leI (by omega) (by omega)).mp (show nI 1 ≤ nI n from c1)
    refine k_iload1 S dX2_breaks_20 (n := 21) rfl ?_
    refine k_tsw S dX2_breaks_21 (off := 47) (tgt := 68) (by decide) (by decide) (by decide) (by decide) ?_
    refine k_aload2 S dX2_breaks_68 (n := 69) rfl ?_
    refine k_aload0 S dX2_breaks_69 (n := 70) rfl ?_
    refine k_getr (r := 10) (T := TX2) (j := 1) S dX2_breaks_70 (zlt S (by decide)) (by decide) (ci := 2) rfl rfl (by decide) in_2 m_129 rfl rfl (n := 73) rfl ?_
    refine k_iconst S dX2_breaks_73 (v := 0) (by decide) (n := 74) rfl ?_
    refine k_iald S dX2_breaks_74 (j := 0) (zlt S (by decide)) (by decide) (by decide) (by decide) (by decide) (n := 75) rfl ?_
    refine k_iconst S dX2_breaks_75 (v := 3) (by decide) (n := 76) rfl ?_
    refine k_callV (As := [.int (μ.1 10 0), .int 3]) (rest := []) (p := 11 + k) S (c_X0_beyond (k := k) hk (ce := ce) (w := w) hc hw) mv_X0_sideBeyond m_576 dX2_breaks_76 rfl rfl ⟨by decide, by decide⟩ (zlt S (by omega)) (zki_ph hk) (ci := 0) rfl rfl rfl (Nat.le_of_ble_eq_true rfl) ⟨by decide, by decide⟩ (n := 79) rfl (fun _ _ h => h.elim) (fun v9 ν9 h9 => ?_)
    rw [h9.1, h9.2]
    show zK x g ({ frames := 3, cells := 0, slots := 0, locals := 66 } : Room) 4 0 0 79 [some (.ref (za g 8)), some (.int 1), some (.ref (za g (11 + k))), some (.int 1)] [.int (zsb (μ.1 10 0) ce w 3)] μ
    have hJ2 : zK x g ({ frames := 3, cells := 0, slots := 0, locals := 66 } : Room) 4 0 0 87 [some (.ref (za g 8)), some (.int 1), some (.ref (za g (11 + k))), some (.int 1)] [.int ((if (zsb (μ.1 10 0) ce w 3) = 0 then (0 : Int32) else (1 : Int32)))] μ := by
      exact k_iret S Y dX2_breaks_87 (by decide) (by decide) (by rw [zpb_n]; exact zpb_nar _) (⟨congrArg (fun z => some (Value.int z)) (by rw [zpb_n]; exact zpb_c ⟨fun q => ⟨h1, q⟩, fun q => q.2⟩), rfl⟩)
    refine k_if_eq S dX2_breaks_79 (tgt := 86) (by decide) (n := 82) rfl (fun c1 => ?_) (fun c1 => ?_)
    ·
      refine k_iconst S dX2_breaks_86 (v := 0) (by decide) (n := 87) rfl ?_
      rw [if_pos c1] at hJ2
      exact hJ2
    ·
      refine k_iconst S dX2_breaks_82 (v := 1) (by decide) (n := 83) rfl ?_
      refine k_goto S dX2_breaks_83 (tgt := 87) (by decide) ?_
      rw [if_neg c1] at hJ2
      exact hJ2
  ·
    refine k_iconst S dX2_breaks_18 (v := 0) (by decide) (n := 19) rfl ?_
    exact k_iret S Y dX2_breaks_19 (by decide) (by decide) rfl (⟨congrArg (fun z => some (Value.int z)) ((zpb_f (fun q => c1 (show nI 1 ≤ nI n from nI_le q.1 (by omega)))).symm), rfl⟩)
set_option maxRecDepth 100000 in
set_option maxHeartbeats 4000000 in
theorem c_X2_breaks2 {l : Launch} {g : zG} {μ : zM} {k n : Nat} {ce w : Int32} (hk : k < 10) (hc : μ.1 (11 + k) 5 = ce) (hw : μ.1 (11 + k) 7 = w) (hn : μ.1 8 2 = nI n) (hn15 : n ≤ 15) : zC l g yX2_breaks cX2_breaks 4 (some .boolean) ({ frames := 3, cells := 0, slots := 0, locals := 66 } : Room) 0 0 [.ref (za g 8), .int 2, .ref (za g (11 + k))] μ (zRv (some (.int (zpb (zWb 2 n (μ.1 10) ce w)))) μ) zNX := by
  refine zC_of (L0 := [some (.ref (za g 8)), some (.int 2), some (.ref (za g (11 + k))), none]) (plainFor_of_name (by decide)) (Nat.le_of_ble_eq_true rfl) rfl ?_
  intro x S Y hxl
  subst hxl
  refine k_iload1 S dX2_breaks_0 (n := 1) rfl ?_
  refine k_callSN (As := [.int 2]) (rest := []) (host := RX3) S (c_pr2) mv_X3_pointsOfRule (by decide +kernel) dX2_breaks_1 rfl rfl ⟨by decide, by decide⟩ rfl rfl (Nat.le_of_ble_eq_true rfl) ⟨by decide, by decide⟩ (n := 4) rfl (fun _ _ h => h.elim) (fun v9 ν9 h9 => ?_)
  rw [h9.1, h9.2]
  show zK x g ({ frames := 3, cells := 0, slots := 0, locals := 66 } : Room) 4 0 0 4 [some (.ref (za g 8)), some (.int 2), some (.ref (za g (11 + k))), none] [.int 9] μ
  refine k_istore3 S dX2_breaks_4 (by decide) rfl (n := 5) rfl ?_
  refine k_iload3 S dX2_breaks_5 (n := 6) rfl ?_
  refine k_iconst S dX2_breaks_6 (v := 1) (by decide) (n := 7) rfl ?_
  refine k_icmp_lt S dX2_breaks_7 (tgt := 18) (by decide) (n := 10) rfl (fun h9 => absurd h9 (by decide)) (fun _ => ?_)
  refine k_iload3 S dX2_breaks_10 (n := 11) rfl ?_
  refine k_aload0 S dX2_breaks_11 (n := 12) rfl ?_
  refine k_getv (v := nI n) (T := TX2) (j := 2) S dX2_breaks_12 (zlt S (by decide)) (by decide) (ci := 2) rfl rfl (by decide) in_2 m_130 rfl rfl hn (n := 15) rfl ?_
  refine k_icmp_le S dX2_breaks_15 (tgt := 20) (by decide) (n := 18) rfl (fun c1 => ?_) (fun c1 => ?_)
  ·
    have h1 : 9 ≤ n := (nI_leI (by omega) (by omega)).mp (show nI 9 ≤ nI n from c1)
    refine k_iload1 S dX2_breaks_20 (n := 21) rfl ?_
    refine k_tsw S dX2_breaks_21 (off := 67) (tgt := 88) (by decide) (by decide) (by decide) (by decide) ?_
    refine k_aload0 S dX2_breaks_88 (n := 89) rfl ?_
    refine k_iload3 S dX2_breaks_89 (n := 90) rfl ?_
    refine k_aload2 S dX2_breaks_90 (n := 91) rfl ?_
    refine k_callV (As := [.int 9, .ref (za g (11 + k))]) (rest := []) (p := 8) S (c_X2_isOnOneSide (n := 9) hk (by decide) (by decide) hc) mv_X2_isOnOneSide m_577 dX2_breaks_91 rfl rfl ⟨by decide, by decide⟩ (zlt S (by decide)) (by decide) (ci := 2) rfl rfl rfl (Nat.le_of_ble_eq_true rfl) ⟨by decide, by decide⟩ (n := 94) rfl (fun _ _ h => h.elim) (fun v9 ν9 h9 => ?_)
    rw [h9.1, h9.2]
    show zK x g ({ frames := 3, cells := 0, slots := 0, locals := 66 } : Room) 4 0 0 94 [some (.ref (za g 8)), some (.int 2), some (.ref (za g (11 + k))), some (.int 9)] [.int (zpb (zdir ce (μ.1 10 0) ≠ 0 ∧ ∀ i, i < 9 → zdir ce (μ.1 10 i) = zdir ce (μ.1 10 0)))] μ
    exact k_iret S Y dX2_breaks_94 (by decide) (by decide) (zpb_nar _) (⟨congrArg (fun z => some (Value.int z)) (zpb_c ⟨fun q => ⟨h1, q⟩, fun q => q.2⟩), rfl⟩)
  ·
    refine k_iconst S dX2_breaks_18 (v := 0) (by decide) (n := 19) rfl ?_
    exact k_iret S Y dX2_breaks_19 (by decide) (by decide) rfl (⟨congrArg (fun z => some (Value.int z)) ((zpb_f (fun q => c1 (show nI 9 ≤ nI n from nI_le q.1 (by omega)))).symm), rfl⟩)
set_option maxRecDepth 100000 in
set_option maxHeartbeats 4000000 in
theorem c_X2_breaks3 {l : Launch} {g : zG} {μ : zM} {k n : Nat} {ce w : Int32} (hk : k < 10) (hc : μ.1 (11 + k) 5 = ce) (hw : μ.1 (11 + k) 7 = w) (hn : μ.1 8 2 = nI n) (hn15 : n ≤ 15) : zC l g yX2_breaks cX2_breaks 4 (some .boolean) ({ frames := 3, cells := 0, slots := 0, locals := 66 } : Room) 0 0 [.ref (za g 8), .int 3, .ref (za g (11 + k))] μ (zRv (some (.int (zpb (zWb 3 n (μ.1 10) ce w)))) μ) zNX := by
  refine zC_of (L0 := [some (.ref (za g 8)), some (.int 3), some (.ref (za g (11 + k))), none]) (plainFor_of_name (by decide)) (Nat.le_of_ble_eq_true rfl) rfl ?_
  intro x S Y hxl
  subst hxl
  refine k_iload1 S dX2_breaks_0 (n := 1) rfl ?_
  refine k_callSN (As := [.int 3]) (rest := []) (host := RX3) S (c_pr3) mv_X3_pointsOfRule (by decide +kernel) dX2_breaks_1 rfl rfl ⟨by decide, by decide⟩ rfl rfl (Nat.le_of_ble_eq_true rfl) ⟨by decide, by decide⟩ (n := 4) rfl (fun _ _ h => h.elim) (fun v9 ν9 h9 => ?_)
  rw [h9.1, h9.2]
  show zK x g ({ frames := 3, cells := 0, slots := 0, locals := 66 } : Room) 4 0 0 4 [some (.ref (za g 8)), some (.int 3), some (.ref (za g (11 + k))), none] [.int 6] μ
  refine k_istore3 S dX2_breaks_4 (by decide) rfl (n := 5) rfl ?_
  refine k_iload3 S dX2_breaks_5 (n := 6) rfl ?_
  refine k_iconst S dX2_breaks_6 (v := 1) (by decide) (n := 7) rfl ?_
  refine k_icmp_lt S dX2_breaks_7 (tgt := 18) (by decide) (n := 10) rfl (fun h9 => absurd h9 (by decide)) (fun _ => ?_)
  refine k_iload3 S dX2_breaks_10 (n := 11) rfl ?_
  refine k_aload0 S dX2_breaks_11 (n := 12) rfl ?_
  refine k_getv (v := nI n) (T := TX2) (j := 2) S dX2_breaks_12 (zlt S (by decide)) (by decide) (ci := 2) rfl rfl (by decide) in_2 m_130 rfl rfl hn (n := 15) rfl ?_
  refine k_icmp_le S dX2_breaks_15 (tgt := 20) (by decide) (n := 18) rfl (fun c1 => ?_) (fun c1 => ?_)
  ·
    have h1 : 6 ≤ n := (nI_leI (by omega) (by omega)).mp (show nI 6 ≤ nI n from c1)
    refine k_iload1 S dX2_breaks_20 (n := 21) rfl ?_
    refine k_tsw S dX2_breaks_21 (off := 74) (tgt := 95) (by decide) (by decide) (by decide) (by decide) ?_
    refine k_aload0 S dX2_breaks_95 (n := 96) rfl ?_
    refine k_iload3 S dX2_breaks_96 (n := 97) rfl ?_
    refine k_callV (As := [.int 6]) (rest := []) (p := 8) S (c_X2_isSteady (n := 6) (by decide) (by decide)) mv_X2_isSteady m_582 dX2_breaks_97 rfl rfl ⟨by decide, by decide⟩ (zlt S (by decide)) (by decide) (ci := 2) rfl rfl rfl (Nat.le_of_ble_eq_true rfl) ⟨by decide, by decide⟩ (n := 100) rfl (fun _ _ h => h.elim) (fun v9 ν9 h9 => ?_)
    rw [h9.1, h9.2]
    show zK x g ({ frames := 3, cells := 0, slots := 0, locals := 66 } : Room) 4 0 0 100 [some (.ref (za g 8)), some (.int 3), some (.ref (za g (11 + k))), some (.int 6)] [.int (zpb (zdir (μ.1 10 1) (μ.1 10 0) ≠ 0 ∧ ∀ i, i + 1 < 6 → zdir (μ.1 10 (i + 1)) (μ.1 10 i) = zdir (μ.1 10 1) (μ.1 10 0)))] μ
    exact k_iret S Y dX2_breaks_100 (by decide) (by decide) (zpb_nar _) (⟨congrArg (fun z => some (Value.int z)) (zpb_c ⟨fun q => ⟨h1, q⟩, fun q => q.2⟩), rfl⟩)
  ·
    refine k_iconst S dX2_breaks_18 (v := 0) (by decide) (n := 19) rfl ?_
    exact k_iret S Y dX2_breaks_19 (by decide) (by decide) rfl (⟨congrArg (fun z => some (Value.int z)) ((zpb_f (fun q => c1 (show nI 6 ≤ nI n from nI_le q.1 (by omega)))).symm), rfl⟩)
set_option maxRecDepth 100000 in
set_option maxHeartbeats 4000000 in
theorem c_X2_breaks4 {l : Launch} {g : zG} {μ : zM} {k n : Nat} {ce w : Int32} (hk : k < 10) (hc : μ.1 (11 + k) 5 = ce) (hw : μ.1 (11 + k) 7 = w) (hn : μ.1 8 2 = nI n) (hn15 : n ≤ 15) : zC l g yX2_breaks cX2_breaks 4 (some .boolean) ({ frames := 3, cells := 0, slots := 0, locals := 66 } : Room) 0 0 [.ref (za g 8), .int 4, .ref (za g (11 + k))] μ (zRv (some (.int (zpb (zWb 4 n (μ.1 10) ce w)))) μ) zNX := by
  refine zC_of (L0 := [some (.ref (za g 8)), some (.int 4), some (.ref (za g (11 + k))), none]) (plainFor_of_name (by decide)) (Nat.le_of_ble_eq_true rfl) rfl ?_
  intro x S Y hxl
  subst hxl
  refine k_iload1 S dX2_breaks_0 (n := 1) rfl ?_
  refine k_callSN (As := [.int 4]) (rest := []) (host := RX3) S (c_pr4) mv_X3_pointsOfRule (by decide +kernel) dX2_breaks_1 rfl rfl ⟨by decide, by decide⟩ rfl rfl (Nat.le_of_ble_eq_true rfl) ⟨by decide, by decide⟩ (n := 4) rfl (fun _ _ h => h.elim) (fun v9 ν9 h9 => ?_)
  rw [h9.1, h9.2]
  show zK x g ({ frames := 3, cells := 0, slots := 0, locals := 66 } : Room) 4 0 0 4 [some (.ref (za g 8)), some (.int 4), some (.ref (za g (11 + k))), none] [.int 14] μ
  refine k_istore3 S dX2_breaks_4 (by decide) rfl (n := 5) rfl ?_
  refine k_iload3 S dX2_breaks_5 (n := 6) rfl ?_
  refine k_iconst S dX2_breaks_6 (v := 1) (by decide) (n := 7) rfl ?_
  refine k_icmp_lt S dX2_breaks_7 (tgt := 18) (by decide) (n := 10) rfl (fun h9 => absurd h9 (by decide)) (fun _ => ?_)
  refine k_iload3 S dX2_breaks_10 (n := 11) rfl ?_
  refine k_aload0 S dX2_breaks_11 (n := 12) rfl ?_
  refine k_getv (v := nI n) (T := TX2) (j := 2) S dX2_breaks_12 (zlt S (by decide)) (by decide) (ci := 2) rfl rfl (by decide) in_2 m_130 rfl rfl hn (n := 15) rfl ?_
  refine k_icmp_le S dX2_breaks_15 (tgt := 20) (by decide) (n := 18) rfl (fun c1 => ?_) (fun c1 => ?_)
  ·
    have h1 : 14 ≤ n := (nI_leI (by omega) (by omega)).mp (show nI 14 ≤ nI n from c1)
    refine k_iload1 S dX2_breaks_20 (n := 21) rfl ?_
    refine k_tsw S dX2_breaks_21 (off := 80) (tgt := 101) (by decide) (by decide) (by decide) (by decide) ?_
    refine k_aload0 S dX2_breaks_101 (n := 102) rfl ?_
    refine k_iload3 S dX2_breaks_102 (n := 103) rfl ?_
    refine k_callV (As := [.int 14]) (rest := []) (p := 8) S (c_X2_isTurning (n := 14) (by decide) (by decide)) mv_X2_isTurning m_587 dX2_breaks_103 rfl rfl ⟨by decide, by decide⟩ (zlt S (by decide)) (by decide) (ci := 2) rfl rfl rfl (Nat.le_of_ble_eq_true rfl) ⟨by decide, by decide⟩ (n := 106) rfl (fun _ _ h => h.elim) (fun v9 ν9 h9 => ?_)
    rw [h9.1, h9.2]
    show zK x g ({ frames := 3, cells := 0, slots := 0, locals := 66 } : Room) 4 0 0 106 [some (.ref (za g 8)), some (.int 4), some (.ref (za g (11 + k))), some (.int 14)] [.int (zpb (zdir (μ.1 10 1) (μ.1 10 0) ≠ 0 ∧ ∀ i, 1 ≤ i → i + 1 < 14 → zdir (μ.1 10 (i + 1)) (μ.1 10 i) = -(zdir (μ.1 10 i) (μ.1 10 (i - 1)))))] μ
    exact k_iret S Y dX2_breaks_106 (by decide) (by decide) (zpb_nar _) (⟨congrArg (fun z => some (Value.int z)) (zpb_c ⟨fun q => ⟨h1, q⟩, fun q => q.2⟩), rfl⟩)
  ·
    refine k_iconst S dX2_breaks_18 (v := 0) (by decide) (n := 19) rfl ?_
    exact k_iret S Y dX2_breaks_19 (by decide) (by decide) rfl (⟨congrArg (fun z => some (Value.int z)) ((zpb_f (fun q => c1 (show nI 14 ≤ nI n from nI_le q.1 (by omega)))).symm), rfl⟩)
set_option maxRecDepth 100000 in
set_option maxHeartbeats 4000000 in
theorem c_X2_breaks5 {l : Launch} {g : zG} {μ : zM} {k n : Nat} {ce w : Int32} (hk : k < 10) (hc : μ.1 (11 + k) 5 = ce) (hw : μ.1 (11 + k) 7 = w) (hn : μ.1 8 2 = nI n) (hn15 : n ≤ 15) : zC l g yX2_breaks cX2_breaks 4 (some .boolean) ({ frames := 3, cells := 0, slots := 0, locals := 66 } : Room) 0 0 [.ref (za g 8), .int 5, .ref (za g (11 + k))] μ (zRv (some (.int (zpb (zWb 5 n (μ.1 10) ce w)))) μ) zNX := by
  refine zC_of (L0 := [some (.ref (za g 8)), some (.int 5), some (.ref (za g (11 + k))), none]) (plainFor_of_name (by decide)) (Nat.le_of_ble_eq_true rfl) rfl ?_
  intro x S Y hxl
  subst hxl
  refine k_iload1 S dX2_breaks_0 (n := 1) rfl ?_
  refine k_callSN (As := [.int 5]) (rest := []) (host := RX3) S (c_pr5) mv_X3_pointsOfRule (by decide +kernel) dX2_breaks_1 rfl rfl ⟨by decide, by decide⟩ rfl rfl (Nat.le_of_ble_eq_true rfl) ⟨by decide, by decide⟩ (n := 4) rfl (fun _ _ h => h.elim) (fun v9 ν9 h9 => ?_)
  rw [h9.1, h9.2]
  show zK x g ({ frames := 3, cells := 0, slots := 0, locals := 66 } : Room) 4 0 0 4 [some (.ref (za g 8)), some (.int 5), some (.ref (za g (11 + k))), none] [.int 3] μ
  refine k_istore3 S dX2_breaks_4 (by decide) rfl (n := 5) rfl ?_
  refine k_iload3 S dX2_breaks_5 (n := 6) rfl ?_
  refine k_iconst S dX2_breaks_6 (v := 1) (by decide) (n := 7) rfl ?_
  refine k_icmp_lt S dX2_breaks_7 (tgt := 18) (by decide) (n := 10) rfl (fun h9 => absurd h9 (by decide)) (fun _ => ?_)
  refine k_iload3 S dX2_breaks_10 (n := 11) rfl ?_
  refine k_aload0 S dX2_breaks_11 (n := 12) rfl ?_
  refine k_getv (v := nI n) (T := TX2) (j := 2) S dX2_breaks_12 (zlt S (by decide)) (by decide) (ci := 2) rfl rfl (by decide) in_2 m_130 rfl rfl hn (n := 15) rfl ?_
  refine k_icmp_le S dX2_breaks_15 (tgt := 20) (by decide) (n := 18) rfl (fun c1 => ?_) (fun c1 => ?_)
  ·
    have h1 : 3 ≤ n := (nI_leI (by omega) (by omega)).mp (show nI 3 ≤ nI n from c1)
    refine k_iload1 S dX2_breaks_20 (n := 21) rfl ?_
    refine k_tsw S dX2_breaks_21 (off := 86) (tgt := 107) (by decide) (by decide) (by decide) (by decide) ?_
    refine k_aload0 S dX2_breaks_107 (n := 108) rfl ?_
    refine k_iload3 S dX2_breaks_108 (n := 109) rfl ?_
    refine k_iconst S dX2_breaks_109 (v := 2) (by decide) (n := 110) rfl ?_
    refine k_iconst S dX2_breaks_110 (v := 2) (by decide) (n := 111) rfl ?_
    refine k_aload2 S dX2_breaks_111 (n := 112) rfl ?_
    refine k_callV (As := [.int 3, .int 2, .int 2, .ref (za g (11 + k))]) (rest := []) (p := 8) S (c_X2_isOften (n := 3) hk (by decide) hc hw) mv_X2_isOften m_591 dX2_breaks_112 rfl rfl ⟨by decide, by decide⟩ (zlt S (by decide)) (by decide) (ci := 2) rfl rfl rfl (Nat.le_of_ble_eq_true rfl) ⟨by decide, by decide⟩ (n := 115) rfl (fun _ _ h => h.elim) (fun v9 ν9 h9 => ?_)
    rw [h9.1, h9.2]
    show zK x g ({ frames := 3, cells := 0, slots := 0, locals := 66 } : Room) 4 0 0 115 [some (.ref (za g 8)), some (.int 5), some (.ref (za g (11 + k))), some (.int 3)] [.int (zpb (zsb (μ.1 10 0) ce w 2 ≠ 0 ∧ 2 ≤ nI (zct (fun i => zsb (μ.1 10 i) ce w 2 = zsb (μ.1 10 0) ce w 2) 3)))] μ
    exact k_iret S Y dX2_breaks_115 (by decide) (by decide) (zpb_nar _) (⟨congrArg (fun z => some (Value.int z)) (zpb_c ⟨fun q => ⟨h1, q⟩, fun q => q.2⟩), rfl⟩)
  ·
    refine k_iconst S dX2_breaks_18 (v := 0) (by decide) (n := 19) rfl ?_
    exact k_iret S Y dX2_breaks_19 (by decide) (by decide) rfl (⟨congrArg (fun z => some (Value.int z)) ((zpb_f (fun q => c1 (show nI 3 ≤ nI n from nI_le q.1 (by omega)))).symm), rfl⟩)
set_option maxRecDepth 100000 in
set_option maxHeartbeats 4000000 in
theorem c_X2_breaks6 {l : Launch} {g : zG} {μ : zM} {k n : Nat} {ce w : Int32} (hk : k < 10) (hc : μ.1 (11 + k) 5 = ce) (hw : μ.1 (11 + k) 7 = w) (hn : μ.1 8 2 = nI n) (hn15 : n ≤ 15) : zC l g yX2_breaks cX2_breaks 4 (some .boolean) ({ frames := 3, cells := 0, slots := 0, locals := 66 } : Room) 0 0 [.ref (za g 8), .int 6, .ref (za g (11 + k))] μ (zRv (some (.int (zpb (zWb 6 n (μ.1 10) ce w)))) μ) zNX := by
  refine zC_of (L0 := [some (.ref (za g 8)), some (.int 6), some (.ref (za g (11 + k))), none]) (plainFor_of_name (by decide)) (Nat.le_of_ble_eq_true rfl) rfl ?_
  intro x S Y hxl
  subst hxl
  refine k_iload1 S dX2_breaks_0 (n := 1) rfl ?_
  refine k_callSN (As := [.int 6]) (rest := []) (host := RX3) S (c_pr6) mv_X3_pointsOfRule (by decide +kernel) dX2_breaks_1 rfl rfl ⟨by decide, by decide⟩ rfl rfl (Nat.le_of_ble_eq_true rfl) ⟨by decide, by decide⟩ (n := 4) rfl (fun _ _ h => h.elim) (fun v9 ν9 h9 => ?_)
  rw [h9.1, h9.2]
  show zK x g ({ frames := 3, cells := 0, slots := 0, locals := 66 } : Room) 4 0 0 4 [some (.ref (za g 8)), some (.int 6), some (.ref (za g (11 + k))), none] [.int 5] μ
  refine k_istore3 S dX2_breaks_4 (by decide) rfl (n := 5) rfl ?_
  refine k_iload3 S dX2_breaks_5 (n := 6) rfl ?_
  refine k_iconst S dX2_breaks_6 (v := 1) (by decide) (n := 7) rfl ?_
  refine k_icmp_lt S dX2_breaks_7 (tgt := 18) (by decide) (n := 10) rfl (fun h9 => absurd h9 (by decide)) (fun _ => ?_)
  refine k_iload3 S dX2_breaks_10 (n := 11) rfl ?_
  refine k_aload0 S dX2_breaks_11 (n := 12) rfl ?_
  refine k_getv (v := nI n) (T := TX2) (j := 2) S dX2_breaks_12 (zlt S (by decide)) (by decide) (ci := 2) rfl rfl (by decide) in_2 m_130 rfl rfl hn (n := 15) rfl ?_
  refine k_icmp_le S dX2_breaks_15 (tgt := 20) (by decide) (n := 18) rfl (fun c1 => ?_) (fun c1 => ?_)
  ·
    have h1 : 5 ≤ n := (nI_leI (by omega) (by omega)).mp (show nI 5 ≤ nI n from c1)
    refine k_iload1 S dX2_breaks_20 (n := 21) rfl ?_
    refine k_tsw S dX2_breaks_21 (off := 95) (tgt := 116) (by decide) (by decide) (by decide) (by decide) ?_
    refine k_aload0 S dX2_breaks_116 (n := 117) rfl ?_
    refine k_iload3 S dX2_breaks_117 (n := 118) rfl ?_
    refine k_iconst S dX2_breaks_118 (v := 1) (by decide) (n := 119) rfl ?_
    refine k_iconst S dX2_breaks_119 (v := 4) (by decide) (n := 120) rfl ?_
    refine k_aload2 S dX2_breaks_120 (n := 121) rfl ?_
    refine k_callV (As := [.int 5, .int 1, .int 4, .ref (za g (11 + k))]) (rest := []) (p := 8) S (c_X2_isOften (n := 5) hk (by decide) hc hw) mv_X2_isOften m_591 dX2_breaks_121 rfl rfl ⟨by decide, by decide⟩ (zlt S (by decide)) (by decide) (ci := 2) rfl rfl rfl (Nat.le_of_ble_eq_true rfl) ⟨by decide, by decide⟩ (n := 124) rfl (fun _ _ h => h.elim) (fun v9 ν9 h9 => ?_)
    rw [h9.1, h9.2]
    show zK x g ({ frames := 3, cells := 0, slots := 0, locals := 66 } : Room) 4 0 0 124 [some (.ref (za g 8)), some (.int 6), some (.ref (za g (11 + k))), some (.int 5)] [.int (zpb (zsb (μ.1 10 0) ce w 1 ≠ 0 ∧ 4 ≤ nI (zct (fun i => zsb (μ.1 10 i) ce w 1 = zsb (μ.1 10 0) ce w 1) 5)))] μ
    exact k_iret S Y dX2_breaks_124 (by decide) (by decide) (zpb_nar _) (⟨congrArg (fun z => some (Value.int z)) (zpb_c ⟨fun q => ⟨h1, q⟩, fun q => q.2⟩), rfl⟩)
  ·
    refine k_iconst S dX2_breaks_18 (v := 0) (by decide) (n := 19) rfl ?_
    exact k_iret S Y dX2_breaks_19 (by decide) (by decide) rfl (⟨congrArg (fun z => some (Value.int z)) ((zpb_f (fun q => c1 (show nI 5 ≤ nI n from nI_le q.1 (by omega)))).symm), rfl⟩)
set_option maxRecDepth 100000 in
set_option maxHeartbeats 4000000 in
theorem c_X2_breaks7 {l : Launch} {g : zG} {μ : zM} {k n : Nat} {ce w : Int32} (hk : k < 10) (hc : μ.1 (11 + k) 5 = ce) (hw : μ.1 (11 + k) 7 = w) (hn : μ.1 8 2 = nI n) (hn15 : n ≤ 15) : zC l g yX2_breaks cX2_breaks 4 (some .boolean) ({ frames := 3, cells := 0, slots := 0, locals := 66 } : Room) 0 0 [.ref (za g 8), .int 7, .ref (za g (11 + k))] μ (zRv (some (.int (zpb (zWb 7 n (μ.1 10) ce w)))) μ) zNX := by
  refine zC_of (L0 := [some (.ref (za g 8)), some (.int 7), some (.ref (za g (11 + k))), none]) (plainFor_of_name (by decide)) (Nat.le_of_ble_eq_true rfl) rfl ?_
  intro x S Y hxl
  subst hxl
  refine k_iload1 S dX2_breaks_0 (n := 1) rfl ?_
  refine k_callSN (As := [.int 7]) (rest := []) (host := RX3) S (c_pr7) mv_X3_pointsOfRule (by decide +kernel) dX2_breaks_1 rfl rfl ⟨by decide, by decide⟩ rfl rfl (Nat.le_of_ble_eq_true rfl) ⟨by decide, by decide⟩ (n := 4) rfl (fun _ _ h => h.elim) (fun v9 ν9 h9 => ?_)
  rw [h9.1, h9.2]
  show zK x g ({ frames := 3, cells := 0, slots := 0, locals := 66 } : Room) 4 0 0 4 [some (.ref (za g 8)), some (.int 7), some (.ref (za g (11 + k))), none] [.int 15] μ
  refine k_istore3 S dX2_breaks_4 (by decide) rfl (n := 5) rfl ?_
  refine k_iload3 S dX2_breaks_5 (n := 6) rfl ?_
  refine k_iconst S dX2_breaks_6 (v := 1) (by decide) (n := 7) rfl ?_
  refine k_icmp_lt S dX2_breaks_7 (tgt := 18) (by decide) (n := 10) rfl (fun h9 => absurd h9 (by decide)) (fun _ => ?_)
  refine k_iload3 S dX2_breaks_10 (n := 11) rfl ?_
  refine k_aload0 S dX2_breaks_11 (n := 12) rfl ?_
  refine k_getv (v := nI n) (T := TX2) (j := 2) S dX2_breaks_12 (zlt S (by decide)) (by decide) (ci := 2) rfl rfl (by decide) in_2 m_130 rfl rfl hn (n := 15) rfl ?_
  refine k_icmp_le S dX2_breaks_15 (tgt := 20) (by decide) (n := 18) rfl (fun c1 => ?_) (fun c1 => ?_)
  ·
    have h1 : 15 ≤ n := (nI_leI (by omega) (by omega)).mp (show nI 15 ≤ nI n from c1)
    refine k_iload1 S dX2_breaks_20 (n := 21) rfl ?_
    refine k_tsw S dX2_breaks_21 (off := 104) (tgt := 125) (by decide) (by decide) (by decide) (by decide) ?_
    refine k_aload0 S dX2_breaks_125 (n := 126) rfl ?_
    refine k_iload3 S dX2_breaks_126 (n := 127) rfl ?_
    refine k_aload2 S dX2_breaks_127 (n := 128) rfl ?_
    refine k_callV (As := [.int 15, .ref (za g (11 + k))]) (rest := []) (p := 8) S (c_X2_beyondSome (n := 15) hk (by decide) hc hw) mv_X2_beyondSome m_595 dX2_breaks_128 rfl rfl ⟨by decide, by decide⟩ (zlt S (by decide)) (by decide) (ci := 2) rfl rfl rfl (Nat.le_of_ble_eq_true rfl) ⟨by decide, by decide⟩ (n := 131) rfl (fun _ _ h => h.elim) (fun v9 ν9 h9 => ?_)
    rw [h9.1, h9.2]
    show zK x g ({ frames := 3, cells := 0, slots := 0, locals := 66 } : Room) 4 0 0 131 [some (.ref (za g 8)), some (.int 7), some (.ref (za g (11 + k))), some (.int 15)] [.int (nI (zct (fun i => ¬ zsb (μ.1 10 i) ce w 1 = 0) 15))] μ
    have hJ2 : zK x g ({ frames := 3, cells := 0, slots := 0, locals := 66 } : Room) 4 0 0 139 [some (.ref (za g 8)), some (.int 7), some (.ref (za g (11 + k))), some (.int 15)] [.int ((if (nI (zct (fun i => ¬ zsb (μ.1 10 i) ce w 1 = 0) 15)) = 0 then (1 : Int32) else (0 : Int32)))] μ := by
      exact k_iret S Y dX2_breaks_139 (by decide) (by decide) (by rw [zpb_i]; exact zpb_nar _) (⟨congrArg (fun z => some (Value.int z)) (by rw [zpb_i]; exact zpb_c ⟨fun q => ⟨h1, q⟩, fun q => q.2⟩), rfl⟩)
    refine k_if_ne S dX2_breaks_131 (tgt := 138) (by decide) (n := 134) rfl (fun c1 => ?_) (fun c1 => ?_)
    ·
      refine k_iconst S dX2_breaks_138 (v := 0) (by decide) (n := 139) rfl ?_
      rw [if_neg c1] at hJ2
      exact hJ2
    ·
      refine k_iconst S dX2_breaks_134 (v := 1) (by decide) (n := 135) rfl ?_
      refine k_goto S dX2_breaks_135 (tgt := 139) (by decide) ?_
      rw [if_pos c1] at hJ2
      exact hJ2
  ·
    refine k_iconst S dX2_breaks_18 (v := 0) (by decide) (n := 19) rfl ?_
    exact k_iret S Y dX2_breaks_19 (by decide) (by decide) rfl (⟨congrArg (fun z => some (Value.int z)) ((zpb_f (fun q => c1 (show nI 15 ≤ nI n from nI_le q.1 (by omega)))).symm), rfl⟩)
set_option maxRecDepth 100000 in
set_option maxHeartbeats 4000000 in
theorem c_X2_breaks8 {l : Launch} {g : zG} {μ : zM} {k n : Nat} {ce w : Int32} (hk : k < 10) (hc : μ.1 (11 + k) 5 = ce) (hw : μ.1 (11 + k) 7 = w) (hn : μ.1 8 2 = nI n) (hn15 : n ≤ 15) : zC l g yX2_breaks cX2_breaks 4 (some .boolean) ({ frames := 3, cells := 0, slots := 0, locals := 66 } : Room) 0 0 [.ref (za g 8), .int 8, .ref (za g (11 + k))] μ (zRv (some (.int (zpb (zWb 8 n (μ.1 10) ce w)))) μ) zNX := by
  refine zC_of (L0 := [some (.ref (za g 8)), some (.int 8), some (.ref (za g (11 + k))), none]) (plainFor_of_name (by decide)) (Nat.le_of_ble_eq_true rfl) rfl ?_
  intro x S Y hxl
  subst hxl
  refine k_iload1 S dX2_breaks_0 (n := 1) rfl ?_
  refine k_callSN (As := [.int 8]) (rest := []) (host := RX3) S (c_pr8) mv_X3_pointsOfRule (by decide +kernel) dX2_breaks_1 rfl rfl ⟨by decide, by decide⟩ rfl rfl (Nat.le_of_ble_eq_true rfl) ⟨by decide, by decide⟩ (n := 4) rfl (fun _ _ h => h.elim) (fun v9 ν9 h9 => ?_)
  rw [h9.1, h9.2]
  show zK x g ({ frames := 3, cells := 0, slots := 0, locals := 66 } : Room) 4 0 0 4 [some (.ref (za g 8)), some (.int 8), some (.ref (za g (11 + k))), none] [.int 8] μ
  refine k_istore3 S dX2_breaks_4 (by decide) rfl (n := 5) rfl ?_
  refine k_iload3 S dX2_breaks_5 (n := 6) rfl ?_
  refine k_iconst S dX2_breaks_6 (v := 1) (by decide) (n := 7) rfl ?_
  refine k_icmp_lt S dX2_breaks_7 (tgt := 18) (by decide) (n := 10) rfl (fun h9 => absurd h9 (by decide)) (fun _ => ?_)
  refine k_iload3 S dX2_breaks_10 (n := 11) rfl ?_
  refine k_aload0 S dX2_breaks_11 (n := 12) rfl ?_
  refine k_getv (v := nI n) (T := TX2) (j := 2) S dX2_breaks_12 (zlt S (by decide)) (by decide) (ci := 2) rfl rfl (by decide) in_2 m_130 rfl rfl hn (n := 15) rfl ?_
  refine k_icmp_le S dX2_breaks_15 (tgt := 20) (by decide) (n := 18) rfl (fun c1 => ?_) (fun c1 => ?_)
  ·
    have h1 : 8 ≤ n := (nI_leI (by omega) (by omega)).mp (show nI 8 ≤ nI n from c1)
    refine k_iload1 S dX2_breaks_20 (n := 21) rfl ?_
    refine k_tsw S dX2_breaks_21 (off := 119) (tgt := 140) (by decide) (by decide) (by decide) (by decide) ?_
    refine k_aload0 S dX2_breaks_140 (n := 141) rfl ?_
    refine k_iload3 S dX2_breaks_141 (n := 142) rfl ?_
    refine k_aload2 S dX2_breaks_142 (n := 143) rfl ?_
    refine k_callV (As := [.int 8, .ref (za g (11 + k))]) (rest := []) (p := 8) S (c_X2_beyondSome (n := 8) hk (by decide) hc hw) mv_X2_beyondSome m_595 dX2_breaks_143 rfl rfl ⟨by decide, by decide⟩ (zlt S (by decide)) (by decide) (ci := 2) rfl rfl rfl (Nat.le_of_ble_eq_true rfl) ⟨by decide, by decide⟩ (n := 146) rfl (fun _ _ h => h.elim) (fun v9 ν9 h9 => ?_)
    rw [h9.1, h9.2]
    show zK x g ({ frames := 3, cells := 0, slots := 0, locals := 66 } : Room) 4 0 0 146 [some (.ref (za g 8)), some (.int 8), some (.ref (za g (11 + k))), some (.int 8)] [.int (nI (zct (fun i => ¬ zsb (μ.1 10 i) ce w 1 = 0) 8))] μ
    refine k_iload3 S dX2_breaks_146 (n := 147) rfl ?_
    have hJ2 : zK x g ({ frames := 3, cells := 0, slots := 0, locals := 66 } : Room) 4 0 0 155 [some (.ref (za g 8)), some (.int 8), some (.ref (za g (11 + k))), some (.int 8)] [.int ((if (nI (zct (fun i => ¬ zsb (μ.1 10 i) ce w 1 = 0) 8)) = 8 then (1 : Int32) else (0 : Int32)))] μ := by
      exact k_iret S Y dX2_breaks_155 (by decide) (by decide) (by rw [zpb_i]; exact zpb_nar _) (⟨congrArg (fun z => some (Value.int z)) (by rw [zpb_i]; exact zpb_c ⟨fun q => ⟨h1, q⟩, fun q => q.2⟩), rfl⟩)
    refine k_icmp_ne S dX2_breaks_147 (tgt := 154) (by decide) (n := 150) rfl (fun c1 => ?_) (fun c1 => ?_)
    ·
      refine k_iconst S dX2_breaks_154 (v := 0) (by decide) (n := 155) rfl ?_
      rw [if_neg c1] at hJ2
      exact hJ2
    ·
      refine k_iconst S dX2_breaks_150 (v := 1) (by decide) (n := 151) rfl ?_
      refine k_goto S dX2_breaks_151 (tgt := 155) (by decide) ?_
      rw [if_pos c1] at hJ2
      exact hJ2
  ·
    refine k_iconst S dX2_breaks_18 (v := 0) (by decide) (n := 19) rfl ?_
    exact k_iret S Y dX2_breaks_19 (by decide) (by decide) rfl (⟨congrArg (fun z => some (Value.int z)) ((zpb_f (fun q => c1 (show nI 8 ≤ nI n from nI_le q.1 (by omega)))).symm), rfl⟩)
theorem c_X2_breaks {l : Launch} {g : zG} {μ : zM} {k n r : Nat} {ce w : Int32} (hr : 1 ≤ r) (hr8 : r ≤ 8) (hk : k < 10) (hc : μ.1 (11 + k) 5 = ce) (hw : μ.1 (11 + k) 7 = w) (hn : μ.1 8 2 = nI n) (hn15 : n ≤ 15) : zC l g yX2_breaks cX2_breaks 4 (some .boolean) ({ frames := 3, cells := 0, slots := 0, locals := 66 } : Room) 0 0 [.ref (za g 8), .int (nI r), .ref (za g (11 + k))] μ (zRv (some (.int (zpb (zWb r n (μ.1 10) ce w)))) μ) zNX := by
  match r, hr, hr8 with
  | 1, _, _ => exact c_X2_breaks1 hk hc hw hn hn15
  | 2, _, _ => exact c_X2_breaks2 hk hc hw hn hn15
  | 3, _, _ => exact c_X2_breaks3 hk hc hw hn hn15
  | 4, _, _ => exact c_X2_breaks4 hk hc hw hn hn15
  | 5, _, _ => exact c_X2_breaks5 hk hc hw hn hn15
  | 6, _, _ => exact c_X2_breaks6 hk hc hw hn hn15
  | 7, _, _ => exact c_X2_breaks7 hk hc hw hn hn15
  | 8, _, _ => exact c_X2_breaks8 hk hc hw hn hn15
  | r + 9, _, h => exact absurd h (by omega)
end
