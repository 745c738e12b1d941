/-! THE CLAIM OUT OF ONE WALK OF THE LAW'S BODY. Your part is whole_start (and what it stands on); all else here is the same for every law, but numbers. -/
def R_law : String := "ChartroomSpcLaw"
def lw_P (b : Addr) (xs : List Int32) (args : Array Value) (s : State) : Prop := args = #[.ref b] ∧ s.IntsAt b xs ∧ xs.length ≤ 260 ∧ (Jvm.Cond.and given_1 narrow_1).before args s = true
def lw_Q (_ : Array Value) (s : State) (o : Outcome) (t : State) : Prop := o = .returned (some (.int 1)) ∧ Framed s o t [] 634230 7198934
def lw_Z (below : List Frame) (a : Array Value) (s : State) : State → Prop := fun t => ∃ o, t.status = .running ∧ Ended t below o ∧ lw_Q a s o t
/-- the law's own end, with 1 on the stack, nothing written that was there before, its room as the claim has it -/
theorem lw_ret {p : Program} {l : Launch} {e : Env} {s : State} {m : MethodId} {below : List Frame} {meth : Method} {c : Code} {b : Nat} (hx : p.tables.exec = Jvm.exec) (hb : c.code = code) (hr : meth.sig.returnType = ret) (hlocks : meth.locks = false) {pc : Nat} {H : Heap} {ls : Array Slot} (hdg : decode code pc = .ok (.ireturn, 1)) : W p l e room_1 s m #[Value.ref b] below meth c H [] 634230 7198934 (lw_Z below #[Value.ref b] s) (F0 m pc ls [.int 1]) := by
  intro T hT X
  obtain ⟨fs, hret, hrun, hended, hW, hframe⟩ := X.leave (v := some (.int 1)) (hlocks := hlocks) (fun h => by rw [hr] at h; cases h)
  have hmeth' : T.vm.method? m = some meth := X.method'
  refine ⟨T.setFrames fs, ?_, .returned (some (.int 1)), hrun, hended, rfl, ⟨_, rfl⟩, hW, hframe⟩
  jvm_step X.here [X.here.top, hx, hb, hdg, hmeth', hr, ret, narrow_b1]
  (try refine ⟨rfl, ?_⟩); (try refine ⟨rfl, ?_⟩)
  first | (intro acts; rw [hret _ acts rfl rfl rfl]) | rw [hret _ _ rfl rfl rfl]
  exact Steps.refl _
/-- what holds at the law's entry: the machine, the code, the tables' words (any of lw_tbl by 'hts w (by decide +kernel)'), the script of L ints xs at the cell b, what the Statement gives of the start (any of its parts by flat_of_before) -/
def lw_At (p : Program) (s : State) (m : MethodId) (meth : Method) (c : Code) (b L : Nat) (xs : Nat → Int32) : Prop :=
  p.tables.exec = Jvm.exec ∧ c.code = code ∧ meth.sig.returnType = ret ∧ c.maxLocals = 5 ∧ s.vm.findClass R_law = some m.cls ∧ (∀ w ∈ lw_tbl, w.before #[Value.ref b] s = true) ∧ va_X b L xs s s.heap ∧ b < s.heap.size ∧ meth.locks = false ∧ (Jvm.Cond.and given_1 narrow_1).before #[Value.ref b] s = true
/-! THE START: what the Statement gives, in the words of the run -/
def zF : List Cond := flatC (Jvm.Cond.and given_1 narrow_1)
theorem zNest_t : ∀ w ∈ zNest, w ∈ lw_tbl := by decide +kernel
theorem zStr_t : ∀ q ∈ zStr, Cond.stringRef RX3 q.1 q.2 ∈ lw_tbl := by decide +kernel
theorem zStr_f : ∀ q ∈ zStr, Cond.exactly (.string RX3 q.1) "java/lang/String" ∈ zF := by decide +kernel
theorem zNcs_f : ∀ q ∈ zNcs, Cond.not (.castable q.1 q.2) ∈ zF := by decide +kernel
theorem zAO_t : Cond.arrayOver (.object RX0) ∈ lw_tbl := by decide +kernel
theorem zTl_t : ∀ i, i < 4 → Cond.laysStatic RX3 (zTabN i) "[I" ∈ lw_tbl := by decide +kernel
theorem zTa_f : ∀ i, i < 4 → Cond.arrayOf (.static RX3 (zTabN i) "[I") .int ∈ zF ∧ Cond.eq (.length (.static RX3 (zTabN i) "[I")) (.int (Int32.ofNat (zTabL i).length)) ∈ zF := by decide +kernel
theorem zTe_f : ∀ i, i < 4 → ∀ j, j < (zTabL i).length → Cond.eq (.elem (.static RX3 (zTabN i) "[I") (.int (Int32.ofNat j))) (.int (zTab i j)) ∈ zF := by decide +kernel
theorem zTU_t : Cond.laysStatic Bundle.tN "UNASSIGNED_STACK" Bundle.steD ∈ lw_tbl ∧ Cond.laysStatic Bundle.tN "SUPPRESSED_SENTINEL" Bundle.listD ∈ lw_tbl ∧ Cond.initialized Bundle.tN ∈ lw_tbl := by decide +kernel
theorem zTU_f : Cond.isRef (.static Bundle.tN "UNASSIGNED_STACK" Bundle.steD) ∈ zF ∧ Cond.isRef (.static Bundle.tN "SUPPRESSED_SENTINEL" Bundle.listD) ∈ zF := by decide +kernel
theorem zSt_start {l : Launch} (hflags : l.flags = flags0) {s : State} {args : Array Value} (hts0 : ∀ w ∈ lw_tbl, w.before args s = true) (hgv : (Jvm.Cond.and given_1 narrow_1).before args s = true) (D : va_G) (ad : Nat → Nat) (cs : Nat → ClassId) : ∃ zt0 : Nat → Nat, zSt l (zgm D 0 ad cs zt0 s.heap.size) s s.heap := by
  have hs : ∀ w ∈ zF, w.before args s = true := flat_of_before _ hgv
  have hA0 : ∀ a : Nat, a < s.heap.size → ¬ (fun q : Nat => s.heap.size ≤ q) a := fun a h q => absurd h (Nat.not_lt.mpr q)
  have hini : (Cond.initialized RX3).before args s = true := hts0 _ (List.mem_filter.mp (m_1)).1
  have hT : ∀ i : Nat, ∃ t : Nat, i < 4 → va_Z RX3 (zTabN i) "[I" (.ref t) (fun q : Nat => s.heap.size ≤ q) s s.heap ∧ va_T .int t (zTabL i).length (fun j => .int (zTab i j)) (fun q : Nat => s.heap.size ≤ q) s s.heap := by
    intro i
    by_cases hi : i < 4
    · have hN : (zTabL i).length < 2 ^ 31 := by
        rcases (show i = 0 ∨ i = 1 ∨ i = 2 ∨ i = 3 by omega) with rfl | rfl | rfl | rfl <;> decide
      obtain ⟨t, et, T⟩ := va_Tof (tm := .static RX3 (zTabN i) "[I") (ty := .int) (N := (zTabL i).length) (f := fun j => .int (zTab i j)) (A := fun q : Nat => s.heap.size ≤ q) hN (hs _ (zTa_f i hi).1) (va_eqt (hs _ (zTa_f i hi).2)) (fun j hj => va_eqt (hs _ (zTe_f i hi j hj))) hA0
      exact ⟨t, fun _ => ⟨va_Zof (hts0 _ (zTl_t i hi)) hini et hA0, T⟩⟩
    · exact ⟨0, fun q => absurd q hi⟩
  have hR : ∀ i : Nat, ∃ a : Nat, ∀ q : Nat × String, zStr[i]? = some q → vk_R RX3 q.1 q.2 a s := by
    intro i
    cases h : zStr[i]? with
    | none => exact ⟨0, fun q hq => by cases hq⟩
    | some q =>
      have hm : q ∈ zStr := List.mem_of_getElem? h
      obtain ⟨a, -, -, -, ha, -⟩ := Cond.exactly_spec (args := args) (first := s) (o := none) (s := s) (idx := []) (hs _ (zStr_f q hm))
      refine ⟨a, fun q' hq' => ?_⟩
      cases hq'
      exact vk_R.of (hts0 _ (zStr_t q hm)) ha
  obtain ⟨fT, gT⟩ := Classical.axiomOfChoice hT
  obtain ⟨fR, gR⟩ := Classical.axiomOfChoice hR
  refine ⟨fun k => if k < 4 then fT k else fR (k - 4), fun i hi => ?_, ⟨vx_Zqof (hts0 _ zTU_t.1) (hts0 _ zTU_t.2.2) (hs _ zTU_f.1) hA0, vx_Zqof (hts0 _ zTU_t.2.1) (hts0 _ zTU_t.2.2) (hs _ zTU_f.2) hA0⟩, fun w hw => va_Nw.of (zNest_tab w hw) (hts0 _ (zNest_t w hw)), fun i q hq => ?_, fun q hq => va_Nc.of (hs _ (zNcs_f q hq)), ?_⟩
  · have e : zt (zgm D 0 ad cs (fun k => if k < 4 then fT k else fR (k - 4)) s.heap.size) i = fT i := if_pos hi
    rw [e]
    exact gT i hi
  · have e : zt (zgm D 0 ad cs (fun k => if k < 4 then fT k else fR (k - 4)) s.heap.size) (4 + i) = fR i := by
      show (if 4 + i < 4 then fT (4 + i) else fR (4 + i - 4)) = fR i
      rw [if_neg (by omega), Nat.add_sub_cancel_left]
    rw [e]
    exact gR i q hq
  · unfold Launch.stackTraces
    rw [hflags]
    decide +kernel
