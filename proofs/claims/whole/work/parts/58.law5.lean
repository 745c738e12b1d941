/-! THE CLAIM OUT OF ONE WALK OF THE LAW'S BODY. Your part is whole_start (and what it stands on); all else here is the same for every law, but numbers. -/
def R_law : String := "ChartroomSpcLaw"
def lw_P (b : Addr) (xs : List Int32) (args : Array Value) (s : State) : Prop := args = #[.ref b] ∧ s.IntsAt b xs ∧ xs.length ≤ 2560 ∧ (Jvm.Cond.and given_1 narrow_1).before args s = true
def lw_Q (_ : Array Value) (s : State) (o : Outcome) (t : State) : Prop := o = .returned (some (.int 1)) ∧ Framed s o t [] 618947 7239262
def lw_Z (below : List Frame) (a : Array Value) (s : State) : State → Prop := fun t => ∃ o, t.status = .running ∧ Ended t below o ∧ lw_Q a s o t
/-- the law's own end, with 1 on the stack, nothing written that was there before, its room as the claim has it -/
theorem lw_ret {p : Program} {l : Launch} {e : Env} {s : State} {m : MethodId} {below : List Frame} {meth : Method} {c : Code} {b : Nat} (hx : p.tables.exec = Jvm.exec) (hb : c.code = code) (hr : meth.sig.returnType = ret) (hlocks : meth.locks = false) {pc : Nat} {H : Heap} {ls : Array Slot} (hdg : decode code pc = .ok (.ireturn, 1)) : W p l e room_1 s m #[Value.ref b] below meth c H [] 618947 7239262 (lw_Z below #[Value.ref b] s) (F0 m pc ls [.int 1]) := by
  intro T hT X
  obtain ⟨fs, hret, hrun, hended, hW, hframe⟩ := X.leave (v := some (.int 1)) (hlocks := hlocks) (fun h => by rw [hr] at h; cases h)
  have hmeth' : T.vm.method? m = some meth := X.method'
  refine ⟨T.setFrames fs, ?_, .returned (some (.int 1)), hrun, hended, rfl, ⟨_, rfl⟩, hW, hframe⟩
  jvm_step X.here [X.here.top, hx, hb, hdg, hmeth', hr, ret, narrow_b1]
  (try refine ⟨rfl, ?_⟩); (try refine ⟨rfl, ?_⟩)
  first | (intro acts; rw [hret _ acts rfl rfl rfl]) | rw [hret _ _ rfl rfl rfl]
  exact Steps.refl _
/-- what holds at the law's entry: the machine, the code, the tables' words (any of lw_tbl by 'hts w (by decide +kernel)'), the script of L ints xs at the cell b, what the Statement gives of the start (any of its parts by flat_of_before) -/
def lw_At (p : Program) (s : State) (m : MethodId) (meth : Method) (c : Code) (b L : Nat) (xs : Nat → Int32) : Prop :=
  p.tables.exec = Jvm.exec ∧ c.code = code ∧ meth.sig.returnType = ret ∧ c.maxLocals = 8 ∧ s.vm.findClass R_law = some m.cls ∧ (∀ w ∈ lw_tbl, w.before #[Value.ref b] s = true) ∧ va_X b L xs s s.heap ∧ b < s.heap.size ∧ meth.locks = false ∧ (Jvm.Cond.and given_1 narrow_1).before #[Value.ref b] s = true
set_option maxRecDepth 100000 in
set_option maxHeartbeats 4000000 in
theorem law_loop {x : zX} {g : zG} {b LL : Nat} {sc : Nat → Int32} (S : zS x g 8 cL_law RL) (hn : zn g = 32) (V : zScr9 x g b LL sc) (hL : LL ≤ 2560) (hend : ∀ (ce sl : Nat) (L : List (Option Value)) (μ : zM), ce ≤ 618947 → sl ≤ 7239262 → zK x g room_1 8 ce sl 1415 L [.int 1] μ) :
    ∀ (f i n : Nat) (μ : zM), LL ≤ i + f → i = 5 * n → i ≤ LL → zJx μ → zK x g room_1 8 (32 + 2 * n) (830 + 12 * n) 23 (zLh b g i) [] μ := by
  intro f
  induction f with
  | zero =>
    intro i n μ h1 h2 h3 J
    show zK x g room_1 8 (32 + 2 * n) (830 + 12 * n) 23 [some (.ref b), some (.ref (za g 0)), some (.ref (za g 21)), some (.ref (za g 31)), some (.int (nI i)), none, none, none] [] μ
    refine k_iload4 S dL_law_23 (n := 25) rfl ?_
    refine k_aload0 S dL_law_25 (n := 26) rfl ?_
    refine k_slen S V dL_law_26 (n := 27) rfl ?_
    refine k_iconst S dL_law_27 (v := 5) (by decide) (n := 28) rfl ?_
    refine k_isub S dL_law_28 (n := 29) rfl ?_
    have e5 : (nI LL - 5).toInt = (LL : Int) - 5 := by
      have t5 : (5 : Int32).toInt = 5 := rfl
      have tL : (nI LL).toInt = (LL : Int) := nI_toInt (by omega)
      rw [z32s (by rw [t5, tL]; omega) (by rw [t5, tL]; omega), t5, tL]
    have ei : (nI i).toInt = (i : Int) := nI_toInt (by omega)
    refine k_icmp_gt S dL_law_29 (tgt := 1414) (by decide) (n := 32) rfl (fun c1 => ?_) (fun c1 => ?_)
    · refine k_iconst S dL_law_1414 (v := 1) (by decide) (n := 1415) rfl ?_
      exact hend _ _ _ _ (by omega) (by omega)
    · rw [Int32.lt_iff_toInt_lt, e5, ei] at c1
      exact absurd c1 (by omega)
  | succ f ih =>
    intro i n μ h1 h2 h3 J
    show zK x g room_1 8 (32 + 2 * n) (830 + 12 * n) 23 [some (.ref b), some (.ref (za g 0)), some (.ref (za g 21)), some (.ref (za g 31)), some (.int (nI i)), none, none, none] [] μ
    refine k_iload4 S dL_law_23 (n := 25) rfl ?_
    refine k_aload0 S dL_law_25 (n := 26) rfl ?_
    refine k_slen S V dL_law_26 (n := 27) rfl ?_
    refine k_iconst S dL_law_27 (v := 5) (by decide) (n := 28) rfl ?_
    refine k_isub S dL_law_28 (n := 29) rfl ?_
    have e5 : (nI LL - 5).toInt = (LL : Int) - 5 := by
      have t5 : (5 : Int32).toInt = 5 := rfl
      have tL : (nI LL).toInt = (LL : Int) := nI_toInt (by omega)
      rw [z32s (by rw [t5, tL]; omega) (by rw [t5, tL]; omega), t5, tL]
    have ei : (nI i).toInt = (i : Int) := nI_toInt (by omega)
    refine k_icmp_gt S dL_law_29 (tgt := 1414) (by decide) (n := 32) rfl (fun c1 => ?_) (fun c1 => ?_)
    · refine k_iconst S dL_law_1414 (v := 1) (by decide) (n := 1415) rfl ?_
      exact hend _ _ _ _ (by omega) (by omega)
    · rw [Int32.lt_iff_toInt_lt, e5, ei] at c1
      have hi : i + 5 ≤ LL := by omega
      refine k_aload0 S dL_law_32 (n := 33) rfl ?_
      refine k_iload4 S dL_law_33 (n := 35) rfl ?_
      refine k_sld (j := i) S V dL_law_35 rfl (by omega) hL (n := 36) rfl ?_
      refine k_bipush S dL_law_36 (v := 31) (by decide) (n := 38) rfl ?_
      refine k_iand S dL_law_38 (n := 39) rfl ?_
      obtain ⟨t, ht, et⟩ := pk_andE (sc i) (m := 31) 5 (by decide)
      rw [et]
      obtain ⟨s, d, c, n9, w, ph, fs, J⟩ := J
      have kk : ∀ ν : zM, zJx ν → zK x g room_1 8 (32 + 2 * n + 2) (830 + 12 * n + 12) 1408 (zLh b g i) [] ν := fun ν hν => by
        show zK x g room_1 8 (32 + 2 * n + 2) (830 + 12 * n + 12) 1408 [some (.ref b), some (.ref (za g 0)), some (.ref (za g 21)), some (.ref (za g 31)), some (.int (nI i)), none, none, none] [] ν
        refine k_iinc4 S dL_law_1408 (v := nI (i + 5)) (nI_add i 5) (by decide) (n := 1411) rfl ?_
        refine k_goto S dL_law_1411 (tgt := 23) (by decide) ?_
        exact k_widen (by omega) (by omega) (ih (i + 5) (n + 1) ν (by omega) (by omega) (by omega) hν)
      by_cases h24 : 24 ≤ t
      · have tt : (nI t).toInt = (t : Int) := nI_toInt (by omega)
        exact k_tswo S dL_law_39 (tgt := 1408) (Or.inr (by rw [tt]; omega)) (by decide) (k_widen (by omega) (by omega) (kk μ J.x))
      · have h25 : t = 0 ∨ t = 1 ∨ t = 2 ∨ t = 3 ∨ t = 4 ∨ t = 5 ∨ t = 6 ∨ t = 7 ∨ t = 8 ∨ t = 9 ∨ t = 10 ∨ t = 11 ∨ t = 12 ∨ t = 13 ∨ t = 14 ∨ t = 15 ∨ t = 16 ∨ t = 17 ∨ t = 18 ∨ t = 19 ∨ t = 20 ∨ t = 21 ∨ t = 22 ∨ t = 23 := by omega
        rcases h25 with rfl | rfl | rfl | rfl | rfl | rfl | rfl | rfl | rfl | rfl | rfl | rfl | rfl | rfl | rfl | rfl | rfl | rfl | rfl | rfl | rfl | rfl | rfl | rfl
        · exact k_tsw S dL_law_39 (off := 109) (tgt := 148) (by decide) (by decide) (by decide) (by decide) (w_begin S hn V hL hi (by omega) (by omega) J kk)
        · exact k_tsw S dL_law_39 (off := 145) (tgt := 184) (by decide) (by decide) (by decide) (by decide) (w_put S hn V hL hi (by omega) (by omega) J kk)
        · exact k_tsw S dL_law_39 (off := 208) (tgt := 247) (by decide) (by decide) (by decide) (by decide) (w_newPhase S hn V hL hi (by omega) (by omega) J kk)
        · exact k_tsw S dL_law_39 (off := 252) (tgt := 291) (by decide) (by decide) (by decide) (by decide) (w_freeze S hn V hL hi (by omega) (by omega) J kk)
        · exact k_tsw S dL_law_39 (off := 288) (tgt := 327) (by decide) (by decide) (by decide) (by decide) (w_thaw S hn V hL hi (by omega) (by omega) J kk)
        · exact k_tsw S dL_law_39 (off := 324) (tgt := 363) (by decide) (by decide) (by decide) (by decide) (w_exclude S hn V hL hi (by omega) (by omega) J kk)
        · exact k_tsw S dL_law_39 (off := 392) (tgt := 431) (by decide) (by decide) (by decide) (by decide) (w_subgroups S hn V hL hi (by omega) (by omega) J kk)
        · exact k_tsw S dL_law_39 (off := 405) (tgt := 444) (by decide) (by decide) (by decide) (by decide) (w_phases S hn V hL hi (by omega) (by omega) J kk)
        · exact k_tsw S dL_law_39 (off := 418) (tgt := 457) (by decide) (by decide) (by decide) (by decide) (w_mean S hn V hL hi (by omega) (by omega) J kk)
        · exact k_tsw S dL_law_39 (off := 474) (tgt := 513) (by decide) (by decide) (by decide) (by decide) (w_range S hn V hL hi (by omega) (by omega) J kk)
        · exact k_tsw S dL_law_39 (off := 530) (tgt := 569) (by decide) (by decide) (by decide) (by decide) (w_phaseOf S hn V hL hi (by omega) (by omega) J kk)
        · exact k_tsw S dL_law_39 (off := 586) (tgt := 625) (by decide) (by decide) (by decide) (by decide) (w_points S hn V hL hi (by omega) (by omega) J kk)
        · exact k_tsw S dL_law_39 (off := 642) (tgt := 681) (by decide) (by decide) (by decide) (by decide) (w_center S hn V hL hi (by omega) (by omega) J kk)
        · exact k_tsw S dL_law_39 (off := 698) (tgt := 737) (by decide) (by decide) (by decide) (by decide) (w_width S hn V hL hi (by omega) (by omega) J kk)
        · exact k_tsw S dL_law_39 (off := 754) (tgt := 793) (by decide) (by decide) (by decide) (by decide) (w_rangeLimit S hn V hL hi (by omega) (by omega) J kk)
        · exact k_tsw S dL_law_39 (off := 810) (tgt := 849) (by decide) (by decide) (by decide) (by decide) (w_signals S hn V hL hi (by omega) (by omega) J kk)
        · exact k_tsw S dL_law_39 (off := 866) (tgt := 905) (by decide) (by decide) (by decide) (by decide) (w_signalsByWindows S hn V hL hi (by omega) (by omega) J kk)
        · exact k_tsw S dL_law_39 (off := 922) (tgt := 961) (by decide) (by decide) (by decide) (by decide) (w_firstOf S hn V hL hi (by omega) (by omega) J kk)
        · exact k_tsw S dL_law_39 (off := 990) (tgt := 1029) (by decide) (by decide) (by decide) (by decide) (w_isWide S hn V hL hi (by omega) (by omega) J kk)
        · exact k_tsw S dL_law_39 (off := 1053) (tgt := 1092) (by decide) (by decide) (by decide) (by decide) (w_alarms S hn V hL hi (by omega) (by omega) J kk)
        · exact k_tsw S dL_law_39 (off := 1066) (tgt := 1105) (by decide) (by decide) (by decide) (by decide) (w_setWeight S hn V hL hi (by omega) (by omega) J kk)
        · exact k_tsw S dL_law_39 (off := 1122) (tgt := 1161) (by decide) (by decide) (by decide) (by decide) (w_weighted S hn V hL hi (by omega) (by omega) J kk)
        · exact k_tsw S dL_law_39 (off := 1178) (tgt := 1217) (by decide) (by decide) (by decide) (by decide) (w_cumulative S hn V hL hi (by omega) (by omega) J kk)
        · exact k_tsw S dL_law_39 (off := 1262) (tgt := 1301) (by decide) (by decide) (by decide) (by decide) (w_capability S hn V hL hi (by omega) (by omega) J kk)
/-! THE START: what the Statement gives, in the words of the run -/
def zF : List Cond := flatC (Jvm.Cond.and given_1 narrow_1)
theorem zNest_t : ∀ w ∈ zNest, w ∈ lw_tbl := by decide +kernel
theorem zStr_t : ∀ q ∈ zStr, Cond.stringRef RX3 q.1 q.2 ∈ lw_tbl := by decide +kernel
theorem zStr_f : ∀ q ∈ zStr, Cond.exactly (.string RX3 q.1) "java/lang/String" ∈ zF := by decide +kernel
theorem zNcs_f : ∀ q ∈ zNcs, Cond.not (.castable q.1 q.2) ∈ zF := by decide +kernel
theorem zAO_t : Cond.arrayOver (.object RX0) ∈ lw_tbl := by decide +kernel
theorem zTl_t : ∀ i, i < 4 → Cond.laysStatic RX3 (zTabN i) "[I" ∈ lw_tbl := by decide +kernel
theorem zTa_f : ∀ i, i < 4 → Cond.arrayOf (.static RX3 (zTabN i) "[I") .int ∈ zF ∧ Cond.eq (.length (.static RX3 (zTabN i) "[I")) (.int (Int32.ofNat (zTabL i).length)) ∈ zF := by decide +kernel
theorem zTe_f : ∀ i, i < 4 → ∀ j, j < (zTabL i).length → Cond.eq (.elem (.static RX3 (zTabN i) "[I") (.int (Int32.ofNat j))) (.int (zTab i j)) ∈ zF := by decide +kernel
theorem zTU_t : Cond.laysStatic Bundle.tN "UNASSIGNED_STACK" Bundle.steD ∈ lw_tbl ∧ Cond.laysStatic Bundle.tN "SUPPRESSED_SENTINEL" Bundle.listD ∈ lw_tbl ∧ Cond.initialized Bundle.tN ∈ lw_tbl := by decide +kernel
theorem zTU_f : Cond.isRef (.static Bundle.tN "UNASSIGNED_STACK" Bundle.steD) ∈ zF ∧ Cond.isRef (.static Bundle.tN "SUPPRESSED_SENTINEL" Bundle.listD) ∈ zF := by decide +kernel
theorem zSt_start {l : Launch} (hflags : l.flags = flags0) {s : State} {args : Array Value} (hts0 : ∀ w ∈ lw_tbl, w.before args s = true) (hgv : (Jvm.Cond.and given_1 narrow_1).before args s = true) (D : va_G) (ad : Nat → Nat) (cs : Nat → ClassId) : ∃ zt0 : Nat → Nat, zSt l (zgm D 0 ad cs zt0 s.heap.size) s s.heap := by
  have hs : ∀ w ∈ zF, w.before args s = true := flat_of_before _ hgv
  have hA0 : ∀ a : Nat, a < s.heap.size → ¬ (fun q : Nat => s.heap.size ≤ q) a := fun a h q => absurd h (Nat.not_lt.mpr q)
  have hini : (Cond.initialized RX3).before args s = true := hts0 _ (List.mem_filter.mp (m_1)).1
  have hT : ∀ i : Nat, ∃ t : Nat, i < 4 → va_Z RX3 (zTabN i) "[I" (.ref t) (fun q : Nat => s.heap.size ≤ q) s s.heap ∧ va_T .int t (zTabL i).length (fun j => .int (zTab i j)) (fun q : Nat => s.heap.size ≤ q) s s.heap := by
    intro i
    by_cases hi : i < 4
    · have hN : (zTabL i).length < 2 ^ 31 := by
        rcases (show i = 0 ∨ i = 1 ∨ i = 2 ∨ i = 3 by omega) with rfl | rfl | rfl | rfl <;> decide
      obtain ⟨t, et, T⟩ := va_Tof (tm := .static RX3 (zTabN i) "[I") (ty := .int) (N := (zTabL i).length) (f := fun j => .int (zTab i j)) (A := fun q : Nat => s.heap.size ≤ q) hN (hs _ (zTa_f i hi).1) (va_eqt (hs _ (zTa_f i hi).2)) (fun j hj => va_eqt (hs _ (zTe_f i hi j hj))) hA0
      exact ⟨t, fun _ => ⟨va_Zof (hts0 _ (zTl_t i hi)) hini et hA0, T⟩⟩
    · exact ⟨0, fun q => absurd q hi⟩
  have hR : ∀ i : Nat, ∃ a : Nat, ∀ q : Nat × String, zStr[i]? = some q → vk_R RX3 q.1 q.2 a s := by
    intro i
    cases h : zStr[i]? with
    | none => exact ⟨0, fun q hq => by cases hq⟩
    | some q =>
      have hm : q ∈ zStr := List.mem_of_getElem? h
      obtain ⟨a, -, -, -, ha, -⟩ := Cond.exactly_spec (args := args) (first := s) (o := none) (s := s) (idx := []) (hs _ (zStr_f q hm))
      refine ⟨a, fun q' hq' => ?_⟩
      cases hq'
      exact vk_R.of (hts0 _ (zStr_t q hm)) ha
  obtain ⟨fT, gT⟩ := Classical.axiomOfChoice hT
  obtain ⟨fR, gR⟩ := Classical.axiomOfChoice hR
  refine ⟨fun k => if k < 4 then fT k else fR (k - 4), fun i hi => ?_, ⟨vx_Zqof (hts0 _ zTU_t.1) (hts0 _ zTU_t.2.2) (hs _ zTU_f.1) hA0, vx_Zqof (hts0 _ zTU_t.2.1) (hts0 _ zTU_t.2.2) (hs _ zTU_f.2) hA0⟩, fun w hw => va_Nw.of (zNest_tab w hw) (hts0 _ (zNest_t w hw)), fun i q hq => ?_, fun q hq => va_Nc.of (hs _ (zNcs_f q hq)), ?_⟩
  · have e : zt (zgm D 0 ad cs (fun k => if k < 4 then fT k else fR (k - 4)) s.heap.size) i = fT i := if_pos hi
    rw [e]
    exact gT i hi
  · have e : zt (zgm D 0 ad cs (fun k => if k < 4 then fT k else fR (k - 4)) s.heap.size) (4 + i) = fR i := by
      show (if 4 + i < 4 then fT (4 + i) else fR (4 + i - 4)) = fR i
      rw [if_neg (by omega), Nat.add_sub_cancel_left]
    rw [e]
    exact gR i q hq
  · unfold Launch.stackTraces
    rw [hflags]
    decide +kernel
def zad2 (ad : Nat → Nat) (q2 : Nat) (u : (Nat → Nat) × (Nat → ClassId)) (q3 : Nat) : Nat → Nat := fun k => if k < 21 then ad k else if k = 21 then q2 else if k = 31 then q3 else u.1 (k - 22)
def zcs2 (cs : Nat → ClassId) (u : (Nat → Nat) × (Nat → ClassId)) (c3 : ClassId) : Nat → ClassId := fun k => if k < 21 then cs k else if k = 21 then u.2 0 else if k = 31 then c3 else u.2 (k - 22)
def zm2 (μ : zM) : zM := (fun a j => if a < 21 then μ.1 a j else if a = 21 then (if j = 0 then 5 else if j = 9 then 1 else if j = 14 then 2 else 0) else 0, fun _ => 0)
theorem zOK_of {g : zG} {μ : zM} (hD : va_D (zA g) (zW g μ)) (h : 21 ≤ zn g) : zOK g := ⟨fun i j hi hj e => hD.1 i j _ _ (zW_get g μ hi) (zW_get g μ hj) e, fun k hk => hD.2 k _ (zW_get g μ hk), h⟩
theorem va_D_re {A : Nat → Prop} {ws : va_W} (hD : va_D A ws) (k0 : Nat) {a : Nat} {e e' : va_E} (he : ws[k0]? = some (a, e)) : va_D A (ws.set k0 (a, e')) := by
  have key : ∀ (i : Nat) (p : Nat × va_E), (ws.set k0 (a, e'))[i]? = some p → ∃ p' : Nat × va_E, ws[i]? = some p' ∧ p'.1 = p.1 := by
    intro i p hp
    rw [List.getElem?_set] at hp
    by_cases h : k0 = i
    · subst h
      rw [if_pos rfl] at hp
      split at hp
      · cases hp
        exact ⟨(a, e), he, rfl⟩
      · cases hp
    · rw [if_neg h] at hp
      exact ⟨p, hp, rfl⟩
  refine ⟨fun i j p q hp hq e9 => ?_, fun k q hq => ?_⟩
  · obtain ⟨p', h1, h2⟩ := key i p hp
    obtain ⟨q', h3, h4⟩ := key j q hq
    exact hD.1 i j p' q' h1 h3 (by rw [h2, h4]; exact e9)
  · obtain ⟨q', h3, h4⟩ := key k q hq
    rw [← h4]
    exact hD.2 k q' h3
theorem zW_32 (D : va_G) (ad : Nat → Nat) (cs : Nat → ClassId) (t : Nat → Nat) (Bd : Nat) (μ : zM) (q2 q3 : Nat) (u : (Nat → Nat) × (Nat → ClassId)) (c3 : ClassId) : (((zW (zgm D 21 ad cs t Bd) μ ++ zR4 q2 u) ++ [(q3, .inl (c3, 1, .inr (.inl (fun _ => 0))))] : va_W)).set 6 (ad 6, .inl (cs 6, 10, .inr (.inr (.inr (.inr (fun j => some (zad2 ad q2 u q3 (11 + j)))))))) = zW (zgm D 32 (zad2 ad q2 u q3) (zcs2 cs u c3) t Bd) (zm2 μ) := rfl
theorem zW_at6 (D : va_G) (ad : Nat → Nat) (cs : Nat → ClassId) (t : Nat → Nat) (Bd : Nat) (μ : zM) (q2 q3 : Nat) (u : (Nat → Nat) × (Nat → ClassId)) (c3 : ClassId) : (((zW (zgm D 21 ad cs t Bd) μ ++ zR4 q2 u) ++ [(q3, .inl (c3, 1, .inr (.inl (fun _ => 0))))] : va_W))[6]? = some (ad 6, .inl (cs 6, 10, .inr (.inr (.inr (.inr (fun j => some (ad (11 + j)))))))) := rfl
theorem zJ_start : zJx (zm2 (m_X3_restart z0M 5)) := by
  refine ⟨3, 0, 1, 0, 2, fun _ => 0, fun _ => 0, ⟨⟨rfl, by decide, fun k hk => ?_, fun i hi => absurd hi (Nat.not_lt_zero i)⟩, rfl, by decide, rfl, by decide⟩, ⟨rfl, rfl, rfl, Nat.le_refl 1⟩, ⟨rfl, rfl, by decide, rfl, rfl, by decide, rfl, rfl, rfl, fun q => absurd q (by decide)⟩, fun k hk => ?_, rfl, fun i hi => absurd hi (Nat.not_lt_zero i), fun k hk => ?_⟩
  · obtain rfl : k = 0 := by omega
    exact ⟨rfl, Nat.zero_le _⟩
  · obtain rfl : k = 0 := by omega
    exact ⟨rfl, Nat.le_refl 0⟩
  · obtain rfl : k = 0 := by omega
    refine ⟨rfl, rfl, rfl, rfl, Or.inl rfl, fun hz => ?_, fun q => absurd rfl q⟩
    exact hz.elim (fun q => absurd rfl q) (fun q => absurd q (Nat.lt_irrefl 0))
