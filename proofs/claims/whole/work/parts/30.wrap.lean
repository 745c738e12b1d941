/-! THE LAW'S OWN SMALL METHODS: a call of the desk, its answer into the row, its throw as a number -/
def zwsH (y : MethodName) (cc : ByteArray) (maxL : Nat) (ret : Option FieldType) (hh : List (Nat × Nat × Nat × Nat)) : List Cond := Cond.codeWith y cc maxL ret hh :: zU
def zCH (l : Launch) (g : zG) (y : MethodName) (cc : ByteArray) (maxL : Nat) (ret : Option FieldType) (hh : List (Nat × Nat × Nat × Nat)) (rm : Room) (mc ms : Nat) (av : List Value) (μ : zM) (RT : Option Value → zM → Prop) (XT : String → zM → Prop) : Prop :=
  vx_Met l y (zwsH y cc maxL ret hh) rm (va_Pc av (zPre l g μ)) (zQr g RT) (zQx g XT) mc ms (zA g)
theorem zCH_of {l : Launch} {g : zG} {y : MethodName} {rm : Room} {mc ms maxL : Nat} {av : List Value} {μ : zM} {RT : Option Value → zM → Prop} {XT : String → zM → Prop} {cc : ByteArray} {ret : Option FieldType} {hh : List (Nat × Nat × Nat × Nat)} {L0 : List (Option Value)} (hy : plainName y.cls = true) (hlen : (lg_sl av).length ≤ maxL) (hL : zl 0 L0 = lv_args 0 av)
    (body : ∀ x : zX, zS x g maxL cc y.cls → zR x g ret mc ms (tableOf hh) RT XT → xl x = l → zK x g rm maxL 0 0 0 L0 [] μ) : zCH l g y cc maxL ret hh rm mc ms av μ RT XT := by
  refine vx_ofWH (cc := cc) (maxL := maxL) (ret := ret) (hh := hh) (ws' := zU) hy rfl ?_
  intro p e s m args below meth c s₁ B hml hv
  obtain ⟨rfl, hP, hK, hO, hSt⟩ := hv
  have hts := atoms_spec (ws := zwsH y cc maxL ret hh) B.pre
  have hl := lv_entry av (n := maxL) hlen
  rw [lg_entry_eq]
  have htb := vx_table (x := y) B (hts (Cond.codeWith y cc maxL ret hh) List.mem_cons_self)
  exact body (p, l, e, s, m, av.toArray, below, meth, c, vx_MQ below (zQr g RT) (zQx g XT) av.toArray s mc ms (zA g)) ⟨B.exec, B.bytes, hml, findClass_of_methodNamed B.named, fun w hw => hts w (List.mem_cons_of_mem _ hw), hK, hO, hSt, B.notSynchronized⟩ ⟨rfl, B.returns, htb⟩ rfl s.heap [] _ hP va_S.rf (by rw [hL]; exact hl)
theorem k_catch {x : zX} {g : zG} {nL : Nat} {cc : ByteArray} {own : String} {R : Room} {ce sl pc n mc ms : Nat} {L : List (Option Value)} {st : List Value} {μ : zM} {ret : Option FieldType} {tb : List ExceptionTableEntry} {RT : Option Value → zM → Prop} {XT : String → zM → Prop} {E name : String}
    (S : zS x g nL cc own) (Y : zR x g ret mc ms tb RT XT) (pre : List ExceptionTableEntry) (z : ExceptionTableEntry) (suf : List ExceptionTableEntry) (hsplit : tb = pre ++ z :: suf)
    (hpass : ∀ y ∈ pre, y.catchType ≠ 0 ∧ ∃ nm : String, Cond.classLink own y.catchType nm ∈ zU ∧ (E, nm) ∈ zNcs) (hx : covers z pc = true) (h0 : z.catchType ≠ 0)
    (hlink : Cond.classLink own z.catchType name ∈ zU) (hcast : Cond.castable E name ∈ zNest) (hh : z.handlerPc = n) (kk : ∀ q : Addr, zK x g R nL ce sl n L [.ref q] μ) : zKX x g R nL ce sl pc L st E μ := by
  subst hh
  intro H locs ls ce9 q hP hS hl h1 h2 h3
  exact vx_catch S.own pre z suf (Y.2.2.trans hsplit) (fun y hy => Or.inr ⟨(hpass y hy).1, (hpass y hy).2.elim fun nm h => ⟨nm, S.ts _ h.1, S.st.2.2.2.2.1 _ h.2⟩⟩) hx h0 (S.ts _ hlink) (va_Nw.use (zNest_tab _ hcast) (S.st.2.2.1 _ hcast)) h1 h2 h3 (kk q H locs ls hP hS hl)
def zMH (y : MethodName) (cc : ByteArray) (maxL : Nat) (ret : Option FieldType) (hh : List (Nat × Nat × Nat × Nat)) (na : Nat) : Prop := Cond.static y ∈ zU ∧ Cond.initialized y.cls ∈ zU ∧ Cond.codeWith y cc maxL ret hh ∈ zU ∧
  (y.cls ≠ "java/lang/invoke/MethodHandle" ∧ y.cls ≠ "java/lang/invoke/VarHandle" ∧ (parseMethodDescriptor y.desc).map (fun d => d.parameters.length) = some na)
theorem zMH.good {y : MethodName} {own : String} {cc : ByteArray} {maxL na index : Nat} {ret : Option FieldType} {hh : List (Nat × Nat × Nat × Nat)} (h : zMH y cc maxL ret hh na) (hl : Cond.methodLink own index y ∈ zU) : GoodIn zU (va_wsS own index y (zwsH y cc maxL ret hh)) := by
  intro w hw
  rcases List.mem_append.mp hw with h9 | h9
  · simp only [List.mem_cons, List.not_mem_nil, or_false] at h9
    rcases h9 with e | e | e <;> subst e
    · exact zU_ok hl
    · exact zU_ok h.1
    · exact zU_ok h.2.1
  · exact (List.mem_cons.mp h9).elim (fun e => e ▸ zU_ok h.2.2.1) (fun h8 => zU_ok h8)
theorem k_callH {x : zX} {g : zG} {nL : Nat} {cc : ByteArray} {own : String} {R : Room} {ce sl pc n : Nat} {L : List (Option Value)} {st : List Value} {μ : zM} {y : MethodName} {rm : Room} {mc9 ms9 maxL na index : Nat} {bytes : ByteArray} {ret9 : Option FieldType} {hh : List (Nat × Nat × Nat × Nat)} {As rest : List Value} {RT9 : Option Value → zM → Prop} {XT9 : String → zM → Prop}
    (S : zS x g nL cc own) (hM : zCH (xl x) g y bytes maxL ret9 hh rm mc9 ms9 As μ RT9 XT9) (hv : zMH y bytes maxL ret9 hh na) (hli : Cond.methodLink own index y ∈ zU) (hd : decode cc pc = .ok (.invokestatic index, 3)) (hrc : rm.cells = mc9) (hrs : rm.slots = ms9)
    (hR : rm.frames + 1 ≤ R.frames ∧ 8 + (maxL + 11) + rm.locals ≤ R.locals)
    (hst : st = As.reverse ++ rest) (hna : As.length = na) (hcat : (rest.map fun v => v.category).sum ≤ 8) (hf : ce + mc9 ≤ R.cells ∧ sl + ms9 ≤ R.slots) (hn : pc + 3 = n)
    (kx : ∀ E ν, XT9 E ν → zKX x g R nL (ce + mc9) (sl + ms9) pc L rest E ν) (kk : ∀ v ν, RT9 v ν → zK x g R nL (ce + mc9) (sl + ms9) n L (v.toList ++ rest) ν) : zK x g R nL ce sl pc L st μ := by
  subst hn; subst hst
  intro H locs ls hP hS hl
  exact zRun (vx_runSX S.fix hM (vx_cwSW (ws' := zU) na S.ts (hv.good hli) rfl hrc hrs hv.2.2.2 hR) ⟨zPre_blind _ _ _ _, fun U hU hW => ⟨rfl, zPre.of S hP hS U hU hW⟩⟩ rfl hna hl.1 rfl (lv_room hcat) hd hf) hS hl kx kk
set_option maxRecDepth 100000 in
set_option maxHeartbeats 4000000 in
theorem c_L_begin {l : Launch} {g : zG} {μ : zM} {p0 : Int32} {RT : Option Value → zM → Prop} {XT : String → zM → Prop} (hn : zn g = 32) (hM : zC l g yX3_begin cX3_begin 2 none ({ frames := 6, cells := 1, slots := 6, locals := 82 } : Room) 1 6 [.ref (za g 0), .int p0] μ RT XT) (hT : ∀ v ν, RT v ν → v = none) (hE : ∀ E ν, XT E ν → E = "java/lang/IllegalArgumentException") : zCH l g yL_begin cL_begin 3 (some .int) [(0, 5, 8, 13)] ({ frames := 7, cells := 1, slots := 6, locals := 103 } : Room) 1 6 [.ref (za g 0), .int p0] μ (fun r ν => (∃ μ1, RT none μ1 ∧ r = some (.int 0) ∧ ν = μ1) ∨ (XT "java/lang/IllegalArgumentException" ν ∧ r = some (.int 1))) zNX := by
  refine zCH_of (L0 := [some (.ref (za g 0)), some (.int p0), none]) (by decide) (Nat.le_of_ble_eq_true rfl) rfl ?_
  intro x S Y hxl
  subst hxl
  have hX0 : ∀ (q9 : Addr) (ν : zM), XT "java/lang/IllegalArgumentException" ν → zK x g ({ frames := 7, cells := 1, slots := 6, locals := 103 } : Room) 3 1 6 8 [some (.ref (za g 0)), some (.int p0), none] [.ref q9] ν := by
    intro q9 ν h9
    refine k_astore2 S dL_begin_8 (by decide) rfl (n := 9) rfl ?_
    refine k_iconst S dL_begin_9 (v := 1) (by decide) (n := 10) rfl ?_
    exact k_iret S Y dL_begin_10 (by decide) (by decide) rfl (Or.inr (⟨h9, rfl⟩))
  have hKX : ∀ (E9 : String) (ν9 : zM), XT E9 ν9 → zKX x g ({ frames := 7, cells := 1, slots := 6, locals := 103 } : Room) 3 (0 + 1) (0 + 6) 2 [some (.ref (za g 0)), some (.int p0), none] [] E9 ν9 := by
    intro E9 ν9 h9
    have e := hE E9 ν9 h9
    subst e
    exact k_catch S Y (tableOf []) ⟨0, 5, 8, 13⟩ (tableOf []) rfl (fun y hy => absurd hy List.not_mem_nil) (by decide) (by decide) m_274 (by decide +kernel) rfl (fun q9 => hX0 q9 ν9 h9)
  refine k_aload0 S dL_begin_0 (n := 1) rfl ?_
  refine k_iload1 S dL_begin_1 (n := 2) rfl ?_
  refine k_callV (As := [.int p0]) (rest := []) (p := 0) S (hM) mv_X3_begin m_275 dL_begin_2 rfl rfl ⟨by decide, by decide⟩ (zlt S (by decide)) (by decide) (ci := 3) rfl rfl rfl (Nat.le_of_ble_eq_true rfl) ⟨by decide, by decide⟩ (n := 5) rfl hKX (fun v9 μ1 h9 => ?_)
  have e1 := hT _ _ h9
  subst e1
  show zK x g ({ frames := 7, cells := 1, slots := 6, locals := 103 } : Room) 3 1 6 5 [some (.ref (za g 0)), some (.int p0), none] [] μ1
  refine k_goto S dL_begin_5 (tgt := 11) (by decide) ?_
  refine k_iconst S dL_begin_11 (v := 0) (by decide) (n := 12) rfl ?_
  exact k_iret S Y dL_begin_12 (by decide) (by decide) rfl (Or.inl ⟨μ1, h9, rfl, rfl⟩)
theorem mv_L_begin : zMH yL_begin cL_begin 3 (some .int) [(0, 5, 8, 13)] 2 := ⟨m_272, m_0, m_273, by decide +kernel⟩
set_option maxRecDepth 100000 in
set_option maxHeartbeats 4000000 in
theorem c_L_put {l : Launch} {g : zG} {μ : zM} {p0 : Int32} {RT : Option Value → zM → Prop} {XT : String → zM → Prop} (hn : zn g = 32) (hM : zC l g yX3_put cX3_put 2 (some .boolean) ({ frames := 6, cells := 1, slots := 6, locals := 138 } : Room) 1 6 [.ref (za g 0), .int p0] μ RT XT) (hT : ∀ v ν, RT v ν → ∃ a, v = some (.int a)) (hE : ∀ E ν, XT E ν → E = "java/lang/IllegalArgumentException" ∨ E = "java/lang/IllegalStateException") : zCH l g yL_put cL_put 4 (some .int) [(0, 16, 19, 13), (0, 16, 22, 19)] ({ frames := 7, cells := 1, slots := 6, locals := 159 } : Room) 1 6 [.ref (za g 0), .int p0, .ref (za g 31)] μ (fun r ν => (∃ (a : Int32) (μ1 : zM), RT (some (.int a)) μ1 ∧ r = some (.int 0) ∧ ν = zuo μ1 (if a = 0 then (0 : Int64) else (1 : Int64))) ∨ (XT "java/lang/IllegalArgumentException" ν ∧ r = some (.int 1)) ∨ (XT "java/lang/IllegalStateException" ν ∧ r = some (.int 2))) zNX := by
  refine zCH_of (L0 := [some (.ref (za g 0)), some (.int p0), some (.ref (za g 31)), none]) (by decide) (Nat.le_of_ble_eq_true rfl) rfl ?_
  intro x S Y hxl
  subst hxl
  have hX0 : ∀ (q9 : Addr) (ν : zM), XT "java/lang/IllegalArgumentException" ν → zK x g ({ frames := 7, cells := 1, slots := 6, locals := 159 } : Room) 4 1 6 19 [some (.ref (za g 0)), some (.int p0), some (.ref (za g 31)), none] [.ref q9] ν := by
    intro q9 ν h9
    refine k_astore3 S dL_put_19 (by decide) rfl (n := 20) rfl ?_
    refine k_iconst S dL_put_20 (v := 1) (by decide) (n := 21) rfl ?_
    exact k_iret S Y dL_put_21 (by decide) (by decide) rfl (Or.inr (Or.inl ⟨h9, rfl⟩))
  have hX1 : ∀ (q9 : Addr) (ν : zM), XT "java/lang/IllegalStateException" ν → zK x g ({ frames := 7, cells := 1, slots := 6, locals := 159 } : Room) 4 1 6 22 [some (.ref (za g 0)), some (.int p0), some (.ref (za g 31)), none] [.ref q9] ν := by
    intro q9 ν h9
    refine k_astore3 S dL_put_22 (by decide) rfl (n := 23) rfl ?_
    refine k_iconst S dL_put_23 (v := 2) (by decide) (n := 24) rfl ?_
    exact k_iret S Y dL_put_24 (by decide) (by decide) rfl (Or.inr (Or.inr (⟨h9, rfl⟩)))
  have hKX : ∀ (E9 : String) (ν9 : zM), XT E9 ν9 → zKX x g ({ frames := 7, cells := 1, slots := 6, locals := 159 } : Room) 4 (0 + 1) (0 + 6) 4 [some (.ref (za g 0)), some (.int p0), some (.ref (za g 31)), none] [.int 0, .ref (za g 31)] E9 ν9 := by
    intro E9 ν9 h9
    rcases hE E9 ν9 h9 with e | e
    · subst e
      exact k_catch S Y (tableOf []) ⟨0, 16, 19, 13⟩ (tableOf [(0, 16, 22, 19)]) rfl (fun y hy => absurd hy List.not_mem_nil) (by decide) (by decide) m_274 (by decide +kernel) rfl (fun q9 => hX0 q9 ν9 h9)
    · subst e
      exact k_catch S Y (tableOf [(0, 16, 19, 13)]) ⟨0, 16, 22, 19⟩ (tableOf []) rfl (fun y hy => by simp only [tableOf, List.map, List.mem_cons, List.not_mem_nil, or_false] at hy; have e := hy; subst e <;> first | exact ⟨by decide, "java/lang/IllegalArgumentException", m_274, by decide⟩) (by decide) (by decide) m_350 (by decide +kernel) rfl (fun q9 => hX1 q9 ν9 h9)
  refine k_aload2 S dL_put_0 (n := 1) rfl ?_
  refine k_iconst S dL_put_1 (v := 0) (by decide) (n := 2) rfl ?_
  refine k_aload0 S dL_put_2 (n := 3) rfl ?_
  refine k_iload1 S dL_put_3 (n := 4) rfl ?_
  refine k_callV (As := [.int p0]) (rest := [.int 0, .ref (za g 31)]) (p := 0) S (hM) mv_X3_put m_351 dL_put_4 rfl rfl ⟨by decide, by decide⟩ (zlt S (by decide)) (by decide) (ci := 3) rfl rfl rfl (Nat.le_of_ble_eq_true rfl) ⟨by decide, by decide⟩ (n := 7) rfl hKX (fun v9 μ1 h9 => ?_)
  obtain ⟨a, e1⟩ := hT _ _ h9
  subst e1
  show zK x g ({ frames := 7, cells := 1, slots := 6, locals := 159 } : Room) 4 1 6 7 [some (.ref (za g 0)), some (.int p0), some (.ref (za g 31)), none] [.int a, .int 0, .ref (za g 31)] μ1
  have hJ2 : zK x g ({ frames := 7, cells := 1, slots := 6, locals := 159 } : Room) 4 1 6 15 [some (.ref (za g 0)), some (.int p0), some (.ref (za g 31)), none] [.long ((if a = 0 then (0 : Int64) else (1 : Int64))), .int 0, .ref (za g 31)] μ1 := by
    refine k_last S dL_put_15 (by rw [hn]; decide) rfl (by decide) (n := 16) rfl ?_
    refine k_goto S dL_put_16 (tgt := 25) (by decide) ?_
    refine k_iconst S dL_put_25 (v := 0) (by decide) (n := 26) rfl ?_
    exact k_iret S Y dL_put_26 (by decide) (by decide) rfl (Or.inl ⟨a, μ1, h9, rfl, rfl⟩)
  refine k_if_eq S dL_put_7 (tgt := 14) (by decide) (n := 10) rfl (fun c1 => ?_) (fun c1 => ?_)
  ·
    refine k_lconst S dL_put_14 (v := 0) (by decide) (n := 15) rfl ?_
    rw [if_pos c1] at hJ2
    exact hJ2
  ·
    refine k_lconst S dL_put_10 (v := 1) (by decide) (n := 11) rfl ?_
    refine k_goto S dL_put_11 (tgt := 15) (by decide) ?_
    rw [if_neg c1] at hJ2
    exact hJ2
theorem mv_L_put : zMH yL_put cL_put 4 (some .int) [(0, 16, 19, 13), (0, 16, 22, 19)] 3 := ⟨m_348, m_0, m_349, by decide +kernel⟩
set_option maxRecDepth 100000 in
set_option maxHeartbeats 4000000 in
theorem c_L_newPhase {l : Launch} {g : zG} {μ : zM} {RT : Option Value → zM → Prop} {XT : String → zM → Prop} (hn : zn g = 32) (hM : zC l g yX3_newPhase cX3_newPhase 1 (some .int) ({ frames := 6, cells := 1, slots := 6, locals := 82 } : Room) 1 6 [.ref (za g 0)] μ RT XT) (hT : ∀ v ν, RT v ν → ∃ a, v = some (.int a)) (hE : ∀ E ν, XT E ν → E = "java/lang/IllegalStateException") : zCH l g yL_newPhase cL_newPhase 3 (some .int) [(0, 8, 11, 19)] ({ frames := 7, cells := 1, slots := 6, locals := 102 } : Room) 1 6 [.ref (za g 0), .ref (za g 31)] μ (fun r ν => (∃ (a : Int32) (μ1 : zM), RT (some (.int a)) μ1 ∧ r = some (.int 0) ∧ ν = zuo μ1 (Int32.toInt64 a)) ∨ (XT "java/lang/IllegalStateException" ν ∧ r = some (.int 1))) zNX := by
  refine zCH_of (L0 := [some (.ref (za g 0)), some (.ref (za g 31)), none]) (by decide) (Nat.le_of_ble_eq_true rfl) rfl ?_
  intro x S Y hxl
  subst hxl
  have hX0 : ∀ (q9 : Addr) (ν : zM), XT "java/lang/IllegalStateException" ν → zK x g ({ frames := 7, cells := 1, slots := 6, locals := 102 } : Room) 3 1 6 11 [some (.ref (za g 0)), some (.ref (za g 31)), none] [.ref q9] ν := by
    intro q9 ν h9
    refine k_astore2 S dL_newPhase_11 (by decide) rfl (n := 12) rfl ?_
    refine k_iconst S dL_newPhase_12 (v := 1) (by decide) (n := 13) rfl ?_
    exact k_iret S Y dL_newPhase_13 (by decide) (by decide) rfl (Or.inr (⟨h9, rfl⟩))
  have hKX : ∀ (E9 : String) (ν9 : zM), XT E9 ν9 → zKX x g ({ frames := 7, cells := 1, slots := 6, locals := 102 } : Room) 3 (0 + 1) (0 + 6) 3 [some (.ref (za g 0)), some (.ref (za g 31)), none] [.int 0, .ref (za g 31)] E9 ν9 := by
    intro E9 ν9 h9
    have e := hE E9 ν9 h9
    subst e
    exact k_catch S Y (tableOf []) ⟨0, 8, 11, 19⟩ (tableOf []) rfl (fun y hy => absurd hy List.not_mem_nil) (by decide) (by decide) m_350 (by decide +kernel) rfl (fun q9 => hX0 q9 ν9 h9)
  refine k_aload1 S dL_newPhase_0 (n := 1) rfl ?_
  refine k_iconst S dL_newPhase_1 (v := 0) (by decide) (n := 2) rfl ?_
  refine k_aload0 S dL_newPhase_2 (n := 3) rfl ?_
  refine k_callV (As := []) (rest := [.int 0, .ref (za g 31)]) (p := 0) S (hM) mv_X3_newPhase m_420 dL_newPhase_3 rfl rfl ⟨by decide, by decide⟩ (zlt S (by decide)) (by decide) (ci := 3) rfl rfl rfl (Nat.le_of_ble_eq_true rfl) ⟨by decide, by decide⟩ (n := 6) rfl hKX (fun v9 μ1 h9 => ?_)
  obtain ⟨a, e1⟩ := hT _ _ h9
  subst e1
  show zK x g ({ frames := 7, cells := 1, slots := 6, locals := 102 } : Room) 3 1 6 6 [some (.ref (za g 0)), some (.ref (za g 31)), none] [.int a, .int 0, .ref (za g 31)] μ1
  refine k_i2l S dL_newPhase_6 (n := 7) rfl ?_
  refine k_last S dL_newPhase_7 (by rw [hn]; decide) rfl (by decide) (n := 8) rfl ?_
  refine k_goto S dL_newPhase_8 (tgt := 14) (by decide) ?_
  refine k_iconst S dL_newPhase_14 (v := 0) (by decide) (n := 15) rfl ?_
  exact k_iret S Y dL_newPhase_15 (by decide) (by decide) rfl (Or.inl ⟨a, μ1, h9, rfl, rfl⟩)
theorem mv_L_newPhase : zMH yL_newPhase cL_newPhase 3 (some .int) [(0, 8, 11, 19)] 2 := ⟨m_418, m_0, m_419, by decide +kernel⟩
set_option maxRecDepth 100000 in
set_option maxHeartbeats 4000000 in
theorem c_L_freeze {l : Launch} {g : zG} {μ : zM} {p0 : Int32} {RT : Option Value → zM → Prop} {XT : String → zM → Prop} (hn : zn g = 32) (hM : zC l g yX3_freeze cX3_freeze 3 none ({ frames := 7, cells := 2, slots := 12, locals := 103 } : Room) 2 12 [.ref (za g 0), .int p0] μ RT XT) (hT : ∀ v ν, RT v ν → v = none) (hE : ∀ E ν, XT E ν → E = "java/lang/IndexOutOfBoundsException" ∨ E = "java/lang/IllegalStateException") : zCH l g yL_freeze cL_freeze 3 (some .int) [(0, 5, 8, 28), (0, 5, 11, 19)] ({ frames := 8, cells := 2, slots := 12, locals := 125 } : Room) 2 12 [.ref (za g 0), .int p0] μ (fun r ν => (∃ μ1, RT none μ1 ∧ r = some (.int 0) ∧ ν = μ1) ∨ (XT "java/lang/IndexOutOfBoundsException" ν ∧ r = some (.int 1)) ∨ (XT "java/lang/IllegalStateException" ν ∧ r = some (.int 2))) zNX := by
  refine zCH_of (L0 := [some (.ref (za g 0)), some (.int p0), none]) (by decide) (Nat.le_of_ble_eq_true rfl) rfl ?_
  intro x S Y hxl
  subst hxl
  have hX0 : ∀ (q9 : Addr) (ν : zM), XT "java/lang/IndexOutOfBoundsException" ν → zK x g ({ frames := 8, cells := 2, slots := 12, locals := 125 } : Room) 3 2 12 8 [some (.ref (za g 0)), some (.int p0), none] [.ref q9] ν := by
    intro q9 ν h9
    refine k_astore2 S dL_freeze_8 (by decide) rfl (n := 9) rfl ?_
    refine k_iconst S dL_freeze_9 (v := 1) (by decide) (n := 10) rfl ?_
    exact k_iret S Y dL_freeze_10 (by decide) (by decide) rfl (Or.inr (Or.inl ⟨h9, rfl⟩))
  have hX1 : ∀ (q9 : Addr) (ν : zM), XT "java/lang/IllegalStateException" ν → zK x g ({ frames := 8, cells := 2, slots := 12, locals := 125 } : Room) 3 2 12 11 [some (.ref (za g 0)), some (.int p0), none] [.ref q9] ν := by
    intro q9 ν h9
    refine k_astore2 S dL_freeze_11 (by decide) rfl (n := 12) rfl ?_
    refine k_iconst S dL_freeze_12 (v := 2) (by decide) (n := 13) rfl ?_
    exact k_iret S Y dL_freeze_13 (by decide) (by decide) rfl (Or.inr (Or.inr (⟨h9, rfl⟩)))
  have hKX : ∀ (E9 : String) (ν9 : zM), XT E9 ν9 → zKX x g ({ frames := 8, cells := 2, slots := 12, locals := 125 } : Room) 3 (0 + 2) (0 + 12) 2 [some (.ref (za g 0)), some (.int p0), none] [] E9 ν9 := by
    intro E9 ν9 h9
    rcases hE E9 ν9 h9 with e | e
    · subst e
      exact k_catch S Y (tableOf []) ⟨0, 5, 8, 28⟩ (tableOf [(0, 5, 11, 19)]) rfl (fun y hy => absurd hy List.not_mem_nil) (by decide) (by decide) m_434 (by decide +kernel) rfl (fun q9 => hX0 q9 ν9 h9)
    · subst e
      exact k_catch S Y (tableOf [(0, 5, 8, 28)]) ⟨0, 5, 11, 19⟩ (tableOf []) rfl (fun y hy => by simp only [tableOf, List.map, List.mem_cons, List.not_mem_nil, or_false] at hy; have e := hy; subst e <;> first | exact ⟨by decide, "java/lang/IndexOutOfBoundsException", m_434, by decide⟩) (by decide) (by decide) m_350 (by decide +kernel) rfl (fun q9 => hX1 q9 ν9 h9)
  refine k_aload0 S dL_freeze_0 (n := 1) rfl ?_
  refine k_iload1 S dL_freeze_1 (n := 2) rfl ?_
  refine k_callV (As := [.int p0]) (rest := []) (p := 0) S (hM) mv_X3_freeze m_435 dL_freeze_2 rfl rfl ⟨by decide, by decide⟩ (zlt S (by decide)) (by decide) (ci := 3) rfl rfl rfl (Nat.le_of_ble_eq_true rfl) ⟨by decide, by decide⟩ (n := 5) rfl hKX (fun v9 μ1 h9 => ?_)
  have e1 := hT _ _ h9
  subst e1
  show zK x g ({ frames := 8, cells := 2, slots := 12, locals := 125 } : Room) 3 2 12 5 [some (.ref (za g 0)), some (.int p0), none] [] μ1
  refine k_goto S dL_freeze_5 (tgt := 14) (by decide) ?_
  refine k_iconst S dL_freeze_14 (v := 0) (by decide) (n := 15) rfl ?_
  exact k_iret S Y dL_freeze_15 (by decide) (by decide) rfl (Or.inl ⟨μ1, h9, rfl, rfl⟩)
theorem mv_L_freeze : zMH yL_freeze cL_freeze 3 (some .int) [(0, 5, 8, 28), (0, 5, 11, 19)] 2 := ⟨m_432, m_0, m_433, by decide +kernel⟩
set_option maxRecDepth 100000 in
set_option maxHeartbeats 4000000 in
theorem c_L_thaw {l : Launch} {g : zG} {μ : zM} {p0 : Int32} {RT : Option Value → zM → Prop} {XT : String → zM → Prop} (hn : zn g = 32) (hM : zC l g yX3_thaw cX3_thaw 3 none ({ frames := 7, cells := 2, slots := 12, locals := 103 } : Room) 2 12 [.ref (za g 0), .int p0] μ RT XT) (hT : ∀ v ν, RT v ν → v = none) (hE : ∀ E ν, XT E ν → E = "java/lang/IndexOutOfBoundsException" ∨ E = "java/lang/IllegalStateException") : zCH l g yL_thaw cL_thaw 3 (some .int) [(0, 5, 8, 28), (0, 5, 11, 19)] ({ frames := 8, cells := 2, slots := 12, locals := 125 } : Room) 2 12 [.ref (za g 0), .int p0] μ (fun r ν => (∃ μ1, RT none μ1 ∧ r = some (.int 0) ∧ ν = μ1) ∨ (XT "java/lang/IndexOutOfBoundsException" ν ∧ r = some (.int 1)) ∨ (XT "java/lang/IllegalStateException" ν ∧ r = some (.int 2))) zNX := by
  refine zCH_of (L0 := [some (.ref (za g 0)), some (.int p0), none]) (by decide) (Nat.le_of_ble_eq_true rfl) rfl ?_
  intro x S Y hxl
  subst hxl
  have hX0 : ∀ (q9 : Addr) (ν : zM), XT "java/lang/IndexOutOfBoundsException" ν → zK x g ({ frames := 8, cells := 2, slots := 12, locals := 125 } : Room) 3 2 12 8 [some (.ref (za g 0)), some (.int p0), none] [.ref q9] ν := by
    intro q9 ν h9
    refine k_astore2 S dL_thaw_8 (by decide) rfl (n := 9) rfl ?_
    refine k_iconst S dL_thaw_9 (v := 1) (by decide) (n := 10) rfl ?_
    exact k_iret S Y dL_thaw_10 (by decide) (by decide) rfl (Or.inr (Or.inl ⟨h9, rfl⟩))
  have hX1 : ∀ (q9 : Addr) (ν : zM), XT "java/lang/IllegalStateException" ν → zK x g ({ frames := 8, cells := 2, slots := 12, locals := 125 } : Room) 3 2 12 11 [some (.ref (za g 0)), some (.int p0), none] [.ref q9] ν := by
    intro q9 ν h9
    refine k_astore2 S dL_thaw_11 (by decide) rfl (n := 12) rfl ?_
    refine k_iconst S dL_thaw_12 (v := 2) (by decide) (n := 13) rfl ?_
    exact k_iret S Y dL_thaw_13 (by decide) (by decide) rfl (Or.inr (Or.inr (⟨h9, rfl⟩)))
  have hKX : ∀ (E9 : String) (ν9 : zM), XT E9 ν9 → zKX x g ({ frames := 8, cells := 2, slots := 12, locals := 125 } : Room) 3 (0 + 2) (0 + 12) 2 [some (.ref (za g 0)), some (.int p0), none] [] E9 ν9 := by
    intro E9 ν9 h9
    rcases hE E9 ν9 h9 with e | e
    · subst e
      exact k_catch S Y (tableOf []) ⟨0, 5, 8, 28⟩ (tableOf [(0, 5, 11, 19)]) rfl (fun y hy => absurd hy List.not_mem_nil) (by decide) (by decide) m_434 (by decide +kernel) rfl (fun q9 => hX0 q9 ν9 h9)
    · subst e
      exact k_catch S Y (tableOf [(0, 5, 8, 28)]) ⟨0, 5, 11, 19⟩ (tableOf []) rfl (fun y hy => by simp only [tableOf, List.map, List.mem_cons, List.not_mem_nil, or_false] at hy; have e := hy; subst e <;> first | exact ⟨by decide, "java/lang/IndexOutOfBoundsException", m_434, by decide⟩) (by decide) (by decide) m_350 (by decide +kernel) rfl (fun q9 => hX1 q9 ν9 h9)
  refine k_aload0 S dL_thaw_0 (n := 1) rfl ?_
  refine k_iload1 S dL_thaw_1 (n := 2) rfl ?_
  refine k_callV (As := [.int p0]) (rest := []) (p := 0) S (hM) mv_X3_thaw m_464 dL_thaw_2 rfl rfl ⟨by decide, by decide⟩ (zlt S (by decide)) (by decide) (ci := 3) rfl rfl rfl (Nat.le_of_ble_eq_true rfl) ⟨by decide, by decide⟩ (n := 5) rfl hKX (fun v9 μ1 h9 => ?_)
  have e1 := hT _ _ h9
  subst e1
  show zK x g ({ frames := 8, cells := 2, slots := 12, locals := 125 } : Room) 3 2 12 5 [some (.ref (za g 0)), some (.int p0), none] [] μ1
  refine k_goto S dL_thaw_5 (tgt := 14) (by decide) ?_
  refine k_iconst S dL_thaw_14 (v := 0) (by decide) (n := 15) rfl ?_
  exact k_iret S Y dL_thaw_15 (by decide) (by decide) rfl (Or.inl ⟨μ1, h9, rfl, rfl⟩)
theorem mv_L_thaw : zMH yL_thaw cL_thaw 3 (some .int) [(0, 5, 8, 28), (0, 5, 11, 19)] 2 := ⟨m_462, m_0, m_463, by decide +kernel⟩
set_option maxRecDepth 100000 in
set_option maxHeartbeats 4000000 in
theorem c_L_exclude {l : Launch} {g : zG} {μ : zM} {p0 p1 : Int32} {RT : Option Value → zM → Prop} {XT : String → zM → Prop} (hn : zn g = 32) (hM : zC l g yX3_exclude cX3_exclude 4 (some .int) ({ frames := 7, cells := 2, slots := 12, locals := 117 } : Room) 2 12 [.ref (za g 0), .int p0, .int p1] μ RT XT) (hT : ∀ v ν, RT v ν → ∃ a, v = some (.int a)) (hE : ∀ E ν, XT E ν → E = "java/lang/IndexOutOfBoundsException" ∨ E = "java/lang/IllegalArgumentException") : zCH l g yL_exclude cL_exclude 5 (some .int) [(0, 10, 13, 28), (0, 10, 17, 13)] ({ frames := 8, cells := 2, slots := 12, locals := 140 } : Room) 2 12 [.ref (za g 0), .int p0, .int p1, .ref (za g 31)] μ (fun r ν => (∃ (a : Int32) (μ1 : zM), RT (some (.int a)) μ1 ∧ r = some (.int 0) ∧ ν = zuo μ1 (Int32.toInt64 a)) ∨ (XT "java/lang/IndexOutOfBoundsException" ν ∧ r = some (.int 1)) ∨ (XT "java/lang/IllegalArgumentException" ν ∧ r = some (.int 2))) zNX := by
  refine zCH_of (L0 := [some (.ref (za g 0)), some (.int p0), some (.int p1), some (.ref (za g 31)), none]) (by decide) (Nat.le_of_ble_eq_true rfl) rfl ?_
  intro x S Y hxl
  subst hxl
  have hX0 : ∀ (q9 : Addr) (ν : zM), XT "java/lang/IndexOutOfBoundsException" ν → zK x g ({ frames := 8, cells := 2, slots := 12, locals := 140 } : Room) 5 2 12 13 [some (.ref (za g 0)), some (.int p0), some (.int p1), some (.ref (za g 31)), none] [.ref q9] ν := by
    intro q9 ν h9
    refine k_astore4 S dL_exclude_13 (by decide) rfl (n := 15) rfl ?_
    refine k_iconst S dL_exclude_15 (v := 1) (by decide) (n := 16) rfl ?_
    exact k_iret S Y dL_exclude_16 (by decide) (by decide) rfl (Or.inr (Or.inl ⟨h9, rfl⟩))
  have hX1 : ∀ (q9 : Addr) (ν : zM), XT "java/lang/IllegalArgumentException" ν → zK x g ({ frames := 8, cells := 2, slots := 12, locals := 140 } : Room) 5 2 12 17 [some (.ref (za g 0)), some (.int p0), some (.int p1), some (.ref (za g 31)), none] [.ref q9] ν := by
    intro q9 ν h9
    refine k_astore4 S dL_exclude_17 (by decide) rfl (n := 19) rfl ?_
    refine k_iconst S dL_exclude_19 (v := 2) (by decide) (n := 20) rfl ?_
    exact k_iret S Y dL_exclude_20 (by decide) (by decide) rfl (Or.inr (Or.inr (⟨h9, rfl⟩)))
  have hKX : ∀ (E9 : String) (ν9 : zM), XT E9 ν9 → zKX x g ({ frames := 8, cells := 2, slots := 12, locals := 140 } : Room) 5 (0 + 2) (0 + 12) 5 [some (.ref (za g 0)), some (.int p0), some (.int p1), some (.ref (za g 31)), none] [.int 0, .ref (za g 31)] E9 ν9 := by
    intro E9 ν9 h9
    rcases hE E9 ν9 h9 with e | e
    · subst e
      exact k_catch S Y (tableOf []) ⟨0, 10, 13, 28⟩ (tableOf [(0, 10, 17, 13)]) rfl (fun y hy => absurd hy List.not_mem_nil) (by decide) (by decide) m_434 (by decide +kernel) rfl (fun q9 => hX0 q9 ν9 h9)
    · subst e
      exact k_catch S Y (tableOf [(0, 10, 13, 28)]) ⟨0, 10, 17, 13⟩ (tableOf []) rfl (fun y hy => by simp only [tableOf, List.map, List.mem_cons, List.not_mem_nil, or_false] at hy; have e := hy; subst e <;> first | exact ⟨by decide, "java/lang/IndexOutOfBoundsException", m_434, by decide⟩) (by decide) (by decide) m_274 (by decide +kernel) rfl (fun q9 => hX1 q9 ν9 h9)
  refine k_aload3 S dL_exclude_0 (n := 1) rfl ?_
  refine k_iconst S dL_exclude_1 (v := 0) (by decide) (n := 2) rfl ?_
  refine k_aload0 S dL_exclude_2 (n := 3) rfl ?_
  refine k_iload1 S dL_exclude_3 (n := 4) rfl ?_
  refine k_iload2 S dL_exclude_4 (n := 5) rfl ?_
  refine k_callV (As := [.int p0, .int p1]) (rest := [.int 0, .ref (za g 31)]) (p := 0) S (hM) mv_X3_exclude m_472 dL_exclude_5 rfl rfl ⟨by decide, by decide⟩ (zlt S (by decide)) (by decide) (ci := 3) rfl rfl rfl (Nat.le_of_ble_eq_true rfl) ⟨by decide, by decide⟩ (n := 8) rfl hKX (fun v9 μ1 h9 => ?_)
  obtain ⟨a, e1⟩ := hT _ _ h9
  subst e1
  show zK x g ({ frames := 8, cells := 2, slots := 12, locals := 140 } : Room) 5 2 12 8 [some (.ref (za g 0)), some (.int p0), some (.int p1), some (.ref (za g 31)), none] [.int a, .int 0, .ref (za g 31)] μ1
  refine k_i2l S dL_exclude_8 (n := 9) rfl ?_
  refine k_last S dL_exclude_9 (by rw [hn]; decide) rfl (by decide) (n := 10) rfl ?_
  refine k_goto S dL_exclude_10 (tgt := 21) (by decide) ?_
  refine k_iconst S dL_exclude_21 (v := 0) (by decide) (n := 22) rfl ?_
  exact k_iret S Y dL_exclude_22 (by decide) (by decide) rfl (Or.inl ⟨a, μ1, h9, rfl, rfl⟩)
theorem mv_L_exclude : zMH yL_exclude cL_exclude 5 (some .int) [(0, 10, 13, 28), (0, 10, 17, 13)] 4 := ⟨m_470, m_0, m_471, by decide +kernel⟩
set_option maxRecDepth 100000 in
set_option maxHeartbeats 4000000 in
theorem c_L_mean {l : Launch} {g : zG} {μ : zM} {p0 : Int32} {RT : Option Value → zM → Prop} {XT : String → zM → Prop} (hn : zn g = 32) (hM : zC l g yX3_mean cX3_mean 2 (some .int) ({ frames := 7, cells := 1, slots := 6, locals := 103 } : Room) 1 6 [.ref (za g 0), .int p0] μ RT XT) (hT : ∀ v ν, RT v ν → ∃ a, v = some (.int a)) (hE : ∀ E ν, XT E ν → E = "java/lang/IndexOutOfBoundsException") : zCH l g yL_mean cL_mean 4 (some .int) [(0, 9, 12, 28)] ({ frames := 8, cells := 1, slots := 6, locals := 124 } : Room) 1 6 [.ref (za g 0), .int p0, .ref (za g 31)] μ (fun r ν => (∃ (a : Int32) (μ1 : zM), RT (some (.int a)) μ1 ∧ r = some (.int 0) ∧ ν = zuo μ1 (Int32.toInt64 a)) ∨ (XT "java/lang/IndexOutOfBoundsException" ν ∧ r = some (.int 1))) zNX := by
  refine zCH_of (L0 := [some (.ref (za g 0)), some (.int p0), some (.ref (za g 31)), none]) (by decide) (Nat.le_of_ble_eq_true rfl) rfl ?_
  intro x S Y hxl
  subst hxl
  have hX0 : ∀ (q9 : Addr) (ν : zM), XT "java/lang/IndexOutOfBoundsException" ν → zK x g ({ frames := 8, cells := 1, slots := 6, locals := 124 } : Room) 4 1 6 12 [some (.ref (za g 0)), some (.int p0), some (.ref (za g 31)), none] [.ref q9] ν := by
    intro q9 ν h9
    refine k_astore3 S dL_mean_12 (by decide) rfl (n := 13) rfl ?_
    refine k_iconst S dL_mean_13 (v := 1) (by decide) (n := 14) rfl ?_
    exact k_iret S Y dL_mean_14 (by decide) (by decide) rfl (Or.inr (⟨h9, rfl⟩))
  have hKX : ∀ (E9 : String) (ν9 : zM), XT E9 ν9 → zKX x g ({ frames := 8, cells := 1, slots := 6, locals := 124 } : Room) 4 (0 + 1) (0 + 6) 4 [some (.ref (za g 0)), some (.int p0), some (.ref (za g 31)), none] [.int 0, .ref (za g 31)] E9 ν9 := by
    intro E9 ν9 h9
    have e := hE E9 ν9 h9
    subst e
    exact k_catch S Y (tableOf []) ⟨0, 9, 12, 28⟩ (tableOf []) rfl (fun y hy => absurd hy List.not_mem_nil) (by decide) (by decide) m_434 (by decide +kernel) rfl (fun q9 => hX0 q9 ν9 h9)
  refine k_aload2 S dL_mean_0 (n := 1) rfl ?_
  refine k_iconst S dL_mean_1 (v := 0) (by decide) (n := 2) rfl ?_
  refine k_aload0 S dL_mean_2 (n := 3) rfl ?_
  refine k_iload1 S dL_mean_3 (n := 4) rfl ?_
  refine k_callV (As := [.int p0]) (rest := [.int 0, .ref (za g 31)]) (p := 0) S (hM) mv_X3_mean m_485 dL_mean_4 rfl rfl ⟨by decide, by decide⟩ (zlt S (by decide)) (by decide) (ci := 3) rfl rfl rfl (Nat.le_of_ble_eq_true rfl) ⟨by decide, by decide⟩ (n := 7) rfl hKX (fun v9 μ1 h9 => ?_)
  obtain ⟨a, e1⟩ := hT _ _ h9
  subst e1
  show zK x g ({ frames := 8, cells := 1, slots := 6, locals := 124 } : Room) 4 1 6 7 [some (.ref (za g 0)), some (.int p0), some (.ref (za g 31)), none] [.int a, .int 0, .ref (za g 31)] μ1
  refine k_i2l S dL_mean_7 (n := 8) rfl ?_
  refine k_last S dL_mean_8 (by rw [hn]; decide) rfl (by decide) (n := 9) rfl ?_
  refine k_goto S dL_mean_9 (tgt := 15) (by decide) ?_
  refine k_iconst S dL_mean_15 (v := 0) (by decide) (n := 16) rfl ?_
  exact k_iret S Y dL_mean_16 (by decide) (by decide) rfl (Or.inl ⟨a, μ1, h9, rfl, rfl⟩)
theorem mv_L_mean : zMH yL_mean cL_mean 4 (some .int) [(0, 9, 12, 28)] 3 := ⟨m_483, m_0, m_484, by decide +kernel⟩
set_option maxRecDepth 100000 in
set_option maxHeartbeats 4000000 in
theorem c_L_range {l : Launch} {g : zG} {μ : zM} {p0 : Int32} {RT : Option Value → zM → Prop} {XT : String → zM → Prop} (hn : zn g = 32) (hM : zC l g yX3_range cX3_range 2 (some .int) ({ frames := 7, cells := 1, slots := 6, locals := 103 } : Room) 1 6 [.ref (za g 0), .int p0] μ RT XT) (hT : ∀ v ν, RT v ν → ∃ a, v = some (.int a)) (hE : ∀ E ν, XT E ν → E = "java/lang/IndexOutOfBoundsException") : zCH l g yL_range cL_range 4 (some .int) [(0, 9, 12, 28)] ({ frames := 8, cells := 1, slots := 6, locals := 124 } : Room) 1 6 [.ref (za g 0), .int p0, .ref (za g 31)] μ (fun r ν => (∃ (a : Int32) (μ1 : zM), RT (some (.int a)) μ1 ∧ r = some (.int 0) ∧ ν = zuo μ1 (Int32.toInt64 a)) ∨ (XT "java/lang/IndexOutOfBoundsException" ν ∧ r = some (.int 1))) zNX := by
  refine zCH_of (L0 := [some (.ref (za g 0)), some (.int p0), some (.ref (za g 31)), none]) (by decide) (Nat.le_of_ble_eq_true rfl) rfl ?_
  intro x S Y hxl
  subst hxl
  have hX0 : ∀ (q9 : Addr) (ν : zM), XT "java/lang/IndexOutOfBoundsException" ν → zK x g ({ frames := 8, cells := 1, slots := 6, locals := 124 } : Room) 4 1 6 12 [some (.ref (za g 0)), some (.int p0), some (.ref (za g 31)), none] [.ref q9] ν := by
    intro q9 ν h9
    refine k_astore3 S dL_range_12 (by decide) rfl (n := 13) rfl ?_
    refine k_iconst S dL_range_13 (v := 1) (by decide) (n := 14) rfl ?_
    exact k_iret S Y dL_range_14 (by decide) (by decide) rfl (Or.inr (⟨h9, rfl⟩))
  have hKX : ∀ (E9 : String) (ν9 : zM), XT E9 ν9 → zKX x g ({ frames := 8, cells := 1, slots := 6, locals := 124 } : Room) 4 (0 + 1) (0 + 6) 4 [some (.ref (za g 0)), some (.int p0), some (.ref (za g 31)), none] [.int 0, .ref (za g 31)] E9 ν9 := by
    intro E9 ν9 h9
    have e := hE E9 ν9 h9
    subst e
    exact k_catch S Y (tableOf []) ⟨0, 9, 12, 28⟩ (tableOf []) rfl (fun y hy => absurd hy List.not_mem_nil) (by decide) (by decide) m_434 (by decide +kernel) rfl (fun q9 => hX0 q9 ν9 h9)
  refine k_aload2 S dL_range_0 (n := 1) rfl ?_
  refine k_iconst S dL_range_1 (v := 0) (by decide) (n := 2) rfl ?_
  refine k_aload0 S dL_range_2 (n := 3) rfl ?_
  refine k_iload1 S dL_range_3 (n := 4) rfl ?_
  refine k_callV (As := [.int p0]) (rest := [.int 0, .ref (za g 31)]) (p := 0) S (hM) mv_X3_range m_492 dL_range_4 rfl rfl ⟨by decide, by decide⟩ (zlt S (by decide)) (by decide) (ci := 3) rfl rfl rfl (Nat.le_of_ble_eq_true rfl) ⟨by decide, by decide⟩ (n := 7) rfl hKX (fun v9 μ1 h9 => ?_)
  obtain ⟨a, e1⟩ := hT _ _ h9
  subst e1
  show zK x g ({ frames := 8, cells := 1, slots := 6, locals := 124 } : Room) 4 1 6 7 [some (.ref (za g 0)), some (.int p0), some (.ref (za g 31)), none] [.int a, .int 0, .ref (za g 31)] μ1
  refine k_i2l S dL_range_7 (n := 8) rfl ?_
  refine k_last S dL_range_8 (by rw [hn]; decide) rfl (by decide) (n := 9) rfl ?_
  refine k_goto S dL_range_9 (tgt := 15) (by decide) ?_
  refine k_iconst S dL_range_15 (v := 0) (by decide) (n := 16) rfl ?_
  exact k_iret S Y dL_range_16 (by decide) (by decide) rfl (Or.inl ⟨a, μ1, h9, rfl, rfl⟩)
theorem mv_L_range : zMH yL_range cL_range 4 (some .int) [(0, 9, 12, 28)] 3 := ⟨m_490, m_0, m_491, by decide +kernel⟩
set_option maxRecDepth 100000 in
set_option maxHeartbeats 4000000 in
theorem c_L_phaseOf {l : Launch} {g : zG} {μ : zM} {p0 : Int32} {RT : Option Value → zM → Prop} {XT : String → zM → Prop} (hn : zn g = 32) (hM : zC l g yX3_phaseOf cX3_phaseOf 2 (some .int) ({ frames := 7, cells := 1, slots := 6, locals := 103 } : Room) 1 6 [.ref (za g 0), .int p0] μ RT XT) (hT : ∀ v ν, RT v ν → ∃ a, v = some (.int a)) (hE : ∀ E ν, XT E ν → E = "java/lang/IndexOutOfBoundsException") : zCH l g yL_phaseOf cL_phaseOf 4 (some .int) [(0, 9, 12, 28)] ({ frames := 8, cells := 1, slots := 6, locals := 124 } : Room) 1 6 [.ref (za g 0), .int p0, .ref (za g 31)] μ (fun r ν => (∃ (a : Int32) (μ1 : zM), RT (some (.int a)) μ1 ∧ r = some (.int 0) ∧ ν = zuo μ1 (Int32.toInt64 a)) ∨ (XT "java/lang/IndexOutOfBoundsException" ν ∧ r = some (.int 1))) zNX := by
  refine zCH_of (L0 := [some (.ref (za g 0)), some (.int p0), some (.ref (za g 31)), none]) (by decide) (Nat.le_of_ble_eq_true rfl) rfl ?_
  intro x S Y hxl
  subst hxl
  have hX0 : ∀ (q9 : Addr) (ν : zM), XT "java/lang/IndexOutOfBoundsException" ν → zK x g ({ frames := 8, cells := 1, slots := 6, locals := 124 } : Room) 4 1 6 12 [some (.ref (za g 0)), some (.int p0), some (.ref (za g 31)), none] [.ref q9] ν := by
    intro q9 ν h9
    refine k_astore3 S dL_phaseOf_12 (by decide) rfl (n := 13) rfl ?_
    refine k_iconst S dL_phaseOf_13 (v := 1) (by decide) (n := 14) rfl ?_
    exact k_iret S Y dL_phaseOf_14 (by decide) (by decide) rfl (Or.inr (⟨h9, rfl⟩))
  have hKX : ∀ (E9 : String) (ν9 : zM), XT E9 ν9 → zKX x g ({ frames := 8, cells := 1, slots := 6, locals := 124 } : Room) 4 (0 + 1) (0 + 6) 4 [some (.ref (za g 0)), some (.int p0), some (.ref (za g 31)), none] [.int 0, .ref (za g 31)] E9 ν9 := by
    intro E9 ν9 h9
    have e := hE E9 ν9 h9
    subst e
    exact k_catch S Y (tableOf []) ⟨0, 9, 12, 28⟩ (tableOf []) rfl (fun y hy => absurd hy List.not_mem_nil) (by decide) (by decide) m_434 (by decide +kernel) rfl (fun q9 => hX0 q9 ν9 h9)
  refine k_aload2 S dL_phaseOf_0 (n := 1) rfl ?_
  refine k_iconst S dL_phaseOf_1 (v := 0) (by decide) (n := 2) rfl ?_
  refine k_aload0 S dL_phaseOf_2 (n := 3) rfl ?_
  refine k_iload1 S dL_phaseOf_3 (n := 4) rfl ?_
  refine k_callV (As := [.int p0]) (rest := [.int 0, .ref (za g 31)]) (p := 0) S (hM) mv_X3_phaseOf m_499 dL_phaseOf_4 rfl rfl ⟨by decide, by decide⟩ (zlt S (by decide)) (by decide) (ci := 3) rfl rfl rfl (Nat.le_of_ble_eq_true rfl) ⟨by decide, by decide⟩ (n := 7) rfl hKX (fun v9 μ1 h9 => ?_)
  obtain ⟨a, e1⟩ := hT _ _ h9
  subst e1
  show zK x g ({ frames := 8, cells := 1, slots := 6, locals := 124 } : Room) 4 1 6 7 [some (.ref (za g 0)), some (.int p0), some (.ref (za g 31)), none] [.int a, .int 0, .ref (za g 31)] μ1
  refine k_i2l S dL_phaseOf_7 (n := 8) rfl ?_
  refine k_last S dL_phaseOf_8 (by rw [hn]; decide) rfl (by decide) (n := 9) rfl ?_
  refine k_goto S dL_phaseOf_9 (tgt := 15) (by decide) ?_
  refine k_iconst S dL_phaseOf_15 (v := 0) (by decide) (n := 16) rfl ?_
  exact k_iret S Y dL_phaseOf_16 (by decide) (by decide) rfl (Or.inl ⟨a, μ1, h9, rfl, rfl⟩)
theorem mv_L_phaseOf : zMH yL_phaseOf cL_phaseOf 4 (some .int) [(0, 9, 12, 28)] 3 := ⟨m_497, m_0, m_498, by decide +kernel⟩
set_option maxRecDepth 100000 in
set_option maxHeartbeats 4000000 in
theorem c_L_points {l : Launch} {g : zG} {μ : zM} {p0 : Int32} {RT : Option Value → zM → Prop} {XT : String → zM → Prop} (hn : zn g = 32) (hM : zC l g yX3_points cX3_points 2 (some .int) ({ frames := 7, cells := 1, slots := 6, locals := 103 } : Room) 1 6 [.ref (za g 0), .int p0] μ RT XT) (hT : ∀ v ν, RT v ν → ∃ a, v = some (.int a)) (hE : ∀ E ν, XT E ν → E = "java/lang/IndexOutOfBoundsException") : zCH l g yL_points cL_points 4 (some .int) [(0, 9, 12, 28)] ({ frames := 8, cells := 1, slots := 6, locals := 124 } : Room) 1 6 [.ref (za g 0), .int p0, .ref (za g 31)] μ (fun r ν => (∃ (a : Int32) (μ1 : zM), RT (some (.int a)) μ1 ∧ r = some (.int 0) ∧ ν = zuo μ1 (Int32.toInt64 a)) ∨ (XT "java/lang/IndexOutOfBoundsException" ν ∧ r = some (.int 1))) zNX := by
  refine zCH_of (L0 := [some (.ref (za g 0)), some (.int p0), some (.ref (za g 31)), none]) (by decide) (Nat.le_of_ble_eq_true rfl) rfl ?_
  intro x S Y hxl
  subst hxl
  have hX0 : ∀ (q9 : Addr) (ν : zM), XT "java/lang/IndexOutOfBoundsException" ν → zK x g ({ frames := 8, cells := 1, slots := 6, locals := 124 } : Room) 4 1 6 12 [some (.ref (za g 0)), some (.int p0), some (.ref (za g 31)), none] [.ref q9] ν := by
    intro q9 ν h9
    refine k_astore3 S dL_points_12 (by decide) rfl (n := 13) rfl ?_
    refine k_iconst S dL_points_13 (v := 1) (by decide) (n := 14) rfl ?_
    exact k_iret S Y dL_points_14 (by decide) (by decide) rfl (Or.inr (⟨h9, rfl⟩))
  have hKX : ∀ (E9 : String) (ν9 : zM), XT E9 ν9 → zKX x g ({ frames := 8, cells := 1, slots := 6, locals := 124 } : Room) 4 (0 + 1) (0 + 6) 4 [some (.ref (za g 0)), some (.int p0), some (.ref (za g 31)), none] [.int 0, .ref (za g 31)] E9 ν9 := by
    intro E9 ν9 h9
    have e := hE E9 ν9 h9
    subst e
    exact k_catch S Y (tableOf []) ⟨0, 9, 12, 28⟩ (tableOf []) rfl (fun y hy => absurd hy List.not_mem_nil) (by decide) (by decide) m_434 (by decide +kernel) rfl (fun q9 => hX0 q9 ν9 h9)
  refine k_aload2 S dL_points_0 (n := 1) rfl ?_
  refine k_iconst S dL_points_1 (v := 0) (by decide) (n := 2) rfl ?_
  refine k_aload0 S dL_points_2 (n := 3) rfl ?_
  refine k_iload1 S dL_points_3 (n := 4) rfl ?_
  refine k_callV (As := [.int p0]) (rest := [.int 0, .ref (za g 31)]) (p := 0) S (hM) mv_X3_points m_506 dL_points_4 rfl rfl ⟨by decide, by decide⟩ (zlt S (by decide)) (by decide) (ci := 3) rfl rfl rfl (Nat.le_of_ble_eq_true rfl) ⟨by decide, by decide⟩ (n := 7) rfl hKX (fun v9 μ1 h9 => ?_)
  obtain ⟨a, e1⟩ := hT _ _ h9
  subst e1
  show zK x g ({ frames := 8, cells := 1, slots := 6, locals := 124 } : Room) 4 1 6 7 [some (.ref (za g 0)), some (.int p0), some (.ref (za g 31)), none] [.int a, .int 0, .ref (za g 31)] μ1
  refine k_i2l S dL_points_7 (n := 8) rfl ?_
  refine k_last S dL_points_8 (by rw [hn]; decide) rfl (by decide) (n := 9) rfl ?_
  refine k_goto S dL_points_9 (tgt := 15) (by decide) ?_
  refine k_iconst S dL_points_15 (v := 0) (by decide) (n := 16) rfl ?_
  exact k_iret S Y dL_points_16 (by decide) (by decide) rfl (Or.inl ⟨a, μ1, h9, rfl, rfl⟩)
theorem mv_L_points : zMH yL_points cL_points 4 (some .int) [(0, 9, 12, 28)] 3 := ⟨m_504, m_0, m_505, by decide +kernel⟩
set_option maxRecDepth 100000 in
set_option maxHeartbeats 4000000 in
theorem c_L_center {l : Launch} {g : zG} {μ : zM} {p0 : Int32} {RT : Option Value → zM → Prop} {XT : String → zM → Prop} (hn : zn g = 32) (hM : zC l g yX3_center cX3_center 2 (some .int) ({ frames := 8, cells := 2, slots := 12, locals := 125 } : Room) 2 12 [.ref (za g 0), .int p0] μ RT XT) (hT : ∀ v ν, RT v ν → ∃ a, v = some (.int a)) (hE : ∀ E ν, XT E ν → E = "java/lang/IndexOutOfBoundsException" ∨ E = "java/lang/IllegalStateException") : zCH l g yL_center cL_center 4 (some .int) [(0, 9, 12, 28), (0, 9, 15, 19)] ({ frames := 9, cells := 2, slots := 12, locals := 146 } : Room) 2 12 [.ref (za g 0), .int p0, .ref (za g 31)] μ (fun r ν => (∃ (a : Int32) (μ1 : zM), RT (some (.int a)) μ1 ∧ r = some (.int 0) ∧ ν = zuo μ1 (Int32.toInt64 a)) ∨ (XT "java/lang/IndexOutOfBoundsException" ν ∧ r = some (.int 1)) ∨ (XT "java/lang/IllegalStateException" ν ∧ r = some (.int 2))) zNX := by
  refine zCH_of (L0 := [some (.ref (za g 0)), some (.int p0), some (.ref (za g 31)), none]) (by decide) (Nat.le_of_ble_eq_true rfl) rfl ?_
  intro x S Y hxl
  subst hxl
  have hX0 : ∀ (q9 : Addr) (ν : zM), XT "java/lang/IndexOutOfBoundsException" ν → zK x g ({ frames := 9, cells := 2, slots := 12, locals := 146 } : Room) 4 2 12 12 [some (.ref (za g 0)), some (.int p0), some (.ref (za g 31)), none] [.ref q9] ν := by
    intro q9 ν h9
    refine k_astore3 S dL_center_12 (by decide) rfl (n := 13) rfl ?_
    refine k_iconst S dL_center_13 (v := 1) (by decide) (n := 14) rfl ?_
    exact k_iret S Y dL_center_14 (by decide) (by decide) rfl (Or.inr (Or.inl ⟨h9, rfl⟩))
  have hX1 : ∀ (q9 : Addr) (ν : zM), XT "java/lang/IllegalStateException" ν → zK x g ({ frames := 9, cells := 2, slots := 12, locals := 146 } : Room) 4 2 12 15 [some (.ref (za g 0)), some (.int p0), some (.ref (za g 31)), none] [.ref q9] ν := by
    intro q9 ν h9
    refine k_astore3 S dL_center_15 (by decide) rfl (n := 16) rfl ?_
    refine k_iconst S dL_center_16 (v := 2) (by decide) (n := 17) rfl ?_
    exact k_iret S Y dL_center_17 (by decide) (by decide) rfl (Or.inr (Or.inr (⟨h9, rfl⟩)))
  have hKX : ∀ (E9 : String) (ν9 : zM), XT E9 ν9 → zKX x g ({ frames := 9, cells := 2, slots := 12, locals := 146 } : Room) 4 (0 + 2) (0 + 12) 4 [some (.ref (za g 0)), some (.int p0), some (.ref (za g 31)), none] [.int 0, .ref (za g 31)] E9 ν9 := by
    intro E9 ν9 h9
    rcases hE E9 ν9 h9 with e | e
    · subst e
      exact k_catch S Y (tableOf []) ⟨0, 9, 12, 28⟩ (tableOf [(0, 9, 15, 19)]) rfl (fun y hy => absurd hy List.not_mem_nil) (by decide) (by decide) m_434 (by decide +kernel) rfl (fun q9 => hX0 q9 ν9 h9)
    · subst e
      exact k_catch S Y (tableOf [(0, 9, 12, 28)]) ⟨0, 9, 15, 19⟩ (tableOf []) rfl (fun y hy => by simp only [tableOf, List.map, List.mem_cons, List.not_mem_nil, or_false] at hy; have e := hy; subst e <;> first | exact ⟨by decide, "java/lang/IndexOutOfBoundsException", m_434, by decide⟩) (by decide) (by decide) m_350 (by decide +kernel) rfl (fun q9 => hX1 q9 ν9 h9)
  refine k_aload2 S dL_center_0 (n := 1) rfl ?_
  refine k_iconst S dL_center_1 (v := 0) (by decide) (n := 2) rfl ?_
  refine k_aload0 S dL_center_2 (n := 3) rfl ?_
  refine k_iload1 S dL_center_3 (n := 4) rfl ?_
  refine k_callV (As := [.int p0]) (rest := [.int 0, .ref (za g 31)]) (p := 0) S (hM) mv_X3_center m_513 dL_center_4 rfl rfl ⟨by decide, by decide⟩ (zlt S (by decide)) (by decide) (ci := 3) rfl rfl rfl (Nat.le_of_ble_eq_true rfl) ⟨by decide, by decide⟩ (n := 7) rfl hKX (fun v9 μ1 h9 => ?_)
  obtain ⟨a, e1⟩ := hT _ _ h9
  subst e1
  show zK x g ({ frames := 9, cells := 2, slots := 12, locals := 146 } : Room) 4 2 12 7 [some (.ref (za g 0)), some (.int p0), some (.ref (za g 31)), none] [.int a, .int 0, .ref (za g 31)] μ1
  refine k_i2l S dL_center_7 (n := 8) rfl ?_
  refine k_last S dL_center_8 (by rw [hn]; decide) rfl (by decide) (n := 9) rfl ?_
  refine k_goto S dL_center_9 (tgt := 18) (by decide) ?_
  refine k_iconst S dL_center_18 (v := 0) (by decide) (n := 19) rfl ?_
  exact k_iret S Y dL_center_19 (by decide) (by decide) rfl (Or.inl ⟨a, μ1, h9, rfl, rfl⟩)
theorem mv_L_center : zMH yL_center cL_center 4 (some .int) [(0, 9, 12, 28), (0, 9, 15, 19)] 3 := ⟨m_511, m_0, m_512, by decide +kernel⟩
set_option maxRecDepth 100000 in
set_option maxHeartbeats 4000000 in
theorem c_L_width {l : Launch} {g : zG} {μ : zM} {p0 : Int32} {RT : Option Value → zM → Prop} {XT : String → zM → Prop} (hn : zn g = 32) (hM : zC l g yX3_width cX3_width 2 (some .int) ({ frames := 8, cells := 2, slots := 12, locals := 125 } : Room) 2 12 [.ref (za g 0), .int p0] μ RT XT) (hT : ∀ v ν, RT v ν → ∃ a, v = some (.int a)) (hE : ∀ E ν, XT E ν → E = "java/lang/IndexOutOfBoundsException" ∨ E = "java/lang/IllegalStateException") : zCH l g yL_width cL_width 4 (some .int) [(0, 9, 12, 28), (0, 9, 15, 19)] ({ frames := 9, cells := 2, slots := 12, locals := 146 } : Room) 2 12 [.ref (za g 0), .int p0, .ref (za g 31)] μ (fun r ν => (∃ (a : Int32) (μ1 : zM), RT (some (.int a)) μ1 ∧ r = some (.int 0) ∧ ν = zuo μ1 (Int32.toInt64 a)) ∨ (XT "java/lang/IndexOutOfBoundsException" ν ∧ r = some (.int 1)) ∨ (XT "java/lang/IllegalStateException" ν ∧ r = some (.int 2))) zNX := by
  refine zCH_of (L0 := [some (.ref (za g 0)), some (.int p0), some (.ref (za g 31)), none]) (by decide) (Nat.le_of_ble_eq_true rfl) rfl ?_
  intro x S Y hxl
  subst hxl
  have hX0 : ∀ (q9 : Addr) (ν : zM), XT "java/lang/IndexOutOfBoundsException" ν → zK x g ({ frames := 9, cells := 2, slots := 12, locals := 146 } : Room) 4 2 12 12 [some (.ref (za g 0)), some (.int p0), some (.ref (za g 31)), none] [.ref q9] ν := by
    intro q9 ν h9
    refine k_astore3 S dL_width_12 (by decide) rfl (n := 13) rfl ?_
    refine k_iconst S dL_width_13 (v := 1) (by decide) (n := 14) rfl ?_
    exact k_iret S Y dL_width_14 (by decide) (by decide) rfl (Or.inr (Or.inl ⟨h9, rfl⟩))
  have hX1 : ∀ (q9 : Addr) (ν : zM), XT "java/lang/IllegalStateException" ν → zK x g ({ frames := 9, cells := 2, slots := 12, locals := 146 } : Room) 4 2 12 15 [some (.ref (za g 0)), some (.int p0), some (.ref (za g 31)), none] [.ref q9] ν := by
    intro q9 ν h9
    refine k_astore3 S dL_width_15 (by decide) rfl (n := 16) rfl ?_
    refine k_iconst S dL_width_16 (v := 2) (by decide) (n := 17) rfl ?_
    exact k_iret S Y dL_width_17 (by decide) (by decide) rfl (Or.inr (Or.inr (⟨h9, rfl⟩)))
  have hKX : ∀ (E9 : String) (ν9 : zM), XT E9 ν9 → zKX x g ({ frames := 9, cells := 2, slots := 12, locals := 146 } : Room) 4 (0 + 2) (0 + 12) 4 [some (.ref (za g 0)), some (.int p0), some (.ref (za g 31)), none] [.int 0, .ref (za g 31)] E9 ν9 := by
    intro E9 ν9 h9
    rcases hE E9 ν9 h9 with e | e
    · subst e
      exact k_catch S Y (tableOf []) ⟨0, 9, 12, 28⟩ (tableOf [(0, 9, 15, 19)]) rfl (fun y hy => absurd hy List.not_mem_nil) (by decide) (by decide) m_434 (by decide +kernel) rfl (fun q9 => hX0 q9 ν9 h9)
    · subst e
      exact k_catch S Y (tableOf [(0, 9, 12, 28)]) ⟨0, 9, 15, 19⟩ (tableOf []) rfl (fun y hy => by simp only [tableOf, List.map, List.mem_cons, List.not_mem_nil, or_false] at hy; have e := hy; subst e <;> first | exact ⟨by decide, "java/lang/IndexOutOfBoundsException", m_434, by decide⟩) (by decide) (by decide) m_350 (by decide +kernel) rfl (fun q9 => hX1 q9 ν9 h9)
  refine k_aload2 S dL_width_0 (n := 1) rfl ?_
  refine k_iconst S dL_width_1 (v := 0) (by decide) (n := 2) rfl ?_
  refine k_aload0 S dL_width_2 (n := 3) rfl ?_
  refine k_iload1 S dL_width_3 (n := 4) rfl ?_
  refine k_callV (As := [.int p0]) (rest := [.int 0, .ref (za g 31)]) (p := 0) S (hM) mv_X3_width m_529 dL_width_4 rfl rfl ⟨by decide, by decide⟩ (zlt S (by decide)) (by decide) (ci := 3) rfl rfl rfl (Nat.le_of_ble_eq_true rfl) ⟨by decide, by decide⟩ (n := 7) rfl hKX (fun v9 μ1 h9 => ?_)
  obtain ⟨a, e1⟩ := hT _ _ h9
  subst e1
  show zK x g ({ frames := 9, cells := 2, slots := 12, locals := 146 } : Room) 4 2 12 7 [some (.ref (za g 0)), some (.int p0), some (.ref (za g 31)), none] [.int a, .int 0, .ref (za g 31)] μ1
  refine k_i2l S dL_width_7 (n := 8) rfl ?_
  refine k_last S dL_width_8 (by rw [hn]; decide) rfl (by decide) (n := 9) rfl ?_
  refine k_goto S dL_width_9 (tgt := 18) (by decide) ?_
  refine k_iconst S dL_width_18 (v := 0) (by decide) (n := 19) rfl ?_
  exact k_iret S Y dL_width_19 (by decide) (by decide) rfl (Or.inl ⟨a, μ1, h9, rfl, rfl⟩)
theorem mv_L_width : zMH yL_width cL_width 4 (some .int) [(0, 9, 12, 28), (0, 9, 15, 19)] 3 := ⟨m_527, m_0, m_528, by decide +kernel⟩
set_option maxRecDepth 100000 in
set_option maxHeartbeats 4000000 in
theorem c_L_rangeLimit {l : Launch} {g : zG} {μ : zM} {p0 : Int32} {RT : Option Value → zM → Prop} {XT : String → zM → Prop} (hn : zn g = 32) (hM : zC l g yX3_rangeLimit cX3_rangeLimit 2 (some .int) ({ frames := 8, cells := 2, slots := 12, locals := 125 } : Room) 2 12 [.ref (za g 0), .int p0] μ RT XT) (hT : ∀ v ν, RT v ν → ∃ a, v = some (.int a)) (hE : ∀ E ν, XT E ν → E = "java/lang/IndexOutOfBoundsException" ∨ E = "java/lang/IllegalStateException") : zCH l g yL_rangeLimit cL_rangeLimit 4 (some .int) [(0, 9, 12, 28), (0, 9, 15, 19)] ({ frames := 9, cells := 2, slots := 12, locals := 146 } : Room) 2 12 [.ref (za g 0), .int p0, .ref (za g 31)] μ (fun r ν => (∃ (a : Int32) (μ1 : zM), RT (some (.int a)) μ1 ∧ r = some (.int 0) ∧ ν = zuo μ1 (Int32.toInt64 a)) ∨ (XT "java/lang/IndexOutOfBoundsException" ν ∧ r = some (.int 1)) ∨ (XT "java/lang/IllegalStateException" ν ∧ r = some (.int 2))) zNX := by
  refine zCH_of (L0 := [some (.ref (za g 0)), some (.int p0), some (.ref (za g 31)), none]) (by decide) (Nat.le_of_ble_eq_true rfl) rfl ?_
  intro x S Y hxl
  subst hxl
  have hX0 : ∀ (q9 : Addr) (ν : zM), XT "java/lang/IndexOutOfBoundsException" ν → zK x g ({ frames := 9, cells := 2, slots := 12, locals := 146 } : Room) 4 2 12 12 [some (.ref (za g 0)), some (.int p0), some (.ref (za g 31)), none] [.ref q9] ν := by
    intro q9 ν h9
    refine k_astore3 S dL_rangeLimit_12 (by decide) rfl (n := 13) rfl ?_
    refine k_iconst S dL_rangeLimit_13 (v := 1) (by decide) (n := 14) rfl ?_
    exact k_iret S Y dL_rangeLimit_14 (by decide) (by decide) rfl (Or.inr (Or.inl ⟨h9, rfl⟩))
  have hX1 : ∀ (q9 : Addr) (ν : zM), XT "java/lang/IllegalStateException" ν → zK x g ({ frames := 9, cells := 2, slots := 12, locals := 146 } : Room) 4 2 12 15 [some (.ref (za g 0)), some (.int p0), some (.ref (za g 31)), none] [.ref q9] ν := by
    intro q9 ν h9
    refine k_astore3 S dL_rangeLimit_15 (by decide) rfl (n := 16) rfl ?_
    refine k_iconst S dL_rangeLimit_16 (v := 2) (by decide) (n := 17) rfl ?_
    exact k_iret S Y dL_rangeLimit_17 (by decide) (by decide) rfl (Or.inr (Or.inr (⟨h9, rfl⟩)))
  have hKX : ∀ (E9 : String) (ν9 : zM), XT E9 ν9 → zKX x g ({ frames := 9, cells := 2, slots := 12, locals := 146 } : Room) 4 (0 + 2) (0 + 12) 4 [some (.ref (za g 0)), some (.int p0), some (.ref (za g 31)), none] [.int 0, .ref (za g 31)] E9 ν9 := by
    intro E9 ν9 h9
    rcases hE E9 ν9 h9 with e | e
    · subst e
      exact k_catch S Y (tableOf []) ⟨0, 9, 12, 28⟩ (tableOf [(0, 9, 15, 19)]) rfl (fun y hy => absurd hy List.not_mem_nil) (by decide) (by decide) m_434 (by decide +kernel) rfl (fun q9 => hX0 q9 ν9 h9)
    · subst e
      exact k_catch S Y (tableOf [(0, 9, 12, 28)]) ⟨0, 9, 15, 19⟩ (tableOf []) rfl (fun y hy => by simp only [tableOf, List.map, List.mem_cons, List.not_mem_nil, or_false] at hy; have e := hy; subst e <;> first | exact ⟨by decide, "java/lang/IndexOutOfBoundsException", m_434, by decide⟩) (by decide) (by decide) m_350 (by decide +kernel) rfl (fun q9 => hX1 q9 ν9 h9)
  refine k_aload2 S dL_rangeLimit_0 (n := 1) rfl ?_
  refine k_iconst S dL_rangeLimit_1 (v := 0) (by decide) (n := 2) rfl ?_
  refine k_aload0 S dL_rangeLimit_2 (n := 3) rfl ?_
  refine k_iload1 S dL_rangeLimit_3 (n := 4) rfl ?_
  refine k_callV (As := [.int p0]) (rest := [.int 0, .ref (za g 31)]) (p := 0) S (hM) mv_X3_rangeLimit m_536 dL_rangeLimit_4 rfl rfl ⟨by decide, by decide⟩ (zlt S (by decide)) (by decide) (ci := 3) rfl rfl rfl (Nat.le_of_ble_eq_true rfl) ⟨by decide, by decide⟩ (n := 7) rfl hKX (fun v9 μ1 h9 => ?_)
  obtain ⟨a, e1⟩ := hT _ _ h9
  subst e1
  show zK x g ({ frames := 9, cells := 2, slots := 12, locals := 146 } : Room) 4 2 12 7 [some (.ref (za g 0)), some (.int p0), some (.ref (za g 31)), none] [.int a, .int 0, .ref (za g 31)] μ1
  refine k_i2l S dL_rangeLimit_7 (n := 8) rfl ?_
  refine k_last S dL_rangeLimit_8 (by rw [hn]; decide) rfl (by decide) (n := 9) rfl ?_
  refine k_goto S dL_rangeLimit_9 (tgt := 18) (by decide) ?_
  refine k_iconst S dL_rangeLimit_18 (v := 0) (by decide) (n := 19) rfl ?_
  exact k_iret S Y dL_rangeLimit_19 (by decide) (by decide) rfl (Or.inl ⟨a, μ1, h9, rfl, rfl⟩)
theorem mv_L_rangeLimit : zMH yL_rangeLimit cL_rangeLimit 4 (some .int) [(0, 9, 12, 28), (0, 9, 15, 19)] 3 := ⟨m_534, m_0, m_535, by decide +kernel⟩
set_option maxRecDepth 100000 in
set_option maxHeartbeats 4000000 in
theorem c_L_signals {l : Launch} {g : zG} {μ : zM} {p0 : Int32} {RT : Option Value → zM → Prop} {XT : String → zM → Prop} (hn : zn g = 32) (hM : zC l g yX3_signals cX3_signals 4 (some .int) ({ frames := 7, cells := 1, slots := 6, locals := 103 } : Room) 1 6 [.ref (za g 0), .int p0] μ RT XT) (hT : ∀ v ν, RT v ν → ∃ a, v = some (.int a)) (hE : ∀ E ν, XT E ν → E = "java/lang/IndexOutOfBoundsException") : zCH l g yL_signals cL_signals 4 (some .int) [(0, 9, 12, 28)] ({ frames := 8, cells := 1, slots := 6, locals := 126 } : Room) 1 6 [.ref (za g 0), .int p0, .ref (za g 31)] μ (fun r ν => (∃ (a : Int32) (μ1 : zM), RT (some (.int a)) μ1 ∧ r = some (.int 0) ∧ ν = zuo μ1 (Int32.toInt64 a)) ∨ (XT "java/lang/IndexOutOfBoundsException" ν ∧ r = some (.int 1))) zNX := by
  refine zCH_of (L0 := [some (.ref (za g 0)), some (.int p0), some (.ref (za g 31)), none]) (by decide) (Nat.le_of_ble_eq_true rfl) rfl ?_
  intro x S Y hxl
  subst hxl
  have hX0 : ∀ (q9 : Addr) (ν : zM), XT "java/lang/IndexOutOfBoundsException" ν → zK x g ({ frames := 8, cells := 1, slots := 6, locals := 126 } : Room) 4 1 6 12 [some (.ref (za g 0)), some (.int p0), some (.ref (za g 31)), none] [.ref q9] ν := by
    intro q9 ν h9
    refine k_astore3 S dL_signals_12 (by decide) rfl (n := 13) rfl ?_
    refine k_iconst S dL_signals_13 (v := 1) (by decide) (n := 14) rfl ?_
    exact k_iret S Y dL_signals_14 (by decide) (by decide) rfl (Or.inr (⟨h9, rfl⟩))
  have hKX : ∀ (E9 : String) (ν9 : zM), XT E9 ν9 → zKX x g ({ frames := 8, cells := 1, slots := 6, locals := 126 } : Room) 4 (0 + 1) (0 + 6) 4 [some (.ref (za g 0)), some (.int p0), some (.ref (za g 31)), none] [.int 0, .ref (za g 31)] E9 ν9 := by
    intro E9 ν9 h9
    have e := hE E9 ν9 h9
    subst e
    exact k_catch S Y (tableOf []) ⟨0, 9, 12, 28⟩ (tableOf []) rfl (fun y hy => absurd hy List.not_mem_nil) (by decide) (by decide) m_434 (by decide +kernel) rfl (fun q9 => hX0 q9 ν9 h9)
  refine k_aload2 S dL_signals_0 (n := 1) rfl ?_
  refine k_iconst S dL_signals_1 (v := 0) (by decide) (n := 2) rfl ?_
  refine k_aload0 S dL_signals_2 (n := 3) rfl ?_
  refine k_iload1 S dL_signals_3 (n := 4) rfl ?_
  refine k_callV (As := [.int p0]) (rest := [.int 0, .ref (za g 31)]) (p := 0) S (hM) mv_X3_signals m_543 dL_signals_4 rfl rfl ⟨by decide, by decide⟩ (zlt S (by decide)) (by decide) (ci := 3) rfl rfl rfl (Nat.le_of_ble_eq_true rfl) ⟨by decide, by decide⟩ (n := 7) rfl hKX (fun v9 μ1 h9 => ?_)
  obtain ⟨a, e1⟩ := hT _ _ h9
  subst e1
  show zK x g ({ frames := 8, cells := 1, slots := 6, locals := 126 } : Room) 4 1 6 7 [some (.ref (za g 0)), some (.int p0), some (.ref (za g 31)), none] [.int a, .int 0, .ref (za g 31)] μ1
  refine k_i2l S dL_signals_7 (n := 8) rfl ?_
  refine k_last S dL_signals_8 (by rw [hn]; decide) rfl (by decide) (n := 9) rfl ?_
  refine k_goto S dL_signals_9 (tgt := 15) (by decide) ?_
  refine k_iconst S dL_signals_15 (v := 0) (by decide) (n := 16) rfl ?_
  exact k_iret S Y dL_signals_16 (by decide) (by decide) rfl (Or.inl ⟨a, μ1, h9, rfl, rfl⟩)
theorem mv_L_signals : zMH yL_signals cL_signals 4 (some .int) [(0, 9, 12, 28)] 3 := ⟨m_541, m_0, m_542, by decide +kernel⟩
set_option maxRecDepth 100000 in
set_option maxHeartbeats 4000000 in
theorem c_L_signalsByWindows {l : Launch} {g : zG} {μ : zM} {p0 : Int32} {RT : Option Value → zM → Prop} {XT : String → zM → Prop} (hn : zn g = 32) (hM : zC l g yX3_signalsByWindows cX3_signalsByWindows 5 (some .int) ({ frames := 7, cells := 1, slots := 6, locals := 103 } : Room) 1 6 [.ref (za g 0), .int p0] μ RT XT) (hT : ∀ v ν, RT v ν → ∃ a, v = some (.int a)) (hE : ∀ E ν, XT E ν → E = "java/lang/IndexOutOfBoundsException") : zCH l g yL_signalsByWindows cL_signalsByWindows 4 (some .int) [(0, 9, 12, 28)] ({ frames := 8, cells := 1, slots := 6, locals := 127 } : Room) 1 6 [.ref (za g 0), .int p0, .ref (za g 31)] μ (fun r ν => (∃ (a : Int32) (μ1 : zM), RT (some (.int a)) μ1 ∧ r = some (.int 0) ∧ ν = zuo μ1 (Int32.toInt64 a)) ∨ (XT "java/lang/IndexOutOfBoundsException" ν ∧ r = some (.int 1))) zNX := by
  refine zCH_of (L0 := [some (.ref (za g 0)), some (.int p0), some (.ref (za g 31)), none]) (by decide) (Nat.le_of_ble_eq_true rfl) rfl ?_
  intro x S Y hxl
  subst hxl
  have hX0 : ∀ (q9 : Addr) (ν : zM), XT "java/lang/IndexOutOfBoundsException" ν → zK x g ({ frames := 8, cells := 1, slots := 6, locals := 127 } : Room) 4 1 6 12 [some (.ref (za g 0)), some (.int p0), some (.ref (za g 31)), none] [.ref q9] ν := by
    intro q9 ν h9
    refine k_astore3 S dL_signalsByWindows_12 (by decide) rfl (n := 13) rfl ?_
    refine k_iconst S dL_signalsByWindows_13 (v := 1) (by decide) (n := 14) rfl ?_
    exact k_iret S Y dL_signalsByWindows_14 (by decide) (by decide) rfl (Or.inr (⟨h9, rfl⟩))
  have hKX : ∀ (E9 : String) (ν9 : zM), XT E9 ν9 → zKX x g ({ frames := 8, cells := 1, slots := 6, locals := 127 } : Room) 4 (0 + 1) (0 + 6) 4 [some (.ref (za g 0)), some (.int p0), some (.ref (za g 31)), none] [.int 0, .ref (za g 31)] E9 ν9 := by
    intro E9 ν9 h9
    have e := hE E9 ν9 h9
    subst e
    exact k_catch S Y (tableOf []) ⟨0, 9, 12, 28⟩ (tableOf []) rfl (fun y hy => absurd hy List.not_mem_nil) (by decide) (by decide) m_434 (by decide +kernel) rfl (fun q9 => hX0 q9 ν9 h9)
  refine k_aload2 S dL_signalsByWindows_0 (n := 1) rfl ?_
  refine k_iconst S dL_signalsByWindows_1 (v := 0) (by decide) (n := 2) rfl ?_
  refine k_aload0 S dL_signalsByWindows_2 (n := 3) rfl ?_
  refine k_iload1 S dL_signalsByWindows_3 (n := 4) rfl ?_
  refine k_callV (As := [.int p0]) (rest := [.int 0, .ref (za g 31)]) (p := 0) S (hM) mv_X3_signalsByWindows m_550 dL_signalsByWindows_4 rfl rfl ⟨by decide, by decide⟩ (zlt S (by decide)) (by decide) (ci := 3) rfl rfl rfl (Nat.le_of_ble_eq_true rfl) ⟨by decide, by decide⟩ (n := 7) rfl hKX (fun v9 μ1 h9 => ?_)
  obtain ⟨a, e1⟩ := hT _ _ h9
  subst e1
  show zK x g ({ frames := 8, cells := 1, slots := 6, locals := 127 } : Room) 4 1 6 7 [some (.ref (za g 0)), some (.int p0), some (.ref (za g 31)), none] [.int a, .int 0, .ref (za g 31)] μ1
  refine k_i2l S dL_signalsByWindows_7 (n := 8) rfl ?_
  refine k_last S dL_signalsByWindows_8 (by rw [hn]; decide) rfl (by decide) (n := 9) rfl ?_
  refine k_goto S dL_signalsByWindows_9 (tgt := 15) (by decide) ?_
  refine k_iconst S dL_signalsByWindows_15 (v := 0) (by decide) (n := 16) rfl ?_
  exact k_iret S Y dL_signalsByWindows_16 (by decide) (by decide) rfl (Or.inl ⟨a, μ1, h9, rfl, rfl⟩)
theorem mv_L_signalsByWindows : zMH yL_signalsByWindows cL_signalsByWindows 4 (some .int) [(0, 9, 12, 28)] 3 := ⟨m_548, m_0, m_549, by decide +kernel⟩
set_option maxRecDepth 100000 in
set_option maxHeartbeats 4000000 in
theorem c_L_firstOf {l : Launch} {g : zG} {μ : zM} {p0 p1 : Int32} {RT : Option Value → zM → Prop} {XT : String → zM → Prop} (hn : zn g = 32) (hM : zC l g yX3_firstOf cX3_firstOf 4 (some .int) ({ frames := 7, cells := 2, slots := 12, locals := 103 } : Room) 2 12 [.ref (za g 0), .int p0, .int p1] μ RT XT) (hT : ∀ v ν, RT v ν → ∃ a, v = some (.int a)) (hE : ∀ E ν, XT E ν → E = "java/lang/IndexOutOfBoundsException") : zCH l g yL_firstOf cL_firstOf 5 (some .int) [(0, 10, 13, 28)] ({ frames := 8, cells := 2, slots := 12, locals := 126 } : Room) 2 12 [.ref (za g 0), .int p0, .int p1, .ref (za g 31)] μ (fun r ν => (∃ (a : Int32) (μ1 : zM), RT (some (.int a)) μ1 ∧ r = some (.int 0) ∧ ν = zuo μ1 (Int32.toInt64 a)) ∨ (XT "java/lang/IndexOutOfBoundsException" ν ∧ r = some (.int 1))) zNX := by
  refine zCH_of (L0 := [some (.ref (za g 0)), some (.int p0), some (.int p1), some (.ref (za g 31)), none]) (by decide) (Nat.le_of_ble_eq_true rfl) rfl ?_
  intro x S Y hxl
  subst hxl
  have hX0 : ∀ (q9 : Addr) (ν : zM), XT "java/lang/IndexOutOfBoundsException" ν → zK x g ({ frames := 8, cells := 2, slots := 12, locals := 126 } : Room) 5 2 12 13 [some (.ref (za g 0)), some (.int p0), some (.int p1), some (.ref (za g 31)), none] [.ref q9] ν := by
    intro q9 ν h9
    refine k_astore4 S dL_firstOf_13 (by decide) rfl (n := 15) rfl ?_
    refine k_iconst S dL_firstOf_15 (v := 1) (by decide) (n := 16) rfl ?_
    exact k_iret S Y dL_firstOf_16 (by decide) (by decide) rfl (Or.inr (⟨h9, rfl⟩))
  have hKX : ∀ (E9 : String) (ν9 : zM), XT E9 ν9 → zKX x g ({ frames := 8, cells := 2, slots := 12, locals := 126 } : Room) 5 (0 + 2) (0 + 12) 5 [some (.ref (za g 0)), some (.int p0), some (.int p1), some (.ref (za g 31)), none] [.int 0, .ref (za g 31)] E9 ν9 := by
    intro E9 ν9 h9
    have e := hE E9 ν9 h9
    subst e
    exact k_catch S Y (tableOf []) ⟨0, 10, 13, 28⟩ (tableOf []) rfl (fun y hy => absurd hy List.not_mem_nil) (by decide) (by decide) m_434 (by decide +kernel) rfl (fun q9 => hX0 q9 ν9 h9)
  refine k_aload3 S dL_firstOf_0 (n := 1) rfl ?_
  refine k_iconst S dL_firstOf_1 (v := 0) (by decide) (n := 2) rfl ?_
  refine k_aload0 S dL_firstOf_2 (n := 3) rfl ?_
  refine k_iload1 S dL_firstOf_3 (n := 4) rfl ?_
  refine k_iload2 S dL_firstOf_4 (n := 5) rfl ?_
  refine k_callV (As := [.int p0, .int p1]) (rest := [.int 0, .ref (za g 31)]) (p := 0) S (hM) mv_X3_firstOf m_602 dL_firstOf_5 rfl rfl ⟨by decide, by decide⟩ (zlt S (by decide)) (by decide) (ci := 3) rfl rfl rfl (Nat.le_of_ble_eq_true rfl) ⟨by decide, by decide⟩ (n := 8) rfl hKX (fun v9 μ1 h9 => ?_)
  obtain ⟨a, e1⟩ := hT _ _ h9
  subst e1
  show zK x g ({ frames := 8, cells := 2, slots := 12, locals := 126 } : Room) 5 2 12 8 [some (.ref (za g 0)), some (.int p0), some (.int p1), some (.ref (za g 31)), none] [.int a, .int 0, .ref (za g 31)] μ1
  refine k_i2l S dL_firstOf_8 (n := 9) rfl ?_
  refine k_last S dL_firstOf_9 (by rw [hn]; decide) rfl (by decide) (n := 10) rfl ?_
  refine k_goto S dL_firstOf_10 (tgt := 17) (by decide) ?_
  refine k_iconst S dL_firstOf_17 (v := 0) (by decide) (n := 18) rfl ?_
  exact k_iret S Y dL_firstOf_18 (by decide) (by decide) rfl (Or.inl ⟨a, μ1, h9, rfl, rfl⟩)
theorem mv_L_firstOf : zMH yL_firstOf cL_firstOf 5 (some .int) [(0, 10, 13, 28)] 4 := ⟨m_600, m_0, m_601, by decide +kernel⟩
set_option maxRecDepth 100000 in
set_option maxHeartbeats 4000000 in
theorem c_L_isWide {l : Launch} {g : zG} {μ : zM} {p0 : Int32} {RT : Option Value → zM → Prop} {XT : String → zM → Prop} (hn : zn g = 32) (hM : zC l g yX3_isWide cX3_isWide 2 (some .boolean) ({ frames := 7, cells := 1, slots := 6, locals := 103 } : Room) 1 6 [.ref (za g 0), .int p0] μ RT XT) (hT : ∀ v ν, RT v ν → ∃ a, v = some (.int a)) (hE : ∀ E ν, XT E ν → E = "java/lang/IndexOutOfBoundsException") : zCH l g yL_isWide cL_isWide 4 (some .int) [(0, 16, 19, 28)] ({ frames := 8, cells := 1, slots := 6, locals := 124 } : Room) 1 6 [.ref (za g 0), .int p0, .ref (za g 31)] μ (fun r ν => (∃ (a : Int32) (μ1 : zM), RT (some (.int a)) μ1 ∧ r = some (.int 0) ∧ ν = zuo μ1 (if a = 0 then (0 : Int64) else (1 : Int64))) ∨ (XT "java/lang/IndexOutOfBoundsException" ν ∧ r = some (.int 1))) zNX := by
  refine zCH_of (L0 := [some (.ref (za g 0)), some (.int p0), some (.ref (za g 31)), none]) (by decide) (Nat.le_of_ble_eq_true rfl) rfl ?_
  intro x S Y hxl
  subst hxl
  have hX0 : ∀ (q9 : Addr) (ν : zM), XT "java/lang/IndexOutOfBoundsException" ν → zK x g ({ frames := 8, cells := 1, slots := 6, locals := 124 } : Room) 4 1 6 19 [some (.ref (za g 0)), some (.int p0), some (.ref (za g 31)), none] [.ref q9] ν := by
    intro q9 ν h9
    refine k_astore3 S dL_isWide_19 (by decide) rfl (n := 20) rfl ?_
    refine k_iconst S dL_isWide_20 (v := 1) (by decide) (n := 21) rfl ?_
    exact k_iret S Y dL_isWide_21 (by decide) (by decide) rfl (Or.inr (⟨h9, rfl⟩))
  have hKX : ∀ (E9 : String) (ν9 : zM), XT E9 ν9 → zKX x g ({ frames := 8, cells := 1, slots := 6, locals := 124 } : Room) 4 (0 + 1) (0 + 6) 4 [some (.ref (za g 0)), some (.int p0), some (.ref (za g 31)), none] [.int 0, .ref (za g 31)] E9 ν9 := by
    intro E9 ν9 h9
    have e := hE E9 ν9 h9
    subst e
    exact k_catch S Y (tableOf []) ⟨0, 16, 19, 28⟩ (tableOf []) rfl (fun y hy => absurd hy List.not_mem_nil) (by decide) (by decide) m_434 (by decide +kernel) rfl (fun q9 => hX0 q9 ν9 h9)
  refine k_aload2 S dL_isWide_0 (n := 1) rfl ?_
  refine k_iconst S dL_isWide_1 (v := 0) (by decide) (n := 2) rfl ?_
  refine k_aload0 S dL_isWide_2 (n := 3) rfl ?_
  refine k_iload1 S dL_isWide_3 (n := 4) rfl ?_
  refine k_callV (As := [.int p0]) (rest := [.int 0, .ref (za g 31)]) (p := 0) S (hM) mv_X3_isWide m_615 dL_isWide_4 rfl rfl ⟨by decide, by decide⟩ (zlt S (by decide)) (by decide) (ci := 3) rfl rfl rfl (Nat.le_of_ble_eq_true rfl) ⟨by decide, by decide⟩ (n := 7) rfl hKX (fun v9 μ1 h9 => ?_)
  obtain ⟨a, e1⟩ := hT _ _ h9
  subst e1
  show zK x g ({ frames := 8, cells := 1, slots := 6, locals := 124 } : Room) 4 1 6 7 [some (.ref (za g 0)), some (.int p0), some (.ref (za g 31)), none] [.int a, .int 0, .ref (za g 31)] μ1
  have hJ2 : zK x g ({ frames := 8, cells := 1, slots := 6, locals := 124 } : Room) 4 1 6 15 [some (.ref (za g 0)), some (.int p0), some (.ref (za g 31)), none] [.long ((if a = 0 then (0 : Int64) else (1 : Int64))), .int 0, .ref (za g 31)] μ1 := by
    refine k_last S dL_isWide_15 (by rw [hn]; decide) rfl (by decide) (n := 16) rfl ?_
    refine k_goto S dL_isWide_16 (tgt := 22) (by decide) ?_
    refine k_iconst S dL_isWide_22 (v := 0) (by decide) (n := 23) rfl ?_
    exact k_iret S Y dL_isWide_23 (by decide) (by decide) rfl (Or.inl ⟨a, μ1, h9, rfl, rfl⟩)
  refine k_if_eq S dL_isWide_7 (tgt := 14) (by decide) (n := 10) rfl (fun c1 => ?_) (fun c1 => ?_)
  ·
    refine k_lconst S dL_isWide_14 (v := 0) (by decide) (n := 15) rfl ?_
    rw [if_pos c1] at hJ2
    exact hJ2
  ·
    refine k_lconst S dL_isWide_10 (v := 1) (by decide) (n := 11) rfl ?_
    refine k_goto S dL_isWide_11 (tgt := 15) (by decide) ?_
    rw [if_neg c1] at hJ2
    exact hJ2
theorem mv_L_isWide : zMH yL_isWide cL_isWide 4 (some .int) [(0, 16, 19, 28)] 3 := ⟨m_613, m_0, m_614, by decide +kernel⟩
set_option maxRecDepth 100000 in
set_option maxHeartbeats 4000000 in
theorem c_L_setWeight {l : Launch} {g : zG} {μ : zM} {p0 : Int32} {RT : Option Value → zM → Prop} {XT : String → zM → Prop} (hn : zn g = 32) (hM : zC l g yX3_setWeight cX3_setWeight 3 (some .int) ({ frames := 6, cells := 1, slots := 6, locals := 82 } : Room) 1 6 [.ref (za g 0), .int p0] μ RT XT) (hT : ∀ v ν, RT v ν → ∃ a, v = some (.int a)) (hE : ∀ E ν, XT E ν → E = "java/lang/IllegalArgumentException") : zCH l g yL_setWeight cL_setWeight 4 (some .int) [(0, 9, 12, 13)] ({ frames := 7, cells := 1, slots := 6, locals := 104 } : Room) 1 6 [.ref (za g 0), .int p0, .ref (za g 31)] μ (fun r ν => (∃ (a : Int32) (μ1 : zM), RT (some (.int a)) μ1 ∧ r = some (.int 0) ∧ ν = zuo μ1 (Int32.toInt64 a)) ∨ (XT "java/lang/IllegalArgumentException" ν ∧ r = some (.int 1))) zNX := by
  refine zCH_of (L0 := [some (.ref (za g 0)), some (.int p0), some (.ref (za g 31)), none]) (by decide) (Nat.le_of_ble_eq_true rfl) rfl ?_
  intro x S Y hxl
  subst hxl
  have hX0 : ∀ (q9 : Addr) (ν : zM), XT "java/lang/IllegalArgumentException" ν → zK x g ({ frames := 7, cells := 1, slots := 6, locals := 104 } : Room) 4 1 6 12 [some (.ref (za g 0)), some (.int p0), some (.ref (za g 31)), none] [.ref q9] ν := by
    intro q9 ν h9
    refine k_astore3 S dL_setWeight_12 (by decide) rfl (n := 13) rfl ?_
    refine k_iconst S dL_setWeight_13 (v := 1) (by decide) (n := 14) rfl ?_
    exact k_iret S Y dL_setWeight_14 (by decide) (by decide) rfl (Or.inr (⟨h9, rfl⟩))
  have hKX : ∀ (E9 : String) (ν9 : zM), XT E9 ν9 → zKX x g ({ frames := 7, cells := 1, slots := 6, locals := 104 } : Room) 4 (0 + 1) (0 + 6) 4 [some (.ref (za g 0)), some (.int p0), some (.ref (za g 31)), none] [.int 0, .ref (za g 31)] E9 ν9 := by
    intro E9 ν9 h9
    have e := hE E9 ν9 h9
    subst e
    exact k_catch S Y (tableOf []) ⟨0, 9, 12, 13⟩ (tableOf []) rfl (fun y hy => absurd hy List.not_mem_nil) (by decide) (by decide) m_274 (by decide +kernel) rfl (fun q9 => hX0 q9 ν9 h9)
  refine k_aload2 S dL_setWeight_0 (n := 1) rfl ?_
  refine k_iconst S dL_setWeight_1 (v := 0) (by decide) (n := 2) rfl ?_
  refine k_aload0 S dL_setWeight_2 (n := 3) rfl ?_
  refine k_iload1 S dL_setWeight_3 (n := 4) rfl ?_
  refine k_callV (As := [.int p0]) (rest := [.int 0, .ref (za g 31)]) (p := 0) S (hM) mv_X3_setWeight m_622 dL_setWeight_4 rfl rfl ⟨by decide, by decide⟩ (zlt S (by decide)) (by decide) (ci := 3) rfl rfl rfl (Nat.le_of_ble_eq_true rfl) ⟨by decide, by decide⟩ (n := 7) rfl hKX (fun v9 μ1 h9 => ?_)
  obtain ⟨a, e1⟩ := hT _ _ h9
  subst e1
  show zK x g ({ frames := 7, cells := 1, slots := 6, locals := 104 } : Room) 4 1 6 7 [some (.ref (za g 0)), some (.int p0), some (.ref (za g 31)), none] [.int a, .int 0, .ref (za g 31)] μ1
  refine k_i2l S dL_setWeight_7 (n := 8) rfl ?_
  refine k_last S dL_setWeight_8 (by rw [hn]; decide) rfl (by decide) (n := 9) rfl ?_
  refine k_goto S dL_setWeight_9 (tgt := 15) (by decide) ?_
  refine k_iconst S dL_setWeight_15 (v := 0) (by decide) (n := 16) rfl ?_
  exact k_iret S Y dL_setWeight_16 (by decide) (by decide) rfl (Or.inl ⟨a, μ1, h9, rfl, rfl⟩)
theorem mv_L_setWeight : zMH yL_setWeight cL_setWeight 4 (some .int) [(0, 9, 12, 13)] 3 := ⟨m_620, m_0, m_621, by decide +kernel⟩
set_option maxRecDepth 100000 in
set_option maxHeartbeats 4000000 in
theorem c_L_weighted {l : Launch} {g : zG} {μ : zM} {p0 : Int32} {RT : Option Value → zM → Prop} {XT : String → zM → Prop} (hn : zn g = 32) (hM : zC l g yX3_weighted cX3_weighted 5 (some .int) ({ frames := 8, cells := 2, slots := 12, locals := 124 } : Room) 2 12 [.ref (za g 0), .int p0] μ RT XT) (hT : ∀ v ν, RT v ν → ∃ a, v = some (.int a)) (hE : ∀ E ν, XT E ν → E = "java/lang/IndexOutOfBoundsException" ∨ E = "java/lang/IllegalStateException") : zCH l g yL_weighted cL_weighted 4 (some .int) [(0, 9, 12, 28), (0, 9, 15, 19)] ({ frames := 9, cells := 2, slots := 12, locals := 148 } : Room) 2 12 [.ref (za g 0), .int p0, .ref (za g 31)] μ (fun r ν => (∃ (a : Int32) (μ1 : zM), RT (some (.int a)) μ1 ∧ r = some (.int 0) ∧ ν = zuo μ1 (Int32.toInt64 a)) ∨ (XT "java/lang/IndexOutOfBoundsException" ν ∧ r = some (.int 1)) ∨ (XT "java/lang/IllegalStateException" ν ∧ r = some (.int 2))) zNX := by
  refine zCH_of (L0 := [some (.ref (za g 0)), some (.int p0), some (.ref (za g 31)), none]) (by decide) (Nat.le_of_ble_eq_true rfl) rfl ?_
  intro x S Y hxl
  subst hxl
  have hX0 : ∀ (q9 : Addr) (ν : zM), XT "java/lang/IndexOutOfBoundsException" ν → zK x g ({ frames := 9, cells := 2, slots := 12, locals := 148 } : Room) 4 2 12 12 [some (.ref (za g 0)), some (.int p0), some (.ref (za g 31)), none] [.ref q9] ν := by
    intro q9 ν h9
    refine k_astore3 S dL_weighted_12 (by decide) rfl (n := 13) rfl ?_
    refine k_iconst S dL_weighted_13 (v := 1) (by decide) (n := 14) rfl ?_
    exact k_iret S Y dL_weighted_14 (by decide) (by decide) rfl (Or.inr (Or.inl ⟨h9, rfl⟩))
  have hX1 : ∀ (q9 : Addr) (ν : zM), XT "java/lang/IllegalStateException" ν → zK x g ({ frames := 9, cells := 2, slots := 12, locals := 148 } : Room) 4 2 12 15 [some (.ref (za g 0)), some (.int p0), some (.ref (za g 31)), none] [.ref q9] ν := by
    intro q9 ν h9
    refine k_astore3 S dL_weighted_15 (by decide) rfl (n := 16) rfl ?_
    refine k_iconst S dL_weighted_16 (v := 2) (by decide) (n := 17) rfl ?_
    exact k_iret S Y dL_weighted_17 (by decide) (by decide) rfl (Or.inr (Or.inr (⟨h9, rfl⟩)))
  have hKX : ∀ (E9 : String) (ν9 : zM), XT E9 ν9 → zKX x g ({ frames := 9, cells := 2, slots := 12, locals := 148 } : Room) 4 (0 + 2) (0 + 12) 4 [some (.ref (za g 0)), some (.int p0), some (.ref (za g 31)), none] [.int 0, .ref (za g 31)] E9 ν9 := by
    intro E9 ν9 h9
    rcases hE E9 ν9 h9 with e | e
    · subst e
      exact k_catch S Y (tableOf []) ⟨0, 9, 12, 28⟩ (tableOf [(0, 9, 15, 19)]) rfl (fun y hy => absurd hy List.not_mem_nil) (by decide) (by decide) m_434 (by decide +kernel) rfl (fun q9 => hX0 q9 ν9 h9)
    · subst e
      exact k_catch S Y (tableOf [(0, 9, 12, 28)]) ⟨0, 9, 15, 19⟩ (tableOf []) rfl (fun y hy => by simp only [tableOf, List.map, List.mem_cons, List.not_mem_nil, or_false] at hy; have e := hy; subst e <;> first | exact ⟨by decide, "java/lang/IndexOutOfBoundsException", m_434, by decide⟩) (by decide) (by decide) m_350 (by decide +kernel) rfl (fun q9 => hX1 q9 ν9 h9)
  refine k_aload2 S dL_weighted_0 (n := 1) rfl ?_
  refine k_iconst S dL_weighted_1 (v := 0) (by decide) (n := 2) rfl ?_
  refine k_aload0 S dL_weighted_2 (n := 3) rfl ?_
  refine k_iload1 S dL_weighted_3 (n := 4) rfl ?_
  refine k_callV (As := [.int p0]) (rest := [.int 0, .ref (za g 31)]) (p := 0) S (hM) mv_X3_weighted m_630 dL_weighted_4 rfl rfl ⟨by decide, by decide⟩ (zlt S (by decide)) (by decide) (ci := 3) rfl rfl rfl (Nat.le_of_ble_eq_true rfl) ⟨by decide, by decide⟩ (n := 7) rfl hKX (fun v9 μ1 h9 => ?_)
  obtain ⟨a, e1⟩ := hT _ _ h9
  subst e1
  show zK x g ({ frames := 9, cells := 2, slots := 12, locals := 148 } : Room) 4 2 12 7 [some (.ref (za g 0)), some (.int p0), some (.ref (za g 31)), none] [.int a, .int 0, .ref (za g 31)] μ1
  refine k_i2l S dL_weighted_7 (n := 8) rfl ?_
  refine k_last S dL_weighted_8 (by rw [hn]; decide) rfl (by decide) (n := 9) rfl ?_
  refine k_goto S dL_weighted_9 (tgt := 18) (by decide) ?_
  refine k_iconst S dL_weighted_18 (v := 0) (by decide) (n := 19) rfl ?_
  exact k_iret S Y dL_weighted_19 (by decide) (by decide) rfl (Or.inl ⟨a, μ1, h9, rfl, rfl⟩)
theorem mv_L_weighted : zMH yL_weighted cL_weighted 4 (some .int) [(0, 9, 12, 28), (0, 9, 15, 19)] 3 := ⟨m_628, m_0, m_629, by decide +kernel⟩
set_option maxRecDepth 100000 in
set_option maxHeartbeats 4000000 in
theorem c_L_cumulative {l : Launch} {g : zG} {μ : zM} {p0 p1 : Int32} {RT : Option Value → zM → Prop} {XT : String → zM → Prop} (hn : zn g = 32) (hM : zC l g yX3_cumulative cX3_cumulative 8 (some .int) ({ frames := 8, cells := 2, slots := 12, locals := 124 } : Room) 2 12 [.ref (za g 0), .int p0, .int p1] μ RT XT) (hT : ∀ v ν, RT v ν → ∃ a, v = some (.int a)) (hE : ∀ E ν, XT E ν → E = "java/lang/IndexOutOfBoundsException" ∨ E = "java/lang/IllegalStateException") : zCH l g yL_cumulative cL_cumulative 5 (some .int) [(0, 10, 13, 28), (0, 10, 17, 19)] ({ frames := 9, cells := 2, slots := 12, locals := 151 } : Room) 2 12 [.ref (za g 0), .int p0, .int p1, .ref (za g 31)] μ (fun r ν => (∃ (a : Int32) (μ1 : zM), RT (some (.int a)) μ1 ∧ r = some (.int 0) ∧ ν = zuo μ1 (Int32.toInt64 a)) ∨ (XT "java/lang/IndexOutOfBoundsException" ν ∧ r = some (.int 1)) ∨ (XT "java/lang/IllegalStateException" ν ∧ r = some (.int 2))) zNX := by
  refine zCH_of (L0 := [some (.ref (za g 0)), some (.int p0), some (.int p1), some (.ref (za g 31)), none]) (by decide) (Nat.le_of_ble_eq_true rfl) rfl ?_
  intro x S Y hxl
  subst hxl
  have hX0 : ∀ (q9 : Addr) (ν : zM), XT "java/lang/IndexOutOfBoundsException" ν → zK x g ({ frames := 9, cells := 2, slots := 12, locals := 151 } : Room) 5 2 12 13 [some (.ref (za g 0)), some (.int p0), some (.int p1), some (.ref (za g 31)), none] [.ref q9] ν := by
    intro q9 ν h9
    refine k_astore4 S dL_cumulative_13 (by decide) rfl (n := 15) rfl ?_
    refine k_iconst S dL_cumulative_15 (v := 1) (by decide) (n := 16) rfl ?_
    exact k_iret S Y dL_cumulative_16 (by decide) (by decide) rfl (Or.inr (Or.inl ⟨h9, rfl⟩))
  have hX1 : ∀ (q9 : Addr) (ν : zM), XT "java/lang/IllegalStateException" ν → zK x g ({ frames := 9, cells := 2, slots := 12, locals := 151 } : Room) 5 2 12 17 [some (.ref (za g 0)), some (.int p0), some (.int p1), some (.ref (za g 31)), none] [.ref q9] ν := by
    intro q9 ν h9
    refine k_astore4 S dL_cumulative_17 (by decide) rfl (n := 19) rfl ?_
    refine k_iconst S dL_cumulative_19 (v := 2) (by decide) (n := 20) rfl ?_
    exact k_iret S Y dL_cumulative_20 (by decide) (by decide) rfl (Or.inr (Or.inr (⟨h9, rfl⟩)))
  have hKX : ∀ (E9 : String) (ν9 : zM), XT E9 ν9 → zKX x g ({ frames := 9, cells := 2, slots := 12, locals := 151 } : Room) 5 (0 + 2) (0 + 12) 5 [some (.ref (za g 0)), some (.int p0), some (.int p1), some (.ref (za g 31)), none] [.int 0, .ref (za g 31)] E9 ν9 := by
    intro E9 ν9 h9
    rcases hE E9 ν9 h9 with e | e
    · subst e
      exact k_catch S Y (tableOf []) ⟨0, 10, 13, 28⟩ (tableOf [(0, 10, 17, 19)]) rfl (fun y hy => absurd hy List.not_mem_nil) (by decide) (by decide) m_434 (by decide +kernel) rfl (fun q9 => hX0 q9 ν9 h9)
    · subst e
      exact k_catch S Y (tableOf [(0, 10, 13, 28)]) ⟨0, 10, 17, 19⟩ (tableOf []) rfl (fun y hy => by simp only [tableOf, List.map, List.mem_cons, List.not_mem_nil, or_false] at hy; have e := hy; subst e <;> first | exact ⟨by decide, "java/lang/IndexOutOfBoundsException", m_434, by decide⟩) (by decide) (by decide) m_350 (by decide +kernel) rfl (fun q9 => hX1 q9 ν9 h9)
  refine k_aload3 S dL_cumulative_0 (n := 1) rfl ?_
  refine k_iconst S dL_cumulative_1 (v := 0) (by decide) (n := 2) rfl ?_
  refine k_aload0 S dL_cumulative_2 (n := 3) rfl ?_
  refine k_iload1 S dL_cumulative_3 (n := 4) rfl ?_
  refine k_iload2 S dL_cumulative_4 (n := 5) rfl ?_
  refine k_callV (As := [.int p0, .int p1]) (rest := [.int 0, .ref (za g 31)]) (p := 0) S (hM) mv_X3_cumulative m_645 dL_cumulative_5 rfl rfl ⟨by decide, by decide⟩ (zlt S (by decide)) (by decide) (ci := 3) rfl rfl rfl (Nat.le_of_ble_eq_true rfl) ⟨by decide, by decide⟩ (n := 8) rfl hKX (fun v9 μ1 h9 => ?_)
  obtain ⟨a, e1⟩ := hT _ _ h9
  subst e1
  show zK x g ({ frames := 9, cells := 2, slots := 12, locals := 151 } : Room) 5 2 12 8 [some (.ref (za g 0)), some (.int p0), some (.int p1), some (.ref (za g 31)), none] [.int a, .int 0, .ref (za g 31)] μ1
  refine k_i2l S dL_cumulative_8 (n := 9) rfl ?_
  refine k_last S dL_cumulative_9 (by rw [hn]; decide) rfl (by decide) (n := 10) rfl ?_
  refine k_goto S dL_cumulative_10 (tgt := 21) (by decide) ?_
  refine k_iconst S dL_cumulative_21 (v := 0) (by decide) (n := 22) rfl ?_
  exact k_iret S Y dL_cumulative_22 (by decide) (by decide) rfl (Or.inl ⟨a, μ1, h9, rfl, rfl⟩)
theorem mv_L_cumulative : zMH yL_cumulative cL_cumulative 5 (some .int) [(0, 10, 13, 28), (0, 10, 17, 19)] 4 := ⟨m_643, m_0, m_644, by decide +kernel⟩
set_option maxRecDepth 100000 in
set_option maxHeartbeats 4000000 in
theorem c_L_capability {l : Launch} {g : zG} {μ : zM} {p0 p1 p2 p3 : Int32} {RT : Option Value → zM → Prop} {XT : String → zM → Prop} (hn : zn g = 32) (hM : zC l g yX3_capability cX3_capability 12 (some .long) ({ frames := 7, cells := 2, slots := 12, locals := 103 } : Room) 2 12 [.ref (za g 0), .int p0, .int p1, .int p2, .int p3] μ RT XT) (hT : ∀ v ν, RT v ν → ∃ a, v = some (.long a)) (hE : ∀ E ν, XT E ν → E = "java/lang/IndexOutOfBoundsException" ∨ E = "java/lang/IllegalArgumentException" ∨ E = "java/lang/IllegalStateException") : zCH l g yL_capability cL_capability 7 (some .int) [(0, 13, 16, 28), (0, 13, 20, 13), (0, 13, 24, 19)] ({ frames := 8, cells := 2, slots := 12, locals := 134 } : Room) 2 12 [.ref (za g 0), .int p0, .int p1, .int p2, .int p3, .ref (za g 31)] μ (fun r ν => (∃ (a : Int64) (μ1 : zM), RT (some (.long a)) μ1 ∧ r = some (.int 0) ∧ ν = zuo μ1 (a)) ∨ (XT "java/lang/IndexOutOfBoundsException" ν ∧ r = some (.int 1)) ∨ (XT "java/lang/IllegalArgumentException" ν ∧ r = some (.int 2)) ∨ (XT "java/lang/IllegalStateException" ν ∧ r = some (.int 3))) zNX := by
  refine zCH_of (L0 := [some (.ref (za g 0)), some (.int p0), some (.int p1), some (.int p2), some (.int p3), some (.ref (za g 31)), none]) (by decide) (Nat.le_of_ble_eq_true rfl) rfl ?_
  intro x S Y hxl
  subst hxl
  have hX0 : ∀ (q9 : Addr) (ν : zM), XT "java/lang/IndexOutOfBoundsException" ν → zK x g ({ frames := 8, cells := 2, slots := 12, locals := 134 } : Room) 7 2 12 16 [some (.ref (za g 0)), some (.int p0), some (.int p1), some (.int p2), some (.int p3), some (.ref (za g 31)), none] [.ref q9] ν := by
    intro q9 ν h9
    refine k_astore6 S dL_capability_16 (by decide) rfl (n := 18) rfl ?_
    refine k_iconst S dL_capability_18 (v := 1) (by decide) (n := 19) rfl ?_
    exact k_iret S Y dL_capability_19 (by decide) (by decide) rfl (Or.inr (Or.inl ⟨h9, rfl⟩))
  have hX1 : ∀ (q9 : Addr) (ν : zM), XT "java/lang/IllegalArgumentException" ν → zK x g ({ frames := 8, cells := 2, slots := 12, locals := 134 } : Room) 7 2 12 20 [some (.ref (za g 0)), some (.int p0), some (.int p1), some (.int p2), some (.int p3), some (.ref (za g 31)), none] [.ref q9] ν := by
    intro q9 ν h9
    refine k_astore6 S dL_capability_20 (by decide) rfl (n := 22) rfl ?_
    refine k_iconst S dL_capability_22 (v := 2) (by decide) (n := 23) rfl ?_
    exact k_iret S Y dL_capability_23 (by decide) (by decide) rfl (Or.inr (Or.inr (Or.inl ⟨h9, rfl⟩)))
  have hX2 : ∀ (q9 : Addr) (ν : zM), XT "java/lang/IllegalStateException" ν → zK x g ({ frames := 8, cells := 2, slots := 12, locals := 134 } : Room) 7 2 12 24 [some (.ref (za g 0)), some (.int p0), some (.int p1), some (.int p2), some (.int p3), some (.ref (za g 31)), none] [.ref q9] ν := by
    intro q9 ν h9
    refine k_astore6 S dL_capability_24 (by decide) rfl (n := 26) rfl ?_
    refine k_iconst S dL_capability_26 (v := 3) (by decide) (n := 27) rfl ?_
    exact k_iret S Y dL_capability_27 (by decide) (by decide) rfl (Or.inr (Or.inr (Or.inr (⟨h9, rfl⟩))))
  have hKX : ∀ (E9 : String) (ν9 : zM), XT E9 ν9 → zKX x g ({ frames := 8, cells := 2, slots := 12, locals := 134 } : Room) 7 (0 + 2) (0 + 12) 9 [some (.ref (za g 0)), some (.int p0), some (.int p1), some (.int p2), some (.int p3), some (.ref (za g 31)), none] [.int 0, .ref (za g 31)] E9 ν9 := by
    intro E9 ν9 h9
    rcases hE E9 ν9 h9 with e | e | e
    · subst e
      exact k_catch S Y (tableOf []) ⟨0, 13, 16, 28⟩ (tableOf [(0, 13, 20, 13), (0, 13, 24, 19)]) rfl (fun y hy => absurd hy List.not_mem_nil) (by decide) (by decide) m_434 (by decide +kernel) rfl (fun q9 => hX0 q9 ν9 h9)
    · subst e
      exact k_catch S Y (tableOf [(0, 13, 16, 28)]) ⟨0, 13, 20, 13⟩ (tableOf [(0, 13, 24, 19)]) rfl (fun y hy => by simp only [tableOf, List.map, List.mem_cons, List.not_mem_nil, or_false] at hy; have e := hy; subst e <;> first | exact ⟨by decide, "java/lang/IndexOutOfBoundsException", m_434, by decide⟩) (by decide) (by decide) m_274 (by decide +kernel) rfl (fun q9 => hX1 q9 ν9 h9)
    · subst e
      exact k_catch S Y (tableOf [(0, 13, 16, 28), (0, 13, 20, 13)]) ⟨0, 13, 24, 19⟩ (tableOf []) rfl (fun y hy => by simp only [tableOf, List.map, List.mem_cons, List.not_mem_nil, or_false] at hy; rcases hy with e | e <;> subst e <;> first | exact ⟨by decide, "java/lang/IndexOutOfBoundsException", m_434, by decide⟩ | exact ⟨by decide, "java/lang/IllegalArgumentException", m_274, by decide⟩) (by decide) (by decide) m_350 (by decide +kernel) rfl (fun q9 => hX2 q9 ν9 h9)
  refine k_aload5 S dL_capability_0 (n := 2) rfl ?_
  refine k_iconst S dL_capability_2 (v := 0) (by decide) (n := 3) rfl ?_
  refine k_aload0 S dL_capability_3 (n := 4) rfl ?_
  refine k_iload1 S dL_capability_4 (n := 5) rfl ?_
  refine k_iload2 S dL_capability_5 (n := 6) rfl ?_
  refine k_iload3 S dL_capability_6 (n := 7) rfl ?_
  refine k_iload4 S dL_capability_7 (n := 9) rfl ?_
  refine k_callV (As := [.int p0, .int p1, .int p2, .int p3]) (rest := [.int 0, .ref (za g 31)]) (p := 0) S (hM) mv_X3_capability m_652 dL_capability_9 rfl rfl ⟨by decide, by decide⟩ (zlt S (by decide)) (by decide) (ci := 3) rfl rfl rfl (Nat.le_of_ble_eq_true rfl) ⟨by decide, by decide⟩ (n := 12) rfl hKX (fun v9 μ1 h9 => ?_)
  obtain ⟨a, e1⟩ := hT _ _ h9
  subst e1
  show zK x g ({ frames := 8, cells := 2, slots := 12, locals := 134 } : Room) 7 2 12 12 [some (.ref (za g 0)), some (.int p0), some (.int p1), some (.int p2), some (.int p3), some (.ref (za g 31)), none] [.long a, .int 0, .ref (za g 31)] μ1
  refine k_last S dL_capability_12 (by rw [hn]; decide) rfl (by decide) (n := 13) rfl ?_
  refine k_goto S dL_capability_13 (tgt := 28) (by decide) ?_
  refine k_iconst S dL_capability_28 (v := 0) (by decide) (n := 29) rfl ?_
  exact k_iret S Y dL_capability_29 (by decide) (by decide) rfl (Or.inl ⟨a, μ1, h9, rfl, rfl⟩)
theorem mv_L_capability : zMH yL_capability cL_capability 7 (some .int) [(0, 13, 16, 28), (0, 13, 20, 13), (0, 13, 24, 19)] 6 := ⟨m_650, m_0, m_651, by decide +kernel⟩
