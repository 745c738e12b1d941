/-! ONE LAW AN INSTRUCTION, over the world of part 02 -/
abbrev zX : Type := Program × Launch × Env × State × MethodId × Array Value × List Frame × Method × Code × (State → Prop)
abbrev xp (x : zX) : Program := x.1
abbrev xl (x : zX) : Launch := x.2.1
abbrev xe (x : zX) : Env := x.2.2.1
abbrev xs (x : zX) : State := x.2.2.2.1
abbrev xm (x : zX) : MethodId := x.2.2.2.2.1
abbrev xa (x : zX) : Array Value := x.2.2.2.2.2.1
abbrev xb (x : zX) : List Frame := x.2.2.2.2.2.2.1
abbrev xh (x : zX) : Method := x.2.2.2.2.2.2.2.1
abbrev xc (x : zX) : Code := x.2.2.2.2.2.2.2.2.1
abbrev xQ (x : zX) : State → Prop := x.2.2.2.2.2.2.2.2.2
def zl : Nat → List (Option Value) → List (Nat × Value)
  | _, [] => []
  | i, none :: t => zl (i + 1) t
  | i, some v :: t => (i, v) :: zl (i + 1) t
theorem zl_mem : ∀ (L : List (Option Value)) (i j : Nat) (v : Value), (j, v) ∈ zl i L ↔ ∃ k, j = i + k ∧ L[k]? = some (some v)
  | [], i, j, v => by simp [zl]
  | none :: t, i, j, v => by
    rw [zl, zl_mem t (i + 1) j v]
    constructor
    · rintro ⟨k, h1, h2⟩
      exact ⟨k + 1, by omega, by simpa using h2⟩
    · rintro ⟨k, h1, h2⟩
      cases k with
      | zero => simp at h2
      | succ k => exact ⟨k, by omega, by simpa using h2⟩
  | some a :: t, i, j, v => by
    rw [zl, List.mem_cons, zl_mem t (i + 1) j v]
    constructor
    · rintro (h | ⟨k, h1, h2⟩)
      · cases h
        exact ⟨0, by omega, by simp⟩
      · exact ⟨k + 1, by omega, by simpa using h2⟩
    · rintro ⟨k, h1, h2⟩
      cases k with
      | zero => simp at h2; subst h2; exact Or.inl (by rw [h1]; rfl)
      | succ k => exact Or.inr ⟨k, by omega, by simpa using h2⟩
theorem zl_get {ls : Array Slot} {nL : Nat} {L : List (Option Value)} (h : lv_has ls nL (zl 0 L)) {i : Nat} {v : Value} (hi : L[i]? = some (some v)) : ls[i]? = some (.val v) := h.2.2 (i, v) ((zl_mem L 0 i v).mpr ⟨i, by omega, hi⟩)
theorem zl_set1 {ls : Array Slot} {nL : Nat} {L : List (Option Value)} {i : Nat} {v : Value} (hp : ∀ (j : Nat) (u : Value), j + 1 = i → L[j]? = some (some u) → u.category ≠ 2) (h : lv_has ls nL ((i, v) :: (zl 0 L).filter (fun q => !(q.1 == i) && !(q.1 + 1 == i && q.2.category == 2)))) : lv_has ls nL (zl 0 (L.set i (some v))) := by
  refine ⟨h.1, h.2.1, fun q hq => h.2.2 q ?_⟩
  obtain ⟨j, u⟩ := q
  obtain ⟨k, e, hk⟩ := (zl_mem _ 0 j u).mp hq
  have e : j = k := by omega
  subst e
  rw [List.getElem?_set] at hk
  by_cases hij : i = j
  · subst hij
    rw [if_pos rfl] at hk
    split at hk
    · cases hk
      exact List.mem_cons_self
    · cases hk
  · rw [if_neg hij] at hk
    refine List.mem_cons_of_mem _ (List.mem_filter.mpr ⟨(zl_mem L 0 j u).mpr ⟨j, by omega, hk⟩, ?_⟩)
    have h1 : (j == i) = false := by simpa using fun q => hij q.symm
    have h2 : (j + 1 == i && u.category == 2) = false := by
      by_cases q : j + 1 = i
      · have h3 := hp j u q hk
        simp [h3]
      · simp [q]
    show (!(j == i) && !(j + 1 == i && u.category == 2)) = true
    rw [h1, h2]
    rfl
theorem zl_set2 {ls : Array Slot} {nL : Nat} {L : List (Option Value)} {i : Nat} {v : Value} (hp : ∀ (j : Nat) (u : Value), j + 1 = i → L[j]? = some (some u) → u.category ≠ 2) (h : lv_has ls nL ((i, v) :: (zl 0 L).filter (fun q => !(q.1 == i) && (!(q.1 == i + 1) && !(q.1 + 1 == i && q.2.category == 2))))) : lv_has ls nL (zl 0 ((L.set i (some v)).set (i + 1) none)) := by
  refine ⟨h.1, h.2.1, fun q hq => h.2.2 q ?_⟩
  obtain ⟨j, u⟩ := q
  obtain ⟨k, e, hk⟩ := (zl_mem _ 0 j u).mp hq
  have e : j = k := by omega
  subst e
  rw [List.getElem?_set] at hk
  by_cases hij1 : i + 1 = j
  · subst hij1
    rw [if_pos rfl] at hk
    split at hk <;> cases hk
  · rw [if_neg hij1, List.getElem?_set] at hk
    by_cases hij : i = j
    · subst hij
      rw [if_pos rfl] at hk
      split at hk
      · cases hk
        exact List.mem_cons_self
      · cases hk
    · rw [if_neg hij] at hk
      refine List.mem_cons_of_mem _ (List.mem_filter.mpr ⟨(zl_mem L 0 j u).mpr ⟨j, by omega, hk⟩, ?_⟩)
      have h1 : (j == i) = false := by simpa using fun q => hij q.symm
      have h0 : (j == i + 1) = false := by simpa using fun q => hij1 q.symm
      have h2 : (j + 1 == i && u.category == 2) = false := by
        by_cases q : j + 1 = i
        · have h3 := hp j u q hk
          simp [h3]
        · simp [q]
      show (!(j == i) && (!(j == i + 1) && !(j + 1 == i && u.category == 2))) = true
      rw [h1, h0, h2]
      rfl
/-- at pc, with locals L, stack st, memory μ: the machine comes to its end -/
def zK (x : zX) (g : zG) (R : Room) (nL ce sl pc : Nat) (L : List (Option Value)) (st : List Value) (μ : zM) : Prop :=
  ∀ (H : Heap) (locs : List Loc) (ls : Array Slot), va_P (zD g) vwCl (zW g μ) H → va_S (zA g) (xs x).heap H locs → lv_has ls nL (zl 0 L) → W (xp x) (xl x) (xe x) R (xs x) (xm x) (xa x) (xb x) (xh x) (xc x) H locs ce sl (xQ x) (F0 (xm x) pc ls st)
/-- the same, with an exception of class E on its way out of the call at pc -/
def zKX (x : zX) (g : zG) (R : Room) (nL ce sl pc : Nat) (L : List (Option Value)) (st : List Value) (E : String) (μ : zM) : Prop :=
  ∀ (H : Heap) (locs : List Loc) (ls : Array Slot) (ce9 : Cell) (q : Addr), va_P (zD g) vwCl (zW g μ) H → va_S (zA g) (xs x).heap H locs → lv_has ls nL (zl 0 L) → H[q]? = some ce9 → ce9.vm = .none → (xs x).vm.findClass E = some ce9.cls → vx_W (xp x) (xl x) (xe x) R (xs x) (xm x) (xa x) (xb x) (xh x) (xc x) H locs ce sl (xQ x) (F0 (xm x) pc ls st) q
/-- what stands through a whole method -/
def zS (x : zX) (g : zG) (nL : Nat) (cc : ByteArray) (own : String) : Prop :=
  (xp x).tables.exec = Jvm.exec ∧ (xc x).code = cc ∧ (xc x).maxLocals = nL ∧ (xs x).vm.findClass own = some (xm x).cls ∧ (∀ w ∈ zU, w.before (xa x) (xs x) = true) ∧ va_K (zD g) vwCl (zTy g) (xs x) ∧ zOK g ∧ zSt (xl x) g (xs x) (xs x).heap ∧ (xh x).locks = false
theorem zS.ex {x g nL cc own} (S : zS x g nL cc own) : (xp x).tables.exec = Jvm.exec := S.1
theorem zS.by {x g nL cc own} (S : zS x g nL cc own) : (xc x).code = cc := S.2.1
theorem zS.ml {x g nL cc own} (S : zS x g nL cc own) : (xc x).maxLocals = nL := S.2.2.1
theorem zS.own {x g nL cc own} (S : zS x g nL cc own) : (xs x).vm.findClass own = some (xm x).cls := S.2.2.2.1
theorem zS.ts {x g nL cc own} (S : zS x g nL cc own) : ∀ w ∈ zU, w.before (xa x) (xs x) = true := S.2.2.2.2.1
theorem zS.K {x g nL cc own} (S : zS x g nL cc own) : va_K (zD g) vwCl (zTy g) (xs x) := S.2.2.2.2.2.1
theorem zS.ok {x g nL cc own} (S : zS x g nL cc own) : zOK g := S.2.2.2.2.2.2.1
theorem zS.st {x g nL cc own} (S : zS x g nL cc own) : zSt (xl x) g (xs x) (xs x).heap := S.2.2.2.2.2.2.2.1
theorem zS.lk {x g nL cc own} (S : zS x g nL cc own) : (xh x).locks = false := S.2.2.2.2.2.2.2.2
/-- how a method ends -/
def zR (x : zX) (g : zG) (ret : Option FieldType) (mc ms : Nat) (tb : List ExceptionTableEntry) (RT : Option Value → zM → Prop) (XT : String → zM → Prop) : Prop :=
  xQ x = vx_MQ (xb x) (zQr g RT) (zQx g XT) (xa x) (xs x) mc ms (zA g) ∧ (xh x).sig.returnType = ret ∧ (xc x).exceptionTable.toList = tb
section SNN
variable {p : Program} {l : Launch} {e : Env} {R : Room} {s : State} {m : MethodId} {args : Array Value} {below : List Frame} {meth : Method} {c : Code} {H : Heap} {locs : List Loc} {cells slots : Nat}
variable {T : State}
theorem vx_callSN (X : Stand p l e R s m args below meth c T locs cells slots) (hexec : p.tables.exec = Jvm.exec) {own : String} {index : Nat} {host : String} {y : MethodName} {bytes : ByteArray} {maxL : Nat} {ret : Option FieldType}
    (hown : s.vm.findClass own = some m.cls) (hlink : (Cond.methodLinkNest own index y host).before args s = true) (hstat : (Cond.static y).before args s = true) (hinit : (Cond.initialized y.cls).before args s = true)
    (hcode : (Cond.code y bytes maxL ret).before args s = true) (hy : y.cls ≠ "java/lang/invoke/MethodHandle" ∧ y.cls ≠ "java/lang/invoke/VarHandle")
    {W : Nat} {Pre : Pt → Array Value → Prop} {Post : Pt → Array Value → Option Value → Pt → Prop} {PostX : Pt → Array Value → Addr → Pt → Prop} (hK : vx_Back l R p e below s args y 3 W Pre Post PostX)
    {g : JFrame} (hg : g.method = m) (hsize : g.locals.size = c.maxLocals) {argsL rest : List Value} (hlen : ∀ sig, parseMethodDescriptor y.desc = some sig → argsL.length = sig.parameters.length)
    (hstack : g.stack = argsL.reverse ++ rest) (hW : 2 * g.monitorRoom + (rest.map fun v => v.category).sum ≤ W) (hdg : decode c.code g.pc = .ok (.invokestatic index, 3))
    (hpre : ∀ vm₁, s.WarmedH vm₁ → Pre ⟨T.setVm vm₁, locs, cells, slots⟩ argsL.toArray) :
    (∃ (v : Option Value) (vm₁ : Vm) (B : Pt), s.WarmedH vm₁ ∧ Stand p l e R s m args below meth c B.U B.locs B.cells B.slots ∧ Post ⟨T.setVm vm₁, locs, cells, slots⟩ argsL.toArray v B ∧
      ∀ target, Steps p.tables e below (B.U.setTop { g with pc := g.pc + 3, stack := v.toList ++ rest }) target → Steps p.tables e below (T.setTop g) target) ∨
    (∃ (q : Addr) (vm₁ : Vm) (B : Pt), s.WarmedH vm₁ ∧ Stand p l e R s m args below meth c B.U B.locs B.cells B.slots ∧ PostX ⟨T.setVm vm₁, locs, cells, slots⟩ argsL.toArray q B ∧
      Steps p.tables e below (T.setTop g) ((B.U.setTop { g with stack := rest }).pushFrame (.throwing q))) := by
  obtain ⟨mk, hnamed⟩ := Cond.code_named hcode
  obtain ⟨methM, cM, hmethM, -, -, -, -, -, -, hsigM⟩ := Cond.code_spec hnamed hcode
  have hstatic : methM.isStatic = true := Cond.static_spec hnamed hmethM hstat
  obtain ⟨kP, hkP, -⟩ := className_of_methodNamed hnamed
  have hinitP : kP.init = .initialized := Cond.initialized_spec (findClass_of_methodNamed hnamed) hkP hinit
  obtain ⟨vm₁, X₁, hstep₁⟩ := X.invokestaticNest hexec hown hlink hnamed hmethM hstatic hkP hinitP hy (g := g) hg (argsL := argsL) (rest := rest) (hlen _ hsigM) hstack hdg
  rcases hK m meth c ⟨T.setVm vm₁, locs, cells, slots⟩ { g with stack := rest } (.invokestatic index) mk argsL.toArray X₁ hg hsize hdg hW (X₁.named hnamed) (hpre vm₁ X₁.warmed) with ⟨v, B, X', hpost, hsteps⟩ | ⟨q, B, X', hpost, hsteps⟩
  · exact Or.inl ⟨v, vm₁, B, X₁.warmed, X', hpost, fun target h => hstep₁ _ fun acts => by rw [doInvoke_state]; exact hsteps.trans h⟩
  · exact Or.inr ⟨q, vm₁, B, X₁.warmed, X', hpost, hstep₁ _ fun acts => by rw [doInvoke_state]; exact hsteps⟩
theorem vx_runSN {y : MethodName} {bytes cc : ByteArray} {maxL nL mc ms n index : Nat} {ret : Option FieldType} {ws : List Cond} {rm : Room} {Pc : Array Value → State → Prop} {Qc : Array Value → State → Outcome → State → Prop} {XC : String → State → State → Prop} {free : Addr → Prop} {Ts : List Cond} {own host : String} {As rest : List Value} {g : JFrame}
    (S : CallFix p m c cc nL s args Ts own) (hM : vx_Met l y ws rm Pc Qc XC mc ms free) (cw : va_CN R s args own index y host bytes maxL ret ws rm mc ms n ∧ (Cond.static y).before args s = true ∧ True) (hp : PreS s H Pc As)
    (hg : g.method = m) (hn : As.length = n) (hsize : g.locals.size = nL) (hstack : g.stack = As.reverse ++ rest) (hW : 2 * g.monitorRoom + (rest.map fun v => v.category).sum ≤ 8) (hdg : decode cc g.pc = .ok (.invokestatic index, 3)) (hf : cells + mc ≤ R.cells ∧ slots + ms ≤ R.slots) :
    vx_Run p l e R s m args below meth c H locs cells slots mc ms g rest (Qc As.toArray) XC free := by
  obtain ⟨⟨⟨hrc, hrs, hfr, hlo, hws, hcw⟩, hcode, hini, hy, hlen, hl⟩, hx1, hx2⟩ := cw
  have hK : vx_Back l R p e below s args y 3 8 (PreOf R mc ms Pc) (PostOf Qc mc ms free) (vx_Post XC mc ms free) := vx_back (bytes := bytes) (maxL := maxL) (ret := ret) hM hp.1 hrc hrs hfr hlo hws hcw (fun a' U hW => word_at hW (Or.inl (by first | rfl | simp [Cond.onTables, Cond.keeps, Cond.steady])) hini)
  obtain ⟨hx, hb, hml, ho, -⟩ := S
  have hPc := hp.2
  intro T hT X
  rcases vx_callSN X hx (bytes := bytes) (maxL := maxL) (ret := ret) ho hl hx1 hini hcode hy hK hg (hsize.trans hml.symm) (argsL := As) (rest := rest) (fun sig h => hn.trans (hlen sig h)) hstack hW (by rw [hb]; exact hdg)
    (fun vm₁ hW₁ => ⟨hf.1, hf.2, hPc (T.setVm vm₁) hT hW₁⟩) with ⟨v, vm₁, ⟨U', l2, c2, s2⟩, hW₁, X', ⟨g', mk, t, L, e1, e2, hq, h1, hL, h2, h3⟩, st⟩ | ⟨q, vm₁, ⟨U', l2, c2, s2⟩, hW₁, X', ⟨g', mk, t, L, E, ce, e1, e2, hq, hce, hcv, hcl, h1, hL, h2, h3⟩, st⟩
  · dsimp only [Pt.U, Pt.locs, Pt.cells, Pt.slots] at X' e1 e2 h1 h2 h3 st
    subst h1; subst h2; subst h3
    exact Or.inl ⟨v, (T.setVm vm₁).calling g' mk As.toArray, t, U', L, hT, X', hL, e1, e2, hq, st⟩
  · dsimp only [Pt.U, Pt.locs, Pt.cells, Pt.slots] at X' e1 e2 h1 h2 h3 st hcl
    subst h1; subst h2; subst h3
    exact Or.inr ⟨q, (T.setVm vm₁).calling g' mk As.toArray, t, U', L, E, ce, hT, X', hL, e1, e2, hq, hce, hcv, vx_cls hW₁ hcl, st⟩
end SNN
section KK
variable {x : zX} {g : zG} {R : Room} {nL ce sl pc n : Nat} {L : List (Option Value)} {st : List Value} {μ : zM} {cc : ByteArray} {own : String}
theorem k_iadd {a b : Int32} (S : zS x g nL cc own) (hd : decode cc pc = .ok (.iadd, 1)) (hn : pc + 1 = n) (k : zK x g R nL ce sl n L (.int (a + b) :: st) μ) : zK x g R nL ce sl pc L (.int b :: .int a :: st) μ := by subst hn; exact fun H locs ls hP hS hl => lv_iadd S.ex S.by hd (k H locs ls hP hS hl)
theorem k_isub {a b : Int32} (S : zS x g nL cc own) (hd : decode cc pc = .ok (.isub, 1)) (hn : pc + 1 = n) (k : zK x g R nL ce sl n L (.int (a - b) :: st) μ) : zK x g R nL ce sl pc L (.int b :: .int a :: st) μ := by subst hn; exact fun H locs ls hP hS hl => lv_isub S.ex S.by hd (k H locs ls hP hS hl)
theorem k_imul {a b : Int32} (S : zS x g nL cc own) (hd : decode cc pc = .ok (.imul, 1)) (hn : pc + 1 = n) (k : zK x g R nL ce sl n L (.int (a * b) :: st) μ) : zK x g R nL ce sl pc L (.int b :: .int a :: st) μ := by subst hn; exact fun H locs ls hP hS hl => lv_imul S.ex S.by hd (k H locs ls hP hS hl)
theorem k_iand {a b : Int32} (S : zS x g nL cc own) (hd : decode cc pc = .ok (.iand, 1)) (hn : pc + 1 = n) (k : zK x g R nL ce sl n L (.int (a &&& b) :: st) μ) : zK x g R nL ce sl pc L (.int b :: .int a :: st) μ := by subst hn; exact fun H locs ls hP hS hl => lv_iand S.ex S.by hd (k H locs ls hP hS hl)
theorem k_ior {a b : Int32} (S : zS x g nL cc own) (hd : decode cc pc = .ok (.ior, 1)) (hn : pc + 1 = n) (k : zK x g R nL ce sl n L (.int (a ||| b) :: st) μ) : zK x g R nL ce sl pc L (.int b :: .int a :: st) μ := by subst hn; exact fun H locs ls hP hS hl => lv_ior S.ex S.by hd (k H locs ls hP hS hl)
theorem k_ixor {a b : Int32} (S : zS x g nL cc own) (hd : decode cc pc = .ok (.ixor, 1)) (hn : pc + 1 = n) (k : zK x g R nL ce sl n L (.int (a ^^^ b) :: st) μ) : zK x g R nL ce sl pc L (.int b :: .int a :: st) μ := by subst hn; exact fun H locs ls hP hS hl => lv_ixor S.ex S.by hd (k H locs ls hP hS hl)
theorem k_ishl {a b : Int32} (S : zS x g nL cc own) (hd : decode cc pc = .ok (.ishl, 1)) (hn : pc + 1 = n) (k : zK x g R nL ce sl n L (.int (a <<< (b &&& 31)) :: st) μ) : zK x g R nL ce sl pc L (.int b :: .int a :: st) μ := by subst hn; exact fun H locs ls hP hS hl => lv_ishl S.ex S.by hd (k H locs ls hP hS hl)
theorem k_ishr {a b : Int32} (S : zS x g nL cc own) (hd : decode cc pc = .ok (.ishr, 1)) (hn : pc + 1 = n) (k : zK x g R nL ce sl n L (.int (a >>> (b &&& 31)) :: st) μ) : zK x g R nL ce sl pc L (.int b :: .int a :: st) μ := by subst hn; exact fun H locs ls hP hS hl => lv_ishr S.ex S.by hd (k H locs ls hP hS hl)
theorem k_ladd {a b : Int64} (S : zS x g nL cc own) (hd : decode cc pc = .ok (.ladd, 1)) (hn : pc + 1 = n) (k : zK x g R nL ce sl n L (.long (a + b) :: st) μ) : zK x g R nL ce sl pc L (.long b :: .long a :: st) μ := by subst hn; exact fun H locs ls hP hS hl => lv_ladd S.ex S.by hd (k H locs ls hP hS hl)
theorem k_lsub {a b : Int64} (S : zS x g nL cc own) (hd : decode cc pc = .ok (.lsub, 1)) (hn : pc + 1 = n) (k : zK x g R nL ce sl n L (.long (a - b) :: st) μ) : zK x g R nL ce sl pc L (.long b :: .long a :: st) μ := by subst hn; exact fun H locs ls hP hS hl => lv_lsub S.ex S.by hd (k H locs ls hP hS hl)
theorem k_lmul {a b : Int64} (S : zS x g nL cc own) (hd : decode cc pc = .ok (.lmul, 1)) (hn : pc + 1 = n) (k : zK x g R nL ce sl n L (.long (a * b) :: st) μ) : zK x g R nL ce sl pc L (.long b :: .long a :: st) μ := by subst hn; exact fun H locs ls hP hS hl => lv_lmul S.ex S.by hd (k H locs ls hP hS hl)
theorem k_lxor {a b : Int64} (S : zS x g nL cc own) (hd : decode cc pc = .ok (.lxor, 1)) (hn : pc + 1 = n) (k : zK x g R nL ce sl n L (.long (a ^^^ b) :: st) μ) : zK x g R nL ce sl pc L (.long b :: .long a :: st) μ := by subst hn; exact fun H locs ls hP hS hl => lv_lxor S.ex S.by hd (k H locs ls hP hS hl)
theorem k_idiv {a b : Int32} (S : zS x g nL cc own) (hd : decode cc pc = .ok (.idiv, 1)) (h0 : ¬ b = 0) (hn : pc + 1 = n) (k : zK x g R nL ce sl n L (.int (a / b) :: st) μ) : zK x g R nL ce sl pc L (.int b :: .int a :: st) μ := by subst hn; exact fun H locs ls hP hS hl => lv_idiv S.ex S.by hd h0 (k H locs ls hP hS hl)
theorem k_ldiv {a b : Int64} (S : zS x g nL cc own) (hd : decode cc pc = .ok (.ldiv, 1)) (h0 : ¬ b = 0) (hn : pc + 1 = n) (k : zK x g R nL ce sl n L (.long (a / b) :: st) μ) : zK x g R nL ce sl pc L (.long b :: .long a :: st) μ := by subst hn; exact fun H locs ls hP hS hl => lv_ldiv S.ex S.by hd h0 (k H locs ls hP hS hl)
theorem k_ineg {a : Int32} (S : zS x g nL cc own) (hd : decode cc pc = .ok (.ineg, 1)) (hn : pc + 1 = n) (k : zK x g R nL ce sl n L (.int (-a) :: st) μ) : zK x g R nL ce sl pc L (.int a :: st) μ := by subst hn; exact fun H locs ls hP hS hl => lv_ineg S.ex S.by hd (k H locs ls hP hS hl)
theorem k_iushr {a b v : Int32} (S : zS x g nL cc own) (hd : decode cc pc = .ok (.iushr, 1)) (hv : (a.toUInt32 >>> (b.toUInt32 &&& Int32.toUInt32 31)).toInt32 = v) (hn : pc + 1 = n) (k : zK x g R nL ce sl n L (.int v :: st) μ) : zK x g R nL ce sl pc L (.int b :: .int a :: st) μ := by subst hn; exact fun H locs ls hP hS hl => lv_iushr S.ex S.by hd hv (k H locs ls hP hS hl)
theorem k_i2l {a : Int32} (S : zS x g nL cc own) (hd : decode cc pc = .ok (.i2l, 1)) (hn : pc + 1 = n) (k : zK x g R nL ce sl n L (.long a.toInt64 :: st) μ) : zK x g R nL ce sl pc L (.int a :: st) μ := by subst hn; exact fun H locs ls hP hS hl => lv_i2l S.ex S.by hd rfl (k H locs ls hP hS hl)
theorem k_l2i {a : Int64} (S : zS x g nL cc own) (hd : decode cc pc = .ok (.l2i, 1)) (hn : pc + 1 = n) (k : zK x g R nL ce sl n L (.int a.toInt32 :: st) μ) : zK x g R nL ce sl pc L (.long a :: st) μ := by subst hn; exact fun H locs ls hP hS hl => lv_l2i S.ex S.by hd rfl (k H locs ls hP hS hl)
theorem k_lcmp {a b : Int64} (S : zS x g nL cc own) (hd : decode cc pc = .ok (.lcmp, 1)) (hn : pc + 1 = n) (k : zK x g R nL ce sl n L (.int (lg_cmp a b) :: st) μ) : zK x g R nL ce sl pc L (.long b :: .long a :: st) μ := by subst hn; exact fun H locs ls hP hS hl => W.lcmp S.ex S.by hd (k H locs ls hP hS hl)
theorem k_dup {a : Value} (S : zS x g nL cc own) (hd : decode cc pc = .ok (.dup, 1)) (hc : a.category = 1) (hn : pc + 1 = n) (k : zK x g R nL ce sl n L (a :: a :: st) μ) : zK x g R nL ce sl pc L (a :: st) μ := by subst hn; exact fun H locs ls hP hS hl => lv_dup S.ex S.by hd hc (k H locs ls hP hS hl)
theorem k_pop {a : Value} (S : zS x g nL cc own) (hd : decode cc pc = .ok (.pop, 1)) (hc : a.category = 1) (hn : pc + 1 = n) (k : zK x g R nL ce sl n L (st) μ) : zK x g R nL ce sl pc L (a :: st) μ := by subst hn; exact fun H locs ls hP hS hl => lv_pop S.ex S.by hd hc (k H locs ls hP hS hl)
theorem k_iconst {i : Int} {v : Int32} (S : zS x g nL cc own) (hd : decode cc pc = .ok (.iconst i, 1)) (hv : Int32.ofInt i = v) (hn : pc + 1 = n) (k : zK x g R nL ce sl n L (.int v :: st) μ) : zK x g R nL ce sl pc L (st) μ := by subst hn; exact fun H locs ls hP hS hl => lv_iconst S.ex S.by hd hv (k H locs ls hP hS hl)
theorem k_bipush {i : Int} {v : Int32} (S : zS x g nL cc own) (hd : decode cc pc = .ok (.bipush i, 2)) (hv : (Int8.ofInt i).toInt32 = v) (hn : pc + 2 = n) (k : zK x g R nL ce sl n L (.int v :: st) μ) : zK x g R nL ce sl pc L (st) μ := by subst hn; exact fun H locs ls hP hS hl => lv_bipush S.ex S.by hd hv (k H locs ls hP hS hl)
theorem k_sipush {i : Int} {v : Int32} (S : zS x g nL cc own) (hd : decode cc pc = .ok (.sipush i, 3)) (hv : (Int16.ofInt i).toInt32 = v) (hn : pc + 3 = n) (k : zK x g R nL ce sl n L (.int v :: st) μ) : zK x g R nL ce sl pc L (st) μ := by subst hn; exact fun H locs ls hP hS hl => lv_sipush S.ex S.by hd hv (k H locs ls hP hS hl)
theorem k_lconst {i : Fin 2} {v : Int64} (S : zS x g nL cc own) (hd : decode cc pc = .ok (.lconst i, 1)) (hv : Int64.ofNat (i : Nat) = v) (hn : pc + 1 = n) (k : zK x g R nL ce sl n L (.long v :: st) μ) : zK x g R nL ce sl pc L (st) μ := by subst hn; exact fun H locs ls hP hS hl => lv_lconst S.ex S.by hd hv (k H locs ls hP hS hl)
theorem k_ldc {i : Nat} {v : Int32} (S : zS x g nL cc own) (hd : decode cc pc = .ok (.ldc i, 2)) (hw : Cond.constant own i v ∈ zU) (hn : pc + 2 = n) (k : zK x g R nL ce sl n L (.int v :: st) μ) : zK x g R nL ce sl pc L st μ := by subst hn; exact fun H locs ls hP hS hl => lv_ldc S.ex S.by S.own (S.ts _ hw) hd (k H locs ls hP hS hl)
theorem k_ldcw {i : Nat} {v : Int32} (S : zS x g nL cc own) (hd : decode cc pc = .ok (.ldc_w i, 3)) (hw : Cond.constant own i v ∈ zU) (hn : pc + 3 = n) (k : zK x g R nL ce sl n L (.int v :: st) μ) : zK x g R nL ce sl pc L st μ := by subst hn; exact fun H locs ls hP hS hl => lv_ldcw S.ex S.by S.own (S.ts _ hw) hd (k H locs ls hP hS hl)
theorem k_ldc2 {i : Nat} {v : Int64} (S : zS x g nL cc own) (hd : decode cc pc = .ok (.ldc2_w i, 3)) (hw : Cond.constantLong own i v ∈ zU) (hn : pc + 3 = n) (k : zK x g R nL ce sl n L (.long v :: st) μ) : zK x g R nL ce sl pc L st μ := by subst hn; exact fun H locs ls hP hS hl => lv_ldc2 S.ex S.by S.own (S.ts _ hw) hd (k H locs ls hP hS hl)
theorem k_if_eq {a : Int32} {off : Int} {tgt : Nat} (S : zS x g nL cc own) (hd : decode cc pc = .ok (.ifCond .eq off, 3)) (ht : (pc : Int) + off = (tgt : Int)) (hn : pc + 3 = n) (kt : a = 0 → zK x g R nL ce sl tgt L st μ) (kf : ¬ (a = 0) → zK x g R nL ce sl n L st μ) : zK x g R nL ce sl pc L (.int a :: st) μ := by subst hn; exact fun H locs ls hP hS hl => lv_if_eq S.ex S.by hd ht (fun h => kt h H locs ls hP hS hl) (fun h => kf h H locs ls hP hS hl)
theorem k_if_lt {a : Int32} {off : Int} {tgt : Nat} (S : zS x g nL cc own) (hd : decode cc pc = .ok (.ifCond .lt off, 3)) (ht : (pc : Int) + off = (tgt : Int)) (hn : pc + 3 = n) (kt : a < 0 → zK x g R nL ce sl tgt L st μ) (kf : ¬ (a < 0) → zK x g R nL ce sl n L st μ) : zK x g R nL ce sl pc L (.int a :: st) μ := by subst hn; exact fun H locs ls hP hS hl => lv_if_lt S.ex S.by hd ht (fun h => kt h H locs ls hP hS hl) (fun h => kf h H locs ls hP hS hl)
theorem k_if_ge {a : Int32} {off : Int} {tgt : Nat} (S : zS x g nL cc own) (hd : decode cc pc = .ok (.ifCond .ge off, 3)) (ht : (pc : Int) + off = (tgt : Int)) (hn : pc + 3 = n) (kt : 0 ≤ a → zK x g R nL ce sl tgt L st μ) (kf : ¬ (0 ≤ a) → zK x g R nL ce sl n L st μ) : zK x g R nL ce sl pc L (.int a :: st) μ := by subst hn; exact fun H locs ls hP hS hl => lv_if_ge S.ex S.by hd ht (fun h => kt h H locs ls hP hS hl) (fun h => kf h H locs ls hP hS hl)
theorem k_if_gt {a : Int32} {off : Int} {tgt : Nat} (S : zS x g nL cc own) (hd : decode cc pc = .ok (.ifCond .gt off, 3)) (ht : (pc : Int) + off = (tgt : Int)) (hn : pc + 3 = n) (kt : 0 < a → zK x g R nL ce sl tgt L st μ) (kf : ¬ (0 < a) → zK x g R nL ce sl n L st μ) : zK x g R nL ce sl pc L (.int a :: st) μ := by subst hn; exact fun H locs ls hP hS hl => lv_if_gt S.ex S.by hd ht (fun h => kt h H locs ls hP hS hl) (fun h => kf h H locs ls hP hS hl)
theorem k_if_le {a : Int32} {off : Int} {tgt : Nat} (S : zS x g nL cc own) (hd : decode cc pc = .ok (.ifCond .le off, 3)) (ht : (pc : Int) + off = (tgt : Int)) (hn : pc + 3 = n) (kt : a ≤ 0 → zK x g R nL ce sl tgt L st μ) (kf : ¬ (a ≤ 0) → zK x g R nL ce sl n L st μ) : zK x g R nL ce sl pc L (.int a :: st) μ := by subst hn; exact fun H locs ls hP hS hl => lv_if_le S.ex S.by hd ht (fun h => kt h H locs ls hP hS hl) (fun h => kf h H locs ls hP hS hl)
theorem k_icmp_eq {a b : Int32} {off : Int} {tgt : Nat} (S : zS x g nL cc own) (hd : decode cc pc = .ok (.if_icmp .eq off, 3)) (ht : (pc : Int) + off = (tgt : Int)) (hn : pc + 3 = n) (kt : a = b → zK x g R nL ce sl tgt L st μ) (kf : ¬ (a = b) → zK x g R nL ce sl n L st μ) : zK x g R nL ce sl pc L (.int b :: .int a :: st) μ := by subst hn; exact fun H locs ls hP hS hl => lv_icmp_eq S.ex S.by hd ht (fun h => kt h H locs ls hP hS hl) (fun h => kf h H locs ls hP hS hl)
theorem k_icmp_lt {a b : Int32} {off : Int} {tgt : Nat} (S : zS x g nL cc own) (hd : decode cc pc = .ok (.if_icmp .lt off, 3)) (ht : (pc : Int) + off = (tgt : Int)) (hn : pc + 3 = n) (kt : a < b → zK x g R nL ce sl tgt L st μ) (kf : ¬ (a < b) → zK x g R nL ce sl n L st μ) : zK x g R nL ce sl pc L (.int b :: .int a :: st) μ := by subst hn; exact fun H locs ls hP hS hl => lv_icmp_lt S.ex S.by hd ht (fun h => kt h H locs ls hP hS hl) (fun h => kf h H locs ls hP hS hl)
theorem k_icmp_ge {a b : Int32} {off : Int} {tgt : Nat} (S : zS x g nL cc own) (hd : decode cc pc = .ok (.if_icmp .ge off, 3)) (ht : (pc : Int) + off = (tgt : Int)) (hn : pc + 3 = n) (kt : b ≤ a → zK x g R nL ce sl tgt L st μ) (kf : ¬ (b ≤ a) → zK x g R nL ce sl n L st μ) : zK x g R nL ce sl pc L (.int b :: .int a :: st) μ := by subst hn; exact fun H locs ls hP hS hl => lv_icmp_ge S.ex S.by hd ht (fun h => kt h H locs ls hP hS hl) (fun h => kf h H locs ls hP hS hl)
theorem k_icmp_gt {a b : Int32} {off : Int} {tgt : Nat} (S : zS x g nL cc own) (hd : decode cc pc = .ok (.if_icmp .gt off, 3)) (ht : (pc : Int) + off = (tgt : Int)) (hn : pc + 3 = n) (kt : b < a → zK x g R nL ce sl tgt L st μ) (kf : ¬ (b < a) → zK x g R nL ce sl n L st μ) : zK x g R nL ce sl pc L (.int b :: .int a :: st) μ := by subst hn; exact fun H locs ls hP hS hl => lv_icmp_gt S.ex S.by hd ht (fun h => kt h H locs ls hP hS hl) (fun h => kf h H locs ls hP hS hl)
theorem k_icmp_le {a b : Int32} {off : Int} {tgt : Nat} (S : zS x g nL cc own) (hd : decode cc pc = .ok (.if_icmp .le off, 3)) (ht : (pc : Int) + off = (tgt : Int)) (hn : pc + 3 = n) (kt : a ≤ b → zK x g R nL ce sl tgt L st μ) (kf : ¬ (a ≤ b) → zK x g R nL ce sl n L st μ) : zK x g R nL ce sl pc L (.int b :: .int a :: st) μ := by subst hn; exact fun H locs ls hP hS hl => lv_icmp_le S.ex S.by hd ht (fun h => kt h H locs ls hP hS hl) (fun h => kf h H locs ls hP hS hl)
theorem k_if_ne {a : Int32} {off : Int} {tgt : Nat} (S : zS x g nL cc own) (hd : decode cc pc = .ok (.ifCond .ne off, 3)) (ht : (pc : Int) + off = (tgt : Int)) (hn : pc + 3 = n) (kt : ¬ (a = 0) → zK x g R nL ce sl tgt L st μ) (kf : a = 0 → zK x g R nL ce sl n L st μ) : zK x g R nL ce sl pc L (.int a :: st) μ := by subst hn; exact fun H locs ls hP hS hl => lv_if_ne S.ex S.by hd ht (fun h => kt h H locs ls hP hS hl) (fun h => kf h H locs ls hP hS hl)
theorem k_icmp_ne {a b : Int32} {off : Int} {tgt : Nat} (S : zS x g nL cc own) (hd : decode cc pc = .ok (.if_icmp .ne off, 3)) (ht : (pc : Int) + off = (tgt : Int)) (hn : pc + 3 = n) (kt : ¬ (a = b) → zK x g R nL ce sl tgt L st μ) (kf : a = b → zK x g R nL ce sl n L st μ) : zK x g R nL ce sl pc L (.int b :: .int a :: st) μ := by subst hn; exact fun H locs ls hP hS hl => lv_icmp_ne S.ex S.by hd ht (fun h => kt h H locs ls hP hS hl) (fun h => kf h H locs ls hP hS hl)
theorem k_goto {off : Int} {tgt : Nat} (S : zS x g nL cc own) (hd : decode cc pc = .ok (.goto off, 3)) (ht : (pc : Int) + off = (tgt : Int)) (k : zK x g R nL ce sl tgt L st μ) : zK x g R nL ce sl pc L st μ := fun H locs ls hP hS hl => lv_goto S.ex S.by hd ht (k H locs ls hP hS hl)
theorem k_iload_n {i : Fin 4} {j : Nat} {a : Int32} (S : zS x g nL cc own) (hd : decode cc pc = .ok (.iload_n i, 1)) (hj : (i : Nat) = j) (hL : L[j]? = some (some (.int a))) (hn : pc + 1 = n) (k : zK x g R nL ce sl n L (.int a :: st) μ) : zK x g R nL ce sl pc L st μ := by subst hn; exact fun H locs ls hP hS hl => lv_iload_n S.ex S.by hd hj (zl_get hl hL) (k H locs ls hP hS hl)
theorem k_iload {j : Nat} {a : Int32} (S : zS x g nL cc own) (hd : decode cc pc = .ok (.iload j, 2)) (hL : L[j]? = some (some (.int a))) (hn : pc + 2 = n) (k : zK x g R nL ce sl n L (.int a :: st) μ) : zK x g R nL ce sl pc L st μ := by subst hn; exact fun H locs ls hP hS hl => lv_iload S.ex S.by hd (zl_get hl hL) (k H locs ls hP hS hl)
theorem k_istore_n {i : Fin 4} {j : Nat} {a : Int32} (S : zS x g nL cc own) (hd : decode cc pc = .ok (.istore_n i, 1)) (hj : (i : Nat) = j) (hb : j < nL) (hp : ∀ (i : Nat) (u : Value), i + 1 = j → L[i]? = some (some u) → u.category ≠ 2) (hn : pc + 1 = n) (k : zK x g R nL ce sl n (L.set j (some (.int a))) st μ) : zK x g R nL ce sl pc L (.int a :: st) μ := by subst hn; exact fun H locs ls hP hS hl => lv_istore_n S.ex S.by hd hj hl hb rfl (fun ls1 h1 => k H locs ls1 hP hS (zl_set1 hp h1))
theorem k_istore {j : Nat} {a : Int32} (S : zS x g nL cc own) (hd : decode cc pc = .ok (.istore j, 2)) (hb : j < nL) (hp : ∀ (i : Nat) (u : Value), i + 1 = j → L[i]? = some (some u) → u.category ≠ 2) (hn : pc + 2 = n) (k : zK x g R nL ce sl n (L.set j (some (.int a))) st μ) : zK x g R nL ce sl pc L (.int a :: st) μ := by subst hn; exact fun H locs ls hP hS hl => lv_istore S.ex S.by hd hl hb rfl (fun ls1 h1 => k H locs ls1 hP hS (zl_set1 hp h1))
theorem k_lload_n {i : Fin 4} {j : Nat} {a : Int64} (S : zS x g nL cc own) (hd : decode cc pc = .ok (.lload_n i, 1)) (hj : (i : Nat) = j) (hL : L[j]? = some (some (.long a))) (hn : pc + 1 = n) (k : zK x g R nL ce sl n L (.long a :: st) μ) : zK x g R nL ce sl pc L st μ := by subst hn; exact fun H locs ls hP hS hl => lv_lload_n S.ex S.by hd hj (zl_get hl hL) (k H locs ls hP hS hl)
theorem k_lload {j : Nat} {a : Int64} (S : zS x g nL cc own) (hd : decode cc pc = .ok (.lload j, 2)) (hL : L[j]? = some (some (.long a))) (hn : pc + 2 = n) (k : zK x g R nL ce sl n L (.long a :: st) μ) : zK x g R nL ce sl pc L st μ := by subst hn; exact fun H locs ls hP hS hl => lv_lload S.ex S.by hd (zl_get hl hL) (k H locs ls hP hS hl)
theorem k_lstore_n {i : Fin 4} {j : Nat} {a : Int64} (S : zS x g nL cc own) (hd : decode cc pc = .ok (.lstore_n i, 1)) (hj : (i : Nat) = j) (hb : j + 1 < nL) (hp : ∀ (i : Nat) (u : Value), i + 1 = j → L[i]? = some (some u) → u.category ≠ 2) (hn : pc + 1 = n) (k : zK x g R nL ce sl n ((L.set j (some (.long a))).set (j + 1) none) st μ) : zK x g R nL ce sl pc L (.long a :: st) μ := by subst hn; exact fun H locs ls hP hS hl => lv_lstore_n S.ex S.by hd hj hl hb rfl (fun ls1 h1 => k H locs ls1 hP hS (zl_set2 hp h1))
theorem k_lstore {j : Nat} {a : Int64} (S : zS x g nL cc own) (hd : decode cc pc = .ok (.lstore j, 2)) (hb : j + 1 < nL) (hp : ∀ (i : Nat) (u : Value), i + 1 = j → L[i]? = some (some u) → u.category ≠ 2) (hn : pc + 2 = n) (k : zK x g R nL ce sl n ((L.set j (some (.long a))).set (j + 1) none) st μ) : zK x g R nL ce sl pc L (.long a :: st) μ := by subst hn; exact fun H locs ls hP hS hl => lv_lstore S.ex S.by hd hl hb rfl (fun ls1 h1 => k H locs ls1 hP hS (zl_set2 hp h1))
theorem k_aload_n {i : Fin 4} {j : Nat} {a : Nat} (S : zS x g nL cc own) (hd : decode cc pc = .ok (.aload_n i, 1)) (hj : (i : Nat) = j) (hL : L[j]? = some (some (.ref a))) (hn : pc + 1 = n) (k : zK x g R nL ce sl n L (.ref a :: st) μ) : zK x g R nL ce sl pc L st μ := by subst hn; exact fun H locs ls hP hS hl => lv_aload_n S.ex S.by hd hj (zl_get hl hL) (k H locs ls hP hS hl)
theorem k_aload {j : Nat} {a : Nat} (S : zS x g nL cc own) (hd : decode cc pc = .ok (.aload j, 2)) (hL : L[j]? = some (some (.ref a))) (hn : pc + 2 = n) (k : zK x g R nL ce sl n L (.ref a :: st) μ) : zK x g R nL ce sl pc L st μ := by subst hn; exact fun H locs ls hP hS hl => lv_aload S.ex S.by hd (zl_get hl hL) (k H locs ls hP hS hl)
theorem k_astore_n {i : Fin 4} {j : Nat} {a : Nat} (S : zS x g nL cc own) (hd : decode cc pc = .ok (.astore_n i, 1)) (hj : (i : Nat) = j) (hb : j < nL) (hp : ∀ (i : Nat) (u : Value), i + 1 = j → L[i]? = some (some u) → u.category ≠ 2) (hn : pc + 1 = n) (k : zK x g R nL ce sl n (L.set j (some (.ref a))) st μ) : zK x g R nL ce sl pc L (.ref a :: st) μ := by subst hn; exact fun H locs ls hP hS hl => lv_astore_n S.ex S.by hd hj hl hb rfl (fun ls1 h1 => k H locs ls1 hP hS (zl_set1 hp h1))
theorem k_astore {j : Nat} {a : Nat} (S : zS x g nL cc own) (hd : decode cc pc = .ok (.astore j, 2)) (hb : j < nL) (hp : ∀ (i : Nat) (u : Value), i + 1 = j → L[i]? = some (some u) → u.category ≠ 2) (hn : pc + 2 = n) (k : zK x g R nL ce sl n (L.set j (some (.ref a))) st μ) : zK x g R nL ce sl pc L (.ref a :: st) μ := by subst hn; exact fun H locs ls hP hS hl => lv_astore S.ex S.by hd hl hb rfl (fun ls1 h1 => k H locs ls1 hP hS (zl_set1 hp h1))
theorem k_iinc {j : Nat} {i : Int} {a v : Int32} (S : zS x g nL cc own) (hd : decode cc pc = .ok (.iinc j i, 3)) (hL : L[j]? = some (some (.int a))) (hv : a + Int32.ofInt i = v) (hb : j < nL) (hn : pc + 3 = n) (k : zK x g R nL ce sl n (L.set j (some (.int v))) st μ) : zK x g R nL ce sl pc L st μ := by
  subst hn
  intro H locs ls hP hS hl
  obtain ⟨k9, hk9⟩ := List.mem_iff_getElem?.mp ((zl_mem L 0 j (.int a)).mpr ⟨j, by omega, hL⟩)
  refine lv_iinc S.ex S.by hd hl hk9 hv hb rfl (fun ls1 h1 => k H locs ls1 hP hS (zl_set1 (fun i9 u e hu he => ?_) h1))
  have h2 := hl.2.1.1 i9 u (zl_get hl hu) he
  rw [e, zl_get hl hL] at h2
  cases h2
def zc1 : Option Value → Bool | some (.long _) => false | some (.double _) => false | _ => true
theorem zc1_ok {u : Value} (h : zc1 (some u) = true) : u.category ≠ 2 := by
  cases u <;> first | (intro q; cases q; done) | cases h
theorem k_iload0 {t : List (Option Value)} {a : Int32} (S : zS x g nL cc own) (hd : decode cc pc = .ok (.iload_n 0, 1)) (hn : pc + 1 = n) (k : zK x g R nL ce sl n (some (.int a) :: t) (.int a :: st) μ) : zK x g R nL ce sl pc (some (.int a) :: t) st μ := k_iload_n S hd rfl rfl hn k
theorem k_istore0 {a0 : Option Value} {t : List (Option Value)} {a : Int32} (S : zS x g nL cc own) (hd : decode cc pc = .ok (.istore_n 0, 1)) (hb : 0 < nL) (hn : pc + 1 = n) (k : zK x g R nL ce sl n (some (.int a) :: t) st μ) : zK x g R nL ce sl pc (a0 :: t) (.int a :: st) μ := k_istore_n S hd rfl hb (fun i9 u e hu => by omega) hn k
theorem k_lload0 {t : List (Option Value)} {a : Int64} (S : zS x g nL cc own) (hd : decode cc pc = .ok (.lload_n 0, 1)) (hn : pc + 1 = n) (k : zK x g R nL ce sl n (some (.long a) :: t) (.long a :: st) μ) : zK x g R nL ce sl pc (some (.long a) :: t) st μ := k_lload_n S hd rfl rfl hn k
theorem k_lstore0 {a0 a1 : Option Value} {t : List (Option Value)} {a : Int64} (S : zS x g nL cc own) (hd : decode cc pc = .ok (.lstore_n 0, 1)) (hb : 0 + 1 < nL) (hn : pc + 1 = n) (k : zK x g R nL ce sl n (some (.long a) :: none :: t) st μ) : zK x g R nL ce sl pc (a0 :: a1 :: t) (.long a :: st) μ := k_lstore_n S hd rfl hb (fun i9 u e hu => by omega) hn k
theorem k_aload0 {t : List (Option Value)} {a : Nat} (S : zS x g nL cc own) (hd : decode cc pc = .ok (.aload_n 0, 1)) (hn : pc + 1 = n) (k : zK x g R nL ce sl n (some (.ref a) :: t) (.ref a :: st) μ) : zK x g R nL ce sl pc (some (.ref a) :: t) st μ := k_aload_n S hd rfl rfl hn k
theorem k_astore0 {a0 : Option Value} {t : List (Option Value)} {a : Nat} (S : zS x g nL cc own) (hd : decode cc pc = .ok (.astore_n 0, 1)) (hb : 0 < nL) (hn : pc + 1 = n) (k : zK x g R nL ce sl n (some (.ref a) :: t) st μ) : zK x g R nL ce sl pc (a0 :: t) (.ref a :: st) μ := k_astore_n S hd rfl hb (fun i9 u e hu => by omega) hn k
theorem k_iinc0 {t : List (Option Value)} {a v : Int32} {d : Int} (S : zS x g nL cc own) (hd : decode cc pc = .ok (.iinc 0 d, 3)) (hv : a + Int32.ofInt d = v) (hb : 0 < nL) (hn : pc + 3 = n) (k : zK x g R nL ce sl n (some (.int v) :: t) st μ) : zK x g R nL ce sl pc (some (.int a) :: t) st μ := k_iinc S hd rfl hv hb hn k
theorem k_iload1 {a0 : Option Value} {t : List (Option Value)} {a : Int32} (S : zS x g nL cc own) (hd : decode cc pc = .ok (.iload_n 1, 1)) (hn : pc + 1 = n) (k : zK x g R nL ce sl n (a0 :: some (.int a) :: t) (.int a :: st) μ) : zK x g R nL ce sl pc (a0 :: some (.int a) :: t) st μ := k_iload_n S hd rfl rfl hn k
theorem k_istore1 {a0 a1 : Option Value} {t : List (Option Value)} {a : Int32} (S : zS x g nL cc own) (hd : decode cc pc = .ok (.istore_n 1, 1)) (hb : 1 < nL) (hp : zc1 a0 = true) (hn : pc + 1 = n) (k : zK x g R nL ce sl n (a0 :: some (.int a) :: t) st μ) : zK x g R nL ce sl pc (a0 :: a1 :: t) (.int a :: st) μ := k_istore_n S hd rfl hb (fun i9 u e hu => by
    have e9 : i9 = 0 := by omega
    subst e9
    simp at hu
    subst hu
    exact zc1_ok hp) hn k
theorem k_lload1 {a0 : Option Value} {t : List (Option Value)} {a : Int64} (S : zS x g nL cc own) (hd : decode cc pc = .ok (.lload_n 1, 1)) (hn : pc + 1 = n) (k : zK x g R nL ce sl n (a0 :: some (.long a) :: t) (.long a :: st) μ) : zK x g R nL ce sl pc (a0 :: some (.long a) :: t) st μ := k_lload_n S hd rfl rfl hn k
theorem k_lstore1 {a0 a1 a2 : Option Value} {t : List (Option Value)} {a : Int64} (S : zS x g nL cc own) (hd : decode cc pc = .ok (.lstore_n 1, 1)) (hb : 1 + 1 < nL) (hp : zc1 a0 = true) (hn : pc + 1 = n) (k : zK x g R nL ce sl n (a0 :: some (.long a) :: none :: t) st μ) : zK x g R nL ce sl pc (a0 :: a1 :: a2 :: t) (.long a :: st) μ := k_lstore_n S hd rfl hb (fun i9 u e hu => by
    have e9 : i9 = 0 := by omega
    subst e9
    simp at hu
    subst hu
    exact zc1_ok hp) hn k
theorem k_aload1 {a0 : Option Value} {t : List (Option Value)} {a : Nat} (S : zS x g nL cc own) (hd : decode cc pc = .ok (.aload_n 1, 1)) (hn : pc + 1 = n) (k : zK x g R nL ce sl n (a0 :: some (.ref a) :: t) (.ref a :: st) μ) : zK x g R nL ce sl pc (a0 :: some (.ref a) :: t) st μ := k_aload_n S hd rfl rfl hn k
theorem k_astore1 {a0 a1 : Option Value} {t : List (Option Value)} {a : Nat} (S : zS x g nL cc own) (hd : decode cc pc = .ok (.astore_n 1, 1)) (hb : 1 < nL) (hp : zc1 a0 = true) (hn : pc + 1 = n) (k : zK x g R nL ce sl n (a0 :: some (.ref a) :: t) st μ) : zK x g R nL ce sl pc (a0 :: a1 :: t) (.ref a :: st) μ := k_astore_n S hd rfl hb (fun i9 u e hu => by
    have e9 : i9 = 0 := by omega
    subst e9
    simp at hu
    subst hu
    exact zc1_ok hp) hn k
theorem k_iinc1 {a0 : Option Value} {t : List (Option Value)} {a v : Int32} {d : Int} (S : zS x g nL cc own) (hd : decode cc pc = .ok (.iinc 1 d, 3)) (hv : a + Int32.ofInt d = v) (hb : 1 < nL) (hn : pc + 3 = n) (k : zK x g R nL ce sl n (a0 :: some (.int v) :: t) st μ) : zK x g R nL ce sl pc (a0 :: some (.int a) :: t) st μ := k_iinc S hd rfl hv hb hn k
theorem k_iload2 {a0 a1 : Option Value} {t : List (Option Value)} {a : Int32} (S : zS x g nL cc own) (hd : decode cc pc = .ok (.iload_n 2, 1)) (hn : pc + 1 = n) (k : zK x g R nL ce sl n (a0 :: a1 :: some (.int a) :: t) (.int a :: st) μ) : zK x g R nL ce sl pc (a0 :: a1 :: some (.int a) :: t) st μ := k_iload_n S hd rfl rfl hn k
theorem k_istore2 {a0 a1 a2 : Option Value} {t : List (Option Value)} {a : Int32} (S : zS x g nL cc own) (hd : decode cc pc = .ok (.istore_n 2, 1)) (hb : 2 < nL) (hp : zc1 a1 = true) (hn : pc + 1 = n) (k : zK x g R nL ce sl n (a0 :: a1 :: some (.int a) :: t) st μ) : zK x g R nL ce sl pc (a0 :: a1 :: a2 :: t) (.int a :: st) μ := k_istore_n S hd rfl hb (fun i9 u e hu => by
    have e9 : i9 = 1 := by omega
    subst e9
    simp at hu
    subst hu
    exact zc1_ok hp) hn k
theorem k_lload2 {a0 a1 : Option Value} {t : List (Option Value)} {a : Int64} (S : zS x g nL cc own) (hd : decode cc pc = .ok (.lload_n 2, 1)) (hn : pc + 1 = n) (k : zK x g R nL ce sl n (a0 :: a1 :: some (.long a) :: t) (.long a :: st) μ) : zK x g R nL ce sl pc (a0 :: a1 :: some (.long a) :: t) st μ := k_lload_n S hd rfl rfl hn k
theorem k_lstore2 {a0 a1 a2 a3 : Option Value} {t : List (Option Value)} {a : Int64} (S : zS x g nL cc own) (hd : decode cc pc = .ok (.lstore_n 2, 1)) (hb : 2 + 1 < nL) (hp : zc1 a1 = true) (hn : pc + 1 = n) (k : zK x g R nL ce sl n (a0 :: a1 :: some (.long a) :: none :: t) st μ) : zK x g R nL ce sl pc (a0 :: a1 :: a2 :: a3 :: t) (.long a :: st) μ := k_lstore_n S hd rfl hb (fun i9 u e hu => by
    have e9 : i9 = 1 := by omega
    subst e9
    simp at hu
    subst hu
    exact zc1_ok hp) hn k
theorem k_aload2 {a0 a1 : Option Value} {t : List (Option Value)} {a : Nat} (S : zS x g nL cc own) (hd : decode cc pc = .ok (.aload_n 2, 1)) (hn : pc + 1 = n) (k : zK x g R nL ce sl n (a0 :: a1 :: some (.ref a) :: t) (.ref a :: st) μ) : zK x g R nL ce sl pc (a0 :: a1 :: some (.ref a) :: t) st μ := k_aload_n S hd rfl rfl hn k
theorem k_astore2 {a0 a1 a2 : Option Value} {t : List (Option Value)} {a : Nat} (S : zS x g nL cc own) (hd : decode cc pc = .ok (.astore_n 2, 1)) (hb : 2 < nL) (hp : zc1 a1 = true) (hn : pc + 1 = n) (k : zK x g R nL ce sl n (a0 :: a1 :: some (.ref a) :: t) st μ) : zK x g R nL ce sl pc (a0 :: a1 :: a2 :: t) (.ref a :: st) μ := k_astore_n S hd rfl hb (fun i9 u e hu => by
    have e9 : i9 = 1 := by omega
    subst e9
    simp at hu
    subst hu
    exact zc1_ok hp) hn k
theorem k_iinc2 {a0 a1 : Option Value} {t : List (Option Value)} {a v : Int32} {d : Int} (S : zS x g nL cc own) (hd : decode cc pc = .ok (.iinc 2 d, 3)) (hv : a + Int32.ofInt d = v) (hb : 2 < nL) (hn : pc + 3 = n) (k : zK x g R nL ce sl n (a0 :: a1 :: some (.int v) :: t) st μ) : zK x g R nL ce sl pc (a0 :: a1 :: some (.int a) :: t) st μ := k_iinc S hd rfl hv hb hn k
theorem k_iload3 {a0 a1 a2 : Option Value} {t : List (Option Value)} {a : Int32} (S : zS x g nL cc own) (hd : decode cc pc = .ok (.iload_n 3, 1)) (hn : pc + 1 = n) (k : zK x g R nL ce sl n (a0 :: a1 :: a2 :: some (.int a) :: t) (.int a :: st) μ) : zK x g R nL ce sl pc (a0 :: a1 :: a2 :: some (.int a) :: t) st μ := k_iload_n S hd rfl rfl hn k
theorem k_istore3 {a0 a1 a2 a3 : Option Value} {t : List (Option Value)} {a : Int32} (S : zS x g nL cc own) (hd : decode cc pc = .ok (.istore_n 3, 1)) (hb : 3 < nL) (hp : zc1 a2 = true) (hn : pc + 1 = n) (k : zK x g R nL ce sl n (a0 :: a1 :: a2 :: some (.int a) :: t) st μ) : zK x g R nL ce sl pc (a0 :: a1 :: a2 :: a3 :: t) (.int a :: st) μ := k_istore_n S hd rfl hb (fun i9 u e hu => by
    have e9 : i9 = 2 := by omega
    subst e9
    simp at hu
    subst hu
    exact zc1_ok hp) hn k
theorem k_lload3 {a0 a1 a2 : Option Value} {t : List (Option Value)} {a : Int64} (S : zS x g nL cc own) (hd : decode cc pc = .ok (.lload_n 3, 1)) (hn : pc + 1 = n) (k : zK x g R nL ce sl n (a0 :: a1 :: a2 :: some (.long a) :: t) (.long a :: st) μ) : zK x g R nL ce sl pc (a0 :: a1 :: a2 :: some (.long a) :: t) st μ := k_lload_n S hd rfl rfl hn k
theorem k_lstore3 {a0 a1 a2 a3 a4 : Option Value} {t : List (Option Value)} {a : Int64} (S : zS x g nL cc own) (hd : decode cc pc = .ok (.lstore_n 3, 1)) (hb : 3 + 1 < nL) (hp : zc1 a2 = true) (hn : pc + 1 = n) (k : zK x g R nL ce sl n (a0 :: a1 :: a2 :: some (.long a) :: none :: t) st μ) : zK x g R nL ce sl pc (a0 :: a1 :: a2 :: a3 :: a4 :: t) (.long a :: st) μ := k_lstore_n S hd rfl hb (fun i9 u e hu => by
    have e9 : i9 = 2 := by omega
    subst e9
    simp at hu
    subst hu
    exact zc1_ok hp) hn k
theorem k_aload3 {a0 a1 a2 : Option Value} {t : List (Option Value)} {a : Nat} (S : zS x g nL cc own) (hd : decode cc pc = .ok (.aload_n 3, 1)) (hn : pc + 1 = n) (k : zK x g R nL ce sl n (a0 :: a1 :: a2 :: some (.ref a) :: t) (.ref a :: st) μ) : zK x g R nL ce sl pc (a0 :: a1 :: a2 :: some (.ref a) :: t) st μ := k_aload_n S hd rfl rfl hn k
theorem k_astore3 {a0 a1 a2 a3 : Option Value} {t : List (Option Value)} {a : Nat} (S : zS x g nL cc own) (hd : decode cc pc = .ok (.astore_n 3, 1)) (hb : 3 < nL) (hp : zc1 a2 = true) (hn : pc + 1 = n) (k : zK x g R nL ce sl n (a0 :: a1 :: a2 :: some (.ref a) :: t) st μ) : zK x g R nL ce sl pc (a0 :: a1 :: a2 :: a3 :: t) (.ref a :: st) μ := k_astore_n S hd rfl hb (fun i9 u e hu => by
    have e9 : i9 = 2 := by omega
    subst e9
    simp at hu
    subst hu
    exact zc1_ok hp) hn k
theorem k_iinc3 {a0 a1 a2 : Option Value} {t : List (Option Value)} {a v : Int32} {d : Int} (S : zS x g nL cc own) (hd : decode cc pc = .ok (.iinc 3 d, 3)) (hv : a + Int32.ofInt d = v) (hb : 3 < nL) (hn : pc + 3 = n) (k : zK x g R nL ce sl n (a0 :: a1 :: a2 :: some (.int v) :: t) st μ) : zK x g R nL ce sl pc (a0 :: a1 :: a2 :: some (.int a) :: t) st μ := k_iinc S hd rfl hv hb hn k
theorem k_iload4 {a0 a1 a2 a3 : Option Value} {t : List (Option Value)} {a : Int32} (S : zS x g nL cc own) (hd : decode cc pc = .ok (.iload 4, 2)) (hn : pc + 2 = n) (k : zK x g R nL ce sl n (a0 :: a1 :: a2 :: a3 :: some (.int a) :: t) (.int a :: st) μ) : zK x g R nL ce sl pc (a0 :: a1 :: a2 :: a3 :: some (.int a) :: t) st μ := k_iload S hd rfl hn k
theorem k_istore4 {a0 a1 a2 a3 a4 : Option Value} {t : List (Option Value)} {a : Int32} (S : zS x g nL cc own) (hd : decode cc pc = .ok (.istore 4, 2)) (hb : 4 < nL) (hp : zc1 a3 = true) (hn : pc + 2 = n) (k : zK x g R nL ce sl n (a0 :: a1 :: a2 :: a3 :: some (.int a) :: t) st μ) : zK x g R nL ce sl pc (a0 :: a1 :: a2 :: a3 :: a4 :: t) (.int a :: st) μ := k_istore S hd hb (fun i9 u e hu => by
    have e9 : i9 = 3 := by omega
    subst e9
    simp at hu
    subst hu
    exact zc1_ok hp) hn k
theorem k_lload4 {a0 a1 a2 a3 : Option Value} {t : List (Option Value)} {a : Int64} (S : zS x g nL cc own) (hd : decode cc pc = .ok (.lload 4, 2)) (hn : pc + 2 = n) (k : zK x g R nL ce sl n (a0 :: a1 :: a2 :: a3 :: some (.long a) :: t) (.long a :: st) μ) : zK x g R nL ce sl pc (a0 :: a1 :: a2 :: a3 :: some (.long a) :: t) st μ := k_lload S hd rfl hn k
theorem k_lstore4 {a0 a1 a2 a3 a4 a5 : Option Value} {t : List (Option Value)} {a : Int64} (S : zS x g nL cc own) (hd : decode cc pc = .ok (.lstore 4, 2)) (hb : 4 + 1 < nL) (hp : zc1 a3 = true) (hn : pc + 2 = n) (k : zK x g R nL ce sl n (a0 :: a1 :: a2 :: a3 :: some (.long a) :: none :: t) st μ) : zK x g R nL ce sl pc (a0 :: a1 :: a2 :: a3 :: a4 :: a5 :: t) (.long a :: st) μ := k_lstore S hd hb (fun i9 u e hu => by
    have e9 : i9 = 3 := by omega
    subst e9
    simp at hu
    subst hu
    exact zc1_ok hp) hn k
theorem k_aload4 {a0 a1 a2 a3 : Option Value} {t : List (Option Value)} {a : Nat} (S : zS x g nL cc own) (hd : decode cc pc = .ok (.aload 4, 2)) (hn : pc + 2 = n) (k : zK x g R nL ce sl n (a0 :: a1 :: a2 :: a3 :: some (.ref a) :: t) (.ref a :: st) μ) : zK x g R nL ce sl pc (a0 :: a1 :: a2 :: a3 :: some (.ref a) :: t) st μ := k_aload S hd rfl hn k
theorem k_astore4 {a0 a1 a2 a3 a4 : Option Value} {t : List (Option Value)} {a : Nat} (S : zS x g nL cc own) (hd : decode cc pc = .ok (.astore 4, 2)) (hb : 4 < nL) (hp : zc1 a3 = true) (hn : pc + 2 = n) (k : zK x g R nL ce sl n (a0 :: a1 :: a2 :: a3 :: some (.ref a) :: t) st μ) : zK x g R nL ce sl pc (a0 :: a1 :: a2 :: a3 :: a4 :: t) (.ref a :: st) μ := k_astore S hd hb (fun i9 u e hu => by
    have e9 : i9 = 3 := by omega
    subst e9
    simp at hu
    subst hu
    exact zc1_ok hp) hn k
theorem k_iinc4 {a0 a1 a2 a3 : Option Value} {t : List (Option Value)} {a v : Int32} {d : Int} (S : zS x g nL cc own) (hd : decode cc pc = .ok (.iinc 4 d, 3)) (hv : a + Int32.ofInt d = v) (hb : 4 < nL) (hn : pc + 3 = n) (k : zK x g R nL ce sl n (a0 :: a1 :: a2 :: a3 :: some (.int v) :: t) st μ) : zK x g R nL ce sl pc (a0 :: a1 :: a2 :: a3 :: some (.int a) :: t) st μ := k_iinc S hd rfl hv hb hn k
theorem k_iload5 {a0 a1 a2 a3 a4 : Option Value} {t : List (Option Value)} {a : Int32} (S : zS x g nL cc own) (hd : decode cc pc = .ok (.iload 5, 2)) (hn : pc + 2 = n) (k : zK x g R nL ce sl n (a0 :: a1 :: a2 :: a3 :: a4 :: some (.int a) :: t) (.int a :: st) μ) : zK x g R nL ce sl pc (a0 :: a1 :: a2 :: a3 :: a4 :: some (.int a) :: t) st μ := k_iload S hd rfl hn k
theorem k_istore5 {a0 a1 a2 a3 a4 a5 : Option Value} {t : List (Option Value)} {a : Int32} (S : zS x g nL cc own) (hd : decode cc pc = .ok (.istore 5, 2)) (hb : 5 < nL) (hp : zc1 a4 = true) (hn : pc + 2 = n) (k : zK x g R nL ce sl n (a0 :: a1 :: a2 :: a3 :: a4 :: some (.int a) :: t) st μ) : zK x g R nL ce sl pc (a0 :: a1 :: a2 :: a3 :: a4 :: a5 :: t) (.int a :: st) μ := k_istore S hd hb (fun i9 u e hu => by
    have e9 : i9 = 4 := by omega
    subst e9
    simp at hu
    subst hu
    exact zc1_ok hp) hn k
theorem k_lload5 {a0 a1 a2 a3 a4 : Option Value} {t : List (Option Value)} {a : Int64} (S : zS x g nL cc own) (hd : decode cc pc = .ok (.lload 5, 2)) (hn : pc + 2 = n) (k : zK x g R nL ce sl n (a0 :: a1 :: a2 :: a3 :: a4 :: some (.long a) :: t) (.long a :: st) μ) : zK x g R nL ce sl pc (a0 :: a1 :: a2 :: a3 :: a4 :: some (.long a) :: t) st μ := k_lload S hd rfl hn k
theorem k_lstore5 {a0 a1 a2 a3 a4 a5 a6 : Option Value} {t : List (Option Value)} {a : Int64} (S : zS x g nL cc own) (hd : decode cc pc = .ok (.lstore 5, 2)) (hb : 5 + 1 < nL) (hp : zc1 a4 = true) (hn : pc + 2 = n) (k : zK x g R nL ce sl n (a0 :: a1 :: a2 :: a3 :: a4 :: some (.long a) :: none :: t) st μ) : zK x g R nL ce sl pc (a0 :: a1 :: a2 :: a3 :: a4 :: a5 :: a6 :: t) (.long a :: st) μ := k_lstore S hd hb (fun i9 u e hu => by
    have e9 : i9 = 4 := by omega
    subst e9
    simp at hu
    subst hu
    exact zc1_ok hp) hn k
theorem k_aload5 {a0 a1 a2 a3 a4 : Option Value} {t : List (Option Value)} {a : Nat} (S : zS x g nL cc own) (hd : decode cc pc = .ok (.aload 5, 2)) (hn : pc + 2 = n) (k : zK x g R nL ce sl n (a0 :: a1 :: a2 :: a3 :: a4 :: some (.ref a) :: t) (.ref a :: st) μ) : zK x g R nL ce sl pc (a0 :: a1 :: a2 :: a3 :: a4 :: some (.ref a) :: t) st μ := k_aload S hd rfl hn k
theorem k_astore5 {a0 a1 a2 a3 a4 a5 : Option Value} {t : List (Option Value)} {a : Nat} (S : zS x g nL cc own) (hd : decode cc pc = .ok (.astore 5, 2)) (hb : 5 < nL) (hp : zc1 a4 = true) (hn : pc + 2 = n) (k : zK x g R nL ce sl n (a0 :: a1 :: a2 :: a3 :: a4 :: some (.ref a) :: t) st μ) : zK x g R nL ce sl pc (a0 :: a1 :: a2 :: a3 :: a4 :: a5 :: t) (.ref a :: st) μ := k_astore S hd hb (fun i9 u e hu => by
    have e9 : i9 = 4 := by omega
    subst e9
    simp at hu
    subst hu
    exact zc1_ok hp) hn k
theorem k_iinc5 {a0 a1 a2 a3 a4 : Option Value} {t : List (Option Value)} {a v : Int32} {d : Int} (S : zS x g nL cc own) (hd : decode cc pc = .ok (.iinc 5 d, 3)) (hv : a + Int32.ofInt d = v) (hb : 5 < nL) (hn : pc + 3 = n) (k : zK x g R nL ce sl n (a0 :: a1 :: a2 :: a3 :: a4 :: some (.int v) :: t) st μ) : zK x g R nL ce sl pc (a0 :: a1 :: a2 :: a3 :: a4 :: some (.int a) :: t) st μ := k_iinc S hd rfl hv hb hn k
theorem k_iload6 {a0 a1 a2 a3 a4 a5 : Option Value} {t : List (Option Value)} {a : Int32} (S : zS x g nL cc own) (hd : decode cc pc = .ok (.iload 6, 2)) (hn : pc + 2 = n) (k : zK x g R nL ce sl n (a0 :: a1 :: a2 :: a3 :: a4 :: a5 :: some (.int a) :: t) (.int a :: st) μ) : zK x g R nL ce sl pc (a0 :: a1 :: a2 :: a3 :: a4 :: a5 :: some (.int a) :: t) st μ := k_iload S hd rfl hn k
theorem k_istore6 {a0 a1 a2 a3 a4 a5 a6 : Option Value} {t : List (Option Value)} {a : Int32} (S : zS x g nL cc own) (hd : decode cc pc = .ok (.istore 6, 2)) (hb : 6 < nL) (hp : zc1 a5 = true) (hn : pc + 2 = n) (k : zK x g R nL ce sl n (a0 :: a1 :: a2 :: a3 :: a4 :: a5 :: some (.int a) :: t) st μ) : zK x g R nL ce sl pc (a0 :: a1 :: a2 :: a3 :: a4 :: a5 :: a6 :: t) (.int a :: st) μ := k_istore S hd hb (fun i9 u e hu => by
    have e9 : i9 = 5 := by omega
    subst e9
    simp at hu
    subst hu
    exact zc1_ok hp) hn k
theorem k_lload6 {a0 a1 a2 a3 a4 a5 : Option Value} {t : List (Option Value)} {a : Int64} (S : zS x g nL cc own) (hd : decode cc pc = .ok (.lload 6, 2)) (hn : pc + 2 = n) (k : zK x g R nL ce sl n (a0 :: a1 :: a2 :: a3 :: a4 :: a5 :: some (.long a) :: t) (.long a :: st) μ) : zK x g R nL ce sl pc (a0 :: a1 :: a2 :: a3 :: a4 :: a5 :: some (.long a) :: t) st μ := k_lload S hd rfl hn k
theorem k_lstore6 {a0 a1 a2 a3 a4 a5 a6 a7 : Option Value} {t : List (Option Value)} {a : Int64} (S : zS x g nL cc own) (hd : decode cc pc = .ok (.lstore 6, 2)) (hb : 6 + 1 < nL) (hp : zc1 a5 = true) (hn : pc + 2 = n) (k : zK x g R nL ce sl n (a0 :: a1 :: a2 :: a3 :: a4 :: a5 :: some (.long a) :: none :: t) st μ) : zK x g R nL ce sl pc (a0 :: a1 :: a2 :: a3 :: a4 :: a5 :: a6 :: a7 :: t) (.long a :: st) μ := k_lstore S hd hb (fun i9 u e hu => by
    have e9 : i9 = 5 := by omega
    subst e9
    simp at hu
    subst hu
    exact zc1_ok hp) hn k
theorem k_aload6 {a0 a1 a2 a3 a4 a5 : Option Value} {t : List (Option Value)} {a : Nat} (S : zS x g nL cc own) (hd : decode cc pc = .ok (.aload 6, 2)) (hn : pc + 2 = n) (k : zK x g R nL ce sl n (a0 :: a1 :: a2 :: a3 :: a4 :: a5 :: some (.ref a) :: t) (.ref a :: st) μ) : zK x g R nL ce sl pc (a0 :: a1 :: a2 :: a3 :: a4 :: a5 :: some (.ref a) :: t) st μ := k_aload S hd rfl hn k
theorem k_astore6 {a0 a1 a2 a3 a4 a5 a6 : Option Value} {t : List (Option Value)} {a : Nat} (S : zS x g nL cc own) (hd : decode cc pc = .ok (.astore 6, 2)) (hb : 6 < nL) (hp : zc1 a5 = true) (hn : pc + 2 = n) (k : zK x g R nL ce sl n (a0 :: a1 :: a2 :: a3 :: a4 :: a5 :: some (.ref a) :: t) st μ) : zK x g R nL ce sl pc (a0 :: a1 :: a2 :: a3 :: a4 :: a5 :: a6 :: t) (.ref a :: st) μ := k_astore S hd hb (fun i9 u e hu => by
    have e9 : i9 = 5 := by omega
    subst e9
    simp at hu
    subst hu
    exact zc1_ok hp) hn k
theorem k_iinc6 {a0 a1 a2 a3 a4 a5 : Option Value} {t : List (Option Value)} {a v : Int32} {d : Int} (S : zS x g nL cc own) (hd : decode cc pc = .ok (.iinc 6 d, 3)) (hv : a + Int32.ofInt d = v) (hb : 6 < nL) (hn : pc + 3 = n) (k : zK x g R nL ce sl n (a0 :: a1 :: a2 :: a3 :: a4 :: a5 :: some (.int v) :: t) st μ) : zK x g R nL ce sl pc (a0 :: a1 :: a2 :: a3 :: a4 :: a5 :: some (.int a) :: t) st μ := k_iinc S hd rfl hv hb hn k
theorem k_iload7 {a0 a1 a2 a3 a4 a5 a6 : Option Value} {t : List (Option Value)} {a : Int32} (S : zS x g nL cc own) (hd : decode cc pc = .ok (.iload 7, 2)) (hn : pc + 2 = n) (k : zK x g R nL ce sl n (a0 :: a1 :: a2 :: a3 :: a4 :: a5 :: a6 :: some (.int a) :: t) (.int a :: st) μ) : zK x g R nL ce sl pc (a0 :: a1 :: a2 :: a3 :: a4 :: a5 :: a6 :: some (.int a) :: t) st μ := k_iload S hd rfl hn k
theorem k_istore7 {a0 a1 a2 a3 a4 a5 a6 a7 : Option Value} {t : List (Option Value)} {a : Int32} (S : zS x g nL cc own) (hd : decode cc pc = .ok (.istore 7, 2)) (hb : 7 < nL) (hp : zc1 a6 = true) (hn : pc + 2 = n) (k : zK x g R nL ce sl n (a0 :: a1 :: a2 :: a3 :: a4 :: a5 :: a6 :: some (.int a) :: t) st μ) : zK x g R nL ce sl pc (a0 :: a1 :: a2 :: a3 :: a4 :: a5 :: a6 :: a7 :: t) (.int a :: st) μ := k_istore S hd hb (fun i9 u e hu => by
    have e9 : i9 = 6 := by omega
    subst e9
    simp at hu
    subst hu
    exact zc1_ok hp) hn k
theorem k_lload7 {a0 a1 a2 a3 a4 a5 a6 : Option Value} {t : List (Option Value)} {a : Int64} (S : zS x g nL cc own) (hd : decode cc pc = .ok (.lload 7, 2)) (hn : pc + 2 = n) (k : zK x g R nL ce sl n (a0 :: a1 :: a2 :: a3 :: a4 :: a5 :: a6 :: some (.long a) :: t) (.long a :: st) μ) : zK x g R nL ce sl pc (a0 :: a1 :: a2 :: a3 :: a4 :: a5 :: a6 :: some (.long a) :: t) st μ := k_lload S hd rfl hn k
theorem k_lstore7 {a0 a1 a2 a3 a4 a5 a6 a7 a8 : Option Value} {t : List (Option Value)} {a : Int64} (S : zS x g nL cc own) (hd : decode cc pc = .ok (.lstore 7, 2)) (hb : 7 + 1 < nL) (hp : zc1 a6 = true) (hn : pc + 2 = n) (k : zK x g R nL ce sl n (a0 :: a1 :: a2 :: a3 :: a4 :: a5 :: a6 :: some (.long a) :: none :: t) st μ) : zK x g R nL ce sl pc (a0 :: a1 :: a2 :: a3 :: a4 :: a5 :: a6 :: a7 :: a8 :: t) (.long a :: st) μ := k_lstore S hd hb (fun i9 u e hu => by
    have e9 : i9 = 6 := by omega
    subst e9
    simp at hu
    subst hu
    exact zc1_ok hp) hn k
theorem k_aload7 {a0 a1 a2 a3 a4 a5 a6 : Option Value} {t : List (Option Value)} {a : Nat} (S : zS x g nL cc own) (hd : decode cc pc = .ok (.aload 7, 2)) (hn : pc + 2 = n) (k : zK x g R nL ce sl n (a0 :: a1 :: a2 :: a3 :: a4 :: a5 :: a6 :: some (.ref a) :: t) (.ref a :: st) μ) : zK x g R nL ce sl pc (a0 :: a1 :: a2 :: a3 :: a4 :: a5 :: a6 :: some (.ref a) :: t) st μ := k_aload S hd rfl hn k
theorem k_astore7 {a0 a1 a2 a3 a4 a5 a6 a7 : Option Value} {t : List (Option Value)} {a : Nat} (S : zS x g nL cc own) (hd : decode cc pc = .ok (.astore 7, 2)) (hb : 7 < nL) (hp : zc1 a6 = true) (hn : pc + 2 = n) (k : zK x g R nL ce sl n (a0 :: a1 :: a2 :: a3 :: a4 :: a5 :: a6 :: some (.ref a) :: t) st μ) : zK x g R nL ce sl pc (a0 :: a1 :: a2 :: a3 :: a4 :: a5 :: a6 :: a7 :: t) (.ref a :: st) μ := k_astore S hd hb (fun i9 u e hu => by
    have e9 : i9 = 6 := by omega
    subst e9
    simp at hu
    subst hu
    exact zc1_ok hp) hn k
theorem k_iinc7 {a0 a1 a2 a3 a4 a5 a6 : Option Value} {t : List (Option Value)} {a v : Int32} {d : Int} (S : zS x g nL cc own) (hd : decode cc pc = .ok (.iinc 7 d, 3)) (hv : a + Int32.ofInt d = v) (hb : 7 < nL) (hn : pc + 3 = n) (k : zK x g R nL ce sl n (a0 :: a1 :: a2 :: a3 :: a4 :: a5 :: a6 :: some (.int v) :: t) st μ) : zK x g R nL ce sl pc (a0 :: a1 :: a2 :: a3 :: a4 :: a5 :: a6 :: some (.int a) :: t) st μ := k_iinc S hd rfl hv hb hn k
theorem k_iload8 {a0 a1 a2 a3 a4 a5 a6 a7 : Option Value} {t : List (Option Value)} {a : Int32} (S : zS x g nL cc own) (hd : decode cc pc = .ok (.iload 8, 2)) (hn : pc + 2 = n) (k : zK x g R nL ce sl n (a0 :: a1 :: a2 :: a3 :: a4 :: a5 :: a6 :: a7 :: some (.int a) :: t) (.int a :: st) μ) : zK x g R nL ce sl pc (a0 :: a1 :: a2 :: a3 :: a4 :: a5 :: a6 :: a7 :: some (.int a) :: t) st μ := k_iload S hd rfl hn k
theorem k_istore8 {a0 a1 a2 a3 a4 a5 a6 a7 a8 : Option Value} {t : List (Option Value)} {a : Int32} (S : zS x g nL cc own) (hd : decode cc pc = .ok (.istore 8, 2)) (hb : 8 < nL) (hp : zc1 a7 = true) (hn : pc + 2 = n) (k : zK x g R nL ce sl n (a0 :: a1 :: a2 :: a3 :: a4 :: a5 :: a6 :: a7 :: some (.int a) :: t) st μ) : zK x g R nL ce sl pc (a0 :: a1 :: a2 :: a3 :: a4 :: a5 :: a6 :: a7 :: a8 :: t) (.int a :: st) μ := k_istore S hd hb (fun i9 u e hu => by
    have e9 : i9 = 7 := by omega
    subst e9
    simp at hu
    subst hu
    exact zc1_ok hp) hn k
theorem k_lload8 {a0 a1 a2 a3 a4 a5 a6 a7 : Option Value} {t : List (Option Value)} {a : Int64} (S : zS x g nL cc own) (hd : decode cc pc = .ok (.lload 8, 2)) (hn : pc + 2 = n) (k : zK x g R nL ce sl n (a0 :: a1 :: a2 :: a3 :: a4 :: a5 :: a6 :: a7 :: some (.long a) :: t) (.long a :: st) μ) : zK x g R nL ce sl pc (a0 :: a1 :: a2 :: a3 :: a4 :: a5 :: a6 :: a7 :: some (.long a) :: t) st μ := k_lload S hd rfl hn k
theorem k_lstore8 {a0 a1 a2 a3 a4 a5 a6 a7 a8 a9 : Option Value} {t : List (Option Value)} {a : Int64} (S : zS x g nL cc own) (hd : decode cc pc = .ok (.lstore 8, 2)) (hb : 8 + 1 < nL) (hp : zc1 a7 = true) (hn : pc + 2 = n) (k : zK x g R nL ce sl n (a0 :: a1 :: a2 :: a3 :: a4 :: a5 :: a6 :: a7 :: some (.long a) :: none :: t) st μ) : zK x g R nL ce sl pc (a0 :: a1 :: a2 :: a3 :: a4 :: a5 :: a6 :: a7 :: a8 :: a9 :: t) (.long a :: st) μ := k_lstore S hd hb (fun i9 u e hu => by
    have e9 : i9 = 7 := by omega
    subst e9
    simp at hu
    subst hu
    exact zc1_ok hp) hn k
theorem k_aload8 {a0 a1 a2 a3 a4 a5 a6 a7 : Option Value} {t : List (Option Value)} {a : Nat} (S : zS x g nL cc own) (hd : decode cc pc = .ok (.aload 8, 2)) (hn : pc + 2 = n) (k : zK x g R nL ce sl n (a0 :: a1 :: a2 :: a3 :: a4 :: a5 :: a6 :: a7 :: some (.ref a) :: t) (.ref a :: st) μ) : zK x g R nL ce sl pc (a0 :: a1 :: a2 :: a3 :: a4 :: a5 :: a6 :: a7 :: some (.ref a) :: t) st μ := k_aload S hd rfl hn k
theorem k_astore8 {a0 a1 a2 a3 a4 a5 a6 a7 a8 : Option Value} {t : List (Option Value)} {a : Nat} (S : zS x g nL cc own) (hd : decode cc pc = .ok (.astore 8, 2)) (hb : 8 < nL) (hp : zc1 a7 = true) (hn : pc + 2 = n) (k : zK x g R nL ce sl n (a0 :: a1 :: a2 :: a3 :: a4 :: a5 :: a6 :: a7 :: some (.ref a) :: t) st μ) : zK x g R nL ce sl pc (a0 :: a1 :: a2 :: a3 :: a4 :: a5 :: a6 :: a7 :: a8 :: t) (.ref a :: st) μ := k_astore S hd hb (fun i9 u e hu => by
    have e9 : i9 = 7 := by omega
    subst e9
    simp at hu
    subst hu
    exact zc1_ok hp) hn k
theorem k_iinc8 {a0 a1 a2 a3 a4 a5 a6 a7 : Option Value} {t : List (Option Value)} {a v : Int32} {d : Int} (S : zS x g nL cc own) (hd : decode cc pc = .ok (.iinc 8 d, 3)) (hv : a + Int32.ofInt d = v) (hb : 8 < nL) (hn : pc + 3 = n) (k : zK x g R nL ce sl n (a0 :: a1 :: a2 :: a3 :: a4 :: a5 :: a6 :: a7 :: some (.int v) :: t) st μ) : zK x g R nL ce sl pc (a0 :: a1 :: a2 :: a3 :: a4 :: a5 :: a6 :: a7 :: some (.int a) :: t) st μ := k_iinc S hd rfl hv hb hn k
theorem k_iload9 {a0 a1 a2 a3 a4 a5 a6 a7 a8 : Option Value} {t : List (Option Value)} {a : Int32} (S : zS x g nL cc own) (hd : decode cc pc = .ok (.iload 9, 2)) (hn : pc + 2 = n) (k : zK x g R nL ce sl n (a0 :: a1 :: a2 :: a3 :: a4 :: a5 :: a6 :: a7 :: a8 :: some (.int a) :: t) (.int a :: st) μ) : zK x g R nL ce sl pc (a0 :: a1 :: a2 :: a3 :: a4 :: a5 :: a6 :: a7 :: a8 :: some (.int a) :: t) st μ := k_iload S hd rfl hn k
theorem k_istore9 {a0 a1 a2 a3 a4 a5 a6 a7 a8 a9 : Option Value} {t : List (Option Value)} {a : Int32} (S : zS x g nL cc own) (hd : decode cc pc = .ok (.istore 9, 2)) (hb : 9 < nL) (hp : zc1 a8 = true) (hn : pc + 2 = n) (k : zK x g R nL ce sl n (a0 :: a1 :: a2 :: a3 :: a4 :: a5 :: a6 :: a7 :: a8 :: some (.int a) :: t) st μ) : zK x g R nL ce sl pc (a0 :: a1 :: a2 :: a3 :: a4 :: a5 :: a6 :: a7 :: a8 :: a9 :: t) (.int a :: st) μ := k_istore S hd hb (fun i9 u e hu => by
    have e9 : i9 = 8 := by omega
    subst e9
    simp at hu
    subst hu
    exact zc1_ok hp) hn k
theorem k_lload9 {a0 a1 a2 a3 a4 a5 a6 a7 a8 : Option Value} {t : List (Option Value)} {a : Int64} (S : zS x g nL cc own) (hd : decode cc pc = .ok (.lload 9, 2)) (hn : pc + 2 = n) (k : zK x g R nL ce sl n (a0 :: a1 :: a2 :: a3 :: a4 :: a5 :: a6 :: a7 :: a8 :: some (.long a) :: t) (.long a :: st) μ) : zK x g R nL ce sl pc (a0 :: a1 :: a2 :: a3 :: a4 :: a5 :: a6 :: a7 :: a8 :: some (.long a) :: t) st μ := k_lload S hd rfl hn k
theorem k_lstore9 {a0 a1 a2 a3 a4 a5 a6 a7 a8 a9 a10 : Option Value} {t : List (Option Value)} {a : Int64} (S : zS x g nL cc own) (hd : decode cc pc = .ok (.lstore 9, 2)) (hb : 9 + 1 < nL) (hp : zc1 a8 = true) (hn : pc + 2 = n) (k : zK x g R nL ce sl n (a0 :: a1 :: a2 :: a3 :: a4 :: a5 :: a6 :: a7 :: a8 :: some (.long a) :: none :: t) st μ) : zK x g R nL ce sl pc (a0 :: a1 :: a2 :: a3 :: a4 :: a5 :: a6 :: a7 :: a8 :: a9 :: a10 :: t) (.long a :: st) μ := k_lstore S hd hb (fun i9 u e hu => by
    have e9 : i9 = 8 := by omega
    subst e9
    simp at hu
    subst hu
    exact zc1_ok hp) hn k
theorem k_aload9 {a0 a1 a2 a3 a4 a5 a6 a7 a8 : Option Value} {t : List (Option Value)} {a : Nat} (S : zS x g nL cc own) (hd : decode cc pc = .ok (.aload 9, 2)) (hn : pc + 2 = n) (k : zK x g R nL ce sl n (a0 :: a1 :: a2 :: a3 :: a4 :: a5 :: a6 :: a7 :: a8 :: some (.ref a) :: t) (.ref a :: st) μ) : zK x g R nL ce sl pc (a0 :: a1 :: a2 :: a3 :: a4 :: a5 :: a6 :: a7 :: a8 :: some (.ref a) :: t) st μ := k_aload S hd rfl hn k
theorem k_astore9 {a0 a1 a2 a3 a4 a5 a6 a7 a8 a9 : Option Value} {t : List (Option Value)} {a : Nat} (S : zS x g nL cc own) (hd : decode cc pc = .ok (.astore 9, 2)) (hb : 9 < nL) (hp : zc1 a8 = true) (hn : pc + 2 = n) (k : zK x g R nL ce sl n (a0 :: a1 :: a2 :: a3 :: a4 :: a5 :: a6 :: a7 :: a8 :: some (.ref a) :: t) st μ) : zK x g R nL ce sl pc (a0 :: a1 :: a2 :: a3 :: a4 :: a5 :: a6 :: a7 :: a8 :: a9 :: t) (.ref a :: st) μ := k_astore S hd hb (fun i9 u e hu => by
    have e9 : i9 = 8 := by omega
    subst e9
    simp at hu
    subst hu
    exact zc1_ok hp) hn k
theorem k_iinc9 {a0 a1 a2 a3 a4 a5 a6 a7 a8 : Option Value} {t : List (Option Value)} {a v : Int32} {d : Int} (S : zS x g nL cc own) (hd : decode cc pc = .ok (.iinc 9 d, 3)) (hv : a + Int32.ofInt d = v) (hb : 9 < nL) (hn : pc + 3 = n) (k : zK x g R nL ce sl n (a0 :: a1 :: a2 :: a3 :: a4 :: a5 :: a6 :: a7 :: a8 :: some (.int v) :: t) st μ) : zK x g R nL ce sl pc (a0 :: a1 :: a2 :: a3 :: a4 :: a5 :: a6 :: a7 :: a8 :: some (.int a) :: t) st μ := k_iinc S hd rfl hv hb hn k
theorem k_iload10 {a0 a1 a2 a3 a4 a5 a6 a7 a8 a9 : Option Value} {t : List (Option Value)} {a : Int32} (S : zS x g nL cc own) (hd : decode cc pc = .ok (.iload 10, 2)) (hn : pc + 2 = n) (k : zK x g R nL ce sl n (a0 :: a1 :: a2 :: a3 :: a4 :: a5 :: a6 :: a7 :: a8 :: a9 :: some (.int a) :: t) (.int a :: st) μ) : zK x g R nL ce sl pc (a0 :: a1 :: a2 :: a3 :: a4 :: a5 :: a6 :: a7 :: a8 :: a9 :: some (.int a) :: t) st μ := k_iload S hd rfl hn k
theorem k_istore10 {a0 a1 a2 a3 a4 a5 a6 a7 a8 a9 a10 : Option Value} {t : List (Option Value)} {a : Int32} (S : zS x g nL cc own) (hd : decode cc pc = .ok (.istore 10, 2)) (hb : 10 < nL) (hp : zc1 a9 = true) (hn : pc + 2 = n) (k : zK x g R nL ce sl n (a0 :: a1 :: a2 :: a3 :: a4 :: a5 :: a6 :: a7 :: a8 :: a9 :: some (.int a) :: t) st μ) : zK x g R nL ce sl pc (a0 :: a1 :: a2 :: a3 :: a4 :: a5 :: a6 :: a7 :: a8 :: a9 :: a10 :: t) (.int a :: st) μ := k_istore S hd hb (fun i9 u e hu => by
    have e9 : i9 = 9 := by omega
    subst e9
    simp at hu
    subst hu
    exact zc1_ok hp) hn k
theorem k_lload10 {a0 a1 a2 a3 a4 a5 a6 a7 a8 a9 : Option Value} {t : List (Option Value)} {a : Int64} (S : zS x g nL cc own) (hd : decode cc pc = .ok (.lload 10, 2)) (hn : pc + 2 = n) (k : zK x g R nL ce sl n (a0 :: a1 :: a2 :: a3 :: a4 :: a5 :: a6 :: a7 :: a8 :: a9 :: some (.long a) :: t) (.long a :: st) μ) : zK x g R nL ce sl pc (a0 :: a1 :: a2 :: a3 :: a4 :: a5 :: a6 :: a7 :: a8 :: a9 :: some (.long a) :: t) st μ := k_lload S hd rfl hn k
theorem k_lstore10 {a0 a1 a2 a3 a4 a5 a6 a7 a8 a9 a10 a11 : Option Value} {t : List (Option Value)} {a : Int64} (S : zS x g nL cc own) (hd : decode cc pc = .ok (.lstore 10, 2)) (hb : 10 + 1 < nL) (hp : zc1 a9 = true) (hn : pc + 2 = n) (k : zK x g R nL ce sl n (a0 :: a1 :: a2 :: a3 :: a4 :: a5 :: a6 :: a7 :: a8 :: a9 :: some (.long a) :: none :: t) st μ) : zK x g R nL ce sl pc (a0 :: a1 :: a2 :: a3 :: a4 :: a5 :: a6 :: a7 :: a8 :: a9 :: a10 :: a11 :: t) (.long a :: st) μ := k_lstore S hd hb (fun i9 u e hu => by
    have e9 : i9 = 9 := by omega
    subst e9
    simp at hu
    subst hu
    exact zc1_ok hp) hn k
theorem k_aload10 {a0 a1 a2 a3 a4 a5 a6 a7 a8 a9 : Option Value} {t : List (Option Value)} {a : Nat} (S : zS x g nL cc own) (hd : decode cc pc = .ok (.aload 10, 2)) (hn : pc + 2 = n) (k : zK x g R nL ce sl n (a0 :: a1 :: a2 :: a3 :: a4 :: a5 :: a6 :: a7 :: a8 :: a9 :: some (.ref a) :: t) (.ref a :: st) μ) : zK x g R nL ce sl pc (a0 :: a1 :: a2 :: a3 :: a4 :: a5 :: a6 :: a7 :: a8 :: a9 :: some (.ref a) :: t) st μ := k_aload S hd rfl hn k
theorem k_astore10 {a0 a1 a2 a3 a4 a5 a6 a7 a8 a9 a10 : Option Value} {t : List (Option Value)} {a : Nat} (S : zS x g nL cc own) (hd : decode cc pc = .ok (.astore 10, 2)) (hb : 10 < nL) (hp : zc1 a9 = true) (hn : pc + 2 = n) (k : zK x g R nL ce sl n (a0 :: a1 :: a2 :: a3 :: a4 :: a5 :: a6 :: a7 :: a8 :: a9 :: some (.ref a) :: t) st μ) : zK x g R nL ce sl pc (a0 :: a1 :: a2 :: a3 :: a4 :: a5 :: a6 :: a7 :: a8 :: a9 :: a10 :: t) (.ref a :: st) μ := k_astore S hd hb (fun i9 u e hu => by
    have e9 : i9 = 9 := by omega
    subst e9
    simp at hu
    subst hu
    exact zc1_ok hp) hn k
theorem k_iinc10 {a0 a1 a2 a3 a4 a5 a6 a7 a8 a9 : Option Value} {t : List (Option Value)} {a v : Int32} {d : Int} (S : zS x g nL cc own) (hd : decode cc pc = .ok (.iinc 10 d, 3)) (hv : a + Int32.ofInt d = v) (hb : 10 < nL) (hn : pc + 3 = n) (k : zK x g R nL ce sl n (a0 :: a1 :: a2 :: a3 :: a4 :: a5 :: a6 :: a7 :: a8 :: a9 :: some (.int v) :: t) st μ) : zK x g R nL ce sl pc (a0 :: a1 :: a2 :: a3 :: a4 :: a5 :: a6 :: a7 :: a8 :: a9 :: some (.int a) :: t) st μ := k_iinc S hd rfl hv hb hn k
theorem k_iload11 {a0 a1 a2 a3 a4 a5 a6 a7 a8 a9 a10 : Option Value} {t : List (Option Value)} {a : Int32} (S : zS x g nL cc own) (hd : decode cc pc = .ok (.iload 11, 2)) (hn : pc + 2 = n) (k : zK x g R nL ce sl n (a0 :: a1 :: a2 :: a3 :: a4 :: a5 :: a6 :: a7 :: a8 :: a9 :: a10 :: some (.int a) :: t) (.int a :: st) μ) : zK x g R nL ce sl pc (a0 :: a1 :: a2 :: a3 :: a4 :: a5 :: a6 :: a7 :: a8 :: a9 :: a10 :: some (.int a) :: t) st μ := k_iload S hd rfl hn k
theorem k_istore11 {a0 a1 a2 a3 a4 a5 a6 a7 a8 a9 a10 a11 : Option Value} {t : List (Option Value)} {a : Int32} (S : zS x g nL cc own) (hd : decode cc pc = .ok (.istore 11, 2)) (hb : 11 < nL) (hp : zc1 a10 = true) (hn : pc + 2 = n) (k : zK x g R nL ce sl n (a0 :: a1 :: a2 :: a3 :: a4 :: a5 :: a6 :: a7 :: a8 :: a9 :: a10 :: some (.int a) :: t) st μ) : zK x g R nL ce sl pc (a0 :: a1 :: a2 :: a3 :: a4 :: a5 :: a6 :: a7 :: a8 :: a9 :: a10 :: a11 :: t) (.int a :: st) μ := k_istore S hd hb (fun i9 u e hu => by
    have e9 : i9 = 10 := by omega
    subst e9
    simp at hu
    subst hu
    exact zc1_ok hp) hn k
theorem k_lload11 {a0 a1 a2 a3 a4 a5 a6 a7 a8 a9 a10 : Option Value} {t : List (Option Value)} {a : Int64} (S : zS x g nL cc own) (hd : decode cc pc = .ok (.lload 11, 2)) (hn : pc + 2 = n) (k : zK x g R nL ce sl n (a0 :: a1 :: a2 :: a3 :: a4 :: a5 :: a6 :: a7 :: a8 :: a9 :: a10 :: some (.long a) :: t) (.long a :: st) μ) : zK x g R nL ce sl pc (a0 :: a1 :: a2 :: a3 :: a4 :: a5 :: a6 :: a7 :: a8 :: a9 :: a10 :: some (.long a) :: t) st μ := k_lload S hd rfl hn k
theorem k_lstore11 {a0 a1 a2 a3 a4 a5 a6 a7 a8 a9 a10 a11 a12 : Option Value} {t : List (Option Value)} {a : Int64} (S : zS x g nL cc own) (hd : decode cc pc = .ok (.lstore 11, 2)) (hb : 11 + 1 < nL) (hp : zc1 a10 = true) (hn : pc + 2 = n) (k : zK x g R nL ce sl n (a0 :: a1 :: a2 :: a3 :: a4 :: a5 :: a6 :: a7 :: a8 :: a9 :: a10 :: some (.long a) :: none :: t) st μ) : zK x g R nL ce sl pc (a0 :: a1 :: a2 :: a3 :: a4 :: a5 :: a6 :: a7 :: a8 :: a9 :: a10 :: a11 :: a12 :: t) (.long a :: st) μ := k_lstore S hd hb (fun i9 u e hu => by
    have e9 : i9 = 10 := by omega
    subst e9
    simp at hu
    subst hu
    exact zc1_ok hp) hn k
theorem k_aload11 {a0 a1 a2 a3 a4 a5 a6 a7 a8 a9 a10 : Option Value} {t : List (Option Value)} {a : Nat} (S : zS x g nL cc own) (hd : decode cc pc = .ok (.aload 11, 2)) (hn : pc + 2 = n) (k : zK x g R nL ce sl n (a0 :: a1 :: a2 :: a3 :: a4 :: a5 :: a6 :: a7 :: a8 :: a9 :: a10 :: some (.ref a) :: t) (.ref a :: st) μ) : zK x g R nL ce sl pc (a0 :: a1 :: a2 :: a3 :: a4 :: a5 :: a6 :: a7 :: a8 :: a9 :: a10 :: some (.ref a) :: t) st μ := k_aload S hd rfl hn k
theorem k_astore11 {a0 a1 a2 a3 a4 a5 a6 a7 a8 a9 a10 a11 : Option Value} {t : List (Option Value)} {a : Nat} (S : zS x g nL cc own) (hd : decode cc pc = .ok (.astore 11, 2)) (hb : 11 < nL) (hp : zc1 a10 = true) (hn : pc + 2 = n) (k : zK x g R nL ce sl n (a0 :: a1 :: a2 :: a3 :: a4 :: a5 :: a6 :: a7 :: a8 :: a9 :: a10 :: some (.ref a) :: t) st μ) : zK x g R nL ce sl pc (a0 :: a1 :: a2 :: a3 :: a4 :: a5 :: a6 :: a7 :: a8 :: a9 :: a10 :: a11 :: t) (.ref a :: st) μ := k_astore S hd hb (fun i9 u e hu => by
    have e9 : i9 = 10 := by omega
    subst e9
    simp at hu
    subst hu
    exact zc1_ok hp) hn k
theorem k_iinc11 {a0 a1 a2 a3 a4 a5 a6 a7 a8 a9 a10 : Option Value} {t : List (Option Value)} {a v : Int32} {d : Int} (S : zS x g nL cc own) (hd : decode cc pc = .ok (.iinc 11 d, 3)) (hv : a + Int32.ofInt d = v) (hb : 11 < nL) (hn : pc + 3 = n) (k : zK x g R nL ce sl n (a0 :: a1 :: a2 :: a3 :: a4 :: a5 :: a6 :: a7 :: a8 :: a9 :: a10 :: some (.int v) :: t) st μ) : zK x g R nL ce sl pc (a0 :: a1 :: a2 :: a3 :: a4 :: a5 :: a6 :: a7 :: a8 :: a9 :: a10 :: some (.int a) :: t) st μ := k_iinc S hd rfl hv hb hn k
theorem k_iload12 {a0 a1 a2 a3 a4 a5 a6 a7 a8 a9 a10 a11 : Option Value} {t : List (Option Value)} {a : Int32} (S : zS x g nL cc own) (hd : decode cc pc = .ok (.iload 12, 2)) (hn : pc + 2 = n) (k : zK x g R nL ce sl n (a0 :: a1 :: a2 :: a3 :: a4 :: a5 :: a6 :: a7 :: a8 :: a9 :: a10 :: a11 :: some (.int a) :: t) (.int a :: st) μ) : zK x g R nL ce sl pc (a0 :: a1 :: a2 :: a3 :: a4 :: a5 :: a6 :: a7 :: a8 :: a9 :: a10 :: a11 :: some (.int a) :: t) st μ := k_iload S hd rfl hn k
theorem k_istore12 {a0 a1 a2 a3 a4 a5 a6 a7 a8 a9 a10 a11 a12 : Option Value} {t : List (Option Value)} {a : Int32} (S : zS x g nL cc own) (hd : decode cc pc = .ok (.istore 12, 2)) (hb : 12 < nL) (hp : zc1 a11 = true) (hn : pc + 2 = n) (k : zK x g R nL ce sl n (a0 :: a1 :: a2 :: a3 :: a4 :: a5 :: a6 :: a7 :: a8 :: a9 :: a10 :: a11 :: some (.int a) :: t) st μ) : zK x g R nL ce sl pc (a0 :: a1 :: a2 :: a3 :: a4 :: a5 :: a6 :: a7 :: a8 :: a9 :: a10 :: a11 :: a12 :: t) (.int a :: st) μ := k_istore S hd hb (fun i9 u e hu => by
    have e9 : i9 = 11 := by omega
    subst e9
    simp at hu
    subst hu
    exact zc1_ok hp) hn k
theorem k_lload12 {a0 a1 a2 a3 a4 a5 a6 a7 a8 a9 a10 a11 : Option Value} {t : List (Option Value)} {a : Int64} (S : zS x g nL cc own) (hd : decode cc pc = .ok (.lload 12, 2)) (hn : pc + 2 = n) (k : zK x g R nL ce sl n (a0 :: a1 :: a2 :: a3 :: a4 :: a5 :: a6 :: a7 :: a8 :: a9 :: a10 :: a11 :: some (.long a) :: t) (.long a :: st) μ) : zK x g R nL ce sl pc (a0 :: a1 :: a2 :: a3 :: a4 :: a5 :: a6 :: a7 :: a8 :: a9 :: a10 :: a11 :: some (.long a) :: t) st μ := k_lload S hd rfl hn k
theorem k_lstore12 {a0 a1 a2 a3 a4 a5 a6 a7 a8 a9 a10 a11 a12 a13 : Option Value} {t : List (Option Value)} {a : Int64} (S : zS x g nL cc own) (hd : decode cc pc = .ok (.lstore 12, 2)) (hb : 12 + 1 < nL) (hp : zc1 a11 = true) (hn : pc + 2 = n) (k : zK x g R nL ce sl n (a0 :: a1 :: a2 :: a3 :: a4 :: a5 :: a6 :: a7 :: a8 :: a9 :: a10 :: a11 :: some (.long a) :: none :: t) st μ) : zK x g R nL ce sl pc (a0 :: a1 :: a2 :: a3 :: a4 :: a5 :: a6 :: a7 :: a8 :: a9 :: a10 :: a11 :: a12 :: a13 :: t) (.long a :: st) μ := k_lstore S hd hb (fun i9 u e hu => by
    have e9 : i9 = 11 := by omega
    subst e9
    simp at hu
    subst hu
    exact zc1_ok hp) hn k
theorem k_aload12 {a0 a1 a2 a3 a4 a5 a6 a7 a8 a9 a10 a11 : Option Value} {t : List (Option Value)} {a : Nat} (S : zS x g nL cc own) (hd : decode cc pc = .ok (.aload 12, 2)) (hn : pc + 2 = n) (k : zK x g R nL ce sl n (a0 :: a1 :: a2 :: a3 :: a4 :: a5 :: a6 :: a7 :: a8 :: a9 :: a10 :: a11 :: some (.ref a) :: t) (.ref a :: st) μ) : zK x g R nL ce sl pc (a0 :: a1 :: a2 :: a3 :: a4 :: a5 :: a6 :: a7 :: a8 :: a9 :: a10 :: a11 :: some (.ref a) :: t) st μ := k_aload S hd rfl hn k
theorem k_astore12 {a0 a1 a2 a3 a4 a5 a6 a7 a8 a9 a10 a11 a12 : Option Value} {t : List (Option Value)} {a : Nat} (S : zS x g nL cc own) (hd : decode cc pc = .ok (.astore 12, 2)) (hb : 12 < nL) (hp : zc1 a11 = true) (hn : pc + 2 = n) (k : zK x g R nL ce sl n (a0 :: a1 :: a2 :: a3 :: a4 :: a5 :: a6 :: a7 :: a8 :: a9 :: a10 :: a11 :: some (.ref a) :: t) st μ) : zK x g R nL ce sl pc (a0 :: a1 :: a2 :: a3 :: a4 :: a5 :: a6 :: a7 :: a8 :: a9 :: a10 :: a11 :: a12 :: t) (.ref a :: st) μ := k_astore S hd hb (fun i9 u e hu => by
    have e9 : i9 = 11 := by omega
    subst e9
    simp at hu
    subst hu
    exact zc1_ok hp) hn k
theorem k_iinc12 {a0 a1 a2 a3 a4 a5 a6 a7 a8 a9 a10 a11 : Option Value} {t : List (Option Value)} {a v : Int32} {d : Int} (S : zS x g nL cc own) (hd : decode cc pc = .ok (.iinc 12 d, 3)) (hv : a + Int32.ofInt d = v) (hb : 12 < nL) (hn : pc + 3 = n) (k : zK x g R nL ce sl n (a0 :: a1 :: a2 :: a3 :: a4 :: a5 :: a6 :: a7 :: a8 :: a9 :: a10 :: a11 :: some (.int v) :: t) st μ) : zK x g R nL ce sl pc (a0 :: a1 :: a2 :: a3 :: a4 :: a5 :: a6 :: a7 :: a8 :: a9 :: a10 :: a11 :: some (.int a) :: t) st μ := k_iinc S hd rfl hv hb hn k
/-! fields: an object's, of kind ci, at place p, its slot j -/
theorem k_get {C : String} {T : u_T} {N ci p j index : Nat} {ref : String} (S : zS x g nL cc own) (hd : decode cc pc = .ok (.getfield index, 3)) (hp : p < zn g) (hk : zki p = ci) (hc : vwCl[ci]? = some (C, T, N)) (hNN : N = zN ci) (hj : j < N) (hin : ∀ w ∈ u_ws C T N, w ∈ zU) (hw : Cond.fieldLink own index ref (T j).2.1 (T j).2.2.1 ∈ zU) (href : (T j).1 = ref) (hn : pc + 3 = n)
    (k : zK x g R nL ce sl n L (zsl g (μ.1 p) ci j :: st) μ) : zK x g R nL ce sl pc L (.ref (za g p) :: st) μ := by
  subst hn; subst hNN; subst href
  intro H locs ls hP hS hl
  have h5 : ci < 5 := by
    have h9 := (List.getElem?_eq_some_iff.mp hc).1
    exact Nat.lt_of_lt_of_le h9 (by decide)
  have he := zW_get g μ hp
  rw [zcell_obj g (μ.1 p) μ.2 hk h5] at he
  exact va_get S.ex S.by S.ts hin S.own S.K hP p he hc j hj (S.ts _ hw) (fun _ h9 => h9) (zfs_get g _ hj) hd (k H locs ls hP hS hl)
theorem k_geti {C : String} {T : u_T} {N ci p j index : Nat} {ref : String} (S : zS x g nL cc own) (hd : decode cc pc = .ok (.getfield index, 3)) (hp : p < zn g) (hk : zki p = ci) (hc : vwCl[ci]? = some (C, T, N)) (hNN : N = zN ci) (hj : j < N) (hin : ∀ w ∈ u_ws C T N, w ∈ zU) (hw : Cond.fieldLink own index ref (T j).2.1 (T j).2.2.1 ∈ zU) (href : (T j).1 = ref) (hr : zref ci j = none) (hn : pc + 3 = n)
    (k : zK x g R nL ce sl n L (.int (μ.1 p j) :: st) μ) : zK x g R nL ce sl pc L (.ref (za g p) :: st) μ :=
  k_get S hd hp hk hc hNN hj hin hw href hn (by simp only [zsl, hr]; exact k)
theorem k_getv {C : String} {T : u_T} {N ci p j index : Nat} {ref : String} {v : Int32} (S : zS x g nL cc own) (hd : decode cc pc = .ok (.getfield index, 3)) (hp : p < zn g) (hk : zki p = ci) (hc : vwCl[ci]? = some (C, T, N)) (hNN : N = zN ci) (hj : j < N) (hin : ∀ w ∈ u_ws C T N, w ∈ zU) (hw : Cond.fieldLink own index ref (T j).2.1 (T j).2.2.1 ∈ zU) (href : (T j).1 = ref) (hr : zref ci j = none) (hv : μ.1 p j = v) (hn : pc + 3 = n)
    (k : zK x g R nL ce sl n L (.int v :: st) μ) : zK x g R nL ce sl pc L (.ref (za g p) :: st) μ :=
  k_geti S hd hp hk hc hNN hj hin hw href hr hn (by rw [hv]; exact k)
theorem k_getr {C : String} {T : u_T} {N ci p j index r : Nat} {ref : String} (S : zS x g nL cc own) (hd : decode cc pc = .ok (.getfield index, 3)) (hp : p < zn g) (hk : zki p = ci) (hc : vwCl[ci]? = some (C, T, N)) (hNN : N = zN ci) (hj : j < N) (hin : ∀ w ∈ u_ws C T N, w ∈ zU) (hw : Cond.fieldLink own index ref (T j).2.1 (T j).2.2.1 ∈ zU) (href : (T j).1 = ref) (hr : zref ci j = some r) (hn : pc + 3 = n)
    (k : zK x g R nL ce sl n L (.ref (za g r) :: st) μ) : zK x g R nL ce sl pc L (.ref (za g p) :: st) μ :=
  k_get S hd hp hk hc hNN hj hin hw href hn (by simp only [zsl, hr]; exact k)
theorem k_put {C : String} {T : u_T} {N ci p j index : Nat} {ref : String} {ty0 : Nat → FieldType} {a : Int32} (S : zS x g nL cc own) (hd : decode cc pc = .ok (.putfield index, 3)) (hp : p < zn g) (hk : zki p = ci) (hc : vwCl[ci]? = some (C, T, N)) (hNN : N = zN ci) (hj : j < N) (hin : ∀ w ∈ u_ws C T N, w ∈ zU) (hw : Cond.fieldLink own index ref (T j).2.1 (T j).2.2.1 ∈ zU) (href : (T j).1 = ref) (hr : zref ci j = none)
    (hty : ∀ k, k < N → parseFieldDescriptor (T k).2.2.1 = some (ty0 k)) (hnm : ∀ a, a < N → ∀ b, b < N → a ≠ b → (T a).2.1 ≠ (T b).2.1) (hfin : (T j).2.2.2 = false) (hna : narrow (ty0 j) (.int a) = .int a) (hfi : fits (ty0 j) (.int a) = true) (hn : pc + 3 = n)
    (k : zK x g R nL ce sl n L st (zu μ p j a)) : zK x g R nL ce sl pc L (.int a :: .ref (za g p) :: st) μ := by
  subst hn; subst hNN; subst href
  intro H locs ls hP hS hl
  have h5 : ci < 5 := by
    have h9 := (List.getElem?_eq_some_iff.mp hc).1
    exact Nat.lt_of_lt_of_le h9 (by decide)
  have he := zW_get g μ hp
  rw [zcell_obj g (μ.1 p) μ.2 hk h5] at he
  refine va_put S.ex S.by S.ts hin ty0 hty hnm S.own S.K hP (S.ok.D μ) hS p he hc j hj (S.ts _ hw) (fun _ h9 => h9) hfin (hty j hj) hna hfi (by simp [zfs]; exact hj) hd (fun H1 locs1 hP1 hD1 hS1 => ?_)
  have e1 : (zW g μ).set p (za g p, .inr (ci, (zfs g (μ.1 p) ci).set j (.int a))) = zW g (zu μ p j a) := by
    rw [zfs_set g (μ.1 p) a hr, ← zcell_obj g _ μ.2 hk h5]
    exact zW_zu g μ p j a
  rw [e1] at hP1
  exact k H1 locs1 ls hP1 hS1 hl
theorem k_putz {C : String} {T : u_T} {N ci p j index : Nat} {ref : String} {ty0 : Nat → FieldType} {a : Int32} {f : Nat → Int32} (S : zS x g nL cc own) (hd : decode cc pc = .ok (.putfield index, 3)) (hp : p < zn g) (hk : zki p = ci) (hc : vwCl[ci]? = some (C, T, N)) (hNN : N = zN ci) (hj : j < N) (hin : ∀ w ∈ u_ws C T N, w ∈ zU) (hw : Cond.fieldLink own index ref (T j).2.1 (T j).2.2.1 ∈ zU) (href : (T j).1 = ref) (hr : zref ci j = none)
    (hty : ∀ k, k < N → parseFieldDescriptor (T k).2.2.1 = some (ty0 k)) (hnm : ∀ a, a < N → ∀ b, b < N → a ≠ b → (T a).2.1 ≠ (T b).2.1) (hfin : (T j).2.2.2 = false) (hna : narrow (ty0 j) (.int a) = .int a) (hfi : fits (ty0 j) (.int a) = true) (hn : pc + 3 = n)
    (k : zK x g R nL ce sl n L st (zset μ p (upd f j a))) : zK x g R nL ce sl pc L (.int a :: .ref (za g p) :: st) (zset μ p f) :=
  k_put S hd hp hk hc hNN hj hin hw href hr hty hnm hfin hna hfi hn (by rw [zu_zset]; exact k)
/-! rows -/
theorem k_iald {p j : Nat} {i : Int32} (S : zS x g nL cc own) (hd : decode cc pc = .ok (.iaload, 1)) (hp : p < zn g) (hk : zki p = 5) (hi : i = nI j) (hj : j < zlen p) (hz : zlen p < 2 ^ 31) (hn : pc + 1 = n)
    (k : zK x g R nL ce sl n L (.int (μ.1 p j) :: st) μ) : zK x g R nL ce sl pc L (.int i :: .ref (za g p) :: st) μ := by
  subst hn; subst hi
  intro H locs ls hP hS hl
  have he := zW_get g μ hp
  rw [zcell_row g (μ.1 p) μ.2 hk (Or.inl rfl)] at he
  have ht := zTy_get g hp
  have ht2 : (zTy g)[p]? = some (zc g p, .int) := by rw [ht]; simp [zty, hk]
  have h2 := va_iald (i := nI j) S.ex S.by S.K hP p p he ht2 (vp_in_nI hj hz) hd (args := xa x) (m := xm x) (ls := ls) (rest := st) (pc := pc) (e := xe x) (R := R) (l := xl x) (below := xb x) (meth := xh x) (locs := locs) (cells := ce) (slots := sl) (Q := xQ x)
  rw [nI_clamp (Nat.lt_trans hj hz)] at h2
  exact h2 (k H locs ls hP hS hl)
theorem k_zald {p j : Nat} {i : Int32} (S : zS x g nL cc own) (hd : decode cc pc = .ok (.baload, 1)) (hp : p < zn g) (hk : zki p = 7) (hi : i = nI j) (hj : j < zlen p) (hz : zlen p < 2 ^ 31) (hn : pc + 1 = n)
    (k : zK x g R nL ce sl n L (.int (μ.1 p j) :: st) μ) : zK x g R nL ce sl pc L (.int i :: .ref (za g p) :: st) μ := by
  subst hn; subst hi
  intro H locs ls hP hS hl
  have he := zW_get g μ hp
  rw [zcell_row g (μ.1 p) μ.2 hk (Or.inr rfl)] at he
  have ht := zTy_get g hp
  have ht2 : (zTy g)[p]? = some (zc g p, .boolean) := by rw [ht]; simp [zty, hk]
  have h2 := va_zald (i := nI j) S.ex S.by S.K hP p p he ht2 (vp_in_nI hj hz) hd (args := xa x) (m := xm x) (ls := ls) (rest := st) (pc := pc) (e := xe x) (R := R) (l := xl x) (below := xb x) (meth := xh x) (locs := locs) (cells := ce) (slots := sl) (Q := xQ x)
  rw [nI_clamp (Nat.lt_trans hj hz)] at h2
  exact h2 (k H locs ls hP hS hl)
theorem k_ialdv {p j : Nat} {i v : Int32} (S : zS x g nL cc own) (hd : decode cc pc = .ok (.iaload, 1)) (hp : p < zn g) (hk : zki p = 5) (hi : i = nI j) (hj : j < zlen p) (hz : zlen p < 2 ^ 31) (hv : μ.1 p j = v) (hn : pc + 1 = n)
    (k : zK x g R nL ce sl n L (.int v :: st) μ) : zK x g R nL ce sl pc L (.int i :: .ref (za g p) :: st) μ := k_iald S hd hp hk hi hj hz hn (by rw [hv]; exact k)
theorem k_zaldv {p j : Nat} {i v : Int32} (S : zS x g nL cc own) (hd : decode cc pc = .ok (.baload, 1)) (hp : p < zn g) (hk : zki p = 7) (hi : i = nI j) (hj : j < zlen p) (hz : zlen p < 2 ^ 31) (hv : μ.1 p j = v) (hn : pc + 1 = n)
    (k : zK x g R nL ce sl n L (.int v :: st) μ) : zK x g R nL ce sl pc L (.int i :: .ref (za g p) :: st) μ := k_zald S hd hp hk hi hj hz hn (by rw [hv]; exact k)
theorem k_iast {p j : Nat} {i a : Int32} (S : zS x g nL cc own) (hd : decode cc pc = .ok (.iastore, 1)) (hp : p < zn g) (hk : zki p = 5) (hi : i = nI j) (hj : j < zlen p) (hz : zlen p < 2 ^ 31) (hn : pc + 1 = n)
    (k : zK x g R nL ce sl n L st (zu μ p j a)) : zK x g R nL ce sl pc L (.int a :: .int i :: .ref (za g p) :: st) μ := by
  subst hn; subst hi
  intro H locs ls hP hS hl
  have he := zW_get g μ hp
  rw [zcell_row g (μ.1 p) μ.2 hk (Or.inl rfl)] at he
  have ht := zTy_get g hp
  have ht2 : (zTy g)[p]? = some (zc g p, .int) := by rw [ht]; simp [zty, hk]
  refine va_iast (i := nI j) S.ex S.by S.K hP (S.ok.D μ) hS p p he ht2 (vp_in_nI hj hz) hd (fun H1 locs1 hP1 hD1 hS1 => ?_)
  rw [nI_clamp (Nat.lt_trans hj hz), ← zcell_row g _ μ.2 hk (Or.inl rfl), zW_zu] at hP1
  exact k H1 locs1 ls hP1 hS1 hl
theorem k_zast {p j : Nat} {i a : Int32} (S : zS x g nL cc own) (hd : decode cc pc = .ok (.bastore, 1)) (hp : p < zn g) (hk : zki p = 7) (hi : i = nI j) (hj : j < zlen p) (hz : zlen p < 2 ^ 31) (ha : vp_nar .boolean a = a) (hn : pc + 1 = n)
    (k : zK x g R nL ce sl n L st (zu μ p j a)) : zK x g R nL ce sl pc L (.int a :: .int i :: .ref (za g p) :: st) μ := by
  subst hn; subst hi
  intro H locs ls hP hS hl
  have he := zW_get g μ hp
  rw [zcell_row g (μ.1 p) μ.2 hk (Or.inr rfl)] at he
  have ht := zTy_get g hp
  have ht2 : (zTy g)[p]? = some (zc g p, .boolean) := by rw [ht]; simp [zty, hk]
  refine va_zast (i := nI j) S.ex S.by S.K hP (S.ok.D μ) hS p p he ht2 (vp_in_nI hj hz) hd (fun H1 locs1 hP1 hD1 hS1 => ?_)
  rw [nI_clamp (Nat.lt_trans hj hz), ha, ← zcell_row g _ μ.2 hk (Or.inr rfl), zW_zu] at hP1
  exact k H1 locs1 ls hP1 hS1 hl
theorem k_aald {p j : Nat} {i : Int32} (S : zS x g nL cc own) (hd : decode cc pc = .ok (.aaload, 1)) (hp : p < zn g) (hk : zki p = 6) (hi : i = nI j) (hj : j < 10) (hn : pc + 1 = n)
    (k : zK x g R nL ce sl n L (.ref (za g (11 + j)) :: st) μ) : zK x g R nL ce sl pc L (.int i :: .ref (za g p) :: st) μ := by
  subst hn; subst hi
  intro H locs ls hP hS hl
  have he := zW_get g μ hp
  rw [zcell_phs g (μ.1 p) μ.2 hk] at he
  have ht := zTy_get g hp
  have ht2 : (zTy g)[p]? = some (zc g p, .object "ChartroomSpc$Phase") := by rw [ht]; simp [zty, hk]
  have h2 := va_aldq (i := nI j) S.ex S.by S.K hP p p he ht2 (vp_in_nI hj (by omega)) hd (args := xa x) (m := xm x) (ls := ls) (rest := st) (pc := pc) (e := xe x) (R := R) (l := xl x) (below := xb x) (meth := xh x) (locs := locs) (cells := ce) (slots := sl) (Q := xQ x)
  rw [nI_clamp (by omega)] at h2
  exact h2 (k H locs ls hP hS hl)
theorem k_lald {p : Nat} {i : Int32} (S : zS x g nL cc own) (hd : decode cc pc = .ok (.laload, 1)) (hp : p < zn g) (hk : zki p = 8) (hi : i = nI 0) (hn : pc + 1 = n)
    (k : zK x g R nL ce sl n L (.long (μ.2 0) :: st) μ) : zK x g R nL ce sl pc L (.int i :: .ref (za g p) :: st) μ := by
  subst hn; subst hi
  intro H locs ls hP hS hl
  have he := zW_get g μ hp
  rw [zcell_out g (μ.1 p) μ.2 hk] at he
  have ht := zTy_get g hp
  have ht2 : (zTy g)[p]? = some (zc g p, .long) := by rw [ht]; simp [zty, hk]
  have h2 := va_lald (i := nI 0) S.ex S.by S.K hP p p he ht2 (vp_in_nI (by omega) (by omega)) hd (args := xa x) (m := xm x) (ls := ls) (rest := st) (pc := pc) (e := xe x) (R := R) (l := xl x) (below := xb x) (meth := xh x) (locs := locs) (cells := ce) (slots := sl) (Q := xQ x)
  rw [nI_clamp (by omega)] at h2
  exact h2 (k H locs ls hP hS hl)
theorem k_last {p : Nat} {i : Int32} {a : Int64} (S : zS x g nL cc own) (hd : decode cc pc = .ok (.lastore, 1)) (hp : p < zn g) (hp31 : p = 31) (hi : i = nI 0) (hn : pc + 1 = n)
    (k : zK x g R nL ce sl n L st (zuo μ a)) : zK x g R nL ce sl pc L (.long a :: .int i :: .ref (za g p) :: st) μ := by
  subst hn; subst hi; subst hp31
  intro H locs ls hP hS hl
  have hk : zki 31 = 8 := by decide
  have he := zW_get g μ hp
  rw [zcell_out g (μ.1 31) μ.2 hk] at he
  have ht := zTy_get g hp
  have ht2 : (zTy g)[31]? = some (zc g 31, .long) := by rw [ht]; simp [zty, hk]
  refine va_last (i := nI 0) S.ex S.by S.K hP (S.ok.D μ) hS 31 31 he ht2 (vp_in_nI (by omega) (by omega)) hd (fun H1 locs1 hP1 hD1 hS1 => ?_)
  have h9 := zW_set g μ (zuo μ a) (k := 31) (fun b hb => by
    have hb8 : zki b ≠ 8 := by
      unfold zki
      repeat' split
      all_goals (first | omega | (intro q; cases q; done) | decide)
    unfold zcell
    simp only [if_neg hb8]
    rfl)
  rw [nI_clamp (by omega)] at hP1
  rw [zcell_out g _ _ hk] at h9
  have e9 : (zW g μ).set 31 (za g 31, .inl (zc g 31, 1, .inr (.inl (vp_updL μ.2 0 a)))) = zW g (zuo μ a) := h9
  rw [e9] at hP1
  exact k H1 locs1 ls hP1 hS1 hl
/-! the written tables: row i of zTabL at the address zt g i -/
theorem k_gets {i index : Nat} (S : zS x g nL cc own) (hd : decode cc pc = .ok (.getstatic index, 3)) (hi : i < 4) (hw : Cond.fieldLink own index RX3 (zTabN i) "[I" ∈ zU) (hn : pc + 3 = n)
    (k : zK x g R nL ce sl n L (.ref (zt g i) :: st) μ) : zK x g R nL ce sl pc L st μ := by
  subst hn
  exact fun H locs ls hP hS hl => va_gets S.ex S.by (S.st.1 i hi).1 hS S.own (S.ts _ hw) (fun _ h9 => h9) hd (k H locs ls hP hS hl)
theorem k_getsN {i index : Nat} {host : String} (S : zS x g nL cc own) (hd : decode cc pc = .ok (.getstatic index, 3)) (hi : i < 4) (hw : Cond.fieldLinkNest own index RX3 (zTabN i) "[I" host ∈ zNest) (hn : pc + 3 = n)
    (k : zK x g R nL ce sl n L (.ref (zt g i) :: st) μ) : zK x g R nL ce sl pc L st μ := by
  subst hn
  exact fun H locs ls hP hS hl => va_getsN S.ex S.by (S.st.1 i hi).1 hS S.own (va_Nw.use rfl (S.st.2.2.1 _ hw)) (fun _ h9 => h9) hd (k H locs ls hP hS hl)
theorem k_tald {i j : Nat} {a : Int32} (S : zS x g nL cc own) (hd : decode cc pc = .ok (.iaload, 1)) (hi : i < 4) (ha : a = nI j) (hj : j < (zTabL i).length) (hz : (zTabL i).length < 2 ^ 31) (hn : pc + 1 = n)
    (k : zK x g R nL ce sl n L (.int (zTab i j) :: st) μ) : zK x g R nL ce sl pc L (.int a :: .ref (zt g i) :: st) μ := by
  subst hn; subst ha
  intro H locs ls hP hS hl
  exact va_ti S.ex S.by (S.st.1 i hi).2 hS (vp_in_nI hj hz) (by rw [nI_clamp (Nat.lt_trans hj hz)]) hd (k H locs ls hP hS hl)
theorem k_tlen {i : Nat} {v : Int32} (S : zS x g nL cc own) (hd : decode cc pc = .ok (.arraylength, 1)) (hi : i < 4) (hv : Int32.ofNat (zTabL i).length = v) (hn : pc + 1 = n)
    (k : zK x g R nL ce sl n L (.int v :: st) μ) : zK x g R nL ce sl pc L (.ref (zt g i) :: st) μ := by
  subst hn
  exact fun H locs ls hP hS hl => va_tlen S.ex S.by (S.st.1 i hi).2 hS hv hd (k H locs ls hP hS hl)
/-! the ends -/
variable {ret : Option FieldType} {mc ms : Nat} {tb : List ExceptionTableEntry} {RT : Option Value → zM → Prop} {XT : String → zM → Prop}
theorem k_iret {a : Int32} {ty : FieldType} (S : zS x g nL cc own) (Y : zR x g (some ty) mc ms tb RT XT) (hd : decode cc pc = .ok (.ireturn, 1)) (hc : ce ≤ mc) (hs : sl ≤ ms) (hna : narrow ty (.int a) = .int a) (h : RT (some (.int a)) μ) : zK x g R nL ce sl pc L [.int a] μ := by
  obtain ⟨hQ, hr, -⟩ := Y
  intro H locs ls hP hS hl
  rw [hQ]
  exact W.widen hc hs (vx_ret (W.zret S.ex S.by hr hna (fun t ht hW => ⟨_, μ, rfl, h, by rw [ht]; exact hP, hS.F ht⟩) hS.2.2 hd S.lk))
theorem k_vret (S : zS x g nL cc own) (Y : zR x g none mc ms tb RT XT) (hd : decode cc pc = .ok (.return_, 1)) (hc : ce ≤ mc) (hs : sl ≤ ms) (h : RT none μ) : zK x g R nL ce sl pc L [] μ := by
  obtain ⟨hQ, hr, -⟩ := Y
  intro H locs ls hP hS hl
  rw [hQ]
  exact W.widen hc hs (vx_ret (W.vret S.ex S.by hr (fun t ht hW => ⟨_, μ, rfl, h, by rw [ht]; exact hP, hS.F ht⟩) hS.2.2 hd S.lk))
theorem k_lret {a : Int64} (S : zS x g nL cc own) (Y : zR x g (some .long) mc ms tb RT XT) (hd : decode cc pc = .ok (.lreturn, 1)) (hc : ce ≤ mc) (hs : sl ≤ ms) (h : RT (some (.long a)) μ) : zK x g R nL ce sl pc L [.long a] μ := by
  obtain ⟨hQ, hr, -⟩ := Y
  intro H locs ls hP hS hl
  rw [hQ]
  exact W.widen hc hs (vx_ret (W.lret S.ex S.by hr (fun t ht hW => ⟨_, μ, rfl, h, by rw [ht]; exact hP, hS.F ht⟩) hS.2.2 hd S.lk))
theorem k_aret {a : Nat} {cn : String} (S : zS x g nL cc own) (Y : zR x g (some (.object cn)) mc ms tb RT XT) (hd : decode cc pc = .ok (.areturn, 1)) (hc : ce ≤ mc) (hs : sl ≤ ms) (h : RT (some (.ref a)) μ) : zK x g R nL ce sl pc L [.ref a] μ := by
  obtain ⟨hQ, hr, -⟩ := Y
  intro H locs ls hP hS hl
  rw [hQ]
  exact W.widen hc hs (vx_ret (W.aret S.ex S.by hr (Or.inl ⟨_, rfl⟩) (Or.inr ⟨_, rfl⟩) (fun t ht hW => ⟨_, μ, rfl, h, by rw [ht]; exact hP, hS.F ht⟩) hS.2.2 hd S.lk))
theorem k_out {E : String} (S : zS x g nL cc own) (Y : zR x g ret mc ms [] RT XT) (hc : ce ≤ mc) (hs : sl ≤ ms) (h : XT E μ) : zKX x g R nL ce sl pc L st E μ := by
  obtain ⟨hQ, -, ht⟩ := Y
  intro H locs ls ce9 q hP hS hl h1 h2 h3
  rw [hQ]
  exact vx_out (fun z hz => by rw [ht] at hz; cases hz) S.lk h1 h2 h3 (fun t ht hW => ⟨μ, h, by rw [ht]; exact hP, hS.F ht⟩) hS.2.2 hc hs
/-! calls -/
theorem zPre.of (S : zS x g nL cc own) {H : Heap} {locs : List Loc} (hP : va_P (zD g) vwCl (zW g μ) H) (hS : va_S (zA g) (xs x).heap H locs) : ∀ U : State, U.heap = H → (xs x).WarmedH U.vm → zPre (xl x) g μ U := fun U hU hW =>
  ⟨by rw [hU]; exact hP, va_K.moved hW.alike S.K, S.ok, S.st.go hS hU hW⟩
theorem zRun {rest : List Value} {mc9 ms9 : Nat} {a : Array Value} {RT9 : Option Value → zM → Prop} {XT9 : String → zM → Prop} {H : Heap} {locs : List Loc} {ls : Array Slot}
    (hr : vx_Run (xp x) (xl x) (xe x) R (xs x) (xm x) (xa x) (xb x) (xh x) (xc x) H locs ce sl mc9 ms9 (F0 (xm x) pc ls st) rest (zQr g RT9 a) (zQx g XT9) (zA g)) (hS : va_S (zA g) (xs x).heap H locs) (hl : lv_has ls nL (zl 0 L))
    (kx : ∀ E ν, XT9 E ν → zKX x g R nL (ce + mc9) (sl + ms9) pc L rest E ν) (kk : ∀ v ν, RT9 v ν → zK x g R nL (ce + mc9) (sl + ms9) (pc + 3) L (v.toList ++ rest) ν) : W (xp x) (xl x) (xe x) R (xs x) (xm x) (xa x) (xb x) (xh x) (xc x) H locs ce sl (xQ x) (F0 (xm x) pc ls st) := by
  intro T hT X
  rcases hr T hT X with ⟨v, st₀, t, T', Ls, h0, X', hL, e1, e2, ⟨v', ν, hv, hp, hb, hF⟩, go⟩ | ⟨q, st₀, t, T', Ls, E, ce9, h0, X', hL, e1, e2, ⟨ν, hp, hb, hF⟩, hce, hcv, hcl, go⟩
  · cases hv
    obtain ⟨-, -, k3⟩ := vx_keep h0 e1 hS (fun _ _ h => h) (fun _ h => h) hL hF
    obtain ⟨t2, a1, b1⟩ := kk v ν hp T'.heap (locs ++ Ls) ls (by rw [e1]; exact hb) k3 hl T' rfl X'
    exact ⟨t2, go t2 a1, b1⟩
  · obtain ⟨-, -, k3⟩ := vx_keep h0 e1 hS (fun _ _ h => h) (fun _ h => h) hL hF
    obtain ⟨t2, a1, b1⟩ := kx E ν hp T'.heap (locs ++ Ls) ls ce9 q (by rw [e1]; exact hb) k3 hl (by rw [e1]; exact hce) hcv hcl T' rfl X'
    exact ⟨t2, go.trans a1, b1⟩
theorem zS.fix (S : zS x g nL cc own) : CallFix (xp x) (xm x) (xc x) cc nL (xs x) (xa x) zU own := ⟨S.ex, S.by, S.ml, S.own, S.ts⟩
theorem zrecv (S : zS x g nL cc own) {H : Heap} (hP : va_P (zD g) vwCl (zW g μ) H) {p ci N : Nat} {C : String} {T : u_T} (hp : p < zn g) (hk : zki p = ci) (hc : vwCl[ci]? = some (C, T, N)) : ∃ cellB : Cell, H[za g p]? = some cellB ∧ cellB.vm.isStatics = false ∧ (xs x).vm.findClass C = some cellB.cls := by
  have h5 : ci < 5 := by
    have h9 := (List.getElem?_eq_some_iff.mp hc).1
    exact Nat.lt_of_lt_of_le h9 (by decide)
  have he := zW_get g μ hp
  rw [zcell_obj g (μ.1 p) μ.2 hk h5] at he
  exact va_recv S.K hP hc he
theorem k_callV {y : MethodName} {rm : Room} {mc9 ms9 maxL na index p ci N : Nat} {C : String} {T : u_T} {bytes : ByteArray} {ret9 : Option FieldType} {As rest : List Value} {RT9 : Option Value → zM → Prop} {XT9 : String → zM → Prop}
    (S : zS x g nL cc own) (hM : zC (xl x) g y bytes maxL ret9 rm mc9 ms9 (.ref (za g p) :: As) μ RT9 XT9) (hv : zMV y C bytes maxL ret9 na) (hli : Cond.methodLink own index y ∈ zU) (hd : decode cc pc = .ok (.invokevirtual index, 3)) (hrc : rm.cells = mc9) (hrs : rm.slots = ms9)
    (hR : rm.frames + 1 ≤ R.frames ∧ 8 + (maxL + 11) + rm.locals ≤ R.locals)
    (hp : p < zn g) (hk : zki p = ci) (hc : vwCl[ci]? = some (C, T, N)) (hst : st = As.reverse ++ .ref (za g p) :: rest) (hna : As.length = na) (hcat : (rest.map fun v => v.category).sum ≤ 8) (hf : ce + mc9 ≤ R.cells ∧ sl + ms9 ≤ R.slots) (hn : pc + 3 = n)
    (kx : ∀ E ν, XT9 E ν → zKX x g R nL (ce + mc9) (sl + ms9) pc L rest E ν) (kk : ∀ v ν, RT9 v ν → zK x g R nL (ce + mc9) (sl + ms9) n L (v.toList ++ rest) ν) : zK x g R nL ce sl pc L st μ := by
  subst hn; subst hst
  intro H locs ls hP hS hl
  exact zRun (vx_runV S.fix hM (cwV na S.ts (hv.good hli) rfl hrc hrs hv.2.2.2.2 hR) ⟨zPre_blind _ _ _ _, zrecv S hP hp hk hc, fun U hU hW => ⟨rfl, zPre.of S hP hS U hU hW⟩⟩ rfl hna hl.1 rfl (lv_room hcat) hd hf) hS hl kx kk
theorem k_callS {y : MethodName} {rm : Room} {mc9 ms9 maxL na index : Nat} {bytes : ByteArray} {ret9 : Option FieldType} {As rest : List Value} {RT9 : Option Value → zM → Prop} {XT9 : String → zM → Prop}
    (S : zS x g nL cc own) (hM : zC (xl x) g y bytes maxL ret9 rm mc9 ms9 As μ RT9 XT9) (hv : zMS y bytes maxL ret9 na) (hli : Cond.methodLink own index y ∈ zU) (hd : decode cc pc = .ok (.invokestatic index, 3)) (hrc : rm.cells = mc9) (hrs : rm.slots = ms9)
    (hR : rm.frames + 1 ≤ R.frames ∧ 8 + (maxL + 11) + rm.locals ≤ R.locals)
    (hst : st = As.reverse ++ rest) (hna : As.length = na) (hcat : (rest.map fun v => v.category).sum ≤ 8) (hf : ce + mc9 ≤ R.cells ∧ sl + ms9 ≤ R.slots) (hn : pc + 3 = n)
    (kx : ∀ E ν, XT9 E ν → zKX x g R nL (ce + mc9) (sl + ms9) pc L rest E ν) (kk : ∀ v ν, RT9 v ν → zK x g R nL (ce + mc9) (sl + ms9) n L (v.toList ++ rest) ν) : zK x g R nL ce sl pc L st μ := by
  subst hn; subst hst
  intro H locs ls hP hS hl
  exact zRun (vx_runS S.fix hM (va_cwS na S.ts (hv.good hli) rfl hrc hrs hv.2.2.2 hR) ⟨zPre_blind _ _ _ _, fun U hU hW => ⟨rfl, zPre.of S hP hS U hU hW⟩⟩ rfl hna hl.1 rfl (lv_room hcat) hd hf) hS hl kx kk
theorem k_callSN {y : MethodName} {rm : Room} {mc9 ms9 maxL na index : Nat} {host : String} {bytes : ByteArray} {ret9 : Option FieldType} {As rest : List Value} {RT9 : Option Value → zM → Prop} {XT9 : String → zM → Prop}
    (S : zS x g nL cc own) (hM : zC (xl x) g y bytes maxL ret9 rm mc9 ms9 As μ RT9 XT9) (hv : zMS y bytes maxL ret9 na) (hnest : Cond.methodLinkNest own index y host ∈ zNest) (hd : decode cc pc = .ok (.invokestatic index, 3)) (hrc : rm.cells = mc9) (hrs : rm.slots = ms9)
    (hR : rm.frames + 1 ≤ R.frames ∧ 8 + (maxL + 11) + rm.locals ≤ R.locals)
    (hst : st = As.reverse ++ rest) (hna : As.length = na) (hcat : (rest.map fun v => v.category).sum ≤ 8) (hf : ce + mc9 ≤ R.cells ∧ sl + ms9 ≤ R.slots) (hn : pc + 3 = n)
    (kx : ∀ E ν, XT9 E ν → zKX x g R nL (ce + mc9) (sl + ms9) pc L rest E ν) (kk : ∀ v ν, RT9 v ν → zK x g R nL (ce + mc9) (sl + ms9) n L (v.toList ++ rest) ν) : zK x g R nL ce sl pc L st μ := by
  subst hn; subst hst
  intro H locs ls hP hS hl
  exact zRun (vx_runSN S.fix hM ⟨va_cnB na S.ts hv.goodw rfl hrc hrs (S.st.2.2.1 _ hnest) (S.ts _ hv.2.1) hv.2.2.2 hR, S.ts _ hv.1, trivial⟩ ⟨zPre_blind _ _ _ _, fun U hU hW => ⟨rfl, zPre.of S hP hS U hU hW⟩⟩ rfl hna hl.1 rfl (lv_room hcat) hd hf) hS hl kx kk
/-! throw new E("text") -/
theorem k_throw {cls text : String} {names : List String} {ik is ic i9 : Nat} (S : zS x g nL cc own) (Y : zR x g ret mc ms [] RT XT) (hown9 : own = RX3) (hcls : Bundle.fit cls = true) (hnames : ∀ n ∈ names, Bundle.fit n = true) (hk : Cond.classLink own ik cls ∈ zU) (hini : Cond.initialized cls ∈ zU)
    (hstr : zStr[i9]? = some (is, text)) (hat : ∀ w ∈ (vx_atS own ic cls names).filter goodWord, w ∈ zU) (hng : ∀ w ∈ (vx_atS own ic cls names).filter (fun w => !goodWord w), w ∈ zNest) (hgood : ∀ w ∈ Cond.classLink own ik cls :: Cond.initialized cls :: vx_atS own ic cls names, vx_ot w = true)
    (d0 : decode cc pc = .ok (.new ik, 3)) (d3 : decode cc (pc + 3) = .ok (.dup, 1)) (d4 : decode cc (pc + 4) = .ok (.ldc is, 2)) (d6 : decode cc (pc + 6) = .ok (.invokespecial ic, 3)) (d9 : decode cc (pc + 9) = .ok (.athrow, 1))
    (hRf : names.length + 3 < R.frames) (hRl : (st.map fun v => v.category).sum + (13 * (names.length + 1) + 43) ≤ R.locals) (hRc : ce + 1 ≤ R.cells) (hRs : sl + 6 ≤ R.slots) (hc : ce + 1 ≤ mc) (hs : sl + 6 ≤ ms) (h : XT cls μ) : zK x g R nL ce sl pc L st μ := by
  subst hown9
  obtain ⟨hQ, -, ht⟩ := Y
  intro H locs ls hP hS hl
  rw [hQ]
  have hno : ∀ z ∈ (xc x).exceptionTable.toList, covers z (pc + 9) = false := fun z hz => by rw [ht] at hz; cases hz
  refine vx_throwS (own := RX3) (cls := cls) (text := text) (names := names) (ik := ik) (is := is) (ic := ic) (sa := zt g (4 + i9)) (A := zA g) S.ex S.by S.st.2.2.2.2.2 S.own hcls hnames (S.ts _ hk) (S.ts _ hini) (S.st.2.2.2.1 i9 _ hstr)
    (vx_hat (fun w hw => S.ts w (hat w hw)) hng (fun w hw => va_Nw.use (zNest_tab w hw) (S.st.2.2.1 w hw))) hgood S.st.2.1.1 S.st.2.1.2 hS (hl.1.trans S.ml.symm) d0 d3 d4 d6 d9 hno hRf hRl hRc hRs S.lk (fun t hW h1 h2 => ⟨μ, h, ?_, ?_⟩) hS.2.2 hc hs
  · exact hP.kept (fun k q hq => h2 q.1 ((hP k q hq).lt))
  · exact ⟨Nat.le_trans hS.1 h1, fun q h3 h4 => by rw [h2 q (Nat.lt_of_lt_of_le h3 hS.1)]; exact hS.2.1 q h3 h4⟩
theorem k_throwW {cls text : String} {names : List String} {ik is ic i9 : Nat} (S : zS x g nL cc own) (Y : zR x g ret mc ms [] RT XT) (hown9 : own = RX3) (hcls : Bundle.fit cls = true) (hnames : ∀ n ∈ names, Bundle.fit n = true) (hk : Cond.classLink own ik cls ∈ zU) (hini : Cond.initialized cls ∈ zU)
    (hstr : zStr[i9]? = some (is, text)) (hat : ∀ w ∈ (vx_atS own ic cls names).filter goodWord, w ∈ zU) (hng : ∀ w ∈ (vx_atS own ic cls names).filter (fun w => !goodWord w), w ∈ zNest) (hgood : ∀ w ∈ Cond.classLink own ik cls :: Cond.initialized cls :: vx_atS own ic cls names, vx_ot w = true)
    (d0 : decode cc pc = .ok (.new ik, 3)) (d3 : decode cc (pc + 3) = .ok (.dup, 1)) (d4 : decode cc (pc + 4) = .ok (.ldc_w is, 3)) (d7 : decode cc (pc + 7) = .ok (.invokespecial ic, 3)) (d10 : decode cc (pc + 10) = .ok (.athrow, 1))
    (hRf : names.length + 3 < R.frames) (hRl : (st.map fun v => v.category).sum + (13 * (names.length + 1) + 43) ≤ R.locals) (hRc : ce + 1 ≤ R.cells) (hRs : sl + 6 ≤ R.slots) (hc : ce + 1 ≤ mc) (hs : sl + 6 ≤ ms) (h : XT cls μ) : zK x g R nL ce sl pc L st μ := by
  subst hown9
  obtain ⟨hQ, -, ht⟩ := Y
  intro H locs ls hP hS hl
  rw [hQ]
  have hno : ∀ z ∈ (xc x).exceptionTable.toList, covers z (pc + 10) = false := fun z hz => by rw [ht] at hz; cases hz
  refine vx_throwSW (own := RX3) (cls := cls) (text := text) (names := names) (ik := ik) (is := is) (ic := ic) (sa := zt g (4 + i9)) (A := zA g) S.ex S.by S.st.2.2.2.2.2 S.own hcls hnames (S.ts _ hk) (S.ts _ hini) (S.st.2.2.2.1 i9 _ hstr)
    (vx_hat (fun w hw => S.ts w (hat w hw)) hng (fun w hw => va_Nw.use (zNest_tab w hw) (S.st.2.2.1 w hw))) hgood S.st.2.1.1 S.st.2.1.2 hS (hl.1.trans S.ml.symm) d0 d3 d4 d7 d10 hno hRf hRl hRc hRs S.lk (fun t hW h1 h2 => ⟨μ, h, ?_, ?_⟩) hS.2.2 hc hs
  · exact hP.kept (fun k q hq => h2 q.1 ((hP k q hq).lt))
  · exact ⟨Nat.le_trans hS.1 h1, fun q h3 h4 => by rw [h2 q (Nat.lt_of_lt_of_le h3 hS.1)]; exact hS.2.1 q h3 h4⟩
end KK
/-- vx_ofW, by the method's own name (JDK methods too) -/
theorem z_ofF {l : Launch} {y : MethodName} {ws ws' : List Cond} {rm : Room} {Pc : Array Value → State → Prop} {Qc : Array Value → State → Outcome → State → Prop} {XC : String → State → State → Prop} {mc ms : Nat} {free : Addr → Prop} {cc : ByteArray} {maxL : Nat} {ret : Option FieldType}
    (hy : plainFor y = true) (hw : ws = Cond.code y cc maxL ret :: ws')
    (body : ∀ p e s m args below meth c s₁, BodyLoose p l y (headSpec ws rm) cc maxL ret e s m args below meth c s₁ → c.maxLocals = maxL → (∀ x ∈ c.exceptionTable.toList, False) → Pc args s →
      W p l e (headSpec ws rm).room s m args below meth c s.heap [] 0 0 (vx_MQ below Qc XC args s mc ms free) (entryFrame m args maxL)) : vx_Met l y ws rm Pc Qc XC mc ms free := by
  refine MetFree.of_bodySF (code := cc) (maxLocals := maxL) (ret := ret) hy ?_ ?_
  · intro args s m h hn
    obtain ⟨meth, c, h1, h2, h3, h4, h5, h6, -, -⟩ := Cond.code_spec hn (atoms_spec (ws := ws) h _ (by rw [hw]; exact List.mem_cons_self))
    exact ⟨meth, c, h1, h2, h3, h4, h5, h6⟩
  · intro p e s m args below meth c s₁ B hml hP _
    have hh0 : s₁.heap = s.heap := by rw [B.state]; rfl
    have ht : ∀ x ∈ c.exceptionTable.toList, False := by
      obtain ⟨meth9, c9, h1, h2, -, -, -, -, h7, -⟩ := Cond.code_spec B.named (atoms_spec (ws := ws) B.pre _ (by rw [hw]; exact List.mem_cons_self))
      cases Option.some.inj (h1.symm.trans B.method)
      cases Option.some.inj (h2.symm.trans (Stand.of_body B).code)
      intro x hx
      rw [Array.isEmpty_iff.mp h7] at hx
      cases hx
    obtain ⟨t, a1, o, b1, b2, b3⟩ := body p e s m args below meth c s₁ B hml ht hP s₁ hh0 (Stand.of_body B)
    exact ⟨t, o, a1, b1, b2, b3⟩
/-- a contract, from a walk of the body -/
theorem zC_of {l : Launch} {g : zG} {y : MethodName} {rm : Room} {mc ms maxL : Nat} {av : List Value} {μ : zM} {RT : Option Value → zM → Prop} {XT : String → zM → Prop} {cc : ByteArray} {ret : Option FieldType} {L0 : List (Option Value)} (hy : plainFor y = true) (hlen : (lg_sl av).length ≤ maxL) (hL : zl 0 L0 = lv_args 0 av)
    (body : ∀ x : zX, zS x g maxL cc y.cls → zR x g ret mc ms [] RT XT → xl x = l → zK x g rm maxL 0 0 0 L0 [] μ) : zC l g y cc maxL ret rm mc ms av μ RT XT := by
  refine z_ofF (cc := cc) (maxL := maxL) (ret := ret) hy rfl ?_
  intro p e s m args below meth c s₁ B hml htab hv
  obtain ⟨rfl, hP, hK, hO, hSt⟩ := hv
  have hts := atoms_spec (ws := zws y cc maxL ret) B.pre
  have hl := lv_entry av (n := maxL) hlen
  rw [lg_entry_eq]
  have htb : c.exceptionTable.toList = [] := by
    cases h9 : c.exceptionTable.toList with
    | nil => rfl
    | cons z t => exact absurd (htab z (by rw [h9]; exact List.mem_cons_self)) id
  exact body (p, l, e, s, m, av.toArray, below, meth, c, vx_MQ below (zQr g RT) (zQx g XT) av.toArray s mc ms (zA g)) ⟨B.exec, B.bytes, hml, findClass_of_methodNamed B.named, fun w hw => hts w (List.mem_cons_of_mem _ hw), hK, hO, hSt, B.notSynchronized⟩ ⟨rfl, B.returns, htb⟩ rfl s.heap [] _ hP va_S.rf (by rw [hL]; exact hl)
