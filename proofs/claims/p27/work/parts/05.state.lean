/-! THE WORLD OF THE RUN: places 0 to 31, one memory of ints (place, slot) beside one row of longs; addresses, row kinds, and the tables' addresses are variables.
0 the desk; 1 sums, 2 rangeRow, 3 meanRow, 4 reasons, 5 phaseNumbers, 6 phaseRow, 7 counts, 8 window, 9 numbers, 10 levels, 11 to 20 the phases; 21 the reference, 22 sum, 23 range, 24 reason, 25 start, 26 frozen, 27 keptCenter, 28 keptRange, 29 point, 30 x; 31 the law's out. -/
abbrev zM : Type := (Nat → Nat → Int32) × (Nat → Int64)
abbrev zG : Type := va_G × Nat × (Nat → Nat) × (Nat → ClassId) × (Nat → Nat) × Nat
def zD (g : zG) : va_G := g.1
def zn (g : zG) : Nat := g.2.1
def za (g : zG) (k : Nat) : Nat := g.2.2.1 k
def zc (g : zG) (k : Nat) : ClassId := g.2.2.2.1 k
def zt (g : zG) (k : Nat) : Nat := g.2.2.2.2.1 k
def zA (g : zG) (q : Nat) : Prop := g.2.2.2.2.2 ≤ q
def zki (k : Nat) : Nat := if k = 0 then 3 else if k = 6 then 6 else if k = 7 then 1 else if k = 8 then 2 else if k < 11 then 5 else if k < 21 then 0 else if k = 21 then 4 else if k = 26 then 7 else if k = 31 then 8 else 5
def zlen (k : Nat) : Nat := if k < 6 then 60 else if k < 7 then 10 else if k < 11 then 15 else if k < 25 then 60 else if k < 29 then 10 else if k < 31 then 60 else 1
def zN (ci : Nat) : Nat := if ci = 0 then 9 else if ci = 1 then 16 else if ci = 2 then 3 else if ci = 3 then 16 else 24
def zref (ci j : Nat) : Option Nat := match ci, j with
  | 2, 0 => some 9
  | 2, 1 => some 10
  | 3, 7 => some 1
  | 3, 8 => some 2
  | 3, 9 => some 3
  | 3, 10 => some 4
  | 3, 11 => some 5
  | 3, 13 => some 6
  | 3, 14 => some 7
  | 3, 15 => some 8
  | 4, 6 => some 22
  | 4, 7 => some 23
  | 4, 8 => some 24
  | 4, 10 => some 25
  | 4, 11 => some 26
  | 4, 12 => some 27
  | 4, 13 => some 28
  | 4, 21 => some 29
  | 4, 22 => some 30
  | _, _ => none
def zsl (g : zG) (m : Nat → Int32) (ci j : Nat) : Value := match zref ci j with
  | some r => .ref (za g r)
  | none => .int (m j)
def zfs (g : zG) (m : Nat → Int32) (ci : Nat) : List Value := (List.range (zN ci)).map (zsl g m ci)
def zcell (g : zG) (k : Nat) (m : Nat → Int32) (o : Nat → Int64) : va_E :=
  if zki k < 5 then .inr (zki k, zfs g m (zki k))
  else if zki k = 6 then .inl (zc g k, 10, .inr (.inr (.inr (.inr (fun j => some (za g (11 + j)))))))
  else if zki k = 8 then .inl (zc g k, 1, .inr (.inl o))
  else .inl (zc g k, zlen k, .inl m)
def zW (g : zG) (μ : zM) : va_W := (List.range (zn g)).map (fun k => (za g k, zcell g k (μ.1 k) μ.2))
def zty (k : Nat) : FieldType := if zki k = 6 then .object "ChartroomSpc$Phase" else if zki k = 7 then .boolean else if zki k = 8 then .long else .int
def zTy (g : zG) : List (ClassId × FieldType) := (List.range (zn g)).map (fun k => (zc g k, zty k))
def zu (μ : zM) (k j : Nat) (v : Int32) : zM := (fun a b => if a = k then (if b = j then v else μ.1 a b) else μ.1 a b, μ.2)
def zuo (μ : zM) (v : Int64) : zM := (μ.1, vp_updL μ.2 0 v)
def zset (μ : zM) (p : Nat) (f : Nat → Int32) : zM := (fun a b => if a = p then f b else μ.1 a b, μ.2)
theorem zset_at (μ : zM) (p : Nat) (f : Nat → Int32) : (zset μ p f).1 p = f := by
  funext b
  simp [zset]
theorem zset_off (μ : zM) {p a : Nat} (f : Nat → Int32) (h : a ≠ p) : (zset μ p f).1 a = μ.1 a := by
  funext b
  simp [zset, h]
theorem zset_2 (μ : zM) (p : Nat) (f : Nat → Int32) : (zset μ p f).2 = μ.2 := rfl
theorem zu_2 (μ : zM) (p j : Nat) (v : Int32) : (zu μ p j v).2 = μ.2 := rfl
theorem zu_set (μ : zM) (p j : Nat) (v : Int32) : zu μ p j v = zset μ p (upd (μ.1 p) j v) := by
  refine Prod.ext (funext fun a => funext fun b => ?_) rfl
  by_cases h : a = p
  · subst h
    simp [zu, zset, upd]
  · simp [zu, zset, h]
theorem zu_zset (μ : zM) (p j : Nat) (v : Int32) (f : Nat → Int32) : zu (zset μ p f) p j v = zset μ p (upd f j v) := by
  refine Prod.ext (funext fun a => funext fun b => ?_) rfl
  by_cases h : a = p
  · subst h
    simp [zu, zset, upd]
  · simp [zu, zset, h]
theorem zset_zset (μ : zM) (p : Nat) (f h : Nat → Int32) : zset (zset μ p f) p h = zset μ p h := by
  refine Prod.ext (funext fun a => funext fun b => ?_) rfl
  by_cases q : a = p
  · simp [zset, q]
  · simp [zset, q]
theorem zset_self (μ : zM) (p : Nat) : zset μ p (μ.1 p) = μ := by
  refine Prod.ext (funext fun a => funext fun b => ?_) rfl
  by_cases q : a = p
  · simp [zset, q]
  · simp [zset, q]
theorem zu_at (μ : zM) (k j : Nat) (v : Int32) : (zu μ k j v).1 k = upd (μ.1 k) j v := by
  funext b
  simp [zu, upd]
theorem zu_off (μ : zM) (k j : Nat) (v : Int32) {a : Nat} (h : a ≠ k) : (zu μ k j v).1 a = μ.1 a := by
  funext b
  simp [zu, h]
theorem zW_get (g : zG) (μ : zM) {k : Nat} (h : k < zn g) : (zW g μ)[k]? = some (za g k, zcell g k (μ.1 k) μ.2) := by
  simp [zW, h]
theorem zTy_get (g : zG) {k : Nat} (h : k < zn g) : (zTy g)[k]? = some (zc g k, zty k) := by
  simp [zTy, h]
theorem zW_set (g : zG) (μ ν : zM) {k : Nat} (ho : ∀ a, a ≠ k → zcell g a (ν.1 a) ν.2 = zcell g a (μ.1 a) μ.2) : (zW g μ).set k (za g k, zcell g k (ν.1 k) ν.2) = zW g ν := by
  apply List.ext_getElem?
  intro i
  rw [List.getElem?_set]
  by_cases hi : i < zn g
  · rw [zW_get g ν hi]
    by_cases e : k = i
    · subst e
      simp [zW, hi]
    · rw [if_neg e, zW_get g μ hi, ho i (fun q => e q.symm)]
  · have h1 : (zW g ν)[i]? = none := by simp [zW, Nat.not_lt.mp hi]
    have h2 : (zW g μ)[i]? = none := by simp [zW, Nat.not_lt.mp hi]
    rw [h1]
    by_cases e : k = i
    · subst e
      simp [zW, Nat.not_lt.mp hi]
    · rw [if_neg e, h2]
theorem zW_zu (g : zG) (μ : zM) (k j : Nat) (v : Int32) : (zW g μ).set k (za g k, zcell g k (upd (μ.1 k) j v) μ.2) = zW g (zu μ k j v) := by
  have h := zW_set g μ (zu μ k j v) (k := k) (fun a ha => by rw [zu_off μ k j v ha]; rfl)
  rw [zu_at] at h
  exact h
theorem zfs_get (g : zG) (m : Nat → Int32) {ci j : Nat} (hj : j < zN ci) : (zfs g m ci)[j]? = some (zsl g m ci j) := by
  simp [zfs, hj]
theorem zfs_set (g : zG) (m : Nat → Int32) {ci j : Nat} (v : Int32) (hr : zref ci j = none) : (zfs g m ci).set j (.int v) = zfs g (upd m j v) ci := by
  apply List.ext_getElem?
  intro i
  rw [List.getElem?_set]
  by_cases hi : i < zN ci
  · rw [zfs_get g (upd m j v) hi]
    by_cases e : j = i
    · subst e
      rw [if_pos rfl, if_pos (by simp [zfs, hi])]
      simp [zsl, hr, upd]
    · rw [if_neg e, zfs_get g m hi]
      simp only [zsl]
      cases zref ci i with
      | some r => rfl
      | none => simp [upd, Ne.symm e]
  · have h1 : (zfs g (upd m j v) ci)[i]? = none := by simp [zfs, Nat.not_lt.mp hi]
    have h2 : (zfs g m ci)[i]? = none := by simp [zfs, Nat.not_lt.mp hi]
    rw [h1]
    by_cases e : j = i
    · subst e
      simp [zfs, Nat.not_lt.mp hi]
    · rw [if_neg e, h2]
theorem zcell_obj (g : zG) {k ci : Nat} (m : Nat → Int32) (o : Nat → Int64) (hk : zki k = ci) (hc : ci < 5) : zcell g k m o = .inr (ci, zfs g m ci) := by
  unfold zcell
  rw [hk, if_pos hc]
theorem zcell_row (g : zG) {k ci : Nat} (m : Nat → Int32) (o : Nat → Int64) (hk : zki k = ci) (hc : ci = 5 ∨ ci = 7) : zcell g k m o = .inl (zc g k, zlen k, .inl m) := by
  unfold zcell
  rw [hk]
  rcases hc with rfl | rfl <;> rfl
theorem zcell_phs (g : zG) {k : Nat} (m : Nat → Int32) (o : Nat → Int64) (hk : zki k = 6) : zcell g k m o = .inl (zc g k, 10, .inr (.inr (.inr (.inr (fun j => some (za g (11 + j))))))) := by
  unfold zcell
  rw [hk]
  rfl
theorem zcell_out (g : zG) {k : Nat} (m : Nat → Int32) (o : Nat → Int64) (hk : zki k = 8) : zcell g k m o = .inl (zc g k, 1, .inr (.inl o)) := by
  unfold zcell
  rw [hk]
  rfl
theorem zki_ph {j : Nat} (h : j < 10) : zki (11 + j) = 0 := by
  unfold zki
  rw [if_neg (by omega), if_neg (by omega), if_neg (by omega), if_neg (by omega), if_neg (by omega), if_pos (by omega)]
def zOK (g : zG) : Prop := (∀ i j, i < zn g → j < zn g → za g i = za g j → i = j) ∧ (∀ k, k < zn g → zA g (za g k)) ∧ 21 ≤ zn g
theorem zOK.D {g : zG} (h : zOK g) (μ : zM) : va_D (zA g) (zW g μ) := by
  have hlt : ∀ {i : Nat} {p : Nat × va_E}, (zW g μ)[i]? = some p → i < zn g ∧ p.1 = za g i := by
    intro i p hp
    by_cases hi : i < zn g
    · rw [zW_get g μ hi] at hp
      cases hp
      exact ⟨hi, rfl⟩
    · have h2 : (zW g μ)[i]? = none := by simp [zW, Nat.not_lt.mp hi]
      rw [h2] at hp
      cases hp
  refine ⟨fun i j p q hp hq e => ?_, fun k q hq => ?_⟩
  · obtain ⟨h1, e1⟩ := hlt hp
    obtain ⟨h2, e2⟩ := hlt hq
    exact h.1 i j h1 h2 (by rw [← e1, ← e2]; exact e)
  · obtain ⟨h1, e1⟩ := hlt hq
    rw [e1]
    exact h.2.1 k h1
/-! what the statics, the links of nest mates, and the texts say, at any state of the run -/
def zNest : List Cond := [.methodLinkNest RX3 31 yX0_init RX3, .methodLinkNest RX3 34 yX1_init RX3, .methodLinkNest RX3 41 yX2_init RX3, .methodLinkNest RX0 57 yX3_direction RX3, .methodLinkNest RX1 68 yX3_direction RX3, .methodLinkNest RX1 92 yX3_pointsOfRule RX3, .methodLinkNest RX0 28 yX3_rounded RX3, .fieldLinkNest RX0 40 RX3 "WIDTH_FACTORS" "[I" RX3, .methodLinkNest RX0 44 yX3_bySize RX3, .fieldLinkNest RX0 51 RX3 "RANGE_FACTORS" "[I" RX3, .methodLinkNest RX2 26 yX3_pointsOfRule RX3, .methodLinkNest RX2 58 yX3_direction RX3,
  .castable "java/lang/IllegalArgumentException" "java/lang/IllegalArgumentException", .castable "java/lang/IllegalStateException" "java/lang/IllegalStateException", .castable "java/lang/IndexOutOfBoundsException" "java/lang/IndexOutOfBoundsException",
  .declares ⟨"java/lang/RuntimeException", "<init>", "(Ljava/lang/String;)V"⟩, .declares ⟨"java/lang/Exception", "<init>", "(Ljava/lang/String;)V"⟩, .declares ⟨"java/lang/Throwable", "<init>", "(Ljava/lang/String;)V"⟩]
def zStr : List (Nat × String) := [(52, "size is out of range"), (61, "value is out of range"), (69, "all subgroups are done"), (87, "there are no more phases"), (89, "a subgroup is begun and not done"), (98, "the last phase has no subgroups"), (258, "there is no such phase"), (109, "the phase is frozen"), (114, "the phase has too few points"), (116, "the phase is not frozen"), (254, "there is no such subgroup"), (124, "reason is out of range"), (200, "the phase has no limits"), (167, "there is no such rule"), (177, "tenths is out of range"), (256, "the subgroup is excluded"), (194, "lowest or highest is out of range"), (218, "the spread is 0")]
def zNcs : List (String × String) := [("java/lang/IllegalStateException", "java/lang/IllegalArgumentException"), ("java/lang/IllegalArgumentException", "java/lang/IndexOutOfBoundsException"), ("java/lang/IllegalStateException", "java/lang/IndexOutOfBoundsException")]
def zTabN (i : Nat) : String := if i = 0 then "WIDTH_FACTORS" else if i = 1 then "RANGE_FACTORS" else if i = 2 then "SPREAD_DIVISORS" else "POINTS_OF_RULES"
def zTabL (i : Nat) : List Int32 := if i = 0 then [1880, 1023, 729, 577, 483] else if i = 1 then [3267, 2574, 2282, 2114, 2004] else if i = 2 then [1128, 1693, 2059, 2326, 2534] else [1, 9, 6, 14, 3, 5, 15, 8]
def zTab (i j : Nat) : Int32 := (zTabL i).getD j 0
def zSt (l : Launch) (g : zG) (U : State) (H : Heap) : Prop :=
  (∀ i, i < 4 → va_Z RX3 (zTabN i) "[I" (.ref (zt g i)) (zA g) U H ∧ va_T .int (zt g i) (zTabL i).length (fun j => .int (zTab i j)) (zA g) U H) ∧
  (vx_Zq Bundle.tN "UNASSIGNED_STACK" Bundle.steD (zA g) U H ∧ vx_Zq Bundle.tN "SUPPRESSED_SENTINEL" Bundle.listD (zA g) U H) ∧
  (∀ w ∈ zNest, va_Nw w U) ∧ (∀ (i : Nat) (q : Nat × String), zStr[i]? = some q → vk_R RX3 q.1 q.2 (zt g (4 + i)) U) ∧ (∀ q ∈ zNcs, va_Nc q.1 q.2 U) ∧ l.stackTraces = false
theorem zNest_warm {s U : State} (hW : s.WarmedH U.vm) : ∀ w ∈ zNest, va_Nw w s → va_Nw w U := by
  intro w hw
  simp only [zNest, List.mem_cons, List.not_mem_nil, or_false] at hw
  rcases hw with h | h | h | h | h | h | h | h | h | h | h | h | h | h | h | h | h | h <;> subst h <;> first | exact va_Nw.warmM hW | exact va_Nw.warmF hW | exact va_Nw.warmC hW | exact va_Nw.warmD hW
theorem zNest_tab : ∀ w ∈ zNest, w.onTables = true := by decide +kernel
theorem zSt.go {l : Launch} {g : zG} {s U : State} {H : Heap} {locs : List Loc} (h : zSt l g s s.heap) (hS : va_S (zA g) s.heap H locs) (hU : U.heap = H) (hW : s.WarmedH U.vm) : zSt l g U U.heap := by
  obtain ⟨h1, h2, h3, h4, h5, h6⟩ := h
  have k : ∀ a : Nat, a < s.heap.size → ¬ zA g a → U.heap[a]? = s.heap[a]? := by rw [hU]; exact hS.2.1
  exact ⟨fun i hi => ⟨((h1 i hi).1.kept k).moved hW.alike, ((h1 i hi).2.kept k).moved hW.alike⟩, ⟨(h2.1.kept k).moved hW.alike, (h2.2.kept k).moved hW.alike⟩, fun w hw => zNest_warm hW w hw (h3 w hw), fun i q hq => vk_R.warm hW (h4 i q hq), fun q hq => (h5 q hq).moved hW.alike, h6⟩
theorem zSt.same {l : Launch} {g : zG} {s U : State} (h : zSt l g s s.heap) (hh : U.heap = s.heap) (hv : s.vm = U.vm) : zSt l g U U.heap := by
  obtain ⟨h1, h2, h3, h4, h5, h6⟩ := h
  have al : s.vm.Alike U.vm := by rw [← hv]; exact Vm.Alike.refl s.vm
  rw [hh]
  exact ⟨fun i hi => ⟨(h1 i hi).1.moved al, (h1 i hi).2.moved al⟩, ⟨h2.1.moved al, h2.2.moved al⟩, fun w hw => (h3 w hw).same (zNest_tab w hw) hv, fun i q hq => vk_R.same hv.symm (h4 i q hq), fun q hq => (h5 q hq).moved al, h6⟩
def zPre (l : Launch) (g : zG) (μ : zM) (U : State) : Prop := va_P (zD g) vwCl (zW g μ) U.heap ∧ va_K (zD g) vwCl (zTy g) U ∧ zOK g ∧ zSt l g U U.heap
/-- a method's contract: from these arguments and this memory it returns v with the memory ν where RT v ν, or throws E with the memory ν where XT E ν -/
def zQr (g : zG) (RT : Option Value → zM → Prop) : Array Value → State → Outcome → State → Prop := fun _ st o t => ∃ (v : Option Value) (ν : zM), o = .returned v ∧ RT v ν ∧ va_P (zD g) vwCl (zW g ν) t.heap ∧ va_F (zA g) st t
def zQx (g : zG) (XT : String → zM → Prop) : String → State → State → Prop := fun E st t => ∃ ν : zM, XT E ν ∧ va_P (zD g) vwCl (zW g ν) t.heap ∧ va_F (zA g) st t
abbrev zws (y : MethodName) (cc : ByteArray) (maxL : Nat) (ret : Option FieldType) : List Cond := Cond.code y cc maxL ret :: zU
def zC (l : Launch) (g : zG) (y : MethodName) (cc : ByteArray) (maxL : Nat) (ret : Option FieldType) (rm : Room) (mc ms : Nat) (av : List Value) (μ : zM) (RT : Option Value → zM → Prop) (XT : String → zM → Prop) : Prop :=
  vx_Met l y (zws y cc maxL ret) rm (va_Pc av (zPre l g μ)) (zQr g RT) (zQx g XT) mc ms (zA g)
theorem zPre_blind (l : Launch) (g : zG) (μ : zM) (av : List Value) : FrameBlind (va_Pc av (zPre l g μ)) := by
  intro a U f mk q
  obtain ⟨q0, qP, qK, qO, qS⟩ := q
  exact ⟨q0, qP, va_K.moved (u := U) (U := U.calling f mk a) (Vm.Alike.refl U.vm) qK, qO, zSt.same qS rfl rfl⟩
/-- what the tables say of a method that is called on an object, or without one -/
def zMV (y : MethodName) (C : String) (cc : ByteArray) (maxL : Nat) (ret : Option FieldType) (na : Nat) : Prop := Cond.instanceMethod y ∈ zU ∧ Cond.selects C y y ∈ zU ∧ Cond.initialized C ∈ zU ∧ Cond.code y cc maxL ret ∈ zU ∧
  (y.cls = C ∧ y.cls ≠ "java/lang/invoke/MethodHandle" ∧ y.cls ≠ "java/lang/invoke/VarHandle" ∧ (parseMethodDescriptor y.desc).map (fun d => d.parameters.length) = some na)
def zMS (y : MethodName) (cc : ByteArray) (maxL : Nat) (ret : Option FieldType) (na : Nat) : Prop := Cond.static y ∈ zU ∧ Cond.initialized y.cls ∈ zU ∧ Cond.code y cc maxL ret ∈ zU ∧
  (y.cls ≠ "java/lang/invoke/MethodHandle" ∧ y.cls ≠ "java/lang/invoke/VarHandle" ∧ (parseMethodDescriptor y.desc).map (fun d => d.parameters.length) = some na)
theorem zU_ok {w : Cond} (h : w ∈ zU) : w ∈ zU ∧ ((w.onTables && w.keeps) = true ∨ ∃ ty, w = .arrayClass ty) := ⟨h, good_of_word (zU_good w h)⟩
theorem zgood {y : MethodName} {cc : ByteArray} {maxL : Nat} {ret : Option FieldType} (h : Cond.code y cc maxL ret ∈ zU) : GoodIn zU (zws y cc maxL ret) := fun w hw => (List.mem_cons.mp hw).elim (fun e => e ▸ zU_ok h) (fun h9 => zU_ok h9)
theorem zMV.good {y : MethodName} {C own : String} {cc : ByteArray} {maxL na index : Nat} {ret : Option FieldType} (h : zMV y C cc maxL ret na) (hl : Cond.methodLink own index y ∈ zU) : GoodIn zU (wsV own index C y (zws y cc maxL ret)) := by
  intro w hw
  rcases List.mem_append.mp hw with h9 | h9
  · simp only [List.mem_cons, List.not_mem_nil, or_false] at h9
    rcases h9 with e | e | e | e <;> subst e
    · exact zU_ok hl
    · exact zU_ok h.1
    · exact zU_ok h.2.1
    · exact zU_ok h.2.2.1
  · exact zgood h.2.2.2.1 w h9
theorem zMS.goodw {y : MethodName} {cc : ByteArray} {maxL na : Nat} {ret : Option FieldType} (h : zMS y cc maxL ret na) : GoodIn zU (zws y cc maxL ret) := zgood h.2.2.1
theorem zMS.good {y : MethodName} {own : String} {cc : ByteArray} {maxL na index : Nat} {ret : Option FieldType} (h : zMS y cc maxL ret na) (hl : Cond.methodLink own index y ∈ zU) : GoodIn zU (va_wsS own index y (zws y cc maxL ret)) := by
  intro w hw
  rcases List.mem_append.mp hw with h9 | h9
  · simp only [List.mem_cons, List.not_mem_nil, or_false] at h9
    rcases h9 with e | e | e <;> subst e
    · exact zU_ok hl
    · exact zU_ok h.1
    · exact zU_ok h.2.1
  · exact h.goodw w h9
