/-! THE LAW'S TOOLS -/
def zwsH (y : MethodName) (cc : ByteArray) (maxL : Nat) (ret : Option FieldType) (hh : List (Nat × Nat × Nat × Nat)) : List Cond := Cond.codeWith y cc maxL ret hh :: zU
def zCH (l : Launch) (g : zG) (y : MethodName) (cc : ByteArray) (maxL : Nat) (ret : Option FieldType) (hh : List (Nat × Nat × Nat × Nat)) (rm : Room) (mc ms : Nat) (av : List Value) (μ : zM) (RT : Option Value → zM → Prop) (XT : String → zM → Prop) : Prop :=
  vx_Met l y (zwsH y cc maxL ret hh) rm (va_Pc av (zPre l g μ)) (zQr g RT) (zQx g XT) mc ms (zA g)
theorem zCH_of {l : Launch} {g : zG} {y : MethodName} {rm : Room} {mc ms maxL : Nat} {av : List Value} {μ : zM} {RT : Option Value → zM → Prop} {XT : String → zM → Prop} {cc : ByteArray} {ret : Option FieldType} {hh : List (Nat × Nat × Nat × Nat)} {L0 : List (Option Value)} (hy : plainName y.cls = true) (hlen : (lg_sl av).length ≤ maxL) (hL : zl 0 L0 = lv_args 0 av)
    (body : ∀ x : zX, zS x g maxL cc y.cls → zR x g ret mc ms (tableOf hh) RT XT → xl x = l → zK x g rm maxL 0 0 0 L0 [] μ) : zCH l g y cc maxL ret hh rm mc ms av μ RT XT := by
  refine vx_ofWH (cc := cc) (maxL := maxL) (ret := ret) (hh := hh) (ws' := zU) hy rfl ?_
  intro p e s m args below meth c s₁ B hml hv
  obtain ⟨rfl, hP, hK, hO, hSt⟩ := hv
  have hts := atoms_spec (ws := zwsH y cc maxL ret hh) B.pre
  have hl := lv_entry av (n := maxL) hlen
  rw [lg_entry_eq]
  have htb := vx_table (x := y) B (hts (Cond.codeWith y cc maxL ret hh) List.mem_cons_self)
  exact body (p, l, e, s, m, av.toArray, below, meth, c, vx_MQ below (zQr g RT) (zQx g XT) av.toArray s mc ms (zA g)) ⟨B.exec, B.bytes, hml, findClass_of_methodNamed B.named, fun w hw => hts w (List.mem_cons_of_mem _ hw), hK, hO, hSt, B.notSynchronized⟩ ⟨rfl, B.returns, htb⟩ rfl s.heap [] _ hP va_S.rf (by rw [hL]; exact hl)
theorem k_catch {x : zX} {g : zG} {nL : Nat} {cc : ByteArray} {own : String} {R : Room} {ce sl pc n mc ms : Nat} {L : List (Option Value)} {st : List Value} {μ : zM} {ret : Option FieldType} {tb : List ExceptionTableEntry} {RT : Option Value → zM → Prop} {XT : String → zM → Prop} {E name : String}
    (S : zS x g nL cc own) (Y : zR x g ret mc ms tb RT XT) (pre : List ExceptionTableEntry) (z : ExceptionTableEntry) (suf : List ExceptionTableEntry) (hsplit : tb = pre ++ z :: suf)
    (hpass : ∀ y ∈ pre, y.catchType ≠ 0 ∧ ∃ nm : String, Cond.classLink own y.catchType nm ∈ zU ∧ (E, nm) ∈ zNcs) (hx : covers z pc = true) (h0 : z.catchType ≠ 0)
    (hlink : Cond.classLink own z.catchType name ∈ zU) (hcast : Cond.castable E name ∈ zNest) (hh : z.handlerPc = n) (kk : ∀ q : Addr, zK x g R nL ce sl n L [.ref q] μ) : zKX x g R nL ce sl pc L st E μ := by
  subst hh
  intro H locs ls ce9 q hP hS hl h1 h2 h3
  exact vx_catch S.own pre z suf (Y.2.2.trans hsplit) (fun y hy => Or.inr ⟨(hpass y hy).1, (hpass y hy).2.elim fun nm h => ⟨nm, S.ts _ h.1, S.st.2.2.2.2.1 _ h.2⟩⟩) hx h0 (S.ts _ hlink) (va_Nw.use (zNest_tab _ hcast) (S.st.2.2.1 _ hcast)) h1 h2 h3 (kk q H locs ls hP hS hl)
def zMH (y : MethodName) (cc : ByteArray) (maxL : Nat) (ret : Option FieldType) (hh : List (Nat × Nat × Nat × Nat)) (na : Nat) : Prop := Cond.static y ∈ zU ∧ Cond.initialized y.cls ∈ zU ∧ Cond.codeWith y cc maxL ret hh ∈ zU ∧
  (y.cls ≠ "java/lang/invoke/MethodHandle" ∧ y.cls ≠ "java/lang/invoke/VarHandle" ∧ (parseMethodDescriptor y.desc).map (fun d => d.parameters.length) = some na)
theorem zMH.good {y : MethodName} {own : String} {cc : ByteArray} {maxL na index : Nat} {ret : Option FieldType} {hh : List (Nat × Nat × Nat × Nat)} (h : zMH y cc maxL ret hh na) (hl : Cond.methodLink own index y ∈ zU) : GoodIn zU (va_wsS own index y (zwsH y cc maxL ret hh)) := by
  intro w hw
  rcases List.mem_append.mp hw with h9 | h9
  · simp only [List.mem_cons, List.not_mem_nil, or_false] at h9
    rcases h9 with e | e | e <;> subst e
    · exact zU_ok hl
    · exact zU_ok h.1
    · exact zU_ok h.2.1
  · exact (List.mem_cons.mp h9).elim (fun e => e ▸ zU_ok h.2.2.1) (fun h8 => zU_ok h8)
theorem k_callH {x : zX} {g : zG} {nL : Nat} {cc : ByteArray} {own : String} {R : Room} {ce sl pc n : Nat} {L : List (Option Value)} {st : List Value} {μ : zM} {y : MethodName} {rm : Room} {mc9 ms9 maxL na index : Nat} {bytes : ByteArray} {ret9 : Option FieldType} {hh : List (Nat × Nat × Nat × Nat)} {As rest : List Value} {RT9 : Option Value → zM → Prop} {XT9 : String → zM → Prop}
    (S : zS x g nL cc own) (hM : zCH (xl x) g y bytes maxL ret9 hh rm mc9 ms9 As μ RT9 XT9) (hv : zMH y bytes maxL ret9 hh na) (hli : Cond.methodLink own index y ∈ zU) (hd : decode cc pc = .ok (.invokestatic index, 3)) (hrc : rm.cells = mc9) (hrs : rm.slots = ms9)
    (hR : rm.frames + 1 ≤ R.frames ∧ 8 + (maxL + 11) + rm.locals ≤ R.locals)
    (hst : st = As.reverse ++ rest) (hna : As.length = na) (hcat : (rest.map fun v => v.category).sum ≤ 8) (hf : ce + mc9 ≤ R.cells ∧ sl + ms9 ≤ R.slots) (hn : pc + 3 = n)
    (kx : ∀ E ν, XT9 E ν → zKX x g R nL (ce + mc9) (sl + ms9) pc L rest E ν) (kk : ∀ v ν, RT9 v ν → zK x g R nL (ce + mc9) (sl + ms9) n L (v.toList ++ rest) ν) : zK x g R nL ce sl pc L st μ := by
  subst hn; subst hst
  intro H locs ls hP hS hl
  exact zRun (vx_runSX S.fix hM (vx_cwSW (ws' := zU) na S.ts (hv.good hli) rfl hrc hrs hv.2.2.2 hR) ⟨zPre_blind _ _ _ _, fun U hU hW => ⟨rfl, zPre.of S hP hS U hU hW⟩⟩ rfl hna hl.1 rfl (lv_room hcat) hd hf) hS hl kx kk
theorem k_forget {x : zX} {g : zG} {R : Room} {nL ce sl pc : Nat} {L L' : List (Option Value)} {st : List Value} {μ : zM} (h : ∀ (i : Nat) (v : Value), L'[i]? = some (some v) → L[i]? = some (some v)) (k : zK x g R nL ce sl pc L' st μ) : zK x g R nL ce sl pc L st μ :=
  fun H locs ls hP hS hl => k H locs ls hP hS ⟨hl.1, hl.2.1, fun q hq => by
    obtain ⟨i, v⟩ := q
    obtain ⟨j, e, hj⟩ := (zl_mem L' 0 i v).mp hq
    exact hl.2.2 (i, v) ((zl_mem L 0 i v).mpr ⟨j, e, h j v hj⟩)⟩
theorem k_widen {x : zX} {g : zG} {R : Room} {nL ce sl ce' sl' pc : Nat} {L : List (Option Value)} {st : List Value} {μ : zM} (h1 : ce ≤ ce') (h2 : sl ≤ sl') (k : zK x g R nL ce' sl' pc L st μ) : zK x g R nL ce sl pc L st μ :=
  fun H locs ls hP hS hl => W.widen h1 h2 (k H locs ls hP hS hl)
/-- the script at the law's start -/
def zScr9 (x : zX) (g : zG) (b L : Nat) (sc : Nat → Int32) : Prop := va_X b L sc (xs x) (xs x).heap ∧ b < (xs x).heap.size ∧ ¬ zA g b
theorem k_sld {x : zX} {g : zG} {R : Room} {nL ce sl pc n b j LL : Nat} {i : Int32} {cc : ByteArray} {own : String} {L : List (Option Value)} {st : List Value} {μ : zM} {sc : Nat → Int32} (S : zS x g nL cc own) (V : zScr9 x g b LL sc) (hd : decode cc pc = .ok (.iaload, 1)) (hi : i = nI j) (hj : j < LL) (hL : LL ≤ 260) (hn : pc + 1 = n)
    (k : zK x g R nL ce sl n L (.int (sc j) :: st) μ) : zK x g R nL ce sl pc L (.int i :: .ref b :: st) μ := by
  subst hn; subst hi
  intro H locs ls hP hS hl
  have e : (nI j).toNatClampNeg = j := nI_clamp (by omega)
  refine va_sld S.ex S.by V.1 V.2.1 V.2.2 hS (pk_in j LL hj rfl (by omega)) hd ?_
  rw [e]
  exact k H locs ls hP hS hl
theorem k_slen {x : zX} {g : zG} {R : Room} {nL ce sl pc n b LL : Nat} {cc : ByteArray} {own : String} {L : List (Option Value)} {st : List Value} {μ : zM} {sc : Nat → Int32} (S : zS x g nL cc own) (V : zScr9 x g b LL sc) (hd : decode cc pc = .ok (.arraylength, 1)) (hn : pc + 1 = n)
    (k : zK x g R nL ce sl n L (.int (nI LL) :: st) μ) : zK x g R nL ce sl pc L (.ref b :: st) μ := by
  subst hn
  intro H locs ls hP hS hl
  exact va_slen S.ex S.by V.1 V.2.1 V.2.2 hS hd (k H locs ls hP hS hl)
section K30
variable {x : zX} {g : zG} {R : Room} {nL ce sl pc n : Nat} {L : List (Option Value)} {st : List Value} {μ : zM} {cc : ByteArray} {own : String}
theorem k_irem {a b : Int32} (S : zS x g nL cc own) (hd : decode cc pc = .ok (.irem, 1)) (h0 : ¬ b = 0) (hn : pc + 1 = n) (k : zK x g R nL ce sl n L (.int (a - a / b * b) :: st) μ) : zK x g R nL ce sl pc L (.int b :: .int a :: st) μ := by
  subst hn
  exact fun H locs ls hP hS hl => lv_irem S.ex S.by hd h0 (k H locs ls hP hS hl)
/-- the top of the stack, by its value -/
theorem k_top {e : Int32} (v : Int32) (h : e = v) (k : zK x g R nL ce sl pc L (.int v :: st) μ) : zK x g R nL ce sl pc L (.int e :: st) μ := by
  rw [h]
  exact k
theorem k_top2 {e a : Int32} (v : Int32) (h : e = v) (k : zK x g R nL ce sl pc L (.int a :: .int v :: st) μ) : zK x g R nL ce sl pc L (.int a :: .int e :: st) μ := by
  rw [h]
  exact k
theorem k_topl {e : Int64} (v : Int64) (h : e = v) (k : zK x g R nL ce sl pc L (.long v :: st) μ) : zK x g R nL ce sl pc L (.long e :: st) μ := by
  rw [h]
  exact k
end K30
/-! CONSEQUENCE -/
theorem zmono {g : zG} {RT RT' : Option Value → zM → Prop} {XT XT' : String → zM → Prop} {mc ms : Nat} {free : Addr → Prop} {a : Array Value} {s t : State} {o : Outcome} (h1 : ∀ v ν, RT v ν → RT' v ν) (h2 : ∀ E ν, XT E ν → XT' E ν)
    (q : vx_Q (zQr g RT) (zQx g XT) mc ms free a s o t) : vx_Q (zQr g RT') (zQx g XT') mc ms free a s o t := by
  rcases q with ⟨⟨v, ν, e, hp, hb, hF⟩, hL⟩ | ⟨q, e, E, ce, L, ⟨ν, hx, hb, hF⟩, hr⟩
  · exact Or.inl ⟨⟨v, ν, e, h1 v ν hp, hb, hF⟩, hL⟩
  · exact Or.inr ⟨q, e, E, ce, L, ⟨ν, h2 E ν hx, hb, hF⟩, hr⟩
theorem zC.mono {l : Launch} {g : zG} {y : MethodName} {cc : ByteArray} {maxL : Nat} {ret : Option FieldType} {rm : Room} {mc ms : Nat} {av : List Value} {μ : zM} {RT RT' : Option Value → zM → Prop} {XT XT' : String → zM → Prop}
    (h : zC l g y cc maxL ret rm mc ms av μ RT XT) (h1 : ∀ v ν, RT v ν → RT' v ν) (h2 : ∀ E ν, XT E ν → XT' E ν) : zC l g y cc maxL ret rm mc ms av μ RT' XT' :=
  MetFree.mono h (fun _ _ q => q) (fun _ _ _ _ _ q => q) (fun _ _ _ _ _ q => zmono h1 h2 q)
theorem zCH.mono {l : Launch} {g : zG} {y : MethodName} {cc : ByteArray} {maxL : Nat} {ret : Option FieldType} {hh : List (Nat × Nat × Nat × Nat)} {rm : Room} {mc ms : Nat} {av : List Value} {μ : zM} {RT RT' : Option Value → zM → Prop} {XT XT' : String → zM → Prop}
    (h : zCH l g y cc maxL ret hh rm mc ms av μ RT XT) (h1 : ∀ v ν, RT v ν → RT' v ν) (h2 : ∀ E ν, XT E ν → XT' E ν) : zCH l g y cc maxL ret hh rm mc ms av μ RT' XT' :=
  MetFree.mono h (fun _ _ q => q) (fun _ _ _ _ _ q => q) (fun _ _ _ _ _ q => zmono h1 h2 q)
/-! TWO MEMORIES THAT AGREE where the desk's cells look -/
def zlim (k : Nat) : Nat := if k = 0 then 16 else if k < 6 then 60 else if k = 6 then 0 else if k = 7 then 16 else if k = 8 then 3 else if k < 11 then 15 else 9
def zEq (μ ν : zM) : Prop := ∀ k, k < 21 → ∀ j, j < zlim k → μ.1 k j = ν.1 k j
theorem zfs_re (g : zG) {m m' : Nat → Int32} {ci : Nat} (h : ∀ j, j < zN ci → m j = m' j) : zfs g m ci = zfs g m' ci := by
  unfold zfs
  refine List.map_congr_left fun j hj => ?_
  unfold zsl
  rw [h j (List.mem_range.mp hj)]
theorem zcell_re (D : va_G) (g : zG) {k : Nat} (hk : k < 21) {m m' : Nat → Int32} (o o' : Nat → Int64) (h : ∀ j, j < zlim k → m j = m' j) {H : Heap} (q : va_at D vwCl (za g k, zcell g k m o) H) : va_at D vwCl (za g k, zcell g k m' o') H := by
  have hc : (∃ ci, ci < 5 ∧ zki k = ci ∧ zN ci = zlim k) ∨ (zki k = 5 ∧ zlen k = zlim k) ∨ zki k = 6 := by
    rcases (show k = 0 ∨ k = 1 ∨ k = 2 ∨ k = 3 ∨ k = 4 ∨ k = 5 ∨ k = 6 ∨ k = 7 ∨ k = 8 ∨ k = 9 ∨ k = 10 ∨ k = 11 ∨ k = 12 ∨ k = 13 ∨ k = 14 ∨ k = 15 ∨ k = 16 ∨ k = 17 ∨ k = 18 ∨ k = 19 ∨ k = 20 by omega) with rfl | rfl | rfl | rfl | rfl | rfl | rfl | rfl | rfl | rfl | rfl | rfl | rfl | rfl | rfl | rfl | rfl | rfl | rfl | rfl | rfl <;>
      first | exact Or.inl ⟨_, by decide, rfl, rfl⟩ | exact Or.inr (Or.inl ⟨rfl, rfl⟩) | exact Or.inr (Or.inr rfl)
  rcases hc with ⟨ci, h5, hki, hN⟩ | ⟨hki, hN⟩ | hki
  · rw [zcell_obj g m' o' hki h5, ← zfs_re g (m := m) (fun j hj => h j (hN ▸ hj)), ← zcell_obj g m o hki h5]
    exact q
  · rw [zcell_row g m o hki (Or.inl rfl)] at q
    rw [zcell_row g m' o' hki (Or.inl rfl)]
    have h1 : H[za g k]? = some (vp_cell (zc g k) (zlen k, .inl m)) := q
    show H[za g k]? = some (vp_cell (zc g k) (zlen k, .inl m'))
    rw [h1]
    refine congrArg some ?_
    show arrV (zc g k) (zlen k) (fun j => .int (m j)) = arrV (zc g k) (zlen k) (fun j => .int (m' j))
    unfold arrV
    have e2 : (fun j : Fin (zlen k) => Value.int (m j.val)) = (fun j : Fin (zlen k) => Value.int (m' j.val)) := funext fun j => by rw [h j.val (hN ▸ j.isLt)]
    rw [e2]
  · rw [zcell_phs g m o hki] at q
    rw [zcell_phs g m' o' hki]
    exact q
theorem zW_re {D : va_G} {g : zG} {μ ν : zM} {H : Heap} (hn : zn g = 21) (h : zEq μ ν) (hP : va_P D vwCl (zW g μ) H) : va_P D vwCl (zW g ν) H := by
  intro k q hq
  by_cases hk : k < 21
  · rw [zW_get g ν (by rw [hn]; exact hk)] at hq
    cases hq
    exact zcell_re D g hk μ.2 ν.2 (h k hk) (hP k _ (zW_get g μ (by rw [hn]; exact hk)))
  · have h2 : (zW g ν)[k]? = none := by simp [zW, hn, Nat.not_lt.mp hk]
    rw [h2] at hq
    cases hq
theorem k_re {x : zX} {g : zG} {R : Room} {nL ce sl pc : Nat} {L : List (Option Value)} {st : List Value} {μ : zM} (ν : zM) (hn : zn g = 21) (h : zEq μ ν) (k : zK x g R nL ce sl pc L st ν) : zK x g R nL ce sl pc L st μ :=
  fun H locs ls hP hS hl => k H locs ls (zW_re hn h hP) hS hl
def zeqb (μ ν : zM) : Bool := (List.range 21).all fun k => (List.range (zlim k)).all fun j => decide (μ.1 k j = ν.1 k j)
theorem zEq_of {μ ν : zM} (h : zeqb μ ν = true) : zEq μ ν := fun k hk j hj => by
  have h1 := List.all_eq_true.mp h k (List.mem_range.mpr hk)
  have h2 := List.all_eq_true.mp h1 j (List.mem_range.mpr hj)
  exact of_decide_eq_true h2
theorem zEq.rf (μ : zM) : zEq μ μ := fun _ _ _ _ => rfl
/-! A MEMORY OUT OF WRITTEN NUMBERS -/
def zOf (S : List (List Int)) : zM := (fun a b => Int32.ofInt ((S.getD a []).getD b 0), fun _ => 0)
def zNt (S : List (List Int)) (a b : Nat) : Nat := ((S.getD a []).getD b 0).toNat
/-- the desk stands so: size s + 2, d subgroups done, c phases; ph i the phase of subgroup i, fs k the first subgroup of phase k -/
def zV (μ : zM) (s d c : Nat) (ph fs : Nat → Nat) : Prop := (μ.1 0 0 = nI (s + 2) ∧ s < 5) ∧ (μ.1 0 6 = nI d ∧ d ≤ 60) ∧ (μ.1 0 12 = nI c ∧ 1 ≤ c ∧ c ≤ 10) ∧ (∀ i, i < d → μ.1 5 i = nI (ph i) ∧ ph i < c) ∧ (∀ k, k < c → μ.1 (11 + k) 0 = nI (fs k)) ∧ ∀ i, i < d → fs (ph i) ≤ i
section VV
variable {μ : zM} {s d c : Nat} {ph fs : Nat → Nat}
theorem zV.hs (h : zV μ s d c ph fs) : μ.1 0 0 = nI (s + 2) := h.1.1
theorem zV.s5 (h : zV μ s d c ph fs) : s < 5 := h.1.2
theorem zV.hd (h : zV μ s d c ph fs) : μ.1 0 6 = nI d := h.2.1.1
theorem zV.d60 (h : zV μ s d c ph fs) : d ≤ 60 := h.2.1.2
theorem zV.hc (h : zV μ s d c ph fs) : μ.1 0 12 = nI c := h.2.2.1.1
theorem zV.c1 (h : zV μ s d c ph fs) : 1 ≤ c := h.2.2.1.2.1
theorem zV.c10 (h : zV μ s d c ph fs) : c ≤ 10 := h.2.2.1.2.2
theorem zV.hph (h : zV μ s d c ph fs) : ∀ i, i < d → μ.1 5 i = nI (ph i) ∧ ph i < c := h.2.2.2.1
theorem zV.hfs (h : zV μ s d c ph fs) : ∀ k, k < c → μ.1 (11 + k) 0 = nI (fs k) := h.2.2.2.2.1
theorem zV.hfi (h : zV μ s d c ph fs) : ∀ i, i < d → fs (ph i) ≤ i := h.2.2.2.2.2
theorem zV.see {ν : zM} (h : zV μ s d c ph fs) (e0 : ν.1 0 = μ.1 0) (e5 : ν.1 5 = μ.1 5) (ef : ∀ k, k < 10 → ν.1 (11 + k) 0 = μ.1 (11 + k) 0) : zV ν s d c ph fs :=
  ⟨by rw [e0]; exact h.1, by rw [e0]; exact h.2.1, by rw [e0]; exact h.2.2.1, by rw [e5]; exact h.2.2.2.1, fun k hk => by rw [ef k (Nat.lt_of_lt_of_le hk h.c10)]; exact h.hfs k hk, h.hfi⟩
end VV
def zVb (S : List (List Int)) (s d c : Nat) : Bool :=
  decide ((zOf S).1 0 0 = nI (s + 2)) && (decide (s < 5) && (decide ((zOf S).1 0 6 = nI d) && (decide (d ≤ 60) && (decide ((zOf S).1 0 12 = nI c) && (decide (1 ≤ c) && (decide (c ≤ 10) &&
  ((List.range d).all (fun i => decide ((zOf S).1 5 i = nI (zNt S 5 i)) && decide (zNt S 5 i < c)) && ((List.range c).all (fun k => decide ((zOf S).1 (11 + k) 0 = nI (zNt S (11 + k) 0))) && (List.range d).all (fun i => decide (zNt S (11 + zNt S 5 i) 0 ≤ i))))))))))
theorem zVb_of {S : List (List Int)} {s d c : Nat} (h : zVb S s d c = true) : zV (zOf S) s d c (fun i => zNt S 5 i) (fun k => zNt S (11 + k) 0) := by
  simp only [zVb, Bool.and_eq_true, decide_eq_true_eq, List.all_eq_true, List.mem_range] at h
  obtain ⟨h1, h2, h3, h4, h5, h6, h7, h8, h9, h10⟩ := h
  exact ⟨⟨h1, h2⟩, ⟨h3, h4⟩, ⟨h5, h6, h7⟩, h8, h9, h10⟩
/-! RULES THAT COMPUTE -/
def zctD (p : Nat → Bool) : Nat → Nat
  | 0 => 0
  | n + 1 => zctD p n + (if p n then 1 else 0)
theorem zct_D {p : Nat → Prop} {q : Nat → Bool} (h : ∀ i, q i = true ↔ p i) : ∀ n, zct p n = zctD q n
  | 0 => rfl
  | n + 1 => by
    have ih := zct_D h n
    show zct p (n + 1) = zctD q n + (if q n then 1 else 0)
    by_cases hp : p n
    · rw [zct_t hp, if_pos ((h n).mpr hp), ih]
    · rw [zct_f hp, if_neg (fun z => hp ((h n).mp z)), ih]
      rfl
def zWbD (r n : Nat) (lv : Nat → Int32) (ce w : Int32) : Bool := match r with
  | 1 => decide (1 ≤ n) && decide (¬ zsb (lv 0) ce w 3 = 0)
  | 2 => decide (9 ≤ n) && (decide (zdir ce (lv 0) ≠ 0) && (List.range 9).all (fun i => decide (zdir ce (lv i) = zdir ce (lv 0))))
  | 3 => decide (6 ≤ n) && (decide (zdir (lv 1) (lv 0) ≠ 0) && (List.range 5).all (fun i => decide (zdir (lv (i + 1)) (lv i) = zdir (lv 1) (lv 0))))
  | 4 => decide (14 ≤ n) && (decide (zdir (lv 1) (lv 0) ≠ 0) && (List.range 13).all (fun i => decide (i = 0) || decide (zdir (lv (i + 1)) (lv i) = -(zdir (lv i) (lv (i - 1))))))
  | 5 => decide (3 ≤ n) && (decide (zsb (lv 0) ce w 2 ≠ 0) && decide (2 ≤ nI (zctD (fun i => decide (zsb (lv i) ce w 2 = zsb (lv 0) ce w 2)) 3)))
  | 6 => decide (5 ≤ n) && (decide (zsb (lv 0) ce w 1 ≠ 0) && decide (4 ≤ nI (zctD (fun i => decide (zsb (lv i) ce w 1 = zsb (lv 0) ce w 1)) 5)))
  | 7 => decide (15 ≤ n) && decide (nI (zctD (fun i => decide (¬ zsb (lv i) ce w 1 = 0)) 15) = 0)
  | _ => decide (8 ≤ n) && decide (nI (zctD (fun i => decide (¬ zsb (lv i) ce w 1 = 0)) 8) = 8)
theorem zWb_D (r n : Nat) (lv : Nat → Int32) (ce w : Int32) : zWbD r n lv ce w = true ↔ zWb r n lv ce w := by
  have c2 : zct (fun i => zsb (lv i) ce w 2 = zsb (lv 0) ce w 2) 3 = zctD (fun i => decide (zsb (lv i) ce w 2 = zsb (lv 0) ce w 2)) 3 := zct_D (fun i => decide_eq_true_iff) 3
  have c1 : zct (fun i => zsb (lv i) ce w 1 = zsb (lv 0) ce w 1) 5 = zctD (fun i => decide (zsb (lv i) ce w 1 = zsb (lv 0) ce w 1)) 5 := zct_D (fun i => decide_eq_true_iff) 5
  have c0 : ∀ m, zct (fun i => ¬ zsb (lv i) ce w 1 = 0) m = zctD (fun i => decide (¬ zsb (lv i) ce w 1 = 0)) m := zct_D (fun i => decide_eq_true_iff)
  unfold zWbD zWb
  split
  · simp only [Bool.and_eq_true, decide_eq_true_eq]
  · simp only [Bool.and_eq_true, decide_eq_true_eq, List.all_eq_true, List.mem_range]
  · simp only [Bool.and_eq_true, decide_eq_true_eq, List.all_eq_true, List.mem_range]
    exact and_congr_right fun _ => and_congr_right fun _ => ⟨fun q i hi => q i (by omega), fun q i hi => q i (by omega)⟩
  · simp only [Bool.and_eq_true, Bool.or_eq_true, decide_eq_true_eq, List.all_eq_true, List.mem_range]
    exact and_congr_right fun _ => and_congr_right fun _ => ⟨fun q i h1 h2 => (q i (by omega)).elim (fun e => absurd e (by omega)) id, fun q i hi => if e : i = 0 then Or.inl e else Or.inr (q i (by omega) (by omega))⟩
  · simp only [Bool.and_eq_true, decide_eq_true_eq, c2]
  · simp only [Bool.and_eq_true, decide_eq_true_eq, c1]
  · simp only [Bool.and_eq_true, decide_eq_true_eq, c0]
  · simp only [Bool.and_eq_true, decide_eq_true_eq, c0]
def zbsD (P : Nat → Bool) : Nat → Int32
  | 0 => 0
  | r + 1 => if P (r + 1) then zbsD P r ||| ((1 : Int32) <<< (nI (r + 1) &&& 31)) else zbsD P r
theorem zbs_D {P : Nat → Prop} {Q : Nat → Bool} (h : ∀ r, Q r = true ↔ P r) : ∀ n, zbs P n = zbsD Q n
  | 0 => rfl
  | r + 1 => by
    have ih := zbs_D h r
    show zbs P (r + 1) = if Q (r + 1) then zbsD Q r ||| ((1 : Int32) <<< (nI (r + 1) &&& 31)) else zbsD Q r
    by_cases hp : P (r + 1)
    · rw [zbs_t hp, if_pos ((h _).mpr hp), ih]
    · rw [zbs_f hp, if_neg (fun z => hp ((h _).mp z)), ih]
/-- the window by one run back, with what it has so far -/
def zwA (rs ms : Nat → Int32) (i : Nat) : Nat → Nat → Nat → zM → zM
  | 0, _, _, ν => ν
  | m + 1, n, c, ν => if c < 15 then (if rs (i - n) = 0 then zwA rs ms i m (n + 1) (c + 1) (zu (zu (zu ν 9 c (nI (i - n))) 10 c (ms (i - n))) 8 2 (nI (c + 1))) else zwA rs ms i m (n + 1) c ν) else ν
def zwC (rs : Nat → Int32) (i : Nat) : Nat → Nat → Nat → Nat
  | 0, _, c => c
  | m + 1, n, c => if c < 15 then (if rs (i - n) = 0 then zwC rs i m (n + 1) (c + 1) else zwC rs i m (n + 1) c) else c
theorem zwA_eq (μ : zM) (i : Nat) : ∀ m n, zwA (μ.1 4) (μ.1 3) i m n (zlc (μ.1 4) i n) (zlM μ i n) = zlM μ i (n + m) ∧ zwC (μ.1 4) i m n (zlc (μ.1 4) i n) = zlc (μ.1 4) i (n + m)
  | 0, n => ⟨rfl, rfl⟩
  | m + 1, n => by
    obtain ⟨h1, h2⟩ := zwA_eq μ i m (n + 1)
    have e : n + (m + 1) = n + 1 + m := by omega
    rw [e, ← h1, ← h2, zlM_s, zlc_s, zwA, zwC]
    by_cases hc : zlc (μ.1 4) i n < 15
    · rw [if_pos hc, if_pos hc, if_pos hc, if_pos hc]
      by_cases hr : μ.1 4 (i - n) = 0
      · rw [if_pos hr, if_pos hr, if_pos hr, if_pos hr]
        exact ⟨rfl, rfl⟩
      · rw [if_neg hr, if_neg hr, if_neg hr, if_neg hr]
        exact ⟨rfl, rfl⟩
    · rw [if_neg hc, if_neg hc, if_neg hc, if_neg hc]
      obtain ⟨f1, f2⟩ := zlM_full μ i n hc (m + 1)
      rw [e] at f1 f2
      obtain ⟨g1, g2⟩ := zlM_full μ i n hc 1
      rw [g1, g2] at h1
      rw [g2] at h2
      exact ⟨(h1.trans f1).symm, (h2.trans f2).symm⟩
theorem zlM_A (μ : zM) (i n : Nat) : zlM μ i n = zwA (μ.1 4) (μ.1 3) i n 0 0 (zu μ 8 2 0) := by
  have h := (zwA_eq μ i n 0).1
  rw [Nat.zero_add] at h
  exact h.symm
theorem zlc_A (μ : zM) (i n : Nat) : zlc (μ.1 4) i n = zwC (μ.1 4) i n 0 0 := by
  have h := (zwA_eq μ i n 0).2
  rw [Nat.zero_add] at h
  exact h.symm
