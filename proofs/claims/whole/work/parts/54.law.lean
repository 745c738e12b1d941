/-! THE LAW: rows of its own; what stands between two calls; how an answer is held against the reference's -/
theorem k_forget {x : zX} {g : zG} {R : Room} {nL ce sl pc : Nat} {L L' : List (Option Value)} {st : List Value} {μ : zM} (h : ∀ (i : Nat) (v : Value), L'[i]? = some (some v) → L[i]? = some (some v)) (k : zK x g R nL ce sl pc L' st μ) : zK x g R nL ce sl pc L st μ :=
  fun H locs ls hP hS hl => k H locs ls hP hS ⟨hl.1, hl.2.1, fun q hq => by
    obtain ⟨i, v⟩ := q
    obtain ⟨j, e, hj⟩ := (zl_mem L' 0 i v).mp hq
    exact hl.2.2 (i, v) ((zl_mem L 0 i v).mpr ⟨j, e, h j v hj⟩)⟩
theorem k_widen {x : zX} {g : zG} {R : Room} {nL ce sl ce' sl' pc : Nat} {L : List (Option Value)} {st : List Value} {μ : zM} (h1 : ce ≤ ce') (h2 : sl ≤ sl') (k : zK x g R nL ce' sl' pc L st μ) : zK x g R nL ce sl pc L st μ :=
  fun H locs ls hP hS hl => W.widen h1 h2 (k H locs ls hP hS hl)
/-- the script at the law's start -/
def zScr9 (x : zX) (g : zG) (b L : Nat) (sc : Nat → Int32) : Prop := va_X b L sc (xs x) (xs x).heap ∧ b < (xs x).heap.size ∧ ¬ zA g b
theorem k_sld {x : zX} {g : zG} {R : Room} {nL ce sl pc n b j LL : Nat} {i : Int32} {cc : ByteArray} {own : String} {L : List (Option Value)} {st : List Value} {μ : zM} {sc : Nat → Int32} (S : zS x g nL cc own) (V : zScr9 x g b LL sc) (hd : decode cc pc = .ok (.iaload, 1)) (hi : i = nI j) (hj : j < LL) (hL : LL ≤ 2560) (hn : pc + 1 = n)
    (k : zK x g R nL ce sl n L (.int (sc j) :: st) μ) : zK x g R nL ce sl pc L (.int i :: .ref b :: st) μ := by
  subst hn; subst hi
  intro H locs ls hP hS hl
  have e : (nI j).toNatClampNeg = j := nI_clamp (by omega)
  refine va_sld S.ex S.by V.1 V.2.1 V.2.2 hS (pk_in j LL hj rfl (by omega)) hd ?_
  rw [e]
  exact k H locs ls hP hS hl
theorem k_slen {x : zX} {g : zG} {R : Room} {nL ce sl pc n b LL : Nat} {cc : ByteArray} {own : String} {L : List (Option Value)} {st : List Value} {μ : zM} {sc : Nat → Int32} (S : zS x g nL cc own) (V : zScr9 x g b LL sc) (hd : decode cc pc = .ok (.arraylength, 1)) (hn : pc + 1 = n)
    (k : zK x g R nL ce sl n L (.int (nI LL) :: st) μ) : zK x g R nL ce sl pc L (.ref b :: st) μ := by
  subst hn
  intro H locs ls hP hS hl
  exact va_slen S.ex S.by V.1 V.2.1 V.2.2 hS hd (k H locs ls hP hS hl)
/-- between two calls -/
def zJx (μ : zM) : Prop := ∃ (s d c b w : Nat) (ph fs : Nat → Nat), zJ μ s d c b w ph fs
def zLh (b : Nat) (g : zG) (i : Nat) : List (Option Value) := [some (.ref b), some (.ref (za g 0)), some (.ref (za g 21)), some (.ref (za g 31)), some (.int (nI i)), none, none, none]
theorem zJ.x {μ : zM} {s d c b w : Nat} {ph fs : Nat → Nat} (h : zJ μ s d c b w ph fs) : zJx μ := ⟨s, d, c, b, w, ph, fs, h⟩
section JJ
variable {μ : zM} {s d c b w : Nat} {ph fs : Nat → Nat}
theorem zJ.hd (h : zJ μ s d c b w ph fs) : μ.1 0 6 = nI d := h.2.1.2.1
theorem zJ.d60 (h : zJ μ s d c b w ph fs) : d ≤ 60 := h.1.2.2.1
theorem zJ.hc (h : zJ μ s d c b w ph fs) : μ.1 0 12 = nI c := h.2.1.2.2.1
theorem zJ.c10 (h : zJ μ s d c b w ph fs) : c ≤ 10 := h.1.c10
theorem zJ.c1 (h : zJ μ s d c b w ph fs) : 1 ≤ c := h.2.1.2.2.2
theorem zJ.hs (h : zJ μ s d c b w ph fs) : μ.1 0 0 = nI (s + 2) := h.2.1.1
theorem zJ.s5 (h : zJ μ s d c b w ph fs) : s < 5 := h.1.2.2.2.2
theorem zJ.hph (h : zJ μ s d c b w ph fs) : ∀ i, i < d → μ.1 5 i = nI (ph i) ∧ ph i < c := fun i hi => ⟨(h.2.2.2.2.2.1 i hi).2.2.2.2.1, h.1.pc hi⟩
theorem zJ.hfs (h : zJ μ s d c b w ph fs) : ∀ k, k < c → μ.1 (11 + k) 0 = nI (fs k) := fun k hk => (h.2.2.2.1 k hk).1
theorem zJ.hfi (h : zJ μ s d c b w ph fs) : ∀ i, i < d → fs (ph i) ≤ i := fun i hi => (h.1.1.walk hi).1
theorem zJ.r4 (h : zJ μ s d c b w ph fs) {i : Nat} (hi : i < d) : μ.1 4 i = μ.1 24 i := (h.2.2.2.2.2.1 i hi).2.2.1
theorem zJ.r0 (h : zJ μ s d c b w ph fs) {i : Nat} (hi : i < d) : 0 ≤ μ.1 24 i := (h.2.2.2.2.2.1 i hi).2.2.2.2.2.1
theorem zJ.rn (h : zJ μ s d c b w ph fs) {i : Nat} (hi : i < d) (hr : ¬ μ.1 4 i = 0) : ¬ μ.1 24 i ≤ 0 := fun q => hr ((h.r4 hi).trans (Int32.le_antisymm q (h.r0 hi)))
theorem zJ.rs (h : zJ μ s d c b w ph fs) : zRs μ d := fun _ hi => h.r0 hi
/-- phase k has limits, on both sides -/
theorem zJ.lm (h : zJ μ s d c b w ph fs) {k : Nat} (hk : k < c) : zLm μ k ↔ zHas μ ph k d := by
  obtain ⟨p1, -, -, p4, -⟩ := h.2.2.2.2.2.2 k hk
  unfold zLm zHas
  rw [p1, p4]
  have := zpc_le ph (μ.1 24) k d
  have := h.d60
  constructor
  · intro q
    rcases q with q | q
    · exact Or.inl q
    · exact Or.inr (Nat.pos_of_ne_zero fun z => q (by rw [z]; decide))
  · intro q
    rcases q with q | q
    · exact Or.inl q
    · exact Or.inr (nI_nle q (by omega))
end JJ
/-- behind a call of the reference -/
theorem zaft {μ ν : zM} {w : Int32} (h : zNear (zu μ 21 23 w) ν) : ν.1 21 23 = w ∧ ν.2 = μ.2 := ⟨(h.2 21 23 rfl).trans (by simp [zu]), h.1⟩
theorem zJx.near {μ ν : zM} {w : Int32} (J : zJx μ) (h : zNear (zu μ 21 23 w) ν) : zJx ν := by
  obtain ⟨s, d, c, b, w9, ph, fs, J⟩ := J
  exact (J.see ((zSee.thr μ w).trans h.see)).x
theorem zJx.see {μ ν : zM} (J : zJx μ) (h : zSee μ ν) : zJx ν := by
  obtain ⟨s, d, c, b, w9, ph, fs, J⟩ := J
  exact (J.see h).x
theorem zQ.of {μ ν : zM} {d c s : Nat} {ph fs : Nat → Nat} (Q : zQ μ d c s ph fs) (e : ν.1 21 = μ.1 21) (e25 : ν.1 25 = μ.1 25) : zQ ν d c s ph fs := by
  obtain ⟨q1, q2, q3, q4, q5⟩ := Q
  exact ⟨q1.mono (by rw [e]) e25, by rw [e]; exact q2, q3, by rw [e]; exact q4, q5⟩
/-- how the reference's call ends, held against the desk's k (the number of its throw) and against the row of its answer -/
def zOi (k : Int32) (RT4 : Option Value → zM → Prop) : Prop := ∀ (r : Option Value) (ν : zM), RT4 r ν → ∃ a : Int32, r = some (.int a) ∧ ν.1 21 23 = k ∧ (k = 0 → ν.2 0 = Int32.toInt64 a) ∧ zJx ν
def zOz (k : Int32) (RT4 : Option Value → zM → Prop) : Prop := ∀ (r : Option Value) (ν : zM), RT4 r ν → ∃ a : Int32, r = some (.int a) ∧ ν.1 21 23 = k ∧ (k = 0 → ν.2 0 = if a = 0 then (0 : Int64) else (1 : Int64)) ∧ zJx ν
def zOl (k : Int32) (RT4 : Option Value → zM → Prop) : Prop := ∀ (r : Option Value) (ν : zM), RT4 r ν → ∃ a : Int64, r = some (.long a) ∧ ν.1 21 23 = k ∧ (k = 0 → ν.2 0 = a) ∧ zJx ν
def zOv (k : Int32) (RT4 : Option Value → zM → Prop) : Prop := ∀ (r : Option Value) (ν : zM), RT4 r ν → r = none ∧ ν.1 21 23 = k ∧ zJx ν
theorem zOi.n {μ : zM} {a k : Int32} (J : zJx μ) (h : k = 0 → μ.2 0 = Int32.toInt64 a) : zOi k (zRn μ (some (.int a)) k) := fun r ν q => ⟨a, q.1, (zaft q.2).1, fun z => by rw [(zaft q.2).2]; exact h z, J.near q.2⟩
theorem zOz.n {μ : zM} {a k : Int32} (J : zJx μ) (h : k = 0 → μ.2 0 = if a = 0 then (0 : Int64) else (1 : Int64)) : zOz k (zRn μ (some (.int a)) k) := fun r ν q => ⟨a, q.1, (zaft q.2).1, fun z => by rw [(zaft q.2).2]; exact h z, J.near q.2⟩
theorem zOl.n {μ : zM} {a : Int64} {k : Int32} (J : zJx μ) (h : k = 0 → μ.2 0 = a) : zOl k (zRn μ (some (.long a)) k) := fun r ν q => ⟨a, q.1, (zaft q.2).1, fun z => by rw [(zaft q.2).2]; exact h z, J.near q.2⟩
theorem zOv.n {μ : zM} {k : Int32} (J : zJx μ) : zOv k (zRn μ none k) := fun r ν q => ⟨q.1, (zaft q.2).1, J.near q.2⟩
/-- the room of a call of the reference -/
def zRm (rm : Room) : Prop := rm.cells = 0 ∧ rm.slots = 0 ∧ rm.frames + 1 ≤ 12 ∧ 8 + (13 + 11) + rm.locals ≤ 436
theorem zRm.of (f lo : Nat) (h : f ≤ 11) (h2 : lo ≤ 404) : zRm ({ frames := f, cells := 0, slots := 0, locals := lo } : Room) := ⟨rfl, rfl, by show f + 1 ≤ 12; omega, by show 8 + (13 + 11) + lo ≤ 436; omega⟩
/-- the reference's call that follows, with a contract that tells all -/
def zNx (l : Launch) (g : zG) (y : MethodName) (cc : ByteArray) (maxL : Nat) (ret : Option FieldType) (av : List Value) (ν : zM) (O : Int32 → (Option Value → zM → Prop) → Prop) (k : Int32) : Prop := ∃ (rm : Room) (RT4 : Option Value → zM → Prop), zRm rm ∧ zC l g y cc maxL ret rm 0 0 av ν RT4 zNX ∧ O k RT4
theorem zNx.of {l : Launch} {g : zG} {y : MethodName} {cc : ByteArray} {maxL f lo : Nat} {ret : Option FieldType} {av : List Value} {ν : zM} {O : Int32 → (Option Value → zM → Prop) → Prop} {k : Int32} {RT4 : Option Value → zM → Prop} (h : zC l g y cc maxL ret ({ frames := f, cells := 0, slots := 0, locals := lo } : Room) 0 0 av ν RT4 zNX) (o : O k RT4) (h1 : f ≤ 11) (h2 : lo ≤ 404) : zNx l g y cc maxL ret av ν O k := ⟨_, RT4, zRm.of f lo h1 h2, h, o⟩
theorem zuo_0 (μ : zM) (v : Int64) : (zuo μ v).2 0 = v := by
  show vp_updL μ.2 0 v 0 = v
  simp [vp_updL]
