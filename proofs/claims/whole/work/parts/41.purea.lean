/-! THE COUPLING goes on: put, where a subgroup is not done by it -/
/-- what is begun after one more measurement -/
def zB3 (μ : zM) (v : Int32) : Int32 := if μ.1 21 2 = 0 then v else μ.1 21 3 + v
def zB4 (μ : zM) (v : Int32) : Int32 := if μ.1 21 2 = 0 then v else (if μ.1 21 4 ≤ v then μ.1 21 4 else v)
def zB5 (μ : zM) (v : Int32) : Int32 := if μ.1 21 2 = 0 then v else (if v ≤ μ.1 21 5 then μ.1 21 5 else v)
theorem z_ite1 {p : Prop} [Decidable p] {α : Type} (x y : α) : (if (if p then (1 : Int32) else (0 : Int32)) = 0 then x else y) = if p then y else x := by
  by_cases h : p
  · rw [if_pos h, if_pos h, if_neg (by decide)]
  · rw [if_neg h, if_neg h, if_pos rfl]
theorem zB_desk {μ : zM} {v : Int32} (e2 : μ.1 0 2 = μ.1 21 2) (e3 : μ.1 0 3 = μ.1 21 3) (e4 : μ.1 0 4 = μ.1 21 4) (e5 : μ.1 0 5 = μ.1 21 5) :
    m_X3_takeMeasurement μ v = zu (zu (zu (zu μ 0 3 (zB3 μ v)) 0 4 (zB4 μ v)) 0 5 (zB5 μ v)) 0 2 (μ.1 21 2 + 1) := by
  unfold m_X3_takeMeasurement zB3 zB4 zB5
  rw [z_ite1, z_ite1, z_ite1, e2, e3, e4, e5]
  have a4 : zmin (μ.1 21 4) v = if μ.1 21 4 ≤ v then μ.1 21 4 else v := by
    unfold zmin
    by_cases h : v < μ.1 21 4
    · rw [if_pos h, if_neg (Int32.not_le.mpr h)]
    · rw [if_neg h, if_pos (Int32.not_lt.mp h)]
  have a5 : zmax (μ.1 21 5) v = if v ≤ μ.1 21 5 then μ.1 21 5 else v := by
    unfold zmax
    by_cases h : μ.1 21 5 < v
    · rw [if_pos h, if_neg (Int32.not_le.mpr h)]
    · rw [if_neg h, if_pos (Int32.not_lt.mp h)]
  rw [a4, a5]
theorem zB_bd {μ : zM} {s b w : Nat} {v : Int32} (hs : s < 5) (h : zJB μ s b w) (h1 : -9999 ≤ v) (h2 : v ≤ 9999) : (-(9999 * ((b : Int) + 1)) ≤ (zB3 μ v).toInt ∧ (zB3 μ v).toInt ≤ 9999 * ((b : Int) + 1)) ∧ -9999 ≤ (zB4 μ v).toInt ∧ (zB4 μ v).toInt ≤ (zB5 μ v).toInt ∧ (zB5 μ v).toInt ≤ 9999 := by
  obtain ⟨q1, q2, q3, -, -, -, -, -, -, q4⟩ := h
  rw [Int32.le_iff_toInt_le] at h1 h2
  have t1 : (-9999 : Int32).toInt = -9999 := rfl
  have t2 : (9999 : Int32).toInt = 9999 := rfl
  rw [t1] at h1
  rw [t2] at h2
  unfold zB3 zB4 zB5
  by_cases hb : b = 0
  · subst hb
    rw [nI_0] at q2
    rw [if_pos q2, if_pos q2, if_pos q2]
    omega
  · have hne : ¬ μ.1 21 2 = 0 := by
      rw [q2]
      exact nI_ne0 (by omega) (by omega)
    obtain ⟨⟨r1, r2⟩, r3, r4, r5⟩ := q4 (by omega)
    rw [if_neg hne, if_neg hne, if_neg hne]
    refine ⟨by rw [z32a (by omega) (by omega)]; omega, ?_⟩
    simp only [Int32.le_iff_toInt_le]
    by_cases c1 : (μ.1 21 4).toInt ≤ v.toInt
    · rw [if_pos c1]
      by_cases c2 : v.toInt ≤ (μ.1 21 5).toInt
      · rw [if_pos c2]
        omega
      · rw [if_neg c2]
        omega
    · rw [if_neg c1]
      by_cases c2 : v.toInt ≤ (μ.1 21 5).toInt
      · rw [if_pos c2]
        omega
      · rw [if_neg c2]
        omega
/-- the memory after a measurement that finishes nothing -/
def zTk (μ : zM) (v : Int32) (b : Nat) : zM := zu (zu (zu (zu (zu (zu (zu (zu μ 0 3 (zB3 μ v)) 0 4 (zB4 μ v)) 0 5 (zB5 μ v)) 0 2 (nI (b + 1))) 21 3 (zB3 μ v)) 21 4 (zB4 μ v)) 21 5 (zB5 μ v)) 21 2 (nI (b + 1))
theorem zTk_off (μ : zM) (v : Int32) (b : Nat) {a : Nat} (h0 : a ≠ 0) (h21 : a ≠ 21) : (zTk μ v b).1 a = μ.1 a := by
  unfold zTk
  rw [zu_off _ _ _ _ h21, zu_off _ _ _ _ h21, zu_off _ _ _ _ h21, zu_off _ _ _ _ h21, zu_off _ _ _ _ h0, zu_off _ _ _ _ h0, zu_off _ _ _ _ h0, zu_off _ _ _ _ h0]
theorem zTk_ne (μ : zM) (v : Int32) (b : Nat) {a j : Nat} (hj : j ≠ 2 ∧ j ≠ 3 ∧ j ≠ 4 ∧ j ≠ 5) : (zTk μ v b).1 a j = μ.1 a j := by
  unfold zTk
  rw [zu_ne _ (by omega), zu_ne _ (by omega), zu_ne _ (by omega), zu_ne _ (by omega), zu_ne _ (by omega), zu_ne _ (by omega), zu_ne _ (by omega), zu_ne _ (by omega)]
theorem zJ.take {μ : zM} {s d c b w : Nat} {ph fs : Nat → Nat} {v : Int32} (h : zJ μ s d c b w ph fs) (h1 : -9999 ≤ v) (h2 : v ≤ 9999) (hb : b + 1 < s + 2) : zJ (zTk μ v b) s d c (b + 1) w ph fs := by
  have hbd := zB_bd h.1.2.2.2.2 h.2.2.1 h1 h2
  obtain ⟨⟨a1, a2, a3, a4, a5⟩, ⟨b1, b2, b3, b4⟩, hB, hF, hF0, hR, hP⟩ := h
  have hc10 := a1.2.1
  have o : ∀ a, a ≠ 0 → a ≠ 21 → (zTk μ v b).1 a = μ.1 a := fun a q r => zTk_off μ v b q r
  have n : ∀ a j, j ≠ 2 ∧ j ≠ 3 ∧ j ≠ 4 ∧ j ≠ 5 → (zTk μ v b).1 a j = μ.1 a j := fun a j hj => zTk_ne μ v b hj
  refine ⟨⟨a1.mono (n 21 9 (by decide)) (o 25 (by decide) (by decide)), (n 21 1 (by decide)).trans a2, a3, (n 21 0 (by decide)).trans a4, a5⟩, ⟨(n 0 0 (by decide)).trans b1, (n 0 6 (by decide)).trans b2, (n 0 12 (by decide)).trans b3, b4⟩, ?_, fun k hk => by rw [o (11 + k) (by omega) (by omega)]; exact hF k hk, hF0, fun i hi => ?_, fun k hk => ?_⟩
  · unfold zJB at hB ⊢
    obtain ⟨q1, q2, q3, q4, q5, q6, q7⟩ := hB
    rw [n 0 1 (by decide), n 21 14 (by decide)]
    have e : ∀ a, (a = 0 ∨ a = 21) → (zTk μ v b).1 a 2 = nI (b + 1) ∧ (zTk μ v b).1 a 3 = zB3 μ v ∧ (zTk μ v b).1 a 4 = zB4 μ v ∧ (zTk μ v b).1 a 5 = zB5 μ v := by
      intro a ha
      rcases ha with rfl | rfl <;> simp [zTk, zu]
    obtain ⟨x1, x2, x3, x4⟩ := e 0 (Or.inl rfl)
    obtain ⟨y1, y2, y3, y4⟩ := e 21 (Or.inr rfl)
    rw [x1, x2, x3, x4, y1, y2, y3, y4]
    exact ⟨rfl, rfl, hb, q4, q5, q6, rfl, rfl, rfl, fun _ => ⟨by have := hbd.1; omega, hbd.2⟩⟩
  · have q := hR i hi
    unfold zJR zmn at q ⊢
    rw [o 1 (by decide) (by decide), o 2 (by decide) (by decide), o 3 (by decide) (by decide), o 4 (by decide) (by decide), o 5 (by decide) (by decide), o 22 (by decide) (by decide), o 23 (by decide) (by decide), o 24 (by decide) (by decide), n 21 0 (by decide)]
    exact q
  · exact (hP k hk).same (o _ (by omega) (by omega)) (o 22 (by decide) (by decide)) (o 23 (by decide) (by decide)) (o 24 (by decide) (by decide)) (by rw [o 26 (by decide) (by decide)]) (by rw [o 27 (by decide) (by decide)]) (by rw [o 28 (by decide) (by decide)])
