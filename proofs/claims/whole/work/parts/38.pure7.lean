/-! THE COUPLING goes on: exclude -/
theorem count_off (μ : zM) {i k s t : Nat} {sg : Int32} (h : t ≠ 11 + k) : (m_X3_countPoint μ i k s sg).1 t = μ.1 t := by
  unfold m_X3_countPoint
  rw [settle_off _ h, zu_off _ _ _ _ h, zu_off _ _ _ _ h, zu_off _ _ _ _ h]
theorem count_0 (μ : zM) {i k s : Nat} {sg : Int32} : (m_X3_countPoint μ i k s sg).1 (11 + k) 0 = μ.1 (11 + k) 0 := by
  unfold m_X3_countPoint
  rw [settle_low _ (by decide), zu_ne _ (by omega), zu_ne _ (by omega), zu_ne _ (by omega)]
/-- the desk's memory after exclude, at the places but phase k's and the reasons -/
theorem excl_off (μ : zM) {i k s t : Nat} {a : Int32} (h : t ≠ 11 + k) (h4 : t ≠ 4) : (m_X3_exclude μ i k s a).1 t = μ.1 t := by
  unfold m_X3_exclude
  split
  · split
    · exact zu_off _ _ _ _ h4
    · rw [count_off _ h, zu_off _ _ _ _ h4]
  · split
    · rw [count_off _ h, zu_off _ _ _ _ h4]
    · exact zu_off _ _ _ _ h4
theorem excl_4 (μ : zM) {i k s : Nat} {a : Int32} : (m_X3_exclude μ i k s a).1 4 = upd (μ.1 4) i a := by
  unfold m_X3_exclude
  split
  · split
    · exact zu_at _ _ _ _
    · rw [count_off _ (by omega), zu_at]
  · split
    · rw [count_off _ (by omega), zu_at]
    · exact zu_at _ _ _ _
theorem excl_0 (μ : zM) {i k s : Nat} {a : Int32} : (m_X3_exclude μ i k s a).1 (11 + k) 0 = μ.1 (11 + k) 0 := by
  unfold m_X3_exclude
  split
  · split
    · exact zu_ne _ (by omega)
    · rw [count_0, zu_ne _ (by omega)]
  · split
    · rw [count_0, zu_ne _ (by omega)]
    · exact zu_ne _ (by omega)
theorem zpx_same {ph : Nat → Nat} {rs rs' : Nat → Int32} {t i : Nat} (hr : ∀ j, j ≠ i → rs' j = rs j) (h0 : ¬ rs i = 0) (h1 : ¬ rs' i = 0) : ∀ n, zpc ph rs' t n = zpc ph rs t n ∧ zpx ph rs' t n = zpx ph rs t n
  | 0 => ⟨rfl, rfl⟩
  | n + 1 => by
    obtain ⟨q1, q2⟩ := zpx_same (ph := ph) (t := t) hr h0 h1 n
    rw [zpc_s, zpc_s, zpx_s, zpx_s, q1, q2]
    by_cases e : n = i
    · subst e
      rw [if_neg h0, if_neg h1, if_neg h0, if_neg h1]
      exact ⟨rfl, rfl⟩
    · rw [hr n e]
      exact ⟨rfl, rfl⟩
theorem zJ.exclude {μ : zM} {s d c b w i : Nat} {a : Int32} {ph fs : Nat → Nat} (h : zJ μ s d c b w ph fs) (hi : i < d) (ha : 0 ≤ a) : zJ (zu (m_X3_exclude μ i (ph i) s a) 24 i a) s d c b w ph fs := by
  have hc10 := h.1.c10
  have hpi := h.1.pc hi
  have hb := h.vb
  obtain ⟨⟨a1, a2, a3, a4, a5⟩, ⟨b1, b2, b3, b4⟩, hB, hF, hF0, hR, hP⟩ := h
  have o : ∀ t, t ≠ 11 + ph i → t ≠ 4 → t ≠ 24 → (zu (m_X3_exclude μ i (ph i) s a) 24 i a).1 t = μ.1 t := fun t q1 q2 q3 => by rw [zu_off _ _ _ _ q3, excl_off _ q1 q2]
  have o4 : (zu (m_X3_exclude μ i (ph i) s a) 24 i a).1 4 = upd (μ.1 4) i a := by rw [zu_off _ _ _ _ (by decide), excl_4]
  have o24 : (zu (m_X3_exclude μ i (ph i) s a) 24 i a).1 24 = upd (μ.1 24) i a := by rw [zu_at, excl_off _ (by omega) (by decide)]
  have o0 := o 0 (by omega) (by decide) (by decide)
  have o21 := o 21 (by omega) (by decide) (by decide)
  refine ⟨⟨a1.mono (by rw [o21]) (o 25 (by omega) (by decide) (by decide)), by rw [o21]; exact a2, a3, by rw [o21]; exact a4, a5⟩, ⟨by rw [o0]; exact b1, by rw [o0]; exact b2, by rw [o0]; exact b3, b4⟩, ?_, fun k hk => ?_, hF0, fun j hj => ?_, fun k hk => ?_⟩
  · unfold zJB
    rw [o0, o21]
    exact hB
  · by_cases e : k = ph i
    · subst e
      rw [zu_off _ _ _ _ (by omega), excl_0]
      exact hF _ hk
    · rw [o (11 + k) (by omega) (by omega) (by omega)]
      exact hF k hk
  · have q := hR j hj
    unfold zJR zmn at q ⊢
    rw [o 1 (by omega) (by decide) (by decide), o 2 (by omega) (by decide) (by decide), o 3 (by omega) (by decide) (by decide), o 5 (by omega) (by decide) (by decide), o 22 (by omega) (by decide) (by decide), o 23 (by omega) (by decide) (by decide), o4, o24, o21]
    obtain ⟨q1, q2, q3, q4, q5, q6, q7⟩ := q
    by_cases e : j = i
    · subst e
      rw [show upd (μ.1 4) j a j = a by simp [upd], show upd (μ.1 24) j a j = a by simp [upd]]
      exact ⟨q1, q2, rfl, q4, q5, ha, q7⟩
    · simp only [upd, if_neg e]
      exact ⟨q1, q2, q3, q4, q5, q6, q7⟩
  · by_cases e : ph i = k
    · subst e
      have q := hR i hi
      by_cases h0 : μ.1 24 i = 0
      · by_cases h1 : a = 0
        · have e1 : m_X3_exclude μ i (ph i) s a = zu μ 4 i a := by
            unfold m_X3_exclude
            rw [if_pos (q.2.2.1.trans h0), if_pos h1]
          have e24 : upd (μ.1 24) i a = μ.1 24 := by
            funext t
            by_cases et : t = i
            · subst et
              simp [upd, h0, h1]
            · simp [upd, et]
          refine (hP _ hk).same ?_ (o 22 (by omega) (by decide) (by decide)) (o 23 (by omega) (by decide) (by decide)) (o24.trans e24) (by rw [o 26 (by omega) (by decide) (by decide)]) (by rw [o 27 (by omega) (by decide) (by decide)]) (by rw [o 28 (by omega) (by decide) (by decide)])
          rw [e1, zu_off _ _ _ _ (by omega), zu_off _ _ _ _ (by omega)]
        · have e1 : m_X3_exclude μ i (ph i) s a = m_X3_countPoint (zu μ 4 i a) i (ph i) s (-1) := by
            unfold m_X3_exclude
            rw [if_pos (q.2.2.1.trans h0), if_neg h1]
          rw [e1]
          exact (hP _ hk).count (by omega) a5 a3 hb hi rfl q.1 q.2.1 (Or.inr ⟨rfl, h0, h1⟩)
      · by_cases h1 : a = 0
        · have e1 : m_X3_exclude μ i (ph i) s a = m_X3_countPoint (zu μ 4 i a) i (ph i) s 1 := by
            unfold m_X3_exclude
            rw [if_neg (fun z => h0 (q.2.2.1.symm.trans z)), if_pos h1]
          rw [e1]
          exact (hP _ hk).count (by omega) a5 a3 hb hi rfl q.1 q.2.1 (Or.inl ⟨rfl, h0, h1⟩)
        · have e1 : m_X3_exclude μ i (ph i) s a = zu μ 4 i a := by
            unfold m_X3_exclude
            rw [if_neg (fun z => h0 (q.2.2.1.symm.trans z)), if_neg h1]
          have hr : ∀ j, j ≠ i → upd (μ.1 24) i a j = μ.1 24 j := fun j hj => by simp [upd, hj]
          have hri : ¬ upd (μ.1 24) i a i = 0 := by simp [upd, h1]
          have hx := zpx_same (ph := ph) (t := ph i) hr h0 hri d
          have m : ∀ v : Nat → Int32, zSm v ph (upd (μ.1 24) i a) (ph i) d = zSm v ph (μ.1 24) (ph i) d := fun v => by
            have q := zSm_upd (v := v) (ph := ph) (t := ph i) hr d
            rw [if_neg (fun z => h0 z.2.2), if_neg (fun z => hri z.2.2)] at q
            omega
          have e22 := o 22 (by omega) (by decide) (by decide)
          have e23 := o 23 (by omega) (by decide) (by decide)
          refine (hP _ hk).frame ?_ (by rw [o24]; exact hx.1) (fun j _ => by unfold zSF; rw [o24, hx.2, e22]) (fun j _ => by unfold zSF; rw [o24, hx.2, e23]) (by rw [o24, e22]; exact m _) (by rw [o24, e23]; exact m _) (by rw [o 26 (by omega) (by decide) (by decide)]) (by rw [o 27 (by omega) (by decide) (by decide)]) (by rw [o 28 (by omega) (by decide) (by decide)])
          rw [e1, zu_off _ _ _ _ (by omega), zu_off _ _ _ _ (by omega)]
    · exact (hP k hk).other (i := i) (a := a) e (o _ (by omega) (by omega) (by omega)) (o 22 (by omega) (by decide) (by decide)) (o 23 (by omega) (by decide) (by decide)) o24 (by rw [o 26 (by omega) (by decide) (by decide)]) (by rw [o 27 (by omega) (by decide) (by decide)]) (by rw [o 28 (by omega) (by decide) (by decide)])
