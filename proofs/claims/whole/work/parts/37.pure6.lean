/-! THE COUPLING goes on: thaw, exclude -/
theorem settle_comm (μ : zM) {k s a j : Nat} (v : Int32) (h : a ≠ 11 + k) : zu (m_X0_settle μ k s) a j v = m_X0_settle (zu μ a j v) k s := by
  have e : (zu μ a j v).1 (11 + k) = μ.1 (11 + k) := zu_off _ _ _ _ (Ne.symm h)
  unfold m_X0_settle
  rw [e]
  split
  · split
    · rfl
    · rw [zu_comm (p := 11 + k) (q := a) _ _ (by omega), zu_comm (p := 11 + k) (q := a) _ _ (by omega), zu_comm (p := 11 + k) (q := a) _ _ (by omega), zu_comm (p := 11 + k) (q := a) _ _ (by omega)]
  · rfl
theorem zJ.thaw {μ : zM} {s d c b w k : Nat} {ph fs : Nat → Nat} (h : zJ μ s d c b w ph fs) (hk : k < c) : zJ (zu (m_X0_settle (zu μ (11 + k) 4 0) k s) 26 k 0) s d c b w ph fs := by
  have hc10 := h.1.c10
  rw [settle_comm _ _ (by omega)]
  have o : ∀ a, a ≠ 11 + k → a ≠ 26 → (m_X0_settle (zu (zu μ (11 + k) 4 0) 26 k 0) k s).1 a = μ.1 a := fun a q1 q2 => by rw [settle_off _ q1, zu_off _ _ _ _ q2, zu_off _ _ _ _ q1]
  refine h.low (fun a ha => o a (by omega) (by omega)) (fun j hj => ?_) (fun j hj => ?_)
  · by_cases e : j = k
    · subst e
      rw [settle_low _ (by decide), zu_ne _ (by omega), zu_ne _ (by omega)]
    · rw [o _ (by omega) (by omega)]
  · by_cases e : j = k
    · subst e
      obtain ⟨p1, p2, p3, p4, p5, p6, p7⟩ := h.2.2.2.2.2.2 j hj
      have n26 : (zu (zu μ (11 + j) 4 0) 26 j 0).1 26 j = 0 := by simp [zu]
      have o2 : ∀ a, a ≠ 11 + j → a ≠ 26 → (zu (zu μ (11 + j) 4 0) 26 j 0).1 a = μ.1 a := fun a q1 q2 => by rw [zu_off _ _ _ _ q2, zu_off _ _ _ _ q1]
      have f : ∀ t, t ≠ 4 → (zu (zu μ (11 + j) 4 0) 26 j 0).1 (11 + j) t = μ.1 (11 + j) t := fun t ht => by rw [zu_ne _ (by omega), zu_ne _ (by omega)]
      refine zJP_settle (by omega) h.1.2.2.2.2 h.1.2.2.1 ?_ ?_ ?_ ?_ ?_ (Or.inl n26) (fun q => absurd n26 q) (fun q => absurd n26 q)
      · intro i hi
        rw [o2 22 (by omega) (by decide), o2 23 (by omega) (by decide)]
        exact h.vb i hi
      · rw [f 1 (by decide), o2 24 (by omega) (by decide)]
        exact p1
      · rw [f 2 (by decide), o2 24 (by omega) (by decide), o2 22 (by omega) (by decide)]
        exact p2
      · rw [f 3 (by decide), o2 24 (by omega) (by decide), o2 23 (by omega) (by decide)]
        exact p3
      · rw [n26, zu_ne _ (by omega)]
        simp [zu]
    · refine (h.2.2.2.2.2.2 j hj).same (o _ (by omega) (by omega)) (o 22 (by omega) (by decide)) (o 23 (by omega) (by decide)) (o 24 (by omega) (by decide)) ?_ (by rw [settle_off _ (by omega), zu_off _ _ _ _ (by decide), zu_off _ _ _ _ (by omega)]) (by rw [settle_off _ (by omega), zu_off _ _ _ _ (by decide), zu_off _ _ _ _ (by omega)])
      rw [settle_off _ (by omega), zu_ne _ (by omega), zu_ne _ (by omega)]
theorem zpx_upd {ph : Nat → Nat} {rs rs' : Nat → Int32} {t i : Nat} (hr : ∀ j, j ≠ i → rs' j = rs j) (hp : ph i ≠ t) : ∀ n, zpc ph rs' t n = zpc ph rs t n ∧ zpx ph rs' t n = zpx ph rs t n
  | 0 => ⟨rfl, rfl⟩
  | n + 1 => by
    obtain ⟨q1, q2⟩ := zpx_upd hr hp n
    rw [zpc_s, zpc_s, zpx_s, zpx_s, q1, q2]
    by_cases e : n = i
    · subst e
      rw [if_neg hp, if_neg hp, if_neg hp, if_neg hp]
      exact ⟨rfl, rfl⟩
    · rw [hr n e]
      exact ⟨rfl, rfl⟩
/-- a phase that does not hold subgroup i -/
theorem zJP.other {μ ν : zM} {ph : Nat → Nat} {d s k i : Nat} {a : Int32} (h : zJP μ ph d s k) (hp : ph i ≠ k) (e : ν.1 (11 + k) = μ.1 (11 + k)) (e22 : ν.1 22 = μ.1 22) (e23 : ν.1 23 = μ.1 23) (e24 : ν.1 24 = upd (μ.1 24) i a) (e26 : ν.1 26 k = μ.1 26 k) (e27 : ν.1 27 k = μ.1 27 k) (e28 : ν.1 28 k = μ.1 28 k) : zJP ν ph d s k := by
  have hr : ∀ j, j ≠ i → ν.1 24 j = μ.1 24 j := fun j hj => by rw [e24]; simp [upd, hj]
  obtain ⟨q1, q2⟩ := zpx_upd (t := k) hr hp d
  have m : ∀ v : Nat → Int32, zSm v ph (ν.1 24) k d = zSm v ph (μ.1 24) k d := fun v => by
    have q := zSm_upd (v := v) (ph := ph) (t := k) hr d
    rw [if_neg (fun z => hp z.2.1), if_neg (fun z => hp z.2.1)] at q
    omega
  exact h.frame e q1 (fun j _ => by unfold zSF; rw [q2, e22]) (fun j _ => by unfold zSF; rw [q2, e23]) (by rw [e22]; exact m _) (by rw [e23]; exact m _) e26 e27 e28
/-- the phase of subgroup i, counted anew by e (1, -1) -/
theorem zJP.count {μ : zM} {ph : Nat → Nat} {d s k i : Nat} {a sg : Int32} (hk : k < 10) (hs5 : s < 5) (hd : d ≤ 60) (hv : zVb μ s d) (h : zJP μ ph d s k) (hi : i < d) (hp : ph i = k) (r1 : μ.1 1 i = μ.1 22 i) (r2 : μ.1 2 i = μ.1 23 i)
    (hsg : (sg = 1 ∧ ¬ μ.1 24 i = 0 ∧ a = 0) ∨ (sg = -1 ∧ μ.1 24 i = 0 ∧ ¬ a = 0)) : zJP (zu (m_X3_countPoint (zu μ 4 i a) i k s sg) 24 i a) ph d s k := by
  obtain ⟨p1, p2, p3, p4, p5, p6, p7⟩ := h
  unfold m_X3_countPoint
  rw [settle_comm _ _ (by omega)]
  obtain ⟨X, eX⟩ : ∃ X, X = zu (zu (zu (zu (zu μ 4 i a) (11 + k) 1 ((zu μ 4 i a).1 (11 + k) 1 + sg)) (11 + k) 2 ((zu μ 4 i a).1 (11 + k) 2 + sg * (zu μ 4 i a).1 1 i)) (11 + k) 3 ((zu μ 4 i a).1 (11 + k) 3 + sg * (zu μ 4 i a).1 2 i)) 24 i a := ⟨_, rfl⟩
  rw [← eX]
  have wk : ∀ t, (zu μ 4 i a).1 (11 + k) t = μ.1 (11 + k) t := fun t => zu_ne _ (by omega)
  rw [wk 1, wk 2, wk 3, zu_ne (a := 1) (b := i) (p := 4) (j := i) a (by omega), zu_ne (a := 2) (b := i) (p := 4) (j := i) a (by omega), r1, r2] at eX
  have o : ∀ t, t ≠ 4 → t ≠ 11 + k → t ≠ 24 → X.1 t = μ.1 t := fun t q1 q2 q3 => by rw [eX, zu_off _ _ _ _ q3, zu_off _ _ _ _ q2, zu_off _ _ _ _ q2, zu_off _ _ _ _ q2, zu_off _ _ _ _ q1]
  have e24 : X.1 24 = upd (μ.1 24) i a := by rw [eX, zu_at, zu_off _ _ _ _ (by omega), zu_off _ _ _ _ (by omega), zu_off _ _ _ _ (by omega), zu_off _ _ _ _ (by decide)]
  have f : ∀ t, t = 0 ∨ 4 ≤ t → X.1 (11 + k) t = μ.1 (11 + k) t := fun t ht => by rw [eX, zu_ne _ (by omega), zu_ne _ (by omega), zu_ne _ (by omega), zu_ne _ (by omega), zu_ne _ (by omega)]
  have g1 : X.1 (11 + k) 1 = μ.1 (11 + k) 1 + sg := by
    rw [eX, zu_ne _ (by omega), zu_ne _ (by omega), zu_ne _ (by omega), zu_at]
    simp [upd]
  have g2 : X.1 (11 + k) 2 = μ.1 (11 + k) 2 + sg * μ.1 22 i := by
    rw [eX, zu_ne _ (by omega), zu_ne _ (by omega), zu_at]
    simp [upd]
  have g3 : X.1 (11 + k) 3 = μ.1 (11 + k) 3 + sg * μ.1 23 i := by
    rw [eX, zu_ne _ (by omega), zu_at]
    simp [upd]
  have hr : ∀ j, j ≠ i → X.1 24 j = μ.1 24 j := fun j hj => by rw [e24]; simp [upd, hj]
  have hri : X.1 24 i = a := by rw [e24]; simp [upd]
  have c1 := zpc_upd (ph := ph) (t := k) hr d
  have c2 := zSm_upd (v := μ.1 22) (ph := ph) (t := k) hr d
  have c3 := zSm_upd (v := μ.1 23) (ph := ph) (t := k) hr d
  have hle := zpc_le ph (μ.1 24) k d
  have hvi := hv i hi
  have b2 := zSm_bd (v := μ.1 22) (ph := ph) (rs := μ.1 24) (t := k) (A := -60000) (B := 60000) d (fun j hj => by have := (hv j hj).1; omega)
  have b3 := zSm_bd (v := μ.1 23) (ph := ph) (rs := μ.1 24) (t := k) (A := -60000) (B := 60000) d (fun j hj => by have := (hv j hj).2; omega)
  rw [hri] at c1 c2 c3
  have key : X.1 (11 + k) 1 = nI (zpc ph (X.1 24) k d) ∧ (X.1 (11 + k) 2).toInt = zSm (μ.1 22) ph (X.1 24) k d ∧ (X.1 (11 + k) 3).toInt = zSm (μ.1 23) ph (X.1 24) k d := by
    rcases hsg with ⟨rfl, h0, h1⟩ | ⟨rfl, h0, h1⟩
    · rw [if_neg (fun z => h0 z.2.2), if_pos ⟨hi, hp, h1⟩] at c1 c2 c3
      rw [g1, g2, g3, p1, Int32.one_mul, Int32.one_mul]
      refine ⟨?_, ?_, ?_⟩
      · rw [nI_1]
        congr 1
        omega
      · rw [z32a (by omega) (by omega), p2]
        omega
      · rw [z32a (by omega) (by omega), p3]
        omega
    · rw [if_pos ⟨hi, hp, h0⟩, if_neg (fun z => h1 z.2.2)] at c1 c2 c3
      rw [g1, g2, g3, p1, Int32.neg_mul, Int32.neg_mul, Int32.one_mul, Int32.one_mul, ← Int32.sub_eq_add_neg (μ.1 (11 + k) 2), ← Int32.sub_eq_add_neg (μ.1 (11 + k) 3)]
      refine ⟨?_, ?_, ?_⟩
      · rw [show zpc ph (μ.1 24) k d = zpc ph (X.1 24) k d + 1 by omega]
        exact pk_m1 _
      · rw [z32s (by omega) (by omega), p2]
        omega
      · rw [z32s (by omega) (by omega), p3]
        omega
  have o22 := o 22 (by decide) (by omega) (by decide)
  have o23 := o 23 (by decide) (by omega) (by decide)
  have o26 := o 26 (by decide) (by omega) (by decide)
  have o27 := o 27 (by decide) (by omega) (by decide)
  have o28 := o 28 (by decide) (by omega) (by decide)
  refine zJP_settle hk hs5 hd (fun j hj => by rw [o22, o23]; exact hv j hj) key.1 (by rw [o22]; exact key.2.1) (by rw [o23]; exact key.2.2) (by rw [f 4 (by omega), o26]; exact p4) (by rw [o26]; exact p5) (fun hz => ?_) (by rw [o26, o27, o28]; exact p7)
  rw [o26] at hz
  obtain ⟨l1, l2, l3, l4⟩ := p6 (Or.inl hz)
  have n1 : zLC X ph k d s = zLC μ ph k d s := by
    rw [zLC, zLC, o26, o27, if_neg hz, if_neg hz]
  have n2 : zLR X ph k d = zLR μ ph k d := by
    rw [zLR, zLR, o26, o28, if_neg hz, if_neg hz]
  unfold zlims
  rw [n1, n2, f 5 (by omega), f 6 (by omega), f 7 (by omega), f 8 (by omega)]
  exact ⟨l1, l2, l3, l4⟩
