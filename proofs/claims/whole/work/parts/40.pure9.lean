/-! THE COUPLING goes on: begin -/
theorem zSee.u {μ ν : zM} (h : zSee μ ν) (p j : Nat) (v : Int32) : zSee (zu μ p j v) (zu ν p j v) := by
  obtain ⟨h1, h2⟩ := h
  refine ⟨fun a ha q => ?_, fun b q hb => ?_⟩
  · by_cases e : a = p
    · subst e
      rw [zu_at, zu_at, h1 a ha q]
    · rw [zu_off _ _ _ _ e, zu_off _ _ _ _ e]
      exact h1 a ha q
  · by_cases e : 21 = p ∧ b = j
    · obtain ⟨e1, e2⟩ := e
      subst e1; subst e2
      simp [zu]
    · rw [zu_ne _ e, zu_ne _ e]
      exact h2 b q hb
theorem zbM_off (μ : zM) (v : Int32) {a : Nat} (h5 : a ≠ 25) (h6 : a ≠ 26) : ∀ n, (zbM μ v n).1 a = (zbM μ v 0).1 a
  | 0 => rfl
  | n + 1 => by
    show (zu (zu (zbM μ v n) 25 n 0) 26 n 0).1 a = _
    rw [zu_off _ _ _ _ h6, zu_off _ _ _ _ h5, zbM_off μ v h5 h6 n]
theorem zbM_at (μ : zM) (v : Int32) : ∀ n k, k < n → (zbM μ v n).1 25 k = 0 ∧ (zbM μ v n).1 26 k = 0
  | 0, k, h => absurd h (Nat.not_lt_zero _)
  | n + 1, k, h => by
    show (zu (zu (zbM μ v n) 25 n 0) 26 n 0).1 25 k = 0 ∧ (zu (zu (zbM μ v n) 25 n 0) 26 n 0).1 26 k = 0
    by_cases e : k = n
    · subst e
      simp [zu]
    · obtain ⟨q1, q2⟩ := zbM_at μ v n k (by omega)
      rw [zu_ne _ (by omega), zu_ne _ (by omega), zu_ne _ (by omega), zu_ne _ (by omega)]
      exact ⟨q1, q2⟩
theorem zJ.begin {μ : zM} {s d c b w s' : Nat} {ph fs : Nat → Nat} (h : zJ μ s d c b w ph fs) (hs' : s' < 5) : zJ (zbM (m_X3_restart μ (nI (s' + 2))) (nI (s' + 2)) 10) s' 0 1 0 2 ph (fun _ => 0) := by
  obtain ⟨-, -, hB, -⟩ := h
  obtain ⟨D, eD⟩ : ∃ D, D = m_X3_restart μ (nI (s' + 2)) := ⟨_, rfl⟩
  rw [← eD]
  have o : ∀ a, a ≠ 25 → a ≠ 26 → a ≠ 21 → (zbM D (nI (s' + 2)) 10).1 a = D.1 a := fun a q1 q2 q3 => by
    rw [zbM_off _ _ q1 q2]
    show (zu (zu (zu (zu (zu (zu D 21 23 0) 21 0 (nI (s' + 2))) 21 1 0) 21 2 0) 21 9 1) 21 14 2).1 a = _
    rw [zu_off _ _ _ _ q3, zu_off _ _ _ _ q3, zu_off _ _ _ _ q3, zu_off _ _ _ _ q3, zu_off _ _ _ _ q3, zu_off _ _ _ _ q3]
  have o21 : (zbM D (nI (s' + 2)) 10).1 21 = (zu (zu (zu (zu (zu (zu D 21 23 0) 21 0 (nI (s' + 2))) 21 1 0) 21 2 0) 21 9 1) 21 14 2).1 21 := zbM_off _ _ (by decide) (by decide) 10
  have d21 : D.1 21 = μ.1 21 := by
    rw [eD]
    unfold m_X3_restart
    rw [zset_off _ _ (by decide), zu_off _ _ _ _ (by decide), zu_off _ _ _ _ (by decide), zu_off _ _ _ _ (by decide), zu_off _ _ _ _ (by decide), zu_off _ _ _ _ (by decide)]
  have d0 : D.1 0 = upd (upd (upd (upd (upd (μ.1 0) 0 (nI (s' + 2))) 1 2) 2 0) 6 0) 12 1 := by
    rw [eD]
    unfold m_X3_restart
    rw [zset_off _ _ (by decide), zu_at, zu_at, zu_at, zu_at, zu_at]
  have d11 : ∀ j, j < 5 → D.1 (11 + 0) j = 0 := fun j hj => by
    rw [eD]
    unfold m_X3_restart
    rw [zset_at]
    match j, hj with
    | 0, _ => rfl
    | 1, _ => rfl
    | 2, _ => rfl
    | 3, _ => rfl
    | 4, _ => rfl
    | j + 5, h => exact absurd h (by omega)
  have z26 : (zbM D (nI (s' + 2)) 10).1 26 0 = 0 := (zbM_at _ _ 10 0 (by decide)).2
  refine ⟨⟨⟨?_, by decide, fun k hk => ?_, fun i hi => absurd hi (Nat.not_lt_zero _)⟩, ?_, by decide, ?_, hs'⟩, ⟨?_, ?_, ?_, Nat.le_refl 1⟩, ?_, fun k hk => ?_, rfl, fun i hi => absurd hi (Nat.not_lt_zero _), fun k hk => ?_⟩
  · rw [o21]
    simp [zu]
    rfl
  · obtain rfl : k = 0 := by omega
    exact ⟨(zbM_at _ _ 10 0 (by decide)).1, Nat.zero_le _⟩
  · rw [o21]
    simp [zu]
    rfl
  · rw [o21]
    simp [zu]
  · rw [o 0 (by decide) (by decide) (by decide), d0]
    simp [upd]
  · rw [o 0 (by decide) (by decide) (by decide), d0]
    simp [upd]
    rfl
  · rw [o 0 (by decide) (by decide) (by decide), d0]
    simp [upd]
    rfl
  · unfold zJB at hB ⊢
    obtain ⟨-, -, -, -, -, -, q3, q4, q5, -⟩ := hB
    rw [o 0 (by decide) (by decide) (by decide), d0, o21]
    refine ⟨by simp [upd]; rfl, by simp [zu]; rfl, by omega, by simp [upd]; rfl, by simp [zu]; rfl, by decide, ?_, ?_, ?_, fun q => absurd q (by decide)⟩
    · simp [upd, zu, d21, q3]
    · simp [upd, zu, d21, q4]
    · simp [upd, zu, d21, q5]
  · obtain rfl : k = 0 := by omega
    rw [o (11 + 0) (by decide) (by decide) (by decide), d11 0 (by decide)]
    exact ⟨rfl, Nat.le_refl 0⟩
  · obtain rfl : k = 0 := by omega
    unfold zJP
    rw [o (11 + 0) (by decide) (by decide) (by decide), d11 1 (by decide), d11 2 (by decide), d11 3 (by decide), d11 4 (by decide), z26]
    refine ⟨rfl, rfl, rfl, rfl, Or.inl rfl, fun hz => ?_, fun q => absurd rfl q⟩
    unfold zHas at hz
    rw [z26] at hz
    exact hz.elim (fun q => absurd rfl q) (fun q => absurd q (Nat.lt_irrefl 0))
