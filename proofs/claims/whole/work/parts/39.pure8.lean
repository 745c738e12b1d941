/-! THE COUPLING goes on: newPhase -/
def zfsN (fs : Nat → Nat) (c d : Nat) : Nat → Nat := fun k => if k = c then d else fs k
theorem zJ.newPhase {μ : zM} {s d c w : Nat} {ph fs : Nat → Nat} (h : zJ μ s d c 0 w ph fs) (hc : c < 10) (hlt : fs (c - 1) < d) : zJ (zu (zu (zu (m_X3_newPhase μ c d) 25 c (nI d)) 26 c 0) 21 9 (nI c + 1)) s d (c + 1) 0 w ph (zfsN fs c d) := by
  obtain ⟨⟨⟨m1, m2, m3, m4⟩, a2, a3, a4, a5⟩, ⟨b1, b2, b3, b4⟩, hB, hF, hF0, hR, hP⟩ := h
  have o : ∀ t, t ≠ 0 → t ≠ 11 + c → t ≠ 21 → t ≠ 25 → t ≠ 26 → (zu (zu (zu (m_X3_newPhase μ c d) 25 c (nI d)) 26 c 0) 21 9 (nI c + 1)).1 t = μ.1 t := fun t q0 q1 q2 q3 q4 => by
    rw [zu_off _ _ _ _ q2, zu_off _ _ _ _ q4, zu_off _ _ _ _ q3]
    unfold m_X3_newPhase
    rw [zu_off _ _ _ _ q0, zset_off _ _ q1]
  have o0 : ∀ j, j ≠ 12 → (zu (zu (zu (m_X3_newPhase μ c d) 25 c (nI d)) 26 c 0) 21 9 (nI c + 1)).1 0 j = μ.1 0 j := fun j hj => by
    rw [zu_off _ _ _ _ (by decide), zu_off _ _ _ _ (by decide), zu_off _ _ _ _ (by decide)]
    unfold m_X3_newPhase
    rw [zu_ne _ (by omega), zset_off _ _ (by omega)]
  have o012 : (zu (zu (zu (m_X3_newPhase μ c d) 25 c (nI d)) 26 c 0) 21 9 (nI c + 1)).1 0 12 = nI (c + 1) := by
    rw [zu_off _ _ _ _ (by decide), zu_off _ _ _ _ (by decide), zu_off _ _ _ _ (by decide)]
    unfold m_X3_newPhase
    rw [nI_succ]
    simp [zu]
  have o21 : ∀ j, j ≠ 9 → (zu (zu (zu (m_X3_newPhase μ c d) 25 c (nI d)) 26 c 0) 21 9 (nI c + 1)).1 21 j = μ.1 21 j := fun j hj => by
    rw [zu_ne _ (by omega), zu_off _ _ _ _ (by decide), zu_off _ _ _ _ (by decide)]
    unfold m_X3_newPhase
    rw [zu_off _ _ _ _ (by decide), zset_off _ _ (by omega)]
  have o219 : (zu (zu (zu (m_X3_newPhase μ c d) 25 c (nI d)) 26 c 0) 21 9 (nI c + 1)).1 21 9 = nI (c + 1) := by
    rw [nI_succ]
    simp [zu]
  have o25 : ∀ j, (zu (zu (zu (m_X3_newPhase μ c d) 25 c (nI d)) 26 c 0) 21 9 (nI c + 1)).1 25 j = if j = c then nI d else μ.1 25 j := fun j => by
    rw [zu_off _ _ _ _ (by decide), zu_off _ _ _ _ (by decide)]
    have e : (m_X3_newPhase μ c d).1 25 = μ.1 25 := by
      unfold m_X3_newPhase
      rw [zu_off _ _ _ _ (by decide), zset_off _ _ (by omega)]
    simp [zu, e]
  have o26 : ∀ j, (zu (zu (zu (m_X3_newPhase μ c d) 25 c (nI d)) 26 c 0) 21 9 (nI c + 1)).1 26 j = if j = c then 0 else μ.1 26 j := fun j => by
    rw [zu_off _ _ _ _ (by decide)]
    have e : (m_X3_newPhase μ c d).1 26 = μ.1 26 := by
      unfold m_X3_newPhase
      rw [zu_off _ _ _ _ (by decide), zset_off _ _ (by omega)]
    simp [zu, e]
  have oc : ∀ j, (zu (zu (zu (m_X3_newPhase μ c d) 25 c (nI d)) 26 c 0) 21 9 (nI c + 1)).1 (11 + c) j = upd (upd (upd (upd (upd (μ.1 (11 + c)) 0 (nI d)) 1 0) 2 0) 3 0) 4 0 j := fun j => by
    rw [zu_off _ _ _ _ (by omega), zu_off _ _ _ _ (by omega), zu_off _ _ _ _ (by omega)]
    unfold m_X3_newPhase
    rw [zu_off _ _ _ _ (by omega), zset_at]
  have hle : ∀ k, k < c → fs k ≤ d := fun k hk => (hF k hk).2
  have hno : ∀ n, n ≤ d → zpc ph (μ.1 24) c n = 0 ∧ ∀ v : Nat → Int32, zSm v ph (μ.1 24) c n = 0 := by
    intro n
    induction n with
    | zero => exact fun _ => ⟨rfl, fun _ => rfl⟩
    | succ n ih =>
      intro hn
      have hp := (m4 n (by omega)).1
      obtain ⟨i1, i2⟩ := ih (by omega)
      exact ⟨by rw [zpc_s, if_neg (by omega)]; exact i1, fun v => by rw [zSm_s, if_neg (by omega)]; exact i2 v⟩
  refine ⟨⟨⟨o219, by omega, fun k hk => ?_, fun i hi => ⟨by have := (m4 i hi).1; omega, fun k hk => ?_⟩⟩, (o21 1 (by decide)).trans a2, a3, (o21 0 (by decide)).trans a4, a5⟩, ⟨(o0 0 (by decide)).trans b1, (o0 6 (by decide)).trans b2, o012, by omega⟩, ?_, fun k hk => ?_, ?_, fun i hi => ?_, fun k hk => ?_⟩
  · rw [o25]
    unfold zfsN
    by_cases e : k = c
    · rw [if_pos e, if_pos e]
      exact ⟨rfl, a3⟩
    · rw [if_neg e, if_neg e]
      exact m3 k (by omega)
  · unfold zfsN
    by_cases e : k = c
    · rw [if_pos e]
      have := (m4 i hi).1
      omega
    · rw [if_neg e]
      exact (m4 i hi).2 k (by omega)
  · unfold zJB at hB ⊢
    rw [o0 2 (by decide), o0 1 (by decide), o0 3 (by decide), o0 4 (by decide), o0 5 (by decide), o21 2 (by decide), o21 14 (by decide), o21 3 (by decide), o21 4 (by decide), o21 5 (by decide)]
    exact hB
  · unfold zfsN
    by_cases e : k = c
    · rw [if_pos e, e, oc]
      exact ⟨by simp [upd], Nat.le_refl d⟩
    · rw [if_neg e, o (11 + k) (by omega) (by omega) (by omega) (by omega) (by omega)]
      exact hF k (by omega)
  · unfold zfsN
    rw [if_neg (by omega)]
    exact hF0
  · have q := hR i hi
    unfold zJR zmn at q ⊢
    rw [o 1 (by decide) (by omega) (by decide) (by decide) (by decide), o 2 (by decide) (by omega) (by decide) (by decide) (by decide), o 3 (by decide) (by omega) (by decide) (by decide) (by decide), o 4 (by decide) (by omega) (by decide) (by decide) (by decide), o 5 (by decide) (by omega) (by decide) (by decide) (by decide), o 22 (by decide) (by omega) (by decide) (by decide) (by decide), o 23 (by decide) (by omega) (by decide) (by decide) (by decide), o 24 (by decide) (by omega) (by decide) (by decide) (by decide), o21 0 (by decide)]
    exact q
  · have e22 := o 22 (by decide) (by omega) (by decide) (by decide) (by decide)
    have e23 := o 23 (by decide) (by omega) (by decide) (by decide) (by decide)
    have e24 := o 24 (by decide) (by omega) (by decide) (by decide) (by decide)
    by_cases e : k = c
    · subst e
      obtain ⟨n1, n2⟩ := hno d (Nat.le_refl d)
      have z26 : (zu (zu (zu (m_X3_newPhase μ k d) 25 k (nI d)) 26 k 0) 21 9 (nI k + 1)).1 26 k = 0 := by rw [o26, if_pos rfl]
      unfold zJP
      rw [oc, oc, oc, oc, e22, e23, e24, n1, n2, n2, z26]
      refine ⟨by simp [upd]; rfl, by simp [upd], by simp [upd], by simp [upd], Or.inl rfl, fun hz => ?_, fun q => absurd rfl q⟩
      unfold zHas at hz
      rw [z26, e24, n1] at hz
      exact hz.elim (fun q => absurd rfl q) (fun q => absurd q (by decide))
    · refine (hP k (by omega)).same (o _ (by omega) (by omega) (by omega) (by omega) (by omega)) e22 e23 e24 (by rw [o26, if_neg e]) (by rw [o 27 (by decide) (by omega) (by decide) (by decide) (by decide)]) (by rw [o 28 (by decide) (by omega) (by decide) (by decide) (by decide)])
