/-! THE COUPLING: a subgroup is done -/
theorem zDn_off (μ : zM) (v : Int32) (d s c : Nat) {a : Nat} (h : 6 ≤ a) (hk : a ≠ 11 + (c - 1)) (h21 : a ≠ 21) (h22 : a ≠ 22) (h23 : a ≠ 23) (h24 : a ≠ 24) : (zDn μ v d s c).1 a = μ.1 a := by
  unfold zDn
  rw [zu_off _ _ _ _ h21, zu_off _ _ _ _ h21, zu_off _ _ _ _ h24, zu_off _ _ _ _ h23, zu_off _ _ _ _ h22, zu_off _ _ _ _ h21, zu_off _ _ _ _ h21, zu_off _ _ _ _ h21, zu_off _ _ _ _ h21, zu_off _ _ _ _ h21, zu_off _ _ _ _ hk, zu_off _ _ _ _ hk, zu_off _ _ _ _ hk,
    zu_off _ _ _ _ (by omega), zu_off _ _ _ _ (by omega), zu_off _ _ _ _ (by omega), zu_off _ _ _ _ (by omega), zu_off _ _ _ _ (by omega), zu_off _ _ _ _ (by omega), zu_off _ _ _ _ (by omega), zu_off _ _ _ _ (by omega), zu_off _ _ _ _ (by omega), zu_off _ _ _ _ (by omega), zu_off _ _ _ _ (by omega)]
theorem zDn_k (μ : zM) (v : Int32) (d s c : Nat) (hc : c ≤ 10) : (zDn μ v d s c).1 (11 + (c - 1)) = upd (upd (upd (μ.1 (11 + (c - 1))) 1 (μ.1 (11 + (c - 1)) 1 + 1)) 2 (μ.1 (11 + (c - 1)) 2 + 1 * zB3 μ v)) 3 (μ.1 (11 + (c - 1)) 3 + 1 * (zB5 μ v - zB4 μ v)) := by
  unfold zDn
  rw [zu_off _ _ _ _ (by omega), zu_off _ _ _ _ (by omega), zu_off _ _ _ _ (by omega), zu_off _ _ _ _ (by omega), zu_off _ _ _ _ (by omega), zu_off _ _ _ _ (by omega), zu_off _ _ _ _ (by omega), zu_off _ _ _ _ (by omega), zu_off _ _ _ _ (by omega), zu_off _ _ _ _ (by omega), zu_at, zu_at, zu_at,
    zu_off _ _ _ _ (by omega), zu_off _ _ _ _ (by omega), zu_off _ _ _ _ (by omega), zu_off _ _ _ _ (by omega), zu_off _ _ _ _ (by omega), zu_off _ _ _ _ (by omega), zu_off _ _ _ _ (by omega), zu_off _ _ _ _ (by omega), zu_off _ _ _ _ (by omega), zu_off _ _ _ _ (by omega), zu_off _ _ _ _ (by omega)]
theorem zDn_rows (μ : zM) (v : Int32) (d s c : Nat) (hc : c ≤ 10) : (zDn μ v d s c).1 1 = upd (μ.1 1) d (zB3 μ v) ∧ (zDn μ v d s c).1 2 = upd (μ.1 2) d (zB5 μ v - zB4 μ v) ∧ (zDn μ v d s c).1 3 = upd (μ.1 3) d (Int64.toInt32 (zrd (1000 * Int32.toInt64 (zB3 μ v)) (Int32.toInt64 (nI (s + 2))))) ∧
    (zDn μ v d s c).1 4 = upd (μ.1 4) d 0 ∧ (zDn μ v d s c).1 5 = upd (μ.1 5) d (nI c - 1) ∧ (zDn μ v d s c).1 22 = upd (μ.1 22) d (zB3 μ v) ∧ (zDn μ v d s c).1 23 = upd (μ.1 23) d (zB5 μ v - zB4 μ v) ∧ (zDn μ v d s c).1 24 = upd (μ.1 24) d 0 := by
  refine ⟨?_, ?_, ?_, ?_, ?_, ?_, ?_, ?_⟩ <;> unfold zDn
  all_goals repeat' first | rw [zu_at] | rw [zu_off _ _ _ _ (by omega)]
theorem zDn_0 (μ : zM) (v : Int32) (d s c : Nat) : (zDn μ v d s c).1 0 = upd (upd (upd (upd (upd (upd (μ.1 0) 3 (zB3 μ v)) 4 (zB4 μ v)) 5 (zB5 μ v)) 2 (μ.1 21 2 + 1)) 2 0) 6 (nI d + 1) := by
  unfold zDn
  repeat' first | rw [zu_at] | rw [zu_off _ _ _ _ (by omega)]
theorem zDn_21 (μ : zM) (v : Int32) (d s c : Nat) (hc : c ≤ 10) : (zDn μ v d s c).1 21 = upd (upd (upd (upd (upd (upd (upd (μ.1 21) 23 0) 3 (zB3 μ v)) 4 (zB4 μ v)) 5 (zB5 μ v)) 2 (μ.1 21 2 + 1)) 1 (nI d + 1)) 2 0 := by
  unfold zDn
  repeat' first | rw [zu_at] | rw [zu_off _ _ _ _ (by omega)]
