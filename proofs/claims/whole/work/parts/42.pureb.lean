/-! THE COUPLING goes on: put, where a subgroup is done by it -/
def zphN (ph : Nat → Nat) (d k : Nat) : Nat → Nat := fun i => if i = d then k else ph i
/-- the desk before the limits are found anew, with the reference's part -/
def zDn (μ : zM) (v : Int32) (d s c : Nat) : zM :=
  zu (zu (zu (zu (zu (zu (zu (zu (zu (zu (zu (zu (zu
    (zu (zu (zu (zu (zu (zu (zu (zu (zu (zu (zu μ 0 3 (zB3 μ v)) 0 4 (zB4 μ v)) 0 5 (zB5 μ v)) 0 2 (μ.1 21 2 + 1)) 1 d (zB3 μ v)) 2 d (zB5 μ v - zB4 μ v)) 3 d (Int64.toInt32 (zrd (1000 * Int32.toInt64 (zB3 μ v)) (Int32.toInt64 (nI (s + 2)))))) 4 d 0) 5 d (nI c - 1)) 0 2 0) 0 6 (nI d + 1))
    (11 + (c - 1)) 1 (μ.1 (11 + (c - 1)) 1 + 1)) (11 + (c - 1)) 2 (μ.1 (11 + (c - 1)) 2 + 1 * zB3 μ v)) (11 + (c - 1)) 3 (μ.1 (11 + (c - 1)) 3 + 1 * (zB5 μ v - zB4 μ v)))
    21 23 0) 21 3 (zB3 μ v)) 21 4 (zB4 μ v)) 21 5 (zB5 μ v)) 21 2 (μ.1 21 2 + 1)) 22 d (zB3 μ v)) 23 d (zB5 μ v - zB4 μ v)) 24 d 0) 21 1 (nI d + 1)) 21 2 0
theorem zDn_eq {μ : zM} {v : Int32} {d s c : Nat} (hc : c ≤ 10) (h1 : 1 ≤ c) (hs : μ.1 0 0 = nI (s + 2)) (e2 : μ.1 0 2 = μ.1 21 2) (e3 : μ.1 0 3 = μ.1 21 3) (e4 : μ.1 0 4 = μ.1 21 4) (e5 : μ.1 0 5 = μ.1 21 5) :
    m_X4_put_done (m_X3_finishSubgroup (m_X3_takeMeasurement μ v) d s c) v d = m_X0_settle (zDn μ v d s c) (c - 1) s := by
  rw [zB_desk e2 e3 e4 e5]
  have hF : (m_X3_finishSubgroup (zu (zu (zu (zu μ 0 3 (zB3 μ v)) 0 4 (zB4 μ v)) 0 5 (zB5 μ v)) 0 2 (μ.1 21 2 + 1)) d s c).1 21 = μ.1 21 := by
    unfold m_X3_finishSubgroup
    rw [count_off _ (by omega), zu_off _ _ _ _ (by decide), zu_off _ _ _ _ (by decide), zu_off _ _ _ _ (by decide), zu_off _ _ _ _ (by decide), zu_off _ _ _ _ (by decide), zu_off _ _ _ _ (by decide), zu_off _ _ _ _ (by decide), zu_off _ _ _ _ (by decide), zu_off _ _ _ _ (by decide), zu_off _ _ _ _ (by decide), zu_off _ _ _ _ (by decide)]
  unfold m_X4_put_done
  rw [hF, show (if μ.1 21 2 = 0 then v else μ.1 21 3 + v) = zB3 μ v from rfl, show (if μ.1 21 2 = 0 then v else (if μ.1 21 4 ≤ v then μ.1 21 4 else v)) = zB4 μ v from rfl, show (if μ.1 21 2 = 0 then v else (if v ≤ μ.1 21 5 then μ.1 21 5 else v)) = zB5 μ v from rfl]
  unfold m_X3_finishSubgroup m_X3_countPoint
  have h21 : 21 ≠ 11 + (c - 1) := by omega
  rw [settle_comm _ _ h21, settle_comm _ _ h21, settle_comm _ _ h21, settle_comm _ _ h21, settle_comm _ _ h21, settle_comm _ _ (show 22 ≠ 11 + (c - 1) by omega), settle_comm _ _ (show 23 ≠ 11 + (c - 1) by omega), settle_comm _ _ (show 24 ≠ 11 + (c - 1) by omega), settle_comm _ _ h21, settle_comm _ _ h21]
  refine congrArg (fun z => m_X0_settle z (c - 1) s) ?_
  unfold zDn
  have t3 : (zu (zu (zu (zu μ 0 3 (zB3 μ v)) 0 4 (zB4 μ v)) 0 5 (zB5 μ v)) 0 2 (μ.1 21 2 + 1)).1 0 3 = zB3 μ v := by simp [zu]
  have t4 : (zu (zu (zu (zu μ 0 3 (zB3 μ v)) 0 4 (zB4 μ v)) 0 5 (zB5 μ v)) 0 2 (μ.1 21 2 + 1)).1 0 4 = zB4 μ v := by simp [zu]
  have t5 : (zu (zu (zu (zu μ 0 3 (zB3 μ v)) 0 4 (zB4 μ v)) 0 5 (zB5 μ v)) 0 2 (μ.1 21 2 + 1)).1 0 5 = zB5 μ v := by simp [zu]
  have t0 : (zu (zu (zu (zu μ 0 3 (zB3 μ v)) 0 4 (zB4 μ v)) 0 5 (zB5 μ v)) 0 2 (μ.1 21 2 + 1)).1 0 0 = nI (s + 2) := by simp [zu, hs]
  rw [t3, t4, t5, t0]
  obtain ⟨Y, eY⟩ : ∃ Y, Y = zu (zu (zu (zu (zu (zu (zu (zu (zu (zu (zu μ 0 3 (zB3 μ v)) 0 4 (zB4 μ v)) 0 5 (zB5 μ v)) 0 2 (μ.1 21 2 + 1)) 1 d (zB3 μ v)) 2 d (zB5 μ v - zB4 μ v)) 3 d (Int64.toInt32 (zrd (1000 * Int32.toInt64 (zB3 μ v)) (Int32.toInt64 (nI (s + 2)))))) 4 d 0) 5 d (nI c - 1)) 0 2 0) 0 6 (nI d + 1) := ⟨_, rfl⟩
  rw [← eY]
  have y1 : Y.1 1 d = zB3 μ v := by rw [eY]; simp [zu]
  have y2 : Y.1 2 d = zB5 μ v - zB4 μ v := by rw [eY]; simp [zu]
  have yk : ∀ j, Y.1 (11 + (c - 1)) j = μ.1 (11 + (c - 1)) j := fun j => by
    rw [eY, zu_ne _ (by omega), zu_ne _ (by omega), zu_ne _ (by omega), zu_ne _ (by omega), zu_ne _ (by omega), zu_ne _ (by omega), zu_ne _ (by omega), zu_ne _ (by omega), zu_ne _ (by omega), zu_ne _ (by omega), zu_ne _ (by omega)]
  rw [y1, y2, yk 1, yk 2, yk 3]

