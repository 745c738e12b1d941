/-! A phase's limits found anew; a point counted in or out -/
theorem zRp_wd {μ : zM} {ph : Nat → Nat} {d k s i : Nat} {z : Int64} (h : z = Int32.toInt64 (zLRp μ ph k d)) : Int64.toInt32 (zrd (Int32.toInt64 (zTab i s) * z) 1000) = zWd s i (zLRp μ ph k d) := by
  rw [zrd_M (by decide), h]
  rfl
theorem zJP_settle {μ : zM} {ph : Nat → Nat} {d s k : Nat} (hk : k < 10) (hs5 : s < 5) (hd : d ≤ 60) (hv : zVb μ s d) (h1 : μ.1 (11 + k) 1 = nI (zpc ph (μ.1 24) k d)) (h2 : (μ.1 (11 + k) 2).toInt = zSm (μ.1 22) ph (μ.1 24) k d) (h3 : (μ.1 (11 + k) 3).toInt = zSm (μ.1 23) ph (μ.1 24) k d)
    (h4 : μ.1 (11 + k) 4 = μ.1 26 k) (h5 : μ.1 26 k = 0 ∨ μ.1 26 k = 1) (hf : ¬ μ.1 26 k = 0 → zlims μ ph d s k) (hb : ¬ μ.1 26 k = 0 → (-9999000 ≤ (μ.1 27 k).toInt ∧ (μ.1 27 k).toInt ≤ 9999000) ∧ (0 ≤ (μ.1 28 k).toInt ∧ (μ.1 28 k).toInt ≤ 19998000)) : zJP (m_X0_settle μ k s) ph d s k := by
  have o : ∀ a, a ≠ 11 + k → (m_X0_settle μ k s).1 a = μ.1 a := fun a ha => settle_off μ ha
  have o22 := o 22 (by omega)
  have o23 := o 23 (by omega)
  have o24 := o 24 (by omega)
  have o26 := o 26 (by omega)
  have o27 := o 27 (by omega)
  have o28 := o 28 (by omega)
  obtain ⟨e1, e2, e3⟩ := zL_of o22 o23 o24 o26 o27 o28 ph k d s
  unfold zJP
  rw [settle_low μ (b := 1) (by decide), settle_low μ (b := 2) (by decide), settle_low μ (b := 3) (by decide), settle_low μ (b := 4) (by decide), o22, o23, o24, o26, o27, o28, e1, e2, e3]
  refine ⟨h1, h2, h3, h4, h5, fun hz => ?_, hb⟩
  have hle := zpc_le ph (μ.1 24) k d
  by_cases hz0 : μ.1 26 k = 0
  · have hp : 0 < zpc ph (μ.1 24) k d := hz.elim (fun q => absurd hz0 q) id
    obtain ⟨f1, f2, -, -, f5⟩ := zLp_eq (s := s) hd hs5 hv hp h2 h3
    have hS : m_X0_settle μ k s = zu (zu (zu (zu μ (11 + k) 5 (Int64.toInt32 (zrd (1000 * (Int32.toInt64 (μ.1 (11 + k) 2))) ((Int32.toInt64 (nI (s + 2))) * (Int32.toInt64 (μ.1 (11 + k) 1)))))) (11 + k) 6 (Int64.toInt32 (zrd (1000 * (Int32.toInt64 (μ.1 (11 + k) 3))) (Int32.toInt64 (μ.1 (11 + k) 1))))) (11 + k) 7 (Int64.toInt32 (zrd ((Int32.toInt64 (zTab 0 s)) * (zrd (1000 * (Int32.toInt64 (μ.1 (11 + k) 3))) (Int32.toInt64 (μ.1 (11 + k) 1)))) 1000))) (11 + k) 8 (Int64.toInt32 (zrd ((Int32.toInt64 (zTab 1 s)) * (zrd (1000 * (Int32.toInt64 (μ.1 (11 + k) 3))) (Int32.toInt64 (μ.1 (11 + k) 1)))) 1000)) := by
      unfold m_X0_settle
      rw [if_pos (h4.trans hz0), if_neg (by rw [h1]; exact nI_ne0 hp (by omega))]
    rw [h1, f1, f2, zRp_wd f5, zRp_wd f5] at hS
    rw [hS, show zLC μ ph k d s = zLCp μ ph k d s from if_pos hz0, show zLR μ ph k d = zLRp μ ph k d from if_pos hz0]
    refine ⟨?_, ?_, ?_, ?_⟩ <;> simp [zu]
  · have hS : m_X0_settle μ k s = μ := by
      unfold m_X0_settle
      rw [if_neg (fun q => hz0 (h4.symm.trans q))]
    rw [hS]
    exact hf hz0
/-- the limits of a phase are within bounds -/
theorem zL_bd {μ : zM} {ph : Nat → Nat} {d s k : Nat} (hd : d ≤ 60) (hs5 : s < 5) (hv : zVb μ s d) (h : zJP μ ph d s k) (hz : zHas μ ph k d) : (-9999000 ≤ (zLC μ ph k d s).toInt ∧ (zLC μ ph k d s).toInt ≤ 9999000) ∧ (0 ≤ (zLR μ ph k d).toInt ∧ (zLR μ ph k d).toInt ≤ 19998000) := by
  obtain ⟨h1, h2, h3, h4, h5, h6, h7⟩ := h
  by_cases hz0 : μ.1 26 k = 0
  · have hp : 0 < zpc ph (μ.1 24) k d := hz.elim (fun q => absurd hz0 q) id
    obtain ⟨-, -, f3, f4, -⟩ := zLp_eq (s := s) hd hs5 hv hp h2 h3
    rw [show zLC μ ph k d s = zLCp μ ph k d s from if_pos hz0, show zLR μ ph k d = zLRp μ ph k d from if_pos hz0]
    exact ⟨f3, f4⟩
  · rw [show zLC μ ph k d s = μ.1 27 k from if_neg hz0, show zLR μ ph k d = μ.1 28 k from if_neg hz0]
    exact h7 hz0
theorem zTab_bd {s : Nat} (h : s < 5) : (0 < (zTab 0 s).toInt ∧ (zTab 0 s).toInt ≤ 1880) ∧ (0 < (zTab 1 s).toInt ∧ (zTab 1 s).toInt ≤ 3267) ∧ (1128 ≤ (zTab 2 s).toInt ∧ (zTab 2 s).toInt ≤ 2534) := by
  match s, h with
  | 0, _ => decide
  | 1, _ => decide
  | 2, _ => decide
  | 3, _ => decide
  | 4, _ => decide
  | s + 5, h => exact absurd h (by omega)
theorem zWd_bd {s i : Nat} {m : Int32} (hi : 0 < (zTab i s).toInt ∧ (zTab i s).toInt ≤ 3267) (h0 : 0 ≤ m.toInt) (h1 : m.toInt ≤ 19998000) : 0 ≤ (zWd s i m).toInt ∧ (zWd s i m).toInt ≤ 65333466 := by
  have hm : 0 ≤ (zTab i s).toInt * m.toInt ∧ (zTab i s).toInt * m.toInt ≤ 3267 * 19998000 := ⟨Int.mul_nonneg (by omega) h0, Int.mul_le_mul hi.2 h1 h0 (by decide)⟩
  have et : (Int32.toInt64 (zTab i s) * Int32.toInt64 m).toInt = (zTab i s).toInt * m.toInt := by
    rw [z64m (by rw [Int32.toInt_toInt64, Int32.toInt_toInt64]; omega) (by rw [Int32.toInt_toInt64, Int32.toInt_toInt64]; omega), Int32.toInt_toInt64, Int32.toInt_toInt64]
  have t : (1000 : Int64).toInt = 1000 := rfl
  have q := zrd_bd (x := Int32.toInt64 (zTab i s) * Int32.toInt64 m) (y := 1000) (L := 0) (U := 65333466) (by rw [t]; omega) (by rw [t]; omega) (by rw [et]; omega) (by rw [et]; omega) (by rw [et, t]; omega) (by rw [et, t]; omega)
  show 0 ≤ (zrdM (Int32.toInt64 (zTab i s) * Int32.toInt64 m) 1000).toInt ∧ (zrdM (Int32.toInt64 (zTab i s) * Int32.toInt64 m) 1000).toInt ≤ 65333466
  rw [← zrd_M (by decide), z_t32 (by omega) (by omega)]
  exact q
/-- a mean is within bounds -/
theorem zmn_bd {μ : zM} {s i : Nat} (hs5 : s < 5) (hs : μ.1 21 0 = nI (s + 2)) (hv : -(9999 * ((s : Int) + 2)) ≤ (μ.1 22 i).toInt ∧ (μ.1 22 i).toInt ≤ 9999 * ((s : Int) + 2)) : (-9999000 ≤ (zmn μ i).toInt ∧ (zmn μ i).toInt ≤ 9999000) ∧ Int64.toInt32 (zrd (1000 * Int32.toInt64 (μ.1 22 i)) (Int32.toInt64 (nI (s + 2)))) = zmn μ i := by
  have tv : (Int32.toInt64 (μ.1 22 i)).toInt = (μ.1 22 i).toInt := Int32.toInt_toInt64 _
  have ty : (Int32.toInt64 (nI (s + 2))).toInt = (s : Int) + 2 := by rw [Int32.toInt_toInt64, nI_toInt (by omega)]; omega
  have xa : (1000 * Int32.toInt64 (μ.1 22 i)).toInt = 1000 * (μ.1 22 i).toInt := by rw [z1000 (by rw [tv]; omega) (by rw [tv]; omega), tv]
  have q := zrd_bd (x := 1000 * Int32.toInt64 (μ.1 22 i)) (y := Int32.toInt64 (nI (s + 2))) (L := -9999000) (U := 9999000) (by rw [ty]; omega) (by rw [ty]; omega) (by rw [xa]; omega) (by rw [xa]; omega) (by rw [xa, ty]; omega) (by rw [xa, ty]; omega)
  have p := (zrd_eq (x := 1000 * Int32.toInt64 (μ.1 22 i)) (y := Int32.toInt64 (nI (s + 2))) (by rw [ty]; omega) (by rw [ty]; omega) (by rw [xa]; omega) (by rw [xa]; omega)).2
  have e : Int64.toInt32 (zrd (1000 * Int32.toInt64 (μ.1 22 i)) (Int32.toInt64 (nI (s + 2)))) = zmn μ i := by
    rw [zrd_M p]
    unfold zmn
    rw [hs]
  refine ⟨?_, e⟩
  rw [← e, z_t32 (by omega) (by omega)]
  exact q
/-- one reason changed: the sums and the number of the points -/
theorem zpc_upd {ph : Nat → Nat} {rs rs' : Nat → Int32} {t i : Nat} (hr : ∀ j, j ≠ i → rs' j = rs j) : ∀ n, zpc ph rs' t n + (if i < n ∧ ph i = t ∧ rs i = 0 then 1 else 0) = zpc ph rs t n + (if i < n ∧ ph i = t ∧ rs' i = 0 then 1 else 0)
  | 0 => by simp [zpc]
  | n + 1 => by
    have q := zpc_upd (ph := ph) (t := t) hr n
    rw [zpc_s, zpc_s]
    by_cases e : n = i
    · subst e
      by_cases h1 : ph n = t
      · by_cases h2 : rs n = 0
        · by_cases h3 : rs' n = 0
          · simp [h1, h2, h3] at q ⊢
            omega
          · simp [h1, h2, h3] at q ⊢
            omega
        · by_cases h3 : rs' n = 0
          · simp [h1, h2, h3] at q ⊢
            omega
          · simp [h1, h2, h3] at q ⊢
            omega
      · simp [h1] at q ⊢
        omega
    · rw [hr n e]
      have e2 : (i < n + 1) ↔ i < n := by omega
      simp only [e2]
      generalize (if i < n ∧ ph i = t ∧ rs i = 0 then 1 else 0) = A at q ⊢
      generalize (if i < n ∧ ph i = t ∧ rs' i = 0 then 1 else 0) = B at q ⊢
      split
      · split <;> omega
      · exact q
theorem zSm_upd {v : Nat → Int32} {ph : Nat → Nat} {rs rs' : Nat → Int32} {t i : Nat} (hr : ∀ j, j ≠ i → rs' j = rs j) : ∀ n, zSm v ph rs' t n + (if i < n ∧ ph i = t ∧ rs i = 0 then (v i).toInt else 0) = zSm v ph rs t n + (if i < n ∧ ph i = t ∧ rs' i = 0 then (v i).toInt else 0)
  | 0 => by simp [zSm]
  | n + 1 => by
    have q := zSm_upd (v := v) (ph := ph) (t := t) hr n
    rw [zSm_s, zSm_s]
    by_cases e : n = i
    · subst e
      by_cases h1 : ph n = t
      · by_cases h2 : rs n = 0
        · by_cases h3 : rs' n = 0
          · simp [h1, h2, h3] at q ⊢
            omega
          · simp [h1, h2, h3] at q ⊢
            omega
        · by_cases h3 : rs' n = 0
          · simp [h1, h2, h3] at q ⊢
            omega
          · simp [h1, h2, h3] at q ⊢
            omega
      · simp [h1] at q ⊢
        omega
    · rw [hr n e]
      have e2 : (i < n + 1) ↔ i < n := by omega
      simp only [e2]
      generalize (if i < n ∧ ph i = t ∧ rs i = 0 then (v i).toInt else 0) = A at q ⊢
      generalize (if i < n ∧ ph i = t ∧ rs' i = 0 then (v i).toInt else 0) = B at q ⊢
      split
      · split <;> omega
      · exact q
