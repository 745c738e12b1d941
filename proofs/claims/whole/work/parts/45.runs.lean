/-! THE COUNTS kept from point to point: what they say of the last points, y 0 the newest -/
theorem zdir_1 {f t : Int32} : zdir f t = 1 ↔ f < t := by
  unfold zdir
  rw [Int32.lt_iff_toInt_lt]
  by_cases h : t ≤ f
  · rw [if_pos h]
    rw [Int32.le_iff_toInt_le] at h
    by_cases k : f ≤ t
    · rw [if_pos k]
      exact ⟨fun q => absurd q (by decide), fun q => by omega⟩
    · rw [if_neg k]
      exact ⟨fun q => absurd q (by decide), fun q => by omega⟩
  · rw [if_neg h]
    rw [Int32.le_iff_toInt_le] at h
    exact ⟨fun _ => by omega, fun _ => rfl⟩
theorem zdir_m {f t : Int32} : zdir f t = -1 ↔ t < f := by
  unfold zdir
  rw [Int32.lt_iff_toInt_lt]
  by_cases h : t ≤ f
  · rw [if_pos h]
    rw [Int32.le_iff_toInt_le] at h
    by_cases k : f ≤ t
    · rw [if_pos k]
      rw [Int32.le_iff_toInt_le] at k
      exact ⟨fun q => absurd q (by decide), fun q => by omega⟩
    · rw [if_neg k]
      rw [Int32.le_iff_toInt_le] at k
      exact ⟨fun _ => by omega, fun _ => rfl⟩
  · rw [if_neg h]
    rw [Int32.le_iff_toInt_le] at h
    exact ⟨fun q => absurd q (by decide), fun q => by omega⟩
theorem zdir_0 {f t : Int32} : zdir f t = 0 ↔ f = t := by
  refine Iff.trans ?_ Int32.toInt_inj
  unfold zdir
  by_cases h : t ≤ f
  · rw [if_pos h]
    rw [Int32.le_iff_toInt_le] at h
    by_cases k : f ≤ t
    · rw [if_pos k]
      rw [Int32.le_iff_toInt_le] at k
      exact ⟨fun _ => by omega, fun _ => rfl⟩
    · rw [if_neg k]
      rw [Int32.le_iff_toInt_le] at k
      exact ⟨fun q => absurd q (by decide), fun q => by omega⟩
  · rw [if_neg h]
    rw [Int32.le_iff_toInt_le] at h
    exact ⟨fun q => absurd q (by decide), fun q => by omega⟩
theorem zdir_c (f t : Int32) : zdir f t = 0 ∨ zdir f t = 1 ∨ zdir f t = -1 := by
  unfold zdir
  split
  · split
    · exact Or.inl rfl
    · exact Or.inr (Or.inr rfl)
  · exact Or.inr (Or.inl rfl)
theorem zsb_c (x c w m : Int32) : zsb x c w m = 0 ∨ zsb x c w m = 1 ∨ zsb x c w m = -1 := by
  unfold zsb
  split
  · split
    · exact Or.inl rfl
    · exact Or.inr (Or.inr rfl)
  · exact Or.inr (Or.inl rfl)
def zU3 (a b c : Bool) : Int32 := nI ((if a = true then 1 else 0) + (if b = true then 2 else 0) + (if c = true then 4 else 0))
def zU5 (a b c d e : Bool) : Int32 := nI ((if a = true then 1 else 0) + (if b = true then 2 else 0) + (if c = true then 4 else 0) + (if d = true then 8 else 0) + (if e = true then 16 else 0))
theorem zpk_3 : ∀ a b c n : Bool, zpk (zU3 a b c) (if n = true then 1 else 0) 3 = zU3 n a b := by decide +kernel
theorem zpk_5 : ∀ a b c d e n : Bool, zpk (zU5 a b c d e) (if n = true then 1 else 0) 5 = zU5 n a b c d := by decide +kernel
theorem zbc_3 : ∀ a b c : Bool, (2 ≤ nI (0 + (if a = true then 1 else 0) + (if b = true then 1 else 0) + (if c = true then 1 else 0)) ↔ ¬ zbc (zU3 a b c) < 2) := by decide +kernel
theorem zbc_5 : ∀ a b c d e : Bool, (4 ≤ nI (0 + (if a = true then 1 else 0) + (if b = true then 1 else 0) + (if c = true then 1 else 0) + (if d = true then 1 else 0) + (if e = true then 1 else 0)) ↔ ¬ zbc (zU5 a b c d e) < 4) := by decide +kernel
theorem tcs_f (f : Nat → Int32) (a : Int32) : r_X1_takeCenterSide f a 4 = (if a = 0 then 0 else if a = f 3 then f 4 + 1 else 1) ∧ r_X1_takeCenterSide f a 3 = a ∧ ∀ j, j ≠ 3 → j ≠ 4 → r_X1_takeCenterSide f a j = f j :=
  ⟨by simp [r_X1_takeCenterSide, upd], by simp [r_X1_takeCenterSide, upd], fun j h3 h4 => by simp [r_X1_takeCenterSide, upd, h3, h4]⟩
theorem tdi_f (f : Nat → Int32) (a : Int32) : r_X1_takeDirection f a 5 = (if a = 0 then 1 else if a = f 2 then f 5 + 1 else 2) ∧ r_X1_takeDirection f a 6 = (if a = 0 then 1 else if a = -(f 2) then f 6 + 1 else 2) ∧ r_X1_takeDirection f a 2 = a ∧
    ∀ j, j ≠ 2 → j ≠ 5 → j ≠ 6 → r_X1_takeDirection f a j = f j := by
  unfold r_X1_takeDirection
  by_cases h : a = 0
  · rw [if_pos h, if_pos h, if_pos h]
    exact ⟨by simp [upd], by simp [upd], by simp [upd], fun j h2 h5 h6 => by simp [upd, h2, h5, h6]⟩
  · rw [if_neg h, if_neg h, if_neg h]
    exact ⟨by simp [upd], by simp [upd], by simp [upd], fun j h2 h5 h6 => by simp [upd, h2, h5, h6]⟩
theorem tsi_f (f : Nat → Int32) (m ce w : Int32) : r_X1_takeSidesBeyond f m ce w 9 = zsb m ce w 3 ∧ r_X1_takeSidesBeyond f m ce w 10 = zsb m ce w 2 ∧ r_X1_takeSidesBeyond f m ce w 11 = zsb m ce w 1 ∧
    r_X1_takeSidesBeyond f m ce w 12 = zpk (f 12) (if ((if (zsb m ce w 2) ≤ 0 then (0 : Int32) else (1 : Int32))) = 0 then 0 else 1) 3 ∧ r_X1_takeSidesBeyond f m ce w 13 = zpk (f 13) (if ((if 0 ≤ (zsb m ce w 2) then (0 : Int32) else (1 : Int32))) = 0 then 0 else 1) 3 ∧
    r_X1_takeSidesBeyond f m ce w 14 = zpk (f 14) (if ((if (zsb m ce w 1) ≤ 0 then (0 : Int32) else (1 : Int32))) = 0 then 0 else 1) 5 ∧ r_X1_takeSidesBeyond f m ce w 15 = zpk (f 15) (if ((if 0 ≤ (zsb m ce w 1) then (0 : Int32) else (1 : Int32))) = 0 then 0 else 1) 5 ∧
    r_X1_takeSidesBeyond f m ce w 7 = (if (zsb m ce w 1) = 0 then (f 7) + 1 else (0 : Int32)) ∧ r_X1_takeSidesBeyond f m ce w 8 = (if (zsb m ce w 1) = 0 then (0 : Int32) else (f 8) + 1) ∧ ∀ j, j < 7 → r_X1_takeSidesBeyond f m ce w j = f j := by
  unfold r_X1_takeSidesBeyond
  refine ⟨by simp [upd], by simp [upd], by simp [upd], by simp [upd], by simp [upd], by simp [upd], by simp [upd], by simp [upd], by simp [upd], fun j hj => ?_⟩
  rw [upd_ne _ _ (by omega), upd_ne _ _ (by omega), upd_ne _ _ (by omega), upd_ne _ _ (by omega), upd_ne _ _ (by omega), upd_ne _ _ (by omega), upd_ne _ _ (by omega), upd_ne _ _ (by omega), upd_ne _ _ (by omega)]
/-- the fields of the counts after one more point -/
def zdd (F : Nat → Int32) (a : Int32) : Int32 := if F 0 = 0 then 0 else zdir (F 1) a
theorem take_f (F : Nat → Int32) (a C W : Int32) : (r_X1_take F a C W 0 = F 0 + 1 ∧ r_X1_take F a C W 1 = a ∧ r_X1_take F a C W 2 = zdd F a ∧ r_X1_take F a C W 3 = zdir C a) ∧
    r_X1_take F a C W 4 = (if zdir C a = 0 then 0 else if zdir C a = F 3 then F 4 + 1 else 1) ∧
    r_X1_take F a C W 5 = (if zdd F a = 0 then 1 else if zdd F a = F 2 then F 5 + 1 else 2) ∧
    r_X1_take F a C W 6 = (if zdd F a = 0 then 1 else if zdd F a = -(F 2) then F 6 + 1 else 2) ∧
    r_X1_take F a C W 7 = (if (zsb a C W 1) = 0 then (F 7) + 1 else (0 : Int32)) ∧ r_X1_take F a C W 8 = (if (zsb a C W 1) = 0 then (0 : Int32) else (F 8) + 1) ∧
    (r_X1_take F a C W 9 = zsb a C W 3 ∧ r_X1_take F a C W 10 = zsb a C W 2 ∧ r_X1_take F a C W 11 = zsb a C W 1) ∧
    r_X1_take F a C W 12 = zpk (F 12) (if ((if (zsb a C W 2) ≤ 0 then (0 : Int32) else (1 : Int32))) = 0 then 0 else 1) 3 ∧ r_X1_take F a C W 13 = zpk (F 13) (if ((if 0 ≤ (zsb a C W 2) then (0 : Int32) else (1 : Int32))) = 0 then 0 else 1) 3 ∧
    r_X1_take F a C W 14 = zpk (F 14) (if ((if (zsb a C W 1) ≤ 0 then (0 : Int32) else (1 : Int32))) = 0 then 0 else 1) 5 ∧ r_X1_take F a C W 15 = zpk (F 15) (if ((if 0 ≤ (zsb a C W 1) then (0 : Int32) else (1 : Int32))) = 0 then 0 else 1) 5 := by
  obtain ⟨s4, s3, so⟩ := tcs_f F (zdir C a)
  have e0 := so 0 (by decide) (by decide)
  have e1 := so 1 (by decide) (by decide)
  obtain ⟨d5, d6, d2, do'⟩ := tdi_f (r_X1_takeCenterSide F (zdir C a)) (zdd F a)
  obtain ⟨b9, b10, b11, b12, b13, b14, b15, b7, b8, bo⟩ := tsi_f (r_X1_takeDirection (r_X1_takeCenterSide F (zdir C a)) (zdd F a)) a C W
  have key : r_X1_take F a C W = upd (upd (r_X1_takeSidesBeyond (r_X1_takeDirection (r_X1_takeCenterSide F (zdir C a)) (zdd F a)) a C W) 1 a) 0 (F 0 + 1) := by
    unfold r_X1_take
    rw [e0, e1, show (if F 0 = 0 then (0 : Int32) else zdir (F 1) a) = zdd F a from rfl, bo 0 (by decide), do' 0 (by decide) (by decide) (by decide), e0]
  rw [so 2 (by decide) (by decide), so 5 (by decide) (by decide)] at d5
  rw [so 2 (by decide) (by decide), so 6 (by decide) (by decide)] at d6
  rw [do' 12 (by decide) (by decide) (by decide), so 12 (by decide) (by decide)] at b12
  rw [do' 13 (by decide) (by decide) (by decide), so 13 (by decide) (by decide)] at b13
  rw [do' 14 (by decide) (by decide) (by decide), so 14 (by decide) (by decide)] at b14
  rw [do' 15 (by decide) (by decide) (by decide), so 15 (by decide) (by decide)] at b15
  rw [do' 7 (by decide) (by decide) (by decide), so 7 (by decide) (by decide)] at b7
  rw [do' 8 (by decide) (by decide) (by decide), so 8 (by decide) (by decide)] at b8
  have hk : ∀ j, 2 ≤ j → r_X1_take F a C W j = r_X1_takeSidesBeyond (r_X1_takeDirection (r_X1_takeCenterSide F (zdir C a)) (zdd F a)) a C W j := fun j hj => by
    rw [key, upd_ne _ _ (by omega), upd_ne _ _ (by omega)]
  refine ⟨⟨by rw [key, upd_eq], by rw [key, upd_ne _ _ (by decide), upd_eq], ?_, ?_⟩, ?_, ?_, ?_, ?_, ?_, ⟨?_, ?_, ?_⟩, ?_, ?_, ?_, ?_⟩
  · rw [hk 2 (by decide), bo 2 (by decide), d2]
  · rw [hk 3 (by decide), bo 3 (by decide), do' 3 (by decide) (by decide) (by decide), s3]
  · rw [hk 4 (by decide), bo 4 (by decide), do' 4 (by decide) (by decide) (by decide), s4]
  · rw [hk 5 (by decide), bo 5 (by decide), d5]
  · rw [hk 6 (by decide), bo 6 (by decide), d6]
  · rw [hk 7 (by decide), b7]
  · rw [hk 8 (by decide), b8]
  · rw [hk 9 (by decide), b9]
  · rw [hk 10 (by decide), b10]
  · rw [hk 11 (by decide), b11]
  · rw [hk 12 (by decide), b12]
  · rw [hk 13 (by decide), b13]
  · rw [hk 14 (by decide), b14]
  · rw [hk 15 (by decide), b15]
def zcons (a : Int32) (y : Nat → Int32) : Nat → Int32
  | 0 => a
  | j + 1 => y j
/-- four runs of the last points -/
def zRu1 (n m : Nat) (y : Nat → Int32) (C : Int32) : Prop := n ≤ m ∧ ∀ k, 1 ≤ k → (k ≤ n ↔ k ≤ m ∧ zdir C (y 0) ≠ 0 ∧ ∀ j, j < k → zdir C (y j) = zdir C (y 0))
def zRu2 (n m : Nat) (y : Nat → Int32) : Prop := n ≤ m ∧ ∀ k, 2 ≤ k → (k ≤ n ↔ k ≤ m ∧ zdir (y 1) (y 0) ≠ 0 ∧ ∀ j, j + 1 < k → zdir (y (j + 1)) (y j) = zdir (y 1) (y 0))
def zRu3 (n m : Nat) (y : Nat → Int32) : Prop := n ≤ m ∧ ∀ k, 2 ≤ k → (k ≤ n ↔ k ≤ m ∧ zdir (y 1) (y 0) ≠ 0 ∧ ∀ j, 1 ≤ j → j + 1 < k → zdir (y (j + 1)) (y j) = -(zdir (y j) (y (j - 1))))
def zRu4 (n m : Nat) (p : Nat → Prop) : Prop := n ≤ m ∧ ∀ k, (k ≤ n ↔ k ≤ m ∧ ∀ j, j < k → p j)
theorem zRu1_go {n m : Nat} {y : Nat → Int32} {C a F3 F4 : Int32} (h : zRu1 n m y C) (h3 : F3 = if 0 < m then zdir C (y 0) else 0) (h4 : F4 = nI n) : ∃ n', (if zdir C a = 0 then 0 else if zdir C a = F3 then F4 + 1 else 1) = nI n' ∧ zRu1 n' (m + 1) (zcons a y) C := by
  obtain ⟨h1, h2⟩ := h
  by_cases z : zdir C a = 0
  · refine ⟨0, by rw [if_pos z]; rfl, Nat.zero_le _, fun k hk => ⟨fun q => by omega, fun q => absurd z q.2.1⟩⟩
  · rw [if_neg z]
    by_cases e : zdir C a = F3
    · have hm : 0 < m := Nat.pos_of_ne_zero fun q => z (by rw [e, h3, q]; rfl)
      rw [if_pos hm] at h3
      rw [h3] at e
      refine ⟨n + 1, by rw [if_pos (e.trans h3.symm), h4, nI_succ], by omega, fun k hk => ?_⟩
      obtain ⟨k', rfl⟩ : ∃ k', k = k' + 1 := ⟨k - 1, by omega⟩
      by_cases k0 : k' = 0
      · subst k0
        refine ⟨fun _ => ⟨by omega, z, fun j hj => ?_⟩, fun _ => by omega⟩
        obtain rfl : j = 0 := by omega
        rfl
      · have q := h2 k' (by omega)
        constructor
        · intro hh
          obtain ⟨q1, q2, q3⟩ := q.mp (by omega)
          refine ⟨by omega, z, fun j hj => ?_⟩
          match j, hj with
          | 0, _ => rfl
          | j + 1, hj => exact (q3 j (by omega)).trans e.symm
        · intro ⟨q1, q2, q3⟩
          have := q.mpr ⟨by omega, by rw [← e]; exact z, fun j hj => (q3 (j + 1) (by omega)).trans e⟩
          omega
    · refine ⟨1, by rw [if_neg e]; rfl, by omega, fun k hk => ⟨fun q => ?_, fun ⟨q1, q2, q3⟩ => Nat.not_lt.mp fun q => ?_⟩⟩
      · obtain rfl : k = 1 := by omega
        refine ⟨by omega, z, fun j hj => ?_⟩
        obtain rfl : j = 0 := by omega
        rfl
      · have hm : 0 < m := by omega
        rw [if_pos hm] at h3
        exact e ((q3 1 (by omega)).symm.trans h3.symm)
theorem zRu2_go {n m : Nat} {y : Nat → Int32} {a F2 F5 D : Int32} (h : zRu2 n m y) (h2 : F2 = if 1 < m then zdir (y 1) (y 0) else 0) (h5 : F5 = nI n) (hD : D = if 0 < m then zdir (y 0) a else 0) : ∃ n', (if D = 0 then 1 else if D = F2 then F5 + 1 else 2) = nI n' ∧ zRu2 n' (m + 1) (zcons a y) := by
  obtain ⟨g1, g2⟩ := h
  by_cases z : D = 0
  · refine ⟨1, by rw [if_pos z]; rfl, by omega, fun k hk => ⟨fun q => by omega, fun ⟨q1, q2, _⟩ => ?_⟩⟩
    rw [if_pos (by omega)] at hD
    exact absurd (hD.symm.trans z) q2
  · rw [if_neg z]
    have hm : 0 < m := Nat.pos_of_ne_zero fun q => z (by rw [hD, q]; rfl)
    rw [if_pos hm] at hD
    by_cases e : D = F2
    · have hm1 : 1 < m := Nat.not_le.mp fun q => z (by rw [e, h2, if_neg (by omega)])
      rw [if_pos hm1] at h2
      rw [if_pos e]
      rw [h2] at e
      have n2 : 2 ≤ n := (g2 2 (Nat.le_refl 2)).mpr ⟨by omega, by rw [← e]; exact z, fun j hj => by
        obtain rfl : j = 0 := by omega
        rfl⟩
      refine ⟨n + 1, by rw [h5, nI_succ], by omega, fun k hk => ?_⟩
      obtain ⟨k', rfl⟩ : ∃ k', k = k' + 1 := ⟨k - 1, by omega⟩
      have zz : zdir (y 0) a ≠ 0 := by rw [← hD]; exact z
      by_cases k0 : k' = 1
      · subst k0
        refine ⟨fun _ => ⟨by omega, zz, fun j hj => ?_⟩, fun _ => by omega⟩
        obtain rfl : j = 0 := by omega
        rfl
      · have q := g2 k' (by omega)
        constructor
        · intro hh
          obtain ⟨q1, q2, q3⟩ := q.mp (by omega)
          refine ⟨by omega, zz, fun j hj => ?_⟩
          match j, hj with
          | 0, _ => rfl
          | j + 1, hj => exact (q3 j (by omega)).trans (e.symm.trans hD)
        · intro ⟨q1, q2, q3⟩
          have := q.mpr ⟨by omega, by rw [← e]; exact z, fun j hj => (q3 (j + 1) (by omega)).trans (hD.symm.trans e)⟩
          omega
    · refine ⟨2, by rw [if_neg e]; rfl, by omega, fun k hk => ⟨fun q => ?_, fun ⟨q1, q2, q3⟩ => Nat.not_lt.mp fun q => ?_⟩⟩
      · obtain rfl : k = 2 := by omega
        refine ⟨by omega, by rw [hD] at z; exact z, fun j hj => ?_⟩
        obtain rfl : j = 0 := by omega
        rfl
      · rw [if_pos (by omega)] at h2
        exact e (hD.trans ((q3 1 (by omega)).symm.trans h2.symm))
theorem zRu3_go {n m : Nat} {y : Nat → Int32} {a F2 F6 D : Int32} (h : zRu3 n m y) (h2 : F2 = if 1 < m then zdir (y 1) (y 0) else 0) (h6 : F6 = nI n) (hD : D = if 0 < m then zdir (y 0) a else 0) : ∃ n', (if D = 0 then 1 else if D = -F2 then F6 + 1 else 2) = nI n' ∧ zRu3 n' (m + 1) (zcons a y) := by
  obtain ⟨g1, g2⟩ := h
  by_cases z : D = 0
  · refine ⟨1, by rw [if_pos z]; rfl, by omega, fun k hk => ⟨fun q => by omega, fun ⟨q1, q2, _⟩ => ?_⟩⟩
    rw [if_pos (by omega)] at hD
    exact absurd (hD.symm.trans z) q2
  · rw [if_neg z]
    have hm : 0 < m := Nat.pos_of_ne_zero fun q => z (by rw [hD, q]; rfl)
    rw [if_pos hm] at hD
    by_cases e : D = -F2
    · have hm1 : 1 < m := Nat.not_le.mp fun q => z (by rw [e, h2, if_neg (by omega)]; rfl)
      rw [if_pos hm1] at h2
      rw [if_pos e]
      rw [h2] at e
      have z2 : zdir (y 1) (y 0) ≠ 0 := fun q => z (by rw [e, q]; rfl)
      have e2 : zdir (y 1) (y 0) = -(zdir (y 0) a) := by rw [← hD, e, Int32.neg_neg]
      have n2 : 2 ≤ n := (g2 2 (Nat.le_refl 2)).mpr ⟨by omega, z2, fun j h1 hj => absurd hj (by omega)⟩
      refine ⟨n + 1, by rw [h6, nI_succ], by omega, fun k hk => ?_⟩
      obtain ⟨k', rfl⟩ : ∃ k', k = k' + 1 := ⟨k - 1, by omega⟩
      have zz : zdir (y 0) a ≠ 0 := by rw [← hD]; exact z
      by_cases k0 : k' = 1
      · subst k0
        exact ⟨fun _ => ⟨by omega, zz, fun j h1 hj => absurd hj (by omega)⟩, fun _ => by omega⟩
      · have q := g2 k' (by omega)
        constructor
        · intro hh
          obtain ⟨q1, q2, q3⟩ := q.mp (by omega)
          refine ⟨by omega, zz, fun j h1 hj => ?_⟩
          match j, h1, hj with
          | 1, _, _ => exact e2
          | j + 2, _, hj => exact q3 (j + 1) (by omega) (by omega)
        · intro ⟨q1, q2, q3⟩
          have := q.mpr ⟨by omega, z2, fun j h1 hj => by
            match j, h1, hj with
            | j + 1, h1, hj => exact q3 (j + 2) (by omega) (by omega)⟩
          omega
    · refine ⟨2, by rw [if_neg e]; rfl, by omega, fun k hk => ⟨fun q => ?_, fun ⟨q1, q2, q3⟩ => Nat.not_lt.mp fun q => ?_⟩⟩
      · obtain rfl : k = 2 := by omega
        exact ⟨by omega, by rw [hD] at z; exact z, fun j h1 hj => absurd hj (by omega)⟩
      · rw [if_pos (by omega)] at h2
        refine e ?_
        have q9 : zdir (y 1) (y 0) = -(zdir (y 0) a) := q3 1 (by omega) (by omega)
        rw [h2, q9, Int32.neg_neg, hD]
theorem zRu4_go {n m : Nat} {p p' : Nat → Prop} (h : zRu4 n m p) (hs : ∀ j, p' (j + 1) ↔ p j) : (p' 0 → zRu4 (n + 1) (m + 1) p') ∧ (¬ p' 0 → zRu4 0 (m + 1) p') := by
  obtain ⟨g1, g2⟩ := h
  refine ⟨fun h0 => ⟨by omega, fun k => ?_⟩, fun h0 => ⟨by omega, fun k => ⟨fun q => ?_, fun ⟨q1, q2⟩ => Nat.not_lt.mp fun q => h0 (q2 0 q)⟩⟩⟩
  · match k with
    | 0 => exact ⟨fun _ => ⟨by omega, fun j hj => absurd hj (Nat.not_lt_zero j)⟩, fun _ => by omega⟩
    | k + 1 =>
      have q := g2 k
      constructor
      · intro hh
        obtain ⟨q1, q2⟩ := q.mp (by omega)
        refine ⟨by omega, fun j hj => ?_⟩
        match j, hj with
        | 0, _ => exact h0
        | j + 1, hj => exact (hs j).mpr (q2 j (by omega))
      · intro ⟨q1, q2⟩
        have := q.mpr ⟨by omega, fun j hj => (hs j).mp (q2 (j + 1) (by omega))⟩
        omega
  · obtain rfl : k = 0 := by omega
    exact ⟨by omega, fun j hj => absurd hj (Nat.not_lt_zero j)⟩
