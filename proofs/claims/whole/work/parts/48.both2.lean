/-! THE RULES of both sides are the same -/
theorem z10n {P : Prop} [Decidable P] : ¬ (if P then (1 : Int32) else (0 : Int32)) = 0 ↔ P := by
  by_cases h : P
  · rw [if_pos h]
    exact ⟨fun _ => h, fun _ => by decide⟩
  · rw [if_neg h]
    exact ⟨fun q => absurd rfl q, fun q => absurd q h⟩
theorem zbr_i {m : Nat} {y : Nat → Int32} {C W : Int32} {r : Nat} : zbr m y C W r = true ↔ zNm r ≤ m ∧ (¬ zBv y C W r 1 = 0 ∨ ¬ zBv y C W r (-1) = 0) := by
  unfold zbr zBr
  rw [decide_eq_true_iff]
  by_cases h : m < zNm r
  · rw [if_pos h, if_pos h]
    exact ⟨fun q => absurd ⟨rfl, rfl⟩ q, fun q => absurd q.1 (by omega)⟩
  · rw [if_neg h, if_neg h]
    exact ⟨fun q => ⟨by omega, Decidable.not_and_iff_not_or_not.mp q⟩, fun q => Decidable.not_and_iff_not_or_not.mpr q.2⟩
theorem zct_or {f : Nat → Int32} (h : ∀ i, f i = 0 ∨ f i = 1 ∨ f i = -1) : ∀ n, zct (fun i => f i = 1) n + zct (fun i => f i = -1) n = zct (fun i => ¬ f i = 0) n
  | 0 => rfl
  | n + 1 => by
    have q := zct_or h n
    rcases h n with e | e | e
    · rw [zct_f (p := fun i => f i = 1) (n := n) (by show ¬ f n = 1; rw [e]; decide), zct_f (p := fun i => f i = -1) (n := n) (by show ¬ f n = -1; rw [e]; decide), zct_f (p := fun i => ¬ f i = 0) (n := n) (fun z => z e)]
      exact q
    · rw [zct_t (p := fun i => f i = 1) (n := n) e, zct_f (p := fun i => f i = -1) (n := n) (by show ¬ f n = -1; rw [e]; decide), zct_t (p := fun i => ¬ f i = 0) (n := n) (by show ¬ f n = 0; rw [e]; decide)]
      omega
    · rw [zct_f (p := fun i => f i = 1) (n := n) (by show ¬ f n = 1; rw [e]; decide), zct_t (p := fun i => f i = -1) (n := n) e, zct_t (p := fun i => ¬ f i = 0) (n := n) (by show ¬ f n = 0; rw [e]; decide)]
      omega
theorem zdir_all {f : Nat → Int32} {n : Nat} (hn : 0 < n) (h : ∀ i, f i = 0 ∨ f i = 1 ∨ f i = -1) : ((∀ i, i < n → f i = 1) ∨ ∀ i, i < n → f i = -1) ↔ f 0 ≠ 0 ∧ ∀ i, i < n → f i = f 0 := by
  constructor
  · intro q
    rcases q with q | q
    · have q0 := q 0 hn
      exact ⟨by rw [q0]; decide, fun i hi => (q i hi).trans q0.symm⟩
    · have q0 := q 0 hn
      exact ⟨by rw [q0]; decide, fun i hi => (q i hi).trans q0.symm⟩
  · intro ⟨q1, q2⟩
    rcases h 0 with e | e | e
    · exact absurd e q1
    · exact Or.inl fun i hi => (q2 i hi).trans e
    · exact Or.inr fun i hi => (q2 i hi).trans e
theorem zr5 {y : Nat → Int32} {C W t k : Int32} {n : Nat} : (∃ s, zSd s ∧ zsb (y 0) C W t = s ∧ k ≤ nI (zct (fun i => zsb (y i) C W t = s) n)) ↔ zsb (y 0) C W t ≠ 0 ∧ k ≤ nI (zct (fun i => zsb (y i) C W t = zsb (y 0) C W t) n) := by
  constructor
  · intro ⟨s, q1, q2, q3⟩
    subst q2
    refine ⟨?_, q3⟩
    rcases q1 with e | e <;> rw [e] <;> decide
  · intro ⟨q1, q2⟩
    refine ⟨_, ?_, rfl, q2⟩
    rcases zsb_c (y 0) C W t with e | e | e
    · exact absurd e q1
    · exact Or.inl e
    · exact Or.inr e
theorem zsd_or {Q : Int32 → Prop} : (Q 1 ∨ Q (-1)) ↔ ∃ s, zSd s ∧ Q s := by
  constructor
  · intro q
    rcases q with q | q
    · exact ⟨1, Or.inl rfl, q⟩
    · exact ⟨-1, Or.inr rfl, q⟩
  · intro ⟨s, q1, q2⟩
    rcases q1 with rfl | rfl
    · exact Or.inl q2
    · exact Or.inr q2
theorem zr5v {x C W t s v k : Int32} (hx : zBd x) (hc : zBd C) (hw : zBw W) (ht : zTh t) (hs : zSd s) : ¬ (if v_X4_isBeyond x C W t s = 0 then (0 : Int32) else if v < k then (0 : Int32) else (1 : Int32)) = 0 ↔ zsb x C W t = s ∧ k ≤ v := by
  rw [zby hx hc hw ht hs]
  by_cases e : zsb x C W t = s
  · rw [if_pos e, if_neg (by decide)]
    by_cases h : v < k
    · rw [if_pos h]
      exact ⟨fun q => absurd rfl q, fun q => absurd h (Int32.not_lt.mpr q.2)⟩
    · rw [if_neg h]
      exact ⟨fun _ => ⟨e, Int32.not_lt.mp h⟩, fun _ => by decide⟩
  · rw [if_neg e, if_pos rfl]
    exact ⟨fun q => absurd rfl q, fun q => absurd q.1 e⟩
theorem zturn (y : Nat → Int32) : ¬ zt2 y (zt1 y 13) 12 = 0 ↔ (zdir (y 1) (y 0) ≠ 0 ∧ ∀ i, 1 ≤ i → i + 1 < 14 → zdir (y (i + 1)) (y i) = -(zdir (y i) (y (i - 1)))) := by
  obtain ⟨a, b⟩ := zt1_c y 13
  obtain ⟨c, d⟩ := zt2_c y a b 12
  have e : ¬ zt2 y (zt1 y 13) 12 = 0 ↔ zt2 y (zt1 y 13) 12 = 1 := by
    rcases c with q | q <;> rw [q]
    · exact ⟨fun z => absurd rfl z, fun z => absurd z (by decide)⟩
    · exact ⟨fun _ => rfl, fun _ => by decide⟩
  rw [e, d]
  constructor
  · intro ⟨q1, q2⟩
    have nz : ∀ i, i < 13 → zdir (y (i + 1)) (y i) ≠ 0 := fun i hi z => q1 i hi (zdir_0.mp z).symm
    refine ⟨nz 0 (by decide), fun i h1 hi => ?_⟩
    obtain ⟨k, rfl⟩ : ∃ k, i = k + 1 := ⟨i - 1, by omega⟩
    show zdir (y (k + 1 + 1)) (y (k + 1)) = -(zdir (y (k + 1)) (y k))
    have q := q2 k (by omega)
    rw [← zdir_m, ← zdir_1] at q
    rcases zdir_c (y (k + 1)) (y k) with z | z | z
    · exact absurd z (nz k (by omega))
    · rw [z]
      rcases zdir_c (y (k + 1 + 1)) (y (k + 1)) with w | w | w
      · exact absurd w (nz (k + 1) (by omega))
      · have := q.mpr w
        rw [z] at this
        exact absurd this (by decide)
      · exact w
    · rw [z]
      exact q.mp z
  · intro ⟨q1, q2⟩
    have nz : ∀ i, i < 13 → zdir (y (i + 1)) (y i) ≠ 0 := by
      intro i
      induction i with
      | zero => exact fun _ => q1
      | succ i ih =>
        intro hi z
        have w := q2 (i + 1) (by omega) (by omega)
        rw [z] at w
        refine ih (by omega) ?_
        have w2 : -(0 : Int32) = - -(zdir (y (i + 1)) (y i)) := congrArg (fun v => -v) w
        rw [Int32.neg_neg] at w2
        exact w2.symm
    refine ⟨fun i hi z => nz i hi (zdir_0.mpr z.symm), fun i hi => ?_⟩
    rw [← zdir_m, ← zdir_1]
    have w : zdir (y (i + 1 + 1)) (y (i + 1)) = -(zdir (y (i + 1)) (y i)) := q2 (i + 1) (by omega) (by omega)
    rw [show i + 2 = i + 1 + 1 from rfl, w]
    rcases zdir_c (y (i + 1)) (y i) with z | z | z <;> rw [z] <;> decide
theorem zW_1 {n : Nat} {lv : Nat → Int32} {ce w : Int32} : zWb 1 n lv ce w ↔ 1 ≤ n ∧ ¬ zsb (lv 0) ce w 3 = 0 := Iff.rfl
theorem zW_2 {n : Nat} {lv : Nat → Int32} {ce w : Int32} : zWb 2 n lv ce w ↔ 9 ≤ n ∧ (zdir ce (lv 0) ≠ 0 ∧ ∀ i, i < 9 → zdir ce (lv i) = zdir ce (lv 0)) := Iff.rfl
theorem zW_3 {n : Nat} {lv : Nat → Int32} {ce w : Int32} : zWb 3 n lv ce w ↔ 6 ≤ n ∧ (zdir (lv 1) (lv 0) ≠ 0 ∧ ∀ i, i + 1 < 6 → zdir (lv (i + 1)) (lv i) = zdir (lv 1) (lv 0)) := Iff.rfl
theorem zW_4 {n : Nat} {lv : Nat → Int32} {ce w : Int32} : zWb 4 n lv ce w ↔ 14 ≤ n ∧ (zdir (lv 1) (lv 0) ≠ 0 ∧ ∀ i, 1 ≤ i → i + 1 < 14 → zdir (lv (i + 1)) (lv i) = -(zdir (lv i) (lv (i - 1)))) := Iff.rfl
theorem zW_5 {n : Nat} {lv : Nat → Int32} {ce w : Int32} : zWb 5 n lv ce w ↔ 3 ≤ n ∧ (zsb (lv 0) ce w 2 ≠ 0 ∧ 2 ≤ nI (zct (fun i => zsb (lv i) ce w 2 = zsb (lv 0) ce w 2) 3)) := Iff.rfl
theorem zW_6 {n : Nat} {lv : Nat → Int32} {ce w : Int32} : zWb 6 n lv ce w ↔ 5 ≤ n ∧ (zsb (lv 0) ce w 1 ≠ 0 ∧ 4 ≤ nI (zct (fun i => zsb (lv i) ce w 1 = zsb (lv 0) ce w 1) 5)) := Iff.rfl
theorem zW_7 {n : Nat} {lv : Nat → Int32} {ce w : Int32} : zWb 7 n lv ce w ↔ 15 ≤ n ∧ nI (zct (fun i => ¬ zsb (lv i) ce w 1 = 0) 15) = 0 := Iff.rfl
theorem zW_8 {n : Nat} {lv : Nat → Int32} {ce w : Int32} : zWb 8 n lv ce w ↔ 8 ≤ n ∧ nI (zct (fun i => ¬ zsb (lv i) ce w 1 = 0) 8) = 8 := Iff.rfl
theorem zV_1 {y : Nat → Int32} {C W sd : Int32} : zBv y C W 1 sd = v_X4_isBeyond (y 0) C W 3 sd := by
  unfold zBv
  rw [if_pos rfl]
theorem zN_1 : zNm 1 = 1 := rfl
theorem zV_2 {y : Nat → Int32} {C W sd : Int32} : zBv y C W 2 sd = (if zab y C sd 9 = 9 then (1 : Int32) else (0 : Int32)) := by
  unfold zBv
  rw [if_neg (by decide), if_pos rfl]
theorem zN_2 : zNm 2 = 9 := rfl
theorem zV_3 {y : Nat → Int32} {C W sd : Int32} : zBv y C W 3 sd = (if zst y sd 5 = 5 then (1 : Int32) else (0 : Int32)) := by
  unfold zBv
  rw [if_neg (by decide), if_neg (by decide), if_pos rfl]
theorem zN_3 : zNm 3 = 6 := rfl
theorem zV_4 {y : Nat → Int32} {C W sd : Int32} : zBv y C W 4 sd = zt2 y (zt1 y 13) 12 := by
  unfold zBv
  rw [if_neg (by decide), if_neg (by decide), if_neg (by decide), if_pos rfl]
theorem zN_4 : zNm 4 = 14 := rfl
theorem zV_5 {y : Nat → Int32} {C W sd : Int32} : zBv y C W 5 sd = (if v_X4_isBeyond (y 0) C W 2 sd = 0 then (0 : Int32) else if zbN y C W 2 sd 3 < 2 then (0 : Int32) else (1 : Int32)) := by
  unfold zBv
  rw [if_neg (by decide), if_neg (by decide), if_neg (by decide), if_neg (by decide), if_pos rfl]
theorem zN_5 : zNm 5 = 3 := rfl
theorem zV_6 {y : Nat → Int32} {C W sd : Int32} : zBv y C W 6 sd = (if v_X4_isBeyond (y 0) C W 1 sd = 0 then (0 : Int32) else if zbN y C W 1 sd 5 < 4 then (0 : Int32) else (1 : Int32)) := by
  unfold zBv
  rw [if_neg (by decide), if_neg (by decide), if_neg (by decide), if_neg (by decide), if_neg (by decide), if_pos rfl]
theorem zN_6 : zNm 6 = 5 := rfl
theorem zV_7 {y : Nat → Int32} {C W sd : Int32} : zBv y C W 7 sd = (if zbN y C W 1 1 15 + zbN y C W 1 (-1) 15 = 0 then (1 : Int32) else (0 : Int32)) := by
  unfold zBv
  rw [if_neg (by decide), if_neg (by decide), if_neg (by decide), if_neg (by decide), if_neg (by decide), if_neg (by decide), if_pos rfl]
theorem zN_7 : zNm 7 = 15 := rfl
theorem zV_8 {y : Nat → Int32} {C W sd : Int32} : zBv y C W 8 sd = (if zbN y C W 1 1 8 + zbN y C W 1 (-1) 8 = 8 then (1 : Int32) else (0 : Int32)) := by
  unfold zBv
  rw [if_neg (by decide), if_neg (by decide), if_neg (by decide), if_neg (by decide), if_neg (by decide), if_neg (by decide), if_neg (by decide)]
theorem zN_8 : zNm 8 = 8 := rfl
theorem zWbr_1 {m : Nat} {y : Nat → Int32} {C W : Int32} (hc : zBd C) (hw : zBw W) (hy : ∀ j, j < m → zBd (y j)) : zbr m y C W 1 = true ↔ zWb 1 m y C W := by
  have s1 : zSd 1 := Or.inl rfl
  have sm : zSd (-1) := Or.inr rfl
  have th1 : zTh 1 := Or.inl rfl
  have th2 : zTh 2 := Or.inr (Or.inl rfl)
  have th3 : zTh 3 := Or.inr (Or.inr rfl)
  rw [zbr_i, zV_1, zV_1, zN_1, zW_1]
  refine zand_of Iff.rfl fun hm1 => ?_
  rw [zby (hy 0 (by omega)) hc hw th3 s1, zby (hy 0 (by omega)) hc hw th3 sm, z10n, z10n]
  rcases zsb_c (y 0) C W 3 with e | e | e <;> rw [e] <;> decide
theorem zWbr_2 {m : Nat} {y : Nat → Int32} {C W : Int32} (hc : zBd C) (hw : zBw W) (hy : ∀ j, j < m → zBd (y j)) : zbr m y C W 2 = true ↔ zWb 2 m y C W := by
  have s1 : zSd 1 := Or.inl rfl
  have sm : zSd (-1) := Or.inr rfl
  have th1 : zTh 1 := Or.inl rfl
  have th2 : zTh 2 := Or.inr (Or.inl rfl)
  have th3 : zTh 3 := Or.inr (Or.inr rfl)
  rw [zbr_i, zV_2, zV_2, zN_2, zW_2]
  refine zand_of Iff.rfl fun hm1 => ?_
  rw [z10n, z10n, show (9 : Int32) = nI 9 from rfl, zeq_n (zab_c hc s1 9 (fun j hj => hy j (by omega))) (by decide) (by decide), zeq_n (zab_c hc sm 9 (fun j hj => hy j (by omega))) (by decide) (by decide), zct_full, zct_full]
  exact zdir_all (f := fun i => zdir C (y i)) (by decide) (fun i => zdir_c _ _)
theorem zWbr_3 {m : Nat} {y : Nat → Int32} {C W : Int32} (hc : zBd C) (hw : zBw W) (hy : ∀ j, j < m → zBd (y j)) : zbr m y C W 3 = true ↔ zWb 3 m y C W := by
  have s1 : zSd 1 := Or.inl rfl
  have sm : zSd (-1) := Or.inr rfl
  have th1 : zTh 1 := Or.inl rfl
  have th2 : zTh 2 := Or.inr (Or.inl rfl)
  have th3 : zTh 3 := Or.inr (Or.inr rfl)
  rw [zbr_i, zV_3, zV_3, zN_3, zW_3]
  refine zand_of Iff.rfl fun hm1 => ?_
  rw [z10n, z10n, show (5 : Int32) = nI 5 from rfl, zeq_n (zst_c s1 5 (fun j hj => hy j (by omega))) (by decide) (by decide), zeq_n (zst_c sm 5 (fun j hj => hy j (by omega))) (by decide) (by decide), zct_full, zct_full, zdir_all (f := fun i => zdir (y (i + 1)) (y i)) (by decide) (fun i => zdir_c _ _)]
  exact and_congr Iff.rfl ⟨fun q i hi => q i (by omega), fun q i hi => q i (by omega)⟩
theorem zWbr_4 {m : Nat} {y : Nat → Int32} {C W : Int32} (hc : zBd C) (hw : zBw W) (hy : ∀ j, j < m → zBd (y j)) : zbr m y C W 4 = true ↔ zWb 4 m y C W := by
  have s1 : zSd 1 := Or.inl rfl
  have sm : zSd (-1) := Or.inr rfl
  have th1 : zTh 1 := Or.inl rfl
  have th2 : zTh 2 := Or.inr (Or.inl rfl)
  have th3 : zTh 3 := Or.inr (Or.inr rfl)
  rw [zbr_i, zV_4, zV_4, zN_4, zW_4]
  refine zand_of Iff.rfl fun hm1 => ?_
  rw [or_self]
  exact zturn y
theorem zWbr_5 {m : Nat} {y : Nat → Int32} {C W : Int32} (hc : zBd C) (hw : zBw W) (hy : ∀ j, j < m → zBd (y j)) : zbr m y C W 5 = true ↔ zWb 5 m y C W := by
  have s1 : zSd 1 := Or.inl rfl
  have sm : zSd (-1) := Or.inr rfl
  have th1 : zTh 1 := Or.inl rfl
  have th2 : zTh 2 := Or.inr (Or.inl rfl)
  have th3 : zTh 3 := Or.inr (Or.inr rfl)
  rw [zbr_i, zV_5, zV_5, zN_5, zW_5]
  refine zand_of Iff.rfl fun hm1 => ?_
  rw [zr5v (hy 0 (by omega)) hc hw th2 s1, zr5v (hy 0 (by omega)) hc hw th2 sm, zbN_c hc hw th2 s1 3 (fun j hj => hy j (by omega)), zbN_c hc hw th2 sm 3 (fun j hj => hy j (by omega))]
  exact (zsd_or (Q := fun s => zsb (y 0) C W 2 = s ∧ 2 ≤ nI (zct (fun i => zsb (y i) C W 2 = s) 3))).trans zr5
theorem zWbr_6 {m : Nat} {y : Nat → Int32} {C W : Int32} (hc : zBd C) (hw : zBw W) (hy : ∀ j, j < m → zBd (y j)) : zbr m y C W 6 = true ↔ zWb 6 m y C W := by
  have s1 : zSd 1 := Or.inl rfl
  have sm : zSd (-1) := Or.inr rfl
  have th1 : zTh 1 := Or.inl rfl
  have th2 : zTh 2 := Or.inr (Or.inl rfl)
  have th3 : zTh 3 := Or.inr (Or.inr rfl)
  rw [zbr_i, zV_6, zV_6, zN_6, zW_6]
  refine zand_of Iff.rfl fun hm1 => ?_
  rw [zr5v (hy 0 (by omega)) hc hw th1 s1, zr5v (hy 0 (by omega)) hc hw th1 sm, zbN_c hc hw th1 s1 5 (fun j hj => hy j (by omega)), zbN_c hc hw th1 sm 5 (fun j hj => hy j (by omega))]
  exact (zsd_or (Q := fun s => zsb (y 0) C W 1 = s ∧ 4 ≤ nI (zct (fun i => zsb (y i) C W 1 = s) 5))).trans zr5
theorem zWbr_7 {m : Nat} {y : Nat → Int32} {C W : Int32} (hc : zBd C) (hw : zBw W) (hy : ∀ j, j < m → zBd (y j)) : zbr m y C W 7 = true ↔ zWb 7 m y C W := by
  have s1 : zSd 1 := Or.inl rfl
  have sm : zSd (-1) := Or.inr rfl
  have th1 : zTh 1 := Or.inl rfl
  have th2 : zTh 2 := Or.inr (Or.inl rfl)
  have th3 : zTh 3 := Or.inr (Or.inr rfl)
  rw [zbr_i, zV_7, zV_7, zN_7, zW_7]
  refine zand_of Iff.rfl fun hm1 => ?_
  rw [or_self, z10n, zbN_c hc hw th1 s1 15 (fun j hj => hy j (by omega)), zbN_c hc hw th1 sm 15 (fun j hj => hy j (by omega)), nI_add, zct_or (f := fun i => zsb (y i) C W 1) (fun i => zsb_c _ _ _ _)]
theorem zWbr_8 {m : Nat} {y : Nat → Int32} {C W : Int32} (hc : zBd C) (hw : zBw W) (hy : ∀ j, j < m → zBd (y j)) : zbr m y C W 8 = true ↔ zWb 8 m y C W := by
  have s1 : zSd 1 := Or.inl rfl
  have sm : zSd (-1) := Or.inr rfl
  have th1 : zTh 1 := Or.inl rfl
  have th2 : zTh 2 := Or.inr (Or.inl rfl)
  have th3 : zTh 3 := Or.inr (Or.inr rfl)
  rw [zbr_i, zV_8, zV_8, zN_8, zW_8]
  refine zand_of Iff.rfl fun hm1 => ?_
  rw [or_self, z10n, zbN_c hc hw th1 s1 8 (fun j hj => hy j (by omega)), zbN_c hc hw th1 sm 8 (fun j hj => hy j (by omega)), nI_add, zct_or (f := fun i => zsb (y i) C W 1) (fun i => zsb_c _ _ _ _)]
theorem zWb_br {m : Nat} {y : Nat → Int32} {C W : Int32} (hc : zBd C) (hw : zBw W) (hy : ∀ j, j < m → zBd (y j)) {r : Nat} (h1 : 1 ≤ r) (h8 : r ≤ 8) : zbr m y C W r = true ↔ zWb r m y C W := by
  have : r = 1 ∨ r = 2 ∨ r = 3 ∨ r = 4 ∨ r = 5 ∨ r = 6 ∨ r = 7 ∨ r = 8 := by omega
  rcases this with rfl | rfl | rfl | rfl | rfl | rfl | rfl | rfl
  · exact zWbr_1 hc hw hy
  · exact zWbr_2 hc hw hy
  · exact zWbr_3 hc hw hy
  · exact zWbr_4 hc hw hy
  · exact zWbr_5 hc hw hy
  · exact zWbr_6 hc hw hy
  · exact zWbr_7 hc hw hy
  · exact zWbr_8 hc hw hy
theorem zct_0 (p : Nat → Prop) : zct p 0 = 0 := rfl
theorem zWcc {n' : Nat} {y y' : Nat → Int32} {C W : Int32} (hy : ∀ j, j < n' → y' j = y j) : ∀ (t s : Int32) (k : Nat), k ≤ n' → zct (fun i => zsb (y' i) C W t = s) k = zct (fun i => zsb (y i) C W t = s) k := by
  intro t s k
  induction k with
  | zero => exact fun _ => (zct_0 _).trans (zct_0 _).symm
  | succ k ih =>
    intro hk
    have e := hy k (by omega)
    by_cases h : zsb (y k) C W t = s
    · rw [zct_t (p := fun i => zsb (y i) C W t = s) h, zct_t (p := fun i => zsb (y' i) C W t = s) (by show zsb (y' k) C W t = s; rw [e]; exact h), ih (by omega)]
    · rw [zct_f (p := fun i => zsb (y i) C W t = s) h, zct_f (p := fun i => zsb (y' i) C W t = s) (by show ¬ zsb (y' k) C W t = s; rw [e]; exact h), ih (by omega)]
theorem zWcn {n' : Nat} {y y' : Nat → Int32} {C W : Int32} (hy : ∀ j, j < n' → y' j = y j) : ∀ (t : Int32) (k : Nat), k ≤ n' → zct (fun i => ¬ zsb (y' i) C W t = 0) k = zct (fun i => ¬ zsb (y i) C W t = 0) k := by
  intro t k
  induction k with
  | zero => exact fun _ => (zct_0 _).trans (zct_0 _).symm
  | succ k ih =>
    intro hk
    have e := hy k (by omega)
    by_cases h : zsb (y k) C W t = 0
    · rw [zct_f (p := fun i => ¬ zsb (y i) C W t = 0) (fun q => q h), zct_f (p := fun i => ¬ zsb (y' i) C W t = 0) (fun q => q (by rw [e]; exact h)), ih (by omega)]
    · rw [zct_t (p := fun i => ¬ zsb (y i) C W t = 0) h, zct_t (p := fun i => ¬ zsb (y' i) C W t = 0) (by show ¬ zsb (y' k) C W t = 0; rw [e]; exact h), ih (by omega)]
theorem zWcg_1 {n n' : Nat} {y y' : Nat → Int32} {C W : Int32} (hn : n' = n ∨ (15 ≤ n ∧ n' = 15)) (hy : ∀ j, j < n' → y' j = y j) : zWb 1 n' y' C W ↔ zWb 1 n y C W := by
  rw [zW_1, zW_1]
  refine zand_of (by omega) fun hm => ?_
  rw [hy 0 (by omega)]
theorem zWcg_2 {n n' : Nat} {y y' : Nat → Int32} {C W : Int32} (hn : n' = n ∨ (15 ≤ n ∧ n' = 15)) (hy : ∀ j, j < n' → y' j = y j) : zWb 2 n' y' C W ↔ zWb 2 n y C W := by
  rw [zW_2, zW_2]
  refine zand_of (by omega) fun hm => ?_
  rw [hy 0 (by omega)]
  exact and_congr Iff.rfl ⟨fun q i hi => by have := q i hi; rw [hy i (by omega)] at this; exact this, fun q i hi => by rw [hy i (by omega)]; exact q i hi⟩
theorem zWcg_3 {n n' : Nat} {y y' : Nat → Int32} {C W : Int32} (hn : n' = n ∨ (15 ≤ n ∧ n' = 15)) (hy : ∀ j, j < n' → y' j = y j) : zWb 3 n' y' C W ↔ zWb 3 n y C W := by
  rw [zW_3, zW_3]
  refine zand_of (by omega) fun hm => ?_
  rw [hy 0 (by omega), hy 1 (by omega)]
  exact and_congr Iff.rfl ⟨fun q i hi => by have := q i hi; rw [hy i (by omega), hy (i + 1) (by omega)] at this; exact this, fun q i hi => by rw [hy i (by omega), hy (i + 1) (by omega)]; exact q i hi⟩
theorem zWcg_4 {n n' : Nat} {y y' : Nat → Int32} {C W : Int32} (hn : n' = n ∨ (15 ≤ n ∧ n' = 15)) (hy : ∀ j, j < n' → y' j = y j) : zWb 4 n' y' C W ↔ zWb 4 n y C W := by
  rw [zW_4, zW_4]
  refine zand_of (by omega) fun hm => ?_
  rw [hy 0 (by omega), hy 1 (by omega)]
  exact and_congr Iff.rfl ⟨fun q i h1 hi => by have := q i h1 hi; rw [hy i (by omega), hy (i + 1) (by omega), hy (i - 1) (by omega)] at this; exact this, fun q i h1 hi => by rw [hy i (by omega), hy (i + 1) (by omega), hy (i - 1) (by omega)]; exact q i h1 hi⟩
theorem zWcg_5 {n n' : Nat} {y y' : Nat → Int32} {C W : Int32} (hn : n' = n ∨ (15 ≤ n ∧ n' = 15)) (hy : ∀ j, j < n' → y' j = y j) : zWb 5 n' y' C W ↔ zWb 5 n y C W := by
  rw [zW_5, zW_5]
  refine zand_of (by omega) fun hm => ?_
  rw [hy 0 (by omega), zWcc hy _ _ 3 (by omega)]
theorem zWcg_6 {n n' : Nat} {y y' : Nat → Int32} {C W : Int32} (hn : n' = n ∨ (15 ≤ n ∧ n' = 15)) (hy : ∀ j, j < n' → y' j = y j) : zWb 6 n' y' C W ↔ zWb 6 n y C W := by
  rw [zW_6, zW_6]
  refine zand_of (by omega) fun hm => ?_
  rw [hy 0 (by omega), zWcc hy _ _ 5 (by omega)]
theorem zWcg_7 {n n' : Nat} {y y' : Nat → Int32} {C W : Int32} (hn : n' = n ∨ (15 ≤ n ∧ n' = 15)) (hy : ∀ j, j < n' → y' j = y j) : zWb 7 n' y' C W ↔ zWb 7 n y C W := by
  rw [zW_7, zW_7]
  refine zand_of (by omega) fun hm => ?_
  rw [zWcn hy _ 15 (by omega)]
theorem zWcg_8 {n n' : Nat} {y y' : Nat → Int32} {C W : Int32} (hn : n' = n ∨ (15 ≤ n ∧ n' = 15)) (hy : ∀ j, j < n' → y' j = y j) : zWb 8 n' y' C W ↔ zWb 8 n y C W := by
  rw [zW_8, zW_8]
  refine zand_of (by omega) fun hm => ?_
  rw [zWcn hy _ 8 (by omega)]
theorem zWb_congr {n n' : Nat} {y y' : Nat → Int32} {C W : Int32} {r : Nat} (h1 : 1 ≤ r) (h8 : r ≤ 8) (hn : n' = n ∨ (15 ≤ n ∧ n' = 15)) (hy : ∀ j, j < n' → y' j = y j) : zWb r n' y' C W ↔ zWb r n y C W := by
  have : r = 1 ∨ r = 2 ∨ r = 3 ∨ r = 4 ∨ r = 5 ∨ r = 6 ∨ r = 7 ∨ r = 8 := by omega
  rcases this with rfl | rfl | rfl | rfl | rfl | rfl | rfl | rfl
  · exact zWcg_1 hn hy
  · exact zWcg_2 hn hy
  · exact zWcg_3 hn hy
  · exact zWcg_4 hn hy
  · exact zWcg_5 hn hy
  · exact zWcg_6 hn hy
  · exact zWcg_7 hn hy
  · exact zWcg_8 hn hy
