/-! THE COUNTS: the invariant, and the rules that are told -/
def zqc (b : Bool) (q : Nat → Bool) : Nat → Bool
  | 0 => b
  | j + 1 => q j
theorem zqc_go {q : Nat → Bool} {m : Nat} {y : Nat → Int32} {a : Int32} {P : Int32 → Prop} {b : Bool} (hb : b = true ↔ P a) (h : ∀ j, q j = true ↔ j < m ∧ P (y j)) : ∀ j, zqc b q j = true ↔ j < m + 1 ∧ P (zcons a y j)
  | 0 => ⟨fun q0 => ⟨by omega, hb.mp q0⟩, fun q0 => hb.mpr q0.2⟩
  | j + 1 => ⟨fun q0 => ⟨by have := ((h j).mp q0).1; omega, ((h j).mp q0).2⟩, fun q0 => (h j).mpr ⟨by omega, q0.2⟩⟩
def zRI (F : Nat → Int32) (m : Nat) (y : Nat → Int32) (C W : Int32) : Prop :=
  (F 0 = nI m ∧ m ≤ 60) ∧ (0 < m → F 1 = y 0) ∧ F 2 = (if 1 < m then zdir (y 1) (y 0) else 0) ∧ F 3 = (if 0 < m then zdir C (y 0) else 0) ∧
  (∃ n, F 4 = nI n ∧ zRu1 n m y C) ∧ (∃ n, F 5 = nI n ∧ zRu2 n m y) ∧ (∃ n, F 6 = nI n ∧ zRu3 n m y) ∧
  (∃ n, F 7 = nI n ∧ zRu4 n m (fun j => zsb (y j) C W 1 = 0)) ∧ (∃ n, F 8 = nI n ∧ zRu4 n m (fun j => ¬ zsb (y j) C W 1 = 0)) ∧
  (0 < m → F 9 = zsb (y 0) C W 3 ∧ F 10 = zsb (y 0) C W 2 ∧ F 11 = zsb (y 0) C W 1) ∧
  (∃ q : Nat → Bool, (∀ j, q j = true ↔ j < m ∧ zsb (y j) C W 2 = 1) ∧ F 12 = zU3 (q 0) (q 1) (q 2)) ∧
  (∃ q : Nat → Bool, (∀ j, q j = true ↔ j < m ∧ zsb (y j) C W 2 = -1) ∧ F 13 = zU3 (q 0) (q 1) (q 2)) ∧
  (∃ q : Nat → Bool, (∀ j, q j = true ↔ j < m ∧ zsb (y j) C W 1 = 1) ∧ F 14 = zU5 (q 0) (q 1) (q 2) (q 3) (q 4)) ∧
  (∃ q : Nat → Bool, (∀ j, q j = true ↔ j < m ∧ zsb (y j) C W 1 = -1) ∧ F 15 = zU5 (q 0) (q 1) (q 2) (q 3) (q 4))
theorem zRI_0 (f y : Nat → Int32) (C W : Int32) : zRI (r_X1_restart f) 0 y C W := by
  have z : ∀ j, j < 16 → r_X1_restart f j = 0 := fun j hj => by
    match j, hj with
    | 0, _ => rfl
    | 1, _ => rfl
    | 2, _ => rfl
    | 3, _ => rfl
    | 4, _ => rfl
    | 5, _ => rfl
    | 6, _ => rfl
    | 7, _ => rfl
    | 8, _ => rfl
    | 9, _ => rfl
    | 10, _ => rfl
    | 11, _ => rfl
    | 12, _ => rfl
    | 13, _ => rfl
    | 14, _ => rfl
    | 15, _ => rfl
    | j + 16, h => exact absurd h (by omega)
  have nq : ∀ (P : Nat → Prop) (j : Nat), (false = true ↔ j < 0 ∧ P j) := fun P j => ⟨fun q => absurd q (by decide), fun q => absurd q.1 (Nat.not_lt_zero j)⟩
  refine ⟨⟨z 0 (by decide), by decide⟩, fun q => absurd q (by decide), z 2 (by decide), z 3 (by decide), ⟨0, z 4 (by decide), Nat.le_refl 0, fun k hk => ⟨fun q => by omega, fun q => by have := q.1; omega⟩⟩, ⟨0, z 5 (by decide), Nat.le_refl 0, fun k hk => ⟨fun q => by omega, fun q => by have := q.1; omega⟩⟩,
    ⟨0, z 6 (by decide), Nat.le_refl 0, fun k hk => ⟨fun q => by omega, fun q => by have := q.1; omega⟩⟩, ⟨0, z 7 (by decide), Nat.le_refl 0, fun k => ⟨fun q => ⟨q, fun j hj => by omega⟩, fun q => q.1⟩⟩, ⟨0, z 8 (by decide), Nat.le_refl 0, fun k => ⟨fun q => ⟨q, fun j hj => by omega⟩, fun q => q.1⟩⟩, fun q => absurd q (by decide),
    ⟨fun _ => false, nq _, z 12 (by decide)⟩, ⟨fun _ => false, nq _, z 13 (by decide)⟩, ⟨fun _ => false, nq _, z 14 (by decide)⟩, ⟨fun _ => false, nq _, z 15 (by decide)⟩⟩
theorem zRI_go {F : Nat → Int32} {m : Nat} {y : Nat → Int32} {C W a : Int32} (h : zRI F m y C W) (hm : m < 60) : zRI (r_X1_take F a C W) (m + 1) (zcons a y) C W := by
  obtain ⟨⟨f0, _⟩, f1, f2, f3, ⟨n4, f4, r4⟩, ⟨n5, f5, r5⟩, ⟨n6, f6, r6⟩, ⟨n7, f7, r7⟩, ⟨n8, f8, r8⟩, -, ⟨q2, g2, f12⟩, ⟨q3, g3, f13⟩, ⟨q4, g4, f14⟩, ⟨q5, g5, f15⟩⟩ := h
  obtain ⟨⟨t0, t1, t2, t3⟩, t4, t5, t6, t7, t8, ⟨t9, t10, t11⟩, t12, t13, t14, t15⟩ := take_f F a C W
  have hD : zdd F a = if 0 < m then zdir (y 0) a else 0 := by
    unfold zdd
    rw [f0]
    by_cases h0 : 0 < m
    · rw [if_pos h0, if_neg (nI_ne0 h0 (by omega)), f1 h0]
    · rw [if_neg h0, if_pos (by rw [show m = 0 by omega]; rfl)]
  refine ⟨⟨by rw [t0, f0, nI_succ], by omega⟩, fun _ => t1, ?_, t3, ?_, ?_, ?_, ?_, ?_, fun _ => ⟨t9, t10, t11⟩, ?_, ?_, ?_, ?_⟩
  · rw [t2, hD]
    by_cases h0 : 0 < m
    · rw [if_pos h0, if_pos (by omega)]
      rfl
    · rw [if_neg h0, if_neg (by omega)]
  · rw [t4]
    exact zRu1_go r4 f3 f4
  · rw [t5]
    exact zRu2_go r5 f2 f5 hD
  · rw [t6]
    exact zRu3_go r6 f2 f6 hD
  · have g := zRu4_go (p' := fun j => zsb (zcons a y j) C W 1 = 0) r7 (fun j => Iff.rfl)
    rw [t7]
    by_cases z : zsb a C W 1 = 0
    · exact ⟨n7 + 1, by rw [if_pos z, f7, nI_succ], g.1 z⟩
    · exact ⟨0, by rw [if_neg z]; rfl, g.2 z⟩
  · have g := zRu4_go (p' := fun j => ¬ zsb (zcons a y j) C W 1 = 0) r8 (fun j => Iff.rfl)
    rw [t8]
    by_cases z : zsb a C W 1 = 0
    · exact ⟨0, by rw [if_pos z]; rfl, g.2 (fun q => q z)⟩
    · exact ⟨n8 + 1, by rw [if_neg z, f8, nI_succ], g.1 z⟩
  · refine ⟨zqc (decide (zsb a C W 2 = 1)) q2, zqc_go (P := fun v => zsb v C W 2 = 1) decide_eq_true_iff g2, ?_⟩
    rw [t12, f12, show (if ((if (zsb a C W 2) ≤ 0 then (0 : Int32) else (1 : Int32))) = 0 then (0 : Int32) else 1) = if decide (zsb a C W 2 = 1) = true then 1 else 0 by rcases zsb_c a C W 2 with e | e | e <;> rw [e] <;> decide, zpk_3]
    rfl
  · refine ⟨zqc (decide (zsb a C W 2 = -1)) q3, zqc_go (P := fun v => zsb v C W 2 = -1) decide_eq_true_iff g3, ?_⟩
    rw [t13, f13, show (if ((if 0 ≤ (zsb a C W 2) then (0 : Int32) else (1 : Int32))) = 0 then (0 : Int32) else 1) = if decide (zsb a C W 2 = -1) = true then 1 else 0 by rcases zsb_c a C W 2 with e | e | e <;> rw [e] <;> decide, zpk_3]
    rfl
  · refine ⟨zqc (decide (zsb a C W 1 = 1)) q4, zqc_go (P := fun v => zsb v C W 1 = 1) decide_eq_true_iff g4, ?_⟩
    rw [t14, f14, show (if ((if (zsb a C W 1) ≤ 0 then (0 : Int32) else (1 : Int32))) = 0 then (0 : Int32) else 1) = if decide (zsb a C W 1 = 1) = true then 1 else 0 by rcases zsb_c a C W 1 with e | e | e <;> rw [e] <;> decide, zpk_5]
    rfl
  · refine ⟨zqc (decide (zsb a C W 1 = -1)) q5, zqc_go (P := fun v => zsb v C W 1 = -1) decide_eq_true_iff g5, ?_⟩
    rw [t15, f15, show (if ((if 0 ≤ (zsb a C W 1) then (0 : Int32) else (1 : Int32))) = 0 then (0 : Int32) else 1) = if decide (zsb a C W 1 = -1) = true then 1 else 0 by rcases zsb_c a C W 1 with e | e | e <;> rw [e] <;> decide, zpk_5]
    rfl
theorem zand_of {A B P Q : Prop} (h : A ↔ B) (k : B → (P ↔ Q)) : (A ∧ P) ↔ (B ∧ Q) := ⟨fun q => ⟨h.mp q.1, (k (h.mp q.1)).mp q.2⟩, fun q => ⟨h.mpr q.1, (k q.1).mpr q.2⟩⟩
theorem zct_b {p : Nat → Prop} {n : Nat} {b : Bool} (h : p n ↔ b = true) : zct p (n + 1) = zct p n + (if b = true then 1 else 0) := by
  by_cases e : b = true
  · rw [zct_t (h.mpr e), if_pos e]
  · rw [zct_f (fun q => e (h.mp q)), if_neg e]
    rfl
theorem zct_3 {p : Nat → Prop} {q : Nat → Bool} (h : ∀ i, i < 3 → (p i ↔ q i = true)) : zct p 3 = 0 + (if q 0 = true then 1 else 0) + (if q 1 = true then 1 else 0) + (if q 2 = true then 1 else 0) := by
  rw [zct_b (h 2 (by decide)), zct_b (h 1 (by decide)), zct_b (h 0 (by decide))]
  rfl
theorem zct_5 {p : Nat → Prop} {q : Nat → Bool} (h : ∀ i, i < 5 → (p i ↔ q i = true)) : zct p 5 = 0 + (if q 0 = true then 1 else 0) + (if q 1 = true then 1 else 0) + (if q 2 = true then 1 else 0) + (if q 3 = true then 1 else 0) + (if q 4 = true then 1 else 0) := by
  rw [zct_b (h 4 (by decide)), zct_b (h 3 (by decide)), zct_b (h 2 (by decide)), zct_b (h 1 (by decide)), zct_b (h 0 (by decide))]
  rfl
theorem zct_full {p : Nat → Prop} : ∀ n, zct p n = n ↔ ∀ i, i < n → p i
  | 0 => ⟨fun _ i hi => absurd hi (Nat.not_lt_zero i), fun _ => rfl⟩
  | n + 1 => by
    have ih := zct_full (p := p) n
    have hle := zct_le p n
    by_cases h : p n
    · rw [zct_t h]
      constructor
      · intro q i hi
        by_cases e : i = n
        · rw [e]; exact h
        · exact ih.mp (by omega) i (by omega)
      · intro q
        rw [ih.mpr (fun i hi => q i (by omega))]
    · rw [zct_f h]
      exact ⟨fun q => by omega, fun q => absurd (q n (by omega)) h⟩
theorem zct_zero {p : Nat → Prop} : ∀ n, zct p n = 0 ↔ ∀ i, i < n → ¬ p i
  | 0 => ⟨fun _ i hi => absurd hi (Nat.not_lt_zero i), fun _ => rfl⟩
  | n + 1 => by
    have ih := zct_zero (p := p) n
    by_cases h : p n
    · rw [zct_t h]
      exact ⟨fun q => by omega, fun q => absurd h (q n (by omega))⟩
    · rw [zct_f h, ih]
      constructor
      · intro q i hi
        by_cases e : i = n
        · rw [e]; exact h
        · exact q i (by omega)
      · exact fun q i hi => q i (by omega)
theorem zeq_n {p : Nat → Prop} {v : Int32} {n k : Nat} (hv : v = nI (zct p n)) (hn : n ≤ 60) (hk : k ≤ 60) : v = nI k ↔ zct p n = k := by
  have := zct_le p n
  rw [hv, nI_eq (by omega) (by omega)]
theorem z60 {n k : Nat} (hn : n ≤ 60) (hk : k ≤ 60) : ¬ nI n < nI k ↔ k ≤ n := by
  rw [nI_ltI (by omega) (by omega)]
  omega
theorem zbo_b {P : Prop} [Decidable P] {b : Bool} (r : Int32) (h : ¬ P ↔ b = true) : zbo r (if P then (0 : Int32) else (1 : Int32)) = if b = true then (1 : Int32) <<< (r &&& 31) else 0 := by
  unfold zbo
  by_cases e : P
  · rw [if_pos e, if_pos rfl, if_neg (fun q => h.mpr q e)]
  · rw [if_neg e, if_neg (by decide), if_pos (h.mp e)]
theorem zbo_5 {P : Prop} [Decidable P] {b : Bool} {s u l t : Int32} (r : Int32) (h : (¬ P ∧ ¬ s = 0 ∧ ¬ (if s ≤ 0 then l else u) < t) ↔ b = true) : zbo r (if P then (0 : Int32) else (if ((if s = 0 then (0 : Int32) else (if s ≤ 0 then (if l < t then 0 else 1) else (if u < t then 0 else 1)))) = 0 then (0 : Int32) else (1 : Int32))) = if b = true then (1 : Int32) <<< (r &&& 31) else 0 := by
  unfold zbo
  by_cases e : P
  · rw [if_pos e, if_pos rfl, if_neg (fun q => (h.mpr q).1 e)]
  · rw [if_neg e]
    by_cases e1 : s = 0
    · rw [if_pos e1, if_pos rfl, if_pos rfl, if_neg (fun q => (h.mpr q).2.1 e1)]
    · rw [if_neg e1]
      by_cases e2 : s ≤ 0
      · rw [if_pos e2] at h ⊢
        by_cases e3 : l < t
        · rw [if_pos e3, if_pos rfl, if_pos rfl, if_neg (fun q => (h.mpr q).2.2 e3)]
        · rw [if_neg e3, if_neg (by decide), if_pos (h.mp ⟨e, e1, e3⟩)]
      · rw [if_neg e2] at h ⊢
        by_cases e3 : u < t
        · rw [if_pos e3, if_pos rfl, if_pos rfl, if_neg (fun q => (h.mpr q).2.2 e3)]
        · rw [if_neg e3, if_neg (by decide), if_pos (h.mp ⟨e, e1, e3⟩)]
theorem zRI_rules {F : Nat → Int32} {m : Nat} {y : Nat → Int32} {C W : Int32} (h : zRI F m y C W) (hm : 0 < m) {b : Nat → Bool} (hb : ∀ r, 1 ≤ r → r ≤ 8 → (b r = true ↔ zWb r m y C W)) : v_X1_brokenRules F = zB8 (b 1) (b 2) (b 3) (b 4) (b 5) (b 6) (b 7) (b 8) := by
  obtain ⟨⟨f0, m60⟩, -, -, -, ⟨n4, f4, r4⟩, ⟨n5, f5, r5⟩, ⟨n6, f6, r6⟩, ⟨n7, f7, r7⟩, ⟨n8, f8, r8⟩, f9, ⟨q2, g2, f12⟩, ⟨q3, g3, f13⟩, ⟨q4, g4, f14⟩, ⟨q5, g5, f15⟩⟩ := h
  obtain ⟨e9, e10, e11⟩ := f9 hm
  have l4 := r4.1
  have l5 := r5.1
  have l6 := r6.1
  have l7 := r7.1
  have l8 := r8.1
  have h1 : ¬ F 9 = 0 ↔ b 1 = true := by
    rw [hb 1 (by decide) (by decide), e9]
    exact ⟨fun q => ⟨hm, q⟩, fun q => q.2⟩
  have h2 : ¬ F 4 < 9 ↔ b 2 = true := by
    rw [hb 2 (by decide) (by decide), f4]
    exact (z60 (k := 9) (by omega) (by decide)).trans (r4.2 9 (by decide))
  have h3 : ¬ F 5 < 6 ↔ b 3 = true := by
    rw [hb 3 (by decide) (by decide), f5]
    exact (z60 (k := 6) (by omega) (by decide)).trans (r5.2 6 (by decide))
  have h4 : ¬ F 6 < 14 ↔ b 4 = true := by
    rw [hb 4 (by decide) (by decide), f6]
    exact (z60 (k := 14) (by omega) (by decide)).trans (r6.2 14 (by decide))
  have h5 : (¬ F 0 < 3 ∧ ¬ F 10 = 0 ∧ ¬ (if F 10 ≤ 0 then zbc (F 13) else zbc (F 12)) < 2) ↔ b 5 = true := by
    rw [hb 5 (by decide) (by decide), f0, e10]
    show _ ↔ 3 ≤ m ∧ (zsb (y 0) C W 2 ≠ 0 ∧ 2 ≤ nI (zct (fun i => zsb (y i) C W 2 = zsb (y 0) C W 2) 3))
    refine zand_of (z60 (k := 3) m60 (by decide)) (fun h3 => ?_)
    rcases zsb_c (y 0) C W 2 with e | e | e
    · rw [e]
      exact ⟨fun q => absurd rfl q.1, fun q => absurd rfl q.1⟩
    · rw [e, if_neg (by decide), f12, zct_3 (q := q2) (fun i hi => ⟨fun q => (g2 i).mpr ⟨by omega, q⟩, fun q => ((g2 i).mp q).2⟩)]
      exact and_congr Iff.rfl (zbc_3 _ _ _).symm
    · rw [e, if_pos (by decide), f13, zct_3 (q := q3) (fun i hi => ⟨fun q => (g3 i).mpr ⟨by omega, q⟩, fun q => ((g3 i).mp q).2⟩)]
      exact and_congr Iff.rfl (zbc_3 _ _ _).symm
  have h6 : (¬ F 0 < 5 ∧ ¬ F 11 = 0 ∧ ¬ (if F 11 ≤ 0 then zbc (F 15) else zbc (F 14)) < 4) ↔ b 6 = true := by
    rw [hb 6 (by decide) (by decide), f0, e11]
    show _ ↔ 5 ≤ m ∧ (zsb (y 0) C W 1 ≠ 0 ∧ 4 ≤ nI (zct (fun i => zsb (y i) C W 1 = zsb (y 0) C W 1) 5))
    refine zand_of (z60 (k := 5) m60 (by decide)) (fun h3 => ?_)
    rcases zsb_c (y 0) C W 1 with e | e | e
    · rw [e]
      exact ⟨fun q => absurd rfl q.1, fun q => absurd rfl q.1⟩
    · rw [e, if_neg (by decide), f14, zct_5 (q := q4) (fun i hi => ⟨fun q => (g4 i).mpr ⟨by omega, q⟩, fun q => ((g4 i).mp q).2⟩)]
      exact and_congr Iff.rfl (zbc_5 _ _ _ _ _).symm
    · rw [e, if_pos (by decide), f15, zct_5 (q := q5) (fun i hi => ⟨fun q => (g5 i).mpr ⟨by omega, q⟩, fun q => ((g5 i).mp q).2⟩)]
      exact and_congr Iff.rfl (zbc_5 _ _ _ _ _).symm
  have h7 : ¬ F 7 < 15 ↔ b 7 = true := by
    rw [hb 7 (by decide) (by decide), f7]
    refine ((z60 (k := 15) (by omega) (by decide)).trans (r7.2 15)).trans ?_
    show _ ↔ 15 ≤ m ∧ nI (zct (fun i => ¬ zsb (y i) C W 1 = 0) 15) = 0
    exact and_congr Iff.rfl (Iff.trans ⟨fun q i hi z => z (q i hi), fun q i hi => Decidable.not_not.mp (q i hi)⟩ (Iff.trans (zct_zero 15).symm (zeq_n (k := 0) rfl (by decide) (by decide)).symm))
  have h8 : ¬ F 8 < 8 ↔ b 8 = true := by
    rw [hb 8 (by decide) (by decide), f8]
    refine ((z60 (k := 8) (by omega) (by decide)).trans (r8.2 8)).trans ?_
    show _ ↔ 8 ≤ m ∧ nI (zct (fun i => ¬ zsb (y i) C W 1 = 0) 8) = 8
    exact and_congr Iff.rfl (Iff.trans (zct_full 8).symm (zeq_n (k := 8) rfl (by decide) (by decide)).symm)
  unfold v_X1_brokenRules zB8
  rw [zbo_b 1 h1, zbo_b 2 h2, zbo_b 3 h3, zbo_b 4 h4, zbo_5 5 h5, zbo_5 6 h6, zbo_b 7 h7, zbo_b 8 h8, Int32.zero_or]
  rfl
