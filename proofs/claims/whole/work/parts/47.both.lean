/-! THE RULES of both sides: by the last points (zWb), and the reference's (zbr) -/
def zBd (x : Int32) : Prop := -9999000 ≤ x.toInt ∧ x.toInt ≤ 9999000
def zBw (x : Int32) : Prop := 0 ≤ x.toInt ∧ x.toInt ≤ 65333466
theorem zdf {x c : Int32} (hx : zBd x) (hc : zBd c) : (x - c).toInt = x.toInt - c.toInt := by
  obtain ⟨x1, x2⟩ := hx
  obtain ⟨c1, c2⟩ := hc
  exact z32s (by omega) (by omega)
theorem z3df {x c : Int32} (hx : zBd x) (hc : zBd c) : (3 * (x - c)).toInt = 3 * (x.toInt - c.toInt) := by
  have e := zdf hx hc
  obtain ⟨x1, x2⟩ := hx
  obtain ⟨c1, c2⟩ := hc
  have t : (3 : Int32).toInt = 3 := rfl
  rw [z32m (by rw [t, e]; omega) (by rw [t, e]; omega), t, e]
def zTh (t : Int32) : Prop := t = 1 ∨ t = 2 ∨ t = 3
theorem zmw {t w : Int32} (ht : zTh t) (hw : zBw w) : (t * w).toInt = t.toInt * w.toInt ∧ 0 ≤ t.toInt * w.toInt ∧ (Int32.toInt64 t * Int32.toInt64 w).toInt = t.toInt * w.toInt := by
  obtain ⟨w1, w2⟩ := hw
  have t1 : (1 : Int32).toInt = 1 := rfl
  have t2 : (2 : Int32).toInt = 2 := rfl
  have t3 : (3 : Int32).toInt = 3 := rfl
  rcases ht with rfl | rfl | rfl
  · exact ⟨z32m (by rw [t1]; omega) (by rw [t1]; omega), by rw [t1]; omega, by rw [z64m (by rw [Int32.toInt_toInt64, Int32.toInt_toInt64, t1]; omega) (by rw [Int32.toInt_toInt64, Int32.toInt_toInt64, t1]; omega), Int32.toInt_toInt64, Int32.toInt_toInt64]⟩
  · exact ⟨z32m (by rw [t2]; omega) (by rw [t2]; omega), by rw [t2]; omega, by rw [z64m (by rw [Int32.toInt_toInt64, Int32.toInt_toInt64, t2]; omega) (by rw [Int32.toInt_toInt64, Int32.toInt_toInt64, t2]; omega), Int32.toInt_toInt64, Int32.toInt_toInt64]⟩
  · exact ⟨z32m (by rw [t3]; omega) (by rw [t3]; omega), by rw [t3]; omega, by rw [z64m (by rw [Int32.toInt_toInt64, Int32.toInt_toInt64, t3]; omega) (by rw [Int32.toInt_toInt64, Int32.toInt_toInt64, t3]; omega), Int32.toInt_toInt64, Int32.toInt_toInt64]⟩
theorem zsb_1 {x c w t : Int32} (hx : zBd x) (hc : zBd c) (hw : zBw w) (ht : zTh t) : zsb x c w t = 1 ↔ t.toInt * w.toInt < 3 * (x.toInt - c.toInt) := by
  unfold zsb
  have e1 : 3 * (x - c) ≤ t * w ↔ 3 * (x.toInt - c.toInt) ≤ t.toInt * w.toInt := by rw [Int32.le_iff_toInt_le, z3df hx hc, (zmw ht hw).1]
  by_cases h : 3 * (x - c) ≤ t * w
  · rw [if_pos h]
    have h' := e1.mp h
    refine ⟨fun q => ?_, fun q => by omega⟩
    by_cases h2 : 3 * (c - x) ≤ t * w
    · rw [if_pos h2] at q; exact absurd q (by decide)
    · rw [if_neg h2] at q; exact absurd q (by decide)
  · rw [if_neg h]
    exact ⟨fun _ => Int.not_le.mp fun q => h (e1.mpr q), fun _ => rfl⟩
theorem zsb_m {x c w t : Int32} (hx : zBd x) (hc : zBd c) (hw : zBw w) (ht : zTh t) : zsb x c w t = -1 ↔ t.toInt * w.toInt < 3 * (c.toInt - x.toInt) := by
  unfold zsb
  have e0 := (zmw ht hw).2.1
  have e1 : 3 * (x - c) ≤ t * w ↔ 3 * (x.toInt - c.toInt) ≤ t.toInt * w.toInt := by rw [Int32.le_iff_toInt_le, z3df hx hc, (zmw ht hw).1]
  have e2 : 3 * (c - x) ≤ t * w ↔ 3 * (c.toInt - x.toInt) ≤ t.toInt * w.toInt := by rw [Int32.le_iff_toInt_le, z3df hc hx, (zmw ht hw).1]
  by_cases h : 3 * (x - c) ≤ t * w
  · rw [if_pos h]
    by_cases h2 : 3 * (c - x) ≤ t * w
    · rw [if_pos h2]
      have h2' := e2.mp h2
      exact ⟨fun q => absurd q (by decide), fun q => by omega⟩
    · rw [if_neg h2]
      exact ⟨fun _ => Int.not_le.mp fun q => h2 (e2.mpr q), fun _ => rfl⟩
  · rw [if_neg h]
    have h' : ¬ 3 * (x.toInt - c.toInt) ≤ t.toInt * w.toInt := fun q => h (e1.mpr q)
    exact ⟨fun q => absurd q (by decide), fun q => by omega⟩
def zSd (s : Int32) : Prop := s = 1 ∨ s = -1
theorem zby {x c w t s : Int32} (hx : zBd x) (hc : zBd c) (hw : zBw w) (ht : zTh t) (hs : zSd s) : v_X4_isBeyond x c w t s = if zsb x c w t = s then 1 else 0 := by
  have ed := zdf hx hc
  obtain ⟨m1, m2, m3⟩ := zmw ht hw
  have a1 := zsb_1 hx hc hw ht
  have a2 := zsb_m hx hc hw ht
  obtain ⟨x1, x2⟩ := hx
  obtain ⟨c1, c2⟩ := hc
  have t3 : (3 : Int64).toInt = 3 := rfl
  have t1 : (Int32.toInt64 1).toInt = 1 := rfl
  have tm : (Int32.toInt64 (-1)).toInt = -1 := rfl
  have q3 : (3 * Int32.toInt64 (x - c)).toInt = 3 * (x.toInt - c.toInt) := by
    rw [z64m (by rw [Int32.toInt_toInt64, t3, ed]; omega) (by rw [Int32.toInt_toInt64, t3, ed]; omega), Int32.toInt_toInt64, t3, ed]
  unfold v_X4_isBeyond
  rcases hs with rfl | rfl
  · have q4 : (3 * Int32.toInt64 (x - c) * Int32.toInt64 1).toInt = 3 * (x.toInt - c.toInt) := by
      rw [z64m (by rw [q3, t1]; omega) (by rw [q3, t1]; omega), q3, t1, Int.mul_one]
    by_cases h : zsb x c w t = 1
    · rw [if_pos h, if_neg]
      intro q
      have q5 := (lg_cmp_le _ _).mp q
      rw [Int64.le_iff_toInt_le, q4, m3] at q5
      have := a1.mp h
      omega
    · rw [if_neg h, if_pos]
      refine (lg_cmp_le _ _).mpr ?_
      rw [Int64.le_iff_toInt_le, q4, m3]
      exact Int.not_lt.mp fun z => h (a1.mpr z)
  · have q4 : (3 * Int32.toInt64 (x - c) * Int32.toInt64 (-1)).toInt = 3 * (c.toInt - x.toInt) := by
      rw [z64m (by rw [q3, tm]; omega) (by rw [q3, tm]; omega), q3, tm]
      omega
    by_cases h : zsb x c w t = -1
    · rw [if_pos h, if_neg]
      intro q
      have q5 := (lg_cmp_le _ _).mp q
      rw [Int64.le_iff_toInt_le, q4, m3] at q5
      have := a2.mp h
      omega
    · rw [if_neg h, if_pos]
      refine (lg_cmp_le _ _).mpr ?_
      rw [Int64.le_iff_toInt_le, q4, m3]
      exact Int.not_lt.mp fun z => h (a2.mpr z)
theorem zdsd {a b s : Int32} (ha : zBd a) (hb : zBd b) (hs : zSd s) : (a - b) * s ≤ 0 ↔ ¬ zdir b a = s := by
  have ed := zdf ha hb
  obtain ⟨a1, a2⟩ := ha
  obtain ⟨b1, b2⟩ := hb
  have t1 : (1 : Int32).toInt = 1 := rfl
  have tm : (-1 : Int32).toInt = -1 := rfl
  have t0 : (0 : Int32).toInt = 0 := rfl
  rcases hs with rfl | rfl
  · rw [zdir_1, Int32.le_iff_toInt_le, Int32.lt_iff_toInt_lt, z32m (by rw [ed, t1]; omega) (by rw [ed, t1]; omega), ed, t1, t0]
    omega
  · rw [zdir_m, Int32.le_iff_toInt_le, Int32.lt_iff_toInt_lt, z32m (by rw [ed, tm]; omega) (by rw [ed, tm]; omega), ed, tm, t0]
    omega
theorem zcn_s {P : Prop} [Decidable P] {p : Nat → Prop} {n : Nat} {v : Int32} (e : v = nI (zct p n)) (h : P ↔ ¬ p n) : v + (if P then (0 : Int32) else (1 : Int32)) = nI (zct p (n + 1)) := by
  by_cases k : P
  · rw [if_pos k, zct_f (h.mp k), e]
    exact Int32.add_zero _
  · rw [if_neg k, zct_t (Classical.not_not.mp fun q => k (h.mpr q)), e, nI_succ]
theorem zbN_c {y : Nat → Int32} {C W t s : Int32} (hc : zBd C) (hw : zBw W) (ht : zTh t) (hs : zSd s) : ∀ n, (∀ j, j < n → zBd (y j)) → zbN y C W t s n = nI (zct (fun i => zsb (y i) C W t = s) n)
  | 0, _ => rfl
  | n + 1, h => by
    show zbN y C W t s n + _ = _
    refine zcn_s (zbN_c hc hw ht hs n (fun j hj => h j (by omega))) ?_
    rw [zby (h n (by omega)) hc hw ht hs]
    by_cases e : zsb (y n) C W t = s
    · rw [if_pos e]
      exact ⟨fun q => absurd q (by decide), fun q => absurd e q⟩
    · rw [if_neg e]
      exact ⟨fun _ => e, fun _ => rfl⟩
theorem zab_c {y : Nat → Int32} {C s : Int32} (hc : zBd C) (hs : zSd s) : ∀ n, (∀ j, j < n → zBd (y j)) → zab y C s n = nI (zct (fun i => zdir C (y i) = s) n)
  | 0, _ => rfl
  | n + 1, h => by
    show zab y C s n + _ = _
    exact zcn_s (zab_c hc hs n (fun j hj => h j (by omega))) (zdsd (h n (by omega)) hc hs)
theorem zst_c {y : Nat → Int32} {s : Int32} (hs : zSd s) : ∀ n, (∀ j, j < n + 1 → zBd (y j)) → zst y s n = nI (zct (fun i => zdir (y (i + 1)) (y i) = s) n)
  | 0, _ => rfl
  | n + 1, h => by
    show zst y s n + _ = _
    exact zcn_s (zst_c hs n (fun j hj => h j (by omega))) (zdsd (h n (by omega)) (h (n + 1) (by omega)) hs)
theorem zt_and {P : Prop} [Decidable P] {v : Int32} {A : Prop} (e : v = 0 ∨ v = 1) (h : v = 1 ↔ A) : (v &&& (if P then (1 : Int32) else (0 : Int32)) = 0 ∨ v &&& (if P then (1 : Int32) else (0 : Int32)) = 1) ∧ (v &&& (if P then (1 : Int32) else (0 : Int32)) = 1 ↔ A ∧ P) := by
  by_cases k : P
  · rw [if_pos k]
    rcases e with rfl | rfl
    · exact ⟨Or.inl rfl, fun q => absurd q (by decide), fun q => absurd (h.mpr q.1) (by decide)⟩
    · exact ⟨Or.inr rfl, fun _ => ⟨h.mp rfl, k⟩, fun _ => rfl⟩
  · rw [if_neg k]
    rcases e with rfl | rfl
    · exact ⟨Or.inl rfl, fun q => absurd q (by decide), fun q => absurd q.2 k⟩
    · exact ⟨Or.inl rfl, fun q => absurd q (by decide), fun q => absurd q.2 k⟩
theorem zite_n {P : Prop} [Decidable P] : (if P then (0 : Int32) else (1 : Int32)) = if ¬ P then (1 : Int32) else (0 : Int32) := by
  by_cases h : P
  · rw [if_pos h, if_neg (fun q => q h)]
  · rw [if_neg h, if_pos h]
theorem zt1_c (y : Nat → Int32) : ∀ n, (zt1 y n = 0 ∨ zt1 y n = 1) ∧ (zt1 y n = 1 ↔ ∀ i, i < n → y i ≠ y (i + 1))
  | 0 => ⟨Or.inr rfl, fun _ i hi => absurd hi (Nat.not_lt_zero i), fun _ => rfl⟩
  | n + 1 => by
    obtain ⟨a, b⟩ := zt1_c y n
    show (zt1 y n &&& (if y n = y (n + 1) then (0 : Int32) else (1 : Int32)) = 0 ∨ zt1 y n &&& (if y n = y (n + 1) then (0 : Int32) else (1 : Int32)) = 1) ∧ (zt1 y n &&& (if y n = y (n + 1) then (0 : Int32) else (1 : Int32)) = 1 ↔ _)
    rw [zite_n]
    obtain ⟨c, d⟩ := zt_and (P := ¬ y n = y (n + 1)) a b
    refine ⟨c, d.trans ⟨fun q i hi => ?_, fun q => ⟨fun i hi => q i (by omega), q n (by omega)⟩⟩⟩
    by_cases e : i = n
    · rw [e]; exact q.2
    · exact q.1 i (by omega)
theorem zt2_c (y : Nat → Int32) {v : Int32} {A : Prop} (hv : v = 0 ∨ v = 1) (hA : v = 1 ↔ A) : ∀ n, (zt2 y v n = 0 ∨ zt2 y v n = 1) ∧ (zt2 y v n = 1 ↔ A ∧ ∀ i, i < n → (y i < y (i + 1) ↔ y (i + 2) < y (i + 1)))
  | 0 => ⟨hv, hA.trans ⟨fun q => ⟨q, fun i hi => absurd hi (Nat.not_lt_zero i)⟩, fun q => q.1⟩⟩
  | n + 1 => by
    obtain ⟨a, b⟩ := zt2_c y hv hA n
    obtain ⟨c, d⟩ := zt_and (P := (if y (n + 1) ≤ y n then (0 : Int32) else (1 : Int32)) = (if y (n + 1) ≤ y (n + 2) then (0 : Int32) else (1 : Int32))) a b
    refine ⟨c, d.trans ?_⟩
    have e : ((if y (n + 1) ≤ y n then (0 : Int32) else (1 : Int32)) = (if y (n + 1) ≤ y (n + 2) then (0 : Int32) else (1 : Int32))) ↔ (y n < y (n + 1) ↔ y (n + 2) < y (n + 1)) := by
      rw [← Int32.not_le (m := y n), ← Int32.not_le (m := y (n + 2))]
      by_cases h1 : y (n + 1) ≤ y n
      · by_cases h2 : y (n + 1) ≤ y (n + 2)
        · simp [h1, h2]
        · simp [h1, h2]
      · by_cases h2 : y (n + 1) ≤ y (n + 2)
        · simp [h1, h2]
        · simp [h1, h2]
    rw [e]
    constructor
    · intro ⟨⟨q1, q2⟩, q3⟩
      refine ⟨q1, fun i hi => ?_⟩
      by_cases e : i = n
      · rw [e]; exact q3
      · exact q2 i (by omega)
    · intro ⟨q1, q2⟩
      exact ⟨⟨q1, fun i hi => q2 i (by omega)⟩, q2 n (by omega)⟩
