/-! WHOLE NUMBERS: the two roundings are one -/
theorem z_tcase {X Y : Int} (hY : 0 < Y) : (X.tdiv Y = X / Y ∧ X / Y * Y ≤ X ∧ (0 ≤ X ∨ X / Y * Y = X)) ∨ (X < 0 ∧ X.tdiv Y = X / Y + 1 ∧ X < (X / Y + 1) * Y ∧ (X / Y + 1) * Y ≤ 0) := by
  have h1 : X / Y * Y ≤ X := Int.ediv_mul_le X (by omega)
  have h2 : X < (X / Y + 1) * Y := Int.lt_ediv_add_one_mul_self X hY
  by_cases h : 0 ≤ X ∨ Y ∣ X
  · exact Or.inl ⟨by rw [Int.tdiv_eq_ediv, if_pos h, Int.add_zero], h1, h.imp id Int.ediv_mul_cancel⟩
  · have hX : X < 0 := Int.not_le.mp fun q => h (Or.inl q)
    have h3 : X / Y < 0 := Int.ediv_neg_of_neg_of_pos hX hY
    have h4 := Int.mul_le_mul_of_nonneg_right (a := X / Y + 1) (b := 0) (c := Y) (by omega) (by omega)
    exact Or.inr ⟨hX, by rw [Int.tdiv_eq_ediv, if_neg h, Int.sign_eq_one_of_pos hY], h2, by rw [Int.zero_mul] at h4; exact h4⟩
theorem z_edge {X Y : Int} (hY : 0 < Y) (hX : X < 0) : X ≤ X / Y := by
  refine Int.le_ediv_of_mul_le hY ?_
  have h := Int.mul_le_mul_of_nonpos_left (a := X) (b := Y) (c := 1) (by omega) (by omega)
  rw [Int.mul_one] at h
  exact h
theorem z64r (x : Int64) : -9223372036854775808 ≤ x.toInt ∧ x.toInt < 9223372036854775808 := ⟨Int64.le_toInt x, Int64.toInt_lt x⟩
theorem z32r (x : Int32) : -2147483648 ≤ x.toInt ∧ x.toInt < 2147483648 := ⟨Int32.le_toInt x, Int32.toInt_lt x⟩
theorem z_div64 {x y : Int64} (hy : 0 < y.toInt) : (x / y).toInt = x.toInt.tdiv y.toInt := Int64.toInt_div_of_ne_right x y (fun e => by rw [e] at hy; exact absurd hy (by decide))
theorem z_div32 {x y : Int32} (hy : 0 < y.toInt) : (x / y).toInt = x.toInt.tdiv y.toInt := Int32.toInt_div_of_ne_right x y (fun e => by rw [e] at hy; exact absurd hy (by decide))
theorem z_mul64 {x y : Int64} (hy : 0 < y.toInt) : (x / y * y).toInt = x.toInt.tdiv y.toInt * y.toInt := by
  have hx := z64r x
  rw [← z_div64 hy]
  rcases z_tcase (X := x.toInt) hy with ⟨e, h1, h2⟩ | ⟨h0, e, h1, h2⟩
  · refine z64m ?_ ?_ <;> rw [z_div64 hy, e]
    · rcases h2 with h | h
      · have := Int.mul_nonneg (Int.ediv_nonneg h (Int.le_of_lt hy)) (Int.le_of_lt hy)
        omega
      · omega
    · omega
  · refine z64m ?_ ?_ <;> rw [z_div64 hy, e] <;> omega
theorem z_mul32 {x y : Int32} (hy : 0 < y.toInt) : (x / y * y).toInt = x.toInt.tdiv y.toInt * y.toInt := by
  have hx := z32r x
  rw [← z_div32 hy]
  rcases z_tcase (X := x.toInt) hy with ⟨e, h1, h2⟩ | ⟨h0, e, h1, h2⟩
  · refine z32m ?_ ?_ <;> rw [z_div32 hy, e]
    · rcases h2 with h | h
      · have := Int.mul_nonneg (Int.ediv_nonneg h (Int.le_of_lt hy)) (Int.le_of_lt hy)
        omega
      · omega
    · omega
  · refine z32m ?_ ?_ <;> rw [z_div32 hy, e] <;> omega
theorem z_pre64 {x y : Int64} (hy : 0 < y.toInt) (h : x.toInt.tdiv y.toInt = x.toInt / y.toInt + 1) (h0 : x.toInt < 0) : (x / y - 1).toInt = x.toInt / y.toInt := by
  have hx := z64r x
  have hq := z64r (x / y)
  have h5 := z_edge hy h0
  have e : (x / y).toInt = x.toInt / y.toInt + 1 := (z_div64 hy).trans h
  have h1 : (1 : Int64).toInt = 1 := rfl
  rw [z64s (by rw [h1]; omega) (by rw [h1]; omega), h1]
  omega
theorem z_pre32 {x y : Int32} (hy : 0 < y.toInt) (h : x.toInt.tdiv y.toInt = x.toInt / y.toInt + 1) (h0 : x.toInt < 0) : (x / y - 1).toInt = x.toInt / y.toInt := by
  have hx := z32r x
  have hq := z32r (x / y)
  have h5 := z_edge hy h0
  have e : (x / y).toInt = x.toInt / y.toInt + 1 := (z_div32 hy).trans h
  have h1 : (1 : Int32).toInt = 1 := rfl
  rw [z32s (by rw [h1]; omega) (by rw [h1]; omega), h1]
  omega
theorem zflM_eq {x y : Int64} (hy : 0 < y.toInt) : (zflM x y).toInt = x.toInt / y.toInt := by
  have hm := z_mul64 (x := x) hy
  unfold zflM
  rcases z_tcase (X := x.toInt) hy with ⟨e, h1, h2⟩ | ⟨h0, e, h1, h2⟩
  · rw [if_pos ((lg_cmp_le _ _).mpr (by rw [Int64.le_iff_toInt_le, hm, e]; exact h1)), z_div64 hy, e]
  · rw [if_neg (fun q => by
      have q2 := (lg_cmp_le _ _).mp q
      rw [Int64.le_iff_toInt_le, hm, e] at q2
      omega), z_pre64 hy e h0]
theorem z_xor64 {x y : Int64} (hy : 0 < y.toInt) : 0 ≤ (x ^^^ y) ↔ 0 ≤ x.toInt := by
  rw [Int64.le_iff_toInt_le, show (0 : Int64).toInt = 0 from rfl]
  have h1 : (x ^^^ y).toBitVec.msb = (x.toBitVec.msb ^^ y.toBitVec.msb) := BitVec.msb_xor
  rw [BitVec.msb_eq_toInt, BitVec.msb_eq_toInt, BitVec.msb_eq_toInt] at h1
  have e1 : decide (y.toBitVec.toInt < 0) = false := decide_eq_false (by show ¬ y.toInt < 0; omega)
  rw [e1, Bool.xor_false] at h1
  have h2 : ((x ^^^ y).toInt < 0) ↔ x.toInt < 0 := by
    constructor
    · intro h
      exact of_decide_eq_true (h1 ▸ decide_eq_true h)
    · intro h
      exact of_decide_eq_true (h1.symm ▸ decide_eq_true h)
  omega
theorem z_xor32 {x y : Int32} (hy : 0 < y.toInt) : 0 ≤ (x ^^^ y) ↔ 0 ≤ x.toInt := by
  rw [Int32.le_iff_toInt_le, show (0 : Int32).toInt = 0 from rfl]
  have h1 : (x ^^^ y).toBitVec.msb = (x.toBitVec.msb ^^ y.toBitVec.msb) := BitVec.msb_xor
  rw [BitVec.msb_eq_toInt, BitVec.msb_eq_toInt, BitVec.msb_eq_toInt] at h1
  have e1 : decide (y.toBitVec.toInt < 0) = false := decide_eq_false (by show ¬ y.toInt < 0; omega)
  rw [e1, Bool.xor_false] at h1
  have h2 : ((x ^^^ y).toInt < 0) ↔ x.toInt < 0 := by
    constructor
    · intro h
      exact of_decide_eq_true (h1 ▸ decide_eq_true h)
    · intro h
      exact of_decide_eq_true (h1.symm ▸ decide_eq_true h)
  omega
theorem zfdL_eq {x y : Int64} (hy : 0 < y.toInt) : (zfdL x y).toInt = x.toInt / y.toInt := by
  have hm := z_mul64 (x := x) hy
  unfold zfdL
  rcases z_tcase (X := x.toInt) hy with ⟨e, h1, h2⟩ | ⟨h0, e, h1, h2⟩
  · by_cases h : 0 ≤ x.toInt
    · rw [if_pos ((lg_cmp_ge _ _).mpr ((z_xor64 hy).mpr h)), z_div64 hy, e]
    · rw [if_neg (fun q => h ((z_xor64 hy).mp ((lg_cmp_ge _ _).mp q))), if_pos ((lg_cmp_eq _ _).mpr (Int64.toInt_inj.mp (by rw [hm, e]; exact h2.elim (fun q => absurd q h) id))), z_div64 hy, e]
  · rw [if_neg (fun q => absurd ((z_xor64 hy).mp ((lg_cmp_ge _ _).mp q)) (by omega)), if_neg (fun q => by
      have q2 := congrArg Int64.toInt ((lg_cmp_eq _ _).mp q)
      rw [hm, e] at q2
      omega), z_pre64 hy e h0]
theorem zfd_eq {x y : Int32} (hy : 0 < y.toInt) : (zfd x y).toInt = x.toInt / y.toInt := by
  have hm := z_mul32 (x := x) hy
  unfold zfd
  rcases z_tcase (X := x.toInt) hy with ⟨e, h1, h2⟩ | ⟨h0, e, h1, h2⟩
  · by_cases h : 0 ≤ x.toInt
    · rw [if_pos ((z_xor32 hy).mpr h), z_div32 hy, e]
    · rw [if_neg (fun q => h ((z_xor32 hy).mp q)), if_pos (Int32.toInt_inj.mp (by rw [hm, e]; exact h2.elim (fun q => absurd q h) id)), z_div32 hy, e]
  · rw [if_neg (fun q => absurd ((z_xor32 hy).mp q) (by omega)), if_neg (fun q => by
      have q2 := congrArg Int32.toInt q
      rw [hm, e] at q2
      omega), z_pre32 hy e h0]
theorem zfl_eq {x y : Int64} (hy : 0 < y.toInt) : (zfl x y).toInt = x.toInt / y.toInt := by
  unfold zfl
  rw [if_neg (fun q => by
    have q2 := (lg_cmp_le _ _).mp q
    rw [Int64.le_iff_toInt_le, show (0 : Int64).toInt = 0 from rfl] at q2
    omega), zfdL_eq hy]
theorem zfl_M {x y : Int64} (hy : 0 < y.toInt) : zfl x y = zflM x y := Int64.toInt_inj.mp ((zfl_eq hy).trans (zflM_eq hy).symm)
theorem zrd_M {x y : Int64} (hy : 0 < (2 * y).toInt) : Int64.toInt32 (zrd x y) = zrdM x y := by
  unfold zrd zrdM
  rw [zfl_M hy]
