/-! LIMITS, on both sides -/
theorem zrd_eq {x y : Int64} (hy : 0 < y.toInt) (hy2 : y.toInt < 1152921504606846976) (h1 : -1152921504606846976 < x.toInt) (h2 : x.toInt < 1152921504606846976) : (zrd x y).toInt = (2 * x.toInt + y.toInt) / (2 * y.toInt) ∧ 0 < (2 * y).toInt := by
  have t2 : (2 : Int64).toInt = 2 := rfl
  have ey : (2 * y).toInt = 2 * y.toInt := by rw [z64m (by rw [t2]; omega) (by rw [t2]; omega), t2]
  have ex : (2 * x).toInt = 2 * x.toInt := by rw [z64m (by rw [t2]; omega) (by rw [t2]; omega), t2]
  have es : (2 * x + y).toInt = 2 * x.toInt + y.toInt := by rw [z64a (by rw [ex]; omega) (by rw [ex]; omega), ex]
  have hp : 0 < (2 * y).toInt := by omega
  refine ⟨?_, hp⟩
  unfold zrd
  rw [zfl_eq hp, es, ey]
theorem zrd_bd {x y : Int64} {L U : Int} (hy : 0 < y.toInt) (hy2 : y.toInt < 1152921504606846976) (h1 : -1152921504606846976 < x.toInt) (h2 : x.toInt < 1152921504606846976) (hL : L * y.toInt ≤ x.toInt) (hU : x.toInt ≤ U * y.toInt) : L ≤ (zrd x y).toInt ∧ (zrd x y).toInt ≤ U := by
  rw [(zrd_eq hy hy2 h1 h2).1]
  have e1 : L * (2 * y.toInt) = 2 * (L * y.toInt) := Int.mul_left_comm L 2 y.toInt
  have e2 : U * (2 * y.toInt) = 2 * (U * y.toInt) := Int.mul_left_comm U 2 y.toInt
  constructor
  · rw [Int.le_ediv_iff_mul_le (by omega), e1]
    omega
  · rw [Int.ediv_le_iff_le_mul (by omega), e2]
    omega
theorem z_rt {z : Int64} (h1 : -2147483648 ≤ z.toInt) (h2 : z.toInt < 2147483648) : Int32.toInt64 (Int64.toInt32 z) = z := by
  refine Int64.toInt_inj.mp ?_
  rw [Int32.toInt_toInt64, Int64.toInt_toInt32]
  exact Int.bmod_eq_of_le (by omega) (by omega)
theorem z_t32 {z : Int64} (h1 : -2147483648 ≤ z.toInt) (h2 : z.toInt < 2147483648) : (Int64.toInt32 z).toInt = z.toInt := by
  rw [Int64.toInt_toInt32]
  exact Int.bmod_eq_of_le (by omega) (by omega)
theorem settle_off (μ : zM) {k s a : Nat} (h : a ≠ 11 + k) : (m_X0_settle μ k s).1 a = μ.1 a := by
  unfold m_X0_settle
  split
  · split
    · rfl
    · rw [zu_off _ _ _ _ h, zu_off _ _ _ _ h, zu_off _ _ _ _ h, zu_off _ _ _ _ h]
  · rfl
theorem settle_low (μ : zM) {k s b : Nat} (h : b < 5) : (m_X0_settle μ k s).1 (11 + k) b = μ.1 (11 + k) b := by
  unfold m_X0_settle
  split
  · split
    · rfl
    · rw [zu_ne _ (by omega), zu_ne _ (by omega), zu_ne _ (by omega), zu_ne _ (by omega)]
  · rfl
theorem settle_2 (μ : zM) (k s : Nat) : (m_X0_settle μ k s).2 = μ.2 := by
  unfold m_X0_settle
  split
  · split <;> rfl
  · rfl
def zlims (μ : zM) (ph : Nat → Nat) (d s k : Nat) : Prop := μ.1 (11 + k) 5 = zLC μ ph k d s ∧ μ.1 (11 + k) 6 = zLR μ ph k d ∧ μ.1 (11 + k) 7 = zWd s 0 (zLR μ ph k d) ∧ μ.1 (11 + k) 8 = zWd s 1 (zLR μ ph k d)
/-- the rows' bounds -/
def zVb (μ : zM) (s d : Nat) : Prop := ∀ i, i < d → (-(9999 * ((s : Int) + 2)) ≤ (μ.1 22 i).toInt ∧ (μ.1 22 i).toInt ≤ 9999 * ((s : Int) + 2)) ∧ (0 ≤ (μ.1 23 i).toInt ∧ (μ.1 23 i).toInt ≤ 19998)
theorem z1000 {z : Int64} (h1 : -1000000000000 ≤ z.toInt) (h2 : z.toInt ≤ 1000000000000) : (1000 * z).toInt = 1000 * z.toInt := by
  have t : (1000 : Int64).toInt = 1000 := rfl
  rw [z64m (by rw [t]; omega) (by rw [t]; omega), t]
theorem zP_toInt {P : Nat} (h : P ≤ 60) : (Int32.toInt64 (nI P)).toInt = (P : Int) := by rw [Int32.toInt_toInt64, nI_toInt (by omega)]
theorem zSP_toInt {s P : Nat} (hs : s < 5) (h : P ≤ 60) : (Int32.toInt64 (nI (s + 2)) * Int32.toInt64 (nI P)).toInt = ((s : Int) + 2) * (P : Int) := by
  have e1 : (Int32.toInt64 (nI (s + 2))).toInt = (s : Int) + 2 := by rw [Int32.toInt_toInt64, nI_toInt (by omega)]; omega
  have e2 := zP_toInt h
  have hb : 0 ≤ ((s : Int) + 2) * (P : Int) ∧ ((s : Int) + 2) * (P : Int) ≤ 360 := by
    have : s = 0 ∨ s = 1 ∨ s = 2 ∨ s = 3 ∨ s = 4 := by omega
    rcases this with e | e | e | e | e <;> subst e <;> omega
  rw [z64m (by rw [e1, e2]; omega) (by rw [e1, e2]; omega), e1, e2]
/-- the mean of the points' means, of their ranges: the same, and within bounds -/
theorem zLp_eq {μ : zM} {ph : Nat → Nat} {d s k : Nat} {a b : Int32} (hd : d ≤ 60) (hs5 : s < 5) (hv : zVb μ s d) (hp : 0 < zpc ph (μ.1 24) k d) (ha : a.toInt = zSm (μ.1 22) ph (μ.1 24) k d) (hb : b.toInt = zSm (μ.1 23) ph (μ.1 24) k d) :
    Int64.toInt32 (zrd (1000 * Int32.toInt64 a) (Int32.toInt64 (nI (s + 2)) * Int32.toInt64 (nI (zpc ph (μ.1 24) k d)))) = zLCp μ ph k d s ∧ Int64.toInt32 (zrd (1000 * Int32.toInt64 b) (Int32.toInt64 (nI (zpc ph (μ.1 24) k d)))) = zLRp μ ph k d ∧
    (-9999000 ≤ (zLCp μ ph k d s).toInt ∧ (zLCp μ ph k d s).toInt ≤ 9999000) ∧ (0 ≤ (zLRp μ ph k d).toInt ∧ (zLRp μ ph k d).toInt ≤ 19998000) ∧ zrd (1000 * Int32.toInt64 b) (Int32.toInt64 (nI (zpc ph (μ.1 24) k d))) = Int32.toInt64 (zLRp μ ph k d) := by
  have hle := zpc_le ph (μ.1 24) k d
  have ea : Int32.toInt64 a = zsa (zSF μ ph k d 22) (zpc ph (μ.1 24) k d) := Int64.toInt_inj.mp (by rw [Int32.toInt_toInt64, ha]; exact (zsa_eq (μ.1 22) ph (μ.1 24) k d hd).symm)
  have eb : Int32.toInt64 b = zsa (zSF μ ph k d 23) (zpc ph (μ.1 24) k d) := Int64.toInt_inj.mp (by rw [Int32.toInt_toInt64, hb]; exact (zsa_eq (μ.1 23) ph (μ.1 24) k d hd).symm)
  have b1 := zSm_bd (v := μ.1 22) (ph := ph) (rs := μ.1 24) (t := k) d (fun i hi => (hv i hi).1)
  have b2 := zSm_bd (v := μ.1 23) (ph := ph) (rs := μ.1 24) (t := k) d (fun i hi => (hv i hi).2)
  have hsp := zSP_toInt (P := zpc ph (μ.1 24) k d) hs5 (by omega)
  have hpp := zP_toInt (P := zpc ph (μ.1 24) k d) (by omega)
  obtain ⟨P, eP⟩ : ∃ P, P = zpc ph (μ.1 24) k d := ⟨_, rfl⟩
  have ta : (Int32.toInt64 a).toInt = zSm (μ.1 22) ph (μ.1 24) k d := by rw [Int32.toInt_toInt64, ha]
  have tb : (Int32.toInt64 b).toInt = zSm (μ.1 23) ph (μ.1 24) k d := by rw [Int32.toInt_toInt64, hb]
  have hc : (0 < ((s : Int) + 2) * (P : Int) ∧ ((s : Int) + 2) * (P : Int) ≤ 360) ∧ -9999000 * (((s : Int) + 2) * (P : Int)) ≤ 1000 * zSm (μ.1 22) ph (μ.1 24) k d ∧ 1000 * zSm (μ.1 22) ph (μ.1 24) k d ≤ 9999000 * (((s : Int) + 2) * (P : Int)) := by
    rw [← eP] at b1 hp hle
    have : s = 0 ∨ s = 1 ∨ s = 2 ∨ s = 3 ∨ s = 4 := by omega
    rcases this with e | e | e | e | e <;> subst e <;> omega
  rw [← eP] at b1 b2 hp hle hsp hpp
  have xa : (1000 * Int32.toInt64 a).toInt = 1000 * zSm (μ.1 22) ph (μ.1 24) k d := by rw [z1000 (by rw [ta]; omega) (by rw [ta]; omega), ta]
  have xb : (1000 * Int32.toInt64 b).toInt = 1000 * zSm (μ.1 23) ph (μ.1 24) k d := by rw [z1000 (by rw [tb]; omega) (by rw [tb]; omega), tb]
  have q1 := zrd_bd (x := 1000 * Int32.toInt64 a) (y := Int32.toInt64 (nI (s + 2)) * Int32.toInt64 (nI P)) (L := -9999000) (U := 9999000) (by rw [hsp]; omega) (by rw [hsp]; omega) (by rw [xa]; omega) (by rw [xa]; omega) (by rw [xa, hsp]; omega) (by rw [xa, hsp]; omega)
  have q2 := zrd_bd (x := 1000 * Int32.toInt64 b) (y := Int32.toInt64 (nI P)) (L := 0) (U := 19998000) (by rw [hpp]; omega) (by rw [hpp]; omega) (by rw [xb]; omega) (by rw [xb]; omega) (by rw [xb, hpp]; omega) (by rw [xb, hpp]; omega)
  have p1 := (zrd_eq (x := 1000 * Int32.toInt64 a) (y := Int32.toInt64 (nI (s + 2)) * Int32.toInt64 (nI P)) (by rw [hsp]; omega) (by rw [hsp]; omega) (by rw [xa]; omega) (by rw [xa]; omega)).2
  have p2 := (zrd_eq (x := 1000 * Int32.toInt64 b) (y := Int32.toInt64 (nI P)) (by rw [hpp]; omega) (by rw [hpp]; omega) (by rw [xb]; omega) (by rw [xb]; omega)).2
  have f1 : Int64.toInt32 (zrd (1000 * Int32.toInt64 a) (Int32.toInt64 (nI (s + 2)) * Int32.toInt64 (nI P))) = zLCp μ ph k d s := by
    rw [zrd_M p1, ea, eP]
    rfl
  have f2 : Int64.toInt32 (zrd (1000 * Int32.toInt64 b) (Int32.toInt64 (nI P))) = zLRp μ ph k d := by
    rw [zrd_M p2, eb, eP]
    rfl
  rw [← eP]
  refine ⟨f1, f2, ?_, ?_, ?_⟩
  · rw [← f1, z_t32 (by omega) (by omega)]
    exact q1
  · rw [← f2, z_t32 (by omega) (by omega)]
    exact q2
  · rw [← f2, z_rt (by omega) (by omega)]
