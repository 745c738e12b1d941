/-! THE DRAWN DESK: 48 measurements, and what it refuses -/
theorem z_nI (x : Int32) : x = nI x.toBitVec.toNat := Int32.toBitVec_inj.mp (BitVec.eq_of_toNat_eq (pk_tn x.toBitVec.isLt).symm)
theorem z_ushr (x : Int32) (k : Nat) (s : Int32) (hs : ((s.toUInt32 &&& Int32.toUInt32 31).toBitVec % 32).toNat = k) (hk : 0 < k) : ∃ n : Nat, n < 2 ^ 31 ∧ (x.toUInt32 >>> (s.toUInt32 &&& Int32.toUInt32 31)).toInt32 = nI n := by
  have h := pk_ushr x s k hs
  refine ⟨_, ?_, z_nI _⟩
  rw [h]
  have h1 : x.toBitVec.toNat < 2 ^ 32 := x.toBitVec.isLt
  have h2 : 2 ^ 1 ≤ 2 ^ k := Nat.pow_le_pow_right (by decide) hk
  exact Nat.div_lt_of_lt_mul (Nat.lt_of_lt_of_le h1 (Nat.mul_le_mul_right (2 ^ 31) h2))
theorem z_in100 (n : Nat) : ¬ zme (nI (n % 200) - 100) = 0 := by
  have hr : n % 200 < 200 := Nat.mod_lt _ (by decide)
  have e : (nI (n % 200) - 100).toInt = ((n % 200 : Nat) : Int) - (100 : Nat) := pk_sub_toInt (a := n % 200) (b := 100) (by omega) (by decide)
  have e1 : (-9999 : Int32).toInt = -9999 := rfl
  have e2 : (9999 : Int32).toInt = 9999 := rfl
  unfold zme
  rw [if_neg (by rw [Int32.lt_iff_toInt_lt, e, e1]; omega), if_neg (by rw [Int32.lt_iff_toInt_lt, e, e2]; omega)]
  decide
theorem zu_j (μ : zM) (k j : Nat) (v : Int32) {a b : Nat} (h : b ≠ j) : (zu μ k j v).1 a b = μ.1 a b := by simp [zu, h]
theorem settle_off (μ : zM) {k s a : Nat} (h : a ≠ 11 + k) : (m_X0_settle μ k s).1 a = μ.1 a := by
  unfold m_X0_settle
  split
  · split
    · rfl
    · rw [zu_off _ _ _ _ h, zu_off _ _ _ _ h, zu_off _ _ _ _ h, zu_off _ _ _ _ h]
  · rfl
theorem settle_low (μ : zM) {k s b : Nat} (h : b < 5) : (m_X0_settle μ k s).1 (11 + k) b = μ.1 (11 + k) b := by
  unfold m_X0_settle
  split
  · split
    · rfl
    · rw [zu_j _ _ _ _ (by omega), zu_j _ _ _ _ (by omega), zu_j _ _ _ _ (by omega), zu_j _ _ _ _ (by omega)]
  · rfl
theorem count_off (μ : zM) {i k s t : Nat} {sg : Int32} (h : t ≠ 11 + k) : (m_X3_countPoint μ i k s sg).1 t = μ.1 t := by
  unfold m_X3_countPoint
  rw [settle_off _ h, zu_off _ _ _ _ h, zu_off _ _ _ _ h, zu_off _ _ _ _ h]
theorem count_0 (μ : zM) {i k s : Nat} {sg : Int32} : (m_X3_countPoint μ i k s sg).1 (11 + k) 0 = μ.1 (11 + k) 0 := by
  unfold m_X3_countPoint
  rw [settle_low _ (by decide), zu_j _ _ _ _ (by omega), zu_j _ _ _ _ (by omega), zu_j _ _ _ _ (by omega)]
/-- the memory ahead of the counting -/
def zFn (μ : zM) (d c : Nat) : zM := zu (zu (zu (zu (zu (zu (zu μ 1 d (μ.1 0 3)) 2 d ((μ.1 0 5) - (μ.1 0 4))) 3 d (Int64.toInt32 (zrd (1000 * (Int32.toInt64 (μ.1 0 3))) (Int32.toInt64 (μ.1 0 0))))) 4 d 0) 5 d ((nI c) - 1)) 0 2 0) 0 6 ((nI d) + 1)
theorem zFn_eq (μ : zM) (d s c : Nat) : m_X3_finishSubgroup μ d s c = m_X3_countPoint (zFn μ d c) d (c - 1) s 1 := rfl
theorem zFn_0 (μ : zM) (d c : Nat) : (zFn μ d c).1 0 0 = μ.1 0 0 ∧ (zFn μ d c).1 0 2 = 0 ∧ (zFn μ d c).1 0 6 = nI d + 1 ∧ (zFn μ d c).1 0 12 = μ.1 0 12 := by
  refine ⟨?_, ?_, ?_, ?_⟩ <;> simp [zFn, zu]
theorem zFn_5 (μ : zM) (d c : Nat) : (zFn μ d c).1 5 = upd (μ.1 5) d (nI c - 1) := by
  unfold zFn
  rw [zu_off _ _ _ _ (by decide), zu_off _ _ _ _ (by decide), zu_at, zu_off _ _ _ _ (by decide), zu_off _ _ _ _ (by decide), zu_off _ _ _ _ (by decide), zu_off _ _ _ _ (by decide)]
theorem zFn_ph (μ : zM) (d c k : Nat) : (zFn μ d c).1 (11 + k) = μ.1 (11 + k) := by
  unfold zFn
  rw [zu_off _ _ _ _ (by omega), zu_off _ _ _ _ (by omega), zu_off _ _ _ _ (by omega), zu_off _ _ _ _ (by omega), zu_off _ _ _ _ (by omega), zu_off _ _ _ _ (by omega), zu_off _ _ _ _ (by omega)]
def zP0 : Nat → Nat := fun _ => 0
/-- the one phase of the drawn desk: another subgroup done -/
theorem zV.fin {μ : zM} {s d : Nat} (V : zV μ s d 1 zP0 zP0) (hd : d < 60) : zV (m_X3_finishSubgroup μ d s 1) s (d + 1) 1 zP0 zP0 ∧ (m_X3_finishSubgroup μ d s 1).1 0 2 = 0 := by
  rw [zFn_eq]
  obtain ⟨e0, e2, e6, e12⟩ := zFn_0 μ d 1
  have o0 : (m_X3_countPoint (zFn μ d 1) d (1 - 1) s 1).1 0 = (zFn μ d 1).1 0 := count_off _ (by decide)
  have o5 : (m_X3_countPoint (zFn μ d 1) d (1 - 1) s 1).1 5 = (zFn μ d 1).1 5 := count_off _ (by decide)
  have o11 : (m_X3_countPoint (zFn μ d 1) d (1 - 1) s 1).1 (11 + 0) 0 = (zFn μ d 1).1 (11 + 0) 0 := count_0 _
  refine ⟨⟨?_, ?_, ?_, ?_, ?_, ?_⟩, ?_⟩
  · rw [o0, e0]
    exact V.1
  · rw [o0, e6, nI_1]
    exact ⟨rfl, hd⟩
  · rw [o0, e12]
    exact V.2.2.1
  · intro i hi
    rw [o5, zFn_5]
    refine ⟨?_, (by decide : 0 < 1)⟩
    by_cases q : i = d
    · rw [q, pk_us]
      exact nI_pred 0
    · rw [pk_un q]
      exact (V.hph i (by omega)).1
  · intro k hk
    obtain rfl : k = 0 := by omega
    rw [o11, zFn_ph]
    exact V.hfs 0 hk
  · intro i hi
    exact Nat.zero_le i
  · rw [o0, e2]
theorem z_step : ∀ s, s < 5 → ∀ k, k < 48 → (k % (s + 2) + 1 = s + 2 → (k + 1) / (s + 2) = k / (s + 2) + 1 ∧ (k + 1) % (s + 2) = 0) ∧ (¬ k % (s + 2) + 1 = s + 2 → k % (s + 2) + 1 < s + 2 ∧ (k + 1) / (s + 2) = k / (s + 2) ∧ (k + 1) % (s + 2) = k % (s + 2) + 1) := by decide +kernel
/-- the drawn desk after k measurements -/
def zDr (μ : zM) (s k : Nat) : Prop := zV μ s (k / (s + 2)) 1 zP0 zP0 ∧ μ.1 0 2 = nI (k % (s + 2))
theorem zd60 {s k : Nat} (hk : k < 48) : k / (s + 2) < 60 := Nat.lt_of_le_of_lt (Nat.div_le_self _ _) (by omega)
set_option maxRecDepth 100000 in
set_option maxHeartbeats 4000000 in
theorem law_back {x : zX} {g : zG} {b LL : Nat} {sc : Nat → Int32} (S : zS x g 5 cL_law RL) (hn : zn g = 21) (V : zScr9 x g b LL sc) (hL : LL ≤ 260) {s k ce sl : Nat} {y0 : Option Value} {ν : zM} (hs : s < 5) (hk : k < 48) (J : zDr ν s (k + 1)) (hce : ce + 192 ≤ 600000) (hsl : sl + 1152 ≤ 7000000) (kk : ∀ ν : zM, zDr ν s (k + 1) → zK x g room_1 5 (ce + 192) (sl + 1152) 53 [some (.ref b), some (.ref (za g 0)), some (.int (nI (s + 2))), some (.int (nI (k + 1))), none] [] ν) : zK x g room_1 5 ce sl 112 [some (.ref b), some (.ref (za g 0)), some (.int (nI (s + 2))), some (.int (nI k)), y0] [] ν := by
  obtain ⟨W, hb2⟩ := J
  have hK : ∀ (ce9 sl9 : Nat) (ν : zM), ce9 ≤ ce + 192 → sl9 ≤ sl + 1152 → zDr ν s (k + 1) → zK x g room_1 5 ce9 sl9 140 [some (.ref b), some (.ref (za g 0)), some (.int (nI (s + 2))), some (.int (nI k)), y0] [] ν := by
    intro ce9 sl9 ν h1 h2 J9
    refine k_iinc3 S dL_law_140 (v := nI (k + 1)) (nI_1 k) (by decide) (n := 143) rfl ?_
    refine k_goto S dL_law_143 (tgt := 53) (by decide) ?_
    refine k_keep 4 ?_
    exact k_widen h1 h2 (kk ν J9)
  refine k_aload1 S dL_law_112 (n := 113) rfl ?_
  refine k_callV (As := []) (rest := []) (p := 0) S (c_X3_subgroups) mv_X3_subgroups m_331 dL_law_113 rfl rfl ⟨Nat.le_of_ble_eq_true rfl, Nat.le_of_ble_eq_true rfl⟩ (zlt S (by decide)) (by decide) (ci := 3) rfl rfl rfl (Nat.le_of_ble_eq_true rfl) ⟨by show _ ≤ 634230; omega, by show _ ≤ 7198934; omega⟩ (n := 116) rfl (fun _ _ h => h.elim) (fun v9 ν9 h9 => ?_)
  rw [h9.1, h9.2, W.hd]
  show zK x g room_1 5 (ce + 0) (sl + 0) 116 [some (.ref b), some (.ref (za g 0)), some (.int (nI (s + 2))), some (.int (nI k)), y0] [.int (nI ((k + 1) / (s + 2)))] ν
  refine k_iload3 S dL_law_116 (n := 117) rfl ?_
  refine k_iconst S dL_law_117 (v := 1) (by decide) (n := 118) rfl ?_
  refine k_iadd S dL_law_118 (n := 119) rfl ?_
  refine k_top (nI (k + 1)) (nI_1 k) ?_
  refine k_iload2 S dL_law_119 (n := 120) rfl ?_
  refine k_idiv S dL_law_120 (nI_ne0 (by omega) (by omega)) (n := 121) rfl ?_
  refine k_top (nI ((k + 1) / (s + 2))) (pk_div (by omega) (by omega) (by omega)) ?_
  refine k_icmp_ne S dL_law_121 (tgt := 138) (by decide) (n := 124) rfl (fun h9 => absurd rfl h9) (fun _ => ?_)
  refine k_iload3 S dL_law_124 (n := 125) rfl ?_
  refine k_bipush S dL_law_125 (v := 12) (by decide) (n := 127) rfl ?_
  refine k_irem S dL_law_127 (by decide) (n := 128) rfl ?_
  refine k_if_ne S dL_law_128 (tgt := 140) (by decide) (n := 131) rfl (fun _ => hK _ _ ν (by omega) (by omega) ⟨W, hb2⟩) (fun _ => ?_)
  refine k_aload1 S dL_law_131 (n := 132) rfl ?_
  refine k_callS (As := [.ref (za g 0)]) (rest := []) S (c_L_refuses W) mv_L_refuses m_344 dL_law_132 rfl rfl ⟨Nat.le_of_ble_eq_true rfl, Nat.le_of_ble_eq_true rfl⟩ rfl rfl (Nat.le_of_ble_eq_true rfl) ⟨by show _ ≤ 634230; omega, by show _ ≤ 7198934; omega⟩ (n := 135) rfl (fun _ _ h => h.elim) (fun v9 ν9 h9 => ?_)
  rw [h9.1, h9.2]
  refine k_if_ne S dL_law_135 (tgt := 140) (by decide) (n := 138) rfl (fun _ => hK _ _ _ (by omega) (by omega) ⟨(W.row7 _).row7 _, ?_⟩) (fun h9 => absurd h9 (by decide))
  rw [zset_off _ _ (by decide), zset_off _ _ (by decide)]
  exact hb2
set_option maxRecDepth 100000 in
set_option maxHeartbeats 4000000 in
theorem law_put {x : zX} {g : zG} {b LL : Nat} {sc : Nat → Int32} (S : zS x g 5 cL_law RL) (hn : zn g = 21) (V : zScr9 x g b LL sc) (hL : LL ≤ 260) {s k n ce sl : Nat} {μ : zM} (hs : s < 5) (hk : k < 48) (hn31 : n < 2 ^ 31) (J : zDr μ s k) (hce : ce + 193 ≤ 600000) (hsl : sl + 1158 ≤ 7000000) (kk : ∀ ν : zM, zDr ν s (k + 1) → zK x g room_1 5 (ce + 193) (sl + 1158) 53 [some (.ref b), some (.ref (za g 0)), some (.int (nI (s + 2))), some (.int (nI (k + 1))), none] [] ν) : zK x g room_1 5 ce sl 80 [some (.ref b), some (.ref (za g 0)), some (.int (nI (s + 2))), some (.int (nI k)), none] [.int (nI n)] μ := by
  obtain ⟨W, hb2⟩ := J
  have hd := zd60 (s := s) hk
  obtain ⟨st1, st2⟩ := z_step s hs k hk
  have hkr : k % (s + 2) < s + 2 := Nat.mod_lt _ (by omega)
  refine k_istore4 S dL_law_80 (by decide) rfl (n := 82) rfl ?_
  refine k_aload1 S dL_law_82 (n := 83) rfl ?_
  refine k_iload4 S dL_law_83 (n := 85) rfl ?_
  refine k_sipush S dL_law_85 (v := 200) (by decide) (n := 88) rfl ?_
  refine k_irem S dL_law_88 (by decide) (n := 89) rfl ?_
  refine k_top (nI (n % 200)) (pk_rem (d := 200) hn31 (by decide) (by decide)) ?_
  refine k_bipush S dL_law_89 (v := 100) (by decide) (n := 91) rfl ?_
  refine k_isub S dL_law_91 (n := 92) rfl ?_
  have hz := z_in100 n
  generalize nI (n % 200) - 100 = w at hz ⊢
  have h0 := zTk_0 μ w
  rw [hb2, nI_1] at h0
  by_cases hq : k % (s + 2) + 1 = s + 2
  · obtain ⟨f1, f2⟩ := st1 hq
    obtain ⟨W2, hw2⟩ := (W.take w).fin hd
    refine k_callV (As := [.int w]) (rest := []) (p := 0) S (d_put1 W hz hd (by rw [h0]; exact nI_le (by omega) (by omega))) mv_X3_put m_194 dL_law_92 rfl rfl ⟨Nat.le_of_ble_eq_true rfl, Nat.le_of_ble_eq_true rfl⟩ (zlt S (by decide)) (by decide) (ci := 3) rfl rfl rfl (Nat.le_of_ble_eq_true rfl) ⟨by show _ ≤ 634230; omega, by show _ ≤ 7198934; omega⟩ (n := 95) rfl (fun _ _ h => h.elim) (fun v9 ν9 h9 => ?_)
    rw [h9.1, h9.2]
    show zK x g room_1 5 (ce + 1) (sl + 6) 95 [some (.ref b), some (.ref (za g 0)), some (.int (nI (s + 2))), some (.int (nI k)), some (.int (nI n))] [.int 1] (m_X3_finishSubgroup (m_X3_takeMeasurement μ w) (k / (s + 2)) s 1)
    refine k_iload3 S dL_law_95 (n := 96) rfl ?_
    refine k_iload2 S dL_law_96 (n := 97) rfl ?_
    refine k_irem S dL_law_97 (nI_ne0 (by omega) (by omega)) (n := 98) rfl ?_
    refine k_top (nI (k % (s + 2))) (pk_rem (by omega) (by omega) (by omega)) ?_
    refine k_iload2 S dL_law_98 (n := 99) rfl ?_
    refine k_iconst S dL_law_99 (v := 1) (by decide) (n := 100) rfl ?_
    refine k_isub S dL_law_100 (n := 101) rfl ?_
    refine k_top (nI (s + 1)) (nI_pred (s + 1)) ?_
    refine k_icmp_ne S dL_law_101 (tgt := 108) (by decide) (n := 104) rfl (fun h8 => absurd ((nI_eq (by omega) (by omega)).mpr (by omega)) h8) (fun _ => ?_)
    refine k_iconst S dL_law_104 (v := 1) (by decide) (n := 105) rfl ?_
    refine k_goto S dL_law_105 (tgt := 109) (by decide) ?_
    refine k_icmp_ne S dL_law_109 (tgt := 138) (by decide) (n := 112) rfl (fun h8 => absurd rfl h8) (fun _ => ?_)
    exact law_back S hn V hL hs hk ⟨by rw [f1]; exact W2, by rw [f2]; exact hw2⟩ (by omega) (by omega) (fun ν hν => kk ν hν)
  · obtain ⟨f0, f1, f2⟩ := st2 hq
    refine k_callV (As := [.int w]) (rest := []) (p := 0) S (d_put0 W hz hd (by rw [h0]; exact nI_ge (by omega) (by omega))) mv_X3_put m_194 dL_law_92 rfl rfl ⟨Nat.le_of_ble_eq_true rfl, Nat.le_of_ble_eq_true rfl⟩ (zlt S (by decide)) (by decide) (ci := 3) rfl rfl rfl (Nat.le_of_ble_eq_true rfl) ⟨by show _ ≤ 634230; omega, by show _ ≤ 7198934; omega⟩ (n := 95) rfl (fun _ _ h => h.elim) (fun v9 ν9 h9 => ?_)
    rw [h9.1, h9.2]
    show zK x g room_1 5 (ce + 1) (sl + 6) 95 [some (.ref b), some (.ref (za g 0)), some (.int (nI (s + 2))), some (.int (nI k)), some (.int (nI n))] [.int 0] (m_X3_takeMeasurement μ w)
    refine k_iload3 S dL_law_95 (n := 96) rfl ?_
    refine k_iload2 S dL_law_96 (n := 97) rfl ?_
    refine k_irem S dL_law_97 (nI_ne0 (by omega) (by omega)) (n := 98) rfl ?_
    refine k_top (nI (k % (s + 2))) (pk_rem (by omega) (by omega) (by omega)) ?_
    refine k_iload2 S dL_law_98 (n := 99) rfl ?_
    refine k_iconst S dL_law_99 (v := 1) (by decide) (n := 100) rfl ?_
    refine k_isub S dL_law_100 (n := 101) rfl ?_
    refine k_top (nI (s + 1)) (nI_pred (s + 1)) ?_
    refine k_icmp_ne S dL_law_101 (tgt := 108) (by decide) (n := 104) rfl (fun _ => ?_) (fun h8 => absurd ((nI_eq (by omega) (by omega)).mp h8) (by omega))
    refine k_iconst S dL_law_108 (v := 0) (by decide) (n := 109) rfl ?_
    refine k_icmp_ne S dL_law_109 (tgt := 138) (by decide) (n := 112) rfl (fun h8 => absurd rfl h8) (fun _ => ?_)
    exact law_back S hn V hL hs hk ⟨by rw [f1]; exact W.take w, by rw [f2]; exact h0⟩ (by omega) (by omega) (fun ν hν => kk ν hν)
set_option maxRecDepth 100000 in
set_option maxHeartbeats 4000000 in
theorem law_loop {x : zX} {g : zG} {b LL : Nat} {sc : Nat → Int32} (S : zS x g 5 cL_law RL) (hn : zn g = 21) (V : zScr9 x g b LL sc) (hL : LL ≤ 260) {s : Nat} (hs : s < 5) (hend : ∀ (ce sl : Nat) (L : List (Option Value)) (μ : zM), ce ≤ 634230 → sl ≤ 7198934 → zK x g room_1 5 ce sl 147 L [.int 1] μ) :
    ∀ (f k ce sl : Nat) (μ : zM), k + f = 48 → ce + 193 * f ≤ 500000 → sl + 1158 * f ≤ 6000000 → zDr μ s k → zK x g room_1 5 ce sl 53 [some (.ref b), some (.ref (za g 0)), some (.int (nI (s + 2))), some (.int (nI k)), none] [] μ := by
  intro f
  induction f with
  | zero =>
    intro k ce sl μ h1 h2 h3 J
    obtain rfl : k = 48 := by omega
    refine k_iload3 S dL_law_53 (n := 54) rfl ?_
    refine k_bipush S dL_law_54 (v := 48) (by decide) (n := 56) rfl ?_
    refine k_icmp_ge S dL_law_56 (tgt := 146) (by decide) (n := 59) rfl (fun _ => ?_) (fun h9 => absurd (by decide) h9)
    refine k_iconst S dL_law_146 (v := 1) (by decide) (n := 147) rfl ?_
    exact hend _ _ _ _ (by omega) (by omega)
  | succ f ih =>
    intro k ce sl μ h1 h2 h3 J
    have hk : k < 48 := by omega
    have hJ : ∀ n : Nat, n < 2 ^ 31 → zK x g room_1 5 ce sl 80 [some (.ref b), some (.ref (za g 0)), some (.int (nI (s + 2))), some (.int (nI k)), none] [.int (nI n)] μ := fun n h31 =>
      law_put S hn V hL hs hk h31 J (by omega) (by omega) (fun ν hν => ih (k + 1) _ _ ν (by omega) (by omega) (by omega) hν)
    refine k_iload3 S dL_law_53 (n := 54) rfl ?_
    refine k_bipush S dL_law_54 (v := 48) (by decide) (n := 56) rfl ?_
    refine k_icmp_ge S dL_law_56 (tgt := 146) (by decide) (n := 59) rfl (fun h9 => absurd h9 (nI_ge (a := k) (b := 48) hk (by decide))) (fun _ => ?_)
    refine k_aload0 S dL_law_59 (n := 60) rfl ?_
    refine k_slen S V dL_law_60 (n := 61) rfl ?_
    refine k_if_ne S dL_law_61 (tgt := 71) (by decide) (n := 64) rfl (fun h0 => ?_) (fun _ => ?_)
    · have hL0 : 0 < LL := Nat.pos_of_ne_zero (fun z => h0 (by rw [z]; rfl))
      have hm : k % LL < LL := Nat.mod_lt _ hL0
      refine k_aload0 S dL_law_71 (n := 72) rfl ?_
      refine k_iload3 S dL_law_72 (n := 73) rfl ?_
      refine k_aload0 S dL_law_73 (n := 74) rfl ?_
      refine k_slen S V dL_law_74 (n := 75) rfl ?_
      refine k_irem S dL_law_75 h0 (n := 76) rfl ?_
      refine k_top (nI (k % LL)) (pk_rem (by omega) hL0 (by omega)) ?_
      refine k_sld (j := k % LL) S V dL_law_76 rfl hm hL (n := 77) rfl ?_
      refine k_bipush S dL_law_77 (v := 9) (by decide) (n := 79) rfl ?_
      obtain ⟨n, h31, en⟩ := z_ushr (sc (k % LL)) 9 9 (by decide) (by decide)
      refine k_iushr S dL_law_79 en (n := 80) rfl ?_
      exact hJ n h31
    · refine k_bipush S dL_law_64 (v := 17) (by decide) (n := 66) rfl ?_
      refine k_iload3 S dL_law_66 (n := 67) rfl ?_
      refine k_imul S dL_law_67 (n := 68) rfl ?_
      refine k_top (nI (17 * k)) (pk_mul 17 k) ?_
      refine k_goto S dL_law_68 (tgt := 80) (by decide) ?_
      exact hJ (17 * k) (by omega)
