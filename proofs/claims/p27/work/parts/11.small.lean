/-! tables by size and by rule; the long division; a phase's own small methods -/
def zpk (b s k : Int32) : Int32 := ((b <<< ((1 : Int32) &&& 31)) ||| s) &&& (((1 : Int32) <<< (k &&& 31)) - 1)
def zbo (r b : Int32) : Int32 := if b = 0 then 0 else (1 : Int32) <<< (r &&& 31)
theorem zsub2 (j : Nat) : nI (j + 2) - 2 = nI j := by
  have h := pk_sub (a := j + 2) (b := 2) (by omega)
  rwa [Nat.add_sub_cancel] at h
theorem zsub1 (j : Nat) : nI (j + 1) - 1 = nI j := nI_pred j
def zbc1 (a : Int32) : Int32 := a - ((a.toUInt32 >>> (Int32.toUInt32 1 &&& Int32.toUInt32 31)).toInt32 &&& 1431655765)
def zbc2 (a : Int32) : Int32 := (a &&& 858993459) + ((a.toUInt32 >>> (Int32.toUInt32 2 &&& Int32.toUInt32 31)).toInt32 &&& 858993459)
def zbc3 (a : Int32) : Int32 := (a + (a.toUInt32 >>> (Int32.toUInt32 4 &&& Int32.toUInt32 31)).toInt32) &&& 252645135
def zbc4 (a : Int32) : Int32 := a + (a.toUInt32 >>> (Int32.toUInt32 8 &&& Int32.toUInt32 31)).toInt32
def zbc5 (a : Int32) : Int32 := a + (a.toUInt32 >>> (Int32.toUInt32 16 &&& Int32.toUInt32 31)).toInt32
def zbc (a : Int32) : Int32 := zbc5 (zbc4 (zbc3 (zbc2 (zbc1 a)))) &&& 63
set_option maxRecDepth 100000 in
set_option maxHeartbeats 4000000 in
theorem c_X3_rounded {l : Launch} {g : zG} {a b : Int64} {μ : zM} : zC l g yX3_rounded cX3_rounded 4 (some .long) ({ frames := 2, cells := 0, slots := 0, locals := 48 } : Room) 0 0 [.long a, .long b] μ (zRv (some (.long (zrd a b))) μ) zNX := by
  refine zC_of (L0 := [some (.long a), none, some (.long b), none]) (plainFor_of_name (by decide)) (Nat.le_of_ble_eq_true rfl) rfl ?_
  intro x S Y hxl
  subst hxl
  refine k_ldc2 S dX3_rounded_0 (v := 2) m_303 (n := 3) rfl ?_
  refine k_lload0 S dX3_rounded_3 (n := 4) rfl ?_
  refine k_lmul S dX3_rounded_4 (n := 5) rfl ?_
  refine k_lload2 S dX3_rounded_5 (n := 6) rfl ?_
  refine k_ladd S dX3_rounded_6 (n := 7) rfl ?_
  refine k_ldc2 S dX3_rounded_7 (v := 2) m_303 (n := 10) rfl ?_
  refine k_lload2 S dX3_rounded_10 (n := 11) rfl ?_
  refine k_lmul S dX3_rounded_11 (n := 12) rfl ?_
  refine k_callS (As := [.long ((2 * a) + b), .long (2 * b)]) (rest := []) S (c_X3_floored) mv_X3_floored m_304 dX3_rounded_12 rfl rfl ⟨by decide, by decide⟩ rfl rfl (Nat.le_of_ble_eq_true rfl) ⟨by decide, by decide⟩ (n := 15) rfl (fun _ _ h => h.elim) (fun v9 ν9 h9 => ?_)
  rw [h9.1, h9.2]
  show zK x g ({ frames := 2, cells := 0, slots := 0, locals := 48 } : Room) 4 0 0 15 [some (.long a), none, some (.long b), none] [.long (zfl ((2 * a) + b) (2 * b))] μ
  exact k_lret S Y dX3_rounded_15 (by decide) (by decide) (⟨rfl, rfl⟩)
set_option maxRecDepth 100000 in
set_option maxHeartbeats 4000000 in
theorem c_X3_bySize0 {l : Launch} {g : zG} {j : Nat} {μ : zM} (hj : j < 5) : zC l g yX3_bySize cX3_bySize 3 (some .int) ({ frames := 0, cells := 0, slots := 0, locals := 0 } : Room) 0 0 [.ref (zt g 0), .int (nI (j + 2))] μ (zRv (some (.int (zTab 0 j))) μ) zNX := by
  refine zC_of (L0 := [some (.ref (zt g 0)), some (.int (nI (j + 2))), none]) (plainFor_of_name (by decide)) (Nat.le_of_ble_eq_true rfl) rfl ?_
  intro x S Y hxl
  subst hxl
  refine k_iload1 S dX3_bySize_0 (n := 1) rfl ?_
  refine k_iconst S dX3_bySize_1 (v := 2) (by decide) (n := 2) rfl ?_
  refine k_isub S dX3_bySize_2 (n := 3) rfl ?_
  refine k_istore2 S dX3_bySize_3 (by decide) rfl (n := 4) rfl ?_
  refine k_iload2 S dX3_bySize_4 (n := 5) rfl ?_
  refine k_if_lt S dX3_bySize_5 (tgt := 20) (by decide) (n := 8) rfl (fun h9 => absurd h9 (by rw [zsub2]; exact nI_pos (by omega))) (fun _ => ?_)
  refine k_iload2 S dX3_bySize_8 (n := 9) rfl ?_
  refine k_aload0 S dX3_bySize_9 (n := 10) rfl ?_
  refine k_tlen S dX3_bySize_10 (i := 0) (v := 5) (by decide) (by decide) (n := 11) rfl ?_
  refine k_icmp_ge S dX3_bySize_11 (tgt := 20) (by decide) (n := 14) rfl (fun h9 => absurd h9 (by rw [zsub2]; exact fun q => absurd ((nI_leI (by omega) (by omega)).mp (show nI 5 ≤ nI j from q)) (by omega))) (fun _ => ?_)
  refine k_aload0 S dX3_bySize_14 (n := 15) rfl ?_
  refine k_iload2 S dX3_bySize_15 (n := 16) rfl ?_
  refine k_tald S dX3_bySize_16 (i := 0) (j := j) (by decide) (zsub2 j) (show j < 5 from hj) (by decide) (n := 17) rfl ?_
  refine k_goto S dX3_bySize_17 (tgt := 21) (by decide) ?_
  exact k_iret S Y dX3_bySize_21 (by decide) (by decide) rfl (⟨rfl, rfl⟩)
set_option maxRecDepth 100000 in
set_option maxHeartbeats 4000000 in
theorem c_X3_bySize1 {l : Launch} {g : zG} {j : Nat} {μ : zM} (hj : j < 5) : zC l g yX3_bySize cX3_bySize 3 (some .int) ({ frames := 0, cells := 0, slots := 0, locals := 0 } : Room) 0 0 [.ref (zt g 1), .int (nI (j + 2))] μ (zRv (some (.int (zTab 1 j))) μ) zNX := by
  refine zC_of (L0 := [some (.ref (zt g 1)), some (.int (nI (j + 2))), none]) (plainFor_of_name (by decide)) (Nat.le_of_ble_eq_true rfl) rfl ?_
  intro x S Y hxl
  subst hxl
  refine k_iload1 S dX3_bySize_0 (n := 1) rfl ?_
  refine k_iconst S dX3_bySize_1 (v := 2) (by decide) (n := 2) rfl ?_
  refine k_isub S dX3_bySize_2 (n := 3) rfl ?_
  refine k_istore2 S dX3_bySize_3 (by decide) rfl (n := 4) rfl ?_
  refine k_iload2 S dX3_bySize_4 (n := 5) rfl ?_
  refine k_if_lt S dX3_bySize_5 (tgt := 20) (by decide) (n := 8) rfl (fun h9 => absurd h9 (by rw [zsub2]; exact nI_pos (by omega))) (fun _ => ?_)
  refine k_iload2 S dX3_bySize_8 (n := 9) rfl ?_
  refine k_aload0 S dX3_bySize_9 (n := 10) rfl ?_
  refine k_tlen S dX3_bySize_10 (i := 1) (v := 5) (by decide) (by decide) (n := 11) rfl ?_
  refine k_icmp_ge S dX3_bySize_11 (tgt := 20) (by decide) (n := 14) rfl (fun h9 => absurd h9 (by rw [zsub2]; exact fun q => absurd ((nI_leI (by omega) (by omega)).mp (show nI 5 ≤ nI j from q)) (by omega))) (fun _ => ?_)
  refine k_aload0 S dX3_bySize_14 (n := 15) rfl ?_
  refine k_iload2 S dX3_bySize_15 (n := 16) rfl ?_
  refine k_tald S dX3_bySize_16 (i := 1) (j := j) (by decide) (zsub2 j) (show j < 5 from hj) (by decide) (n := 17) rfl ?_
  refine k_goto S dX3_bySize_17 (tgt := 21) (by decide) ?_
  exact k_iret S Y dX3_bySize_21 (by decide) (by decide) rfl (⟨rfl, rfl⟩)
set_option maxRecDepth 100000 in
set_option maxHeartbeats 4000000 in
theorem c_X3_bySize2 {l : Launch} {g : zG} {j : Nat} {μ : zM} (hj : j < 5) : zC l g yX3_bySize cX3_bySize 3 (some .int) ({ frames := 0, cells := 0, slots := 0, locals := 0 } : Room) 0 0 [.ref (zt g 2), .int (nI (j + 2))] μ (zRv (some (.int (zTab 2 j))) μ) zNX := by
  refine zC_of (L0 := [some (.ref (zt g 2)), some (.int (nI (j + 2))), none]) (plainFor_of_name (by decide)) (Nat.le_of_ble_eq_true rfl) rfl ?_
  intro x S Y hxl
  subst hxl
  refine k_iload1 S dX3_bySize_0 (n := 1) rfl ?_
  refine k_iconst S dX3_bySize_1 (v := 2) (by decide) (n := 2) rfl ?_
  refine k_isub S dX3_bySize_2 (n := 3) rfl ?_
  refine k_istore2 S dX3_bySize_3 (by decide) rfl (n := 4) rfl ?_
  refine k_iload2 S dX3_bySize_4 (n := 5) rfl ?_
  refine k_if_lt S dX3_bySize_5 (tgt := 20) (by decide) (n := 8) rfl (fun h9 => absurd h9 (by rw [zsub2]; exact nI_pos (by omega))) (fun _ => ?_)
  refine k_iload2 S dX3_bySize_8 (n := 9) rfl ?_
  refine k_aload0 S dX3_bySize_9 (n := 10) rfl ?_
  refine k_tlen S dX3_bySize_10 (i := 2) (v := 5) (by decide) (by decide) (n := 11) rfl ?_
  refine k_icmp_ge S dX3_bySize_11 (tgt := 20) (by decide) (n := 14) rfl (fun h9 => absurd h9 (by rw [zsub2]; exact fun q => absurd ((nI_leI (by omega) (by omega)).mp (show nI 5 ≤ nI j from q)) (by omega))) (fun _ => ?_)
  refine k_aload0 S dX3_bySize_14 (n := 15) rfl ?_
  refine k_iload2 S dX3_bySize_15 (n := 16) rfl ?_
  refine k_tald S dX3_bySize_16 (i := 2) (j := j) (by decide) (zsub2 j) (show j < 5 from hj) (by decide) (n := 17) rfl ?_
  refine k_goto S dX3_bySize_17 (tgt := 21) (by decide) ?_
  exact k_iret S Y dX3_bySize_21 (by decide) (by decide) rfl (⟨rfl, rfl⟩)
set_option maxRecDepth 100000 in
set_option maxHeartbeats 4000000 in
theorem c_X3_pointsOfRule {l : Launch} {g : zG} {j : Nat} {μ : zM} (hj : j < 8) : zC l g yX3_pointsOfRule cX3_pointsOfRule 1 (some .int) ({ frames := 0, cells := 0, slots := 0, locals := 0 } : Room) 0 0 [.int (nI (j + 1))] μ (zRv (some (.int (zTab 3 j))) μ) zNX := by
  refine zC_of (L0 := [some (.int (nI (j + 1)))]) (plainFor_of_name (by decide)) (Nat.le_of_ble_eq_true rfl) rfl ?_
  intro x S Y hxl
  subst hxl
  refine k_iload0 S dX3_pointsOfRule_0 (n := 1) rfl ?_
  refine k_iconst S dX3_pointsOfRule_1 (v := 1) (by decide) (n := 2) rfl ?_
  refine k_icmp_lt S dX3_pointsOfRule_2 (tgt := 23) (by decide) (n := 5) rfl (fun h9 => absurd h9 (fun q => absurd ((nI_ltI (by omega) (by omega)).mp (show nI (j + 1) < nI 1 from q)) (by omega))) (fun _ => ?_)
  refine k_iload0 S dX3_pointsOfRule_5 (n := 6) rfl ?_
  refine k_gets S dX3_pointsOfRule_6 (i := 3) (by decide) m_404 (n := 9) rfl ?_
  refine k_tlen S dX3_pointsOfRule_9 (i := 3) (v := 8) (by decide) (by decide) (n := 10) rfl ?_
  refine k_icmp_gt S dX3_pointsOfRule_10 (tgt := 23) (by decide) (n := 13) rfl (fun h9 => absurd h9 (fun q => absurd ((nI_ltI (by omega) (by omega)).mp (show nI 8 < nI (j + 1) from q)) (by omega))) (fun _ => ?_)
  refine k_gets S dX3_pointsOfRule_13 (i := 3) (by decide) m_404 (n := 16) rfl ?_
  refine k_iload0 S dX3_pointsOfRule_16 (n := 17) rfl ?_
  refine k_iconst S dX3_pointsOfRule_17 (v := 1) (by decide) (n := 18) rfl ?_
  refine k_isub S dX3_pointsOfRule_18 (n := 19) rfl ?_
  refine k_tald S dX3_pointsOfRule_19 (i := 3) (j := j) (by decide) (zsub1 j) (show j < 8 from hj) (by decide) (n := 20) rfl ?_
  refine k_goto S dX3_pointsOfRule_20 (tgt := 24) (by decide) ?_
  exact k_iret S Y dX3_pointsOfRule_24 (by decide) (by decide) rfl (⟨rfl, rfl⟩)
set_option maxRecDepth 100000 in
set_option maxHeartbeats 4000000 in
theorem c_X1_pushed {l : Launch} {g : zG} {a b c : Int32} {μ : zM} : zC l g yX1_pushed cX1_pushed 3 (some .int) ({ frames := 0, cells := 0, slots := 0, locals := 0 } : Room) 0 0 [.int a, .int b, .int c] μ (zRv (some (.int (zpk a (if b = 0 then 0 else 1) c)) ) μ) zNX := by
  refine zC_of (L0 := [some (.int a), some (.int b), some (.int c)]) (plainFor_of_name (by decide)) (Nat.le_of_ble_eq_true rfl) rfl ?_
  intro x S Y hxl
  subst hxl
  refine k_iload0 S dX1_pushed_0 (n := 1) rfl ?_
  refine k_iconst S dX1_pushed_1 (v := 1) (by decide) (n := 2) rfl ?_
  refine k_ishl S dX1_pushed_2 (n := 3) rfl ?_
  refine k_iload1 S dX1_pushed_3 (n := 4) rfl ?_
  have hJ2 : zK x g ({ frames := 0, cells := 0, slots := 0, locals := 0 } : Room) 3 0 0 12 [some (.int a), some (.int b), some (.int c)] [.int ((if b = 0 then (0 : Int32) else (1 : Int32))), .int (a <<< (1 &&& 31))] μ := by
    refine k_ior S dX1_pushed_12 (n := 13) rfl ?_
    refine k_iconst S dX1_pushed_13 (v := 1) (by decide) (n := 14) rfl ?_
    refine k_iload2 S dX1_pushed_14 (n := 15) rfl ?_
    refine k_ishl S dX1_pushed_15 (n := 16) rfl ?_
    refine k_iconst S dX1_pushed_16 (v := 1) (by decide) (n := 17) rfl ?_
    refine k_isub S dX1_pushed_17 (n := 18) rfl ?_
    refine k_iand S dX1_pushed_18 (n := 19) rfl ?_
    exact k_iret S Y dX1_pushed_19 (by decide) (by decide) rfl (⟨rfl, rfl⟩)
  refine k_if_eq S dX1_pushed_4 (tgt := 11) (by decide) (n := 7) rfl (fun c1 => ?_) (fun c1 => ?_)
  ·
    refine k_iconst S dX1_pushed_11 (v := 0) (by decide) (n := 12) rfl ?_
    rw [if_pos c1] at hJ2
    exact hJ2
  ·
    refine k_iconst S dX1_pushed_7 (v := 1) (by decide) (n := 8) rfl ?_
    refine k_goto S dX1_pushed_8 (tgt := 12) (by decide) ?_
    rw [if_neg c1] at hJ2
    exact hJ2
set_option maxRecDepth 100000 in
set_option maxHeartbeats 4000000 in
theorem c_X1_bitOf {l : Launch} {g : zG} {a b : Int32} {μ : zM} : zC l g yX1_bitOf cX1_bitOf 2 (some .int) ({ frames := 0, cells := 0, slots := 0, locals := 0 } : Room) 0 0 [.int a, .int b] μ (zRv (some (.int (zbo a b))) μ) zNX := by
  refine zC_of (L0 := [some (.int a), some (.int b)]) (plainFor_of_name (by decide)) (Nat.le_of_ble_eq_true rfl) rfl ?_
  intro x S Y hxl
  subst hxl
  refine k_iload1 S dX1_bitOf_0 (n := 1) rfl ?_
  have hJ2 : zK x g ({ frames := 0, cells := 0, slots := 0, locals := 0 } : Room) 2 0 0 11 [some (.int a), some (.int b)] [.int ((if b = 0 then (0 : Int32) else 1 <<< (a &&& 31)))] μ := by
    exact k_iret S Y dX1_bitOf_11 (by decide) (by decide) rfl (⟨rfl, rfl⟩)
  refine k_if_eq S dX1_bitOf_1 (tgt := 10) (by decide) (n := 4) rfl (fun c1 => ?_) (fun c1 => ?_)
  ·
    refine k_iconst S dX1_bitOf_10 (v := 0) (by decide) (n := 11) rfl ?_
    rw [if_pos c1] at hJ2
    exact hJ2
  ·
    refine k_iconst S dX1_bitOf_4 (v := 1) (by decide) (n := 5) rfl ?_
    refine k_iload0 S dX1_bitOf_5 (n := 6) rfl ?_
    refine k_ishl S dX1_bitOf_6 (n := 7) rfl ?_
    refine k_goto S dX1_bitOf_7 (tgt := 11) (by decide) ?_
    rw [if_neg c1] at hJ2
    exact hJ2
set_option maxRecDepth 100000 in
set_option maxHeartbeats 4000000 in
theorem c_J6_bitCount_0f7a4 {l : Launch} {g : zG} {a : Int32} {μ : zM} : zC l g yJ6_bitCount_0f7a4 cJ6_bitCount_0f7a4 1 (some .int) ({ frames := 0, cells := 0, slots := 0, locals := 0 } : Room) 0 0 [.int a] μ (zRv (some (.int (zbc a))) μ) zNX := by
  refine zC_of (L0 := [some (.int a)]) (by decide +kernel) (Nat.le_of_ble_eq_true rfl) rfl ?_
  intro x S Y hxl
  subst hxl
  refine k_iload0 S dJ6_bitCount_0f7a4_0 (n := 1) rfl ?_
  refine k_iload0 S dJ6_bitCount_0f7a4_1 (n := 2) rfl ?_
  refine k_iconst S dJ6_bitCount_0f7a4_2 (v := 1) (by decide) (n := 3) rfl ?_
  refine k_iushr S dJ6_bitCount_0f7a4_3 rfl (n := 4) rfl ?_
  refine k_ldcw S dJ6_bitCount_0f7a4_4 (v := 1431655765) m_412 (n := 7) rfl ?_
  refine k_iand S dJ6_bitCount_0f7a4_7 (n := 8) rfl ?_
  refine k_isub S dJ6_bitCount_0f7a4_8 (n := 9) rfl ?_
  refine k_istore0 S dJ6_bitCount_0f7a4_9 (by decide) (n := 10) rfl ?_
  refine k_iload0 S dJ6_bitCount_0f7a4_10 (n := 11) rfl ?_
  refine k_ldcw S dJ6_bitCount_0f7a4_11 (v := 858993459) m_413 (n := 14) rfl ?_
  refine k_iand S dJ6_bitCount_0f7a4_14 (n := 15) rfl ?_
  refine k_iload0 S dJ6_bitCount_0f7a4_15 (n := 16) rfl ?_
  refine k_iconst S dJ6_bitCount_0f7a4_16 (v := 2) (by decide) (n := 17) rfl ?_
  refine k_iushr S dJ6_bitCount_0f7a4_17 rfl (n := 18) rfl ?_
  refine k_ldcw S dJ6_bitCount_0f7a4_18 (v := 858993459) m_413 (n := 21) rfl ?_
  refine k_iand S dJ6_bitCount_0f7a4_21 (n := 22) rfl ?_
  refine k_iadd S dJ6_bitCount_0f7a4_22 (n := 23) rfl ?_
  refine k_istore0 S dJ6_bitCount_0f7a4_23 (by decide) (n := 24) rfl ?_
  refine k_iload0 S dJ6_bitCount_0f7a4_24 (n := 25) rfl ?_
  refine k_iload0 S dJ6_bitCount_0f7a4_25 (n := 26) rfl ?_
  refine k_iconst S dJ6_bitCount_0f7a4_26 (v := 4) (by decide) (n := 27) rfl ?_
  refine k_iushr S dJ6_bitCount_0f7a4_27 rfl (n := 28) rfl ?_
  refine k_iadd S dJ6_bitCount_0f7a4_28 (n := 29) rfl ?_
  refine k_ldcw S dJ6_bitCount_0f7a4_29 (v := 252645135) m_414 (n := 32) rfl ?_
  refine k_iand S dJ6_bitCount_0f7a4_32 (n := 33) rfl ?_
  refine k_istore0 S dJ6_bitCount_0f7a4_33 (by decide) (n := 34) rfl ?_
  refine k_iload0 S dJ6_bitCount_0f7a4_34 (n := 35) rfl ?_
  refine k_iload0 S dJ6_bitCount_0f7a4_35 (n := 36) rfl ?_
  refine k_bipush S dJ6_bitCount_0f7a4_36 (v := 8) (by decide) (n := 38) rfl ?_
  refine k_iushr S dJ6_bitCount_0f7a4_38 rfl (n := 39) rfl ?_
  refine k_iadd S dJ6_bitCount_0f7a4_39 (n := 40) rfl ?_
  refine k_istore0 S dJ6_bitCount_0f7a4_40 (by decide) (n := 41) rfl ?_
  refine k_iload0 S dJ6_bitCount_0f7a4_41 (n := 42) rfl ?_
  refine k_iload0 S dJ6_bitCount_0f7a4_42 (n := 43) rfl ?_
  refine k_bipush S dJ6_bitCount_0f7a4_43 (v := 16) (by decide) (n := 45) rfl ?_
  refine k_iushr S dJ6_bitCount_0f7a4_45 rfl (n := 46) rfl ?_
  refine k_iadd S dJ6_bitCount_0f7a4_46 (n := 47) rfl ?_
  refine k_istore0 S dJ6_bitCount_0f7a4_47 (by decide) (n := 48) rfl ?_
  refine k_iload0 S dJ6_bitCount_0f7a4_48 (n := 49) rfl ?_
  refine k_bipush S dJ6_bitCount_0f7a4_49 (v := 63) (by decide) (n := 51) rfl ?_
  refine k_iand S dJ6_bitCount_0f7a4_51 (n := 52) rfl ?_
  exact k_iret S Y dJ6_bitCount_0f7a4_52 (by decide) (by decide) rfl (⟨rfl, rfl⟩)
set_option maxRecDepth 100000 in
set_option maxHeartbeats 4000000 in
theorem c_X0_sideOfCenter {l : Launch} {g : zG} {k : Nat} {μ : zM} {a : Int32} (hk : k < 10) : zC l g yX0_sideOfCenter cX0_sideOfCenter 2 (some .int) ({ frames := 1, cells := 0, slots := 0, locals := 21 } : Room) 0 0 [.ref (za g (11 + k)), .int a] μ (zRv (some (.int (zdir (μ.1 (11 + k) 5) a))) μ) zNX := by
  refine zC_of (L0 := [some (.ref (za g (11 + k))), some (.int a)]) (plainFor_of_name (by decide)) (Nat.le_of_ble_eq_true rfl) rfl ?_
  intro x S Y hxl
  subst hxl
  refine k_aload0 S dX0_sideOfCenter_0 (n := 1) rfl ?_
  refine k_geti (T := TX0) (j := 5) S dX0_sideOfCenter_1 (zlt S (by omega)) (zki_ph hk) (ci := 0) rfl rfl (by decide) in_0 m_38 rfl rfl (n := 4) rfl ?_
  refine k_iload1 S dX0_sideOfCenter_4 (n := 5) rfl ?_
  refine k_callSN (As := [.int (μ.1 (11 + k) 5), .int a]) (rest := []) (host := RX3) S (c_X3_direction) mv_X3_direction (by decide +kernel) dX0_sideOfCenter_5 rfl rfl ⟨by decide, by decide⟩ rfl rfl (Nat.le_of_ble_eq_true rfl) ⟨by decide, by decide⟩ (n := 8) rfl (fun _ _ h => h.elim) (fun v9 ν9 h9 => ?_)
  rw [h9.1, h9.2]
  show zK x g ({ frames := 1, cells := 0, slots := 0, locals := 21 } : Room) 2 0 0 8 [some (.ref (za g (11 + k))), some (.int a)] [.int (zdir (μ.1 (11 + k) 5) a)] μ
  exact k_iret S Y dX0_sideOfCenter_8 (by decide) (by decide) rfl (⟨rfl, rfl⟩)
set_option maxRecDepth 100000 in
set_option maxHeartbeats 4000000 in
theorem c_X0_sideBeyond {l : Launch} {g : zG} {k : Nat} {μ : zM} {a b : Int32} (hk : k < 10) : zC l g yX0_sideBeyond cX0_sideBeyond 3 (some .int) ({ frames := 0, cells := 0, slots := 0, locals := 0 } : Room) 0 0 [.ref (za g (11 + k)), .int a, .int b] μ (zRv (some (.int (zsb a (μ.1 (11 + k) 5) (μ.1 (11 + k) 7) b))) μ) zNX := by
  refine zC_of (L0 := [some (.ref (za g (11 + k))), some (.int a), some (.int b)]) (plainFor_of_name (by decide)) (Nat.le_of_ble_eq_true rfl) rfl ?_
  intro x S Y hxl
  subst hxl
  refine k_iconst S dX0_sideBeyond_0 (v := 3) (by decide) (n := 1) rfl ?_
  refine k_iload1 S dX0_sideBeyond_1 (n := 2) rfl ?_
  refine k_aload0 S dX0_sideBeyond_2 (n := 3) rfl ?_
  refine k_geti (T := TX0) (j := 5) S dX0_sideBeyond_3 (zlt S (by omega)) (zki_ph hk) (ci := 0) rfl rfl (by decide) in_0 m_38 rfl rfl (n := 6) rfl ?_
  refine k_isub S dX0_sideBeyond_6 (n := 7) rfl ?_
  refine k_imul S dX0_sideBeyond_7 (n := 8) rfl ?_
  refine k_iload2 S dX0_sideBeyond_8 (n := 9) rfl ?_
  refine k_aload0 S dX0_sideBeyond_9 (n := 10) rfl ?_
  refine k_geti (T := TX0) (j := 7) S dX0_sideBeyond_10 (zlt S (by omega)) (zki_ph hk) (ci := 0) rfl rfl (by decide) in_0 m_42 rfl rfl (n := 13) rfl ?_
  refine k_imul S dX0_sideBeyond_13 (n := 14) rfl ?_
  refine k_icmp_le S dX0_sideBeyond_14 (tgt := 19) (by decide) (n := 17) rfl (fun c1 => ?_) (fun c1 => ?_)
  ·
    refine k_iconst S dX0_sideBeyond_19 (v := 3) (by decide) (n := 20) rfl ?_
    refine k_aload0 S dX0_sideBeyond_20 (n := 21) rfl ?_
    refine k_geti (T := TX0) (j := 5) S dX0_sideBeyond_21 (zlt S (by omega)) (zki_ph hk) (ci := 0) rfl rfl (by decide) in_0 m_38 rfl rfl (n := 24) rfl ?_
    refine k_iload1 S dX0_sideBeyond_24 (n := 25) rfl ?_
    refine k_isub S dX0_sideBeyond_25 (n := 26) rfl ?_
    refine k_imul S dX0_sideBeyond_26 (n := 27) rfl ?_
    refine k_iload2 S dX0_sideBeyond_27 (n := 28) rfl ?_
    refine k_aload0 S dX0_sideBeyond_28 (n := 29) rfl ?_
    refine k_geti (T := TX0) (j := 7) S dX0_sideBeyond_29 (zlt S (by omega)) (zki_ph hk) (ci := 0) rfl rfl (by decide) in_0 m_42 rfl rfl (n := 32) rfl ?_
    refine k_imul S dX0_sideBeyond_32 (n := 33) rfl ?_
    have hJ3 : zK x g ({ frames := 0, cells := 0, slots := 0, locals := 0 } : Room) 3 0 0 41 [some (.ref (za g (11 + k))), some (.int a), some (.int b)] [.int ((if (3 * ((μ.1 (11 + k) 5) - a)) ≤ (b * (μ.1 (11 + k) 7)) then (0 : Int32) else (-1 : Int32)))] μ := by
      exact k_iret S Y dX0_sideBeyond_41 (by decide) (by decide) rfl (⟨by first | rw [zsb, if_neg c1] | rw [zsb, if_pos c1], rfl⟩)
    refine k_icmp_le S dX0_sideBeyond_33 (tgt := 40) (by decide) (n := 36) rfl (fun c2 => ?_) (fun c2 => ?_)
    ·
      refine k_iconst S dX0_sideBeyond_40 (v := 0) (by decide) (n := 41) rfl ?_
      rw [if_pos c2] at hJ3
      exact hJ3
    ·
      refine k_iconst S dX0_sideBeyond_36 (v := (-1)) (by decide) (n := 37) rfl ?_
      refine k_goto S dX0_sideBeyond_37 (tgt := 41) (by decide) ?_
      rw [if_neg c2] at hJ3
      exact hJ3
  ·
    refine k_iconst S dX0_sideBeyond_17 (v := 1) (by decide) (n := 18) rfl ?_
    exact k_iret S Y dX0_sideBeyond_18 (by decide) (by decide) rfl (⟨by first | rw [zsb, if_neg c1] | rw [zsb, if_pos c1], rfl⟩)
set_option maxRecDepth 100000 in
set_option maxHeartbeats 4000000 in
theorem c_X0_hasLimits {l : Launch} {g : zG} {k : Nat} {μ : zM} (hk : k < 10) : zC l g yX0_hasLimits cX0_hasLimits 1 (some .boolean) ({ frames := 0, cells := 0, slots := 0, locals := 0 } : Room) 0 0 [.ref (za g (11 + k))] μ (zRv (some (.int (if μ.1 (11 + k) 4 = 0 then (if μ.1 (11 + k) 1 ≤ 0 then 0 else 1) else 1))) μ) zNX := by
  refine zC_of (L0 := [some (.ref (za g (11 + k)))]) (plainFor_of_name (by decide)) (Nat.le_of_ble_eq_true rfl) rfl ?_
  intro x S Y hxl
  subst hxl
  refine k_aload0 S dX0_hasLimits_0 (n := 1) rfl ?_
  refine k_geti (T := TX0) (j := 4) S dX0_hasLimits_1 (zlt S (by omega)) (zki_ph hk) (ci := 0) rfl rfl (by decide) in_0 m_36 rfl rfl (n := 4) rfl ?_
  have hJ2 : zK x g ({ frames := 0, cells := 0, slots := 0, locals := 0 } : Room) 1 0 0 19 [some (.ref (za g (11 + k)))] [.int ((if (μ.1 (11 + k) 4) = 0 then (if (μ.1 (11 + k) 1) ≤ 0 then (0 : Int32) else (1 : Int32)) else (1 : Int32)))] μ := by
    exact k_iret S Y dX0_hasLimits_19 (by decide) (by decide) (by repeat' (first | rfl | split)) (⟨rfl, rfl⟩)
  refine k_if_ne S dX0_hasLimits_4 (tgt := 14) (by decide) (n := 7) rfl (fun c1 => ?_) (fun c1 => ?_)
  ·
    refine k_iconst S dX0_hasLimits_14 (v := 1) (by decide) (n := 15) rfl ?_
    refine k_goto S dX0_hasLimits_15 (tgt := 19) (by decide) ?_
    rw [if_neg c1] at hJ2
    exact hJ2
  ·
    refine k_aload0 S dX0_hasLimits_7 (n := 8) rfl ?_
    refine k_geti (T := TX0) (j := 1) S dX0_hasLimits_8 (zlt S (by omega)) (zki_ph hk) (ci := 0) rfl rfl (by decide) in_0 m_30 rfl rfl (n := 11) rfl ?_
    refine k_if_le S dX0_hasLimits_11 (tgt := 18) (by decide) (n := 14) rfl (fun c3 => ?_) (fun c3 => ?_)
    ·
      refine k_iconst S dX0_hasLimits_18 (v := 0) (by decide) (n := 19) rfl ?_
      rw [if_pos c1, if_pos c3] at hJ2
      exact hJ2
    ·
      refine k_iconst S dX0_hasLimits_14 (v := 1) (by decide) (n := 15) rfl ?_
      refine k_goto S dX0_hasLimits_15 (tgt := 19) (by decide) ?_
      rw [if_pos c1, if_neg c3] at hJ2
      exact hJ2
set_option maxRecDepth 100000 in
set_option maxHeartbeats 4000000 in
theorem c_X0_restart {l : Launch} {g : zG} {k : Nat} {μ : zM} {a : Int32} (hk : k < 10) : zC l g yX0_restart cX0_restart 2 none ({ frames := 0, cells := 0, slots := 0, locals := 0 } : Room) 0 0 [.ref (za g (11 + k)), .int a] μ (zRv none (zset μ (11 + k) (upd (upd (upd (upd (upd (μ.1 (11 + k)) 0 a) 1 0) 2 0) 3 0) 4 0))) zNX := by
  refine zC_of (L0 := [some (.ref (za g (11 + k))), some (.int a)]) (plainFor_of_name (by decide)) (Nat.le_of_ble_eq_true rfl) rfl ?_
  intro x S Y hxl
  subst hxl
  refine k_aload0 S dX0_restart_0 (n := 1) rfl ?_
  refine k_iload1 S dX0_restart_1 (n := 2) rfl ?_
  refine k_put (T := TX0) (j := 0) S dX0_restart_2 (zlt S (by omega)) (zki_ph hk) (ci := 0) rfl rfl (by decide) in_0 m_28 rfl rfl (ty0 := tyX0) tyX0_ok nmX0 rfl rfl rfl (n := 5) rfl ?_
  refine k_aload0 S dX0_restart_5 (n := 6) rfl ?_
  refine k_iconst S dX0_restart_6 (v := 0) (by decide) (n := 7) rfl ?_
  refine k_put (T := TX0) (j := 1) S dX0_restart_7 (zlt S (by omega)) (zki_ph hk) (ci := 0) rfl rfl (by decide) in_0 m_30 rfl rfl (ty0 := tyX0) tyX0_ok nmX0 rfl rfl rfl (n := 10) rfl ?_
  refine k_aload0 S dX0_restart_10 (n := 11) rfl ?_
  refine k_iconst S dX0_restart_11 (v := 0) (by decide) (n := 12) rfl ?_
  refine k_put (T := TX0) (j := 2) S dX0_restart_12 (zlt S (by omega)) (zki_ph hk) (ci := 0) rfl rfl (by decide) in_0 m_32 rfl rfl (ty0 := tyX0) tyX0_ok nmX0 rfl rfl rfl (n := 15) rfl ?_
  refine k_aload0 S dX0_restart_15 (n := 16) rfl ?_
  refine k_iconst S dX0_restart_16 (v := 0) (by decide) (n := 17) rfl ?_
  refine k_put (T := TX0) (j := 3) S dX0_restart_17 (zlt S (by omega)) (zki_ph hk) (ci := 0) rfl rfl (by decide) in_0 m_34 rfl rfl (ty0 := tyX0) tyX0_ok nmX0 rfl rfl rfl (n := 20) rfl ?_
  refine k_aload0 S dX0_restart_20 (n := 21) rfl ?_
  refine k_iconst S dX0_restart_21 (v := 0) (by decide) (n := 22) rfl ?_
  refine k_put (T := TX0) (j := 4) S dX0_restart_22 (zlt S (by omega)) (zki_ph hk) (ci := 0) rfl rfl (by decide) in_0 m_36 rfl rfl (ty0 := tyX0) tyX0_ok nmX0 rfl rfl rfl (n := 25) rfl ?_
  exact k_vret S Y dX0_restart_25 (by decide) (by decide) (⟨rfl, by simp only [zu_set, zset_zset, zset_at]⟩)
