/-! THE REFERENCE (place 21): its leaves, points and limits -/
def zii (a b c : Int32) : Int32 := if a < b then 0 else (if c < a then 0 else 1)
def zflM (a b : Int64) : Int64 := if lg_cmp (a / b * b) a ≤ 0 then a / b else a / b - 1
def zrdM (a b : Int64) : Int32 := Int64.toInt32 (zflM (2 * a + b) (2 * b))
theorem zii_1 {k c : Nat} (hk : k < c) (hc : c < 2 ^ 31) : zii (nI k) 0 (nI c - 1) = 1 := by
  unfold zii
  rw [if_neg (nI_pos (by omega)), show nI c - 1 = nI (c - 1) from pk_sub (a := c) (b := 1) (by omega), if_neg (nI_nlt (by omega) (by omega))]
theorem zii_0 {v : Int32} {c : Nat} (h : ¬ zIn v c) (hc : c < 2 ^ 30) : zii v 0 (nI c - 1) = 0 := by
  unfold zii
  by_cases h1 : v < 0
  · rw [if_pos h1]
  · rw [if_neg h1]
    by_cases h2 : nI c - 1 < v
    · rw [if_pos h2]
    · refine absurd ?_ h
      obtain ⟨j, hj, e⟩ := nI_of h1
      subst e
      refine ⟨j, ?_, rfl⟩
      rw [Int32.lt_iff_toInt_lt, show nI c - 1 = nI c - nI 1 from rfl, pk_sub_toInt hc (by omega), nI_toInt hj] at h2
      omega
theorem zii_r {a : Nat} {lo hi : Nat} (h1 : lo ≤ a) (h2 : a ≤ hi) (h : hi < 2 ^ 31) : zii (nI a) (nI lo) (nI hi) = 1 := by
  unfold zii
  rw [if_neg (nI_nlt h1 (by omega)), if_neg (nI_nlt h2 (by omega))]
theorem zii_o {a lo hi : Int32} (h : ¬ (lo ≤ a ∧ a ≤ hi)) : zii a lo hi = 0 := by
  unfold zii
  by_cases h1 : a < lo
  · rw [if_pos h1]
  · rw [if_neg h1, if_pos (Int32.not_le.mp fun q => h ⟨Int32.not_lt.mp h1, q⟩)]
theorem zii_i {a lo hi : Int32} (h1 : lo ≤ a) (h2 : a ≤ hi) : zii a lo hi = 1 := by
  unfold zii
  rw [if_neg (Int32.not_lt.mpr h1), if_neg (Int32.not_lt.mpr h2)]
set_option maxRecDepth 100000 in
set_option maxHeartbeats 4000000 in
theorem c_X4_isIn {l : Launch} {g : zG} {a b c : Int32} {μ : zM} : zC l g yX4_isIn cX4_isIn 3 (some .boolean) ({ frames := 0, cells := 0, slots := 0, locals := 0 } : Room) 0 0 [.int a, .int b, .int c] μ (zRv (some (.int (zii a b c))) μ) zNX := by
  refine zC_of (L0 := [some (.int a), some (.int b), some (.int c)]) (plainFor_of_name (by decide)) (Nat.le_of_ble_eq_true rfl) rfl ?_
  intro x S Y hxl
  subst hxl
  refine k_iload0 S dX4_isIn_0 (n := 1) rfl ?_
  refine k_iload1 S dX4_isIn_1 (n := 2) rfl ?_
  have hJ2 : zK x g ({ frames := 0, cells := 0, slots := 0, locals := 0 } : Room) 3 0 0 15 [some (.int a), some (.int b), some (.int c)] [.int ((if a < b then (0 : Int32) else (if c < a then (0 : Int32) else (1 : Int32))))] μ := by
    exact k_iret S Y dX4_isIn_15 (by decide) (by decide) (by repeat' (first | rfl | split)) (⟨rfl, rfl⟩)
  refine k_icmp_lt S dX4_isIn_2 (tgt := 14) (by decide) (n := 5) rfl (fun c1 => ?_) (fun c1 => ?_)
  ·
    refine k_iconst S dX4_isIn_14 (v := 0) (by decide) (n := 15) rfl ?_
    rw [if_pos c1] at hJ2
    exact hJ2
  ·
    refine k_iload0 S dX4_isIn_5 (n := 6) rfl ?_
    refine k_iload2 S dX4_isIn_6 (n := 7) rfl ?_
    refine k_icmp_gt S dX4_isIn_7 (tgt := 14) (by decide) (n := 10) rfl (fun c3 => ?_) (fun c3 => ?_)
    ·
      refine k_iconst S dX4_isIn_14 (v := 0) (by decide) (n := 15) rfl ?_
      rw [if_neg c1, if_pos c3] at hJ2
      exact hJ2
    ·
      refine k_iconst S dX4_isIn_10 (v := 1) (by decide) (n := 11) rfl ?_
      refine k_goto S dX4_isIn_11 (tgt := 15) (by decide) ?_
      rw [if_neg c1, if_neg c3] at hJ2
      exact hJ2
set_option maxRecDepth 100000 in
set_option maxHeartbeats 4000000 in
theorem c_X4_floored {l : Launch} {g : zG} {a b : Int64} {μ : zM} (h0 : ¬ b = 0) : zC l g yX4_floored cX4_floored 6 (some .long) ({ frames := 0, cells := 0, slots := 0, locals := 0 } : Room) 0 0 [.long a, .long b] μ (zRv (some (.long (zflM a b))) μ) zNX := by
  refine zC_of (L0 := [some (.long a), none, some (.long b), none, none, none]) (plainFor_of_name (by decide)) (Nat.le_of_ble_eq_true rfl) rfl ?_
  intro x S Y hxl
  subst hxl
  refine k_lload0 S dX4_floored_0 (n := 1) rfl ?_
  refine k_lload2 S dX4_floored_1 (n := 2) rfl ?_
  refine k_ldiv S dX4_floored_2 h0 (n := 3) rfl ?_
  refine k_lstore4 S dX4_floored_3 (by decide) rfl (n := 5) rfl ?_
  refine k_lload4 S dX4_floored_5 (n := 7) rfl ?_
  refine k_lload2 S dX4_floored_7 (n := 8) rfl ?_
  refine k_lmul S dX4_floored_8 (n := 9) rfl ?_
  refine k_lload0 S dX4_floored_9 (n := 10) rfl ?_
  refine k_lcmp S dX4_floored_10 (n := 11) rfl ?_
  have hJ2 : zK x g ({ frames := 0, cells := 0, slots := 0, locals := 0 } : Room) 6 0 0 23 [some (.long a), none, some (.long b), none, some (.long (a / b)), none] [.long ((if (lg_cmp ((a / b) * b) a) ≤ 0 then a / b else (a / b) - 1))] μ := by
    exact k_lret S Y dX4_floored_23 (by decide) (by decide) (⟨rfl, rfl⟩)
  refine k_if_le S dX4_floored_11 (tgt := 21) (by decide) (n := 14) rfl (fun c1 => ?_) (fun c1 => ?_)
  ·
    refine k_lload4 S dX4_floored_21 (n := 23) rfl ?_
    rw [if_pos c1] at hJ2
    exact hJ2
  ·
    refine k_lload4 S dX4_floored_14 (n := 16) rfl ?_
    refine k_lconst S dX4_floored_16 (v := 1) (by decide) (n := 17) rfl ?_
    refine k_lsub S dX4_floored_17 (n := 18) rfl ?_
    refine k_goto S dX4_floored_18 (tgt := 23) (by decide) ?_
    rw [if_neg c1] at hJ2
    exact hJ2
set_option maxRecDepth 100000 in
set_option maxHeartbeats 4000000 in
theorem c_X4_rounded {l : Launch} {g : zG} {a b : Int64} {μ : zM} (h0 : ¬ 2 * b = 0) : zC l g yX4_rounded cX4_rounded 4 (some .int) ({ frames := 1, cells := 0, slots := 0, locals := 25 } : Room) 0 0 [.long a, .long b] μ (zRv (some (.int (zrdM a b))) μ) zNX := by
  refine zC_of (L0 := [some (.long a), none, some (.long b), none]) (plainFor_of_name (by decide)) (Nat.le_of_ble_eq_true rfl) rfl ?_
  intro x S Y hxl
  subst hxl
  refine k_ldc2 S dX4_rounded_0 (v := 2) m_789 (n := 3) rfl ?_
  refine k_lload0 S dX4_rounded_3 (n := 4) rfl ?_
  refine k_lmul S dX4_rounded_4 (n := 5) rfl ?_
  refine k_lload2 S dX4_rounded_5 (n := 6) rfl ?_
  refine k_ladd S dX4_rounded_6 (n := 7) rfl ?_
  refine k_ldc2 S dX4_rounded_7 (v := 2) m_789 (n := 10) rfl ?_
  refine k_lload2 S dX4_rounded_10 (n := 11) rfl ?_
  refine k_lmul S dX4_rounded_11 (n := 12) rfl ?_
  refine k_callS (As := [.long ((2 * a) + b), .long (2 * b)]) (rest := []) S (c_X4_floored h0) mv_X4_floored m_790 dX4_rounded_12 rfl rfl ⟨by decide, by decide⟩ rfl rfl (Nat.le_of_ble_eq_true rfl) ⟨by decide, by decide⟩ (n := 15) rfl (fun _ _ h => h.elim) (fun v9 ν9 h9 => ?_)
  rw [h9.1, h9.2]
  show zK x g ({ frames := 1, cells := 0, slots := 0, locals := 25 } : Room) 4 0 0 15 [some (.long a), none, some (.long b), none] [.long (zflM ((2 * a) + b) (2 * b))] μ
  refine k_l2i S dX4_rounded_15 (n := 16) rfl ?_
  exact k_iret S Y dX4_rounded_16 (by decide) (by decide) rfl (⟨rfl, rfl⟩)
def v_X4_factor (a b c d e f : Int32) : Int32 := (if a = 2 then b else (if a = 3 then c else (if a = 4 then d else (if a = 5 then e else f))))
set_option maxRecDepth 100000 in
set_option maxHeartbeats 4000000 in
theorem c_X4_factor {l : Launch} {g : zG} {a b c d e f : Int32} {μ : zM} : zC l g yX4_factor cX4_factor 6 (some .int) ({ frames := 0, cells := 0, slots := 0, locals := 0 } : Room) 0 0 [.int a, .int b, .int c, .int d, .int e, .int f] μ (zRv (some (.int (v_X4_factor a b c d e f))) μ) zNX := by
  refine zC_of (L0 := [some (.int a), some (.int b), some (.int c), some (.int d), some (.int e), some (.int f)]) (plainFor_of_name (by decide)) (Nat.le_of_ble_eq_true rfl) rfl ?_
  intro x S Y hxl
  subst hxl
  refine k_iload0 S dX4_factor_0 (n := 1) rfl ?_
  refine k_iconst S dX4_factor_1 (v := 2) (by decide) (n := 2) rfl ?_
  have hJ2 : zK x g ({ frames := 0, cells := 0, slots := 0, locals := 0 } : Room) 6 0 0 39 [some (.int a), some (.int b), some (.int c), some (.int d), some (.int e), some (.int f)] [.int ((if a = 2 then b else (if a = 3 then c else (if a = 4 then d else (if a = 5 then e else f)))))] μ := by
    exact k_iret S Y dX4_factor_39 (by decide) (by decide) rfl (⟨rfl, rfl⟩)
  refine k_icmp_ne S dX4_factor_2 (tgt := 9) (by decide) (n := 5) rfl (fun c1 => ?_) (fun c1 => ?_)
  ·
    refine k_iload0 S dX4_factor_9 (n := 10) rfl ?_
    refine k_iconst S dX4_factor_10 (v := 3) (by decide) (n := 11) rfl ?_
    refine k_icmp_ne S dX4_factor_11 (tgt := 18) (by decide) (n := 14) rfl (fun c3 => ?_) (fun c3 => ?_)
    ·
      refine k_iload0 S dX4_factor_18 (n := 19) rfl ?_
      refine k_iconst S dX4_factor_19 (v := 4) (by decide) (n := 20) rfl ?_
      refine k_icmp_ne S dX4_factor_20 (tgt := 27) (by decide) (n := 23) rfl (fun c4 => ?_) (fun c4 => ?_)
      ·
        refine k_iload0 S dX4_factor_27 (n := 28) rfl ?_
        refine k_iconst S dX4_factor_28 (v := 5) (by decide) (n := 29) rfl ?_
        refine k_icmp_ne S dX4_factor_29 (tgt := 37) (by decide) (n := 32) rfl (fun c5 => ?_) (fun c5 => ?_)
        ·
          refine k_iload5 S dX4_factor_37 (n := 39) rfl ?_
          rw [if_neg c1, if_neg c3, if_neg c4, if_neg c5] at hJ2
          exact hJ2
        ·
          refine k_iload4 S dX4_factor_32 (n := 34) rfl ?_
          refine k_goto S dX4_factor_34 (tgt := 39) (by decide) ?_
          rw [if_neg c1, if_neg c3, if_neg c4, if_pos c5] at hJ2
          exact hJ2
      ·
        refine k_iload3 S dX4_factor_23 (n := 24) rfl ?_
        refine k_goto S dX4_factor_24 (tgt := 39) (by decide) ?_
        rw [if_neg c1, if_neg c3, if_pos c4] at hJ2
        exact hJ2
    ·
      refine k_iload2 S dX4_factor_14 (n := 15) rfl ?_
      refine k_goto S dX4_factor_15 (tgt := 39) (by decide) ?_
      rw [if_neg c1, if_pos c3] at hJ2
      exact hJ2
  ·
    refine k_iload1 S dX4_factor_5 (n := 6) rfl ?_
    refine k_goto S dX4_factor_6 (tgt := 39) (by decide) ?_
    rw [if_pos c1] at hJ2
    exact hJ2
set_option maxRecDepth 100000 in
set_option maxHeartbeats 4000000 in
theorem c_X4_thrown {l : Launch} {g : zG} {μ : zM} (hn : zn g = 32) : zC l g yX4_thrown cX4_thrown 1 (some .int) ({ frames := 0, cells := 0, slots := 0, locals := 0 } : Room) 0 0 [.ref (za g 21)] μ (zRv (some (.int (μ.1 21 23))) μ) zNX := by
  refine zC_of (L0 := [some (.ref (za g 21))]) (plainFor_of_name (by decide)) (Nat.le_of_ble_eq_true rfl) rfl ?_
  intro x S Y hxl
  subst hxl
  refine k_aload0 S dX4_thrown_0 (n := 1) rfl ?_
  refine k_geti (T := TX4) (j := 23) S dX4_thrown_1 (by rw [hn]; decide) (by decide) (ci := 4) rfl rfl (by decide) in_4 m_695 rfl rfl (n := 4) rfl ?_
  exact k_iret S Y dX4_thrown_4 (by decide) (by decide) rfl (⟨rfl, rfl⟩)
set_option maxRecDepth 100000 in
set_option maxHeartbeats 4000000 in
theorem c_X4_isPhase_ok {l : Launch} {g : zG} {μ : zM} {k c : Nat} (hn : zn g = 32) (hc : μ.1 21 9 = nI c) (hc60 : c ≤ 60) (hk : k < c) : zC l g yX4_isPhase cX4_isPhase 2 (some .boolean) ({ frames := 1, cells := 0, slots := 0, locals := 22 } : Room) 0 0 [.ref (za g 21), .int (nI k)] μ (zRv (some (.int 1)) (zu μ 21 23 0)) zNX := by
  refine zC_of (L0 := [some (.ref (za g 21)), some (.int (nI k))]) (plainFor_of_name (by decide)) (Nat.le_of_ble_eq_true rfl) rfl ?_
  intro x S Y hxl
  subst hxl
  refine k_aload0 S dX4_isPhase_0 (n := 1) rfl ?_
  refine k_iload1 S dX4_isPhase_1 (n := 2) rfl ?_
  refine k_iconst S dX4_isPhase_2 (v := 0) (by decide) (n := 3) rfl ?_
  refine k_aload0 S dX4_isPhase_3 (n := 4) rfl ?_
  refine k_getv (v := nI c) (T := TX4) (j := 9) S dX4_isPhase_4 (by rw [hn]; decide) (by decide) (ci := 4) rfl rfl (by decide) in_4 m_681 rfl rfl hc (n := 7) rfl ?_
  refine k_iconst S dX4_isPhase_7 (v := 1) (by decide) (n := 8) rfl ?_
  refine k_isub S dX4_isPhase_8 (n := 9) rfl ?_
  refine k_callS (As := [.int (nI k), .int 0, .int ((nI c) - 1)]) (rest := [.ref (za g 21)]) S (c_X4_isIn) mv_X4_isIn m_754 dX4_isPhase_9 rfl rfl ⟨by decide, by decide⟩ rfl rfl (Nat.le_of_ble_eq_true rfl) ⟨by decide, by decide⟩ (n := 12) rfl (fun _ _ h => h.elim) (fun v9 ν9 h9 => ?_)
  rw [h9.1, h9.2]
  show zK x g ({ frames := 1, cells := 0, slots := 0, locals := 22 } : Room) 2 0 0 12 [some (.ref (za g 21)), some (.int (nI k))] [.int (zii (nI k) 0 ((nI c) - 1)), .ref (za g 21)] μ
  refine k_if_eq S dX4_isPhase_12 (tgt := 19) (by decide) (n := 15) rfl (fun h9 => absurd h9 (by rw [zii_1 hk (by omega)]; decide)) (fun _ => ?_)
  refine k_iconst S dX4_isPhase_15 (v := 0) (by decide) (n := 16) rfl ?_
  refine k_goto S dX4_isPhase_16 (tgt := 20) (by decide) ?_
  refine k_put (T := TX4) (j := 23) S dX4_isPhase_20 (by rw [hn]; decide) (by decide) (ci := 4) rfl rfl (by decide) in_4 m_695 rfl rfl (ty0 := tyX4) tyX4_ok nmX4 rfl rfl rfl (n := 23) rfl ?_
  refine k_aload0 S dX4_isPhase_23 (n := 24) rfl ?_
  refine k_getv (v := 0) (T := TX4) (j := 23) S dX4_isPhase_24 (by rw [hn]; decide) (by decide) (ci := 4) rfl rfl (by decide) in_4 m_695 rfl rfl (by simp [zu, zset, upd]) (n := 27) rfl ?_
  refine k_if_ne S dX4_isPhase_27 (tgt := 34) (by decide) (n := 30) rfl (fun h9 => absurd (by decide) h9) (fun _ => ?_)
  refine k_iconst S dX4_isPhase_30 (v := 1) (by decide) (n := 31) rfl ?_
  refine k_goto S dX4_isPhase_31 (tgt := 35) (by decide) ?_
  exact k_iret S Y dX4_isPhase_35 (by decide) (by decide) rfl (⟨rfl, rfl⟩)
set_option maxRecDepth 100000 in
set_option maxHeartbeats 4000000 in
theorem c_X4_isPhase_no {l : Launch} {g : zG} {μ : zM} {v : Int32} {c : Nat} (hn : zn g = 32) (hc : μ.1 21 9 = nI c) (hc60 : c ≤ 60) (hk : ¬ zIn v c) : zC l g yX4_isPhase cX4_isPhase 2 (some .boolean) ({ frames := 1, cells := 0, slots := 0, locals := 22 } : Room) 0 0 [.ref (za g 21), .int v] μ (zRv (some (.int 0)) (zu μ 21 23 1)) zNX := by
  refine zC_of (L0 := [some (.ref (za g 21)), some (.int v)]) (plainFor_of_name (by decide)) (Nat.le_of_ble_eq_true rfl) rfl ?_
  intro x S Y hxl
  subst hxl
  refine k_aload0 S dX4_isPhase_0 (n := 1) rfl ?_
  refine k_iload1 S dX4_isPhase_1 (n := 2) rfl ?_
  refine k_iconst S dX4_isPhase_2 (v := 0) (by decide) (n := 3) rfl ?_
  refine k_aload0 S dX4_isPhase_3 (n := 4) rfl ?_
  refine k_getv (v := nI c) (T := TX4) (j := 9) S dX4_isPhase_4 (by rw [hn]; decide) (by decide) (ci := 4) rfl rfl (by decide) in_4 m_681 rfl rfl hc (n := 7) rfl ?_
  refine k_iconst S dX4_isPhase_7 (v := 1) (by decide) (n := 8) rfl ?_
  refine k_isub S dX4_isPhase_8 (n := 9) rfl ?_
  refine k_callS (As := [.int v, .int 0, .int ((nI c) - 1)]) (rest := [.ref (za g 21)]) S (c_X4_isIn) mv_X4_isIn m_754 dX4_isPhase_9 rfl rfl ⟨by decide, by decide⟩ rfl rfl (Nat.le_of_ble_eq_true rfl) ⟨by decide, by decide⟩ (n := 12) rfl (fun _ _ h => h.elim) (fun v9 ν9 h9 => ?_)
  rw [h9.1, h9.2]
  show zK x g ({ frames := 1, cells := 0, slots := 0, locals := 22 } : Room) 2 0 0 12 [some (.ref (za g 21)), some (.int v)] [.int (zii v 0 ((nI c) - 1)), .ref (za g 21)] μ
  refine k_if_eq S dX4_isPhase_12 (tgt := 19) (by decide) (n := 15) rfl (fun _ => ?_) (fun h9 => absurd (zii_0 hk (by omega)) h9)
  refine k_iconst S dX4_isPhase_19 (v := 1) (by decide) (n := 20) rfl ?_
  refine k_put (T := TX4) (j := 23) S dX4_isPhase_20 (by rw [hn]; decide) (by decide) (ci := 4) rfl rfl (by decide) in_4 m_695 rfl rfl (ty0 := tyX4) tyX4_ok nmX4 rfl rfl rfl (n := 23) rfl ?_
  refine k_aload0 S dX4_isPhase_23 (n := 24) rfl ?_
  refine k_getv (v := 1) (T := TX4) (j := 23) S dX4_isPhase_24 (by rw [hn]; decide) (by decide) (ci := 4) rfl rfl (by decide) in_4 m_695 rfl rfl (by simp [zu, zset, upd]) (n := 27) rfl ?_
  refine k_if_ne S dX4_isPhase_27 (tgt := 34) (by decide) (n := 30) rfl (fun _ => ?_) (fun h9 => absurd h9 (by decide))
  refine k_iconst S dX4_isPhase_34 (v := 0) (by decide) (n := 35) rfl ?_
  exact k_iret S Y dX4_isPhase_35 (by decide) (by decide) rfl (⟨rfl, rfl⟩)
set_option maxRecDepth 100000 in
set_option maxHeartbeats 4000000 in
theorem c_X4_isDone_ok {l : Launch} {g : zG} {μ : zM} {k c : Nat} (hn : zn g = 32) (hc : μ.1 21 1 = nI c) (hc60 : c ≤ 60) (hk : k < c) : zC l g yX4_isDone cX4_isDone 2 (some .boolean) ({ frames := 1, cells := 0, slots := 0, locals := 22 } : Room) 0 0 [.ref (za g 21), .int (nI k)] μ (zRv (some (.int 1)) (zu μ 21 23 0)) zNX := by
  refine zC_of (L0 := [some (.ref (za g 21)), some (.int (nI k))]) (plainFor_of_name (by decide)) (Nat.le_of_ble_eq_true rfl) rfl ?_
  intro x S Y hxl
  subst hxl
  refine k_aload0 S dX4_isDone_0 (n := 1) rfl ?_
  refine k_iload1 S dX4_isDone_1 (n := 2) rfl ?_
  refine k_iconst S dX4_isDone_2 (v := 0) (by decide) (n := 3) rfl ?_
  refine k_aload0 S dX4_isDone_3 (n := 4) rfl ?_
  refine k_getv (v := nI c) (T := TX4) (j := 1) S dX4_isDone_4 (by rw [hn]; decide) (by decide) (ci := 4) rfl rfl (by decide) in_4 m_673 rfl rfl hc (n := 7) rfl ?_
  refine k_iconst S dX4_isDone_7 (v := 1) (by decide) (n := 8) rfl ?_
  refine k_isub S dX4_isDone_8 (n := 9) rfl ?_
  refine k_callS (As := [.int (nI k), .int 0, .int ((nI c) - 1)]) (rest := [.ref (za g 21)]) S (c_X4_isIn) mv_X4_isIn m_754 dX4_isDone_9 rfl rfl ⟨by decide, by decide⟩ rfl rfl (Nat.le_of_ble_eq_true rfl) ⟨by decide, by decide⟩ (n := 12) rfl (fun _ _ h => h.elim) (fun v9 ν9 h9 => ?_)
  rw [h9.1, h9.2]
  show zK x g ({ frames := 1, cells := 0, slots := 0, locals := 22 } : Room) 2 0 0 12 [some (.ref (za g 21)), some (.int (nI k))] [.int (zii (nI k) 0 ((nI c) - 1)), .ref (za g 21)] μ
  refine k_if_eq S dX4_isDone_12 (tgt := 19) (by decide) (n := 15) rfl (fun h9 => absurd h9 (by rw [zii_1 hk (by omega)]; decide)) (fun _ => ?_)
  refine k_iconst S dX4_isDone_15 (v := 0) (by decide) (n := 16) rfl ?_
  refine k_goto S dX4_isDone_16 (tgt := 20) (by decide) ?_
  refine k_put (T := TX4) (j := 23) S dX4_isDone_20 (by rw [hn]; decide) (by decide) (ci := 4) rfl rfl (by decide) in_4 m_695 rfl rfl (ty0 := tyX4) tyX4_ok nmX4 rfl rfl rfl (n := 23) rfl ?_
  refine k_aload0 S dX4_isDone_23 (n := 24) rfl ?_
  refine k_getv (v := 0) (T := TX4) (j := 23) S dX4_isDone_24 (by rw [hn]; decide) (by decide) (ci := 4) rfl rfl (by decide) in_4 m_695 rfl rfl (by simp [zu, zset, upd]) (n := 27) rfl ?_
  refine k_if_ne S dX4_isDone_27 (tgt := 34) (by decide) (n := 30) rfl (fun h9 => absurd (by decide) h9) (fun _ => ?_)
  refine k_iconst S dX4_isDone_30 (v := 1) (by decide) (n := 31) rfl ?_
  refine k_goto S dX4_isDone_31 (tgt := 35) (by decide) ?_
  exact k_iret S Y dX4_isDone_35 (by decide) (by decide) rfl (⟨rfl, rfl⟩)
set_option maxRecDepth 100000 in
set_option maxHeartbeats 4000000 in
theorem c_X4_isDone_no {l : Launch} {g : zG} {μ : zM} {v : Int32} {c : Nat} (hn : zn g = 32) (hc : μ.1 21 1 = nI c) (hc60 : c ≤ 60) (hk : ¬ zIn v c) : zC l g yX4_isDone cX4_isDone 2 (some .boolean) ({ frames := 1, cells := 0, slots := 0, locals := 22 } : Room) 0 0 [.ref (za g 21), .int v] μ (zRv (some (.int 0)) (zu μ 21 23 1)) zNX := by
  refine zC_of (L0 := [some (.ref (za g 21)), some (.int v)]) (plainFor_of_name (by decide)) (Nat.le_of_ble_eq_true rfl) rfl ?_
  intro x S Y hxl
  subst hxl
  refine k_aload0 S dX4_isDone_0 (n := 1) rfl ?_
  refine k_iload1 S dX4_isDone_1 (n := 2) rfl ?_
  refine k_iconst S dX4_isDone_2 (v := 0) (by decide) (n := 3) rfl ?_
  refine k_aload0 S dX4_isDone_3 (n := 4) rfl ?_
  refine k_getv (v := nI c) (T := TX4) (j := 1) S dX4_isDone_4 (by rw [hn]; decide) (by decide) (ci := 4) rfl rfl (by decide) in_4 m_673 rfl rfl hc (n := 7) rfl ?_
  refine k_iconst S dX4_isDone_7 (v := 1) (by decide) (n := 8) rfl ?_
  refine k_isub S dX4_isDone_8 (n := 9) rfl ?_
  refine k_callS (As := [.int v, .int 0, .int ((nI c) - 1)]) (rest := [.ref (za g 21)]) S (c_X4_isIn) mv_X4_isIn m_754 dX4_isDone_9 rfl rfl ⟨by decide, by decide⟩ rfl rfl (Nat.le_of_ble_eq_true rfl) ⟨by decide, by decide⟩ (n := 12) rfl (fun _ _ h => h.elim) (fun v9 ν9 h9 => ?_)
  rw [h9.1, h9.2]
  show zK x g ({ frames := 1, cells := 0, slots := 0, locals := 22 } : Room) 2 0 0 12 [some (.ref (za g 21)), some (.int v)] [.int (zii v 0 ((nI c) - 1)), .ref (za g 21)] μ
  refine k_if_eq S dX4_isDone_12 (tgt := 19) (by decide) (n := 15) rfl (fun _ => ?_) (fun h9 => absurd (zii_0 hk (by omega)) h9)
  refine k_iconst S dX4_isDone_19 (v := 1) (by decide) (n := 20) rfl ?_
  refine k_put (T := TX4) (j := 23) S dX4_isDone_20 (by rw [hn]; decide) (by decide) (ci := 4) rfl rfl (by decide) in_4 m_695 rfl rfl (ty0 := tyX4) tyX4_ok nmX4 rfl rfl rfl (n := 23) rfl ?_
  refine k_aload0 S dX4_isDone_23 (n := 24) rfl ?_
  refine k_getv (v := 1) (T := TX4) (j := 23) S dX4_isDone_24 (by rw [hn]; decide) (by decide) (ci := 4) rfl rfl (by decide) in_4 m_695 rfl rfl (by simp [zu, zset, upd]) (n := 27) rfl ?_
  refine k_if_ne S dX4_isDone_27 (tgt := 34) (by decide) (n := 30) rfl (fun _ => ?_) (fun h9 => absurd h9 (by decide))
  refine k_iconst S dX4_isDone_34 (v := 0) (by decide) (n := 35) rfl ?_
  exact k_iret S Y dX4_isDone_35 (by decide) (by decide) rfl (⟨rfl, rfl⟩)
def zat (p : Nat) (k : Nat) : Nat := if k ≤ p then k - 1 else p
theorem zat_s {p k : Nat} (h : k ≤ p) : zat p (k + 1) = k := by
  unfold zat
  split
  · omega
  · omega
theorem zat_n {p k : Nat} (h : ¬ k ≤ p) : zat p (k + 1) = zat p k := by
  unfold zat
  rw [if_neg h, if_neg (by omega)]
/-- the reference's phases: c of them, fs their first subgroups, ph i the one of subgroup i -/
def zMP (μ : zM) (d c : Nat) (ph fs : Nat → Nat) : Prop := μ.1 21 9 = nI c ∧ c ≤ 10 ∧ (∀ k, k < c → μ.1 25 k = nI (fs k) ∧ fs k ≤ 60) ∧ (∀ i, i < d → ph i < c ∧ ∀ k, k < c → (fs k ≤ i ↔ k ≤ ph i))
theorem zMP.mono {μ ν : zM} {d c : Nat} {ph fs : Nat → Nat} (h : zMP μ d c ph fs) (h9 : ν.1 21 9 = μ.1 21 9) (h25 : ν.1 25 = μ.1 25) : zMP ν d c ph fs := by
  obtain ⟨a, b, c', e⟩ := h
  exact ⟨by rw [h9]; exact a, b, fun k hk => by rw [h25]; exact c' k hk, e⟩
set_option maxRecDepth 100000 in
set_option maxHeartbeats 4000000 in
theorem l_X4_phase {x : zX} {g : zG} {μ : zM} {i d c : Nat} {ph fs : Nat → Nat} (S : zS x g 4 cX4_phase RX4) (Y : zR x g (some .int) 0 0 [] (zRv (some (.int (nI (ph i)))) μ) zNX) (hn : zn g = 32)  (h : zMP μ d c ph fs) (hi : i < d) (hd : d ≤ 60) : ∀ (m k : Nat), k + m = c → zK x g ({ frames := 0, cells := 0, slots := 0, locals := 0 } : Room) 4 0 0 4 [some (.ref (za g 21)), some (.int (nI i)), some (.int (nI (zat (ph i) k))), some (.int (nI k))] [] μ := by
  intro m
  induction m with
  | zero =>
    intro k h1
    obtain rfl : c = k := by omega
    refine k_iload3 S dX4_phase_4 (n := 5) rfl ?_
    refine k_aload0 S dX4_phase_5 (n := 6) rfl ?_
    refine k_getv (v := nI c) (T := TX4) (j := 9) S dX4_phase_6 (by rw [hn]; decide) (by decide) (ci := 4) rfl rfl (by decide) in_4 m_681 rfl rfl h.1 (n := 9) rfl ?_
    refine k_icmp_ge S dX4_phase_9 (tgt := 34) (by decide) (n := 12) rfl (fun _ => ?_) (fun h9 => absurd (Int32.le_refl _) h9)
    refine k_iload2 S dX4_phase_34 (n := 35) rfl ?_
    exact k_iret S Y dX4_phase_35 (by decide) (by decide) rfl (⟨by rw [show zat (ph i) c = ph i from if_neg (by have := (h.2.2.2 i hi).1; omega)], rfl⟩)
  | succ m ih =>
    intro k h1
    have hk := h.2.2.1 k (by omega)
    have h10 := h.2.1
    have hp := (h.2.2.2 i hi).2 k (by omega)
    refine k_iload3 S dX4_phase_4 (n := 5) rfl ?_
    refine k_aload0 S dX4_phase_5 (n := 6) rfl ?_
    refine k_getv (v := nI c) (T := TX4) (j := 9) S dX4_phase_6 (by rw [hn]; decide) (by decide) (ci := 4) rfl rfl (by decide) in_4 m_681 rfl rfl h.1 (n := 9) rfl ?_
    refine k_icmp_ge S dX4_phase_9 (tgt := 34) (by decide) (n := 12) rfl (fun h9 => absurd h9 (nI_ge (by omega) (by omega))) (fun _ => ?_)
    refine k_aload0 S dX4_phase_12 (n := 13) rfl ?_
    refine k_getr (r := 25) (T := TX4) (j := 10) S dX4_phase_13 (by rw [hn]; decide) (by decide) (ci := 4) rfl rfl (by decide) in_4 m_682 rfl rfl (n := 16) rfl ?_
    refine k_iload3 S dX4_phase_16 (n := 17) rfl ?_
    refine k_ialdv (v := nI (fs k)) S dX4_phase_17 (j := k) (by rw [hn]; decide) (by decide) rfl (show k < 10 by omega) (by decide) hk.1 (n := 18) rfl ?_
    refine k_iload1 S dX4_phase_18 (n := 19) rfl ?_
    refine k_icmp_gt S dX4_phase_19 (tgt := 26) (by decide) (n := 22) rfl (fun c1 => ?_) (fun c1 => ?_)
    ·
      have c2 : ¬ k ≤ ph i := fun q => absurd ((nI_ltI (by omega) (by omega)).mp c1) (by have := hp.mpr q; omega)
      have e1 := zat_n c2
      refine k_iload2 S dX4_phase_26 (n := 27) rfl ?_
      refine k_istore2 S dX4_phase_27 (by decide) rfl (n := 28) rfl ?_
      refine k_iinc3 S dX4_phase_28 (v := nI (k + 1)) (zi1 k) (by decide) (n := 31) rfl ?_
      refine k_goto S dX4_phase_31 (tgt := 4) (by decide) ?_
      have q9 := ih (k + 1) (by omega)
      rw [e1] at q9
      exact q9
    ·
      have c2 : k ≤ ph i := hp.mp (Nat.not_lt.mp fun q => c1 (nI_lt q (by omega)))
      have e1 := zat_s c2
      refine k_iload3 S dX4_phase_22 (n := 23) rfl ?_
      refine k_goto S dX4_phase_23 (tgt := 27) (by decide) ?_
      refine k_istore2 S dX4_phase_27 (by decide) rfl (n := 28) rfl ?_
      refine k_iinc3 S dX4_phase_28 (v := nI (k + 1)) (zi1 k) (by decide) (n := 31) rfl ?_
      refine k_goto S dX4_phase_31 (tgt := 4) (by decide) ?_
      have q9 := ih (k + 1) (by omega)
      rw [e1] at q9
      exact q9
set_option maxRecDepth 100000 in
set_option maxHeartbeats 4000000 in
theorem c_X4_phase {l : Launch} {g : zG} {μ : zM} {i d c : Nat} {ph fs : Nat → Nat} (hn : zn g = 32) (h : zMP μ d c ph fs) (hi : i < d) (hd : d ≤ 60) : zC l g yX4_phase cX4_phase 4 (some .int) ({ frames := 0, cells := 0, slots := 0, locals := 0 } : Room) 0 0 [.ref (za g 21), .int (nI i)] μ (zRv (some (.int (nI (ph i)))) μ) zNX := by
  refine zC_of (L0 := [some (.ref (za g 21)), some (.int (nI i)), none, none]) (plainFor_of_name (by decide)) (Nat.le_of_ble_eq_true rfl) rfl ?_
  intro x S Y hxl
  subst hxl
  refine k_iconst S dX4_phase_0 (v := 0) (by decide) (n := 1) rfl ?_
  refine k_istore2 S dX4_phase_1 (by decide) rfl (n := 2) rfl ?_
  refine k_iconst S dX4_phase_2 (v := 0) (by decide) (n := 3) rfl ?_
  refine k_istore3 S dX4_phase_3 (by decide) rfl (n := 4) rfl ?_
  exact l_X4_phase S Y hn h hi hd c 0 (by omega)
/-- how many of the first n subgroups are points of phase t; which; and the memory where they are laid -/
def zpc (ph : Nat → Nat) (rs : Nat → Int32) (t : Nat) : Nat → Nat
  | 0 => 0
  | n + 1 => if ph n = t then (if rs n = 0 then zpc ph rs t n + 1 else zpc ph rs t n) else zpc ph rs t n
def zpx (ph : Nat → Nat) (rs : Nat → Int32) (t : Nat) : Nat → (Nat → Nat)
  | 0 => fun _ => 0
  | n + 1 => if ph n = t then (if rs n = 0 then (fun j => if j = zpc ph rs t n then n else zpx ph rs t n j) else zpx ph rs t n) else zpx ph rs t n
def zmn (μ : zM) (i : Nat) : Int32 := zrdM (1000 * Int32.toInt64 (μ.1 22 i)) (Int32.toInt64 (μ.1 21 0))
def zpM (μ : zM) (ph : Nat → Nat) (t : Nat) : Nat → zM
  | 0 => zu μ 21 20 0
  | n + 1 => if ph n = t then (if μ.1 24 n = 0 then zu (zu (zu (zpM μ ph t n) 29 (zpc ph (μ.1 24) t n) (nI n)) 30 (zpc ph (μ.1 24) t n) (zmn μ n)) 21 20 (nI (zpc ph (μ.1 24) t n + 1)) else zpM μ ph t n) else zpM μ ph t n
theorem zpc_s (ph : Nat → Nat) (rs : Nat → Int32) (t n : Nat) : zpc ph rs t (n + 1) = if ph n = t then (if rs n = 0 then zpc ph rs t n + 1 else zpc ph rs t n) else zpc ph rs t n := rfl
theorem zpx_s (ph : Nat → Nat) (rs : Nat → Int32) (t n : Nat) : zpx ph rs t (n + 1) = if ph n = t then (if rs n = 0 then (fun j => if j = zpc ph rs t n then n else zpx ph rs t n j) else zpx ph rs t n) else zpx ph rs t n := rfl
theorem zpM_s (μ : zM) (ph : Nat → Nat) (t n : Nat) : zpM μ ph t (n + 1) = if ph n = t then (if μ.1 24 n = 0 then zu (zu (zu (zpM μ ph t n) 29 (zpc ph (μ.1 24) t n) (nI n)) 30 (zpc ph (μ.1 24) t n) (zmn μ n)) 21 20 (nI (zpc ph (μ.1 24) t n + 1)) else zpM μ ph t n) else zpM μ ph t n := rfl
theorem zpc_le (ph : Nat → Nat) (rs : Nat → Int32) (t : Nat) : ∀ n, zpc ph rs t n ≤ n
  | 0 => Nat.le_refl _
  | n + 1 => by
    have h := zpc_le ph rs t n
    rw [zpc_s]
    split
    · split <;> omega
    · omega
theorem zpx_lt (ph : Nat → Nat) (rs : Nat → Int32) (t : Nat) : ∀ n j, j < zpc ph rs t n → zpx ph rs t n j < n
  | 0, j, h => absurd h (Nat.not_lt_zero _)
  | n + 1, j, h => by
    rw [zpc_s] at h
    rw [zpx_s]
    split at h
    · rename_i h1
      rw [if_pos h1]
      split at h
      · rename_i h2
        rw [if_pos h2]
        by_cases e : j = zpc ph rs t n
        · simp [e]
        · have := zpx_lt ph rs t n j (by omega)
          simp [e]
          omega
      · rename_i h2
        rw [if_neg h2]
        have := zpx_lt ph rs t n j h
        omega
    · rename_i h1
      rw [if_neg h1]
      have := zpx_lt ph rs t n j h
      omega
theorem zpM_off (μ : zM) (ph : Nat → Nat) (t : Nat) {a b : Nat} (h29 : a ≠ 29) (h30 : a ≠ 30) (h21 : a ≠ 21 ∨ b ≠ 20) : ∀ n, (zpM μ ph t n).1 a b = μ.1 a b
  | 0 => by
    show (zu μ 21 20 0).1 a b = _
    rcases h21 with h | h <;> simp [zu, h]
  | n + 1 => by
    have q := zpM_off μ ph t h29 h30 h21 n
    rw [zpM_s]
    split
    · split
      · rcases h21 with h | h <;> simp [zu, h, h29, h30, q]
      · exact q
    · exact q
theorem zpM_2 (μ : zM) (ph : Nat → Nat) (t : Nat) : ∀ n, (zpM μ ph t n).2 = μ.2
  | 0 => rfl
  | n + 1 => by
    have q := zpM_2 μ ph t n
    rw [zpM_s]
    split
    · split <;> exact q
    · exact q
theorem zpM_n (μ : zM) (ph : Nat → Nat) (t : Nat) : ∀ n, (zpM μ ph t n).1 21 20 = nI (zpc ph (μ.1 24) t n)
  | 0 => rfl
  | n + 1 => by
    have q := zpM_n μ ph t n
    rw [zpM_s, zpc_s]
    split
    · split
      · simp [zu]
      · exact q
    · exact q
theorem zpM_pt (μ : zM) (ph : Nat → Nat) (t : Nat) : ∀ n j, j < zpc ph (μ.1 24) t n → (zpM μ ph t n).1 29 j = nI (zpx ph (μ.1 24) t n j) ∧ (zpM μ ph t n).1 30 j = zmn μ (zpx ph (μ.1 24) t n j)
  | 0, j, h => absurd h (Nat.not_lt_zero _)
  | n + 1, j, h => by
    rw [zpc_s] at h
    rw [zpM_s, zpx_s]
    split at h
    · rename_i h1
      rw [if_pos h1, if_pos h1]
      split at h
      · rename_i h2
        rw [if_pos h2, if_pos h2]
        by_cases e : j = zpc ph (μ.1 24) t n
        · simp [zu, e]
        · have q := zpM_pt μ ph t n j (by omega)
          simp [zu, e, q]
      · rename_i h2
        rw [if_neg h2, if_neg h2]
        exact zpM_pt μ ph t n j h
    · rename_i h1
      rw [if_neg h1, if_neg h1]
      exact zpM_pt μ ph t n j h
theorem zsz {μ : zM} {s : Nat} (hs : μ.1 21 0 = nI (s + 2)) (hs5 : s < 5) : ¬ 2 * Int32.toInt64 (μ.1 21 0) = 0 := by
  rw [hs, nI_l (by omega), show (2 : Int64) = lN 2 from rfl, lN_mul, show (0 : Int64) = lN 0 from rfl, pk_lEQ (by omega) (by omega)]
  omega
set_option maxRecDepth 100000 in
set_option maxHeartbeats 4000000 in
theorem l_X4_laysPoints {x : zX} {g : zG} {μ : zM} {t q N d c s : Nat} {ph fs : Nat → Nat} (S : zS x g 4 cX4_laysPoints RX4) (Y : zR x g none 0 0 [] (zRv none (zpM μ ph t N)) zNX) (hn : zn g = 32) (h : zMP μ d c ph fs) (hd : μ.1 21 1 = nI d) (hd60 : d ≤ 60) (ht : t < 10) (hq : q < 60) (hN1 : N ≤ d) (hN2 : N ≤ q + 1) (hN3 : N = d ∨ N = q + 1) (hs : μ.1 21 0 = nI (s + 2)) (hs5 : s < 5)  : ∀ (m n : Nat), n + m = N → zK x g ({ frames := 2, cells := 0, slots := 0, locals := 48 } : Room) 4 0 0 7 [some (.ref (za g 21)), some (.int (nI t)), some (.int (nI q)), some (.int (nI n))] [] (zpM μ ph t n) := by
  intro m
  induction m with
  | zero =>
    intro n h1
    obtain rfl : N = n := by omega
    refine k_iload3 S dX4_laysPoints_7 (n := 8) rfl ?_
    refine k_iload2 S dX4_laysPoints_8 (n := 9) rfl ?_
    refine k_icmp_gt S dX4_laysPoints_9 (tgt := 92) (by decide) (n := 12) rfl (fun c1 => ?_) (fun c1 => ?_)
    ·
      exact k_vret S Y dX4_laysPoints_92 (by decide) (by decide) (⟨rfl, rfl⟩)
    ·
      refine k_iload3 S dX4_laysPoints_12 (n := 13) rfl ?_
      refine k_aload0 S dX4_laysPoints_13 (n := 14) rfl ?_
      refine k_getv (v := nI d) (T := TX4) (j := 1) S dX4_laysPoints_14 (by rw [hn]; decide) (by decide) (ci := 4) rfl rfl (by decide) in_4 m_673 rfl rfl (by rw [zpM_off μ ph t (by decide) (by decide) (by decide) N]; exact hd) (n := 17) rfl ?_
      refine k_icmp_ge S dX4_laysPoints_17 (tgt := 92) (by decide) (n := 20) rfl (fun _ => ?_) (fun h9 => absurd (nI_le (by have q9 : ¬ q < N := fun z => c1 (nI_lt z (by omega)); omega) (by omega)) h9)
      exact k_vret S Y dX4_laysPoints_92 (by decide) (by decide) (⟨rfl, rfl⟩)
  | succ m ih =>
    intro n h1
    refine k_iload3 S dX4_laysPoints_7 (n := 8) rfl ?_
    refine k_iload2 S dX4_laysPoints_8 (n := 9) rfl ?_
    refine k_icmp_gt S dX4_laysPoints_9 (tgt := 92) (by decide) (n := 12) rfl (fun h9 => absurd h9 (nI_nlt (by omega) (by omega))) (fun _ => ?_)
    refine k_iload3 S dX4_laysPoints_12 (n := 13) rfl ?_
    refine k_aload0 S dX4_laysPoints_13 (n := 14) rfl ?_
    refine k_getv (v := nI d) (T := TX4) (j := 1) S dX4_laysPoints_14 (by rw [hn]; decide) (by decide) (ci := 4) rfl rfl (by decide) in_4 m_673 rfl rfl (by rw [zpM_off μ ph t (by decide) (by decide) (by first | exact Or.inl (by decide) | decide) n]; exact hd) (n := 17) rfl ?_
    refine k_icmp_ge S dX4_laysPoints_17 (tgt := 92) (by decide) (n := 20) rfl (fun h9 => absurd h9 (nI_ge (by omega) (by omega))) (fun _ => ?_)
    refine k_aload0 S dX4_laysPoints_20 (n := 21) rfl ?_
    refine k_iload3 S dX4_laysPoints_21 (n := 22) rfl ?_
    refine k_callV (As := [.int (nI n)]) (rest := []) (p := 21) S (c_X4_phase (i := n) hn (h.mono (zpM_off μ ph t (by decide) (by decide) (by first | exact Or.inl (by decide) | decide) n) (funext fun b => zpM_off μ ph t (by decide) (by decide) (by first | exact Or.inl (by decide) | decide) n)) (by omega) hd60) mv_X4_phase m_781 dX4_laysPoints_22 rfl rfl ⟨by decide, by decide⟩ (by rw [hn]; decide) (by decide) (ci := 4) rfl rfl rfl (Nat.le_of_ble_eq_true rfl) ⟨by decide, by decide⟩ (n := 25) rfl (fun _ _ h => h.elim) (fun v9 ν9 h9 => ?_)
    rw [h9.1, h9.2]
    show zK x g ({ frames := 2, cells := 0, slots := 0, locals := 48 } : Room) 4 0 0 25 [some (.ref (za g 21)), some (.int (nI t)), some (.int (nI q)), some (.int (nI n))] [.int (nI (ph n))] (zpM μ ph t n)
    refine k_iload1 S dX4_laysPoints_25 (n := 26) rfl ?_
    refine k_icmp_ne S dX4_laysPoints_26 (tgt := 86) (by decide) (n := 29) rfl (fun c1a => ?_) (fun c1a => ?_)
    ·
      have c1 : ¬ ph n = t := fun z => c1a (by rw [z])
      have e1 : zpM μ ph t (n + 1) = zpM μ ph t n := if_neg c1
      refine k_iinc3 S dX4_laysPoints_86 (v := nI (n + 1)) (zi1 n) (by decide) (n := 89) rfl ?_
      refine k_goto S dX4_laysPoints_89 (tgt := 7) (by decide) ?_
      have q9 := ih (n + 1) (by omega)
      rw [e1] at q9
      first | (rw [nI_succ (zpc ph (μ.1 24) t n)] at q9; exact q9) | exact q9
    ·
      have c1 : ph n = t := (nI_eq (by have := (h.2.2.2 n (by omega)).1; have := h.2.1; omega) (by omega)).mp c1a
      refine k_aload0 S dX4_laysPoints_29 (n := 30) rfl ?_
      refine k_getr (r := 24) (T := TX4) (j := 8) S dX4_laysPoints_30 (by rw [hn]; decide) (by decide) (ci := 4) rfl rfl (by decide) in_4 m_680 rfl rfl (n := 33) rfl ?_
      refine k_iload3 S dX4_laysPoints_33 (n := 34) rfl ?_
      refine k_ialdv (v := μ.1 24 n) S dX4_laysPoints_34 (j := n) (by rw [hn]; decide) (by decide) rfl (show n < 60 by omega) (by decide) (zpM_off μ ph t (by decide) (by decide) (Or.inl (by decide)) n) (n := 35) rfl ?_
      refine k_if_ne S dX4_laysPoints_35 (tgt := 86) (by decide) (n := 38) rfl (fun c2 => ?_) (fun c2 => ?_)
      ·
        have e1 : zpM μ ph t (n + 1) = zpM μ ph t n := by rw [zpM_s, if_pos c1, if_neg c2]
        refine k_iinc3 S dX4_laysPoints_86 (v := nI (n + 1)) (zi1 n) (by decide) (n := 89) rfl ?_
        refine k_goto S dX4_laysPoints_89 (tgt := 7) (by decide) ?_
        have q9 := ih (n + 1) (by omega)
        rw [e1] at q9
        first | (rw [nI_succ (zpc ph (μ.1 24) t n)] at q9; exact q9) | exact q9
      ·
        have e1 : zpM μ ph t (n + 1) = zu (zu (zu (zpM μ ph t n) 29 (zpc ph (μ.1 24) t n) (nI n)) 30 (zpc ph (μ.1 24) t n) (zmn μ n)) 21 20 (nI (zpc ph (μ.1 24) t n + 1)) := by rw [zpM_s, if_pos c1, if_pos c2]
        refine k_aload0 S dX4_laysPoints_38 (n := 39) rfl ?_
        refine k_getr (r := 29) (T := TX4) (j := 21) S dX4_laysPoints_39 (by rw [hn]; decide) (by decide) (ci := 4) rfl rfl (by decide) in_4 m_693 rfl rfl (n := 42) rfl ?_
        refine k_aload0 S dX4_laysPoints_42 (n := 43) rfl ?_
        refine k_getv (v := nI (zpc ph (μ.1 24) t n)) (T := TX4) (j := 20) S dX4_laysPoints_43 (by rw [hn]; decide) (by decide) (ci := 4) rfl rfl (by decide) in_4 m_692 rfl rfl (zpM_n μ ph t n) (n := 46) rfl ?_
        refine k_iload3 S dX4_laysPoints_46 (n := 47) rfl ?_
        refine k_iast S dX4_laysPoints_47 (j := (zpc ph (μ.1 24) t n)) (by rw [hn]; decide) (by decide) rfl (show zpc ph (μ.1 24) t n < 60 by have := zpc_le ph (μ.1 24) t n; omega) (by decide) (n := 48) rfl ?_
        refine k_aload0 S dX4_laysPoints_48 (n := 49) rfl ?_
        refine k_getr (r := 30) (T := TX4) (j := 22) S dX4_laysPoints_49 (by rw [hn]; decide) (by decide) (ci := 4) rfl rfl (by decide) in_4 m_694 rfl rfl (n := 52) rfl ?_
        refine k_aload0 S dX4_laysPoints_52 (n := 53) rfl ?_
        refine k_getv (v := nI (zpc ph (μ.1 24) t n)) (T := TX4) (j := 20) S dX4_laysPoints_53 (by rw [hn]; decide) (by decide) (ci := 4) rfl rfl (by decide) in_4 m_692 rfl rfl (by simp [zu, zpM_n μ ph t n]) (n := 56) rfl ?_
        refine k_ldc2 S dX4_laysPoints_56 (v := 1000) m_785 (n := 59) rfl ?_
        refine k_aload0 S dX4_laysPoints_59 (n := 60) rfl ?_
        refine k_getr (r := 22) (T := TX4) (j := 6) S dX4_laysPoints_60 (by rw [hn]; decide) (by decide) (ci := 4) rfl rfl (by decide) in_4 m_678 rfl rfl (n := 63) rfl ?_
        refine k_iload3 S dX4_laysPoints_63 (n := 64) rfl ?_
        refine k_ialdv (v := μ.1 22 n) S dX4_laysPoints_64 (j := n) (by rw [hn]; decide) (by decide) rfl (show n < 60 by omega) (by decide) (by simp [zu]; exact zpM_off μ ph t (by decide) (by decide) (by first | exact Or.inl (by decide) | decide) n) (n := 65) rfl ?_
        refine k_i2l S dX4_laysPoints_65 (n := 66) rfl ?_
        refine k_lmul S dX4_laysPoints_66 (n := 67) rfl ?_
        refine k_aload0 S dX4_laysPoints_67 (n := 68) rfl ?_
        refine k_getv (v := μ.1 21 0) (T := TX4) (j := 0) S dX4_laysPoints_68 (by rw [hn]; decide) (by decide) (ci := 4) rfl rfl (by decide) in_4 m_672 rfl rfl (by simp [zu]; exact zpM_off μ ph t (by decide) (by decide) (by first | exact Or.inl (by decide) | decide) n) (n := 71) rfl ?_
        refine k_i2l S dX4_laysPoints_71 (n := 72) rfl ?_
        refine k_callS (As := [.long (1000 * (Int32.toInt64 (μ.1 22 n))), .long (Int32.toInt64 (μ.1 21 0))]) (rest := [.int (nI (zpc ph (μ.1 24) t n)), .ref (za g 30)]) S (c_X4_rounded (zsz hs hs5)) mv_X4_rounded m_786 dX4_laysPoints_72 rfl rfl ⟨by decide, by decide⟩ rfl rfl (Nat.le_of_ble_eq_true rfl) ⟨by decide, by decide⟩ (n := 75) rfl (fun _ _ h => h.elim) (fun v9 ν9 h9 => ?_)
        rw [h9.1, h9.2]
        show zK x g ({ frames := 2, cells := 0, slots := 0, locals := 48 } : Room) 4 0 0 75 [some (.ref (za g 21)), some (.int (nI t)), some (.int (nI q)), some (.int (nI n))] [.int (zrdM (1000 * (Int32.toInt64 (μ.1 22 n))) (Int32.toInt64 (μ.1 21 0))), .int (nI (zpc ph (μ.1 24) t n)), .ref (za g 30)] (zu (zpM μ ph t n) 29 ((zpc ph (μ.1 24) t n)) (nI n))
        refine k_iast S dX4_laysPoints_75 (j := (zpc ph (μ.1 24) t n)) (by rw [hn]; decide) (by decide) rfl (show zpc ph (μ.1 24) t n < 60 by have := zpc_le ph (μ.1 24) t n; omega) (by decide) (n := 76) rfl ?_
        refine k_aload0 S dX4_laysPoints_76 (n := 77) rfl ?_
        refine k_dup S dX4_laysPoints_77 rfl (n := 78) rfl ?_
        refine k_getv (v := nI (zpc ph (μ.1 24) t n)) (T := TX4) (j := 20) S dX4_laysPoints_78 (by rw [hn]; decide) (by decide) (ci := 4) rfl rfl (by decide) in_4 m_692 rfl rfl (by simp [zu, zpM_n μ ph t n]) (n := 81) rfl ?_
        refine k_iconst S dX4_laysPoints_81 (v := 1) (by decide) (n := 82) rfl ?_
        refine k_iadd S dX4_laysPoints_82 (n := 83) rfl ?_
        refine k_put (T := TX4) (j := 20) S dX4_laysPoints_83 (by rw [hn]; decide) (by decide) (ci := 4) rfl rfl (by decide) in_4 m_692 rfl rfl (ty0 := tyX4) tyX4_ok nmX4 rfl rfl rfl (n := 86) rfl ?_
        refine k_iinc3 S dX4_laysPoints_86 (v := nI (n + 1)) (zi1 n) (by decide) (n := 89) rfl ?_
        refine k_goto S dX4_laysPoints_89 (tgt := 7) (by decide) ?_
        have q9 := ih (n + 1) (by omega)
        rw [e1] at q9
        first | (rw [nI_succ (zpc ph (μ.1 24) t n)] at q9; exact q9) | exact q9
set_option maxRecDepth 100000 in
set_option maxHeartbeats 4000000 in
theorem c_X4_laysPoints {l : Launch} {g : zG} {μ : zM} {t q N d c s : Nat} {ph fs : Nat → Nat} (hn : zn g = 32) (h : zMP μ d c ph fs) (hd : μ.1 21 1 = nI d) (hd60 : d ≤ 60) (ht : t < 10) (hq : q < 60) (hN1 : N ≤ d) (hN2 : N ≤ q + 1) (hN3 : N = d ∨ N = q + 1) (hs : μ.1 21 0 = nI (s + 2)) (hs5 : s < 5) : zC l g yX4_laysPoints cX4_laysPoints 4 none ({ frames := 2, cells := 0, slots := 0, locals := 48 } : Room) 0 0 [.ref (za g 21), .int (nI t), .int (nI q)] μ (zRv none (zpM μ ph t N)) zNX := by
  refine zC_of (L0 := [some (.ref (za g 21)), some (.int (nI t)), some (.int (nI q)), none]) (plainFor_of_name (by decide)) (Nat.le_of_ble_eq_true rfl) rfl ?_
  intro x S Y hxl
  subst hxl
  refine k_aload0 S dX4_laysPoints_0 (n := 1) rfl ?_
  refine k_iconst S dX4_laysPoints_1 (v := 0) (by decide) (n := 2) rfl ?_
  refine k_put (T := TX4) (j := 20) S dX4_laysPoints_2 (by rw [hn]; decide) (by decide) (ci := 4) rfl rfl (by decide) in_4 m_692 rfl rfl (ty0 := tyX4) tyX4_ok nmX4 rfl rfl rfl (n := 5) rfl ?_
  refine k_iconst S dX4_laysPoints_5 (v := 0) (by decide) (n := 6) rfl ?_
  refine k_istore3 S dX4_laysPoints_6 (by decide) rfl (n := 7) rfl ?_
  exact l_X4_laysPoints S Y hn h hd hd60 ht hq hN1 hN2 hN3 hs hs5 N 0 (by omega)
