/-! THE LEAVES: what the JDK's and the desk's small functions answer, in the words of their own code -/
def zfd (a b : Int32) : Int32 := if 0 ≤ a ^^^ b then a / b else if a / b * b = a then a / b else a / b - 1
def zfdL (a b : Int64) : Int64 := if 0 ≤ lg_cmp (a ^^^ b) 0 then a / b else if lg_cmp (a / b * b) a = 0 then a / b else a / b - 1
def zdir (f t : Int32) : Int32 := if t ≤ f then (if f ≤ t then 0 else (-1)) else 1
def zmax (a b : Int32) : Int32 := if a < b then b else a
def zmin (a b : Int32) : Int32 := if b < a then b else a
def zminL (a b : Int64) : Int64 := if 0 < lg_cmp a b then b else a
def zme (v : Int32) : Int32 := if v < (-9999) then 0 else (if 9999 < v then 0 else 1)
def zfl (a b : Int64) : Int64 := if lg_cmp b 0 ≤ 0 then 0 else zfdL a b
def zrd (a b : Int64) : Int64 := zfl (2 * a + b) (2 * b)
theorem zcmp_ne {b : Int64} (h : ¬ lg_cmp b 0 ≤ 0) : ¬ b = 0 := fun e => h ((lg_cmp_le b 0).mpr (by rw [e]; exact Int64.le_refl _))
def zsb (x c w m : Int32) : Int32 := if 3 * (x - c) ≤ m * w then (if 3 * (c - x) ≤ m * w then 0 else (-1)) else 1
set_option maxRecDepth 100000 in
set_option maxHeartbeats 4000000 in
theorem c_J9_floorDiv_7cf53 {l : Launch} {g : zG} {a b : Int32} {μ : zM} (h0 : ¬ b = 0) : zC l g yJ9_floorDiv_7cf53 cJ9_floorDiv_7cf53 3 (some .int) ({ frames := 0, cells := 0, slots := 0, locals := 0 } : Room) 0 0 [.int a, .int b] μ (zRv (some (.int (zfd a b))) μ) zNX := by
  refine zC_of (L0 := [some (.int a), some (.int b), none]) (by decide +kernel) (Nat.le_of_ble_eq_true rfl) rfl ?_
  intro x S Y hxl
  subst hxl
  refine k_iload0 S dJ9_floorDiv_7cf53_0 (n := 1) rfl ?_
  refine k_iload1 S dJ9_floorDiv_7cf53_1 (n := 2) rfl ?_
  refine k_idiv S dJ9_floorDiv_7cf53_2 h0 (n := 3) rfl ?_
  refine k_istore2 S dJ9_floorDiv_7cf53_3 (by decide) rfl (n := 4) rfl ?_
  refine k_iload0 S dJ9_floorDiv_7cf53_4 (n := 5) rfl ?_
  refine k_iload1 S dJ9_floorDiv_7cf53_5 (n := 6) rfl ?_
  refine k_ixor S dJ9_floorDiv_7cf53_6 (n := 7) rfl ?_
  refine k_if_ge S dJ9_floorDiv_7cf53_7 (tgt := 21) (by decide) (n := 10) rfl (fun c1 => ?_) (fun c1 => ?_)
  ·
    refine k_iload2 S dJ9_floorDiv_7cf53_21 (n := 22) rfl ?_
    exact k_iret S Y dJ9_floorDiv_7cf53_22 (by decide) (by decide) rfl (⟨by first | rw [zfd, if_pos c1] | rw [zfd, if_neg c1, if_pos c2], rfl⟩)
  ·
    refine k_iload2 S dJ9_floorDiv_7cf53_10 (n := 11) rfl ?_
    refine k_iload1 S dJ9_floorDiv_7cf53_11 (n := 12) rfl ?_
    refine k_imul S dJ9_floorDiv_7cf53_12 (n := 13) rfl ?_
    refine k_iload0 S dJ9_floorDiv_7cf53_13 (n := 14) rfl ?_
    refine k_icmp_eq S dJ9_floorDiv_7cf53_14 (tgt := 21) (by decide) (n := 17) rfl (fun c2 => ?_) (fun c2 => ?_)
    ·
      refine k_iload2 S dJ9_floorDiv_7cf53_21 (n := 22) rfl ?_
      exact k_iret S Y dJ9_floorDiv_7cf53_22 (by decide) (by decide) rfl (⟨by first | rw [zfd, if_pos c1] | rw [zfd, if_neg c1, if_pos c2], rfl⟩)
    ·
      refine k_iload2 S dJ9_floorDiv_7cf53_17 (n := 18) rfl ?_
      refine k_iconst S dJ9_floorDiv_7cf53_18 (v := 1) (by decide) (n := 19) rfl ?_
      refine k_isub S dJ9_floorDiv_7cf53_19 (n := 20) rfl ?_
      exact k_iret S Y dJ9_floorDiv_7cf53_20 (by decide) (by decide) rfl (⟨by rw [zfd, if_neg c1, if_neg c2], rfl⟩)
set_option maxRecDepth 100000 in
set_option maxHeartbeats 4000000 in
theorem c_J9_floorDiv_f86c9 {l : Launch} {g : zG} {a b : Int64} {μ : zM} (h0 : ¬ b = 0) : zC l g yJ9_floorDiv_f86c9 cJ9_floorDiv_f86c9 6 (some .long) ({ frames := 0, cells := 0, slots := 0, locals := 0 } : Room) 0 0 [.long a, .long b] μ (zRv (some (.long (zfdL a b))) μ) zNX := by
  refine zC_of (L0 := [some (.long a), none, some (.long b), none, none, none]) (by decide +kernel) (Nat.le_of_ble_eq_true rfl) rfl ?_
  intro x S Y hxl
  subst hxl
  refine k_lload0 S dJ9_floorDiv_f86c9_0 (n := 1) rfl ?_
  refine k_lload2 S dJ9_floorDiv_f86c9_1 (n := 2) rfl ?_
  refine k_ldiv S dJ9_floorDiv_f86c9_2 h0 (n := 3) rfl ?_
  refine k_lstore4 S dJ9_floorDiv_f86c9_3 (by decide) rfl (n := 5) rfl ?_
  refine k_lload0 S dJ9_floorDiv_f86c9_5 (n := 6) rfl ?_
  refine k_lload2 S dJ9_floorDiv_f86c9_6 (n := 7) rfl ?_
  refine k_lxor S dJ9_floorDiv_f86c9_7 (n := 8) rfl ?_
  refine k_lconst S dJ9_floorDiv_f86c9_8 (v := 0) (by decide) (n := 9) rfl ?_
  refine k_lcmp S dJ9_floorDiv_f86c9_9 (n := 10) rfl ?_
  refine k_if_ge S dJ9_floorDiv_f86c9_10 (tgt := 27) (by decide) (n := 13) rfl (fun c1 => ?_) (fun c1 => ?_)
  ·
    refine k_lload4 S dJ9_floorDiv_f86c9_27 (n := 29) rfl ?_
    exact k_lret S Y dJ9_floorDiv_f86c9_29 (by decide) (by decide) (⟨by first | rw [zfdL, if_pos c1] | rw [zfdL, if_neg c1, if_pos c2], rfl⟩)
  ·
    refine k_lload4 S dJ9_floorDiv_f86c9_13 (n := 15) rfl ?_
    refine k_lload2 S dJ9_floorDiv_f86c9_15 (n := 16) rfl ?_
    refine k_lmul S dJ9_floorDiv_f86c9_16 (n := 17) rfl ?_
    refine k_lload0 S dJ9_floorDiv_f86c9_17 (n := 18) rfl ?_
    refine k_lcmp S dJ9_floorDiv_f86c9_18 (n := 19) rfl ?_
    refine k_if_eq S dJ9_floorDiv_f86c9_19 (tgt := 27) (by decide) (n := 22) rfl (fun c2 => ?_) (fun c2 => ?_)
    ·
      refine k_lload4 S dJ9_floorDiv_f86c9_27 (n := 29) rfl ?_
      exact k_lret S Y dJ9_floorDiv_f86c9_29 (by decide) (by decide) (⟨by first | rw [zfdL, if_pos c1] | rw [zfdL, if_neg c1, if_pos c2], rfl⟩)
    ·
      refine k_lload4 S dJ9_floorDiv_f86c9_22 (n := 24) rfl ?_
      refine k_lconst S dJ9_floorDiv_f86c9_24 (v := 1) (by decide) (n := 25) rfl ?_
      refine k_lsub S dJ9_floorDiv_f86c9_25 (n := 26) rfl ?_
      exact k_lret S Y dJ9_floorDiv_f86c9_26 (by decide) (by decide) (⟨by rw [zfdL, if_neg c1, if_neg c2], rfl⟩)
set_option maxRecDepth 100000 in
set_option maxHeartbeats 4000000 in
theorem c_J9_max_7cf53 {l : Launch} {g : zG} {a b : Int32} {μ : zM} : zC l g yJ9_max_7cf53 cJ9_max_7cf53 2 (some .int) ({ frames := 0, cells := 0, slots := 0, locals := 0 } : Room) 0 0 [.int a, .int b] μ (zRv (some (.int (zmax a b))) μ) zNX := by
  refine zC_of (L0 := [some (.int a), some (.int b)]) (by decide +kernel) (Nat.le_of_ble_eq_true rfl) rfl ?_
  intro x S Y hxl
  subst hxl
  refine k_iload0 S dJ9_max_7cf53_0 (n := 1) rfl ?_
  refine k_iload1 S dJ9_max_7cf53_1 (n := 2) rfl ?_
  have hJ2 : zK x g ({ frames := 0, cells := 0, slots := 0, locals := 0 } : Room) 2 0 0 10 [some (.int a), some (.int b)] [.int ((if a < b then b else a))] μ := by
    exact k_iret S Y dJ9_max_7cf53_10 (by decide) (by decide) rfl (⟨rfl, rfl⟩)
  refine k_icmp_lt S dJ9_max_7cf53_2 (tgt := 9) (by decide) (n := 5) rfl (fun c1 => ?_) (fun c1 => ?_)
  ·
    refine k_iload1 S dJ9_max_7cf53_9 (n := 10) rfl ?_
    rw [if_pos c1] at hJ2
    exact hJ2
  ·
    refine k_iload0 S dJ9_max_7cf53_5 (n := 6) rfl ?_
    refine k_goto S dJ9_max_7cf53_6 (tgt := 10) (by decide) ?_
    rw [if_neg c1] at hJ2
    exact hJ2
set_option maxRecDepth 100000 in
set_option maxHeartbeats 4000000 in
theorem c_J9_min_7cf53 {l : Launch} {g : zG} {a b : Int32} {μ : zM} : zC l g yJ9_min_7cf53 cJ9_min_7cf53 2 (some .int) ({ frames := 0, cells := 0, slots := 0, locals := 0 } : Room) 0 0 [.int a, .int b] μ (zRv (some (.int (zmin a b))) μ) zNX := by
  refine zC_of (L0 := [some (.int a), some (.int b)]) (by decide +kernel) (Nat.le_of_ble_eq_true rfl) rfl ?_
  intro x S Y hxl
  subst hxl
  refine k_iload0 S dJ9_min_7cf53_0 (n := 1) rfl ?_
  refine k_iload1 S dJ9_min_7cf53_1 (n := 2) rfl ?_
  have hJ2 : zK x g ({ frames := 0, cells := 0, slots := 0, locals := 0 } : Room) 2 0 0 10 [some (.int a), some (.int b)] [.int ((if b < a then b else a))] μ := by
    exact k_iret S Y dJ9_min_7cf53_10 (by decide) (by decide) rfl (⟨rfl, rfl⟩)
  refine k_icmp_gt S dJ9_min_7cf53_2 (tgt := 9) (by decide) (n := 5) rfl (fun c1 => ?_) (fun c1 => ?_)
  ·
    refine k_iload1 S dJ9_min_7cf53_9 (n := 10) rfl ?_
    rw [if_pos c1] at hJ2
    exact hJ2
  ·
    refine k_iload0 S dJ9_min_7cf53_5 (n := 6) rfl ?_
    refine k_goto S dJ9_min_7cf53_6 (tgt := 10) (by decide) ?_
    rw [if_neg c1] at hJ2
    exact hJ2
set_option maxRecDepth 100000 in
set_option maxHeartbeats 4000000 in
theorem c_J9_min_f86c9 {l : Launch} {g : zG} {a b : Int64} {μ : zM} : zC l g yJ9_min_f86c9 cJ9_min_f86c9 4 (some .long) ({ frames := 0, cells := 0, slots := 0, locals := 0 } : Room) 0 0 [.long a, .long b] μ (zRv (some (.long (zminL a b))) μ) zNX := by
  refine zC_of (L0 := [some (.long a), none, some (.long b), none]) (by decide +kernel) (Nat.le_of_ble_eq_true rfl) rfl ?_
  intro x S Y hxl
  subst hxl
  refine k_lload0 S dJ9_min_f86c9_0 (n := 1) rfl ?_
  refine k_lload2 S dJ9_min_f86c9_1 (n := 2) rfl ?_
  refine k_lcmp S dJ9_min_f86c9_2 (n := 3) rfl ?_
  have hJ2 : zK x g ({ frames := 0, cells := 0, slots := 0, locals := 0 } : Room) 4 0 0 11 [some (.long a), none, some (.long b), none] [.long ((if 0 < (lg_cmp a b) then b else a))] μ := by
    exact k_lret S Y dJ9_min_f86c9_11 (by decide) (by decide) (⟨rfl, rfl⟩)
  refine k_if_gt S dJ9_min_f86c9_3 (tgt := 10) (by decide) (n := 6) rfl (fun c1 => ?_) (fun c1 => ?_)
  ·
    refine k_lload2 S dJ9_min_f86c9_10 (n := 11) rfl ?_
    rw [if_pos c1] at hJ2
    exact hJ2
  ·
    refine k_lload0 S dJ9_min_f86c9_6 (n := 7) rfl ?_
    refine k_goto S dJ9_min_f86c9_7 (tgt := 11) (by decide) ?_
    rw [if_neg c1] at hJ2
    exact hJ2
set_option maxRecDepth 100000 in
set_option maxHeartbeats 4000000 in
theorem c_X3_direction {l : Launch} {g : zG} {a b : Int32} {μ : zM} : zC l g yX3_direction cX3_direction 2 (some .int) ({ frames := 0, cells := 0, slots := 0, locals := 0 } : Room) 0 0 [.int a, .int b] μ (zRv (some (.int (zdir a b))) μ) zNX := by
  refine zC_of (L0 := [some (.int a), some (.int b)]) (plainFor_of_name (by decide)) (Nat.le_of_ble_eq_true rfl) rfl ?_
  intro x S Y hxl
  subst hxl
  refine k_iload1 S dX3_direction_0 (n := 1) rfl ?_
  refine k_iload0 S dX3_direction_1 (n := 2) rfl ?_
  have hJ2 : zK x g ({ frames := 0, cells := 0, slots := 0, locals := 0 } : Room) 2 0 0 19 [some (.int a), some (.int b)] [.int ((if b ≤ a then (if a ≤ b then (0 : Int32) else (-1 : Int32)) else (1 : Int32)))] μ := by
    exact k_iret S Y dX3_direction_19 (by decide) (by decide) rfl (⟨rfl, rfl⟩)
  refine k_icmp_le S dX3_direction_2 (tgt := 9) (by decide) (n := 5) rfl (fun c1 => ?_) (fun c1 => ?_)
  ·
    refine k_iload1 S dX3_direction_9 (n := 10) rfl ?_
    refine k_iload0 S dX3_direction_10 (n := 11) rfl ?_
    refine k_icmp_ge S dX3_direction_11 (tgt := 18) (by decide) (n := 14) rfl (fun c3 => ?_) (fun c3 => ?_)
    ·
      refine k_iconst S dX3_direction_18 (v := 0) (by decide) (n := 19) rfl ?_
      rw [if_pos c1, if_pos c3] at hJ2
      exact hJ2
    ·
      refine k_iconst S dX3_direction_14 (v := (-1)) (by decide) (n := 15) rfl ?_
      refine k_goto S dX3_direction_15 (tgt := 19) (by decide) ?_
      rw [if_pos c1, if_neg c3] at hJ2
      exact hJ2
  ·
    refine k_iconst S dX3_direction_5 (v := 1) (by decide) (n := 6) rfl ?_
    refine k_goto S dX3_direction_6 (tgt := 19) (by decide) ?_
    rw [if_neg c1] at hJ2
    exact hJ2
set_option maxRecDepth 100000 in
set_option maxHeartbeats 4000000 in
theorem c_X3_isMeasurement {l : Launch} {g : zG} {v : Int32} {μ : zM} : zC l g yX3_isMeasurement cX3_isMeasurement 1 (some .boolean) ({ frames := 0, cells := 0, slots := 0, locals := 0 } : Room) 0 0 [.int v] μ (zRv (some (.int (zme v))) μ) zNX := by
  refine zC_of (L0 := [some (.int v)]) (plainFor_of_name (by decide)) (Nat.le_of_ble_eq_true rfl) rfl ?_
  intro x S Y hxl
  subst hxl
  refine k_iload0 S dX3_isMeasurement_0 (n := 1) rfl ?_
  refine k_sipush S dX3_isMeasurement_1 (v := (-9999)) (by decide) (n := 4) rfl ?_
  have hJ2 : zK x g ({ frames := 0, cells := 0, slots := 0, locals := 0 } : Room) 1 0 0 19 [some (.int v)] [.int ((if v < ((-9999)) then (0 : Int32) else (if 9999 < v then (0 : Int32) else (1 : Int32))))] μ := by
    exact k_iret S Y dX3_isMeasurement_19 (by decide) (by decide) (by repeat' (first | rfl | split)) (⟨rfl, rfl⟩)
  refine k_icmp_lt S dX3_isMeasurement_4 (tgt := 18) (by decide) (n := 7) rfl (fun c1 => ?_) (fun c1 => ?_)
  ·
    refine k_iconst S dX3_isMeasurement_18 (v := 0) (by decide) (n := 19) rfl ?_
    rw [if_pos c1] at hJ2
    exact hJ2
  ·
    refine k_iload0 S dX3_isMeasurement_7 (n := 8) rfl ?_
    refine k_sipush S dX3_isMeasurement_8 (v := 9999) (by decide) (n := 11) rfl ?_
    refine k_icmp_gt S dX3_isMeasurement_11 (tgt := 18) (by decide) (n := 14) rfl (fun c3 => ?_) (fun c3 => ?_)
    ·
      refine k_iconst S dX3_isMeasurement_18 (v := 0) (by decide) (n := 19) rfl ?_
      rw [if_neg c1, if_pos c3] at hJ2
      exact hJ2
    ·
      refine k_iconst S dX3_isMeasurement_14 (v := 1) (by decide) (n := 15) rfl ?_
      refine k_goto S dX3_isMeasurement_15 (tgt := 19) (by decide) ?_
      rw [if_neg c1, if_neg c3] at hJ2
      exact hJ2
set_option maxRecDepth 100000 in
set_option maxHeartbeats 4000000 in
theorem c_X3_floored {l : Launch} {g : zG} {a b : Int64} {μ : zM} : zC l g yX3_floored cX3_floored 4 (some .long) ({ frames := 1, cells := 0, slots := 0, locals := 25 } : Room) 0 0 [.long a, .long b] μ (zRv (some (.long (zfl a b))) μ) zNX := by
  refine zC_of (L0 := [some (.long a), none, some (.long b), none]) (plainFor_of_name (by decide)) (Nat.le_of_ble_eq_true rfl) rfl ?_
  intro x S Y hxl
  subst hxl
  refine k_lload2 S dX3_floored_0 (n := 1) rfl ?_
  refine k_lconst S dX3_floored_1 (v := 0) (by decide) (n := 2) rfl ?_
  refine k_lcmp S dX3_floored_2 (n := 3) rfl ?_
  have hJ1 : zK x g ({ frames := 1, cells := 0, slots := 0, locals := 25 } : Room) 4 0 0 15 [some (.long a), none, some (.long b), none] [.long ((if (lg_cmp b 0) ≤ 0 then (0 : Int64) else zfdL a b))] μ := by
    exact k_lret S Y dX3_floored_15 (by decide) (by decide) (⟨rfl, rfl⟩)
  refine k_if_le S dX3_floored_3 (tgt := 14) (by decide) (n := 6) rfl (fun c1 => ?_) (fun c1 => ?_)
  ·
    refine k_lconst S dX3_floored_14 (v := 0) (by decide) (n := 15) rfl ?_
    rw [if_pos c1] at hJ1
    exact hJ1
  ·
    refine k_lload0 S dX3_floored_6 (n := 7) rfl ?_
    refine k_lload2 S dX3_floored_7 (n := 8) rfl ?_
    refine k_callS (As := [.long a, .long b]) (rest := []) S (c_J9_floorDiv_f86c9 (a := a) (b := b) (zcmp_ne c1)) mv_J9_floorDiv_f86c9 m_307 dX3_floored_8 rfl rfl ⟨by decide, by decide⟩ rfl rfl (Nat.le_of_ble_eq_true rfl) ⟨by decide, by decide⟩ (n := 11) rfl (fun _ _ h => h.elim) (fun v9 ν9 h9 => ?_)
    rw [h9.1, h9.2]
    show zK x g ({ frames := 1, cells := 0, slots := 0, locals := 25 } : Room) 4 0 0 11 [some (.long a), none, some (.long b), none] [.long (zfdL a b)] μ
    refine k_goto S dX3_floored_11 (tgt := 15) (by decide) ?_
    rw [if_neg c1] at hJ1
    exact hJ1
