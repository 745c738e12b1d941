/-! THE REFERENCE'S RULES. y: the means from the last point backwards, m of them -/
def zPy (μ : zM) (m : Nat) (y : Nat → Int32) (C W : Int32) : Prop := μ.1 21 20 = nI m ∧ m ≤ 60 ∧ (∀ j, j < m → μ.1 30 (m - 1 - j) = y j) ∧ μ.1 21 16 = C ∧ μ.1 21 18 = W
theorem zbi {m j : Nat} (h : j < m) : nI m - 1 - nI j = nI (m - 1 - j) := by
  rw [show nI m - 1 = nI (m - 1) from pk_sub (a := m) (b := 1) (by omega)]
  exact pk_sub (by omega)
set_option maxRecDepth 100000 in
set_option maxHeartbeats 4000000 in
theorem c_X4_back {l : Launch} {g : zG} {μ : zM} {m : Nat} {y : Nat → Int32} {C W : Int32} {j : Nat}  (hn : zn g = 32) (P : zPy μ m y C W) (hj : j < m) : zC l g yX4_back cX4_back 2 (some .int) ({ frames := 0, cells := 0, slots := 0, locals := 0 } : Room) 0 0 [.ref (za g 21), .int (nI j)] μ (zRv (some (.int (y j))) μ) zNX := by
  refine zC_of (L0 := [some (.ref (za g 21)), some (.int (nI j))]) (plainFor_of_name (by decide)) (Nat.le_of_ble_eq_true rfl) rfl ?_
  intro x S Y hxl
  subst hxl
  refine k_aload0 S dX4_back_0 (n := 1) rfl ?_
  refine k_getr (r := 30) (T := TX4) (j := 22) S dX4_back_1 (by rw [hn]; decide) (by decide) (ci := 4) rfl rfl (by decide) in_4 m_694 rfl rfl (n := 4) rfl ?_
  refine k_aload0 S dX4_back_4 (n := 5) rfl ?_
  refine k_getv (v := nI m) (T := TX4) (j := 20) S dX4_back_5 (by rw [hn]; decide) (by decide) (ci := 4) rfl rfl (by decide) in_4 m_692 rfl rfl P.1 (n := 8) rfl ?_
  refine k_iconst S dX4_back_8 (v := 1) (by decide) (n := 9) rfl ?_
  refine k_isub S dX4_back_9 (n := 10) rfl ?_
  refine k_iload1 S dX4_back_10 (n := 11) rfl ?_
  refine k_isub S dX4_back_11 (n := 12) rfl ?_
  refine k_ialdv (v := y j) S dX4_back_12 (j := (m - 1 - j)) (by rw [hn]; decide) (by decide) (zbi hj) (show m - 1 - j < 60 by have := P.2.1; omega) (by decide) (P.2.2.1 j hj) (n := 13) rfl ?_
  exact k_iret S Y dX4_back_13 (by decide) (by decide) rfl (⟨rfl, rfl⟩)
def v_X4_isBeyond (a C W th sd : Int32) : Int32 := (if (lg_cmp ((3 * (Int32.toInt64 ((a) - C))) * (Int32.toInt64 sd)) ((Int32.toInt64 th) * (Int32.toInt64 W))) ≤ 0 then (0 : Int32) else (1 : Int32))
set_option maxRecDepth 100000 in
set_option maxHeartbeats 4000000 in
theorem c_X4_isBeyond {l : Launch} {g : zG} {μ : zM} {m : Nat} {y : Nat → Int32} {C W : Int32} {j : Nat} {th sd : Int32}  (hn : zn g = 32) (P : zPy μ m y C W) (hj : j < m) : zC l g yX4_isBeyond cX4_isBeyond 4 (some .boolean) ({ frames := 1, cells := 0, slots := 0, locals := 21 } : Room) 0 0 [.ref (za g 21), .int (nI j), .int th, .int sd] μ (zRv (some (.int (v_X4_isBeyond (y j) C W th sd))) μ) zNX := by
  refine zC_of (L0 := [some (.ref (za g 21)), some (.int (nI j)), some (.int th), some (.int sd)]) (plainFor_of_name (by decide)) (Nat.le_of_ble_eq_true rfl) rfl ?_
  intro x S Y hxl
  subst hxl
  refine k_ldc2 S dX4_isBeyond_0 (v := 3) m_867 (n := 3) rfl ?_
  refine k_aload0 S dX4_isBeyond_3 (n := 4) rfl ?_
  refine k_iload1 S dX4_isBeyond_4 (n := 5) rfl ?_
  refine k_callV (As := [.int (nI j)]) (rest := [.long 3]) (p := 21) S (c_X4_back (j := j) hn P (by omega)) mv_X4_back m_868 dX4_isBeyond_5 rfl rfl ⟨by decide, by decide⟩ (by rw [hn]; decide) (by decide) (ci := 4) rfl rfl rfl (Nat.le_of_ble_eq_true rfl) ⟨by decide, by decide⟩ (n := 8) rfl (fun _ _ h => h.elim) (fun v9 ν9 h9 => ?_)
  rw [h9.1, h9.2]
  show zK x g ({ frames := 1, cells := 0, slots := 0, locals := 21 } : Room) 4 0 0 8 [some (.ref (za g 21)), some (.int (nI j)), some (.int th), some (.int sd)] [.int (y j), .long 3] μ
  refine k_aload0 S dX4_isBeyond_8 (n := 9) rfl ?_
  refine k_getv (v := C) (T := TX4) (j := 16) S dX4_isBeyond_9 (by rw [hn]; decide) (by decide) (ci := 4) rfl rfl (by decide) in_4 m_688 rfl rfl P.2.2.2.1 (n := 12) rfl ?_
  refine k_isub S dX4_isBeyond_12 (n := 13) rfl ?_
  refine k_i2l S dX4_isBeyond_13 (n := 14) rfl ?_
  refine k_lmul S dX4_isBeyond_14 (n := 15) rfl ?_
  refine k_iload3 S dX4_isBeyond_15 (n := 16) rfl ?_
  refine k_i2l S dX4_isBeyond_16 (n := 17) rfl ?_
  refine k_lmul S dX4_isBeyond_17 (n := 18) rfl ?_
  refine k_iload2 S dX4_isBeyond_18 (n := 19) rfl ?_
  refine k_i2l S dX4_isBeyond_19 (n := 20) rfl ?_
  refine k_aload0 S dX4_isBeyond_20 (n := 21) rfl ?_
  refine k_getv (v := W) (T := TX4) (j := 18) S dX4_isBeyond_21 (by rw [hn]; decide) (by decide) (ci := 4) rfl rfl (by decide) in_4 m_690 rfl rfl P.2.2.2.2 (n := 24) rfl ?_
  refine k_i2l S dX4_isBeyond_24 (n := 25) rfl ?_
  refine k_lmul S dX4_isBeyond_25 (n := 26) rfl ?_
  refine k_lcmp S dX4_isBeyond_26 (n := 27) rfl ?_
  have hJ2 : zK x g ({ frames := 1, cells := 0, slots := 0, locals := 21 } : Room) 4 0 0 35 [some (.ref (za g 21)), some (.int (nI j)), some (.int th), some (.int sd)] [.int ((if (lg_cmp ((3 * (Int32.toInt64 ((y j) - C))) * (Int32.toInt64 sd)) ((Int32.toInt64 th) * (Int32.toInt64 W))) ≤ 0 then (0 : Int32) else (1 : Int32)))] μ := by
    exact k_iret S Y dX4_isBeyond_35 (by decide) (by decide) (by repeat' (first | rfl | split)) (⟨rfl, rfl⟩)
  refine k_if_le S dX4_isBeyond_27 (tgt := 34) (by decide) (n := 30) rfl (fun c1 => ?_) (fun c1 => ?_)
  ·
    refine k_iconst S dX4_isBeyond_34 (v := 0) (by decide) (n := 35) rfl ?_
    rw [if_pos c1] at hJ2
    exact hJ2
  ·
    refine k_iconst S dX4_isBeyond_30 (v := 1) (by decide) (n := 31) rfl ?_
    refine k_goto S dX4_isBeyond_31 (tgt := 35) (by decide) ?_
    rw [if_neg c1] at hJ2
    exact hJ2
def zbN (y : Nat → Int32) (C W th sd : Int32) : Nat → Int32
  | 0 => 0
  | n + 1 => zbN y C W th sd n + (if v_X4_isBeyond (y n) C W th sd = 0 then (0 : Int32) else (1 : Int32))
def zst (y : Nat → Int32) (sd : Int32) : Nat → Int32
  | 0 => 0
  | n + 1 => zst y sd n + (if (y n - y (n + 1)) * sd ≤ 0 then (0 : Int32) else (1 : Int32))
def zab (y : Nat → Int32) (C sd : Int32) : Nat → Int32
  | 0 => 0
  | n + 1 => zab y C sd n + (if (y n - C) * sd ≤ 0 then (0 : Int32) else (1 : Int32))
def zt1 (y : Nat → Int32) : Nat → Int32
  | 0 => 1
  | n + 1 => zt1 y n &&& (if y n = y (n + 1) then (0 : Int32) else (1 : Int32))
def zt2 (y : Nat → Int32) (i0 : Int32) : Nat → Int32
  | 0 => i0
  | n + 1 => zt2 y i0 n &&& (if (if y (n + 1) ≤ y n then (0 : Int32) else (1 : Int32)) = (if y (n + 1) ≤ y (n + 2) then (0 : Int32) else (1 : Int32)) then (1 : Int32) else (0 : Int32))
set_option maxRecDepth 100000 in
set_option maxHeartbeats 4000000 in
theorem l_X4_beyond {x : zX} {g : zG} {μ : zM} {m : Nat} {y : Nat → Int32} {C W : Int32} {N : Nat} {th sd : Int32}  (S : zS x g 6 cX4_beyond RX4) (Y : zR x g (some .int) 0 0 [] (zRv (some (.int (zbN y C W th sd N))) μ) zNX) (hn : zn g = 32) (P : zPy μ m y C W) (hN : N ≤ m)  : ∀ (k n : Nat), n + k = N → zK x g ({ frames := 2, cells := 0, slots := 0, locals := 44 } : Room) 6 0 0 6 [some (.ref (za g 21)), some (.int (nI N)), some (.int th), some (.int sd), some (.int (zbN y C W th sd n)), some (.int (nI n))] [] μ := by
  intro k
  induction k with
  | zero =>
    intro n h1
    obtain rfl : N = n := by omega
    refine k_iload5 S dX4_beyond_6 (n := 8) rfl ?_
    refine k_iload1 S dX4_beyond_8 (n := 9) rfl ?_
    refine k_icmp_ge S dX4_beyond_9 (tgt := 39) (by decide) (n := 12) rfl (fun _ => ?_) (fun h9 => absurd (Int32.le_refl _) h9)
    refine k_iload4 S dX4_beyond_39 (n := 41) rfl ?_
    exact k_iret S Y dX4_beyond_41 (by decide) (by decide) rfl (⟨rfl, rfl⟩)
  | succ k ih =>
    intro n h1
    have hm60 := P.2.1
    refine k_iload5 S dX4_beyond_6 (n := 8) rfl ?_
    refine k_iload1 S dX4_beyond_8 (n := 9) rfl ?_
    refine k_icmp_ge S dX4_beyond_9 (tgt := 39) (by decide) (n := 12) rfl (fun h9 => absurd h9 (nI_ge (by omega) (by omega))) (fun _ => ?_)
    refine k_iload4 S dX4_beyond_12 (n := 14) rfl ?_
    refine k_aload0 S dX4_beyond_14 (n := 15) rfl ?_
    refine k_iload5 S dX4_beyond_15 (n := 17) rfl ?_
    refine k_iload2 S dX4_beyond_17 (n := 18) rfl ?_
    refine k_iload3 S dX4_beyond_18 (n := 19) rfl ?_
    refine k_callV (As := [.int (nI n), .int th, .int sd]) (rest := [.int (zbN y C W th sd n)]) (p := 21) S (c_X4_isBeyond (j := n) (th := th) (sd := sd) hn P (by omega)) mv_X4_isBeyond m_863 dX4_beyond_19 rfl rfl ⟨by decide, by decide⟩ (by rw [hn]; decide) (by decide) (ci := 4) rfl rfl rfl (Nat.le_of_ble_eq_true rfl) ⟨by decide, by decide⟩ (n := 22) rfl (fun _ _ h => h.elim) (fun v9 ν9 h9 => ?_)
    rw [h9.1, h9.2]
    show zK x g ({ frames := 2, cells := 0, slots := 0, locals := 44 } : Room) 6 0 0 22 [some (.ref (za g 21)), some (.int (nI N)), some (.int th), some (.int sd), some (.int (zbN y C W th sd n)), some (.int (nI n))] [.int (v_X4_isBeyond (y n) C W th sd), .int (zbN y C W th sd n)] μ
    have hJ2 : zK x g ({ frames := 2, cells := 0, slots := 0, locals := 44 } : Room) 6 0 0 30 [some (.ref (za g 21)), some (.int (nI N)), some (.int th), some (.int sd), some (.int (zbN y C W th sd n)), some (.int (nI n))] [.int ((if (v_X4_isBeyond (y n) C W th sd) = 0 then (0 : Int32) else (1 : Int32))), .int (zbN y C W th sd n)] μ := by
      refine k_iadd S dX4_beyond_30 (n := 31) rfl ?_
      refine k_istore4 S dX4_beyond_31 (by decide) rfl (n := 33) rfl ?_
      refine k_iinc5 S dX4_beyond_33 (v := nI (n + 1)) (zi1 n) (by decide) (n := 36) rfl ?_
      refine k_goto S dX4_beyond_36 (tgt := 6) (by decide) ?_
      exact ih (n + 1) (by omega)
    refine k_if_eq S dX4_beyond_22 (tgt := 29) (by decide) (n := 25) rfl (fun c1 => ?_) (fun c1 => ?_)
    ·
      refine k_iconst S dX4_beyond_29 (v := 0) (by decide) (n := 30) rfl ?_
      rw [if_pos c1] at hJ2
      exact hJ2
    ·
      refine k_iconst S dX4_beyond_25 (v := 1) (by decide) (n := 26) rfl ?_
      refine k_goto S dX4_beyond_26 (tgt := 30) (by decide) ?_
      rw [if_neg c1] at hJ2
      exact hJ2
set_option maxRecDepth 100000 in
set_option maxHeartbeats 4000000 in
theorem c_X4_beyond {l : Launch} {g : zG} {μ : zM} {m : Nat} {y : Nat → Int32} {C W : Int32} {N : Nat} {th sd : Int32}  (hn : zn g = 32) (P : zPy μ m y C W) (hN : N ≤ m) : zC l g yX4_beyond cX4_beyond 6 (some .int) ({ frames := 2, cells := 0, slots := 0, locals := 44 } : Room) 0 0 [.ref (za g 21), .int (nI N), .int th, .int sd] μ (zRv (some (.int (zbN y C W th sd N))) μ) zNX := by
  refine zC_of (L0 := [some (.ref (za g 21)), some (.int (nI N)), some (.int th), some (.int sd), none, none]) (plainFor_of_name (by decide)) (Nat.le_of_ble_eq_true rfl) rfl ?_
  intro x S Y hxl
  subst hxl
  refine k_iconst S dX4_beyond_0 (v := 0) (by decide) (n := 1) rfl ?_
  refine k_istore4 S dX4_beyond_1 (by decide) rfl (n := 3) rfl ?_
  refine k_iconst S dX4_beyond_3 (v := 0) (by decide) (n := 4) rfl ?_
  refine k_istore5 S dX4_beyond_4 (by decide) rfl (n := 6) rfl ?_
  exact l_X4_beyond S Y hn P hN N 0 (by omega)
set_option maxRecDepth 100000 in
set_option maxHeartbeats 4000000 in
theorem l_X4_steps {x : zX} {g : zG} {μ : zM} {m : Nat} {y : Nat → Int32} {C W : Int32} {N : Nat} {sd : Int32}  (S : zS x g 5 cX4_steps RX4) (Y : zR x g (some .int) 0 0 [] (zRv (some (.int (zst y sd N))) μ) zNX) (hn : zn g = 32) (P : zPy μ m y C W) (hN : N < m)  : ∀ (k n : Nat), n + k = N → zK x g ({ frames := 1, cells := 0, slots := 0, locals := 21 } : Room) 5 0 0 5 [some (.ref (za g 21)), some (.int (nI N)), some (.int sd), some (.int (zst y sd n)), some (.int (nI n))] [] μ := by
  intro k
  induction k with
  | zero =>
    intro n h1
    obtain rfl : N = n := by omega
    refine k_iload4 S dX4_steps_5 (n := 7) rfl ?_
    refine k_iload1 S dX4_steps_7 (n := 8) rfl ?_
    refine k_icmp_ge S dX4_steps_8 (tgt := 45) (by decide) (n := 11) rfl (fun _ => ?_) (fun h9 => absurd (Int32.le_refl _) h9)
    refine k_iload3 S dX4_steps_45 (n := 46) rfl ?_
    exact k_iret S Y dX4_steps_46 (by decide) (by decide) rfl (⟨rfl, rfl⟩)
  | succ k ih =>
    intro n h1
    have hm60 := P.2.1
    refine k_iload4 S dX4_steps_5 (n := 7) rfl ?_
    refine k_iload1 S dX4_steps_7 (n := 8) rfl ?_
    refine k_icmp_ge S dX4_steps_8 (tgt := 45) (by decide) (n := 11) rfl (fun h9 => absurd h9 (nI_ge (by omega) (by omega))) (fun _ => ?_)
    refine k_iload3 S dX4_steps_11 (n := 12) rfl ?_
    refine k_aload0 S dX4_steps_12 (n := 13) rfl ?_
    refine k_iload4 S dX4_steps_13 (n := 15) rfl ?_
    refine k_callV (As := [.int (nI n)]) (rest := [.int (zst y sd n)]) (p := 21) S (c_X4_back (j := n) hn P (by omega)) mv_X4_back m_868 dX4_steps_15 rfl rfl ⟨by decide, by decide⟩ (by rw [hn]; decide) (by decide) (ci := 4) rfl rfl rfl (Nat.le_of_ble_eq_true rfl) ⟨by decide, by decide⟩ (n := 18) rfl (fun _ _ h => h.elim) (fun v9 ν9 h9 => ?_)
    rw [h9.1, h9.2]
    show zK x g ({ frames := 1, cells := 0, slots := 0, locals := 21 } : Room) 5 0 0 18 [some (.ref (za g 21)), some (.int (nI N)), some (.int sd), some (.int (zst y sd n)), some (.int (nI n))] [.int (y n), .int (zst y sd n)] μ
    refine k_aload0 S dX4_steps_18 (n := 19) rfl ?_
    refine k_iload4 S dX4_steps_19 (n := 21) rfl ?_
    refine k_iconst S dX4_steps_21 (v := 1) (by decide) (n := 22) rfl ?_
    refine k_iadd S dX4_steps_22 (n := 23) rfl ?_
    rw [show nI n + 1 = nI (n + 1) from (nI_succ n).symm]
    refine k_callV (As := [.int (nI (n + 1))]) (rest := [.int (y n), .int (zst y sd n)]) (p := 21) S (c_X4_back (j := (n + 1)) hn P (by omega)) mv_X4_back m_868 dX4_steps_23 rfl rfl ⟨by decide, by decide⟩ (by rw [hn]; decide) (by decide) (ci := 4) rfl rfl rfl (Nat.le_of_ble_eq_true rfl) ⟨by decide, by decide⟩ (n := 26) rfl (fun _ _ h => h.elim) (fun v9 ν9 h9 => ?_)
    rw [h9.1, h9.2]
    show zK x g ({ frames := 1, cells := 0, slots := 0, locals := 21 } : Room) 5 0 0 26 [some (.ref (za g 21)), some (.int (nI N)), some (.int sd), some (.int (zst y sd n)), some (.int (nI n))] [.int (y (n + 1)), .int (y n), .int (zst y sd n)] μ
    refine k_isub S dX4_steps_26 (n := 27) rfl ?_
    refine k_iload2 S dX4_steps_27 (n := 28) rfl ?_
    refine k_imul S dX4_steps_28 (n := 29) rfl ?_
    have hJ2 : zK x g ({ frames := 1, cells := 0, slots := 0, locals := 21 } : Room) 5 0 0 37 [some (.ref (za g 21)), some (.int (nI N)), some (.int sd), some (.int (zst y sd n)), some (.int (nI n))] [.int ((if (((y n) - (y (n + 1))) * sd) ≤ 0 then (0 : Int32) else (1 : Int32))), .int (zst y sd n)] μ := by
      refine k_iadd S dX4_steps_37 (n := 38) rfl ?_
      refine k_istore3 S dX4_steps_38 (by decide) rfl (n := 39) rfl ?_
      refine k_iinc4 S dX4_steps_39 (v := nI (n + 1)) (zi1 n) (by decide) (n := 42) rfl ?_
      refine k_goto S dX4_steps_42 (tgt := 5) (by decide) ?_
      exact ih (n + 1) (by omega)
    refine k_if_le S dX4_steps_29 (tgt := 36) (by decide) (n := 32) rfl (fun c1 => ?_) (fun c1 => ?_)
    ·
      refine k_iconst S dX4_steps_36 (v := 0) (by decide) (n := 37) rfl ?_
      rw [if_pos c1] at hJ2
      exact hJ2
    ·
      refine k_iconst S dX4_steps_32 (v := 1) (by decide) (n := 33) rfl ?_
      refine k_goto S dX4_steps_33 (tgt := 37) (by decide) ?_
      rw [if_neg c1] at hJ2
      exact hJ2
set_option maxRecDepth 100000 in
set_option maxHeartbeats 4000000 in
theorem c_X4_steps {l : Launch} {g : zG} {μ : zM} {m : Nat} {y : Nat → Int32} {C W : Int32} {N : Nat} {sd : Int32}  (hn : zn g = 32) (P : zPy μ m y C W) (hN : N < m) : zC l g yX4_steps cX4_steps 5 (some .int) ({ frames := 1, cells := 0, slots := 0, locals := 21 } : Room) 0 0 [.ref (za g 21), .int (nI N), .int sd] μ (zRv (some (.int (zst y sd N))) μ) zNX := by
  refine zC_of (L0 := [some (.ref (za g 21)), some (.int (nI N)), some (.int sd), none, none]) (plainFor_of_name (by decide)) (Nat.le_of_ble_eq_true rfl) rfl ?_
  intro x S Y hxl
  subst hxl
  refine k_iconst S dX4_steps_0 (v := 0) (by decide) (n := 1) rfl ?_
  refine k_istore3 S dX4_steps_1 (by decide) rfl (n := 2) rfl ?_
  refine k_iconst S dX4_steps_2 (v := 0) (by decide) (n := 3) rfl ?_
  refine k_istore4 S dX4_steps_3 (by decide) rfl (n := 5) rfl ?_
  exact l_X4_steps S Y hn P hN N 0 (by omega)
set_option maxRecDepth 100000 in
set_option maxHeartbeats 4000000 in
theorem l_X4_aboveOf {x : zX} {g : zG} {μ : zM} {m : Nat} {y : Nat → Int32} {C W : Int32} {N : Nat} {sd : Int32}  (S : zS x g 5 cX4_aboveOf RX4) (Y : zR x g (some .int) 0 0 [] (zRv (some (.int (zab y C sd N))) μ) zNX) (hn : zn g = 32) (P : zPy μ m y C W) (hN : N ≤ m)  : ∀ (k n : Nat), n + k = N → zK x g ({ frames := 1, cells := 0, slots := 0, locals := 21 } : Room) 5 0 0 5 [some (.ref (za g 21)), some (.int (nI N)), some (.int sd), some (.int (zab y C sd n)), some (.int (nI n))] [] μ := by
  intro k
  induction k with
  | zero =>
    intro n h1
    obtain rfl : N = n := by omega
    refine k_iload4 S dX4_aboveOf_5 (n := 7) rfl ?_
    refine k_iload1 S dX4_aboveOf_7 (n := 8) rfl ?_
    refine k_icmp_ge S dX4_aboveOf_8 (tgt := 41) (by decide) (n := 11) rfl (fun _ => ?_) (fun h9 => absurd (Int32.le_refl _) h9)
    refine k_iload3 S dX4_aboveOf_41 (n := 42) rfl ?_
    exact k_iret S Y dX4_aboveOf_42 (by decide) (by decide) rfl (⟨rfl, rfl⟩)
  | succ k ih =>
    intro n h1
    have hm60 := P.2.1
    refine k_iload4 S dX4_aboveOf_5 (n := 7) rfl ?_
    refine k_iload1 S dX4_aboveOf_7 (n := 8) rfl ?_
    refine k_icmp_ge S dX4_aboveOf_8 (tgt := 41) (by decide) (n := 11) rfl (fun h9 => absurd h9 (nI_ge (by omega) (by omega))) (fun _ => ?_)
    refine k_iload3 S dX4_aboveOf_11 (n := 12) rfl ?_
    refine k_aload0 S dX4_aboveOf_12 (n := 13) rfl ?_
    refine k_iload4 S dX4_aboveOf_13 (n := 15) rfl ?_
    refine k_callV (As := [.int (nI n)]) (rest := [.int (zab y C sd n)]) (p := 21) S (c_X4_back (j := n) hn P (by omega)) mv_X4_back m_868 dX4_aboveOf_15 rfl rfl ⟨by decide, by decide⟩ (by rw [hn]; decide) (by decide) (ci := 4) rfl rfl rfl (Nat.le_of_ble_eq_true rfl) ⟨by decide, by decide⟩ (n := 18) rfl (fun _ _ h => h.elim) (fun v9 ν9 h9 => ?_)
    rw [h9.1, h9.2]
    show zK x g ({ frames := 1, cells := 0, slots := 0, locals := 21 } : Room) 5 0 0 18 [some (.ref (za g 21)), some (.int (nI N)), some (.int sd), some (.int (zab y C sd n)), some (.int (nI n))] [.int (y n), .int (zab y C sd n)] μ
    refine k_aload0 S dX4_aboveOf_18 (n := 19) rfl ?_
    refine k_getv (v := C) (T := TX4) (j := 16) S dX4_aboveOf_19 (by rw [hn]; decide) (by decide) (ci := 4) rfl rfl (by decide) in_4 m_688 rfl rfl P.2.2.2.1 (n := 22) rfl ?_
    refine k_isub S dX4_aboveOf_22 (n := 23) rfl ?_
    refine k_iload2 S dX4_aboveOf_23 (n := 24) rfl ?_
    refine k_imul S dX4_aboveOf_24 (n := 25) rfl ?_
    have hJ2 : zK x g ({ frames := 1, cells := 0, slots := 0, locals := 21 } : Room) 5 0 0 33 [some (.ref (za g 21)), some (.int (nI N)), some (.int sd), some (.int (zab y C sd n)), some (.int (nI n))] [.int ((if (((y n) - C) * sd) ≤ 0 then (0 : Int32) else (1 : Int32))), .int (zab y C sd n)] μ := by
      refine k_iadd S dX4_aboveOf_33 (n := 34) rfl ?_
      refine k_istore3 S dX4_aboveOf_34 (by decide) rfl (n := 35) rfl ?_
      refine k_iinc4 S dX4_aboveOf_35 (v := nI (n + 1)) (zi1 n) (by decide) (n := 38) rfl ?_
      refine k_goto S dX4_aboveOf_38 (tgt := 5) (by decide) ?_
      exact ih (n + 1) (by omega)
    refine k_if_le S dX4_aboveOf_25 (tgt := 32) (by decide) (n := 28) rfl (fun c1 => ?_) (fun c1 => ?_)
    ·
      refine k_iconst S dX4_aboveOf_32 (v := 0) (by decide) (n := 33) rfl ?_
      rw [if_pos c1] at hJ2
      exact hJ2
    ·
      refine k_iconst S dX4_aboveOf_28 (v := 1) (by decide) (n := 29) rfl ?_
      refine k_goto S dX4_aboveOf_29 (tgt := 33) (by decide) ?_
      rw [if_neg c1] at hJ2
      exact hJ2
set_option maxRecDepth 100000 in
set_option maxHeartbeats 4000000 in
theorem c_X4_aboveOf {l : Launch} {g : zG} {μ : zM} {m : Nat} {y : Nat → Int32} {C W : Int32} {N : Nat} {sd : Int32}  (hn : zn g = 32) (P : zPy μ m y C W) (hN : N ≤ m) : zC l g yX4_aboveOf cX4_aboveOf 5 (some .int) ({ frames := 1, cells := 0, slots := 0, locals := 21 } : Room) 0 0 [.ref (za g 21), .int (nI N), .int sd] μ (zRv (some (.int (zab y C sd N))) μ) zNX := by
  refine zC_of (L0 := [some (.ref (za g 21)), some (.int (nI N)), some (.int sd), none, none]) (plainFor_of_name (by decide)) (Nat.le_of_ble_eq_true rfl) rfl ?_
  intro x S Y hxl
  subst hxl
  refine k_iconst S dX4_aboveOf_0 (v := 0) (by decide) (n := 1) rfl ?_
  refine k_istore3 S dX4_aboveOf_1 (by decide) rfl (n := 2) rfl ?_
  refine k_iconst S dX4_aboveOf_2 (v := 0) (by decide) (n := 3) rfl ?_
  refine k_istore4 S dX4_aboveOf_3 (by decide) rfl (n := 5) rfl ?_
  exact l_X4_aboveOf S Y hn P hN N 0 (by omega)
def zbool (a : Int32) : Prop := a = 0 ∨ a = 1
theorem zbool_and {a b : Int32} (ha : zbool a) (hb : zbool b) : zbool (a &&& b) := by
  rcases ha with rfl | rfl
  · rcases hb with rfl | rfl
    · exact Or.inl (by decide)
    · exact Or.inl (by decide)
  · rcases hb with rfl | rfl
    · exact Or.inl (by decide)
    · exact Or.inr (by decide)
theorem zbool_ite {p : Prop} [Decidable p] : zbool (if p then (0 : Int32) else (1 : Int32)) := by
  by_cases h : p
  · rw [if_pos h]
    exact Or.inl rfl
  · rw [if_neg h]
    exact Or.inr rfl
theorem zbool_ite1 {p : Prop} [Decidable p] : zbool (if p then (1 : Int32) else (0 : Int32)) := by
  by_cases h : p
  · rw [if_pos h]
    exact Or.inr rfl
  · rw [if_neg h]
    exact Or.inl rfl
theorem zt1_b (y : Nat → Int32) : ∀ n, zbool (zt1 y n)
  | 0 => Or.inr rfl
  | n + 1 => zbool_and (zt1_b y n) zbool_ite
theorem zt2_b (y : Nat → Int32) {i0 : Int32} (h : zbool i0) : ∀ n, zbool (zt2 y i0 n)
  | 0 => h
  | n + 1 => zbool_and (zt2_b y h n) zbool_ite1
set_option maxRecDepth 100000 in
set_option maxHeartbeats 4000000 in
theorem l2_X4_isTurning {x : zX} {g : zG} {μ : zM} {m : Nat} {y : Nat → Int32} {C W : Int32} (S : zS x g 3 cX4_isTurning RX4) (Y : zR x g (some .boolean) 0 0 [] (zRv (some (.int (zt2 y (zt1 y 13) 12))) μ) zNX) (hb : zbool (zt2 y (zt1 y 13) 12)) (hn : zn g = 32) (P : zPy μ m y C W) (h14 : 14 ≤ m) : ∀ (k n : Nat), n + k = 12 → zK x g ({ frames := 1, cells := 0, slots := 0, locals := 21 } : Room) 3 0 0 41 [some (.ref (za g 21)), some (.int (zt2 y (zt1 y 13) n)), some (.int (nI n))] [] μ := by
  intro k
  induction k with
  | zero =>
    intro n h1
    obtain rfl : n = 12 := by omega
    refine k_iload2 S dX4_isTurning_41 (n := 42) rfl ?_
    refine k_bipush S dX4_isTurning_42 (v := 12) (by decide) (n := 44) rfl ?_
    refine k_icmp_ge S dX4_isTurning_44 (tgt := 106) (by decide) (n := 47) rfl (fun _ => ?_) (fun h9 => absurd ((Int32.le_refl _ : (12 : Int32) ≤ nI 12)) h9)
    refine k_iload1 S dX4_isTurning_106 (n := 107) rfl ?_
    exact k_iret S Y dX4_isTurning_107 (by decide) (by decide) (by rcases hb with e | e <;> rw [e] <;> rfl) (⟨rfl, rfl⟩)
  | succ k ih =>
    intro n h1
    refine k_iload2 S dX4_isTurning_41 (n := 42) rfl ?_
    refine k_bipush S dX4_isTurning_42 (v := 12) (by decide) (n := 44) rfl ?_
    refine k_icmp_ge S dX4_isTurning_44 (tgt := 106) (by decide) (n := 47) rfl (fun h9 => absurd h9 (nI_ge (a := n) (b := 12) (by omega) (by decide))) (fun _ => ?_)
    refine k_iload1 S dX4_isTurning_47 (n := 48) rfl ?_
    refine k_aload0 S dX4_isTurning_48 (n := 49) rfl ?_
    refine k_iload2 S dX4_isTurning_49 (n := 50) rfl ?_
    refine k_callV (As := [.int (nI n)]) (rest := [.int (zt2 y (zt1 y 13) n)]) (p := 21) S (c_X4_back (j := n) hn P (by omega)) mv_X4_back m_868 dX4_isTurning_50 rfl rfl ⟨by decide, by decide⟩ (by rw [hn]; decide) (by decide) (ci := 4) rfl rfl rfl (Nat.le_of_ble_eq_true rfl) ⟨by decide, by decide⟩ (n := 53) rfl (fun _ _ h => h.elim) (fun v9 ν9 h9 => ?_)
    rw [h9.1, h9.2]
    show zK x g ({ frames := 1, cells := 0, slots := 0, locals := 21 } : Room) 3 0 0 53 [some (.ref (za g 21)), some (.int (zt2 y (zt1 y 13) n)), some (.int (nI n))] [.int (y n), .int (zt2 y (zt1 y 13) n)] μ
    refine k_aload0 S dX4_isTurning_53 (n := 54) rfl ?_
    refine k_iload2 S dX4_isTurning_54 (n := 55) rfl ?_
    refine k_iconst S dX4_isTurning_55 (v := 1) (by decide) (n := 56) rfl ?_
    refine k_iadd S dX4_isTurning_56 (n := 57) rfl ?_
    rw [show nI n + 1 = nI (n + 1) from (nI_succ n).symm]
    refine k_callV (As := [.int (nI (n + 1))]) (rest := [.int (y n), .int (zt2 y (zt1 y 13) n)]) (p := 21) S (c_X4_back (j := (n + 1)) hn P (by omega)) mv_X4_back m_868 dX4_isTurning_57 rfl rfl ⟨by decide, by decide⟩ (by rw [hn]; decide) (by decide) (ci := 4) rfl rfl rfl (Nat.le_of_ble_eq_true rfl) ⟨by decide, by decide⟩ (n := 60) rfl (fun _ _ h => h.elim) (fun v9 ν9 h9 => ?_)
    rw [h9.1, h9.2]
    show zK x g ({ frames := 1, cells := 0, slots := 0, locals := 21 } : Room) 3 0 0 60 [some (.ref (za g 21)), some (.int (zt2 y (zt1 y 13) n)), some (.int (nI n))] [.int (y (n + 1)), .int (y n), .int (zt2 y (zt1 y 13) n)] μ
    have hJ2 : zK x g ({ frames := 1, cells := 0, slots := 0, locals := 21 } : Room) 3 0 0 68 [some (.ref (za g 21)), some (.int (zt2 y (zt1 y 13) n)), some (.int (nI n))] [.int ((if (y (n + 1)) ≤ (y n) then (0 : Int32) else (1 : Int32))), .int (zt2 y (zt1 y 13) n)] μ := by
      refine k_aload0 S dX4_isTurning_68 (n := 69) rfl ?_
      refine k_iload2 S dX4_isTurning_69 (n := 70) rfl ?_
      refine k_iconst S dX4_isTurning_70 (v := 2) (by decide) (n := 71) rfl ?_
      refine k_iadd S dX4_isTurning_71 (n := 72) rfl ?_
      rw [show nI n + 2 = nI (n + 2) from nI_add n 2]
      refine k_callV (As := [.int (nI (n + 2))]) (rest := [.int ((if (y (n + 1)) ≤ (y n) then (0 : Int32) else (1 : Int32))), .int (zt2 y (zt1 y 13) n)]) (p := 21) S (c_X4_back (j := (n + 2)) hn P (by omega)) mv_X4_back m_868 dX4_isTurning_72 rfl rfl ⟨by decide, by decide⟩ (by rw [hn]; decide) (by decide) (ci := 4) rfl rfl rfl (Nat.le_of_ble_eq_true rfl) ⟨by decide, by decide⟩ (n := 75) rfl (fun _ _ h => h.elim) (fun v9 ν9 h9 => ?_)
      rw [h9.1, h9.2]
      show zK x g ({ frames := 1, cells := 0, slots := 0, locals := 21 } : Room) 3 0 0 75 [some (.ref (za g 21)), some (.int (zt2 y (zt1 y 13) n)), some (.int (nI n))] [.int (y (n + 2)), .int ((if (y (n + 1)) ≤ (y n) then (0 : Int32) else (1 : Int32))), .int (zt2 y (zt1 y 13) n)] μ
      refine k_aload0 S dX4_isTurning_75 (n := 76) rfl ?_
      refine k_iload2 S dX4_isTurning_76 (n := 77) rfl ?_
      refine k_iconst S dX4_isTurning_77 (v := 1) (by decide) (n := 78) rfl ?_
      refine k_iadd S dX4_isTurning_78 (n := 79) rfl ?_
      rw [show nI n + 1 = nI (n + 1) from (nI_succ n).symm]
      refine k_callV (As := [.int (nI (n + 1))]) (rest := [.int (y (n + 2)), .int ((if (y (n + 1)) ≤ (y n) then (0 : Int32) else (1 : Int32))), .int (zt2 y (zt1 y 13) n)]) (p := 21) S (c_X4_back (j := (n + 1)) hn P (by omega)) mv_X4_back m_868 dX4_isTurning_79 rfl rfl ⟨by decide, by decide⟩ (by rw [hn]; decide) (by decide) (ci := 4) rfl rfl rfl (Nat.le_of_ble_eq_true rfl) ⟨by decide, by decide⟩ (n := 82) rfl (fun _ _ h => h.elim) (fun v9 ν9 h9 => ?_)
      rw [h9.1, h9.2]
      show zK x g ({ frames := 1, cells := 0, slots := 0, locals := 21 } : Room) 3 0 0 82 [some (.ref (za g 21)), some (.int (zt2 y (zt1 y 13) n)), some (.int (nI n))] [.int (y (n + 1)), .int (y (n + 2)), .int ((if (y (n + 1)) ≤ (y n) then (0 : Int32) else (1 : Int32))), .int (zt2 y (zt1 y 13) n)] μ
      have hJ4 : zK x g ({ frames := 1, cells := 0, slots := 0, locals := 21 } : Room) 3 0 0 90 [some (.ref (za g 21)), some (.int (zt2 y (zt1 y 13) n)), some (.int (nI n))] [.int ((if (y (n + 1)) ≤ (y (n + 2)) then (0 : Int32) else (1 : Int32))), .int ((if (y (n + 1)) ≤ (y n) then (0 : Int32) else (1 : Int32))), .int (zt2 y (zt1 y 13) n)] μ := by
        have hJ6 : zK x g ({ frames := 1, cells := 0, slots := 0, locals := 21 } : Room) 3 0 0 98 [some (.ref (za g 21)), some (.int (zt2 y (zt1 y 13) n)), some (.int (nI n))] [.int ((if ((if (y (n + 1)) ≤ (y n) then (0 : Int32) else (1 : Int32))) = ((if (y (n + 1)) ≤ (y (n + 2)) then (0 : Int32) else (1 : Int32))) then (1 : Int32) else (0 : Int32))), .int (zt2 y (zt1 y 13) n)] μ := by
          refine k_iand S dX4_isTurning_98 (n := 99) rfl ?_
          refine k_istore1 S dX4_isTurning_99 (by decide) rfl (n := 100) rfl ?_
          refine k_iinc2 S dX4_isTurning_100 (v := nI (n + 1)) (zi1 n) (by decide) (n := 103) rfl ?_
          refine k_goto S dX4_isTurning_103 (tgt := 41) (by decide) ?_
          exact ih (n + 1) (by omega)
        refine k_icmp_ne S dX4_isTurning_90 (tgt := 97) (by decide) (n := 93) rfl (fun c5 => ?_) (fun c5 => ?_)
        ·
          refine k_iconst S dX4_isTurning_97 (v := 0) (by decide) (n := 98) rfl ?_
          rw [if_neg c5] at hJ6
          exact hJ6
        ·
          refine k_iconst S dX4_isTurning_93 (v := 1) (by decide) (n := 94) rfl ?_
          refine k_goto S dX4_isTurning_94 (tgt := 98) (by decide) ?_
          rw [if_pos c5] at hJ6
          exact hJ6
      refine k_icmp_ge S dX4_isTurning_82 (tgt := 89) (by decide) (n := 85) rfl (fun c3 => ?_) (fun c3 => ?_)
      ·
        refine k_iconst S dX4_isTurning_89 (v := 0) (by decide) (n := 90) rfl ?_
        rw [if_pos c3] at hJ4
        exact hJ4
      ·
        refine k_iconst S dX4_isTurning_85 (v := 1) (by decide) (n := 86) rfl ?_
        refine k_goto S dX4_isTurning_86 (tgt := 90) (by decide) ?_
        rw [if_neg c3] at hJ4
        exact hJ4
    refine k_icmp_ge S dX4_isTurning_60 (tgt := 67) (by decide) (n := 63) rfl (fun c1 => ?_) (fun c1 => ?_)
    ·
      refine k_iconst S dX4_isTurning_67 (v := 0) (by decide) (n := 68) rfl ?_
      rw [if_pos c1] at hJ2
      exact hJ2
    ·
      refine k_iconst S dX4_isTurning_63 (v := 1) (by decide) (n := 64) rfl ?_
      refine k_goto S dX4_isTurning_64 (tgt := 68) (by decide) ?_
      rw [if_neg c1] at hJ2
      exact hJ2
set_option maxRecDepth 100000 in
set_option maxHeartbeats 4000000 in
theorem l_X4_isTurning {x : zX} {g : zG} {μ : zM} {m : Nat} {y : Nat → Int32} {C W : Int32} (S : zS x g 3 cX4_isTurning RX4) (Y : zR x g (some .boolean) 0 0 [] (zRv (some (.int (zt2 y (zt1 y 13) 12))) μ) zNX) (hb : zbool (zt2 y (zt1 y 13) 12)) (hn : zn g = 32) (P : zPy μ m y C W) (h14 : 14 ≤ m) : ∀ (k n : Nat), n + k = 13 → zK x g ({ frames := 1, cells := 0, slots := 0, locals := 21 } : Room) 3 0 0 4 [some (.ref (za g 21)), some (.int (zt1 y n)), some (.int (nI n))] [] μ := by
  intro k
  induction k with
  | zero =>
    intro n h1
    obtain rfl : n = 13 := by omega
    refine k_iload2 S dX4_isTurning_4 (n := 5) rfl ?_
    refine k_bipush S dX4_isTurning_5 (v := 13) (by decide) (n := 7) rfl ?_
    refine k_icmp_ge S dX4_isTurning_7 (tgt := 39) (by decide) (n := 10) rfl (fun _ => ?_) (fun h9 => absurd ((Int32.le_refl _ : (13 : Int32) ≤ nI 13)) h9)
    refine k_iconst S dX4_isTurning_39 (v := 0) (by decide) (n := 40) rfl ?_
    refine k_istore2 S dX4_isTurning_40 (by decide) rfl (n := 41) rfl ?_
    exact l2_X4_isTurning S Y hb hn P h14 12 0 (by omega)
  | succ k ih =>
    intro n h1
    refine k_iload2 S dX4_isTurning_4 (n := 5) rfl ?_
    refine k_bipush S dX4_isTurning_5 (v := 13) (by decide) (n := 7) rfl ?_
    refine k_icmp_ge S dX4_isTurning_7 (tgt := 39) (by decide) (n := 10) rfl (fun h9 => absurd h9 (nI_ge (a := n) (b := 13) (by omega) (by decide))) (fun _ => ?_)
    refine k_iload1 S dX4_isTurning_10 (n := 11) rfl ?_
    refine k_aload0 S dX4_isTurning_11 (n := 12) rfl ?_
    refine k_iload2 S dX4_isTurning_12 (n := 13) rfl ?_
    refine k_callV (As := [.int (nI n)]) (rest := [.int (zt1 y n)]) (p := 21) S (c_X4_back (j := n) hn P (by omega)) mv_X4_back m_868 dX4_isTurning_13 rfl rfl ⟨by decide, by decide⟩ (by rw [hn]; decide) (by decide) (ci := 4) rfl rfl rfl (Nat.le_of_ble_eq_true rfl) ⟨by decide, by decide⟩ (n := 16) rfl (fun _ _ h => h.elim) (fun v9 ν9 h9 => ?_)
    rw [h9.1, h9.2]
    show zK x g ({ frames := 1, cells := 0, slots := 0, locals := 21 } : Room) 3 0 0 16 [some (.ref (za g 21)), some (.int (zt1 y n)), some (.int (nI n))] [.int (y n), .int (zt1 y n)] μ
    refine k_aload0 S dX4_isTurning_16 (n := 17) rfl ?_
    refine k_iload2 S dX4_isTurning_17 (n := 18) rfl ?_
    refine k_iconst S dX4_isTurning_18 (v := 1) (by decide) (n := 19) rfl ?_
    refine k_iadd S dX4_isTurning_19 (n := 20) rfl ?_
    rw [show nI n + 1 = nI (n + 1) from (nI_succ n).symm]
    refine k_callV (As := [.int (nI (n + 1))]) (rest := [.int (y n), .int (zt1 y n)]) (p := 21) S (c_X4_back (j := (n + 1)) hn P (by omega)) mv_X4_back m_868 dX4_isTurning_20 rfl rfl ⟨by decide, by decide⟩ (by rw [hn]; decide) (by decide) (ci := 4) rfl rfl rfl (Nat.le_of_ble_eq_true rfl) ⟨by decide, by decide⟩ (n := 23) rfl (fun _ _ h => h.elim) (fun v9 ν9 h9 => ?_)
    rw [h9.1, h9.2]
    show zK x g ({ frames := 1, cells := 0, slots := 0, locals := 21 } : Room) 3 0 0 23 [some (.ref (za g 21)), some (.int (zt1 y n)), some (.int (nI n))] [.int (y (n + 1)), .int (y n), .int (zt1 y n)] μ
    have hJ2 : zK x g ({ frames := 1, cells := 0, slots := 0, locals := 21 } : Room) 3 0 0 31 [some (.ref (za g 21)), some (.int (zt1 y n)), some (.int (nI n))] [.int ((if (y n) = (y (n + 1)) then (0 : Int32) else (1 : Int32))), .int (zt1 y n)] μ := by
      refine k_iand S dX4_isTurning_31 (n := 32) rfl ?_
      refine k_istore1 S dX4_isTurning_32 (by decide) rfl (n := 33) rfl ?_
      refine k_iinc2 S dX4_isTurning_33 (v := nI (n + 1)) (zi1 n) (by decide) (n := 36) rfl ?_
      refine k_goto S dX4_isTurning_36 (tgt := 4) (by decide) ?_
      exact ih (n + 1) (by omega)
    refine k_icmp_eq S dX4_isTurning_23 (tgt := 30) (by decide) (n := 26) rfl (fun c1 => ?_) (fun c1 => ?_)
    ·
      refine k_iconst S dX4_isTurning_30 (v := 0) (by decide) (n := 31) rfl ?_
      rw [if_pos c1] at hJ2
      exact hJ2
    ·
      refine k_iconst S dX4_isTurning_26 (v := 1) (by decide) (n := 27) rfl ?_
      refine k_goto S dX4_isTurning_27 (tgt := 31) (by decide) ?_
      rw [if_neg c1] at hJ2
      exact hJ2
set_option maxRecDepth 100000 in
set_option maxHeartbeats 4000000 in
theorem c_X4_isTurning {l : Launch} {g : zG} {μ : zM} {m : Nat} {y : Nat → Int32} {C W : Int32}  (hn : zn g = 32) (P : zPy μ m y C W) (h14 : 14 ≤ m) : zC l g yX4_isTurning cX4_isTurning 3 (some .boolean) ({ frames := 1, cells := 0, slots := 0, locals := 21 } : Room) 0 0 [.ref (za g 21)] μ (zRv (some (.int (zt2 y (zt1 y 13) 12))) μ) zNX := by
  refine zC_of (L0 := [some (.ref (za g 21)), none, none]) (plainFor_of_name (by decide)) (Nat.le_of_ble_eq_true rfl) rfl ?_
  intro x S Y hxl
  subst hxl
  refine k_iconst S dX4_isTurning_0 (v := 1) (by decide) (n := 1) rfl ?_
  refine k_istore1 S dX4_isTurning_1 (by decide) rfl (n := 2) rfl ?_
  refine k_iconst S dX4_isTurning_2 (v := 0) (by decide) (n := 3) rfl ?_
  refine k_istore2 S dX4_isTurning_3 (by decide) rfl (n := 4) rfl ?_
  exact l_X4_isTurning S Y (zt2_b y (zt1_b y 13) 12) hn P h14 13 0 (by omega)
def v_X4_named (a : Int32) : Int32 := (if a = 1 then (1 : Int32) else (if a = 2 then (9 : Int32) else (if a = 3 then (6 : Int32) else (if a = 4 then (14 : Int32) else (if a = 5 then (3 : Int32) else (if a = 6 then (5 : Int32) else (if a = 7 then (15 : Int32) else (8 : Int32))))))))
set_option maxRecDepth 100000 in
set_option maxHeartbeats 4000000 in
theorem c_X4_named {l : Launch} {g : zG} {a : Int32} {μ : zM} : zC l g yX4_named cX4_named 1 (some .int) ({ frames := 0, cells := 0, slots := 0, locals := 0 } : Room) 0 0 [.int a] μ (zRv (some (.int (v_X4_named a))) μ) zNX := by
  refine zC_of (L0 := [some (.int a)]) (plainFor_of_name (by decide)) (Nat.le_of_ble_eq_true rfl) rfl ?_
  intro x S Y hxl
  subst hxl
  refine k_iload0 S dX4_named_0 (n := 1) rfl ?_
  refine k_iconst S dX4_named_1 (v := 1) (by decide) (n := 2) rfl ?_
  have hJ2 : zK x g ({ frames := 0, cells := 0, slots := 0, locals := 0 } : Room) 1 0 0 71 [some (.int a)] [.int ((if a = 1 then (1 : Int32) else (if a = 2 then (9 : Int32) else (if a = 3 then (6 : Int32) else (if a = 4 then (14 : Int32) else (if a = 5 then (3 : Int32) else (if a = 6 then (5 : Int32) else (if a = 7 then (15 : Int32) else (8 : Int32)))))))))] μ := by
    exact k_iret S Y dX4_named_71 (by decide) (by decide) rfl (⟨rfl, rfl⟩)
  refine k_icmp_ne S dX4_named_2 (tgt := 9) (by decide) (n := 5) rfl (fun c1 => ?_) (fun c1 => ?_)
  ·
    refine k_iload0 S dX4_named_9 (n := 10) rfl ?_
    refine k_iconst S dX4_named_10 (v := 2) (by decide) (n := 11) rfl ?_
    refine k_icmp_ne S dX4_named_11 (tgt := 19) (by decide) (n := 14) rfl (fun c3 => ?_) (fun c3 => ?_)
    ·
      refine k_iload0 S dX4_named_19 (n := 20) rfl ?_
      refine k_iconst S dX4_named_20 (v := 3) (by decide) (n := 21) rfl ?_
      refine k_icmp_ne S dX4_named_21 (tgt := 29) (by decide) (n := 24) rfl (fun c4 => ?_) (fun c4 => ?_)
      ·
        refine k_iload0 S dX4_named_29 (n := 30) rfl ?_
        refine k_iconst S dX4_named_30 (v := 4) (by decide) (n := 31) rfl ?_
        refine k_icmp_ne S dX4_named_31 (tgt := 39) (by decide) (n := 34) rfl (fun c5 => ?_) (fun c5 => ?_)
        ·
          refine k_iload0 S dX4_named_39 (n := 40) rfl ?_
          refine k_iconst S dX4_named_40 (v := 5) (by decide) (n := 41) rfl ?_
          refine k_icmp_ne S dX4_named_41 (tgt := 48) (by decide) (n := 44) rfl (fun c6 => ?_) (fun c6 => ?_)
          ·
            refine k_iload0 S dX4_named_48 (n := 49) rfl ?_
            refine k_bipush S dX4_named_49 (v := 6) (by decide) (n := 51) rfl ?_
            refine k_icmp_ne S dX4_named_51 (tgt := 58) (by decide) (n := 54) rfl (fun c7 => ?_) (fun c7 => ?_)
            ·
              refine k_iload0 S dX4_named_58 (n := 59) rfl ?_
              refine k_bipush S dX4_named_59 (v := 7) (by decide) (n := 61) rfl ?_
              refine k_icmp_ne S dX4_named_61 (tgt := 69) (by decide) (n := 64) rfl (fun c8 => ?_) (fun c8 => ?_)
              ·
                refine k_bipush S dX4_named_69 (v := 8) (by decide) (n := 71) rfl ?_
                rw [if_neg c1, if_neg c3, if_neg c4, if_neg c5, if_neg c6, if_neg c7, if_neg c8] at hJ2
                exact hJ2
              ·
                refine k_bipush S dX4_named_64 (v := 15) (by decide) (n := 66) rfl ?_
                refine k_goto S dX4_named_66 (tgt := 71) (by decide) ?_
                rw [if_neg c1, if_neg c3, if_neg c4, if_neg c5, if_neg c6, if_neg c7, if_pos c8] at hJ2
                exact hJ2
            ·
              refine k_iconst S dX4_named_54 (v := 5) (by decide) (n := 55) rfl ?_
              refine k_goto S dX4_named_55 (tgt := 71) (by decide) ?_
              rw [if_neg c1, if_neg c3, if_neg c4, if_neg c5, if_neg c6, if_pos c7] at hJ2
              exact hJ2
          ·
            refine k_iconst S dX4_named_44 (v := 3) (by decide) (n := 45) rfl ?_
            refine k_goto S dX4_named_45 (tgt := 71) (by decide) ?_
            rw [if_neg c1, if_neg c3, if_neg c4, if_neg c5, if_pos c6] at hJ2
            exact hJ2
        ·
          refine k_bipush S dX4_named_34 (v := 14) (by decide) (n := 36) rfl ?_
          refine k_goto S dX4_named_36 (tgt := 71) (by decide) ?_
          rw [if_neg c1, if_neg c3, if_neg c4, if_pos c5] at hJ2
          exact hJ2
      ·
        refine k_bipush S dX4_named_24 (v := 6) (by decide) (n := 26) rfl ?_
        refine k_goto S dX4_named_26 (tgt := 71) (by decide) ?_
        rw [if_neg c1, if_neg c3, if_pos c4] at hJ2
        exact hJ2
    ·
      refine k_bipush S dX4_named_14 (v := 9) (by decide) (n := 16) rfl ?_
      refine k_goto S dX4_named_16 (tgt := 71) (by decide) ?_
      rw [if_neg c1, if_pos c3] at hJ2
      exact hJ2
  ·
    refine k_iconst S dX4_named_5 (v := 1) (by decide) (n := 6) rfl ?_
    refine k_goto S dX4_named_6 (tgt := 71) (by decide) ?_
    rw [if_pos c1] at hJ2
    exact hJ2
