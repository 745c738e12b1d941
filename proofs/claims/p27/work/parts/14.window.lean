/-! THE WINDOW: this at place 8, numbers at 9, levels at 10; a phase at 11 + k -/
def v_X2_isFull (μ : zM) : Int32 := (if (μ.1 8 2) < 15 then (0 : Int32) else (1 : Int32))
set_option maxRecDepth 100000 in
set_option maxHeartbeats 4000000 in
theorem c_X2_isFull {l : Launch} {g : zG} {μ : zM} : zC l g yX2_isFull cX2_isFull 1 (some .boolean) ({ frames := 0, cells := 0, slots := 0, locals := 0 } : Room) 0 0 [.ref (za g 8)] μ (zRv (some (.int (v_X2_isFull μ))) μ) zNX := by
  refine zC_of (L0 := [some (.ref (za g 8))]) (plainFor_of_name (by decide)) (Nat.le_of_ble_eq_true rfl) rfl ?_
  intro x S Y hxl
  subst hxl
  refine k_aload0 S dX2_isFull_0 (n := 1) rfl ?_
  refine k_geti (T := TX2) (j := 2) S dX2_isFull_1 (zlt S (by decide)) (by decide) (ci := 2) rfl rfl (by decide) in_2 m_129 rfl rfl (n := 4) rfl ?_
  refine k_bipush S dX2_isFull_4 (v := 15) (by decide) (n := 6) rfl ?_
  have hJ2 : zK x g ({ frames := 0, cells := 0, slots := 0, locals := 0 } : Room) 1 0 0 14 [some (.ref (za g 8))] [.int ((if (μ.1 8 2) < 15 then (0 : Int32) else (1 : Int32)))] μ := by
    exact k_iret S Y dX2_isFull_14 (by decide) (by decide) (by repeat' (first | rfl | split)) (⟨rfl, rfl⟩)
  refine k_icmp_lt S dX2_isFull_6 (tgt := 13) (by decide) (n := 9) rfl (fun c1 => ?_) (fun c1 => ?_)
  ·
    refine k_iconst S dX2_isFull_13 (v := 0) (by decide) (n := 14) rfl ?_
    rw [if_pos c1] at hJ2
    exact hJ2
  ·
    refine k_iconst S dX2_isFull_9 (v := 1) (by decide) (n := 10) rfl ?_
    refine k_goto S dX2_isFull_10 (tgt := 14) (by decide) ?_
    rw [if_neg c1] at hJ2
    exact hJ2
def m_X2_restart (μ : zM) : zM := zu μ 8 2 0
set_option maxRecDepth 100000 in
set_option maxHeartbeats 4000000 in
theorem c_X2_restart {l : Launch} {g : zG} {μ : zM} : zC l g yX2_restart cX2_restart 1 none ({ frames := 0, cells := 0, slots := 0, locals := 0 } : Room) 0 0 [.ref (za g 8)] μ (zRv none (m_X2_restart μ)) zNX := by
  refine zC_of (L0 := [some (.ref (za g 8))]) (plainFor_of_name (by decide)) (Nat.le_of_ble_eq_true rfl) rfl ?_
  intro x S Y hxl
  subst hxl
  refine k_aload0 S dX2_restart_0 (n := 1) rfl ?_
  refine k_iconst S dX2_restart_1 (v := 0) (by decide) (n := 2) rfl ?_
  refine k_put (T := TX2) (j := 2) S dX2_restart_2 (zlt S (by decide)) (by decide) (ci := 2) rfl rfl (by decide) in_2 m_129 rfl rfl (ty0 := tyX2) tyX2_ok nmX2 rfl rfl rfl (n := 5) rfl ?_
  exact k_vret S Y dX2_restart_5 (by decide) (by decide) (⟨rfl, rfl⟩)
theorem zneg0 (a : Int32) : -a = 0 ↔ a = 0 := ⟨fun h => Classical.byContradiction fun q => Int32.neg_ne_zero.mpr q h, fun h => by rw [h]; rfl⟩
theorem zfull {μ : zM} {n : Nat} (hn : μ.1 8 2 = nI n) (h : n < 15) : v_X2_isFull μ = 0 := by
  unfold v_X2_isFull
  rw [hn, if_pos (show nI n < 15 from nI_lt (a := n) (b := 15) h (by omega))]
theorem zfull1 {μ : zM} {n : Nat} (hn : μ.1 8 2 = nI n) (h : ¬ n < 15) (h2 : n < 2 ^ 31) : v_X2_isFull μ = 1 := by
  unfold v_X2_isFull
  rw [hn, if_neg (show ¬ nI n < 15 from nI_nlt (a := n) (b := 15) (by omega) h2)]
set_option maxRecDepth 100000 in
set_option maxHeartbeats 4000000 in
theorem c_X2_add {l : Launch} {g : zG} {μ : zM} {n : Nat} {a b : Int32} (hn : μ.1 8 2 = nI n) (h : n < 15) : zC l g yX2_add cX2_add 3 none ({ frames := 1, cells := 0, slots := 0, locals := 20 } : Room) 0 0 [.ref (za g 8), .int a, .int b] μ (zRv none (zu (zu (zu μ 9 n a) 10 n b) 8 2 (nI (n + 1)))) zNX := by
  refine zC_of (L0 := [some (.ref (za g 8)), some (.int a), some (.int b)]) (plainFor_of_name (by decide)) (Nat.le_of_ble_eq_true rfl) rfl ?_
  intro x S Y hxl
  subst hxl
  refine k_aload0 S dX2_add_0 (n := 1) rfl ?_
  refine k_callV (As := []) (rest := []) (p := 8) S (c_X2_isFull) mv_X2_isFull m_542 dX2_add_1 rfl rfl ⟨by decide, by decide⟩ (zlt S (by decide)) (by decide) (ci := 2) rfl rfl rfl (Nat.le_of_ble_eq_true rfl) ⟨by decide, by decide⟩ (n := 4) rfl (fun _ _ h => h.elim) (fun v9 ν9 h9 => ?_)
  rw [h9.1, h9.2]
  show zK x g ({ frames := 1, cells := 0, slots := 0, locals := 20 } : Room) 3 0 0 4 [some (.ref (za g 8)), some (.int a), some (.int b)] [.int (v_X2_isFull μ)] μ
  refine k_if_eq S dX2_add_4 (tgt := 8) (by decide) (n := 7) rfl (fun _ => ?_) (fun h9 => absurd (zfull hn h) h9)
  refine k_aload0 S dX2_add_8 (n := 9) rfl ?_
  refine k_getr (r := 9) (T := TX2) (j := 0) S dX2_add_9 (zlt S (by decide)) (by decide) (ci := 2) rfl rfl (by decide) in_2 m_127 rfl rfl (n := 12) rfl ?_
  refine k_aload0 S dX2_add_12 (n := 13) rfl ?_
  refine k_geti (T := TX2) (j := 2) S dX2_add_13 (zlt S (by decide)) (by decide) (ci := 2) rfl rfl (by decide) in_2 m_129 rfl rfl (n := 16) rfl ?_
  refine k_iload1 S dX2_add_16 (n := 17) rfl ?_
  refine k_iast S dX2_add_17 (j := n) (zlt S (by decide)) (by decide) hn h (by decide) (n := 18) rfl ?_
  refine k_aload0 S dX2_add_18 (n := 19) rfl ?_
  refine k_getr (r := 10) (T := TX2) (j := 1) S dX2_add_19 (zlt S (by decide)) (by decide) (ci := 2) rfl rfl (by decide) in_2 m_128 rfl rfl (n := 22) rfl ?_
  refine k_aload0 S dX2_add_22 (n := 23) rfl ?_
  refine k_getv (v := μ.1 8 2) (T := TX2) (j := 2) S dX2_add_23 (zlt S (by decide)) (by decide) (ci := 2) rfl rfl (by decide) in_2 m_129 rfl rfl (by simp [zu, zset, upd]) (n := 26) rfl ?_
  refine k_iload2 S dX2_add_26 (n := 27) rfl ?_
  refine k_iast S dX2_add_27 (j := n) (zlt S (by decide)) (by decide) (by simp [zu, hn]) h (by decide) (n := 28) rfl ?_
  refine k_aload0 S dX2_add_28 (n := 29) rfl ?_
  refine k_dup S dX2_add_29 rfl (n := 30) rfl ?_
  refine k_getv (v := μ.1 8 2) (T := TX2) (j := 2) S dX2_add_30 (zlt S (by decide)) (by decide) (ci := 2) rfl rfl (by decide) in_2 m_129 rfl rfl (by simp [zu, zset, upd]) (n := 33) rfl ?_
  refine k_iconst S dX2_add_33 (v := 1) (by decide) (n := 34) rfl ?_
  refine k_iadd S dX2_add_34 (n := 35) rfl ?_
  refine k_put (T := TX2) (j := 2) S dX2_add_35 (zlt S (by decide)) (by decide) (ci := 2) rfl rfl (by decide) in_2 m_129 rfl rfl (ty0 := tyX2) tyX2_ok nmX2 rfl rfl rfl (n := 38) rfl ?_
  exact k_vret S Y dX2_add_38 (by decide) (by decide) (⟨rfl, by rw [show nI (n + 1) = nI n + 1 from nI_succ n, ← hn]⟩)
set_option maxRecDepth 100000 in
set_option maxHeartbeats 4000000 in
theorem c_X2_subgroupAt {l : Launch} {g : zG} {μ : zM} {n j : Nat} (hn : μ.1 8 2 = nI n) (h : n ≤ 15) (hj : j < n) : zC l g yX2_subgroupAt cX2_subgroupAt 2 (some .int) ({ frames := 0, cells := 0, slots := 0, locals := 0 } : Room) 0 0 [.ref (za g 8), .int (nI j)] μ (zRv (some (.int (μ.1 9 j))) μ) zNX := by
  refine zC_of (L0 := [some (.ref (za g 8)), some (.int (nI j))]) (plainFor_of_name (by decide)) (Nat.le_of_ble_eq_true rfl) rfl ?_
  intro x S Y hxl
  subst hxl
  refine k_iload1 S dX2_subgroupAt_0 (n := 1) rfl ?_
  refine k_if_lt S dX2_subgroupAt_1 (tgt := 21) (by decide) (n := 4) rfl (fun h9 => absurd h9 (nI_pos (by omega))) (fun _ => ?_)
  refine k_iload1 S dX2_subgroupAt_4 (n := 5) rfl ?_
  refine k_aload0 S dX2_subgroupAt_5 (n := 6) rfl ?_
  refine k_geti (T := TX2) (j := 2) S dX2_subgroupAt_6 (zlt S (by decide)) (by decide) (ci := 2) rfl rfl (by decide) in_2 m_129 rfl rfl (n := 9) rfl ?_
  refine k_icmp_ge S dX2_subgroupAt_9 (tgt := 21) (by decide) (n := 12) rfl (fun h9 => absurd h9 (by rw [hn]; exact nI_ge hj (by omega))) (fun _ => ?_)
  refine k_aload0 S dX2_subgroupAt_12 (n := 13) rfl ?_
  refine k_getr (r := 9) (T := TX2) (j := 0) S dX2_subgroupAt_13 (zlt S (by decide)) (by decide) (ci := 2) rfl rfl (by decide) in_2 m_127 rfl rfl (n := 16) rfl ?_
  refine k_iload1 S dX2_subgroupAt_16 (n := 17) rfl ?_
  refine k_iald S dX2_subgroupAt_17 (j := j) (zlt S (by decide)) (by decide) rfl (show j < 15 by omega) (by decide) (n := 18) rfl ?_
  refine k_goto S dX2_subgroupAt_18 (tgt := 22) (by decide) ?_
  exact k_iret S Y dX2_subgroupAt_22 (by decide) (by decide) rfl (⟨rfl, rfl⟩)
set_option maxRecDepth 100000 in
set_option maxHeartbeats 4000000 in
theorem l_X2_isOnOneSide {x : zX} {g : zG} {μ : zM} {k n : Nat} {ce : Int32} (S : zS x g 5 cX2_isOnOneSide RX2) (Y : zR x g (some .boolean) 0 0 [] (zRv (some (.int (zpb (zdir ce (μ.1 10 0) ≠ 0 ∧ ∀ i, i < n → zdir ce (μ.1 10 i) = zdir ce (μ.1 10 0))))) μ) zNX) (hk : k < 10) (hn : n ≤ 15) (hc : μ.1 (11 + k) 5 = ce)  : ∀ (m : Nat) (i : Nat), i + m = n → 1 ≤ i → (∀ j, j < i → zdir ce (μ.1 10 j) = zdir ce (μ.1 10 0)) → zK x g ({ frames := 2, cells := 0, slots := 0, locals := 42 } : Room) 5 0 0 14 [some (.ref (za g 8)), some (.int (nI n)), some (.ref (za g (11 + k))), some (.int (zdir ce (μ.1 10 0))), some (.int (nI i))] [] μ := by
  intro m
  induction m with
  | zero =>
    intro i h1 h2 h3
    refine k_iload4 S dX2_isOnOneSide_14 (n := 16) rfl ?_
    refine k_iload1 S dX2_isOnOneSide_16 (n := 17) rfl ?_
    refine k_icmp_ge S dX2_isOnOneSide_17 (tgt := 43) (by decide) (n := 20) rfl (fun _ => ?_) (fun h9 => absurd (nI_le (by omega) (by omega)) h9)
    refine k_iload3 S dX2_isOnOneSide_43 (n := 44) rfl ?_
    have hJ2 : zK x g ({ frames := 2, cells := 0, slots := 0, locals := 42 } : Room) 5 0 0 52 [some (.ref (za g 8)), some (.int (nI n)), some (.ref (za g (11 + k))), some (.int (zdir ce (μ.1 10 0))), some (.int (nI i))] [.int ((if (zdir ce (μ.1 10 0)) = 0 then (0 : Int32) else (1 : Int32)))] μ := by
      exact k_iret S Y dX2_isOnOneSide_52 (by decide) (by decide) (by rw [zpb_n]; exact zpb_nar _) (⟨congrArg (fun z => some (Value.int z)) (by rw [zpb_n]; exact zpb_c ⟨fun q => ⟨q, fun j hj => h3 j (by omega)⟩, fun q => q.1⟩), rfl⟩)
    refine k_if_eq S dX2_isOnOneSide_44 (tgt := 51) (by decide) (n := 47) rfl (fun c1 => ?_) (fun c1 => ?_)
    ·
      refine k_iconst S dX2_isOnOneSide_51 (v := 0) (by decide) (n := 52) rfl ?_
      rw [if_pos c1] at hJ2
      exact hJ2
    ·
      refine k_iconst S dX2_isOnOneSide_47 (v := 1) (by decide) (n := 48) rfl ?_
      refine k_goto S dX2_isOnOneSide_48 (tgt := 52) (by decide) ?_
      rw [if_neg c1] at hJ2
      exact hJ2
  | succ m ih =>
    intro i h1 h2 h3
    refine k_iload4 S dX2_isOnOneSide_14 (n := 16) rfl ?_
    refine k_iload1 S dX2_isOnOneSide_16 (n := 17) rfl ?_
    refine k_icmp_ge S dX2_isOnOneSide_17 (tgt := 43) (by decide) (n := 20) rfl (fun h9 => absurd h9 (nI_ge (by omega) (by omega))) (fun _ => ?_)
    refine k_aload2 S dX2_isOnOneSide_20 (n := 21) rfl ?_
    refine k_aload0 S dX2_isOnOneSide_21 (n := 22) rfl ?_
    refine k_getr (r := 10) (T := TX2) (j := 1) S dX2_isOnOneSide_22 (zlt S (by decide)) (by decide) (ci := 2) rfl rfl (by decide) in_2 m_128 rfl rfl (n := 25) rfl ?_
    refine k_iload4 S dX2_isOnOneSide_25 (n := 27) rfl ?_
    refine k_iald S dX2_isOnOneSide_27 (j := i) (zlt S (by decide)) (by decide) rfl (show i < 15 by omega) (by decide) (n := 28) rfl ?_
    refine k_callV (As := [.int (μ.1 10 i)]) (rest := []) (p := 11 + k) S (c_X0_side (k := k) hk (ce := ce) hc) mv_X0_sideOfCenter m_553 dX2_isOnOneSide_28 rfl rfl ⟨by decide, by decide⟩ (zlt S (by omega)) (zki_ph hk) (ci := 0) rfl rfl rfl (Nat.le_of_ble_eq_true rfl) ⟨by decide, by decide⟩ (n := 31) rfl (fun _ _ h => h.elim) (fun v9 ν9 h9 => ?_)
    rw [h9.1, h9.2]
    show zK x g ({ frames := 2, cells := 0, slots := 0, locals := 42 } : Room) 5 0 0 31 [some (.ref (za g 8)), some (.int (nI n)), some (.ref (za g (11 + k))), some (.int (zdir ce (μ.1 10 0))), some (.int (nI i))] [.int (zdir ce (μ.1 10 i))] μ
    refine k_iload3 S dX2_isOnOneSide_31 (n := 32) rfl ?_
    refine k_icmp_eq S dX2_isOnOneSide_32 (tgt := 37) (by decide) (n := 35) rfl (fun c1 => ?_) (fun c1 => ?_)
    ·
      refine k_iinc4 S dX2_isOnOneSide_37 (v := nI (i + 1)) (zi1 i) (by decide) (n := 40) rfl ?_
      refine k_goto S dX2_isOnOneSide_40 (tgt := 14) (by decide) ?_
      exact ih (i + 1) (by omega) (by omega) (lt_s h3 c1)
    ·
      refine k_iconst S dX2_isOnOneSide_35 (v := 0) (by decide) (n := 36) rfl ?_
      exact k_iret S Y dX2_isOnOneSide_36 (by decide) (by decide) rfl (⟨congrArg (fun z => some (Value.int z)) ((zpb_f (fun q => c1 (q.2 i (by omega)))).symm), rfl⟩)
set_option maxRecDepth 100000 in
set_option maxHeartbeats 4000000 in
theorem c_X2_isOnOneSide {l : Launch} {g : zG} {μ : zM} {k n : Nat} {ce : Int32} (hk : k < 10) (h1 : 1 ≤ n) (hn : n ≤ 15) (hc : μ.1 (11 + k) 5 = ce) : zC l g yX2_isOnOneSide cX2_isOnOneSide 5 (some .boolean) ({ frames := 2, cells := 0, slots := 0, locals := 42 } : Room) 0 0 [.ref (za g 8), .int (nI n), .ref (za g (11 + k))] μ (zRv (some (.int (zpb (zdir ce (μ.1 10 0) ≠ 0 ∧ ∀ i, i < n → zdir ce (μ.1 10 i) = zdir ce (μ.1 10 0))))) μ) zNX := by
  refine zC_of (L0 := [some (.ref (za g 8)), some (.int (nI n)), some (.ref (za g (11 + k))), none, none]) (plainFor_of_name (by decide)) (Nat.le_of_ble_eq_true rfl) rfl ?_
  intro x S Y hxl
  subst hxl
  refine k_aload2 S dX2_isOnOneSide_0 (n := 1) rfl ?_
  refine k_aload0 S dX2_isOnOneSide_1 (n := 2) rfl ?_
  refine k_getr (r := 10) (T := TX2) (j := 1) S dX2_isOnOneSide_2 (zlt S (by decide)) (by decide) (ci := 2) rfl rfl (by decide) in_2 m_128 rfl rfl (n := 5) rfl ?_
  refine k_iconst S dX2_isOnOneSide_5 (v := 0) (by decide) (n := 6) rfl ?_
  refine k_iald S dX2_isOnOneSide_6 (j := 0) (zlt S (by decide)) (by decide) (by decide) (by decide) (by decide) (n := 7) rfl ?_
  refine k_callV (As := [.int (μ.1 10 0)]) (rest := []) (p := 11 + k) S (c_X0_side (k := k) hk (ce := ce) hc) mv_X0_sideOfCenter m_553 dX2_isOnOneSide_7 rfl rfl ⟨by decide, by decide⟩ (zlt S (by omega)) (zki_ph hk) (ci := 0) rfl rfl rfl (Nat.le_of_ble_eq_true rfl) ⟨by decide, by decide⟩ (n := 10) rfl (fun _ _ h => h.elim) (fun v9 ν9 h9 => ?_)
  rw [h9.1, h9.2]
  show zK x g ({ frames := 2, cells := 0, slots := 0, locals := 42 } : Room) 5 0 0 10 [some (.ref (za g 8)), some (.int (nI n)), some (.ref (za g (11 + k))), none, none] [.int (zdir ce (μ.1 10 0))] μ
  refine k_istore3 S dX2_isOnOneSide_10 (by decide) rfl (n := 11) rfl ?_
  refine k_iconst S dX2_isOnOneSide_11 (v := 1) (by decide) (n := 12) rfl ?_
  refine k_istore4 S dX2_isOnOneSide_12 (by decide) rfl (n := 14) rfl ?_
  exact l_X2_isOnOneSide S Y hk hn hc (n - 1) 1 (by omega) (Nat.le_refl 1) (fun j hj => by rw [show j = 0 by omega])
set_option maxRecDepth 100000 in
set_option maxHeartbeats 4000000 in
theorem l_X2_isSteady {x : zX} {g : zG} {μ : zM} {n : Nat} (S : zS x g 4 cX2_isSteady RX2) (Y : zR x g (some .boolean) 0 0 [] (zRv (some (.int (zpb (zdir (μ.1 10 1) (μ.1 10 0) ≠ 0 ∧ ∀ i, i + 1 < n → zdir (μ.1 10 (i + 1)) (μ.1 10 i) = zdir (μ.1 10 1) (μ.1 10 0))))) μ) zNX) (hn : n ≤ 15)  : ∀ (m : Nat) (i : Nat), i + 1 + m = n → 1 ≤ i → (∀ j, j < i → zdir (μ.1 10 (j + 1)) (μ.1 10 j) = zdir (μ.1 10 1) (μ.1 10 0)) → zK x g ({ frames := 1, cells := 0, slots := 0, locals := 21 } : Room) 4 0 0 18 [some (.ref (za g 8)), some (.int (nI n)), some (.int (zdir (μ.1 10 1) (μ.1 10 0))), some (.int (nI i))] [] μ := by
  intro m
  induction m with
  | zero =>
    intro i h1 h2 h3
    refine k_iload3 S dX2_isSteady_18 (n := 19) rfl ?_
    refine k_iconst S dX2_isSteady_19 (v := 1) (by decide) (n := 20) rfl ?_
    refine k_iadd S dX2_isSteady_20 (n := 21) rfl ?_
    refine k_iload1 S dX2_isSteady_21 (n := 22) rfl ?_
    refine k_icmp_ge S dX2_isSteady_22 (tgt := 54) (by decide) (n := 25) rfl (fun _ => ?_) (fun h9 => absurd (by rw [nI_1]; exact nI_le (by omega) (by omega)) h9)
    refine k_iload2 S dX2_isSteady_54 (n := 55) rfl ?_
    have hJ2 : zK x g ({ frames := 1, cells := 0, slots := 0, locals := 21 } : Room) 4 0 0 63 [some (.ref (za g 8)), some (.int (nI n)), some (.int (zdir (μ.1 10 1) (μ.1 10 0))), some (.int (nI i))] [.int ((if (zdir (μ.1 10 1) (μ.1 10 0)) = 0 then (0 : Int32) else (1 : Int32)))] μ := by
      exact k_iret S Y dX2_isSteady_63 (by decide) (by decide) (by rw [zpb_n]; exact zpb_nar _) (⟨congrArg (fun z => some (Value.int z)) (by rw [zpb_n]; exact zpb_c ⟨fun q => ⟨q, fun j hj => h3 j (by omega)⟩, fun q => q.1⟩), rfl⟩)
    refine k_if_eq S dX2_isSteady_55 (tgt := 62) (by decide) (n := 58) rfl (fun c1 => ?_) (fun c1 => ?_)
    ·
      refine k_iconst S dX2_isSteady_62 (v := 0) (by decide) (n := 63) rfl ?_
      rw [if_pos c1] at hJ2
      exact hJ2
    ·
      refine k_iconst S dX2_isSteady_58 (v := 1) (by decide) (n := 59) rfl ?_
      refine k_goto S dX2_isSteady_59 (tgt := 63) (by decide) ?_
      rw [if_neg c1] at hJ2
      exact hJ2
  | succ m ih =>
    intro i h1 h2 h3
    refine k_iload3 S dX2_isSteady_18 (n := 19) rfl ?_
    refine k_iconst S dX2_isSteady_19 (v := 1) (by decide) (n := 20) rfl ?_
    refine k_iadd S dX2_isSteady_20 (n := 21) rfl ?_
    refine k_iload1 S dX2_isSteady_21 (n := 22) rfl ?_
    refine k_icmp_ge S dX2_isSteady_22 (tgt := 54) (by decide) (n := 25) rfl (fun h9 => absurd h9 (by rw [nI_1]; exact nI_ge (by omega) (by omega))) (fun _ => ?_)
    refine k_aload0 S dX2_isSteady_25 (n := 26) rfl ?_
    refine k_getr (r := 10) (T := TX2) (j := 1) S dX2_isSteady_26 (zlt S (by decide)) (by decide) (ci := 2) rfl rfl (by decide) in_2 m_128 rfl rfl (n := 29) rfl ?_
    refine k_iload3 S dX2_isSteady_29 (n := 30) rfl ?_
    refine k_iconst S dX2_isSteady_30 (v := 1) (by decide) (n := 31) rfl ?_
    refine k_iadd S dX2_isSteady_31 (n := 32) rfl ?_
    refine k_iald S dX2_isSteady_32 (j := i + 1) (zlt S (by decide)) (by decide) (nI_1 i) (show i + 1 < 15 by omega) (by decide) (n := 33) rfl ?_
    refine k_aload0 S dX2_isSteady_33 (n := 34) rfl ?_
    refine k_getr (r := 10) (T := TX2) (j := 1) S dX2_isSteady_34 (zlt S (by decide)) (by decide) (ci := 2) rfl rfl (by decide) in_2 m_128 rfl rfl (n := 37) rfl ?_
    refine k_iload3 S dX2_isSteady_37 (n := 38) rfl ?_
    refine k_iald S dX2_isSteady_38 (j := i) (zlt S (by decide)) (by decide) rfl (show i < 15 by omega) (by decide) (n := 39) rfl ?_
    refine k_callSN (As := [.int (μ.1 10 (i + 1)), .int (μ.1 10 i)]) (rest := []) (host := RX3) S (c_X3_direction) mv_X3_direction (by decide +kernel) dX2_isSteady_39 rfl rfl ⟨by decide, by decide⟩ rfl rfl (Nat.le_of_ble_eq_true rfl) ⟨by decide, by decide⟩ (n := 42) rfl (fun _ _ h => h.elim) (fun v9 ν9 h9 => ?_)
    rw [h9.1, h9.2]
    show zK x g ({ frames := 1, cells := 0, slots := 0, locals := 21 } : Room) 4 0 0 42 [some (.ref (za g 8)), some (.int (nI n)), some (.int (zdir (μ.1 10 1) (μ.1 10 0))), some (.int (nI i))] [.int (zdir (μ.1 10 (i + 1)) (μ.1 10 i))] μ
    refine k_iload2 S dX2_isSteady_42 (n := 43) rfl ?_
    refine k_icmp_eq S dX2_isSteady_43 (tgt := 48) (by decide) (n := 46) rfl (fun c1 => ?_) (fun c1 => ?_)
    ·
      refine k_iinc3 S dX2_isSteady_48 (v := nI (i + 1)) (zi1 i) (by decide) (n := 51) rfl ?_
      refine k_goto S dX2_isSteady_51 (tgt := 18) (by decide) ?_
      exact ih (i + 1) (by omega) (by omega) (lt_s h3 c1)
    ·
      refine k_iconst S dX2_isSteady_46 (v := 0) (by decide) (n := 47) rfl ?_
      exact k_iret S Y dX2_isSteady_47 (by decide) (by decide) rfl (⟨congrArg (fun z => some (Value.int z)) ((zpb_f (fun q => c1 (q.2 i (by omega)))).symm), rfl⟩)
set_option maxRecDepth 100000 in
set_option maxHeartbeats 4000000 in
theorem c_X2_isSteady {l : Launch} {g : zG} {μ : zM} {n : Nat} (h1 : 2 ≤ n) (hn : n ≤ 15) : zC l g yX2_isSteady cX2_isSteady 4 (some .boolean) ({ frames := 1, cells := 0, slots := 0, locals := 21 } : Room) 0 0 [.ref (za g 8), .int (nI n)] μ (zRv (some (.int (zpb (zdir (μ.1 10 1) (μ.1 10 0) ≠ 0 ∧ ∀ i, i + 1 < n → zdir (μ.1 10 (i + 1)) (μ.1 10 i) = zdir (μ.1 10 1) (μ.1 10 0))))) μ) zNX := by
  refine zC_of (L0 := [some (.ref (za g 8)), some (.int (nI n)), none, none]) (plainFor_of_name (by decide)) (Nat.le_of_ble_eq_true rfl) rfl ?_
  intro x S Y hxl
  subst hxl
  refine k_aload0 S dX2_isSteady_0 (n := 1) rfl ?_
  refine k_getr (r := 10) (T := TX2) (j := 1) S dX2_isSteady_1 (zlt S (by decide)) (by decide) (ci := 2) rfl rfl (by decide) in_2 m_128 rfl rfl (n := 4) rfl ?_
  refine k_iconst S dX2_isSteady_4 (v := 1) (by decide) (n := 5) rfl ?_
  refine k_iald S dX2_isSteady_5 (j := 1) (zlt S (by decide)) (by decide) (by decide) (by decide) (by decide) (n := 6) rfl ?_
  refine k_aload0 S dX2_isSteady_6 (n := 7) rfl ?_
  refine k_getr (r := 10) (T := TX2) (j := 1) S dX2_isSteady_7 (zlt S (by decide)) (by decide) (ci := 2) rfl rfl (by decide) in_2 m_128 rfl rfl (n := 10) rfl ?_
  refine k_iconst S dX2_isSteady_10 (v := 0) (by decide) (n := 11) rfl ?_
  refine k_iald S dX2_isSteady_11 (j := 0) (zlt S (by decide)) (by decide) (by decide) (by decide) (by decide) (n := 12) rfl ?_
  refine k_callSN (As := [.int (μ.1 10 1), .int (μ.1 10 0)]) (rest := []) (host := RX3) S (c_X3_direction) mv_X3_direction (by decide +kernel) dX2_isSteady_12 rfl rfl ⟨by decide, by decide⟩ rfl rfl (Nat.le_of_ble_eq_true rfl) ⟨by decide, by decide⟩ (n := 15) rfl (fun _ _ h => h.elim) (fun v9 ν9 h9 => ?_)
  rw [h9.1, h9.2]
  show zK x g ({ frames := 1, cells := 0, slots := 0, locals := 21 } : Room) 4 0 0 15 [some (.ref (za g 8)), some (.int (nI n)), none, none] [.int (zdir (μ.1 10 1) (μ.1 10 0))] μ
  refine k_istore2 S dX2_isSteady_15 (by decide) rfl (n := 16) rfl ?_
  refine k_iconst S dX2_isSteady_16 (v := 1) (by decide) (n := 17) rfl ?_
  refine k_istore3 S dX2_isSteady_17 (by decide) rfl (n := 18) rfl ?_
  exact l_X2_isSteady S Y hn (n - 2) 1 (by omega) (Nat.le_refl 1) (fun j hj => by rw [show j = 0 by omega])
set_option maxRecDepth 100000 in
set_option maxHeartbeats 4000000 in
theorem l_X2_isTurning {x : zX} {g : zG} {μ : zM} {n : Nat} (S : zS x g 4 cX2_isTurning RX2) (Y : zR x g (some .boolean) 0 0 [] (zRv (some (.int (zpb (zdir (μ.1 10 1) (μ.1 10 0) ≠ 0 ∧ ∀ i, 1 ≤ i → i + 1 < n → zdir (μ.1 10 (i + 1)) (μ.1 10 i) = -(zdir (μ.1 10 i) (μ.1 10 (i - 1))))))) μ) zNX) (hn : n ≤ 15)  : ∀ (m : Nat) (i : Nat) (d : Int32), i + 1 + m = n → 1 ≤ i → d = zdir (μ.1 10 i) (μ.1 10 (i - 1)) → (d = 0 ↔ zdir (μ.1 10 1) (μ.1 10 0) = 0) → (∀ j, j < i → 1 ≤ j → zdir (μ.1 10 (j + 1)) (μ.1 10 j) = -(zdir (μ.1 10 j) (μ.1 10 (j - 1)))) → zK x g ({ frames := 1, cells := 0, slots := 0, locals := 21 } : Room) 4 0 0 18 [some (.ref (za g 8)), some (.int (nI n)), some (.int d), some (.int (nI i))] [] μ := by
  intro m
  induction m with
  | zero =>
    intro i d h1 h2 h3 h4 h5
    refine k_iload3 S dX2_isTurning_18 (n := 19) rfl ?_
    refine k_iconst S dX2_isTurning_19 (v := 1) (by decide) (n := 20) rfl ?_
    refine k_iadd S dX2_isTurning_20 (n := 21) rfl ?_
    refine k_iload1 S dX2_isTurning_21 (n := 22) rfl ?_
    refine k_icmp_ge S dX2_isTurning_22 (tgt := 57) (by decide) (n := 25) rfl (fun _ => ?_) (fun h9 => absurd (by rw [nI_1]; exact nI_le (by omega) (by omega)) h9)
    refine k_iload2 S dX2_isTurning_57 (n := 58) rfl ?_
    have hJ2 : zK x g ({ frames := 1, cells := 0, slots := 0, locals := 21 } : Room) 4 0 0 66 [some (.ref (za g 8)), some (.int (nI n)), some (.int d), some (.int (nI i))] [.int ((if d = 0 then (0 : Int32) else (1 : Int32)))] μ := by
      exact k_iret S Y dX2_isTurning_66 (by decide) (by decide) (by rw [zpb_n]; exact zpb_nar _) (⟨congrArg (fun z => some (Value.int z)) (by rw [zpb_n]; exact zpb_c ⟨fun q => ⟨fun z => q (h4.mpr z), fun j hj1 hj => h5 j (by omega) hj1⟩, fun q z => q.1 (h4.mp z)⟩), rfl⟩)
    refine k_if_eq S dX2_isTurning_58 (tgt := 65) (by decide) (n := 61) rfl (fun c1 => ?_) (fun c1 => ?_)
    ·
      refine k_iconst S dX2_isTurning_65 (v := 0) (by decide) (n := 66) rfl ?_
      rw [if_pos c1] at hJ2
      exact hJ2
    ·
      refine k_iconst S dX2_isTurning_61 (v := 1) (by decide) (n := 62) rfl ?_
      refine k_goto S dX2_isTurning_62 (tgt := 66) (by decide) ?_
      rw [if_neg c1] at hJ2
      exact hJ2
  | succ m ih =>
    intro i d h1 h2 h3 h4 h5
    refine k_iload3 S dX2_isTurning_18 (n := 19) rfl ?_
    refine k_iconst S dX2_isTurning_19 (v := 1) (by decide) (n := 20) rfl ?_
    refine k_iadd S dX2_isTurning_20 (n := 21) rfl ?_
    refine k_iload1 S dX2_isTurning_21 (n := 22) rfl ?_
    refine k_icmp_ge S dX2_isTurning_22 (tgt := 57) (by decide) (n := 25) rfl (fun h9 => absurd h9 (by rw [nI_1]; exact nI_ge (by omega) (by omega))) (fun _ => ?_)
    refine k_iload2 S dX2_isTurning_25 (n := 26) rfl ?_
    refine k_ineg S dX2_isTurning_26 (n := 27) rfl ?_
    refine k_istore2 S dX2_isTurning_27 (by decide) rfl (n := 28) rfl ?_
    refine k_aload0 S dX2_isTurning_28 (n := 29) rfl ?_
    refine k_getr (r := 10) (T := TX2) (j := 1) S dX2_isTurning_29 (zlt S (by decide)) (by decide) (ci := 2) rfl rfl (by decide) in_2 m_128 rfl rfl (n := 32) rfl ?_
    refine k_iload3 S dX2_isTurning_32 (n := 33) rfl ?_
    refine k_iconst S dX2_isTurning_33 (v := 1) (by decide) (n := 34) rfl ?_
    refine k_iadd S dX2_isTurning_34 (n := 35) rfl ?_
    refine k_iald S dX2_isTurning_35 (j := i + 1) (zlt S (by decide)) (by decide) (nI_1 i) (show i + 1 < 15 by omega) (by decide) (n := 36) rfl ?_
    refine k_aload0 S dX2_isTurning_36 (n := 37) rfl ?_
    refine k_getr (r := 10) (T := TX2) (j := 1) S dX2_isTurning_37 (zlt S (by decide)) (by decide) (ci := 2) rfl rfl (by decide) in_2 m_128 rfl rfl (n := 40) rfl ?_
    refine k_iload3 S dX2_isTurning_40 (n := 41) rfl ?_
    refine k_iald S dX2_isTurning_41 (j := i) (zlt S (by decide)) (by decide) rfl (show i < 15 by omega) (by decide) (n := 42) rfl ?_
    refine k_callSN (As := [.int (μ.1 10 (i + 1)), .int (μ.1 10 i)]) (rest := []) (host := RX3) S (c_X3_direction) mv_X3_direction (by decide +kernel) dX2_isTurning_42 rfl rfl ⟨by decide, by decide⟩ rfl rfl (Nat.le_of_ble_eq_true rfl) ⟨by decide, by decide⟩ (n := 45) rfl (fun _ _ h => h.elim) (fun v9 ν9 h9 => ?_)
    rw [h9.1, h9.2]
    show zK x g ({ frames := 1, cells := 0, slots := 0, locals := 21 } : Room) 4 0 0 45 [some (.ref (za g 8)), some (.int (nI n)), some (.int (-d)), some (.int (nI i))] [.int (zdir (μ.1 10 (i + 1)) (μ.1 10 i))] μ
    refine k_iload2 S dX2_isTurning_45 (n := 46) rfl ?_
    refine k_icmp_eq S dX2_isTurning_46 (tgt := 51) (by decide) (n := 49) rfl (fun c1 => ?_) (fun c1 => ?_)
    ·
      refine k_iinc3 S dX2_isTurning_51 (v := nI (i + 1)) (zi1 i) (by decide) (n := 54) rfl ?_
      refine k_goto S dX2_isTurning_54 (tgt := 18) (by decide) ?_
      rw [← c1]
      refine ih (i + 1) _ (by omega) (by omega) rfl ?_ (lt_s h5 (fun _ => by rw [c1, h3]))
      rw [c1, ← h4]
      exact zneg0 _
    ·
      refine k_iconst S dX2_isTurning_49 (v := 0) (by decide) (n := 50) rfl ?_
      exact k_iret S Y dX2_isTurning_50 (by decide) (by decide) rfl (⟨congrArg (fun z => some (Value.int z)) ((zpb_f (fun q => c1 (by rw [h3]; exact q.2 i h2 (by omega)))).symm), rfl⟩)
set_option maxRecDepth 100000 in
set_option maxHeartbeats 4000000 in
theorem c_X2_isTurning {l : Launch} {g : zG} {μ : zM} {n : Nat} (h1 : 2 ≤ n) (hn : n ≤ 15) : zC l g yX2_isTurning cX2_isTurning 4 (some .boolean) ({ frames := 1, cells := 0, slots := 0, locals := 21 } : Room) 0 0 [.ref (za g 8), .int (nI n)] μ (zRv (some (.int (zpb (zdir (μ.1 10 1) (μ.1 10 0) ≠ 0 ∧ ∀ i, 1 ≤ i → i + 1 < n → zdir (μ.1 10 (i + 1)) (μ.1 10 i) = -(zdir (μ.1 10 i) (μ.1 10 (i - 1))))))) μ) zNX := by
  refine zC_of (L0 := [some (.ref (za g 8)), some (.int (nI n)), none, none]) (plainFor_of_name (by decide)) (Nat.le_of_ble_eq_true rfl) rfl ?_
  intro x S Y hxl
  subst hxl
  refine k_aload0 S dX2_isTurning_0 (n := 1) rfl ?_
  refine k_getr (r := 10) (T := TX2) (j := 1) S dX2_isTurning_1 (zlt S (by decide)) (by decide) (ci := 2) rfl rfl (by decide) in_2 m_128 rfl rfl (n := 4) rfl ?_
  refine k_iconst S dX2_isTurning_4 (v := 1) (by decide) (n := 5) rfl ?_
  refine k_iald S dX2_isTurning_5 (j := 1) (zlt S (by decide)) (by decide) (by decide) (by decide) (by decide) (n := 6) rfl ?_
  refine k_aload0 S dX2_isTurning_6 (n := 7) rfl ?_
  refine k_getr (r := 10) (T := TX2) (j := 1) S dX2_isTurning_7 (zlt S (by decide)) (by decide) (ci := 2) rfl rfl (by decide) in_2 m_128 rfl rfl (n := 10) rfl ?_
  refine k_iconst S dX2_isTurning_10 (v := 0) (by decide) (n := 11) rfl ?_
  refine k_iald S dX2_isTurning_11 (j := 0) (zlt S (by decide)) (by decide) (by decide) (by decide) (by decide) (n := 12) rfl ?_
  refine k_callSN (As := [.int (μ.1 10 1), .int (μ.1 10 0)]) (rest := []) (host := RX3) S (c_X3_direction) mv_X3_direction (by decide +kernel) dX2_isTurning_12 rfl rfl ⟨by decide, by decide⟩ rfl rfl (Nat.le_of_ble_eq_true rfl) ⟨by decide, by decide⟩ (n := 15) rfl (fun _ _ h => h.elim) (fun v9 ν9 h9 => ?_)
  rw [h9.1, h9.2]
  show zK x g ({ frames := 1, cells := 0, slots := 0, locals := 21 } : Room) 4 0 0 15 [some (.ref (za g 8)), some (.int (nI n)), none, none] [.int (zdir (μ.1 10 1) (μ.1 10 0))] μ
  refine k_istore2 S dX2_isTurning_15 (by decide) rfl (n := 16) rfl ?_
  refine k_iconst S dX2_isTurning_16 (v := 1) (by decide) (n := 17) rfl ?_
  refine k_istore3 S dX2_isTurning_17 (by decide) rfl (n := 18) rfl ?_
  exact l_X2_isTurning S Y hn (n - 2) 1 _ (by omega) (Nat.le_refl 1) rfl Iff.rfl (fun j hj h1 => absurd hj (by omega))
set_option maxRecDepth 100000 in
set_option maxHeartbeats 4000000 in
theorem l_X2_isOften {x : zX} {g : zG} {μ : zM} {k n : Nat} {b c ce w : Int32} (S : zS x g 8 cX2_isOften RX2) (Y : zR x g (some .boolean) 0 0 [] (zRv (some (.int (zpb (zsb (μ.1 10 0) ce w b ≠ 0 ∧ c ≤ nI (zct (fun i => zsb (μ.1 10 i) ce w b = zsb (μ.1 10 0) ce w b) n))))) μ) zNX) (hk : k < 10) (hn : n ≤ 15) (hc : μ.1 (11 + k) 5 = ce) (hw : μ.1 (11 + k) 7 = w)  : ∀ (m : Nat) (i : Nat), i + m = n → zK x g ({ frames := 1, cells := 0, slots := 0, locals := 22 } : Room) 8 0 0 20 [some (.ref (za g 8)), some (.int (nI n)), some (.int b), some (.int c), some (.ref (za g (11 + k))), some (.int (zsb (μ.1 10 0) ce w b)), some (.int (nI (zct (fun i => zsb (μ.1 10 i) ce w b = zsb (μ.1 10 0) ce w b) i))), some (.int (nI i))] [] μ := by
  intro m
  induction m with
  | zero =>
    intro i h1
    have e9 : i = n := by omega
    refine k_iload7 S dX2_isOften_20 (n := 22) rfl ?_
    refine k_iload1 S dX2_isOften_22 (n := 23) rfl ?_
    refine k_icmp_ge S dX2_isOften_23 (tgt := 60) (by decide) (n := 26) rfl (fun _ => ?_) (fun h9 => absurd (nI_le (by omega) (by omega)) h9)
    refine k_iload5 S dX2_isOften_60 (n := 62) rfl ?_
    have hJ2 : zK x g ({ frames := 1, cells := 0, slots := 0, locals := 22 } : Room) 8 0 0 76 [some (.ref (za g 8)), some (.int (nI n)), some (.int b), some (.int c), some (.ref (za g (11 + k))), some (.int (zsb (μ.1 10 0) ce w b)), some (.int (nI (zct (fun i => zsb (μ.1 10 i) ce w b = zsb (μ.1 10 0) ce w b) i))), some (.int (nI i))] [.int ((if (zsb (μ.1 10 0) ce w b) = 0 then (0 : Int32) else (if (nI (zct (fun i => zsb (μ.1 10 i) ce w b = zsb (μ.1 10 0) ce w b) i)) < c then (0 : Int32) else (1 : Int32))))] μ := by
      exact k_iret S Y dX2_isOften_76 (by decide) (by decide) (by repeat' (first | rfl | split)) (⟨congrArg (fun z => some (Value.int z)) (by
      subst e9
      by_cases q1 : zsb (μ.1 10 0) ce w b = 0
      · rw [if_pos q1, zpb_f (fun q => q.1 q1)]
      · rw [if_neg q1]
        by_cases q2 : nI (zct (fun i => zsb (μ.1 10 i) ce w b = zsb (μ.1 10 0) ce w b) i) < c
        · rw [if_pos q2, zpb_f (fun q => absurd q2 (Int32.not_lt.mpr q.2))]
        · rw [if_neg q2, zpb_t ⟨q1, Int32.not_lt.mp q2⟩]), rfl⟩)
    refine k_if_eq S dX2_isOften_62 (tgt := 75) (by decide) (n := 65) rfl (fun c1 => ?_) (fun c1 => ?_)
    ·
      refine k_iconst S dX2_isOften_75 (v := 0) (by decide) (n := 76) rfl ?_
      rw [if_pos c1] at hJ2
      exact hJ2
    ·
      refine k_iload6 S dX2_isOften_65 (n := 67) rfl ?_
      refine k_iload3 S dX2_isOften_67 (n := 68) rfl ?_
      refine k_icmp_lt S dX2_isOften_68 (tgt := 75) (by decide) (n := 71) rfl (fun c3 => ?_) (fun c3 => ?_)
      ·
        refine k_iconst S dX2_isOften_75 (v := 0) (by decide) (n := 76) rfl ?_
        rw [if_neg c1, if_pos c3] at hJ2
        exact hJ2
      ·
        refine k_iconst S dX2_isOften_71 (v := 1) (by decide) (n := 72) rfl ?_
        refine k_goto S dX2_isOften_72 (tgt := 76) (by decide) ?_
        rw [if_neg c1, if_neg c3] at hJ2
        exact hJ2
  | succ m ih =>
    intro i h1
    refine k_iload7 S dX2_isOften_20 (n := 22) rfl ?_
    refine k_iload1 S dX2_isOften_22 (n := 23) rfl ?_
    refine k_icmp_ge S dX2_isOften_23 (tgt := 60) (by decide) (n := 26) rfl (fun h9 => absurd h9 (nI_ge (by omega) (by omega))) (fun _ => ?_)
    refine k_iload6 S dX2_isOften_26 (n := 28) rfl ?_
    refine k_aload4 S dX2_isOften_28 (n := 30) rfl ?_
    refine k_aload0 S dX2_isOften_30 (n := 31) rfl ?_
    refine k_getr (r := 10) (T := TX2) (j := 1) S dX2_isOften_31 (zlt S (by decide)) (by decide) (ci := 2) rfl rfl (by decide) in_2 m_128 rfl rfl (n := 34) rfl ?_
    refine k_iload7 S dX2_isOften_34 (n := 36) rfl ?_
    refine k_iald S dX2_isOften_36 (j := i) (zlt S (by decide)) (by decide) rfl (show i < 15 by omega) (by decide) (n := 37) rfl ?_
    refine k_iload2 S dX2_isOften_37 (n := 38) rfl ?_
    refine k_callV (As := [.int (μ.1 10 i), .int b]) (rest := [.int (nI (zct (fun i => zsb (μ.1 10 i) ce w b = zsb (μ.1 10 0) ce w b) i))]) (p := 11 + k) S (c_X0_beyond (k := k) hk (ce := ce) (w := w) hc hw) mv_X0_sideBeyond m_548 dX2_isOften_38 rfl rfl ⟨by decide, by decide⟩ (zlt S (by omega)) (zki_ph hk) (ci := 0) rfl rfl rfl (Nat.le_of_ble_eq_true rfl) ⟨by decide, by decide⟩ (n := 41) rfl (fun _ _ h => h.elim) (fun v9 ν9 h9 => ?_)
    rw [h9.1, h9.2]
    show zK x g ({ frames := 1, cells := 0, slots := 0, locals := 22 } : Room) 8 0 0 41 [some (.ref (za g 8)), some (.int (nI n)), some (.int b), some (.int c), some (.ref (za g (11 + k))), some (.int (zsb (μ.1 10 0) ce w b)), some (.int (nI (zct (fun i => zsb (μ.1 10 i) ce w b = zsb (μ.1 10 0) ce w b) i))), some (.int (nI i))] [.int (zsb (μ.1 10 i) ce w b), .int (nI (zct (fun i => zsb (μ.1 10 i) ce w b = zsb (μ.1 10 0) ce w b) i))] μ
    refine k_iload5 S dX2_isOften_41 (n := 43) rfl ?_
    have hJ2 : zK x g ({ frames := 1, cells := 0, slots := 0, locals := 22 } : Room) 8 0 0 51 [some (.ref (za g 8)), some (.int (nI n)), some (.int b), some (.int c), some (.ref (za g (11 + k))), some (.int (zsb (μ.1 10 0) ce w b)), some (.int (nI (zct (fun i => zsb (μ.1 10 i) ce w b = zsb (μ.1 10 0) ce w b) i))), some (.int (nI i))] [.int ((if (zsb (μ.1 10 i) ce w b) = (zsb (μ.1 10 0) ce w b) then (1 : Int32) else (0 : Int32))), .int (nI (zct (fun i => zsb (μ.1 10 i) ce w b = zsb (μ.1 10 0) ce w b) i))] μ := by
      refine k_iadd S dX2_isOften_51 (n := 52) rfl ?_
      refine k_istore6 S dX2_isOften_52 (by decide) rfl (n := 54) rfl ?_
      refine k_iinc7 S dX2_isOften_54 (v := nI (i + 1)) (zi1 i) (by decide) (n := 57) rfl ?_
      refine k_goto S dX2_isOften_57 (tgt := 20) (by decide) ?_
      rw [zct_s (fun i => zsb (μ.1 10 i) ce w b = zsb (μ.1 10 0) ce w b) i]
      exact ih (i + 1) (by omega)
    refine k_icmp_ne S dX2_isOften_43 (tgt := 50) (by decide) (n := 46) rfl (fun c1 => ?_) (fun c1 => ?_)
    ·
      refine k_iconst S dX2_isOften_50 (v := 0) (by decide) (n := 51) rfl ?_
      rw [if_neg c1] at hJ2
      exact hJ2
    ·
      refine k_iconst S dX2_isOften_46 (v := 1) (by decide) (n := 47) rfl ?_
      refine k_goto S dX2_isOften_47 (tgt := 51) (by decide) ?_
      rw [if_pos c1] at hJ2
      exact hJ2
set_option maxRecDepth 100000 in
set_option maxHeartbeats 4000000 in
theorem c_X2_isOften {l : Launch} {g : zG} {μ : zM} {k n : Nat} {b c ce w : Int32} (hk : k < 10) (hn : n ≤ 15) (hc : μ.1 (11 + k) 5 = ce) (hw : μ.1 (11 + k) 7 = w) : zC l g yX2_isOften cX2_isOften 8 (some .boolean) ({ frames := 1, cells := 0, slots := 0, locals := 22 } : Room) 0 0 [.ref (za g 8), .int (nI n), .int b, .int c, .ref (za g (11 + k))] μ (zRv (some (.int (zpb (zsb (μ.1 10 0) ce w b ≠ 0 ∧ c ≤ nI (zct (fun i => zsb (μ.1 10 i) ce w b = zsb (μ.1 10 0) ce w b) n))))) μ) zNX := by
  refine zC_of (L0 := [some (.ref (za g 8)), some (.int (nI n)), some (.int b), some (.int c), some (.ref (za g (11 + k))), none, none, none]) (plainFor_of_name (by decide)) (Nat.le_of_ble_eq_true rfl) rfl ?_
  intro x S Y hxl
  subst hxl
  refine k_aload4 S dX2_isOften_0 (n := 2) rfl ?_
  refine k_aload0 S dX2_isOften_2 (n := 3) rfl ?_
  refine k_getr (r := 10) (T := TX2) (j := 1) S dX2_isOften_3 (zlt S (by decide)) (by decide) (ci := 2) rfl rfl (by decide) in_2 m_128 rfl rfl (n := 6) rfl ?_
  refine k_iconst S dX2_isOften_6 (v := 0) (by decide) (n := 7) rfl ?_
  refine k_iald S dX2_isOften_7 (j := 0) (zlt S (by decide)) (by decide) (by decide) (by decide) (by decide) (n := 8) rfl ?_
  refine k_iload2 S dX2_isOften_8 (n := 9) rfl ?_
  refine k_callV (As := [.int (μ.1 10 0), .int b]) (rest := []) (p := 11 + k) S (c_X0_beyond (k := k) hk (ce := ce) (w := w) hc hw) mv_X0_sideBeyond m_548 dX2_isOften_9 rfl rfl ⟨by decide, by decide⟩ (zlt S (by omega)) (zki_ph hk) (ci := 0) rfl rfl rfl (Nat.le_of_ble_eq_true rfl) ⟨by decide, by decide⟩ (n := 12) rfl (fun _ _ h => h.elim) (fun v9 ν9 h9 => ?_)
  rw [h9.1, h9.2]
  show zK x g ({ frames := 1, cells := 0, slots := 0, locals := 22 } : Room) 8 0 0 12 [some (.ref (za g 8)), some (.int (nI n)), some (.int b), some (.int c), some (.ref (za g (11 + k))), none, none, none] [.int (zsb (μ.1 10 0) ce w b)] μ
  refine k_istore5 S dX2_isOften_12 (by decide) rfl (n := 14) rfl ?_
  refine k_iconst S dX2_isOften_14 (v := 0) (by decide) (n := 15) rfl ?_
  refine k_istore6 S dX2_isOften_15 (by decide) rfl (n := 17) rfl ?_
  refine k_iconst S dX2_isOften_17 (v := 0) (by decide) (n := 18) rfl ?_
  refine k_istore7 S dX2_isOften_18 (by decide) rfl (n := 20) rfl ?_
  exact l_X2_isOften S Y hk hn hc hw n 0 (by omega)
set_option maxRecDepth 100000 in
set_option maxHeartbeats 4000000 in
theorem l_X2_beyondSome {x : zX} {g : zG} {μ : zM} {k n : Nat} {ce w : Int32} (S : zS x g 5 cX2_beyondSome RX2) (Y : zR x g (some .int) 0 0 [] (zRv (some (.int (nI (zct (fun i => ¬ zsb (μ.1 10 i) ce w 1 = 0) n)))) μ) zNX) (hk : k < 10) (hn : n ≤ 15) (hc : μ.1 (11 + k) 5 = ce) (hw : μ.1 (11 + k) 7 = w)  : ∀ (m : Nat) (i : Nat), i + m = n → zK x g ({ frames := 1, cells := 0, slots := 0, locals := 22 } : Room) 5 0 0 5 [some (.ref (za g 8)), some (.int (nI n)), some (.ref (za g (11 + k))), some (.int (nI (zct (fun i => ¬ zsb (μ.1 10 i) ce w 1 = 0) i))), some (.int (nI i))] [] μ := by
  intro m
  induction m with
  | zero =>
    intro i h1
    have e9 : i = n := by omega
    refine k_iload4 S dX2_beyondSome_5 (n := 7) rfl ?_
    refine k_iload1 S dX2_beyondSome_7 (n := 8) rfl ?_
    refine k_icmp_ge S dX2_beyondSome_8 (tgt := 40) (by decide) (n := 11) rfl (fun _ => ?_) (fun h9 => absurd (nI_le (by omega) (by omega)) h9)
    refine k_iload3 S dX2_beyondSome_40 (n := 41) rfl ?_
    exact k_iret S Y dX2_beyondSome_41 (by decide) (by decide) rfl (⟨by rw [e9], rfl⟩)
  | succ m ih =>
    intro i h1
    refine k_iload4 S dX2_beyondSome_5 (n := 7) rfl ?_
    refine k_iload1 S dX2_beyondSome_7 (n := 8) rfl ?_
    refine k_icmp_ge S dX2_beyondSome_8 (tgt := 40) (by decide) (n := 11) rfl (fun h9 => absurd h9 (nI_ge (by omega) (by omega))) (fun _ => ?_)
    refine k_iload3 S dX2_beyondSome_11 (n := 12) rfl ?_
    refine k_aload2 S dX2_beyondSome_12 (n := 13) rfl ?_
    refine k_aload0 S dX2_beyondSome_13 (n := 14) rfl ?_
    refine k_getr (r := 10) (T := TX2) (j := 1) S dX2_beyondSome_14 (zlt S (by decide)) (by decide) (ci := 2) rfl rfl (by decide) in_2 m_128 rfl rfl (n := 17) rfl ?_
    refine k_iload4 S dX2_beyondSome_17 (n := 19) rfl ?_
    refine k_iald S dX2_beyondSome_19 (j := i) (zlt S (by decide)) (by decide) rfl (show i < 15 by omega) (by decide) (n := 20) rfl ?_
    refine k_iconst S dX2_beyondSome_20 (v := 1) (by decide) (n := 21) rfl ?_
    refine k_callV (As := [.int (μ.1 10 i), .int 1]) (rest := [.int (nI (zct (fun i => ¬ zsb (μ.1 10 i) ce w 1 = 0) i))]) (p := 11 + k) S (c_X0_beyond (k := k) hk (ce := ce) (w := w) hc hw) mv_X0_sideBeyond m_548 dX2_beyondSome_21 rfl rfl ⟨by decide, by decide⟩ (zlt S (by omega)) (zki_ph hk) (ci := 0) rfl rfl rfl (Nat.le_of_ble_eq_true rfl) ⟨by decide, by decide⟩ (n := 24) rfl (fun _ _ h => h.elim) (fun v9 ν9 h9 => ?_)
    rw [h9.1, h9.2]
    show zK x g ({ frames := 1, cells := 0, slots := 0, locals := 22 } : Room) 5 0 0 24 [some (.ref (za g 8)), some (.int (nI n)), some (.ref (za g (11 + k))), some (.int (nI (zct (fun i => ¬ zsb (μ.1 10 i) ce w 1 = 0) i))), some (.int (nI i))] [.int (zsb (μ.1 10 i) ce w 1), .int (nI (zct (fun i => ¬ zsb (μ.1 10 i) ce w 1 = 0) i))] μ
    have hJ2 : zK x g ({ frames := 1, cells := 0, slots := 0, locals := 22 } : Room) 5 0 0 32 [some (.ref (za g 8)), some (.int (nI n)), some (.ref (za g (11 + k))), some (.int (nI (zct (fun i => ¬ zsb (μ.1 10 i) ce w 1 = 0) i))), some (.int (nI i))] [.int ((if (zsb (μ.1 10 i) ce w 1) = 0 then (0 : Int32) else (1 : Int32))), .int (nI (zct (fun i => ¬ zsb (μ.1 10 i) ce w 1 = 0) i))] μ := by
      refine k_iadd S dX2_beyondSome_32 (n := 33) rfl ?_
      refine k_istore3 S dX2_beyondSome_33 (by decide) rfl (n := 34) rfl ?_
      refine k_iinc4 S dX2_beyondSome_34 (v := nI (i + 1)) (zi1 i) (by decide) (n := 37) rfl ?_
      refine k_goto S dX2_beyondSome_37 (tgt := 5) (by decide) ?_
      rw [zct_n (fun i => zsb (μ.1 10 i) ce w 1 = 0) i]
      exact ih (i + 1) (by omega)
    refine k_if_eq S dX2_beyondSome_24 (tgt := 31) (by decide) (n := 27) rfl (fun c1 => ?_) (fun c1 => ?_)
    ·
      refine k_iconst S dX2_beyondSome_31 (v := 0) (by decide) (n := 32) rfl ?_
      rw [if_pos c1] at hJ2
      exact hJ2
    ·
      refine k_iconst S dX2_beyondSome_27 (v := 1) (by decide) (n := 28) rfl ?_
      refine k_goto S dX2_beyondSome_28 (tgt := 32) (by decide) ?_
      rw [if_neg c1] at hJ2
      exact hJ2
set_option maxRecDepth 100000 in
set_option maxHeartbeats 4000000 in
theorem c_X2_beyondSome {l : Launch} {g : zG} {μ : zM} {k n : Nat} {ce w : Int32} (hk : k < 10) (hn : n ≤ 15) (hc : μ.1 (11 + k) 5 = ce) (hw : μ.1 (11 + k) 7 = w) : zC l g yX2_beyondSome cX2_beyondSome 5 (some .int) ({ frames := 1, cells := 0, slots := 0, locals := 22 } : Room) 0 0 [.ref (za g 8), .int (nI n), .ref (za g (11 + k))] μ (zRv (some (.int (nI (zct (fun i => ¬ zsb (μ.1 10 i) ce w 1 = 0) n)))) μ) zNX := by
  refine zC_of (L0 := [some (.ref (za g 8)), some (.int (nI n)), some (.ref (za g (11 + k))), none, none]) (plainFor_of_name (by decide)) (Nat.le_of_ble_eq_true rfl) rfl ?_
  intro x S Y hxl
  subst hxl
  refine k_iconst S dX2_beyondSome_0 (v := 0) (by decide) (n := 1) rfl ?_
  refine k_istore3 S dX2_beyondSome_1 (by decide) rfl (n := 2) rfl ?_
  refine k_iconst S dX2_beyondSome_2 (v := 0) (by decide) (n := 3) rfl ?_
  refine k_istore4 S dX2_beyondSome_3 (by decide) rfl (n := 5) rfl ?_
  exact l_X2_beyondSome S Y hk hn hc hw n 0 (by omega)
