/-! THE DESK'S OWN CALLS, but those with loops. ph i: the phase of subgroup i -/
def m_X3_restart (μ : zM) (v : Int32) : zM := zset (zu (zu (zu (zu (zu μ 0 0 v) 0 1 2) 0 2 0) 0 6 0) 0 12 1) (11 + 0) (upd (upd (upd (upd (upd ((zu (zu (zu (zu (zu μ 0 0 v) 0 1 2) 0 2 0) 0 6 0) 0 12 1).1 (11 + 0)) 0 0) 1 0) 2 0) 3 0) 4 0)
set_option maxRecDepth 100000 in
set_option maxHeartbeats 4000000 in
theorem c_X3_restart {l : Launch} {g : zG} {μ : zM} {v : Int32} : zC l g yX3_restart cX3_restart 2 none ({ frames := 1, cells := 0, slots := 0, locals := 21 } : Room) 0 0 [.ref (za g 0), .int v] μ (zRv none (m_X3_restart μ v)) zNX := by
  refine zC_of (L0 := [some (.ref (za g 0)), some (.int v)]) (plainFor_of_name (by decide)) (Nat.le_of_ble_eq_true rfl) rfl ?_
  intro x S Y hxl
  subst hxl
  refine k_aload0 S dX3_restart_0 (n := 1) rfl ?_
  refine k_iload1 S dX3_restart_1 (n := 2) rfl ?_
  refine k_put (T := TX3) (j := 0) S dX3_restart_2 (zlt S (by decide)) (by decide) (ci := 3) rfl rfl (by decide) in_3 m_145 rfl rfl (ty0 := tyX3) tyX3_ok nmX3 rfl rfl rfl (n := 5) rfl ?_
  refine k_aload0 S dX3_restart_5 (n := 6) rfl ?_
  refine k_iconst S dX3_restart_6 (v := 2) (by decide) (n := 7) rfl ?_
  refine k_put (T := TX3) (j := 1) S dX3_restart_7 (zlt S (by decide)) (by decide) (ci := 3) rfl rfl (by decide) in_3 m_146 rfl rfl (ty0 := tyX3) tyX3_ok nmX3 rfl rfl rfl (n := 10) rfl ?_
  refine k_aload0 S dX3_restart_10 (n := 11) rfl ?_
  refine k_iconst S dX3_restart_11 (v := 0) (by decide) (n := 12) rfl ?_
  refine k_put (T := TX3) (j := 2) S dX3_restart_12 (zlt S (by decide)) (by decide) (ci := 3) rfl rfl (by decide) in_3 m_147 rfl rfl (ty0 := tyX3) tyX3_ok nmX3 rfl rfl rfl (n := 15) rfl ?_
  refine k_aload0 S dX3_restart_15 (n := 16) rfl ?_
  refine k_iconst S dX3_restart_16 (v := 0) (by decide) (n := 17) rfl ?_
  refine k_put (T := TX3) (j := 6) S dX3_restart_17 (zlt S (by decide)) (by decide) (ci := 3) rfl rfl (by decide) in_3 m_151 rfl rfl (ty0 := tyX3) tyX3_ok nmX3 rfl rfl rfl (n := 20) rfl ?_
  refine k_aload0 S dX3_restart_20 (n := 21) rfl ?_
  refine k_iconst S dX3_restart_21 (v := 1) (by decide) (n := 22) rfl ?_
  refine k_put (T := TX3) (j := 12) S dX3_restart_22 (zlt S (by decide)) (by decide) (ci := 3) rfl rfl (by decide) in_3 m_157 rfl rfl (ty0 := tyX3) tyX3_ok nmX3 rfl rfl rfl (n := 25) rfl ?_
  refine k_aload0 S dX3_restart_25 (n := 26) rfl ?_
  refine k_getr (r := 6) (T := TX3) (j := 13) S dX3_restart_26 (zlt S (by decide)) (by decide) (ci := 3) rfl rfl (by decide) in_3 m_158 rfl rfl (n := 29) rfl ?_
  refine k_iconst S dX3_restart_29 (v := 0) (by decide) (n := 30) rfl ?_
  refine k_aald S dX3_restart_30 (j := 0) (zlt S (by decide)) (by decide) (by decide) (by decide) (n := 31) rfl ?_
  refine k_iconst S dX3_restart_31 (v := 0) (by decide) (n := 32) rfl ?_
  refine k_callV (As := [.int 0]) (rest := []) (p := 11 + 0) S (c_X0_restart (k := 0) (by decide)) mv_X0_restart m_141 dX3_restart_32 rfl rfl ⟨by decide, by decide⟩ (zlt S (by omega)) (zki_ph (show 0 < 10 by decide)) (ci := 0) rfl rfl rfl (Nat.le_of_ble_eq_true rfl) ⟨by decide, by decide⟩ (n := 35) rfl (fun _ _ h => h.elim) (fun v9 ν9 h9 => ?_)
  rw [h9.1, h9.2]
  show zK x g ({ frames := 1, cells := 0, slots := 0, locals := 21 } : Room) 2 0 0 35 [some (.ref (za g 0)), some (.int v)] [] (zset (zu (zu (zu (zu (zu μ 0 0 v) 0 1 2) 0 2 0) 0 6 0) 0 12 1) (11 + 0) (upd (upd (upd (upd (upd ((zu (zu (zu (zu (zu μ 0 0 v) 0 1 2) 0 2 0) 0 6 0) 0 12 1).1 (11 + 0)) 0 0) 1 0) 2 0) 3 0) 4 0))
  exact k_vret S Y dX3_restart_35 (by decide) (by decide) (⟨rfl, rfl⟩)
set_option maxRecDepth 100000 in
set_option maxHeartbeats 4000000 in
theorem c_X3_begin {l : Launch} {g : zG} {μ : zM} {v : Int32} : zC l g yX3_begin cX3_begin 2 none ({ frames := 6, cells := 1, slots := 6, locals := 82 } : Room) 1 6 [.ref (za g 0), .int v] μ (zRc (2 ≤ v ∧ v ≤ 6) none (m_X3_restart μ v)) (zXc (¬ (2 ≤ v ∧ v ≤ 6)) "java/lang/IllegalArgumentException" μ) := by
  refine zC_of (L0 := [some (.ref (za g 0)), some (.int v)]) (plainFor_of_name (by decide)) (Nat.le_of_ble_eq_true rfl) rfl ?_
  intro x S Y hxl
  subst hxl
  refine k_iload1 S dX3_begin_0 (n := 1) rfl ?_
  refine k_iconst S dX3_begin_1 (v := 2) (by decide) (n := 2) rfl ?_
  refine k_icmp_lt S dX3_begin_2 (tgt := 11) (by decide) (n := 5) rfl (fun c1 => ?_) (fun c1 => ?_)
  ·
    exact k_throw (cls := "java/lang/IllegalArgumentException") (names := zEx) (i9 := 0) S Y rfl (by decide) (by decide) m_201 m_10 rfl at_IAE ng_IAE go_IAE dX3_begin_11 dX3_begin_14 dX3_begin_15 dX3_begin_17 dX3_begin_20 (by decide) (by decide) (by decide) (by decide) (by decide) (by decide) (⟨by first | exact fun q => absurd q.1 (Int32.not_le.mpr c1) | exact fun q => c2 q.2, rfl, rfl⟩)
  ·
    refine k_iload1 S dX3_begin_5 (n := 6) rfl ?_
    refine k_bipush S dX3_begin_6 (v := 6) (by decide) (n := 8) rfl ?_
    refine k_icmp_le S dX3_begin_8 (tgt := 21) (by decide) (n := 11) rfl (fun c2 => ?_) (fun c2 => ?_)
    ·
      refine k_aload0 S dX3_begin_21 (n := 22) rfl ?_
      refine k_iload1 S dX3_begin_22 (n := 23) rfl ?_
      refine k_callV (As := [.int v]) (rest := []) (p := 0) S (c_X3_restart) mv_X3_restart m_137 dX3_begin_23 rfl rfl ⟨by decide, by decide⟩ (zlt S (by decide)) (by decide) (ci := 3) rfl rfl rfl (Nat.le_of_ble_eq_true rfl) ⟨by decide, by decide⟩ (n := 26) rfl (fun _ _ h => h.elim) (fun v9 ν9 h9 => ?_)
      rw [h9.1, h9.2]
      show zK x g ({ frames := 6, cells := 1, slots := 6, locals := 82 } : Room) 2 0 0 26 [some (.ref (za g 0)), some (.int v)] [] (m_X3_restart μ v)
      exact k_vret S Y dX3_begin_26 (by decide) (by decide) (⟨⟨Int32.not_lt.mp c1, c2⟩, rfl, rfl⟩)
    ·
      exact k_throw (cls := "java/lang/IllegalArgumentException") (names := zEx) (i9 := 0) S Y rfl (by decide) (by decide) m_201 m_10 rfl at_IAE ng_IAE go_IAE dX3_begin_11 dX3_begin_14 dX3_begin_15 dX3_begin_17 dX3_begin_20 (by decide) (by decide) (by decide) (by decide) (by decide) (by decide) (⟨by first | exact fun q => absurd q.1 (Int32.not_le.mpr c1) | exact fun q => c2 q.2, rfl, rfl⟩)
def m_X3_takeMeasurement (μ : zM) (v : Int32) : zM := zu (zu (zu (zu μ 0 3 ((if ((if (μ.1 0 2) = 0 then (1 : Int32) else (0 : Int32))) = 0 then (μ.1 0 3) + v else v))) 0 4 ((if ((if (μ.1 0 2) = 0 then (1 : Int32) else (0 : Int32))) = 0 then zmin (μ.1 0 4) v else v))) 0 5 ((if ((if (μ.1 0 2) = 0 then (1 : Int32) else (0 : Int32))) = 0 then zmax (μ.1 0 5) v else v))) 0 2 ((μ.1 0 2) + 1)
set_option maxRecDepth 100000 in
set_option maxHeartbeats 4000000 in
theorem c_X3_takeMeasurement {l : Launch} {g : zG} {μ : zM} {v : Int32} : zC l g yX3_takeMeasurement cX3_takeMeasurement 3 none ({ frames := 1, cells := 0, slots := 0, locals := 21 } : Room) 0 0 [.ref (za g 0), .int v] μ (zRv none (m_X3_takeMeasurement μ v)) zNX := by
  refine zC_of (L0 := [some (.ref (za g 0)), some (.int v), none]) (plainFor_of_name (by decide)) (Nat.le_of_ble_eq_true rfl) rfl ?_
  intro x S Y hxl
  subst hxl
  refine k_aload0 S dX3_takeMeasurement_0 (n := 1) rfl ?_
  refine k_geti (T := TX3) (j := 2) S dX3_takeMeasurement_1 (zlt S (by decide)) (by decide) (ci := 3) rfl rfl (by decide) in_3 m_147 rfl rfl (n := 4) rfl ?_
  have hJ2 : zK x g ({ frames := 1, cells := 0, slots := 0, locals := 21 } : Room) 3 0 0 12 [some (.ref (za g 0)), some (.int v), none] [.int ((if (μ.1 0 2) = 0 then (1 : Int32) else (0 : Int32)))] μ := by
    refine k_istore2 S dX3_takeMeasurement_12 (by decide) rfl (n := 13) rfl ?_
    refine k_aload0 S dX3_takeMeasurement_13 (n := 14) rfl ?_
    refine k_iload2 S dX3_takeMeasurement_14 (n := 15) rfl ?_
    have hJ4 : zK x g ({ frames := 1, cells := 0, slots := 0, locals := 21 } : Room) 3 0 0 28 [some (.ref (za g 0)), some (.int v), some (.int ((if (μ.1 0 2) = 0 then (1 : Int32) else (0 : Int32))))] [.int ((if ((if (μ.1 0 2) = 0 then (1 : Int32) else (0 : Int32))) = 0 then (μ.1 0 3) + v else v)), .ref (za g 0)] μ := by
      refine k_put (T := TX3) (j := 3) S dX3_takeMeasurement_28 (zlt S (by decide)) (by decide) (ci := 3) rfl rfl (by decide) in_3 m_148 rfl rfl (ty0 := tyX3) tyX3_ok nmX3 rfl rfl rfl (n := 31) rfl ?_
      refine k_aload0 S dX3_takeMeasurement_31 (n := 32) rfl ?_
      refine k_iload2 S dX3_takeMeasurement_32 (n := 33) rfl ?_
      have hJ6 : zK x g ({ frames := 1, cells := 0, slots := 0, locals := 21 } : Room) 3 0 0 48 [some (.ref (za g 0)), some (.int v), some (.int ((if (μ.1 0 2) = 0 then (1 : Int32) else (0 : Int32))))] [.int ((if ((if (μ.1 0 2) = 0 then (1 : Int32) else (0 : Int32))) = 0 then zmin (μ.1 0 4) v else v)), .ref (za g 0)] (zu μ 0 3 ((if ((if (μ.1 0 2) = 0 then (1 : Int32) else (0 : Int32))) = 0 then (μ.1 0 3) + v else v))) := by
        refine k_put (T := TX3) (j := 4) S dX3_takeMeasurement_48 (zlt S (by decide)) (by decide) (ci := 3) rfl rfl (by decide) in_3 m_149 rfl rfl (ty0 := tyX3) tyX3_ok nmX3 rfl rfl rfl (n := 51) rfl ?_
        refine k_aload0 S dX3_takeMeasurement_51 (n := 52) rfl ?_
        refine k_iload2 S dX3_takeMeasurement_52 (n := 53) rfl ?_
        have hJ8 : zK x g ({ frames := 1, cells := 0, slots := 0, locals := 21 } : Room) 3 0 0 68 [some (.ref (za g 0)), some (.int v), some (.int ((if (μ.1 0 2) = 0 then (1 : Int32) else (0 : Int32))))] [.int ((if ((if (μ.1 0 2) = 0 then (1 : Int32) else (0 : Int32))) = 0 then zmax (μ.1 0 5) v else v)), .ref (za g 0)] (zu (zu μ 0 3 ((if ((if (μ.1 0 2) = 0 then (1 : Int32) else (0 : Int32))) = 0 then (μ.1 0 3) + v else v))) 0 4 ((if ((if (μ.1 0 2) = 0 then (1 : Int32) else (0 : Int32))) = 0 then zmin (μ.1 0 4) v else v))) := by
          refine k_put (T := TX3) (j := 5) S dX3_takeMeasurement_68 (zlt S (by decide)) (by decide) (ci := 3) rfl rfl (by decide) in_3 m_150 rfl rfl (ty0 := tyX3) tyX3_ok nmX3 rfl rfl rfl (n := 71) rfl ?_
          refine k_aload0 S dX3_takeMeasurement_71 (n := 72) rfl ?_
          refine k_dup S dX3_takeMeasurement_72 rfl (n := 73) rfl ?_
          refine k_getv (v := μ.1 0 2) (T := TX3) (j := 2) S dX3_takeMeasurement_73 (zlt S (by decide)) (by decide) (ci := 3) rfl rfl (by decide) in_3 m_147 rfl rfl (by simp [zu, zset, upd]) (n := 76) rfl ?_
          refine k_iconst S dX3_takeMeasurement_76 (v := 1) (by decide) (n := 77) rfl ?_
          refine k_iadd S dX3_takeMeasurement_77 (n := 78) rfl ?_
          refine k_put (T := TX3) (j := 2) S dX3_takeMeasurement_78 (zlt S (by decide)) (by decide) (ci := 3) rfl rfl (by decide) in_3 m_147 rfl rfl (ty0 := tyX3) tyX3_ok nmX3 rfl rfl rfl (n := 81) rfl ?_
          exact k_vret S Y dX3_takeMeasurement_81 (by decide) (by decide) (⟨rfl, rfl⟩)
        refine k_if_eq S dX3_takeMeasurement_53 (tgt := 60) (by decide) (n := 56) rfl (fun c7 => ?_) (fun c7 => ?_)
        ·
          refine k_aload0 S dX3_takeMeasurement_60 (n := 61) rfl ?_
          refine k_getv (v := μ.1 0 5) (T := TX3) (j := 5) S dX3_takeMeasurement_61 (zlt S (by decide)) (by decide) (ci := 3) rfl rfl (by decide) in_3 m_150 rfl rfl (by simp [zu, zset, upd]) (n := 64) rfl ?_
          refine k_iload1 S dX3_takeMeasurement_64 (n := 65) rfl ?_
          refine k_callS (As := [.int (μ.1 0 5), .int v]) (rest := [.ref (za g 0)]) S (c_J9_max_7cf53) mv_J9_max_7cf53 m_292 dX3_takeMeasurement_65 rfl rfl ⟨by decide, by decide⟩ rfl rfl (Nat.le_of_ble_eq_true rfl) ⟨by decide, by decide⟩ (n := 68) rfl (fun _ _ h => h.elim) (fun v9 ν9 h9 => ?_)
          rw [h9.1, h9.2]
          show zK x g ({ frames := 1, cells := 0, slots := 0, locals := 21 } : Room) 3 0 0 68 [some (.ref (za g 0)), some (.int v), some (.int ((if (μ.1 0 2) = 0 then (1 : Int32) else (0 : Int32))))] [.int (zmax (μ.1 0 5) v), .ref (za g 0)] (zu (zu μ 0 3 ((if ((if (μ.1 0 2) = 0 then (1 : Int32) else (0 : Int32))) = 0 then (μ.1 0 3) + v else v))) 0 4 ((if ((if (μ.1 0 2) = 0 then (1 : Int32) else (0 : Int32))) = 0 then zmin (μ.1 0 4) v else v)))
          rw [if_pos c7] at hJ8
          exact hJ8
        ·
          refine k_iload1 S dX3_takeMeasurement_56 (n := 57) rfl ?_
          refine k_goto S dX3_takeMeasurement_57 (tgt := 68) (by decide) ?_
          rw [if_neg c7] at hJ8
          exact hJ8
      refine k_if_eq S dX3_takeMeasurement_33 (tgt := 40) (by decide) (n := 36) rfl (fun c5 => ?_) (fun c5 => ?_)
      ·
        refine k_aload0 S dX3_takeMeasurement_40 (n := 41) rfl ?_
        refine k_getv (v := μ.1 0 4) (T := TX3) (j := 4) S dX3_takeMeasurement_41 (zlt S (by decide)) (by decide) (ci := 3) rfl rfl (by decide) in_3 m_149 rfl rfl (by simp [zu, zset, upd]) (n := 44) rfl ?_
        refine k_iload1 S dX3_takeMeasurement_44 (n := 45) rfl ?_
        refine k_callS (As := [.int (μ.1 0 4), .int v]) (rest := [.ref (za g 0)]) S (c_J9_min_7cf53) mv_J9_min_7cf53 m_289 dX3_takeMeasurement_45 rfl rfl ⟨by decide, by decide⟩ rfl rfl (Nat.le_of_ble_eq_true rfl) ⟨by decide, by decide⟩ (n := 48) rfl (fun _ _ h => h.elim) (fun v9 ν9 h9 => ?_)
        rw [h9.1, h9.2]
        show zK x g ({ frames := 1, cells := 0, slots := 0, locals := 21 } : Room) 3 0 0 48 [some (.ref (za g 0)), some (.int v), some (.int ((if (μ.1 0 2) = 0 then (1 : Int32) else (0 : Int32))))] [.int (zmin (μ.1 0 4) v), .ref (za g 0)] (zu μ 0 3 ((if ((if (μ.1 0 2) = 0 then (1 : Int32) else (0 : Int32))) = 0 then (μ.1 0 3) + v else v)))
        rw [if_pos c5] at hJ6
        exact hJ6
      ·
        refine k_iload1 S dX3_takeMeasurement_36 (n := 37) rfl ?_
        refine k_goto S dX3_takeMeasurement_37 (tgt := 48) (by decide) ?_
        rw [if_neg c5] at hJ6
        exact hJ6
    refine k_if_eq S dX3_takeMeasurement_15 (tgt := 22) (by decide) (n := 18) rfl (fun c3 => ?_) (fun c3 => ?_)
    ·
      refine k_aload0 S dX3_takeMeasurement_22 (n := 23) rfl ?_
      refine k_geti (T := TX3) (j := 3) S dX3_takeMeasurement_23 (zlt S (by decide)) (by decide) (ci := 3) rfl rfl (by decide) in_3 m_148 rfl rfl (n := 26) rfl ?_
      refine k_iload1 S dX3_takeMeasurement_26 (n := 27) rfl ?_
      refine k_iadd S dX3_takeMeasurement_27 (n := 28) rfl ?_
      rw [if_pos c3] at hJ4
      exact hJ4
    ·
      refine k_iload1 S dX3_takeMeasurement_18 (n := 19) rfl ?_
      refine k_goto S dX3_takeMeasurement_19 (tgt := 28) (by decide) ?_
      rw [if_neg c3] at hJ4
      exact hJ4
  refine k_if_ne S dX3_takeMeasurement_4 (tgt := 11) (by decide) (n := 7) rfl (fun c1 => ?_) (fun c1 => ?_)
  ·
    refine k_iconst S dX3_takeMeasurement_11 (v := 0) (by decide) (n := 12) rfl ?_
    rw [if_neg c1] at hJ2
    exact hJ2
  ·
    refine k_iconst S dX3_takeMeasurement_7 (v := 1) (by decide) (n := 8) rfl ?_
    refine k_goto S dX3_takeMeasurement_8 (tgt := 12) (by decide) ?_
    rw [if_pos c1] at hJ2
    exact hJ2
def m_X3_finishSubgroup (μ : zM) (d s c : Nat) : zM := m_X3_countPoint (zu (zu (zu (zu (zu (zu (zu μ 1 d (μ.1 0 3)) 2 d ((μ.1 0 5) - (μ.1 0 4))) 3 d (Int64.toInt32 (zrd (1000 * (Int32.toInt64 (μ.1 0 3))) (Int32.toInt64 (μ.1 0 0))))) 4 d 0) 5 d ((nI c) - 1)) 0 2 0) 0 6 ((nI d) + 1)) d (c - 1) s 1
set_option maxRecDepth 100000 in
set_option maxHeartbeats 4000000 in
theorem c_X3_finishSubgroup {l : Launch} {g : zG} {μ : zM} {d s c : Nat} (hd : μ.1 0 6 = nI d) (hd60 : d < 60) (hc : μ.1 0 12 = nI c) (h1 : 1 ≤ c) (hc10 : c ≤ 10) (hs : μ.1 0 0 = nI (s + 2)) (hs5 : s < 5) : zC l g yX3_finishSubgroup cX3_finishSubgroup 2 none ({ frames := 5, cells := 0, slots := 0, locals := 117 } : Room) 0 0 [.ref (za g 0)] μ (zRv none (m_X3_finishSubgroup μ d s c)) zNX := by
  refine zC_of (L0 := [some (.ref (za g 0)), none]) (plainFor_of_name (by decide)) (Nat.le_of_ble_eq_true rfl) rfl ?_
  intro x S Y hxl
  subst hxl
  refine k_aload0 S dX3_finishSubgroup_0 (n := 1) rfl ?_
  refine k_getv (v := nI d) (T := TX3) (j := 6) S dX3_finishSubgroup_1 (zlt S (by decide)) (by decide) (ci := 3) rfl rfl (by decide) in_3 m_151 rfl rfl hd (n := 4) rfl ?_
  refine k_istore1 S dX3_finishSubgroup_4 (by decide) rfl (n := 5) rfl ?_
  refine k_aload0 S dX3_finishSubgroup_5 (n := 6) rfl ?_
  refine k_getr (r := 1) (T := TX3) (j := 7) S dX3_finishSubgroup_6 (zlt S (by decide)) (by decide) (ci := 3) rfl rfl (by decide) in_3 m_152 rfl rfl (n := 9) rfl ?_
  refine k_iload1 S dX3_finishSubgroup_9 (n := 10) rfl ?_
  refine k_aload0 S dX3_finishSubgroup_10 (n := 11) rfl ?_
  refine k_geti (T := TX3) (j := 3) S dX3_finishSubgroup_11 (zlt S (by decide)) (by decide) (ci := 3) rfl rfl (by decide) in_3 m_148 rfl rfl (n := 14) rfl ?_
  refine k_iast S dX3_finishSubgroup_14 (j := d) (zlt S (by decide)) (by decide) rfl (show d < 60 from hd60) (by decide) (n := 15) rfl ?_
  refine k_aload0 S dX3_finishSubgroup_15 (n := 16) rfl ?_
  refine k_getr (r := 2) (T := TX3) (j := 8) S dX3_finishSubgroup_16 (zlt S (by decide)) (by decide) (ci := 3) rfl rfl (by decide) in_3 m_153 rfl rfl (n := 19) rfl ?_
  refine k_iload1 S dX3_finishSubgroup_19 (n := 20) rfl ?_
  refine k_aload0 S dX3_finishSubgroup_20 (n := 21) rfl ?_
  refine k_getv (v := μ.1 0 5) (T := TX3) (j := 5) S dX3_finishSubgroup_21 (zlt S (by decide)) (by decide) (ci := 3) rfl rfl (by decide) in_3 m_150 rfl rfl (by simp [zu, zset, upd]) (n := 24) rfl ?_
  refine k_aload0 S dX3_finishSubgroup_24 (n := 25) rfl ?_
  refine k_getv (v := μ.1 0 4) (T := TX3) (j := 4) S dX3_finishSubgroup_25 (zlt S (by decide)) (by decide) (ci := 3) rfl rfl (by decide) in_3 m_149 rfl rfl (by simp [zu, zset, upd]) (n := 28) rfl ?_
  refine k_isub S dX3_finishSubgroup_28 (n := 29) rfl ?_
  refine k_iast S dX3_finishSubgroup_29 (j := d) (zlt S (by decide)) (by decide) rfl (show d < 60 from hd60) (by decide) (n := 30) rfl ?_
  refine k_aload0 S dX3_finishSubgroup_30 (n := 31) rfl ?_
  refine k_getr (r := 3) (T := TX3) (j := 9) S dX3_finishSubgroup_31 (zlt S (by decide)) (by decide) (ci := 3) rfl rfl (by decide) in_3 m_154 rfl rfl (n := 34) rfl ?_
  refine k_iload1 S dX3_finishSubgroup_34 (n := 35) rfl ?_
  refine k_ldc2 S dX3_finishSubgroup_35 (v := 1000) m_299 (n := 38) rfl ?_
  refine k_aload0 S dX3_finishSubgroup_38 (n := 39) rfl ?_
  refine k_getv (v := μ.1 0 3) (T := TX3) (j := 3) S dX3_finishSubgroup_39 (zlt S (by decide)) (by decide) (ci := 3) rfl rfl (by decide) in_3 m_148 rfl rfl (by simp [zu, zset, upd]) (n := 42) rfl ?_
  refine k_i2l S dX3_finishSubgroup_42 (n := 43) rfl ?_
  refine k_lmul S dX3_finishSubgroup_43 (n := 44) rfl ?_
  refine k_aload0 S dX3_finishSubgroup_44 (n := 45) rfl ?_
  refine k_getv (v := μ.1 0 0) (T := TX3) (j := 0) S dX3_finishSubgroup_45 (zlt S (by decide)) (by decide) (ci := 3) rfl rfl (by decide) in_3 m_145 rfl rfl (by simp [zu, zset, upd]) (n := 48) rfl ?_
  refine k_i2l S dX3_finishSubgroup_48 (n := 49) rfl ?_
  refine k_callS (As := [.long (1000 * (Int32.toInt64 (μ.1 0 3))), .long (Int32.toInt64 (μ.1 0 0))]) (rest := [.int (nI d), .ref (za g 3)]) S (c_X3_rounded) mv_X3_rounded m_300 dX3_finishSubgroup_49 rfl rfl ⟨by decide, by decide⟩ rfl rfl (Nat.le_of_ble_eq_true rfl) ⟨by decide, by decide⟩ (n := 52) rfl (fun _ _ h => h.elim) (fun v9 ν9 h9 => ?_)
  rw [h9.1, h9.2]
  show zK x g ({ frames := 5, cells := 0, slots := 0, locals := 117 } : Room) 2 0 0 52 [some (.ref (za g 0)), some (.int (nI d))] [.long (zrd (1000 * (Int32.toInt64 (μ.1 0 3))) (Int32.toInt64 (μ.1 0 0))), .int (nI d), .ref (za g 3)] (zu (zu μ 1 d (μ.1 0 3)) 2 d ((μ.1 0 5) - (μ.1 0 4)))
  refine k_l2i S dX3_finishSubgroup_52 (n := 53) rfl ?_
  refine k_iast S dX3_finishSubgroup_53 (j := d) (zlt S (by decide)) (by decide) rfl (show d < 60 from hd60) (by decide) (n := 54) rfl ?_
  refine k_aload0 S dX3_finishSubgroup_54 (n := 55) rfl ?_
  refine k_getr (r := 4) (T := TX3) (j := 10) S dX3_finishSubgroup_55 (zlt S (by decide)) (by decide) (ci := 3) rfl rfl (by decide) in_3 m_155 rfl rfl (n := 58) rfl ?_
  refine k_iload1 S dX3_finishSubgroup_58 (n := 59) rfl ?_
  refine k_iconst S dX3_finishSubgroup_59 (v := 0) (by decide) (n := 60) rfl ?_
  refine k_iast S dX3_finishSubgroup_60 (j := d) (zlt S (by decide)) (by decide) rfl (show d < 60 from hd60) (by decide) (n := 61) rfl ?_
  refine k_aload0 S dX3_finishSubgroup_61 (n := 62) rfl ?_
  refine k_getr (r := 5) (T := TX3) (j := 11) S dX3_finishSubgroup_62 (zlt S (by decide)) (by decide) (ci := 3) rfl rfl (by decide) in_3 m_156 rfl rfl (n := 65) rfl ?_
  refine k_iload1 S dX3_finishSubgroup_65 (n := 66) rfl ?_
  refine k_aload0 S dX3_finishSubgroup_66 (n := 67) rfl ?_
  refine k_getv (v := nI c) (T := TX3) (j := 12) S dX3_finishSubgroup_67 (zlt S (by decide)) (by decide) (ci := 3) rfl rfl (by decide) in_3 m_157 rfl rfl (by simp [zu, hc]) (n := 70) rfl ?_
  refine k_iconst S dX3_finishSubgroup_70 (v := 1) (by decide) (n := 71) rfl ?_
  refine k_isub S dX3_finishSubgroup_71 (n := 72) rfl ?_
  refine k_iast S dX3_finishSubgroup_72 (j := d) (zlt S (by decide)) (by decide) rfl (show d < 60 from hd60) (by decide) (n := 73) rfl ?_
  refine k_aload0 S dX3_finishSubgroup_73 (n := 74) rfl ?_
  refine k_iconst S dX3_finishSubgroup_74 (v := 0) (by decide) (n := 75) rfl ?_
  refine k_put (T := TX3) (j := 2) S dX3_finishSubgroup_75 (zlt S (by decide)) (by decide) (ci := 3) rfl rfl (by decide) in_3 m_147 rfl rfl (ty0 := tyX3) tyX3_ok nmX3 rfl rfl rfl (n := 78) rfl ?_
  refine k_aload0 S dX3_finishSubgroup_78 (n := 79) rfl ?_
  refine k_dup S dX3_finishSubgroup_79 rfl (n := 80) rfl ?_
  refine k_getv (v := nI d) (T := TX3) (j := 6) S dX3_finishSubgroup_80 (zlt S (by decide)) (by decide) (ci := 3) rfl rfl (by decide) in_3 m_151 rfl rfl (by simp [zu, hd]) (n := 83) rfl ?_
  refine k_iconst S dX3_finishSubgroup_83 (v := 1) (by decide) (n := 84) rfl ?_
  refine k_iadd S dX3_finishSubgroup_84 (n := 85) rfl ?_
  refine k_put (T := TX3) (j := 6) S dX3_finishSubgroup_85 (zlt S (by decide)) (by decide) (ci := 3) rfl rfl (by decide) in_3 m_151 rfl rfl (ty0 := tyX3) tyX3_ok nmX3 rfl rfl rfl (n := 88) rfl ?_
  refine k_aload0 S dX3_finishSubgroup_88 (n := 89) rfl ?_
  refine k_iload1 S dX3_finishSubgroup_89 (n := 90) rfl ?_
  refine k_iconst S dX3_finishSubgroup_90 (v := 1) (by decide) (n := 91) rfl ?_
  refine k_callV (As := [.int (nI d), .int 1]) (rest := []) (p := 0) S (c_X3_countPoint (k := c - 1) (c := c) (s := s) hd60 (by simp [zu]; exact pk_sub h1) (by simp [zu, hc]) (by omega) hc10 (by simp [zu, hs]) hs5) mv_X3_countPoint m_310 dX3_finishSubgroup_91 rfl rfl ⟨by decide, by decide⟩ (zlt S (by decide)) (by decide) (ci := 3) rfl rfl rfl (Nat.le_of_ble_eq_true rfl) ⟨by decide, by decide⟩ (n := 94) rfl (fun _ _ h => h.elim) (fun v9 ν9 h9 => ?_)
  rw [h9.1, h9.2]
  show zK x g ({ frames := 5, cells := 0, slots := 0, locals := 117 } : Room) 2 0 0 94 [some (.ref (za g 0)), some (.int (nI d))] [] (m_X3_countPoint (zu (zu (zu (zu (zu (zu (zu μ 1 d (μ.1 0 3)) 2 d ((μ.1 0 5) - (μ.1 0 4))) 3 d (Int64.toInt32 (zrd (1000 * (Int32.toInt64 (μ.1 0 3))) (Int32.toInt64 (μ.1 0 0))))) 4 d 0) 5 d ((nI c) - 1)) 0 2 0) 0 6 ((nI d) + 1)) d (c - 1) s 1)
  exact k_vret S Y dX3_finishSubgroup_94 (by decide) (by decide) (⟨rfl, rfl⟩)
set_option maxRecDepth 100000 in
set_option maxHeartbeats 4000000 in
theorem c_X3_put {l : Launch} {g : zG} {μ : zM} {v : Int32} {d s c : Nat} (hd : μ.1 0 6 = nI d) (hd60 : d ≤ 60) (hc : μ.1 0 12 = nI c) (h1 : 1 ≤ c) (hc10 : c ≤ 10) (hs : μ.1 0 0 = nI (s + 2)) (hs5 : s < 5) : zC l g yX3_put cX3_put 2 (some .boolean) ({ frames := 6, cells := 1, slots := 6, locals := 138 } : Room) 1 6 [.ref (za g 0), .int v] μ (fun r ν => ¬ zme v = 0 ∧ d < 60 ∧ ((¬ nI (s + 2) ≤ (m_X3_takeMeasurement μ v).1 0 2 ∧ r = some (.int 0) ∧ ν = m_X3_takeMeasurement μ v) ∨ (nI (s + 2) ≤ (m_X3_takeMeasurement μ v).1 0 2 ∧ r = some (.int 1) ∧ ν = m_X3_finishSubgroup (m_X3_takeMeasurement μ v) d s c))) (fun E ν => ((zme v = 0 ∧ E = "java/lang/IllegalArgumentException") ∨ (¬ zme v = 0 ∧ ¬ d < 60 ∧ E = "java/lang/IllegalStateException")) ∧ ν = μ) := by
  refine zC_of (L0 := [some (.ref (za g 0)), some (.int v)]) (plainFor_of_name (by decide)) (Nat.le_of_ble_eq_true rfl) rfl ?_
  intro x S Y hxl
  subst hxl
  refine k_iload1 S dX3_put_0 (n := 1) rfl ?_
  refine k_callS (As := [.int v]) (rest := []) S (c_X3_isMeasurement) mv_X3_isMeasurement m_198 dX3_put_1 rfl rfl ⟨by decide, by decide⟩ rfl rfl (Nat.le_of_ble_eq_true rfl) ⟨by decide, by decide⟩ (n := 4) rfl (fun _ _ h => h.elim) (fun v9 ν9 h9 => ?_)
  rw [h9.1, h9.2]
  show zK x g ({ frames := 6, cells := 1, slots := 6, locals := 138 } : Room) 2 0 0 4 [some (.ref (za g 0)), some (.int v)] [.int (zme v)] μ
  refine k_if_ne S dX3_put_4 (tgt := 17) (by decide) (n := 7) rfl (fun c1 => ?_) (fun c1 => ?_)
  ·
    refine k_aload0 S dX3_put_17 (n := 18) rfl ?_
    refine k_getv (v := nI d) (T := TX3) (j := 6) S dX3_put_18 (zlt S (by decide)) (by decide) (ci := 3) rfl rfl (by decide) in_3 m_151 rfl rfl hd (n := 21) rfl ?_
    refine k_bipush S dX3_put_21 (v := 60) (by decide) (n := 23) rfl ?_
    refine k_icmp_lt S dX3_put_23 (tgt := 36) (by decide) (n := 26) rfl (fun c2 => ?_) (fun c2 => ?_)
    ·
      have h6 : d < 60 := (nI_ltI (by omega) (by omega)).mp (show nI d < nI 60 from c2)
      refine k_aload0 S dX3_put_36 (n := 37) rfl ?_
      refine k_iload1 S dX3_put_37 (n := 38) rfl ?_
      refine k_callV (As := [.int v]) (rest := []) (p := 0) S (c_X3_takeMeasurement) mv_X3_takeMeasurement m_285 dX3_put_38 rfl rfl ⟨by decide, by decide⟩ (zlt S (by decide)) (by decide) (ci := 3) rfl rfl rfl (Nat.le_of_ble_eq_true rfl) ⟨by decide, by decide⟩ (n := 41) rfl (fun _ _ h => h.elim) (fun v9 ν9 h9 => ?_)
      rw [h9.1, h9.2]
      show zK x g ({ frames := 6, cells := 1, slots := 6, locals := 138 } : Room) 2 0 0 41 [some (.ref (za g 0)), some (.int v)] [] (m_X3_takeMeasurement μ v)
      refine k_aload0 S dX3_put_41 (n := 42) rfl ?_
      refine k_geti (T := TX3) (j := 2) S dX3_put_42 (zlt S (by decide)) (by decide) (ci := 3) rfl rfl (by decide) in_3 m_147 rfl rfl (n := 45) rfl ?_
      refine k_aload0 S dX3_put_45 (n := 46) rfl ?_
      refine k_getv (v := nI (s + 2)) (T := TX3) (j := 0) S dX3_put_46 (zlt S (by decide)) (by decide) (ci := 3) rfl rfl (by decide) in_3 m_145 rfl rfl (by simp [m_X3_takeMeasurement, zu, hs]) (n := 49) rfl ?_
      refine k_icmp_ge S dX3_put_49 (tgt := 54) (by decide) (n := 52) rfl (fun c3 => ?_) (fun c3 => ?_)
      ·
        refine k_aload0 S dX3_put_54 (n := 55) rfl ?_
        refine k_callV (As := []) (rest := []) (p := 0) S (c_X3_finishSubgroup (by simp [m_X3_takeMeasurement, zu, hd]) h6 (by simp [m_X3_takeMeasurement, zu, hc]) h1 hc10 (by simp [m_X3_takeMeasurement, zu, hs]) hs5) mv_X3_finishSubgroup m_295 dX3_put_55 rfl rfl ⟨by decide, by decide⟩ (zlt S (by decide)) (by decide) (ci := 3) rfl rfl rfl (Nat.le_of_ble_eq_true rfl) ⟨by decide, by decide⟩ (n := 58) rfl (fun _ _ h => h.elim) (fun v9 ν9 h9 => ?_)
        rw [h9.1, h9.2]
        show zK x g ({ frames := 6, cells := 1, slots := 6, locals := 138 } : Room) 2 0 0 58 [some (.ref (za g 0)), some (.int v)] [] (m_X3_finishSubgroup (m_X3_takeMeasurement μ v) d s c)
        refine k_iconst S dX3_put_58 (v := 1) (by decide) (n := 59) rfl ?_
        exact k_iret S Y dX3_put_59 (by decide) (by decide) rfl (⟨c1, h6, Or.inr ⟨c3, rfl, rfl⟩⟩)
      ·
        refine k_iconst S dX3_put_52 (v := 0) (by decide) (n := 53) rfl ?_
        exact k_iret S Y dX3_put_53 (by decide) (by decide) rfl (⟨c1, h6, Or.inl ⟨c3, rfl, rfl⟩⟩)
    ·
      exact k_throw (cls := "java/lang/IllegalStateException") (names := zEx) (i9 := 2) S Y rfl (by decide) (by decide) m_269 m_11 rfl at_ISE ng_ISE go_ISE dX3_put_26 dX3_put_29 dX3_put_30 dX3_put_32 dX3_put_35 (by decide) (by decide) (by decide) (by decide) (by decide) (by decide) (⟨Or.inr ⟨c1, fun q => c2 (show nI d < nI 60 from nI_lt q (by omega)), rfl⟩, rfl⟩)
  ·
    exact k_throw (cls := "java/lang/IllegalArgumentException") (names := zEx) (i9 := 1) S Y rfl (by decide) (by decide) m_201 m_10 rfl at_IAE ng_IAE go_IAE dX3_put_7 dX3_put_10 dX3_put_11 dX3_put_13 dX3_put_16 (by decide) (by decide) (by decide) (by decide) (by decide) (by decide) (⟨Or.inl ⟨c1, rfl⟩, rfl⟩)
def m_X3_newPhase (μ : zM) (c d : Nat) : zM := zu (zset μ (11 + c) (upd (upd (upd (upd (upd (μ.1 (11 + c)) 0 (nI d)) 1 0) 2 0) 3 0) 4 0)) 0 12 (nI c + 1)
def zNP (μ : zM) (c d : Nat) : Prop := c < 10 ∧ ¬ 0 < μ.1 0 2 ∧ μ.1 (11 + (c - 1)) 0 < nI d
set_option maxRecDepth 100000 in
set_option maxHeartbeats 4000000 in
theorem c_X3_newPhase {l : Launch} {g : zG} {μ : zM} {c d : Nat} (hd : μ.1 0 6 = nI d) (hc : μ.1 0 12 = nI c) (h1 : 1 ≤ c) (hc10 : c ≤ 10) : zC l g yX3_newPhase cX3_newPhase 1 (some .int) ({ frames := 6, cells := 1, slots := 6, locals := 82 } : Room) 1 6 [.ref (za g 0)] μ (zRc (zNP μ c d) (some (.int (nI c))) (m_X3_newPhase μ c d)) (zXc (¬ zNP μ c d) "java/lang/IllegalStateException" μ) := by
  refine zC_of (L0 := [some (.ref (za g 0))]) (plainFor_of_name (by decide)) (Nat.le_of_ble_eq_true rfl) rfl ?_
  intro x S Y hxl
  subst hxl
  refine k_aload0 S dX3_newPhase_0 (n := 1) rfl ?_
  refine k_getv (v := nI c) (T := TX3) (j := 12) S dX3_newPhase_1 (zlt S (by decide)) (by decide) (ci := 3) rfl rfl (by decide) in_3 m_157 rfl rfl hc (n := 4) rfl ?_
  refine k_bipush S dX3_newPhase_4 (v := 10) (by decide) (n := 6) rfl ?_
  refine k_icmp_lt S dX3_newPhase_6 (tgt := 19) (by decide) (n := 9) rfl (fun c1 => ?_) (fun c1 => ?_)
  ·
    have h10 : c < 10 := (nI_ltI (by omega) (by omega)).mp (show nI c < nI 10 from c1)
    refine k_aload0 S dX3_newPhase_19 (n := 20) rfl ?_
    refine k_geti (T := TX3) (j := 2) S dX3_newPhase_20 (zlt S (by decide)) (by decide) (ci := 3) rfl rfl (by decide) in_3 m_147 rfl rfl (n := 23) rfl ?_
    refine k_if_le S dX3_newPhase_23 (tgt := 36) (by decide) (n := 26) rfl (fun c2 => ?_) (fun c2 => ?_)
    ·
      refine k_aload0 S dX3_newPhase_36 (n := 37) rfl ?_
      refine k_callV (As := []) (rest := []) (p := 0) S (c_X3_lastPhase hc h1 hc10) mv_X3_lastPhase m_466 dX3_newPhase_37 rfl rfl ⟨by decide, by decide⟩ (zlt S (by decide)) (by decide) (ci := 3) rfl rfl rfl (Nat.le_of_ble_eq_true rfl) ⟨by decide, by decide⟩ (n := 40) rfl (fun _ _ h => h.elim) (fun v9 ν9 h9 => ?_)
      rw [h9.1, h9.2]
      show zK x g ({ frames := 6, cells := 1, slots := 6, locals := 82 } : Room) 1 0 0 40 [some (.ref (za g 0))] [.ref (za g (11 + (c - 1)))] μ
      refine k_geti (T := TX0) (j := 0) S dX3_newPhase_40 (zlt S (by omega)) (zki_ph (show c - 1 < 10 by omega)) (ci := 0) rfl rfl (by decide) in_0 m_29 rfl rfl (n := 43) rfl ?_
      refine k_aload0 S dX3_newPhase_43 (n := 44) rfl ?_
      refine k_getv (v := nI d) (T := TX3) (j := 6) S dX3_newPhase_44 (zlt S (by decide)) (by decide) (ci := 3) rfl rfl (by decide) in_3 m_151 rfl rfl hd (n := 47) rfl ?_
      refine k_icmp_lt S dX3_newPhase_47 (tgt := 60) (by decide) (n := 50) rfl (fun c3 => ?_) (fun c3 => ?_)
      ·
        refine k_aload0 S dX3_newPhase_60 (n := 61) rfl ?_
        refine k_getr (r := 6) (T := TX3) (j := 13) S dX3_newPhase_61 (zlt S (by decide)) (by decide) (ci := 3) rfl rfl (by decide) in_3 m_158 rfl rfl (n := 64) rfl ?_
        refine k_aload0 S dX3_newPhase_64 (n := 65) rfl ?_
        refine k_getv (v := nI c) (T := TX3) (j := 12) S dX3_newPhase_65 (zlt S (by decide)) (by decide) (ci := 3) rfl rfl (by decide) in_3 m_157 rfl rfl hc (n := 68) rfl ?_
        refine k_aald S dX3_newPhase_68 (j := c) (zlt S (by decide)) (by decide) rfl h10 (n := 69) rfl ?_
        refine k_aload0 S dX3_newPhase_69 (n := 70) rfl ?_
        refine k_getv (v := nI d) (T := TX3) (j := 6) S dX3_newPhase_70 (zlt S (by decide)) (by decide) (ci := 3) rfl rfl (by decide) in_3 m_151 rfl rfl hd (n := 73) rfl ?_
        refine k_callV (As := [.int (nI d)]) (rest := []) (p := 11 + c) S (c_X0_restart (k := c) (show c < 10 from h10)) mv_X0_restart m_141 dX3_newPhase_73 rfl rfl ⟨by decide, by decide⟩ (zlt S (by omega)) (zki_ph h10) (ci := 0) rfl rfl rfl (Nat.le_of_ble_eq_true rfl) ⟨by decide, by decide⟩ (n := 76) rfl (fun _ _ h => h.elim) (fun v9 ν9 h9 => ?_)
        rw [h9.1, h9.2]
        show zK x g ({ frames := 6, cells := 1, slots := 6, locals := 82 } : Room) 1 0 0 76 [some (.ref (za g 0))] [] (zset μ (11 + c) (upd (upd (upd (upd (upd (μ.1 (11 + c)) 0 (nI d)) 1 0) 2 0) 3 0) 4 0))
        refine k_aload0 S dX3_newPhase_76 (n := 77) rfl ?_
        refine k_dup S dX3_newPhase_77 rfl (n := 78) rfl ?_
        refine k_getv (v := nI c) (T := TX3) (j := 12) S dX3_newPhase_78 (zlt S (by decide)) (by decide) (ci := 3) rfl rfl (by decide) in_3 m_157 rfl rfl (by simp [zset, hc, (show (0 : Nat) ≠ 11 + c by omega)]) (n := 81) rfl ?_
        refine k_iconst S dX3_newPhase_81 (v := 1) (by decide) (n := 82) rfl ?_
        refine k_iadd S dX3_newPhase_82 (n := 83) rfl ?_
        refine k_put (T := TX3) (j := 12) S dX3_newPhase_83 (zlt S (by decide)) (by decide) (ci := 3) rfl rfl (by decide) in_3 m_157 rfl rfl (ty0 := tyX3) tyX3_ok nmX3 rfl rfl rfl (n := 86) rfl ?_
        refine k_aload0 S dX3_newPhase_86 (n := 87) rfl ?_
        refine k_getv (v := (nI c) + 1) (T := TX3) (j := 12) S dX3_newPhase_87 (zlt S (by decide)) (by decide) (ci := 3) rfl rfl (by decide) in_3 m_157 rfl rfl (by simp [zu, zset, upd]) (n := 90) rfl ?_
        refine k_iconst S dX3_newPhase_90 (v := 1) (by decide) (n := 91) rfl ?_
        refine k_isub S dX3_newPhase_91 (n := 92) rfl ?_
        exact k_iret S Y dX3_newPhase_92 (by decide) (by decide) rfl (⟨⟨h10, Int32.not_lt.mpr c2, c3⟩, congrArg (fun z => some (Value.int z)) (Int32.add_sub_cancel _ _), rfl⟩)
      ·
        exact k_throw (cls := "java/lang/IllegalStateException") (names := zEx) (i9 := 5) S Y rfl (by decide) (by decide) m_269 m_11 rfl at_ISE ng_ISE go_ISE dX3_newPhase_50 dX3_newPhase_53 dX3_newPhase_54 dX3_newPhase_56 dX3_newPhase_59 (by decide) (by decide) (by decide) (by decide) (by decide) (by decide) (⟨fun q => c3 q.2.2, rfl, rfl⟩)
    ·
      exact k_throw (cls := "java/lang/IllegalStateException") (names := zEx) (i9 := 4) S Y rfl (by decide) (by decide) m_269 m_11 rfl at_ISE ng_ISE go_ISE dX3_newPhase_26 dX3_newPhase_29 dX3_newPhase_30 dX3_newPhase_32 dX3_newPhase_35 (by decide) (by decide) (by decide) (by decide) (by decide) (by decide) (⟨fun q => q.2.1 (Int32.not_le.mp c2), rfl, rfl⟩)
  ·
    exact k_throw (cls := "java/lang/IllegalStateException") (names := zEx) (i9 := 3) S Y rfl (by decide) (by decide) m_269 m_11 rfl at_ISE ng_ISE go_ISE dX3_newPhase_9 dX3_newPhase_12 dX3_newPhase_13 dX3_newPhase_15 dX3_newPhase_18 (by decide) (by decide) (by decide) (by decide) (by decide) (by decide) (⟨fun q => c1 (show nI c < nI 10 from nI_lt q.1 (by omega)), rfl, rfl⟩)
set_option maxRecDepth 100000 in
set_option maxHeartbeats 4000000 in
theorem c_X3_freeze {l : Launch} {g : zG} {μ : zM} {v : Int32} {c : Nat} (hc : μ.1 0 12 = nI c) (hc10 : c ≤ 10) : zC l g yX3_freeze cX3_freeze 3 none ({ frames := 7, cells := 2, slots := 12, locals := 103 } : Room) 2 12 [.ref (za g 0), .int v] μ (fun r ν => ∃ k, k < c ∧ v = nI k ∧ μ.1 (11 + k) 4 = 0 ∧ 2 ≤ μ.1 (11 + k) 1 ∧ r = none ∧ ν = zu μ (11 + k) 4 1) (fun E ν => ((¬ zIn v c ∧ E = "java/lang/IndexOutOfBoundsException") ∨ (∃ k, k < c ∧ v = nI k ∧ ¬ (μ.1 (11 + k) 4 = 0 ∧ 2 ≤ μ.1 (11 + k) 1) ∧ E = "java/lang/IllegalStateException")) ∧ ν = μ) := by
  refine zC_of (L0 := [some (.ref (za g 0)), some (.int v), none]) (plainFor_of_name (by decide)) (Nat.le_of_ble_eq_true rfl) rfl ?_
  intro x S Y hxl
  subst hxl
  refine k_aload0 S dX3_freeze_0 (n := 1) rfl ?_
  refine k_iload1 S dX3_freeze_1 (n := 2) rfl ?_
  refine k_callV (As := [.int v]) (rest := []) (p := 0) S (c_X3_findPhase (c := c) hc hc10) mv_X3_findPhase m_427 dX3_freeze_2 rfl rfl ⟨by decide, by decide⟩ (zlt S (by decide)) (by decide) (ci := 3) rfl rfl rfl (Nat.le_of_ble_eq_true rfl) ⟨by decide, by decide⟩ (n := 5) rfl (fun E9 ν9 h9 => k_out S Y (by decide) (by decide) (⟨Or.inl ⟨h9.1, h9.2.1⟩, h9.2.2⟩)) (fun v9 ν9 h9 => ?_)
  obtain ⟨k, hk, e9, e1, e2⟩ := h9
  subst e9
  rw [e1, e2]
  show zK x g ({ frames := 7, cells := 2, slots := 12, locals := 103 } : Room) 3 1 6 5 [some (.ref (za g 0)), some (.int (nI k)), none] [.ref (za g (11 + k))] μ
  refine k_astore2 S dX3_freeze_5 (by decide) rfl (n := 6) rfl ?_
  refine k_aload2 S dX3_freeze_6 (n := 7) rfl ?_
  refine k_geti (T := TX0) (j := 4) S dX3_freeze_7 (zlt S (by omega)) (zki_ph (show k < 10 by omega)) (ci := 0) rfl rfl (by decide) in_0 m_37 rfl rfl (n := 10) rfl ?_
  refine k_if_eq S dX3_freeze_10 (tgt := 23) (by decide) (n := 13) rfl (fun c1 => ?_) (fun c1 => ?_)
  ·
    refine k_aload2 S dX3_freeze_23 (n := 24) rfl ?_
    refine k_geti (T := TX0) (j := 1) S dX3_freeze_24 (zlt S (by omega)) (zki_ph (show k < 10 by omega)) (ci := 0) rfl rfl (by decide) in_0 m_31 rfl rfl (n := 27) rfl ?_
    refine k_iconst S dX3_freeze_27 (v := 2) (by decide) (n := 28) rfl ?_
    refine k_icmp_ge S dX3_freeze_28 (tgt := 41) (by decide) (n := 31) rfl (fun c2 => ?_) (fun c2 => ?_)
    ·
      refine k_aload2 S dX3_freeze_41 (n := 42) rfl ?_
      refine k_iconst S dX3_freeze_42 (v := 1) (by decide) (n := 43) rfl ?_
      refine k_put (T := TX0) (j := 4) S dX3_freeze_43 (zlt S (by omega)) (zki_ph (show k < 10 by omega)) (ci := 0) rfl rfl (by decide) in_0 m_37 rfl rfl (ty0 := tyX0) tyX0_ok nmX0 rfl rfl rfl (n := 46) rfl ?_
      exact k_vret S Y dX3_freeze_46 (by decide) (by decide) (⟨k, hk, rfl, c1, c2, rfl, rfl⟩)
    ·
      exact k_throw (cls := "java/lang/IllegalStateException") (names := zEx) (i9 := 8) S Y rfl (by decide) (by decide) m_269 m_11 rfl at_ISE ng_ISE go_ISE dX3_freeze_31 dX3_freeze_34 dX3_freeze_35 dX3_freeze_37 dX3_freeze_40 (by decide) (by decide) (by decide) (by decide) (by decide) (by decide) (⟨Or.inr ⟨k, hk, rfl, fun q => c2 q.2, rfl⟩, rfl⟩)
  ·
    exact k_throw (cls := "java/lang/IllegalStateException") (names := zEx) (i9 := 7) S Y rfl (by decide) (by decide) m_269 m_11 rfl at_ISE ng_ISE go_ISE dX3_freeze_13 dX3_freeze_16 dX3_freeze_17 dX3_freeze_19 dX3_freeze_22 (by decide) (by decide) (by decide) (by decide) (by decide) (by decide) (⟨Or.inr ⟨k, hk, rfl, fun q => c1 q.1, rfl⟩, rfl⟩)
set_option maxRecDepth 100000 in
set_option maxHeartbeats 4000000 in
theorem c_X3_thaw {l : Launch} {g : zG} {μ : zM} {v : Int32} {c s : Nat} (hc : μ.1 0 12 = nI c) (hc10 : c ≤ 10) (hs : μ.1 0 0 = nI (s + 2)) (hs5 : s < 5) : zC l g yX3_thaw cX3_thaw 3 none ({ frames := 7, cells := 2, slots := 12, locals := 103 } : Room) 2 12 [.ref (za g 0), .int v] μ (fun r ν => ∃ k, k < c ∧ v = nI k ∧ ¬ μ.1 (11 + k) 4 = 0 ∧ r = none ∧ ν = m_X0_settle (zu μ (11 + k) 4 0) k s) (fun E ν => ((¬ zIn v c ∧ E = "java/lang/IndexOutOfBoundsException") ∨ (∃ k, k < c ∧ v = nI k ∧ μ.1 (11 + k) 4 = 0 ∧ E = "java/lang/IllegalStateException")) ∧ ν = μ) := by
  refine zC_of (L0 := [some (.ref (za g 0)), some (.int v), none]) (plainFor_of_name (by decide)) (Nat.le_of_ble_eq_true rfl) rfl ?_
  intro x S Y hxl
  subst hxl
  refine k_aload0 S dX3_thaw_0 (n := 1) rfl ?_
  refine k_iload1 S dX3_thaw_1 (n := 2) rfl ?_
  refine k_callV (As := [.int v]) (rest := []) (p := 0) S (c_X3_findPhase (c := c) hc hc10) mv_X3_findPhase m_427 dX3_thaw_2 rfl rfl ⟨by decide, by decide⟩ (zlt S (by decide)) (by decide) (ci := 3) rfl rfl rfl (Nat.le_of_ble_eq_true rfl) ⟨by decide, by decide⟩ (n := 5) rfl (fun E9 ν9 h9 => k_out S Y (by decide) (by decide) (⟨Or.inl ⟨h9.1, h9.2.1⟩, h9.2.2⟩)) (fun v9 ν9 h9 => ?_)
  obtain ⟨k, hk, e9, e1, e2⟩ := h9
  subst e9
  rw [e1, e2]
  show zK x g ({ frames := 7, cells := 2, slots := 12, locals := 103 } : Room) 3 1 6 5 [some (.ref (za g 0)), some (.int (nI k)), none] [.ref (za g (11 + k))] μ
  refine k_astore2 S dX3_thaw_5 (by decide) rfl (n := 6) rfl ?_
  refine k_aload2 S dX3_thaw_6 (n := 7) rfl ?_
  refine k_geti (T := TX0) (j := 4) S dX3_thaw_7 (zlt S (by omega)) (zki_ph (show k < 10 by omega)) (ci := 0) rfl rfl (by decide) in_0 m_37 rfl rfl (n := 10) rfl ?_
  refine k_if_ne S dX3_thaw_10 (tgt := 23) (by decide) (n := 13) rfl (fun c1 => ?_) (fun c1 => ?_)
  ·
    refine k_aload2 S dX3_thaw_23 (n := 24) rfl ?_
    refine k_iconst S dX3_thaw_24 (v := 0) (by decide) (n := 25) rfl ?_
    refine k_put (T := TX0) (j := 4) S dX3_thaw_25 (zlt S (by omega)) (zki_ph (show k < 10 by omega)) (ci := 0) rfl rfl (by decide) in_0 m_37 rfl rfl (ty0 := tyX0) tyX0_ok nmX0 rfl rfl rfl (n := 28) rfl ?_
    refine k_aload2 S dX3_thaw_28 (n := 29) rfl ?_
    refine k_aload0 S dX3_thaw_29 (n := 30) rfl ?_
    refine k_getv (v := nI (s + 2)) (T := TX3) (j := 0) S dX3_thaw_30 (zlt S (by decide)) (by decide) (ci := 3) rfl rfl (by decide) in_3 m_145 rfl rfl (by simp [zu, hs, (show (0 : Nat) ≠ 11 + k by omega)]) (n := 33) rfl ?_
    refine k_callV (As := [.int (nI (s + 2))]) (rest := []) (p := 11 + k) S (c_X0_settle (show k < 10 by omega) hs5) mv_X0_settle m_318 dX3_thaw_33 rfl rfl ⟨by decide, by decide⟩ (zlt S (by omega)) (zki_ph (show k < 10 by omega)) (ci := 0) rfl rfl rfl (Nat.le_of_ble_eq_true rfl) ⟨by decide, by decide⟩ (n := 36) rfl (fun _ _ h => h.elim) (fun v9 ν9 h9 => ?_)
    rw [h9.1, h9.2]
    show zK x g ({ frames := 7, cells := 2, slots := 12, locals := 103 } : Room) 3 1 6 36 [some (.ref (za g 0)), some (.int (nI k)), some (.ref (za g (11 + k)))] [] (m_X0_settle (zu μ (11 + k) 4 0) k s)
    exact k_vret S Y dX3_thaw_36 (by decide) (by decide) (⟨k, hk, rfl, c1, rfl, rfl⟩)
  ·
    exact k_throw (cls := "java/lang/IllegalStateException") (names := zEx) (i9 := 9) S Y rfl (by decide) (by decide) m_269 m_11 rfl at_ISE ng_ISE go_ISE dX3_thaw_13 dX3_thaw_16 dX3_thaw_17 dX3_thaw_19 dX3_thaw_22 (by decide) (by decide) (by decide) (by decide) (by decide) (by decide) (⟨Or.inr ⟨k, hk, rfl, c1, rfl⟩, rfl⟩)
def m_X3_exclude (μ : zM) (i k s : Nat) (a : Int32) : zM :=
  if μ.1 4 i = 0 then (if a = 0 then zu μ 4 i a else m_X3_countPoint (zu μ 4 i a) i k s (-1))
  else (if a = 0 then m_X3_countPoint (zu μ 4 i a) i k s 1 else zu μ 4 i a)
set_option maxRecDepth 100000 in
set_option maxHeartbeats 4000000 in
theorem c_X3_exclude {l : Launch} {g : zG} {μ : zM} {v a : Int32} {d c s : Nat} {ph : Nat → Nat} (hd : μ.1 0 6 = nI d) (hd60 : d ≤ 60) (hph : ∀ i, i < d → μ.1 5 i = nI (ph i) ∧ ph i < c) (hc : μ.1 0 12 = nI c) (hc10 : c ≤ 10) (hs : μ.1 0 0 = nI (s + 2)) (hs5 : s < 5) : zC l g yX3_exclude cX3_exclude 4 (some .int) ({ frames := 7, cells := 2, slots := 12, locals := 117 } : Room) 2 12 [.ref (za g 0), .int v, .int a] μ (fun r ν => ∃ i, i < d ∧ v = nI i ∧ ¬ a < 0 ∧ a ≤ 9 ∧ r = some (.int (μ.1 4 i)) ∧ ν = m_X3_exclude μ i (ph i) s a) (fun E ν => ((¬ zIn v d ∧ E = "java/lang/IndexOutOfBoundsException") ∨ (zIn v d ∧ ¬ (¬ a < 0 ∧ a ≤ 9) ∧ E = "java/lang/IllegalArgumentException")) ∧ ν = μ) := by
  refine zC_of (L0 := [some (.ref (za g 0)), some (.int v), some (.int a), none]) (plainFor_of_name (by decide)) (Nat.le_of_ble_eq_true rfl) rfl ?_
  intro x S Y hxl
  subst hxl
  refine k_aload0 S dX3_exclude_0 (n := 1) rfl ?_
  refine k_iload1 S dX3_exclude_1 (n := 2) rfl ?_
  refine k_callV (As := [.int v]) (rest := []) (p := 0) S (c_X3_checkSubgroup (d := d) hd hd60) mv_X3_checkSubgroup m_475 dX3_exclude_2 rfl rfl ⟨by decide, by decide⟩ (zlt S (by decide)) (by decide) (ci := 3) rfl rfl rfl (Nat.le_of_ble_eq_true rfl) ⟨by decide, by decide⟩ (n := 5) rfl (fun E9 ν9 h9 => k_out S Y (by decide) (by decide) (⟨Or.inl ⟨h9.1, h9.2.1⟩, h9.2.2⟩)) (fun v9 ν9 h9 => ?_)
  obtain ⟨⟨i, hi, e9⟩, e1, e2⟩ := h9
  subst e9
  rw [e1, e2]
  show zK x g ({ frames := 7, cells := 2, slots := 12, locals := 117 } : Room) 4 1 6 5 [some (.ref (za g 0)), some (.int (nI i)), some (.int a), none] [] μ
  refine k_iload2 S dX3_exclude_5 (n := 6) rfl ?_
  refine k_if_lt S dX3_exclude_6 (tgt := 15) (by decide) (n := 9) rfl (fun c1 => ?_) (fun c1 => ?_)
  ·
    exact k_throw (cls := "java/lang/IllegalArgumentException") (names := zEx) (i9 := 11) S Y rfl (by decide) (by decide) m_201 m_10 rfl at_IAE ng_IAE go_IAE dX3_exclude_15 dX3_exclude_18 dX3_exclude_19 dX3_exclude_21 dX3_exclude_24 (by decide) (by decide) (by decide) (by decide) (by decide) (by decide) (⟨Or.inr ⟨⟨i, hi, rfl⟩, fun q => by first | exact q.1 c1 | exact c2 q.2, rfl⟩, rfl⟩)
  ·
    refine k_iload2 S dX3_exclude_9 (n := 10) rfl ?_
    refine k_bipush S dX3_exclude_10 (v := 9) (by decide) (n := 12) rfl ?_
    refine k_icmp_le S dX3_exclude_12 (tgt := 25) (by decide) (n := 15) rfl (fun c2 => ?_) (fun c2 => ?_)
    ·
      refine k_aload0 S dX3_exclude_25 (n := 26) rfl ?_
      refine k_getr (r := 4) (T := TX3) (j := 10) S dX3_exclude_26 (zlt S (by decide)) (by decide) (ci := 3) rfl rfl (by decide) in_3 m_155 rfl rfl (n := 29) rfl ?_
      refine k_iload1 S dX3_exclude_29 (n := 30) rfl ?_
      refine k_iald S dX3_exclude_30 (j := i) (zlt S (by decide)) (by decide) rfl (show i < 60 by omega) (by decide) (n := 31) rfl ?_
      refine k_istore3 S dX3_exclude_31 (by decide) rfl (n := 32) rfl ?_
      refine k_aload0 S dX3_exclude_32 (n := 33) rfl ?_
      refine k_getr (r := 4) (T := TX3) (j := 10) S dX3_exclude_33 (zlt S (by decide)) (by decide) (ci := 3) rfl rfl (by decide) in_3 m_155 rfl rfl (n := 36) rfl ?_
      refine k_iload1 S dX3_exclude_36 (n := 37) rfl ?_
      refine k_iload2 S dX3_exclude_37 (n := 38) rfl ?_
      refine k_iast S dX3_exclude_38 (j := i) (zlt S (by decide)) (by decide) rfl (show i < 60 by omega) (by decide) (n := 39) rfl ?_
      refine k_iload3 S dX3_exclude_39 (n := 40) rfl ?_
      refine k_if_ne S dX3_exclude_40 (tgt := 56) (by decide) (n := 43) rfl (fun c3 => ?_) (fun c3 => ?_)
      ·
        refine k_iload3 S dX3_exclude_56 (n := 57) rfl ?_
        refine k_if_eq S dX3_exclude_57 (tgt := 70) (by decide) (n := 60) rfl (fun c5 => ?_) (fun c5 => ?_)
        ·
          refine k_iload3 S dX3_exclude_70 (n := 71) rfl ?_
          exact k_iret S Y dX3_exclude_71 (by decide) (by decide) rfl (⟨i, hi, rfl, c1, c2, rfl, by first | exact absurd c5 c3 | exact absurd c3 c5 | rw [m_X3_exclude, if_pos c3, if_neg c4] | rw [m_X3_exclude, if_pos c3, if_pos c4] | rw [m_X3_exclude, if_neg c3, if_pos c6] | rw [m_X3_exclude, if_neg c3, if_neg c6]⟩)
        ·
          refine k_iload2 S dX3_exclude_60 (n := 61) rfl ?_
          refine k_if_ne S dX3_exclude_61 (tgt := 70) (by decide) (n := 64) rfl (fun c6 => ?_) (fun c6 => ?_)
          ·
            refine k_iload3 S dX3_exclude_70 (n := 71) rfl ?_
            exact k_iret S Y dX3_exclude_71 (by decide) (by decide) rfl (⟨i, hi, rfl, c1, c2, rfl, by first | exact absurd c5 c3 | exact absurd c3 c5 | rw [m_X3_exclude, if_pos c3, if_neg c4] | rw [m_X3_exclude, if_pos c3, if_pos c4] | rw [m_X3_exclude, if_neg c3, if_pos c6] | rw [m_X3_exclude, if_neg c3, if_neg c6]⟩)
          ·
            refine k_aload0 S dX3_exclude_64 (n := 65) rfl ?_
            refine k_iload1 S dX3_exclude_65 (n := 66) rfl ?_
            refine k_iconst S dX3_exclude_66 (v := 1) (by decide) (n := 67) rfl ?_
            refine k_callV (As := [.int (nI i), .int 1]) (rest := []) (p := 0) S (c_X3_countPoint (k := ph i) (c := c) (s := s) (show i < 60 by omega) (by simp [zu, (hph i hi).1]) (by simp [zu, hc]) (hph i hi).2 hc10 (by simp [zu, hs]) hs5) mv_X3_countPoint m_310 dX3_exclude_67 rfl rfl ⟨by decide, by decide⟩ (zlt S (by decide)) (by decide) (ci := 3) rfl rfl rfl (Nat.le_of_ble_eq_true rfl) ⟨by decide, by decide⟩ (n := 70) rfl (fun _ _ h => h.elim) (fun v9 ν9 h9 => ?_)
            rw [h9.1, h9.2]
            show zK x g ({ frames := 7, cells := 2, slots := 12, locals := 117 } : Room) 4 1 6 70 [some (.ref (za g 0)), some (.int (nI i)), some (.int a), some (.int (μ.1 4 i))] [] (m_X3_countPoint (zu μ 4 i a) i (ph i) s 1)
            refine k_iload3 S dX3_exclude_70 (n := 71) rfl ?_
            exact k_iret S Y dX3_exclude_71 (by decide) (by decide) rfl (⟨i, hi, rfl, c1, c2, rfl, by first | exact absurd c5 c3 | exact absurd c3 c5 | rw [m_X3_exclude, if_pos c3, if_neg c4] | rw [m_X3_exclude, if_pos c3, if_pos c4] | rw [m_X3_exclude, if_neg c3, if_pos c6] | rw [m_X3_exclude, if_neg c3, if_neg c6]⟩)
      ·
        refine k_iload2 S dX3_exclude_43 (n := 44) rfl ?_
        refine k_if_eq S dX3_exclude_44 (tgt := 56) (by decide) (n := 47) rfl (fun c4 => ?_) (fun c4 => ?_)
        ·
          refine k_iload3 S dX3_exclude_56 (n := 57) rfl ?_
          refine k_if_eq S dX3_exclude_57 (tgt := 70) (by decide) (n := 60) rfl (fun c5 => ?_) (fun c5 => ?_)
          ·
            refine k_iload3 S dX3_exclude_70 (n := 71) rfl ?_
            exact k_iret S Y dX3_exclude_71 (by decide) (by decide) rfl (⟨i, hi, rfl, c1, c2, rfl, by first | exact absurd c5 c3 | exact absurd c3 c5 | rw [m_X3_exclude, if_pos c3, if_neg c4] | rw [m_X3_exclude, if_pos c3, if_pos c4] | rw [m_X3_exclude, if_neg c3, if_pos c6] | rw [m_X3_exclude, if_neg c3, if_neg c6]⟩)
          ·
            refine k_iload2 S dX3_exclude_60 (n := 61) rfl ?_
            refine k_if_ne S dX3_exclude_61 (tgt := 70) (by decide) (n := 64) rfl (fun c6 => ?_) (fun c6 => ?_)
            ·
              refine k_iload3 S dX3_exclude_70 (n := 71) rfl ?_
              exact k_iret S Y dX3_exclude_71 (by decide) (by decide) rfl (⟨i, hi, rfl, c1, c2, rfl, by first | exact absurd c5 c3 | exact absurd c3 c5 | rw [m_X3_exclude, if_pos c3, if_neg c4] | rw [m_X3_exclude, if_pos c3, if_pos c4] | rw [m_X3_exclude, if_neg c3, if_pos c6] | rw [m_X3_exclude, if_neg c3, if_neg c6]⟩)
            ·
              refine k_aload0 S dX3_exclude_64 (n := 65) rfl ?_
              refine k_iload1 S dX3_exclude_65 (n := 66) rfl ?_
              refine k_iconst S dX3_exclude_66 (v := 1) (by decide) (n := 67) rfl ?_
              refine k_callV (As := [.int (nI i), .int 1]) (rest := []) (p := 0) S (c_X3_countPoint (k := ph i) (c := c) (s := s) (show i < 60 by omega) (by simp [zu, (hph i hi).1]) (by simp [zu, hc]) (hph i hi).2 hc10 (by simp [zu, hs]) hs5) mv_X3_countPoint m_310 dX3_exclude_67 rfl rfl ⟨by decide, by decide⟩ (zlt S (by decide)) (by decide) (ci := 3) rfl rfl rfl (Nat.le_of_ble_eq_true rfl) ⟨by decide, by decide⟩ (n := 70) rfl (fun _ _ h => h.elim) (fun v9 ν9 h9 => ?_)
              rw [h9.1, h9.2]
              show zK x g ({ frames := 7, cells := 2, slots := 12, locals := 117 } : Room) 4 1 6 70 [some (.ref (za g 0)), some (.int (nI i)), some (.int a), some (.int (μ.1 4 i))] [] (m_X3_countPoint (zu μ 4 i a) i (ph i) s 1)
              refine k_iload3 S dX3_exclude_70 (n := 71) rfl ?_
              exact k_iret S Y dX3_exclude_71 (by decide) (by decide) rfl (⟨i, hi, rfl, c1, c2, rfl, by first | exact absurd c5 c3 | exact absurd c3 c5 | rw [m_X3_exclude, if_pos c3, if_neg c4] | rw [m_X3_exclude, if_pos c3, if_pos c4] | rw [m_X3_exclude, if_neg c3, if_pos c6] | rw [m_X3_exclude, if_neg c3, if_neg c6]⟩)
        ·
          refine k_aload0 S dX3_exclude_47 (n := 48) rfl ?_
          refine k_iload1 S dX3_exclude_48 (n := 49) rfl ?_
          refine k_iconst S dX3_exclude_49 (v := (-1)) (by decide) (n := 50) rfl ?_
          refine k_callV (As := [.int (nI i), .int ((-1))]) (rest := []) (p := 0) S (c_X3_countPoint (k := ph i) (c := c) (s := s) (show i < 60 by omega) (by simp [zu, (hph i hi).1]) (by simp [zu, hc]) (hph i hi).2 hc10 (by simp [zu, hs]) hs5) mv_X3_countPoint m_310 dX3_exclude_50 rfl rfl ⟨by decide, by decide⟩ (zlt S (by decide)) (by decide) (ci := 3) rfl rfl rfl (Nat.le_of_ble_eq_true rfl) ⟨by decide, by decide⟩ (n := 53) rfl (fun _ _ h => h.elim) (fun v9 ν9 h9 => ?_)
          rw [h9.1, h9.2]
          show zK x g ({ frames := 7, cells := 2, slots := 12, locals := 117 } : Room) 4 1 6 53 [some (.ref (za g 0)), some (.int (nI i)), some (.int a), some (.int (μ.1 4 i))] [] (m_X3_countPoint (zu μ 4 i a) i (ph i) s ((-1)))
          refine k_goto S dX3_exclude_53 (tgt := 70) (by decide) ?_
          refine k_iload3 S dX3_exclude_70 (n := 71) rfl ?_
          exact k_iret S Y dX3_exclude_71 (by decide) (by decide) rfl (⟨i, hi, rfl, c1, c2, rfl, by first | exact absurd c5 c3 | exact absurd c3 c5 | rw [m_X3_exclude, if_pos c3, if_neg c4] | rw [m_X3_exclude, if_pos c3, if_pos c4] | rw [m_X3_exclude, if_neg c3, if_pos c6] | rw [m_X3_exclude, if_neg c3, if_neg c6]⟩)
    ·
      exact k_throw (cls := "java/lang/IllegalArgumentException") (names := zEx) (i9 := 11) S Y rfl (by decide) (by decide) m_201 m_10 rfl at_IAE ng_IAE go_IAE dX3_exclude_15 dX3_exclude_18 dX3_exclude_19 dX3_exclude_21 dX3_exclude_24 (by decide) (by decide) (by decide) (by decide) (by decide) (by decide) (⟨Or.inr ⟨⟨i, hi, rfl⟩, fun q => by first | exact q.1 c1 | exact c2 q.2, rfl⟩, rfl⟩)
set_option maxRecDepth 100000 in
set_option maxHeartbeats 4000000 in
theorem c_X3_subgroups {l : Launch} {g : zG} {μ : zM} : zC l g yX3_subgroups cX3_subgroups 1 (some .int) ({ frames := 0, cells := 0, slots := 0, locals := 0 } : Room) 0 0 [.ref (za g 0)] μ (zRv (some (.int (μ.1 0 6))) μ) zNX := by
  refine zC_of (L0 := [some (.ref (za g 0))]) (plainFor_of_name (by decide)) (Nat.le_of_ble_eq_true rfl) rfl ?_
  intro x S Y hxl
  subst hxl
  refine k_aload0 S dX3_subgroups_0 (n := 1) rfl ?_
  refine k_geti (T := TX3) (j := 6) S dX3_subgroups_1 (zlt S (by decide)) (by decide) (ci := 3) rfl rfl (by decide) in_3 m_151 rfl rfl (n := 4) rfl ?_
  exact k_iret S Y dX3_subgroups_4 (by decide) (by decide) rfl (⟨rfl, rfl⟩)
set_option maxRecDepth 100000 in
set_option maxHeartbeats 4000000 in
theorem c_X3_phases {l : Launch} {g : zG} {μ : zM} : zC l g yX3_phases cX3_phases 1 (some .int) ({ frames := 0, cells := 0, slots := 0, locals := 0 } : Room) 0 0 [.ref (za g 0)] μ (zRv (some (.int (μ.1 0 12))) μ) zNX := by
  refine zC_of (L0 := [some (.ref (za g 0))]) (plainFor_of_name (by decide)) (Nat.le_of_ble_eq_true rfl) rfl ?_
  intro x S Y hxl
  subst hxl
  refine k_aload0 S dX3_phases_0 (n := 1) rfl ?_
  refine k_geti (T := TX3) (j := 12) S dX3_phases_1 (zlt S (by decide)) (by decide) (ci := 3) rfl rfl (by decide) in_3 m_157 rfl rfl (n := 4) rfl ?_
  exact k_iret S Y dX3_phases_4 (by decide) (by decide) rfl (⟨rfl, rfl⟩)
set_option maxRecDepth 100000 in
set_option maxHeartbeats 4000000 in
theorem c_X3_mean {l : Launch} {g : zG} {μ : zM} {v : Int32} {d : Nat} (hd : μ.1 0 6 = nI d) (hd60 : d ≤ 60) : zC l g yX3_mean cX3_mean 2 (some .int) ({ frames := 7, cells := 1, slots := 6, locals := 103 } : Room) 1 6 [.ref (za g 0), .int v] μ (fun r ν => ∃ i, i < d ∧ v = nI i ∧ r = some (.int (μ.1 3 i)) ∧ ν = μ) (zXc (¬ zIn v d) "java/lang/IndexOutOfBoundsException" μ) := by
  refine zC_of (L0 := [some (.ref (za g 0)), some (.int v)]) (plainFor_of_name (by decide)) (Nat.le_of_ble_eq_true rfl) rfl ?_
  intro x S Y hxl
  subst hxl
  refine k_aload0 S dX3_mean_0 (n := 1) rfl ?_
  refine k_iload1 S dX3_mean_1 (n := 2) rfl ?_
  refine k_callV (As := [.int v]) (rest := []) (p := 0) S (c_X3_checkSubgroup (d := d) hd hd60) mv_X3_checkSubgroup m_475 dX3_mean_2 rfl rfl ⟨by decide, by decide⟩ (zlt S (by decide)) (by decide) (ci := 3) rfl rfl rfl (Nat.le_of_ble_eq_true rfl) ⟨by decide, by decide⟩ (n := 5) rfl (fun E9 ν9 h9 => k_out S Y (by decide) (by decide) (h9)) (fun v9 ν9 h9 => ?_)
  obtain ⟨⟨i, hi, e9⟩, e1, e2⟩ := h9
  subst e9
  rw [e1, e2]
  show zK x g ({ frames := 7, cells := 1, slots := 6, locals := 103 } : Room) 2 1 6 5 [some (.ref (za g 0)), some (.int (nI i))] [] μ
  refine k_aload0 S dX3_mean_5 (n := 6) rfl ?_
  refine k_getr (r := 3) (T := TX3) (j := 9) S dX3_mean_6 (zlt S (by decide)) (by decide) (ci := 3) rfl rfl (by decide) in_3 m_154 rfl rfl (n := 9) rfl ?_
  refine k_iload1 S dX3_mean_9 (n := 10) rfl ?_
  refine k_iald S dX3_mean_10 (j := i) (zlt S (by decide)) (by decide) rfl (show i < 60 by omega) (by decide) (n := 11) rfl ?_
  exact k_iret S Y dX3_mean_11 (by decide) (by decide) rfl (⟨i, hi, rfl, rfl, rfl⟩)
set_option maxRecDepth 100000 in
set_option maxHeartbeats 4000000 in
theorem c_X3_range {l : Launch} {g : zG} {μ : zM} {v : Int32} {d : Nat} (hd : μ.1 0 6 = nI d) (hd60 : d ≤ 60) : zC l g yX3_range cX3_range 2 (some .int) ({ frames := 7, cells := 1, slots := 6, locals := 103 } : Room) 1 6 [.ref (za g 0), .int v] μ (fun r ν => ∃ i, i < d ∧ v = nI i ∧ r = some (.int (μ.1 2 i)) ∧ ν = μ) (zXc (¬ zIn v d) "java/lang/IndexOutOfBoundsException" μ) := by
  refine zC_of (L0 := [some (.ref (za g 0)), some (.int v)]) (plainFor_of_name (by decide)) (Nat.le_of_ble_eq_true rfl) rfl ?_
  intro x S Y hxl
  subst hxl
  refine k_aload0 S dX3_range_0 (n := 1) rfl ?_
  refine k_iload1 S dX3_range_1 (n := 2) rfl ?_
  refine k_callV (As := [.int v]) (rest := []) (p := 0) S (c_X3_checkSubgroup (d := d) hd hd60) mv_X3_checkSubgroup m_475 dX3_range_2 rfl rfl ⟨by decide, by decide⟩ (zlt S (by decide)) (by decide) (ci := 3) rfl rfl rfl (Nat.le_of_ble_eq_true rfl) ⟨by decide, by decide⟩ (n := 5) rfl (fun E9 ν9 h9 => k_out S Y (by decide) (by decide) (h9)) (fun v9 ν9 h9 => ?_)
  obtain ⟨⟨i, hi, e9⟩, e1, e2⟩ := h9
  subst e9
  rw [e1, e2]
  show zK x g ({ frames := 7, cells := 1, slots := 6, locals := 103 } : Room) 2 1 6 5 [some (.ref (za g 0)), some (.int (nI i))] [] μ
  refine k_aload0 S dX3_range_5 (n := 6) rfl ?_
  refine k_getr (r := 2) (T := TX3) (j := 8) S dX3_range_6 (zlt S (by decide)) (by decide) (ci := 3) rfl rfl (by decide) in_3 m_153 rfl rfl (n := 9) rfl ?_
  refine k_iload1 S dX3_range_9 (n := 10) rfl ?_
  refine k_iald S dX3_range_10 (j := i) (zlt S (by decide)) (by decide) rfl (show i < 60 by omega) (by decide) (n := 11) rfl ?_
  exact k_iret S Y dX3_range_11 (by decide) (by decide) rfl (⟨i, hi, rfl, rfl, rfl⟩)
set_option maxRecDepth 100000 in
set_option maxHeartbeats 4000000 in
theorem c_X3_phaseOf {l : Launch} {g : zG} {μ : zM} {v : Int32} {d : Nat} (hd : μ.1 0 6 = nI d) (hd60 : d ≤ 60) : zC l g yX3_phaseOf cX3_phaseOf 2 (some .int) ({ frames := 7, cells := 1, slots := 6, locals := 103 } : Room) 1 6 [.ref (za g 0), .int v] μ (fun r ν => ∃ i, i < d ∧ v = nI i ∧ r = some (.int (μ.1 5 i)) ∧ ν = μ) (zXc (¬ zIn v d) "java/lang/IndexOutOfBoundsException" μ) := by
  refine zC_of (L0 := [some (.ref (za g 0)), some (.int v)]) (plainFor_of_name (by decide)) (Nat.le_of_ble_eq_true rfl) rfl ?_
  intro x S Y hxl
  subst hxl
  refine k_aload0 S dX3_phaseOf_0 (n := 1) rfl ?_
  refine k_iload1 S dX3_phaseOf_1 (n := 2) rfl ?_
  refine k_callV (As := [.int v]) (rest := []) (p := 0) S (c_X3_checkSubgroup (d := d) hd hd60) mv_X3_checkSubgroup m_475 dX3_phaseOf_2 rfl rfl ⟨by decide, by decide⟩ (zlt S (by decide)) (by decide) (ci := 3) rfl rfl rfl (Nat.le_of_ble_eq_true rfl) ⟨by decide, by decide⟩ (n := 5) rfl (fun E9 ν9 h9 => k_out S Y (by decide) (by decide) (h9)) (fun v9 ν9 h9 => ?_)
  obtain ⟨⟨i, hi, e9⟩, e1, e2⟩ := h9
  subst e9
  rw [e1, e2]
  show zK x g ({ frames := 7, cells := 1, slots := 6, locals := 103 } : Room) 2 1 6 5 [some (.ref (za g 0)), some (.int (nI i))] [] μ
  refine k_aload0 S dX3_phaseOf_5 (n := 6) rfl ?_
  refine k_getr (r := 5) (T := TX3) (j := 11) S dX3_phaseOf_6 (zlt S (by decide)) (by decide) (ci := 3) rfl rfl (by decide) in_3 m_156 rfl rfl (n := 9) rfl ?_
  refine k_iload1 S dX3_phaseOf_9 (n := 10) rfl ?_
  refine k_iald S dX3_phaseOf_10 (j := i) (zlt S (by decide)) (by decide) rfl (show i < 60 by omega) (by decide) (n := 11) rfl ?_
  exact k_iret S Y dX3_phaseOf_11 (by decide) (by decide) rfl (⟨i, hi, rfl, rfl, rfl⟩)
set_option maxRecDepth 100000 in
set_option maxHeartbeats 4000000 in
theorem c_X3_points {l : Launch} {g : zG} {μ : zM} {v : Int32} {c : Nat} (hc : μ.1 0 12 = nI c) (hc10 : c ≤ 10) : zC l g yX3_points cX3_points 2 (some .int) ({ frames := 7, cells := 1, slots := 6, locals := 103 } : Room) 1 6 [.ref (za g 0), .int v] μ (fun r ν => ∃ k, k < c ∧ v = nI k ∧ r = some (.int (μ.1 (11 + k) 1)) ∧ ν = μ) (zXc (¬ zIn v c) "java/lang/IndexOutOfBoundsException" μ) := by
  refine zC_of (L0 := [some (.ref (za g 0)), some (.int v)]) (plainFor_of_name (by decide)) (Nat.le_of_ble_eq_true rfl) rfl ?_
  intro x S Y hxl
  subst hxl
  refine k_aload0 S dX3_points_0 (n := 1) rfl ?_
  refine k_iload1 S dX3_points_1 (n := 2) rfl ?_
  refine k_callV (As := [.int v]) (rest := []) (p := 0) S (c_X3_findPhase (c := c) hc hc10) mv_X3_findPhase m_427 dX3_points_2 rfl rfl ⟨by decide, by decide⟩ (zlt S (by decide)) (by decide) (ci := 3) rfl rfl rfl (Nat.le_of_ble_eq_true rfl) ⟨by decide, by decide⟩ (n := 5) rfl (fun E9 ν9 h9 => k_out S Y (by decide) (by decide) (h9)) (fun v9 ν9 h9 => ?_)
  obtain ⟨k, hk, e9, e1, e2⟩ := h9
  subst e9
  rw [e1, e2]
  show zK x g ({ frames := 7, cells := 1, slots := 6, locals := 103 } : Room) 2 1 6 5 [some (.ref (za g 0)), some (.int (nI k))] [.ref (za g (11 + k))] μ
  refine k_geti (T := TX0) (j := 1) S dX3_points_5 (zlt S (by omega)) (zki_ph (show k < 10 by omega)) (ci := 0) rfl rfl (by decide) in_0 m_31 rfl rfl (n := 8) rfl ?_
  exact k_iret S Y dX3_points_8 (by decide) (by decide) rfl (⟨k, hk, rfl, rfl, rfl⟩)
set_option maxRecDepth 100000 in
set_option maxHeartbeats 4000000 in
theorem c_X3_center {l : Launch} {g : zG} {μ : zM} {v : Int32} {c : Nat} (hc : μ.1 0 12 = nI c) (hc10 : c ≤ 10) : zC l g yX3_center cX3_center 2 (some .int) ({ frames := 8, cells := 2, slots := 12, locals := 125 } : Room) 2 12 [.ref (za g 0), .int v] μ (fun r ν => ∃ k, k < c ∧ v = nI k ∧ zLm μ k ∧ r = some (.int (μ.1 (11 + k) 5)) ∧ ν = μ) (fun E ν => ((¬ zIn v c ∧ E = "java/lang/IndexOutOfBoundsException") ∨ (∃ k, k < c ∧ v = nI k ∧ ¬ zLm μ k ∧ E = "java/lang/IllegalStateException")) ∧ ν = μ) := by
  refine zC_of (L0 := [some (.ref (za g 0)), some (.int v)]) (plainFor_of_name (by decide)) (Nat.le_of_ble_eq_true rfl) rfl ?_
  intro x S Y hxl
  subst hxl
  refine k_aload0 S dX3_center_0 (n := 1) rfl ?_
  refine k_iload1 S dX3_center_1 (n := 2) rfl ?_
  refine k_callV (As := [.int v]) (rest := []) (p := 0) S (c_X3_findLimits (c := c) hc hc10) mv_X3_findLimits m_501 dX3_center_2 rfl rfl ⟨by decide, by decide⟩ (zlt S (by decide)) (by decide) (ci := 3) rfl rfl rfl (Nat.le_of_ble_eq_true rfl) ⟨by decide, by decide⟩ (n := 5) rfl (fun E9 ν9 h9 => k_out S Y (by decide) (by decide) (h9)) (fun v9 ν9 h9 => ?_)
  obtain ⟨k, hk, e9, hlm, e1, e2⟩ := h9
  subst e9
  rw [e1, e2]
  show zK x g ({ frames := 8, cells := 2, slots := 12, locals := 125 } : Room) 2 2 12 5 [some (.ref (za g 0)), some (.int (nI k))] [.ref (za g (11 + k))] μ
  refine k_geti (T := TX0) (j := 5) S dX3_center_5 (zlt S (by omega)) (zki_ph (show k < 10 by omega)) (ci := 0) rfl rfl (by decide) in_0 m_39 rfl rfl (n := 8) rfl ?_
  exact k_iret S Y dX3_center_8 (by decide) (by decide) rfl (⟨k, hk, rfl, hlm, rfl, rfl⟩)
set_option maxRecDepth 100000 in
set_option maxHeartbeats 4000000 in
theorem c_X3_width {l : Launch} {g : zG} {μ : zM} {v : Int32} {c : Nat} (hc : μ.1 0 12 = nI c) (hc10 : c ≤ 10) : zC l g yX3_width cX3_width 2 (some .int) ({ frames := 8, cells := 2, slots := 12, locals := 125 } : Room) 2 12 [.ref (za g 0), .int v] μ (fun r ν => ∃ k, k < c ∧ v = nI k ∧ zLm μ k ∧ r = some (.int (μ.1 (11 + k) 7)) ∧ ν = μ) (fun E ν => ((¬ zIn v c ∧ E = "java/lang/IndexOutOfBoundsException") ∨ (∃ k, k < c ∧ v = nI k ∧ ¬ zLm μ k ∧ E = "java/lang/IllegalStateException")) ∧ ν = μ) := by
  refine zC_of (L0 := [some (.ref (za g 0)), some (.int v)]) (plainFor_of_name (by decide)) (Nat.le_of_ble_eq_true rfl) rfl ?_
  intro x S Y hxl
  subst hxl
  refine k_aload0 S dX3_width_0 (n := 1) rfl ?_
  refine k_iload1 S dX3_width_1 (n := 2) rfl ?_
  refine k_callV (As := [.int v]) (rest := []) (p := 0) S (c_X3_findLimits (c := c) hc hc10) mv_X3_findLimits m_501 dX3_width_2 rfl rfl ⟨by decide, by decide⟩ (zlt S (by decide)) (by decide) (ci := 3) rfl rfl rfl (Nat.le_of_ble_eq_true rfl) ⟨by decide, by decide⟩ (n := 5) rfl (fun E9 ν9 h9 => k_out S Y (by decide) (by decide) (h9)) (fun v9 ν9 h9 => ?_)
  obtain ⟨k, hk, e9, hlm, e1, e2⟩ := h9
  subst e9
  rw [e1, e2]
  show zK x g ({ frames := 8, cells := 2, slots := 12, locals := 125 } : Room) 2 2 12 5 [some (.ref (za g 0)), some (.int (nI k))] [.ref (za g (11 + k))] μ
  refine k_geti (T := TX0) (j := 7) S dX3_width_5 (zlt S (by omega)) (zki_ph (show k < 10 by omega)) (ci := 0) rfl rfl (by decide) in_0 m_43 rfl rfl (n := 8) rfl ?_
  exact k_iret S Y dX3_width_8 (by decide) (by decide) rfl (⟨k, hk, rfl, hlm, rfl, rfl⟩)
set_option maxRecDepth 100000 in
set_option maxHeartbeats 4000000 in
theorem c_X3_rangeLimit {l : Launch} {g : zG} {μ : zM} {v : Int32} {c : Nat} (hc : μ.1 0 12 = nI c) (hc10 : c ≤ 10) : zC l g yX3_rangeLimit cX3_rangeLimit 2 (some .int) ({ frames := 8, cells := 2, slots := 12, locals := 125 } : Room) 2 12 [.ref (za g 0), .int v] μ (fun r ν => ∃ k, k < c ∧ v = nI k ∧ zLm μ k ∧ r = some (.int (μ.1 (11 + k) 8)) ∧ ν = μ) (fun E ν => ((¬ zIn v c ∧ E = "java/lang/IndexOutOfBoundsException") ∨ (∃ k, k < c ∧ v = nI k ∧ ¬ zLm μ k ∧ E = "java/lang/IllegalStateException")) ∧ ν = μ) := by
  refine zC_of (L0 := [some (.ref (za g 0)), some (.int v)]) (plainFor_of_name (by decide)) (Nat.le_of_ble_eq_true rfl) rfl ?_
  intro x S Y hxl
  subst hxl
  refine k_aload0 S dX3_rangeLimit_0 (n := 1) rfl ?_
  refine k_iload1 S dX3_rangeLimit_1 (n := 2) rfl ?_
  refine k_callV (As := [.int v]) (rest := []) (p := 0) S (c_X3_findLimits (c := c) hc hc10) mv_X3_findLimits m_501 dX3_rangeLimit_2 rfl rfl ⟨by decide, by decide⟩ (zlt S (by decide)) (by decide) (ci := 3) rfl rfl rfl (Nat.le_of_ble_eq_true rfl) ⟨by decide, by decide⟩ (n := 5) rfl (fun E9 ν9 h9 => k_out S Y (by decide) (by decide) (h9)) (fun v9 ν9 h9 => ?_)
  obtain ⟨k, hk, e9, hlm, e1, e2⟩ := h9
  subst e9
  rw [e1, e2]
  show zK x g ({ frames := 8, cells := 2, slots := 12, locals := 125 } : Room) 2 2 12 5 [some (.ref (za g 0)), some (.int (nI k))] [.ref (za g (11 + k))] μ
  refine k_geti (T := TX0) (j := 8) S dX3_rangeLimit_5 (zlt S (by omega)) (zki_ph (show k < 10 by omega)) (ci := 0) rfl rfl (by decide) in_0 m_45 rfl rfl (n := 8) rfl ?_
  exact k_iret S Y dX3_rangeLimit_8 (by decide) (by decide) rfl (⟨k, hk, rfl, hlm, rfl, rfl⟩)
set_option maxRecDepth 100000 in
set_option maxHeartbeats 4000000 in
theorem c_X3_setWeight {l : Launch} {g : zG} {μ : zM} {v : Int32} : zC l g yX3_setWeight cX3_setWeight 3 (some .int) ({ frames := 6, cells := 1, slots := 6, locals := 82 } : Room) 1 6 [.ref (za g 0), .int v] μ (zRc (1 ≤ v ∧ v ≤ 10) (some (.int (μ.1 0 1))) (zu μ 0 1 v)) (zXc (¬ (1 ≤ v ∧ v ≤ 10)) "java/lang/IllegalArgumentException" μ) := by
  refine zC_of (L0 := [some (.ref (za g 0)), some (.int v), none]) (plainFor_of_name (by decide)) (Nat.le_of_ble_eq_true rfl) rfl ?_
  intro x S Y hxl
  subst hxl
  refine k_iload1 S dX3_setWeight_0 (n := 1) rfl ?_
  refine k_iconst S dX3_setWeight_1 (v := 1) (by decide) (n := 2) rfl ?_
  refine k_icmp_lt S dX3_setWeight_2 (tgt := 11) (by decide) (n := 5) rfl (fun c1 => ?_) (fun c1 => ?_)
  ·
    exact k_throw (cls := "java/lang/IllegalArgumentException") (names := zEx) (i9 := 14) S Y rfl (by decide) (by decide) m_201 m_10 rfl at_IAE ng_IAE go_IAE dX3_setWeight_11 dX3_setWeight_14 dX3_setWeight_15 dX3_setWeight_17 dX3_setWeight_20 (by decide) (by decide) (by decide) (by decide) (by decide) (by decide) (⟨by first | exact fun q => absurd q.1 (Int32.not_le.mpr c1) | exact fun q => c2 q.2, rfl, rfl⟩)
  ·
    refine k_iload1 S dX3_setWeight_5 (n := 6) rfl ?_
    refine k_bipush S dX3_setWeight_6 (v := 10) (by decide) (n := 8) rfl ?_
    refine k_icmp_le S dX3_setWeight_8 (tgt := 21) (by decide) (n := 11) rfl (fun c2 => ?_) (fun c2 => ?_)
    ·
      refine k_aload0 S dX3_setWeight_21 (n := 22) rfl ?_
      refine k_geti (T := TX3) (j := 1) S dX3_setWeight_22 (zlt S (by decide)) (by decide) (ci := 3) rfl rfl (by decide) in_3 m_146 rfl rfl (n := 25) rfl ?_
      refine k_istore2 S dX3_setWeight_25 (by decide) rfl (n := 26) rfl ?_
      refine k_aload0 S dX3_setWeight_26 (n := 27) rfl ?_
      refine k_iload1 S dX3_setWeight_27 (n := 28) rfl ?_
      refine k_put (T := TX3) (j := 1) S dX3_setWeight_28 (zlt S (by decide)) (by decide) (ci := 3) rfl rfl (by decide) in_3 m_146 rfl rfl (ty0 := tyX3) tyX3_ok nmX3 rfl rfl rfl (n := 31) rfl ?_
      refine k_iload2 S dX3_setWeight_31 (n := 32) rfl ?_
      exact k_iret S Y dX3_setWeight_32 (by decide) (by decide) rfl (⟨⟨Int32.not_lt.mp c1, c2⟩, rfl, rfl⟩)
    ·
      exact k_throw (cls := "java/lang/IllegalArgumentException") (names := zEx) (i9 := 14) S Y rfl (by decide) (by decide) m_201 m_10 rfl at_IAE ng_IAE go_IAE dX3_setWeight_11 dX3_setWeight_14 dX3_setWeight_15 dX3_setWeight_17 dX3_setWeight_20 (by decide) (by decide) (by decide) (by decide) (by decide) (by decide) (⟨by first | exact fun q => absurd q.1 (Int32.not_le.mpr c1) | exact fun q => c2 q.2, rfl, rfl⟩)
theorem zi0 {a : Int32} (h : ¬ (if a = 0 then (1 : Int32) else 0) = 0) : a = 0 := Classical.byContradiction fun q => h (by rw [if_neg q])
theorem zi0n {a : Int32} (h : (if a = 0 then (1 : Int32) else 0) = 0) : ¬ a = 0 := fun q => absurd h (by rw [if_pos q]; decide)
set_option maxRecDepth 100000 in
set_option maxHeartbeats 4000000 in
theorem c_X3_checkPoint {l : Launch} {g : zG} {μ : zM} {v : Int32} {d : Nat} (hd : μ.1 0 6 = nI d) (hd60 : d ≤ 60) : zC l g yX3_checkPoint cX3_checkPoint 2 none ({ frames := 7, cells := 2, slots := 12, locals := 103 } : Room) 2 12 [.ref (za g 0), .int v] μ (fun r ν => ∃ i, i < d ∧ v = nI i ∧ μ.1 4 i = 0 ∧ r = none ∧ ν = μ) (fun E ν => ((¬ zIn v d ∧ E = "java/lang/IndexOutOfBoundsException") ∨ (∃ i, i < d ∧ v = nI i ∧ ¬ μ.1 4 i = 0 ∧ E = "java/lang/IllegalStateException")) ∧ ν = μ) := by
  refine zC_of (L0 := [some (.ref (za g 0)), some (.int v)]) (plainFor_of_name (by decide)) (Nat.le_of_ble_eq_true rfl) rfl ?_
  intro x S Y hxl
  subst hxl
  refine k_aload0 S dX3_checkPoint_0 (n := 1) rfl ?_
  refine k_iload1 S dX3_checkPoint_1 (n := 2) rfl ?_
  refine k_callV (As := [.int v]) (rest := []) (p := 0) S (c_X3_checkSubgroup (d := d) hd hd60) mv_X3_checkSubgroup m_475 dX3_checkPoint_2 rfl rfl ⟨by decide, by decide⟩ (zlt S (by decide)) (by decide) (ci := 3) rfl rfl rfl (Nat.le_of_ble_eq_true rfl) ⟨by decide, by decide⟩ (n := 5) rfl (fun E9 ν9 h9 => k_out S Y (by decide) (by decide) (⟨Or.inl ⟨h9.1, h9.2.1⟩, h9.2.2⟩)) (fun v9 ν9 h9 => ?_)
  obtain ⟨⟨i, hi, e9⟩, e1, e2⟩ := h9
  subst e9
  rw [e1, e2]
  show zK x g ({ frames := 7, cells := 2, slots := 12, locals := 103 } : Room) 2 1 6 5 [some (.ref (za g 0)), some (.int (nI i))] [] μ
  refine k_aload0 S dX3_checkPoint_5 (n := 6) rfl ?_
  refine k_iload1 S dX3_checkPoint_6 (n := 7) rfl ?_
  refine k_callV (As := [.int (nI i)]) (rest := []) (p := 0) S (c_X3_isPoint hd hd60 hi) mv_X3_isPoint m_359 dX3_checkPoint_7 rfl rfl ⟨by decide, by decide⟩ (zlt S (by decide)) (by decide) (ci := 3) rfl rfl rfl (Nat.le_of_ble_eq_true rfl) ⟨by decide, by decide⟩ (n := 10) rfl (fun _ _ h => h.elim) (fun v9 ν9 h9 => ?_)
  rw [h9.1, h9.2]
  show zK x g ({ frames := 7, cells := 2, slots := 12, locals := 103 } : Room) 2 1 6 10 [some (.ref (za g 0)), some (.int (nI i))] [.int ((if μ.1 4 i = 0 then (1 : Int32) else 0))] μ
  refine k_if_ne S dX3_checkPoint_10 (tgt := 24) (by decide) (n := 13) rfl (fun c1 => ?_) (fun c1 => ?_)
  ·
    exact k_vret S Y dX3_checkPoint_24 (by decide) (by decide) (⟨i, hi, rfl, zi0 c1, rfl, rfl⟩)
  ·
    exact k_throwW (cls := "java/lang/IllegalStateException") (names := zEx) (i9 := 15) S Y rfl (by decide) (by decide) m_269 m_11 rfl at_ISE ng_ISE go_ISE dX3_checkPoint_13 dX3_checkPoint_16 dX3_checkPoint_17 dX3_checkPoint_20 dX3_checkPoint_23 (by decide) (by decide) (by decide) (by decide) (by decide) (by decide) (⟨Or.inr ⟨i, hi, rfl, zi0n c1, rfl⟩, rfl⟩)
set_option maxRecDepth 100000 in
set_option maxHeartbeats 4000000 in
theorem c_X3_isWide {l : Launch} {g : zG} {μ : zM} {v : Int32} {d c : Nat} {ph : Nat → Nat} (hd : μ.1 0 6 = nI d) (hd60 : d ≤ 60) (hph : ∀ i, i < d → μ.1 5 i = nI (ph i) ∧ ph i < c) (hc : μ.1 0 12 = nI c) (hc10 : c ≤ 10) : zC l g yX3_isWide cX3_isWide 2 (some .boolean) ({ frames := 7, cells := 1, slots := 6, locals := 103 } : Room) 1 6 [.ref (za g 0), .int v] μ (fun r ν => ∃ i, i < d ∧ v = nI i ∧ r = some (.int (if μ.1 4 i = 0 then (if 1000 * μ.1 2 i ≤ μ.1 (11 + ph i) 8 then 0 else 1) else 0)) ∧ ν = μ) (zXc (¬ zIn v d) "java/lang/IndexOutOfBoundsException" μ) := by
  refine zC_of (L0 := [some (.ref (za g 0)), some (.int v)]) (plainFor_of_name (by decide)) (Nat.le_of_ble_eq_true rfl) rfl ?_
  intro x S Y hxl
  subst hxl
  refine k_aload0 S dX3_isWide_0 (n := 1) rfl ?_
  refine k_iload1 S dX3_isWide_1 (n := 2) rfl ?_
  refine k_callV (As := [.int v]) (rest := []) (p := 0) S (c_X3_checkSubgroup (d := d) hd hd60) mv_X3_checkSubgroup m_475 dX3_isWide_2 rfl rfl ⟨by decide, by decide⟩ (zlt S (by decide)) (by decide) (ci := 3) rfl rfl rfl (Nat.le_of_ble_eq_true rfl) ⟨by decide, by decide⟩ (n := 5) rfl (fun E9 ν9 h9 => k_out S Y (by decide) (by decide) (h9)) (fun v9 ν9 h9 => ?_)
  obtain ⟨⟨i, hi, e9⟩, e1, e2⟩ := h9
  subst e9
  rw [e1, e2]
  show zK x g ({ frames := 7, cells := 1, slots := 6, locals := 103 } : Room) 2 1 6 5 [some (.ref (za g 0)), some (.int (nI i))] [] μ
  refine k_aload0 S dX3_isWide_5 (n := 6) rfl ?_
  refine k_iload1 S dX3_isWide_6 (n := 7) rfl ?_
  refine k_callV (As := [.int (nI i)]) (rest := []) (p := 0) S (c_X3_isPoint hd hd60 hi) mv_X3_isPoint m_359 dX3_isWide_7 rfl rfl ⟨by decide, by decide⟩ (zlt S (by decide)) (by decide) (ci := 3) rfl rfl rfl (Nat.le_of_ble_eq_true rfl) ⟨by decide, by decide⟩ (n := 10) rfl (fun _ _ h => h.elim) (fun v9 ν9 h9 => ?_)
  rw [h9.1, h9.2]
  show zK x g ({ frames := 7, cells := 1, slots := 6, locals := 103 } : Room) 2 1 6 10 [some (.ref (za g 0)), some (.int (nI i))] [.int ((if μ.1 4 i = 0 then (1 : Int32) else 0))] μ
  refine k_if_ne S dX3_isWide_10 (tgt := 15) (by decide) (n := 13) rfl (fun c1 => ?_) (fun c1 => ?_)
  ·
    refine k_sipush S dX3_isWide_15 (v := 1000) (by decide) (n := 18) rfl ?_
    refine k_aload0 S dX3_isWide_18 (n := 19) rfl ?_
    refine k_getr (r := 2) (T := TX3) (j := 8) S dX3_isWide_19 (zlt S (by decide)) (by decide) (ci := 3) rfl rfl (by decide) in_3 m_153 rfl rfl (n := 22) rfl ?_
    refine k_iload1 S dX3_isWide_22 (n := 23) rfl ?_
    refine k_iald S dX3_isWide_23 (j := i) (zlt S (by decide)) (by decide) rfl (show i < 60 by omega) (by decide) (n := 24) rfl ?_
    refine k_imul S dX3_isWide_24 (n := 25) rfl ?_
    refine k_aload0 S dX3_isWide_25 (n := 26) rfl ?_
    refine k_iload1 S dX3_isWide_26 (n := 27) rfl ?_
    refine k_callV (As := [.int (nI i)]) (rest := [.int (1000 * (μ.1 2 i))]) (p := 0) S (c_X3_phaseHolding (show i < 60 by omega) (hph i hi).1 hc (hph i hi).2 hc10) mv_X3_phaseHolding m_314 dX3_isWide_27 rfl rfl ⟨by decide, by decide⟩ (zlt S (by decide)) (by decide) (ci := 3) rfl rfl rfl (Nat.le_of_ble_eq_true rfl) ⟨by decide, by decide⟩ (n := 30) rfl (fun _ _ h => h.elim) (fun v9 ν9 h9 => ?_)
    rw [h9.1, h9.2]
    show zK x g ({ frames := 7, cells := 1, slots := 6, locals := 103 } : Room) 2 1 6 30 [some (.ref (za g 0)), some (.int (nI i))] [.ref (za g (11 + ph i)), .int (1000 * (μ.1 2 i))] μ
    refine k_geti (T := TX0) (j := 8) S dX3_isWide_30 (zlt S (by have := (hph i hi).2; omega)) (zki_ph (by have := (hph i hi).2; omega)) (ci := 0) rfl rfl (by decide) in_0 m_45 rfl rfl (n := 33) rfl ?_
    have hJ2 : zK x g ({ frames := 7, cells := 1, slots := 6, locals := 103 } : Room) 2 1 6 41 [some (.ref (za g 0)), some (.int (nI i))] [.int ((if (1000 * (μ.1 2 i)) ≤ (μ.1 (11 + ph i) 8) then (0 : Int32) else (1 : Int32)))] μ := by
      exact k_iret S Y dX3_isWide_41 (by decide) (by decide) (by repeat' (first | rfl | split)) (⟨i, hi, rfl, by rw [if_pos (zi0 c1)], rfl⟩)
    refine k_icmp_le S dX3_isWide_33 (tgt := 40) (by decide) (n := 36) rfl (fun c1 => ?_) (fun c1 => ?_)
    ·
      refine k_iconst S dX3_isWide_40 (v := 0) (by decide) (n := 41) rfl ?_
      rw [if_pos c1] at hJ2
      exact hJ2
    ·
      refine k_iconst S dX3_isWide_36 (v := 1) (by decide) (n := 37) rfl ?_
      refine k_goto S dX3_isWide_37 (tgt := 41) (by decide) ?_
      rw [if_neg c1] at hJ2
      exact hJ2
  ·
    refine k_iconst S dX3_isWide_13 (v := 0) (by decide) (n := 14) rfl ?_
    exact k_iret S Y dX3_isWide_14 (by decide) (by decide) rfl (⟨i, hi, rfl, by rw [if_neg (zi0n c1)], rfl⟩)
