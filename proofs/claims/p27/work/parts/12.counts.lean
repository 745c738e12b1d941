/-! RUNCOUNTS (place 7): its memory is 'zset μ 7 f' throughout; f the row of its 16 numbers -/

set_option maxRecDepth 100000 in
set_option maxHeartbeats 4000000 in
theorem c_X0_side {l : Launch} {g : zG} {k : Nat} {μ : zM} {a ce : Int32} (hk : k < 10) (hc : μ.1 (11 + k) 5 = ce) : zC l g yX0_sideOfCenter cX0_sideOfCenter 2 (some .int) ({ frames := 1, cells := 0, slots := 0, locals := 21 } : Room) 0 0 [.ref (za g (11 + k)), .int a] μ (zRv (some (.int (zdir ce a))) μ) zNX := by
  refine zC_of (L0 := [some (.ref (za g (11 + k))), some (.int a)]) (plainFor_of_name (by decide)) (Nat.le_of_ble_eq_true rfl) rfl ?_
  intro x S Y hxl
  subst hxl
  refine k_aload0 S dX0_sideOfCenter_0 (n := 1) rfl ?_
  refine k_getv (v := ce) (T := TX0) (j := 5) S dX0_sideOfCenter_1 (zlt S (by omega)) (zki_ph hk) (ci := 0) rfl rfl (by decide) in_0 m_38 rfl rfl hc (n := 4) rfl ?_
  refine k_iload1 S dX0_sideOfCenter_4 (n := 5) rfl ?_
  refine k_callSN (As := [.int ce, .int a]) (rest := []) (host := RX3) S (c_X3_direction) mv_X3_direction (by decide +kernel) dX0_sideOfCenter_5 rfl rfl ⟨by decide, by decide⟩ rfl rfl (Nat.le_of_ble_eq_true rfl) ⟨by decide, by decide⟩ (n := 8) rfl (fun _ _ h => h.elim) (fun v9 ν9 h9 => ?_)
  rw [h9.1, h9.2]
  show zK x g ({ frames := 1, cells := 0, slots := 0, locals := 21 } : Room) 2 0 0 8 [some (.ref (za g (11 + k))), some (.int a)] [.int (zdir ce a)] μ
  exact k_iret S Y dX0_sideOfCenter_8 (by decide) (by decide) rfl (⟨rfl, rfl⟩)
set_option maxRecDepth 100000 in
set_option maxHeartbeats 4000000 in
theorem c_X0_beyond {l : Launch} {g : zG} {k : Nat} {μ : zM} {a b ce w : Int32} (hk : k < 10) (hc : μ.1 (11 + k) 5 = ce) (hw : μ.1 (11 + k) 7 = w) : zC l g yX0_sideBeyond cX0_sideBeyond 3 (some .int) ({ frames := 0, cells := 0, slots := 0, locals := 0 } : Room) 0 0 [.ref (za g (11 + k)), .int a, .int b] μ (zRv (some (.int (zsb a ce w b))) μ) zNX := by
  refine zC_of (L0 := [some (.ref (za g (11 + k))), some (.int a), some (.int b)]) (plainFor_of_name (by decide)) (Nat.le_of_ble_eq_true rfl) rfl ?_
  intro x S Y hxl
  subst hxl
  refine k_iconst S dX0_sideBeyond_0 (v := 3) (by decide) (n := 1) rfl ?_
  refine k_iload1 S dX0_sideBeyond_1 (n := 2) rfl ?_
  refine k_aload0 S dX0_sideBeyond_2 (n := 3) rfl ?_
  refine k_getv (v := ce) (T := TX0) (j := 5) S dX0_sideBeyond_3 (zlt S (by omega)) (zki_ph hk) (ci := 0) rfl rfl (by decide) in_0 m_38 rfl rfl hc (n := 6) rfl ?_
  refine k_isub S dX0_sideBeyond_6 (n := 7) rfl ?_
  refine k_imul S dX0_sideBeyond_7 (n := 8) rfl ?_
  refine k_iload2 S dX0_sideBeyond_8 (n := 9) rfl ?_
  refine k_aload0 S dX0_sideBeyond_9 (n := 10) rfl ?_
  refine k_getv (v := w) (T := TX0) (j := 7) S dX0_sideBeyond_10 (zlt S (by omega)) (zki_ph hk) (ci := 0) rfl rfl (by decide) in_0 m_42 rfl rfl hw (n := 13) rfl ?_
  refine k_imul S dX0_sideBeyond_13 (n := 14) rfl ?_
  refine k_icmp_le S dX0_sideBeyond_14 (tgt := 19) (by decide) (n := 17) rfl (fun c1 => ?_) (fun c1 => ?_)
  ·
    refine k_iconst S dX0_sideBeyond_19 (v := 3) (by decide) (n := 20) rfl ?_
    refine k_aload0 S dX0_sideBeyond_20 (n := 21) rfl ?_
    refine k_getv (v := ce) (T := TX0) (j := 5) S dX0_sideBeyond_21 (zlt S (by omega)) (zki_ph hk) (ci := 0) rfl rfl (by decide) in_0 m_38 rfl rfl hc (n := 24) rfl ?_
    refine k_iload1 S dX0_sideBeyond_24 (n := 25) rfl ?_
    refine k_isub S dX0_sideBeyond_25 (n := 26) rfl ?_
    refine k_imul S dX0_sideBeyond_26 (n := 27) rfl ?_
    refine k_iload2 S dX0_sideBeyond_27 (n := 28) rfl ?_
    refine k_aload0 S dX0_sideBeyond_28 (n := 29) rfl ?_
    refine k_getv (v := w) (T := TX0) (j := 7) S dX0_sideBeyond_29 (zlt S (by omega)) (zki_ph hk) (ci := 0) rfl rfl (by decide) in_0 m_42 rfl rfl hw (n := 32) rfl ?_
    refine k_imul S dX0_sideBeyond_32 (n := 33) rfl ?_
    have hJ2 : zK x g ({ frames := 0, cells := 0, slots := 0, locals := 0 } : Room) 3 0 0 41 [some (.ref (za g (11 + k))), some (.int a), some (.int b)] [.int ((if (3 * (ce - a)) ≤ (b * w) then (0 : Int32) else (-1 : Int32)))] μ := by
      exact k_iret S Y dX0_sideBeyond_41 (by decide) (by decide) rfl (⟨by first | rw [zsb, if_neg c1] | rw [zsb, if_pos c1], rfl⟩)
    refine k_icmp_le S dX0_sideBeyond_33 (tgt := 40) (by decide) (n := 36) rfl (fun c1 => ?_) (fun c1 => ?_)
    ·
      refine k_iconst S dX0_sideBeyond_40 (v := 0) (by decide) (n := 41) rfl ?_
      rw [if_pos c1] at hJ2
      exact hJ2
    ·
      refine k_iconst S dX0_sideBeyond_36 (v := (-1)) (by decide) (n := 37) rfl ?_
      refine k_goto S dX0_sideBeyond_37 (tgt := 41) (by decide) ?_
      rw [if_neg c1] at hJ2
      exact hJ2
  ·
    refine k_iconst S dX0_sideBeyond_17 (v := 1) (by decide) (n := 18) rfl ?_
    exact k_iret S Y dX0_sideBeyond_18 (by decide) (by decide) rfl (⟨by first | rw [zsb, if_neg c1] | rw [zsb, if_pos c1], rfl⟩)
def r_X1_restart (f : Nat → Int32)  : Nat → Int32 := (upd (upd (upd (upd (upd (upd (upd (upd (upd (upd (upd (upd (upd (upd (upd (upd f 0 0) 1 0) 2 0) 3 0) 4 0) 5 0) 6 0) 7 0) 8 0) 12 0) 13 0) 14 0) 15 0) 9 0) 10 0) 11 0)
set_option maxRecDepth 100000 in
set_option maxHeartbeats 4000000 in
theorem c_X1_restart {l : Launch} {g : zG} {μ : zM} {f : Nat → Int32}  : zC l g yX1_restart cX1_restart 1 none ({ frames := 0, cells := 0, slots := 0, locals := 0 } : Room) 0 0 [.ref (za g 7)] (zset μ 7 f) (zRv none (zset μ 7 (r_X1_restart f ))) zNX := by
  refine zC_of (L0 := [some (.ref (za g 7))]) (plainFor_of_name (by decide)) (Nat.le_of_ble_eq_true rfl) rfl ?_
  intro x S Y hxl
  subst hxl
  refine k_aload0 S dX1_restart_0 (n := 1) rfl ?_
  refine k_iconst S dX1_restart_1 (v := 0) (by decide) (n := 2) rfl ?_
  refine k_putz (T := TX1) (j := 0) S dX1_restart_2 (zlt S (by decide)) (by decide) (ci := 1) rfl rfl (by decide) in_1 m_72 rfl rfl (ty0 := tyX1) tyX1_ok nmX1 rfl rfl rfl (n := 5) rfl ?_
  refine k_aload0 S dX1_restart_5 (n := 6) rfl ?_
  refine k_iconst S dX1_restart_6 (v := 0) (by decide) (n := 7) rfl ?_
  refine k_putz (T := TX1) (j := 1) S dX1_restart_7 (zlt S (by decide)) (by decide) (ci := 1) rfl rfl (by decide) in_1 m_73 rfl rfl (ty0 := tyX1) tyX1_ok nmX1 rfl rfl rfl (n := 10) rfl ?_
  refine k_aload0 S dX1_restart_10 (n := 11) rfl ?_
  refine k_iconst S dX1_restart_11 (v := 0) (by decide) (n := 12) rfl ?_
  refine k_putz (T := TX1) (j := 2) S dX1_restart_12 (zlt S (by decide)) (by decide) (ci := 1) rfl rfl (by decide) in_1 m_74 rfl rfl (ty0 := tyX1) tyX1_ok nmX1 rfl rfl rfl (n := 15) rfl ?_
  refine k_aload0 S dX1_restart_15 (n := 16) rfl ?_
  refine k_iconst S dX1_restart_16 (v := 0) (by decide) (n := 17) rfl ?_
  refine k_putz (T := TX1) (j := 3) S dX1_restart_17 (zlt S (by decide)) (by decide) (ci := 1) rfl rfl (by decide) in_1 m_75 rfl rfl (ty0 := tyX1) tyX1_ok nmX1 rfl rfl rfl (n := 20) rfl ?_
  refine k_aload0 S dX1_restart_20 (n := 21) rfl ?_
  refine k_iconst S dX1_restart_21 (v := 0) (by decide) (n := 22) rfl ?_
  refine k_putz (T := TX1) (j := 4) S dX1_restart_22 (zlt S (by decide)) (by decide) (ci := 1) rfl rfl (by decide) in_1 m_76 rfl rfl (ty0 := tyX1) tyX1_ok nmX1 rfl rfl rfl (n := 25) rfl ?_
  refine k_aload0 S dX1_restart_25 (n := 26) rfl ?_
  refine k_iconst S dX1_restart_26 (v := 0) (by decide) (n := 27) rfl ?_
  refine k_putz (T := TX1) (j := 5) S dX1_restart_27 (zlt S (by decide)) (by decide) (ci := 1) rfl rfl (by decide) in_1 m_77 rfl rfl (ty0 := tyX1) tyX1_ok nmX1 rfl rfl rfl (n := 30) rfl ?_
  refine k_aload0 S dX1_restart_30 (n := 31) rfl ?_
  refine k_iconst S dX1_restart_31 (v := 0) (by decide) (n := 32) rfl ?_
  refine k_putz (T := TX1) (j := 6) S dX1_restart_32 (zlt S (by decide)) (by decide) (ci := 1) rfl rfl (by decide) in_1 m_78 rfl rfl (ty0 := tyX1) tyX1_ok nmX1 rfl rfl rfl (n := 35) rfl ?_
  refine k_aload0 S dX1_restart_35 (n := 36) rfl ?_
  refine k_iconst S dX1_restart_36 (v := 0) (by decide) (n := 37) rfl ?_
  refine k_putz (T := TX1) (j := 7) S dX1_restart_37 (zlt S (by decide)) (by decide) (ci := 1) rfl rfl (by decide) in_1 m_79 rfl rfl (ty0 := tyX1) tyX1_ok nmX1 rfl rfl rfl (n := 40) rfl ?_
  refine k_aload0 S dX1_restart_40 (n := 41) rfl ?_
  refine k_iconst S dX1_restart_41 (v := 0) (by decide) (n := 42) rfl ?_
  refine k_putz (T := TX1) (j := 8) S dX1_restart_42 (zlt S (by decide)) (by decide) (ci := 1) rfl rfl (by decide) in_1 m_80 rfl rfl (ty0 := tyX1) tyX1_ok nmX1 rfl rfl rfl (n := 45) rfl ?_
  refine k_aload0 S dX1_restart_45 (n := 46) rfl ?_
  refine k_iconst S dX1_restart_46 (v := 0) (by decide) (n := 47) rfl ?_
  refine k_putz (T := TX1) (j := 12) S dX1_restart_47 (zlt S (by decide)) (by decide) (ci := 1) rfl rfl (by decide) in_1 m_84 rfl rfl (ty0 := tyX1) tyX1_ok nmX1 rfl rfl rfl (n := 50) rfl ?_
  refine k_aload0 S dX1_restart_50 (n := 51) rfl ?_
  refine k_iconst S dX1_restart_51 (v := 0) (by decide) (n := 52) rfl ?_
  refine k_putz (T := TX1) (j := 13) S dX1_restart_52 (zlt S (by decide)) (by decide) (ci := 1) rfl rfl (by decide) in_1 m_85 rfl rfl (ty0 := tyX1) tyX1_ok nmX1 rfl rfl rfl (n := 55) rfl ?_
  refine k_aload0 S dX1_restart_55 (n := 56) rfl ?_
  refine k_iconst S dX1_restart_56 (v := 0) (by decide) (n := 57) rfl ?_
  refine k_putz (T := TX1) (j := 14) S dX1_restart_57 (zlt S (by decide)) (by decide) (ci := 1) rfl rfl (by decide) in_1 m_86 rfl rfl (ty0 := tyX1) tyX1_ok nmX1 rfl rfl rfl (n := 60) rfl ?_
  refine k_aload0 S dX1_restart_60 (n := 61) rfl ?_
  refine k_iconst S dX1_restart_61 (v := 0) (by decide) (n := 62) rfl ?_
  refine k_putz (T := TX1) (j := 15) S dX1_restart_62 (zlt S (by decide)) (by decide) (ci := 1) rfl rfl (by decide) in_1 m_87 rfl rfl (ty0 := tyX1) tyX1_ok nmX1 rfl rfl rfl (n := 65) rfl ?_
  refine k_aload0 S dX1_restart_65 (n := 66) rfl ?_
  refine k_iconst S dX1_restart_66 (v := 0) (by decide) (n := 67) rfl ?_
  refine k_putz (T := TX1) (j := 9) S dX1_restart_67 (zlt S (by decide)) (by decide) (ci := 1) rfl rfl (by decide) in_1 m_81 rfl rfl (ty0 := tyX1) tyX1_ok nmX1 rfl rfl rfl (n := 70) rfl ?_
  refine k_aload0 S dX1_restart_70 (n := 71) rfl ?_
  refine k_iconst S dX1_restart_71 (v := 0) (by decide) (n := 72) rfl ?_
  refine k_putz (T := TX1) (j := 10) S dX1_restart_72 (zlt S (by decide)) (by decide) (ci := 1) rfl rfl (by decide) in_1 m_82 rfl rfl (ty0 := tyX1) tyX1_ok nmX1 rfl rfl rfl (n := 75) rfl ?_
  refine k_aload0 S dX1_restart_75 (n := 76) rfl ?_
  refine k_iconst S dX1_restart_76 (v := 0) (by decide) (n := 77) rfl ?_
  refine k_putz (T := TX1) (j := 11) S dX1_restart_77 (zlt S (by decide)) (by decide) (ci := 1) rfl rfl (by decide) in_1 m_83 rfl rfl (ty0 := tyX1) tyX1_ok nmX1 rfl rfl rfl (n := 80) rfl ?_
  exact k_vret S Y dX1_restart_80 (by decide) (by decide) (⟨rfl, rfl⟩)
def r_X1_takeCenterSide (f : Nat → Int32) (a : Int32) : Nat → Int32 := (upd (upd f 4 ((if a = 0 then (0 : Int32) else (if a = (f 3) then (f 4) + 1 else (1 : Int32))))) 3 a)
set_option maxRecDepth 100000 in
set_option maxHeartbeats 4000000 in
theorem c_X1_takeCenterSide {l : Launch} {g : zG} {μ : zM} {f : Nat → Int32} {a : Int32} : zC l g yX1_takeCenterSide cX1_takeCenterSide 2 none ({ frames := 0, cells := 0, slots := 0, locals := 0 } : Room) 0 0 [.ref (za g 7), .int a] (zset μ 7 f) (zRv none (zset μ 7 (r_X1_takeCenterSide f a))) zNX := by
  refine zC_of (L0 := [some (.ref (za g 7)), some (.int a)]) (plainFor_of_name (by decide)) (Nat.le_of_ble_eq_true rfl) rfl ?_
  intro x S Y hxl
  subst hxl
  refine k_aload0 S dX1_takeCenterSide_0 (n := 1) rfl ?_
  refine k_iload1 S dX1_takeCenterSide_1 (n := 2) rfl ?_
  have hJ2 : zK x g ({ frames := 0, cells := 0, slots := 0, locals := 0 } : Room) 2 0 0 27 [some (.ref (za g 7)), some (.int a)] [.int ((if a = 0 then (0 : Int32) else (if a = (f 3) then (f 4) + 1 else (1 : Int32)))), .ref (za g 7)] (zset μ 7 f) := by
    refine k_putz (T := TX1) (j := 4) S dX1_takeCenterSide_27 (zlt S (by decide)) (by decide) (ci := 1) rfl rfl (by decide) in_1 m_76 rfl rfl (ty0 := tyX1) tyX1_ok nmX1 rfl rfl rfl (n := 30) rfl ?_
    refine k_aload0 S dX1_takeCenterSide_30 (n := 31) rfl ?_
    refine k_iload1 S dX1_takeCenterSide_31 (n := 32) rfl ?_
    refine k_putz (T := TX1) (j := 3) S dX1_takeCenterSide_32 (zlt S (by decide)) (by decide) (ci := 1) rfl rfl (by decide) in_1 m_75 rfl rfl (ty0 := tyX1) tyX1_ok nmX1 rfl rfl rfl (n := 35) rfl ?_
    exact k_vret S Y dX1_takeCenterSide_35 (by decide) (by decide) (⟨rfl, rfl⟩)
  refine k_if_ne S dX1_takeCenterSide_2 (tgt := 9) (by decide) (n := 5) rfl (fun c1 => ?_) (fun c1 => ?_)
  ·
    refine k_iload1 S dX1_takeCenterSide_9 (n := 10) rfl ?_
    refine k_aload0 S dX1_takeCenterSide_10 (n := 11) rfl ?_
    refine k_getv (v := f 3) (T := TX1) (j := 3) S dX1_takeCenterSide_11 (zlt S (by decide)) (by decide) (ci := 1) rfl rfl (by decide) in_1 m_75 rfl rfl (by simp [zu, zset, upd]) (n := 14) rfl ?_
    refine k_icmp_ne S dX1_takeCenterSide_14 (tgt := 26) (by decide) (n := 17) rfl (fun c3 => ?_) (fun c3 => ?_)
    ·
      refine k_iconst S dX1_takeCenterSide_26 (v := 1) (by decide) (n := 27) rfl ?_
      rw [if_neg c1, if_neg c3] at hJ2
      exact hJ2
    ·
      refine k_aload0 S dX1_takeCenterSide_17 (n := 18) rfl ?_
      refine k_getv (v := f 4) (T := TX1) (j := 4) S dX1_takeCenterSide_18 (zlt S (by decide)) (by decide) (ci := 1) rfl rfl (by decide) in_1 m_76 rfl rfl (by simp [zu, zset, upd]) (n := 21) rfl ?_
      refine k_iconst S dX1_takeCenterSide_21 (v := 1) (by decide) (n := 22) rfl ?_
      refine k_iadd S dX1_takeCenterSide_22 (n := 23) rfl ?_
      refine k_goto S dX1_takeCenterSide_23 (tgt := 27) (by decide) ?_
      rw [if_neg c1, if_pos c3] at hJ2
      exact hJ2
  ·
    refine k_iconst S dX1_takeCenterSide_5 (v := 0) (by decide) (n := 6) rfl ?_
    refine k_goto S dX1_takeCenterSide_6 (tgt := 27) (by decide) ?_
    rw [if_pos c1] at hJ2
    exact hJ2
def r_X1_takeDirection (f : Nat → Int32) (a : Int32) : Nat → Int32 := (if a = 0 then (upd (upd (upd f 5 1) 6 1) 2 a) else (upd (upd (upd f 5 ((if a = (f 2) then (f 5) + 1 else (2 : Int32)))) 6 ((if a = (-(f 2)) then (f 6) + 1 else (2 : Int32)))) 2 a))
set_option maxRecDepth 100000 in
set_option maxHeartbeats 4000000 in
theorem c_X1_takeDirection {l : Launch} {g : zG} {μ : zM} {f : Nat → Int32} {a : Int32} : zC l g yX1_takeDirection cX1_takeDirection 2 none ({ frames := 0, cells := 0, slots := 0, locals := 0 } : Room) 0 0 [.ref (za g 7), .int a] (zset μ 7 f) (zRv none (zset μ 7 (r_X1_takeDirection f a))) zNX := by
  refine zC_of (L0 := [some (.ref (za g 7)), some (.int a)]) (plainFor_of_name (by decide)) (Nat.le_of_ble_eq_true rfl) rfl ?_
  intro x S Y hxl
  subst hxl
  refine k_iload1 S dX1_takeDirection_0 (n := 1) rfl ?_
  refine k_if_ne S dX1_takeDirection_1 (tgt := 17) (by decide) (n := 4) rfl (fun c1 => ?_) (fun c1 => ?_)
  ·
    refine k_aload0 S dX1_takeDirection_17 (n := 18) rfl ?_
    refine k_iload1 S dX1_takeDirection_18 (n := 19) rfl ?_
    refine k_aload0 S dX1_takeDirection_19 (n := 20) rfl ?_
    refine k_getv (v := f 2) (T := TX1) (j := 2) S dX1_takeDirection_20 (zlt S (by decide)) (by decide) (ci := 1) rfl rfl (by decide) in_1 m_74 rfl rfl (by simp [zu, zset, upd]) (n := 23) rfl ?_
    have hJ3 : zK x g ({ frames := 0, cells := 0, slots := 0, locals := 0 } : Room) 2 0 0 36 [some (.ref (za g 7)), some (.int a)] [.int ((if a = (f 2) then (f 5) + 1 else (2 : Int32))), .ref (za g 7)] (zset μ 7 f) := by
      refine k_putz (T := TX1) (j := 5) S dX1_takeDirection_36 (zlt S (by decide)) (by decide) (ci := 1) rfl rfl (by decide) in_1 m_77 rfl rfl (ty0 := tyX1) tyX1_ok nmX1 rfl rfl rfl (n := 39) rfl ?_
      refine k_aload0 S dX1_takeDirection_39 (n := 40) rfl ?_
      refine k_iload1 S dX1_takeDirection_40 (n := 41) rfl ?_
      refine k_aload0 S dX1_takeDirection_41 (n := 42) rfl ?_
      refine k_getv (v := f 2) (T := TX1) (j := 2) S dX1_takeDirection_42 (zlt S (by decide)) (by decide) (ci := 1) rfl rfl (by decide) in_1 m_74 rfl rfl (by simp [zu, zset, upd]) (n := 45) rfl ?_
      refine k_ineg S dX1_takeDirection_45 (n := 46) rfl ?_
      have hJ5 : zK x g ({ frames := 0, cells := 0, slots := 0, locals := 0 } : Room) 2 0 0 59 [some (.ref (za g 7)), some (.int a)] [.int ((if a = (-(f 2)) then (f 6) + 1 else (2 : Int32))), .ref (za g 7)] (zset μ 7 (upd f 5 ((if a = (f 2) then (f 5) + 1 else (2 : Int32))))) := by
        refine k_putz (T := TX1) (j := 6) S dX1_takeDirection_59 (zlt S (by decide)) (by decide) (ci := 1) rfl rfl (by decide) in_1 m_78 rfl rfl (ty0 := tyX1) tyX1_ok nmX1 rfl rfl rfl (n := 62) rfl ?_
        refine k_aload0 S dX1_takeDirection_62 (n := 63) rfl ?_
        refine k_iload1 S dX1_takeDirection_63 (n := 64) rfl ?_
        refine k_putz (T := TX1) (j := 2) S dX1_takeDirection_64 (zlt S (by decide)) (by decide) (ci := 1) rfl rfl (by decide) in_1 m_74 rfl rfl (ty0 := tyX1) tyX1_ok nmX1 rfl rfl rfl (n := 67) rfl ?_
        exact k_vret S Y dX1_takeDirection_67 (by decide) (by decide) (⟨rfl, by rw [r_X1_takeDirection, if_neg c1]⟩)
      refine k_icmp_ne S dX1_takeDirection_46 (tgt := 58) (by decide) (n := 49) rfl (fun c4 => ?_) (fun c4 => ?_)
      ·
        refine k_iconst S dX1_takeDirection_58 (v := 2) (by decide) (n := 59) rfl ?_
        rw [if_neg c4] at hJ5
        exact hJ5
      ·
        refine k_aload0 S dX1_takeDirection_49 (n := 50) rfl ?_
        refine k_getv (v := f 6) (T := TX1) (j := 6) S dX1_takeDirection_50 (zlt S (by decide)) (by decide) (ci := 1) rfl rfl (by decide) in_1 m_78 rfl rfl (by simp [zu, zset, upd]) (n := 53) rfl ?_
        refine k_iconst S dX1_takeDirection_53 (v := 1) (by decide) (n := 54) rfl ?_
        refine k_iadd S dX1_takeDirection_54 (n := 55) rfl ?_
        refine k_goto S dX1_takeDirection_55 (tgt := 59) (by decide) ?_
        rw [if_pos c4] at hJ5
        exact hJ5
    refine k_icmp_ne S dX1_takeDirection_23 (tgt := 35) (by decide) (n := 26) rfl (fun c2 => ?_) (fun c2 => ?_)
    ·
      refine k_iconst S dX1_takeDirection_35 (v := 2) (by decide) (n := 36) rfl ?_
      rw [if_neg c2] at hJ3
      exact hJ3
    ·
      refine k_aload0 S dX1_takeDirection_26 (n := 27) rfl ?_
      refine k_getv (v := f 5) (T := TX1) (j := 5) S dX1_takeDirection_27 (zlt S (by decide)) (by decide) (ci := 1) rfl rfl (by decide) in_1 m_77 rfl rfl (by simp [zu, zset, upd]) (n := 30) rfl ?_
      refine k_iconst S dX1_takeDirection_30 (v := 1) (by decide) (n := 31) rfl ?_
      refine k_iadd S dX1_takeDirection_31 (n := 32) rfl ?_
      refine k_goto S dX1_takeDirection_32 (tgt := 36) (by decide) ?_
      rw [if_pos c2] at hJ3
      exact hJ3
  ·
    refine k_aload0 S dX1_takeDirection_4 (n := 5) rfl ?_
    refine k_iconst S dX1_takeDirection_5 (v := 1) (by decide) (n := 6) rfl ?_
    refine k_putz (T := TX1) (j := 5) S dX1_takeDirection_6 (zlt S (by decide)) (by decide) (ci := 1) rfl rfl (by decide) in_1 m_77 rfl rfl (ty0 := tyX1) tyX1_ok nmX1 rfl rfl rfl (n := 9) rfl ?_
    refine k_aload0 S dX1_takeDirection_9 (n := 10) rfl ?_
    refine k_iconst S dX1_takeDirection_10 (v := 1) (by decide) (n := 11) rfl ?_
    refine k_putz (T := TX1) (j := 6) S dX1_takeDirection_11 (zlt S (by decide)) (by decide) (ci := 1) rfl rfl (by decide) in_1 m_78 rfl rfl (ty0 := tyX1) tyX1_ok nmX1 rfl rfl rfl (n := 14) rfl ?_
    refine k_goto S dX1_takeDirection_14 (tgt := 62) (by decide) ?_
    refine k_aload0 S dX1_takeDirection_62 (n := 63) rfl ?_
    refine k_iload1 S dX1_takeDirection_63 (n := 64) rfl ?_
    refine k_putz (T := TX1) (j := 2) S dX1_takeDirection_64 (zlt S (by decide)) (by decide) (ci := 1) rfl rfl (by decide) in_1 m_74 rfl rfl (ty0 := tyX1) tyX1_ok nmX1 rfl rfl rfl (n := 67) rfl ?_
    exact k_vret S Y dX1_takeDirection_67 (by decide) (by decide) (⟨rfl, by rw [r_X1_takeDirection, if_pos c1]⟩)
def r_X1_takeSidesBeyond (f : Nat → Int32) (m : Int32) (ce : Int32) (w : Int32) : Nat → Int32 := (upd (upd (upd (upd (upd (upd (upd (upd (upd f 9 (zsb m ce w 3)) 10 (zsb m ce w 2)) 11 (zsb m ce w 1)) 12 (zpk (f 12) (if ((if (zsb m ce w 2) ≤ 0 then (0 : Int32) else (1 : Int32))) = 0 then 0 else 1) 3)) 13 (zpk (f 13) (if ((if 0 ≤ (zsb m ce w 2) then (0 : Int32) else (1 : Int32))) = 0 then 0 else 1) 3)) 14 (zpk (f 14) (if ((if (zsb m ce w 1) ≤ 0 then (0 : Int32) else (1 : Int32))) = 0 then 0 else 1) 5)) 15 (zpk (f 15) (if ((if 0 ≤ (zsb m ce w 1) then (0 : Int32) else (1 : Int32))) = 0 then 0 else 1) 5)) 7 ((if (zsb m ce w 1) = 0 then (f 7) + 1 else (0 : Int32)))) 8 ((if (zsb m ce w 1) = 0 then (0 : Int32) else (f 8) + 1)))
set_option maxRecDepth 100000 in
set_option maxHeartbeats 4000000 in
theorem c_X1_takeSidesBeyond {l : Launch} {g : zG} {μ : zM} {f : Nat → Int32} {m : Int32} {ce : Int32} {w : Int32} {k : Nat} (hk : k < 10) (hk7 : 11 + k ≠ 7) (hc : μ.1 (11 + k) 5 = ce) (hw : μ.1 (11 + k) 7 = w) : zC l g yX1_takeSidesBeyond cX1_takeSidesBeyond 3 none ({ frames := 1, cells := 0, slots := 0, locals := 22 } : Room) 0 0 [.ref (za g 7), .int m, .ref (za g (11 + k))] (zset μ 7 f) (zRv none (zset μ 7 (r_X1_takeSidesBeyond f m ce w))) zNX := by
  refine zC_of (L0 := [some (.ref (za g 7)), some (.int m), some (.ref (za g (11 + k)))]) (plainFor_of_name (by decide)) (Nat.le_of_ble_eq_true rfl) rfl ?_
  intro x S Y hxl
  subst hxl
  refine k_aload0 S dX1_takeSidesBeyond_0 (n := 1) rfl ?_
  refine k_aload2 S dX1_takeSidesBeyond_1 (n := 2) rfl ?_
  refine k_iload1 S dX1_takeSidesBeyond_2 (n := 3) rfl ?_
  refine k_iconst S dX1_takeSidesBeyond_3 (v := 3) (by decide) (n := 4) rfl ?_
  refine k_callV (As := [.int m, .int 3]) (rest := [.ref (za g 7)]) (p := 11 + k) S (c_X0_beyond (k := k) hk (ce := ce) (w := w) (by simp only [zset_at, zset_off _ _ hk7]; exact hc) (by simp only [zset_off _ _ hk7]; exact hw)) mv_X0_sideBeyond m_387 dX1_takeSidesBeyond_4 rfl rfl ⟨by decide, by decide⟩ (zlt S (by omega)) (zki_ph hk) (ci := 0) rfl rfl rfl (Nat.le_of_ble_eq_true rfl) ⟨by decide, by decide⟩ (n := 7) rfl (fun _ _ h => h.elim) (fun v9 ν9 h9 => ?_)
  rw [h9.1, h9.2]
  show zK x g ({ frames := 1, cells := 0, slots := 0, locals := 22 } : Room) 3 0 0 7 [some (.ref (za g 7)), some (.int m), some (.ref (za g (11 + k)))] [.int (zsb m ce w 3), .ref (za g 7)] (zset μ 7 f)
  refine k_putz (T := TX1) (j := 9) S dX1_takeSidesBeyond_7 (zlt S (by decide)) (by decide) (ci := 1) rfl rfl (by decide) in_1 m_81 rfl rfl (ty0 := tyX1) tyX1_ok nmX1 rfl rfl rfl (n := 10) rfl ?_
  refine k_aload0 S dX1_takeSidesBeyond_10 (n := 11) rfl ?_
  refine k_aload2 S dX1_takeSidesBeyond_11 (n := 12) rfl ?_
  refine k_iload1 S dX1_takeSidesBeyond_12 (n := 13) rfl ?_
  refine k_iconst S dX1_takeSidesBeyond_13 (v := 2) (by decide) (n := 14) rfl ?_
  refine k_callV (As := [.int m, .int 2]) (rest := [.ref (za g 7)]) (p := 11 + k) S (c_X0_beyond (k := k) hk (ce := ce) (w := w) (by simp only [zset_at, zset_off _ _ hk7]; exact hc) (by simp only [zset_off _ _ hk7]; exact hw)) mv_X0_sideBeyond m_387 dX1_takeSidesBeyond_14 rfl rfl ⟨by decide, by decide⟩ (zlt S (by omega)) (zki_ph hk) (ci := 0) rfl rfl rfl (Nat.le_of_ble_eq_true rfl) ⟨by decide, by decide⟩ (n := 17) rfl (fun _ _ h => h.elim) (fun v9 ν9 h9 => ?_)
  rw [h9.1, h9.2]
  show zK x g ({ frames := 1, cells := 0, slots := 0, locals := 22 } : Room) 3 0 0 17 [some (.ref (za g 7)), some (.int m), some (.ref (za g (11 + k)))] [.int (zsb m ce w 2), .ref (za g 7)] (zset μ 7 (upd f 9 (zsb m ce w 3)))
  refine k_putz (T := TX1) (j := 10) S dX1_takeSidesBeyond_17 (zlt S (by decide)) (by decide) (ci := 1) rfl rfl (by decide) in_1 m_82 rfl rfl (ty0 := tyX1) tyX1_ok nmX1 rfl rfl rfl (n := 20) rfl ?_
  refine k_aload0 S dX1_takeSidesBeyond_20 (n := 21) rfl ?_
  refine k_aload2 S dX1_takeSidesBeyond_21 (n := 22) rfl ?_
  refine k_iload1 S dX1_takeSidesBeyond_22 (n := 23) rfl ?_
  refine k_iconst S dX1_takeSidesBeyond_23 (v := 1) (by decide) (n := 24) rfl ?_
  refine k_callV (As := [.int m, .int 1]) (rest := [.ref (za g 7)]) (p := 11 + k) S (c_X0_beyond (k := k) hk (ce := ce) (w := w) (by simp only [zset_at, zset_off _ _ hk7]; exact hc) (by simp only [zset_off _ _ hk7]; exact hw)) mv_X0_sideBeyond m_387 dX1_takeSidesBeyond_24 rfl rfl ⟨by decide, by decide⟩ (zlt S (by omega)) (zki_ph hk) (ci := 0) rfl rfl rfl (Nat.le_of_ble_eq_true rfl) ⟨by decide, by decide⟩ (n := 27) rfl (fun _ _ h => h.elim) (fun v9 ν9 h9 => ?_)
  rw [h9.1, h9.2]
  show zK x g ({ frames := 1, cells := 0, slots := 0, locals := 22 } : Room) 3 0 0 27 [some (.ref (za g 7)), some (.int m), some (.ref (za g (11 + k)))] [.int (zsb m ce w 1), .ref (za g 7)] (zset μ 7 (upd (upd f 9 (zsb m ce w 3)) 10 (zsb m ce w 2)))
  refine k_putz (T := TX1) (j := 11) S dX1_takeSidesBeyond_27 (zlt S (by decide)) (by decide) (ci := 1) rfl rfl (by decide) in_1 m_83 rfl rfl (ty0 := tyX1) tyX1_ok nmX1 rfl rfl rfl (n := 30) rfl ?_
  refine k_aload0 S dX1_takeSidesBeyond_30 (n := 31) rfl ?_
  refine k_aload0 S dX1_takeSidesBeyond_31 (n := 32) rfl ?_
  refine k_getv (v := f 12) (T := TX1) (j := 12) S dX1_takeSidesBeyond_32 (zlt S (by decide)) (by decide) (ci := 1) rfl rfl (by decide) in_1 m_84 rfl rfl (by simp [zu, zset, upd]) (n := 35) rfl ?_
  refine k_aload0 S dX1_takeSidesBeyond_35 (n := 36) rfl ?_
  refine k_getv (v := zsb m ce w 2) (T := TX1) (j := 10) S dX1_takeSidesBeyond_36 (zlt S (by decide)) (by decide) (ci := 1) rfl rfl (by decide) in_1 m_82 rfl rfl (by simp [zu, zset, upd]) (n := 39) rfl ?_
  have hJ2 : zK x g ({ frames := 1, cells := 0, slots := 0, locals := 22 } : Room) 3 0 0 47 [some (.ref (za g 7)), some (.int m), some (.ref (za g (11 + k)))] [.int ((if (zsb m ce w 2) ≤ 0 then (0 : Int32) else (1 : Int32))), .int (f 12), .ref (za g 7)] (zset μ 7 (upd (upd (upd f 9 (zsb m ce w 3)) 10 (zsb m ce w 2)) 11 (zsb m ce w 1))) := by
    refine k_iconst S dX1_takeSidesBeyond_47 (v := 3) (by decide) (n := 48) rfl ?_
    refine k_callS (As := [.int (f 12), .int ((if (zsb m ce w 2) ≤ 0 then (0 : Int32) else (1 : Int32))), .int 3]) (rest := [.ref (za g 7)]) S (c_X1_pushed) mv_X1_pushed m_391 dX1_takeSidesBeyond_48 rfl rfl ⟨by decide, by decide⟩ rfl rfl (Nat.le_of_ble_eq_true rfl) ⟨by decide, by decide⟩ (n := 51) rfl (fun _ _ h => h.elim) (fun v9 ν9 h9 => ?_)
    rw [h9.1, h9.2]
    show zK x g ({ frames := 1, cells := 0, slots := 0, locals := 22 } : Room) 3 0 0 51 [some (.ref (za g 7)), some (.int m), some (.ref (za g (11 + k)))] [.int (zpk (f 12) (if ((if (zsb m ce w 2) ≤ 0 then (0 : Int32) else (1 : Int32))) = 0 then 0 else 1) 3), .ref (za g 7)] (zset μ 7 (upd (upd (upd f 9 (zsb m ce w 3)) 10 (zsb m ce w 2)) 11 (zsb m ce w 1)))
    refine k_putz (T := TX1) (j := 12) S dX1_takeSidesBeyond_51 (zlt S (by decide)) (by decide) (ci := 1) rfl rfl (by decide) in_1 m_84 rfl rfl (ty0 := tyX1) tyX1_ok nmX1 rfl rfl rfl (n := 54) rfl ?_
    refine k_aload0 S dX1_takeSidesBeyond_54 (n := 55) rfl ?_
    refine k_aload0 S dX1_takeSidesBeyond_55 (n := 56) rfl ?_
    refine k_getv (v := f 13) (T := TX1) (j := 13) S dX1_takeSidesBeyond_56 (zlt S (by decide)) (by decide) (ci := 1) rfl rfl (by decide) in_1 m_85 rfl rfl (by simp [zu, zset, upd]) (n := 59) rfl ?_
    refine k_aload0 S dX1_takeSidesBeyond_59 (n := 60) rfl ?_
    refine k_getv (v := zsb m ce w 2) (T := TX1) (j := 10) S dX1_takeSidesBeyond_60 (zlt S (by decide)) (by decide) (ci := 1) rfl rfl (by decide) in_1 m_82 rfl rfl (by simp [zu, zset, upd]) (n := 63) rfl ?_
    have hJ4 : zK x g ({ frames := 1, cells := 0, slots := 0, locals := 22 } : Room) 3 0 0 71 [some (.ref (za g 7)), some (.int m), some (.ref (za g (11 + k)))] [.int ((if 0 ≤ (zsb m ce w 2) then (0 : Int32) else (1 : Int32))), .int (f 13), .ref (za g 7)] (zset μ 7 (upd (upd (upd (upd f 9 (zsb m ce w 3)) 10 (zsb m ce w 2)) 11 (zsb m ce w 1)) 12 (zpk (f 12) (if ((if (zsb m ce w 2) ≤ 0 then (0 : Int32) else (1 : Int32))) = 0 then 0 else 1) 3))) := by
      refine k_iconst S dX1_takeSidesBeyond_71 (v := 3) (by decide) (n := 72) rfl ?_
      refine k_callS (As := [.int (f 13), .int ((if 0 ≤ (zsb m ce w 2) then (0 : Int32) else (1 : Int32))), .int 3]) (rest := [.ref (za g 7)]) S (c_X1_pushed) mv_X1_pushed m_391 dX1_takeSidesBeyond_72 rfl rfl ⟨by decide, by decide⟩ rfl rfl (Nat.le_of_ble_eq_true rfl) ⟨by decide, by decide⟩ (n := 75) rfl (fun _ _ h => h.elim) (fun v9 ν9 h9 => ?_)
      rw [h9.1, h9.2]
      show zK x g ({ frames := 1, cells := 0, slots := 0, locals := 22 } : Room) 3 0 0 75 [some (.ref (za g 7)), some (.int m), some (.ref (za g (11 + k)))] [.int (zpk (f 13) (if ((if 0 ≤ (zsb m ce w 2) then (0 : Int32) else (1 : Int32))) = 0 then 0 else 1) 3), .ref (za g 7)] (zset μ 7 (upd (upd (upd (upd f 9 (zsb m ce w 3)) 10 (zsb m ce w 2)) 11 (zsb m ce w 1)) 12 (zpk (f 12) (if ((if (zsb m ce w 2) ≤ 0 then (0 : Int32) else (1 : Int32))) = 0 then 0 else 1) 3)))
      refine k_putz (T := TX1) (j := 13) S dX1_takeSidesBeyond_75 (zlt S (by decide)) (by decide) (ci := 1) rfl rfl (by decide) in_1 m_85 rfl rfl (ty0 := tyX1) tyX1_ok nmX1 rfl rfl rfl (n := 78) rfl ?_
      refine k_aload0 S dX1_takeSidesBeyond_78 (n := 79) rfl ?_
      refine k_aload0 S dX1_takeSidesBeyond_79 (n := 80) rfl ?_
      refine k_getv (v := f 14) (T := TX1) (j := 14) S dX1_takeSidesBeyond_80 (zlt S (by decide)) (by decide) (ci := 1) rfl rfl (by decide) in_1 m_86 rfl rfl (by simp [zu, zset, upd]) (n := 83) rfl ?_
      refine k_aload0 S dX1_takeSidesBeyond_83 (n := 84) rfl ?_
      refine k_getv (v := zsb m ce w 1) (T := TX1) (j := 11) S dX1_takeSidesBeyond_84 (zlt S (by decide)) (by decide) (ci := 1) rfl rfl (by decide) in_1 m_83 rfl rfl (by simp [zu, zset, upd]) (n := 87) rfl ?_
      have hJ6 : zK x g ({ frames := 1, cells := 0, slots := 0, locals := 22 } : Room) 3 0 0 95 [some (.ref (za g 7)), some (.int m), some (.ref (za g (11 + k)))] [.int ((if (zsb m ce w 1) ≤ 0 then (0 : Int32) else (1 : Int32))), .int (f 14), .ref (za g 7)] (zset μ 7 (upd (upd (upd (upd (upd f 9 (zsb m ce w 3)) 10 (zsb m ce w 2)) 11 (zsb m ce w 1)) 12 (zpk (f 12) (if ((if (zsb m ce w 2) ≤ 0 then (0 : Int32) else (1 : Int32))) = 0 then 0 else 1) 3)) 13 (zpk (f 13) (if ((if 0 ≤ (zsb m ce w 2) then (0 : Int32) else (1 : Int32))) = 0 then 0 else 1) 3))) := by
        refine k_iconst S dX1_takeSidesBeyond_95 (v := 5) (by decide) (n := 96) rfl ?_
        refine k_callS (As := [.int (f 14), .int ((if (zsb m ce w 1) ≤ 0 then (0 : Int32) else (1 : Int32))), .int 5]) (rest := [.ref (za g 7)]) S (c_X1_pushed) mv_X1_pushed m_391 dX1_takeSidesBeyond_96 rfl rfl ⟨by decide, by decide⟩ rfl rfl (Nat.le_of_ble_eq_true rfl) ⟨by decide, by decide⟩ (n := 99) rfl (fun _ _ h => h.elim) (fun v9 ν9 h9 => ?_)
        rw [h9.1, h9.2]
        show zK x g ({ frames := 1, cells := 0, slots := 0, locals := 22 } : Room) 3 0 0 99 [some (.ref (za g 7)), some (.int m), some (.ref (za g (11 + k)))] [.int (zpk (f 14) (if ((if (zsb m ce w 1) ≤ 0 then (0 : Int32) else (1 : Int32))) = 0 then 0 else 1) 5), .ref (za g 7)] (zset μ 7 (upd (upd (upd (upd (upd f 9 (zsb m ce w 3)) 10 (zsb m ce w 2)) 11 (zsb m ce w 1)) 12 (zpk (f 12) (if ((if (zsb m ce w 2) ≤ 0 then (0 : Int32) else (1 : Int32))) = 0 then 0 else 1) 3)) 13 (zpk (f 13) (if ((if 0 ≤ (zsb m ce w 2) then (0 : Int32) else (1 : Int32))) = 0 then 0 else 1) 3)))
        refine k_putz (T := TX1) (j := 14) S dX1_takeSidesBeyond_99 (zlt S (by decide)) (by decide) (ci := 1) rfl rfl (by decide) in_1 m_86 rfl rfl (ty0 := tyX1) tyX1_ok nmX1 rfl rfl rfl (n := 102) rfl ?_
        refine k_aload0 S dX1_takeSidesBeyond_102 (n := 103) rfl ?_
        refine k_aload0 S dX1_takeSidesBeyond_103 (n := 104) rfl ?_
        refine k_getv (v := f 15) (T := TX1) (j := 15) S dX1_takeSidesBeyond_104 (zlt S (by decide)) (by decide) (ci := 1) rfl rfl (by decide) in_1 m_87 rfl rfl (by simp [zu, zset, upd]) (n := 107) rfl ?_
        refine k_aload0 S dX1_takeSidesBeyond_107 (n := 108) rfl ?_
        refine k_getv (v := zsb m ce w 1) (T := TX1) (j := 11) S dX1_takeSidesBeyond_108 (zlt S (by decide)) (by decide) (ci := 1) rfl rfl (by decide) in_1 m_83 rfl rfl (by simp [zu, zset, upd]) (n := 111) rfl ?_
        have hJ8 : zK x g ({ frames := 1, cells := 0, slots := 0, locals := 22 } : Room) 3 0 0 119 [some (.ref (za g 7)), some (.int m), some (.ref (za g (11 + k)))] [.int ((if 0 ≤ (zsb m ce w 1) then (0 : Int32) else (1 : Int32))), .int (f 15), .ref (za g 7)] (zset μ 7 (upd (upd (upd (upd (upd (upd f 9 (zsb m ce w 3)) 10 (zsb m ce w 2)) 11 (zsb m ce w 1)) 12 (zpk (f 12) (if ((if (zsb m ce w 2) ≤ 0 then (0 : Int32) else (1 : Int32))) = 0 then 0 else 1) 3)) 13 (zpk (f 13) (if ((if 0 ≤ (zsb m ce w 2) then (0 : Int32) else (1 : Int32))) = 0 then 0 else 1) 3)) 14 (zpk (f 14) (if ((if (zsb m ce w 1) ≤ 0 then (0 : Int32) else (1 : Int32))) = 0 then 0 else 1) 5))) := by
          refine k_iconst S dX1_takeSidesBeyond_119 (v := 5) (by decide) (n := 120) rfl ?_
          refine k_callS (As := [.int (f 15), .int ((if 0 ≤ (zsb m ce w 1) then (0 : Int32) else (1 : Int32))), .int 5]) (rest := [.ref (za g 7)]) S (c_X1_pushed) mv_X1_pushed m_391 dX1_takeSidesBeyond_120 rfl rfl ⟨by decide, by decide⟩ rfl rfl (Nat.le_of_ble_eq_true rfl) ⟨by decide, by decide⟩ (n := 123) rfl (fun _ _ h => h.elim) (fun v9 ν9 h9 => ?_)
          rw [h9.1, h9.2]
          show zK x g ({ frames := 1, cells := 0, slots := 0, locals := 22 } : Room) 3 0 0 123 [some (.ref (za g 7)), some (.int m), some (.ref (za g (11 + k)))] [.int (zpk (f 15) (if ((if 0 ≤ (zsb m ce w 1) then (0 : Int32) else (1 : Int32))) = 0 then 0 else 1) 5), .ref (za g 7)] (zset μ 7 (upd (upd (upd (upd (upd (upd f 9 (zsb m ce w 3)) 10 (zsb m ce w 2)) 11 (zsb m ce w 1)) 12 (zpk (f 12) (if ((if (zsb m ce w 2) ≤ 0 then (0 : Int32) else (1 : Int32))) = 0 then 0 else 1) 3)) 13 (zpk (f 13) (if ((if 0 ≤ (zsb m ce w 2) then (0 : Int32) else (1 : Int32))) = 0 then 0 else 1) 3)) 14 (zpk (f 14) (if ((if (zsb m ce w 1) ≤ 0 then (0 : Int32) else (1 : Int32))) = 0 then 0 else 1) 5)))
          refine k_putz (T := TX1) (j := 15) S dX1_takeSidesBeyond_123 (zlt S (by decide)) (by decide) (ci := 1) rfl rfl (by decide) in_1 m_87 rfl rfl (ty0 := tyX1) tyX1_ok nmX1 rfl rfl rfl (n := 126) rfl ?_
          refine k_aload0 S dX1_takeSidesBeyond_126 (n := 127) rfl ?_
          refine k_aload0 S dX1_takeSidesBeyond_127 (n := 128) rfl ?_
          refine k_getv (v := zsb m ce w 1) (T := TX1) (j := 11) S dX1_takeSidesBeyond_128 (zlt S (by decide)) (by decide) (ci := 1) rfl rfl (by decide) in_1 m_83 rfl rfl (by simp [zu, zset, upd]) (n := 131) rfl ?_
          have hJ10 : zK x g ({ frames := 1, cells := 0, slots := 0, locals := 22 } : Room) 3 0 0 144 [some (.ref (za g 7)), some (.int m), some (.ref (za g (11 + k)))] [.int ((if (zsb m ce w 1) = 0 then (f 7) + 1 else (0 : Int32))), .ref (za g 7)] (zset μ 7 (upd (upd (upd (upd (upd (upd (upd f 9 (zsb m ce w 3)) 10 (zsb m ce w 2)) 11 (zsb m ce w 1)) 12 (zpk (f 12) (if ((if (zsb m ce w 2) ≤ 0 then (0 : Int32) else (1 : Int32))) = 0 then 0 else 1) 3)) 13 (zpk (f 13) (if ((if 0 ≤ (zsb m ce w 2) then (0 : Int32) else (1 : Int32))) = 0 then 0 else 1) 3)) 14 (zpk (f 14) (if ((if (zsb m ce w 1) ≤ 0 then (0 : Int32) else (1 : Int32))) = 0 then 0 else 1) 5)) 15 (zpk (f 15) (if ((if 0 ≤ (zsb m ce w 1) then (0 : Int32) else (1 : Int32))) = 0 then 0 else 1) 5))) := by
            refine k_putz (T := TX1) (j := 7) S dX1_takeSidesBeyond_144 (zlt S (by decide)) (by decide) (ci := 1) rfl rfl (by decide) in_1 m_79 rfl rfl (ty0 := tyX1) tyX1_ok nmX1 rfl rfl rfl (n := 147) rfl ?_
            refine k_aload0 S dX1_takeSidesBeyond_147 (n := 148) rfl ?_
            refine k_aload0 S dX1_takeSidesBeyond_148 (n := 149) rfl ?_
            refine k_getv (v := zsb m ce w 1) (T := TX1) (j := 11) S dX1_takeSidesBeyond_149 (zlt S (by decide)) (by decide) (ci := 1) rfl rfl (by decide) in_1 m_83 rfl rfl (by simp [zu, zset, upd]) (n := 152) rfl ?_
            have hJ12 : zK x g ({ frames := 1, cells := 0, slots := 0, locals := 22 } : Room) 3 0 0 165 [some (.ref (za g 7)), some (.int m), some (.ref (za g (11 + k)))] [.int ((if (zsb m ce w 1) = 0 then (0 : Int32) else (f 8) + 1)), .ref (za g 7)] (zset μ 7 (upd (upd (upd (upd (upd (upd (upd (upd f 9 (zsb m ce w 3)) 10 (zsb m ce w 2)) 11 (zsb m ce w 1)) 12 (zpk (f 12) (if ((if (zsb m ce w 2) ≤ 0 then (0 : Int32) else (1 : Int32))) = 0 then 0 else 1) 3)) 13 (zpk (f 13) (if ((if 0 ≤ (zsb m ce w 2) then (0 : Int32) else (1 : Int32))) = 0 then 0 else 1) 3)) 14 (zpk (f 14) (if ((if (zsb m ce w 1) ≤ 0 then (0 : Int32) else (1 : Int32))) = 0 then 0 else 1) 5)) 15 (zpk (f 15) (if ((if 0 ≤ (zsb m ce w 1) then (0 : Int32) else (1 : Int32))) = 0 then 0 else 1) 5)) 7 ((if (zsb m ce w 1) = 0 then (f 7) + 1 else (0 : Int32))))) := by
              refine k_putz (T := TX1) (j := 8) S dX1_takeSidesBeyond_165 (zlt S (by decide)) (by decide) (ci := 1) rfl rfl (by decide) in_1 m_80 rfl rfl (ty0 := tyX1) tyX1_ok nmX1 rfl rfl rfl (n := 168) rfl ?_
              exact k_vret S Y dX1_takeSidesBeyond_168 (by decide) (by decide) (⟨rfl, rfl⟩)
            refine k_if_eq S dX1_takeSidesBeyond_152 (tgt := 164) (by decide) (n := 155) rfl (fun c11 => ?_) (fun c11 => ?_)
            ·
              refine k_iconst S dX1_takeSidesBeyond_164 (v := 0) (by decide) (n := 165) rfl ?_
              rw [if_pos c11] at hJ12
              exact hJ12
            ·
              refine k_aload0 S dX1_takeSidesBeyond_155 (n := 156) rfl ?_
              refine k_getv (v := f 8) (T := TX1) (j := 8) S dX1_takeSidesBeyond_156 (zlt S (by decide)) (by decide) (ci := 1) rfl rfl (by decide) in_1 m_80 rfl rfl (by simp [zu, zset, upd]) (n := 159) rfl ?_
              refine k_iconst S dX1_takeSidesBeyond_159 (v := 1) (by decide) (n := 160) rfl ?_
              refine k_iadd S dX1_takeSidesBeyond_160 (n := 161) rfl ?_
              refine k_goto S dX1_takeSidesBeyond_161 (tgt := 165) (by decide) ?_
              rw [if_neg c11] at hJ12
              exact hJ12
          refine k_if_ne S dX1_takeSidesBeyond_131 (tgt := 143) (by decide) (n := 134) rfl (fun c9 => ?_) (fun c9 => ?_)
          ·
            refine k_iconst S dX1_takeSidesBeyond_143 (v := 0) (by decide) (n := 144) rfl ?_
            rw [if_neg c9] at hJ10
            exact hJ10
          ·
            refine k_aload0 S dX1_takeSidesBeyond_134 (n := 135) rfl ?_
            refine k_getv (v := f 7) (T := TX1) (j := 7) S dX1_takeSidesBeyond_135 (zlt S (by decide)) (by decide) (ci := 1) rfl rfl (by decide) in_1 m_79 rfl rfl (by simp [zu, zset, upd]) (n := 138) rfl ?_
            refine k_iconst S dX1_takeSidesBeyond_138 (v := 1) (by decide) (n := 139) rfl ?_
            refine k_iadd S dX1_takeSidesBeyond_139 (n := 140) rfl ?_
            refine k_goto S dX1_takeSidesBeyond_140 (tgt := 144) (by decide) ?_
            rw [if_pos c9] at hJ10
            exact hJ10
        refine k_if_ge S dX1_takeSidesBeyond_111 (tgt := 118) (by decide) (n := 114) rfl (fun c7 => ?_) (fun c7 => ?_)
        ·
          refine k_iconst S dX1_takeSidesBeyond_118 (v := 0) (by decide) (n := 119) rfl ?_
          rw [if_pos c7] at hJ8
          exact hJ8
        ·
          refine k_iconst S dX1_takeSidesBeyond_114 (v := 1) (by decide) (n := 115) rfl ?_
          refine k_goto S dX1_takeSidesBeyond_115 (tgt := 119) (by decide) ?_
          rw [if_neg c7] at hJ8
          exact hJ8
      refine k_if_le S dX1_takeSidesBeyond_87 (tgt := 94) (by decide) (n := 90) rfl (fun c5 => ?_) (fun c5 => ?_)
      ·
        refine k_iconst S dX1_takeSidesBeyond_94 (v := 0) (by decide) (n := 95) rfl ?_
        rw [if_pos c5] at hJ6
        exact hJ6
      ·
        refine k_iconst S dX1_takeSidesBeyond_90 (v := 1) (by decide) (n := 91) rfl ?_
        refine k_goto S dX1_takeSidesBeyond_91 (tgt := 95) (by decide) ?_
        rw [if_neg c5] at hJ6
        exact hJ6
    refine k_if_ge S dX1_takeSidesBeyond_63 (tgt := 70) (by decide) (n := 66) rfl (fun c3 => ?_) (fun c3 => ?_)
    ·
      refine k_iconst S dX1_takeSidesBeyond_70 (v := 0) (by decide) (n := 71) rfl ?_
      rw [if_pos c3] at hJ4
      exact hJ4
    ·
      refine k_iconst S dX1_takeSidesBeyond_66 (v := 1) (by decide) (n := 67) rfl ?_
      refine k_goto S dX1_takeSidesBeyond_67 (tgt := 71) (by decide) ?_
      rw [if_neg c3] at hJ4
      exact hJ4
  refine k_if_le S dX1_takeSidesBeyond_39 (tgt := 46) (by decide) (n := 42) rfl (fun c1 => ?_) (fun c1 => ?_)
  ·
    refine k_iconst S dX1_takeSidesBeyond_46 (v := 0) (by decide) (n := 47) rfl ?_
    rw [if_pos c1] at hJ2
    exact hJ2
  ·
    refine k_iconst S dX1_takeSidesBeyond_42 (v := 1) (by decide) (n := 43) rfl ?_
    refine k_goto S dX1_takeSidesBeyond_43 (tgt := 47) (by decide) ?_
    rw [if_neg c1] at hJ2
    exact hJ2
def r_X1_take (f : Nat → Int32) (m : Int32) (ce : Int32) (w : Int32) : Nat → Int32 := (upd (upd (r_X1_takeSidesBeyond (r_X1_takeDirection (r_X1_takeCenterSide f (zdir ce m)) ((if ((r_X1_takeCenterSide f (zdir ce m)) 0) = 0 then (0 : Int32) else zdir ((r_X1_takeCenterSide f (zdir ce m)) 1) m))) m ce w) 1 m) 0 (((r_X1_takeSidesBeyond (r_X1_takeDirection (r_X1_takeCenterSide f (zdir ce m)) ((if ((r_X1_takeCenterSide f (zdir ce m)) 0) = 0 then (0 : Int32) else zdir ((r_X1_takeCenterSide f (zdir ce m)) 1) m))) m ce w) 0) + 1))
set_option maxRecDepth 100000 in
set_option maxHeartbeats 4000000 in
theorem c_X1_take {l : Launch} {g : zG} {μ : zM} {f : Nat → Int32} {m : Int32} {ce : Int32} {w : Int32} {k : Nat} (hk : k < 10) (hk7 : 11 + k ≠ 7) (hc : μ.1 (11 + k) 5 = ce) (hw : μ.1 (11 + k) 7 = w) : zC l g yX1_take cX1_take 3 none ({ frames := 2, cells := 0, slots := 0, locals := 44 } : Room) 0 0 [.ref (za g 7), .int m, .ref (za g (11 + k))] (zset μ 7 f) (zRv none (zset μ 7 (r_X1_take f m ce w))) zNX := by
  refine zC_of (L0 := [some (.ref (za g 7)), some (.int m), some (.ref (za g (11 + k)))]) (plainFor_of_name (by decide)) (Nat.le_of_ble_eq_true rfl) rfl ?_
  intro x S Y hxl
  subst hxl
  refine k_aload0 S dX1_take_0 (n := 1) rfl ?_
  refine k_aload2 S dX1_take_1 (n := 2) rfl ?_
  refine k_iload1 S dX1_take_2 (n := 3) rfl ?_
  refine k_callV (As := [.int m]) (rest := [.ref (za g 7)]) (p := 11 + k) S (c_X0_side (k := k) hk (ce := ce) (by simp only [zset_off _ _ hk7]; exact hc)) mv_X0_sideOfCenter m_367 dX1_take_3 rfl rfl ⟨by decide, by decide⟩ (zlt S (by omega)) (zki_ph hk) (ci := 0) rfl rfl rfl (Nat.le_of_ble_eq_true rfl) ⟨by decide, by decide⟩ (n := 6) rfl (fun _ _ h => h.elim) (fun v9 ν9 h9 => ?_)
  rw [h9.1, h9.2]
  show zK x g ({ frames := 2, cells := 0, slots := 0, locals := 44 } : Room) 3 0 0 6 [some (.ref (za g 7)), some (.int m), some (.ref (za g (11 + k)))] [.int (zdir ce m), .ref (za g 7)] (zset μ 7 f)
  refine k_callV (As := [.int (zdir ce m)]) (rest := []) (p := 7) S (c_X1_takeCenterSide) mv_X1_takeCenterSide m_374 dX1_take_6 rfl rfl ⟨by decide, by decide⟩ (zlt S (by decide)) (by decide) (ci := 1) rfl rfl rfl (Nat.le_of_ble_eq_true rfl) ⟨by decide, by decide⟩ (n := 9) rfl (fun _ _ h => h.elim) (fun v9 ν9 h9 => ?_)
  rw [h9.1, h9.2]
  show zK x g ({ frames := 2, cells := 0, slots := 0, locals := 44 } : Room) 3 0 0 9 [some (.ref (za g 7)), some (.int m), some (.ref (za g (11 + k)))] [] (zset μ 7 (r_X1_takeCenterSide f (zdir ce m)))
  refine k_aload0 S dX1_take_9 (n := 10) rfl ?_
  refine k_aload0 S dX1_take_10 (n := 11) rfl ?_
  refine k_getv (v := (r_X1_takeCenterSide f (zdir ce m)) 0) (T := TX1) (j := 0) S dX1_take_11 (zlt S (by decide)) (by decide) (ci := 1) rfl rfl (by decide) in_1 m_72 rfl rfl (by simp [zu, zset, upd]) (n := 14) rfl ?_
  have hJ2 : zK x g ({ frames := 2, cells := 0, slots := 0, locals := 44 } : Room) 3 0 0 29 [some (.ref (za g 7)), some (.int m), some (.ref (za g (11 + k)))] [.int ((if ((r_X1_takeCenterSide f (zdir ce m)) 0) = 0 then (0 : Int32) else zdir ((r_X1_takeCenterSide f (zdir ce m)) 1) m)), .ref (za g 7)] (zset μ 7 (r_X1_takeCenterSide f (zdir ce m))) := by
    refine k_callV (As := [.int ((if ((r_X1_takeCenterSide f (zdir ce m)) 0) = 0 then (0 : Int32) else zdir ((r_X1_takeCenterSide f (zdir ce m)) 1) m))]) (rest := []) (p := 7) S (c_X1_takeDirection) mv_X1_takeDirection m_379 dX1_take_29 rfl rfl ⟨by decide, by decide⟩ (zlt S (by decide)) (by decide) (ci := 1) rfl rfl rfl (Nat.le_of_ble_eq_true rfl) ⟨by decide, by decide⟩ (n := 32) rfl (fun _ _ h => h.elim) (fun v9 ν9 h9 => ?_)
    rw [h9.1, h9.2]
    show zK x g ({ frames := 2, cells := 0, slots := 0, locals := 44 } : Room) 3 0 0 32 [some (.ref (za g 7)), some (.int m), some (.ref (za g (11 + k)))] [] (zset μ 7 (r_X1_takeDirection (r_X1_takeCenterSide f (zdir ce m)) ((if ((r_X1_takeCenterSide f (zdir ce m)) 0) = 0 then (0 : Int32) else zdir ((r_X1_takeCenterSide f (zdir ce m)) 1) m))))
    refine k_aload0 S dX1_take_32 (n := 33) rfl ?_
    refine k_iload1 S dX1_take_33 (n := 34) rfl ?_
    refine k_aload2 S dX1_take_34 (n := 35) rfl ?_
    refine k_callV (As := [.int m, .ref (za g (11 + k))]) (rest := []) (p := 7) S (c_X1_takeSidesBeyond hk hk7 hc hw) mv_X1_takeSidesBeyond m_383 dX1_take_35 rfl rfl ⟨by decide, by decide⟩ (zlt S (by decide)) (by decide) (ci := 1) rfl rfl rfl (Nat.le_of_ble_eq_true rfl) ⟨by decide, by decide⟩ (n := 38) rfl (fun _ _ h => h.elim) (fun v9 ν9 h9 => ?_)
    rw [h9.1, h9.2]
    show zK x g ({ frames := 2, cells := 0, slots := 0, locals := 44 } : Room) 3 0 0 38 [some (.ref (za g 7)), some (.int m), some (.ref (za g (11 + k)))] [] (zset μ 7 (r_X1_takeSidesBeyond (r_X1_takeDirection (r_X1_takeCenterSide f (zdir ce m)) ((if ((r_X1_takeCenterSide f (zdir ce m)) 0) = 0 then (0 : Int32) else zdir ((r_X1_takeCenterSide f (zdir ce m)) 1) m))) m ce w))
    refine k_aload0 S dX1_take_38 (n := 39) rfl ?_
    refine k_iload1 S dX1_take_39 (n := 40) rfl ?_
    refine k_putz (T := TX1) (j := 1) S dX1_take_40 (zlt S (by decide)) (by decide) (ci := 1) rfl rfl (by decide) in_1 m_73 rfl rfl (ty0 := tyX1) tyX1_ok nmX1 rfl rfl rfl (n := 43) rfl ?_
    refine k_aload0 S dX1_take_43 (n := 44) rfl ?_
    refine k_dup S dX1_take_44 rfl (n := 45) rfl ?_
    refine k_getv (v := (r_X1_takeSidesBeyond (r_X1_takeDirection (r_X1_takeCenterSide f (zdir ce m)) ((if ((r_X1_takeCenterSide f (zdir ce m)) 0) = 0 then (0 : Int32) else zdir ((r_X1_takeCenterSide f (zdir ce m)) 1) m))) m ce w) 0) (T := TX1) (j := 0) S dX1_take_45 (zlt S (by decide)) (by decide) (ci := 1) rfl rfl (by decide) in_1 m_72 rfl rfl (by simp [zu, zset, upd]) (n := 48) rfl ?_
    refine k_iconst S dX1_take_48 (v := 1) (by decide) (n := 49) rfl ?_
    refine k_iadd S dX1_take_49 (n := 50) rfl ?_
    refine k_putz (T := TX1) (j := 0) S dX1_take_50 (zlt S (by decide)) (by decide) (ci := 1) rfl rfl (by decide) in_1 m_72 rfl rfl (ty0 := tyX1) tyX1_ok nmX1 rfl rfl rfl (n := 53) rfl ?_
    exact k_vret S Y dX1_take_53 (by decide) (by decide) (⟨rfl, rfl⟩)
  refine k_if_ne S dX1_take_14 (tgt := 21) (by decide) (n := 17) rfl (fun c1 => ?_) (fun c1 => ?_)
  ·
    refine k_aload0 S dX1_take_21 (n := 22) rfl ?_
    refine k_getv (v := (r_X1_takeCenterSide f (zdir ce m)) 1) (T := TX1) (j := 1) S dX1_take_22 (zlt S (by decide)) (by decide) (ci := 1) rfl rfl (by decide) in_1 m_73 rfl rfl (by simp [zu, zset, upd]) (n := 25) rfl ?_
    refine k_iload1 S dX1_take_25 (n := 26) rfl ?_
    refine k_callSN (As := [.int ((r_X1_takeCenterSide f (zdir ce m)) 1), .int m]) (rest := [.ref (za g 7)]) (host := RX3) S (c_X3_direction) mv_X3_direction (by decide +kernel) dX1_take_26 rfl rfl ⟨by decide, by decide⟩ rfl rfl (Nat.le_of_ble_eq_true rfl) ⟨by decide, by decide⟩ (n := 29) rfl (fun _ _ h => h.elim) (fun v9 ν9 h9 => ?_)
    rw [h9.1, h9.2]
    show zK x g ({ frames := 2, cells := 0, slots := 0, locals := 44 } : Room) 3 0 0 29 [some (.ref (za g 7)), some (.int m), some (.ref (za g (11 + k)))] [.int (zdir ((r_X1_takeCenterSide f (zdir ce m)) 1) m), .ref (za g 7)] (zset μ 7 (r_X1_takeCenterSide f (zdir ce m)))
    rw [if_neg c1] at hJ2
    exact hJ2
  ·
    refine k_iconst S dX1_take_17 (v := 0) (by decide) (n := 18) rfl ?_
    refine k_goto S dX1_take_18 (tgt := 29) (by decide) ?_
    rw [if_pos c1] at hJ2
    exact hJ2
