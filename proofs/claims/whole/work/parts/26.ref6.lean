/-! THE REFERENCE'S RULES, one by one, and all -/
def zNm (r : Nat) : Nat := if r = 1 then 1 else if r = 2 then 9 else if r = 3 then 6 else if r = 4 then 14 else if r = 5 then 3 else if r = 6 then 5 else if r = 7 then 15 else 8
theorem znm_le (r : Nat) : zNm r ≤ 15 ∧ 1 ≤ zNm r := by
  unfold zNm
  repeat' split
  all_goals omega
theorem znm_v {r : Nat} (h1 : 1 ≤ r) (h8 : r ≤ 8) : v_X4_named (nI r) = nI (zNm r) := by
  match r, h1, h8 with
  | 1, _, _ => decide
  | 2, _, _ => decide
  | 3, _, _ => decide
  | 4, _, _ => decide
  | 5, _, _ => decide
  | 6, _, _ => decide
  | 7, _, _ => decide
  | 8, _, _ => decide
  | r + 9, _, h => exact absurd h (by omega)
/-- a rule's breaking by the last of m points, on a side -/
def zBv (y : Nat → Int32) (C W : Int32) (r : Nat) (sd : Int32) : Int32 :=
  if r = 1 then v_X4_isBeyond (y 0) C W 3 sd
  else if r = 2 then (if zab y C sd 9 = 9 then (1 : Int32) else (0 : Int32))
  else if r = 3 then (if zst y sd 5 = 5 then (1 : Int32) else (0 : Int32))
  else if r = 4 then zt2 y (zt1 y 13) 12
  else if r = 5 then (if v_X4_isBeyond (y 0) C W 2 sd = 0 then (0 : Int32) else if zbN y C W 2 sd 3 < 2 then (0 : Int32) else (1 : Int32))
  else if r = 6 then (if v_X4_isBeyond (y 0) C W 1 sd = 0 then (0 : Int32) else if zbN y C W 1 sd 5 < 4 then (0 : Int32) else (1 : Int32))
  else if r = 7 then (if zbN y C W 1 1 15 + zbN y C W 1 (-1) 15 = 0 then (1 : Int32) else (0 : Int32))
  else (if zbN y C W 1 1 8 + zbN y C W 1 (-1) 8 = 8 then (1 : Int32) else (0 : Int32))
def zBr (m : Nat) (y : Nat → Int32) (C W : Int32) (r : Nat) (sd : Int32) : Int32 := if m < zNm r then 0 else zBv y C W r sd
theorem zbool_bey (a C W th sd : Int32) : zbool (v_X4_isBeyond a C W th sd) := by
  unfold v_X4_isBeyond
  exact zbool_ite
set_option maxRecDepth 100000 in
set_option maxHeartbeats 4000000 in
theorem c_X4_breaks_lo1 {l : Launch} {g : zG} {μ : zM} {m : Nat} {y : Nat → Int32} {C W : Int32} {sd : Int32}  (hn : zn g = 32) (P : zPy μ m y C W) (hr : m < 1) : zC l g yX4_breaks cX4_breaks 3 (some .boolean) ({ frames := 3, cells := 0, slots := 0, locals := 69 } : Room) 0 0 [.ref (za g 21), .int 1, .int sd] μ (zRv (some (.int 0)) μ) zNX := by
  refine zC_of (L0 := [some (.ref (za g 21)), some (.int 1), some (.int sd)]) (plainFor_of_name (by decide)) (Nat.le_of_ble_eq_true rfl) rfl ?_
  intro x S Y hxl
  subst hxl
  refine k_aload0 S dX4_breaks_0 (n := 1) rfl ?_
  refine k_getv (v := nI m) (T := TX4) (j := 20) S dX4_breaks_1 (by rw [hn]; decide) (by decide) (ci := 4) rfl rfl (by decide) in_4 m_692 rfl rfl P.1 (n := 4) rfl ?_
  refine k_iload1 S dX4_breaks_4 (n := 5) rfl ?_
  refine k_callS (As := [.int 1]) (rest := [.int (nI m)]) S (c_X4_named) mv_X4_named m_860 dX4_breaks_5 rfl rfl ⟨by decide, by decide⟩ rfl rfl (Nat.le_of_ble_eq_true rfl) ⟨by decide, by decide⟩ (n := 8) rfl (fun _ _ h => h.elim) (fun v9 ν9 h9 => ?_)
  rw [h9.1, h9.2]
  show zK x g ({ frames := 3, cells := 0, slots := 0, locals := 69 } : Room) 3 0 0 8 [some (.ref (za g 21)), some (.int 1), some (.int sd)] [.int (v_X4_named 1), .int (nI m)] μ
  rw [show v_X4_named 1 = 1 from by decide]
  refine k_icmp_ge S dX4_breaks_8 (tgt := 13) (by decide) (n := 11) rfl (fun h9 => absurd h9 (nI_ge (a := m) (b := 1) hr (by decide))) (fun _ => ?_)
  refine k_iconst S dX4_breaks_11 (v := 0) (by decide) (n := 12) rfl ?_
  exact k_iret S Y dX4_breaks_12 (by decide) (by decide) rfl (⟨rfl, rfl⟩)
set_option maxRecDepth 100000 in
set_option maxHeartbeats 4000000 in
theorem c_X4_breaks_hi1 {l : Launch} {g : zG} {μ : zM} {m : Nat} {y : Nat → Int32} {C W : Int32} {sd : Int32}  (hn : zn g = 32) (P : zPy μ m y C W) (hr : 1 ≤ m) : zC l g yX4_breaks cX4_breaks 3 (some .boolean) ({ frames := 3, cells := 0, slots := 0, locals := 69 } : Room) 0 0 [.ref (za g 21), .int 1, .int sd] μ (zRv (some (.int (v_X4_isBeyond (y 0) C W 3 sd))) μ) zNX := by
  refine zC_of (L0 := [some (.ref (za g 21)), some (.int 1), some (.int sd)]) (plainFor_of_name (by decide)) (Nat.le_of_ble_eq_true rfl) rfl ?_
  intro x S Y hxl
  subst hxl
  refine k_aload0 S dX4_breaks_0 (n := 1) rfl ?_
  refine k_getv (v := nI m) (T := TX4) (j := 20) S dX4_breaks_1 (by rw [hn]; decide) (by decide) (ci := 4) rfl rfl (by decide) in_4 m_692 rfl rfl P.1 (n := 4) rfl ?_
  refine k_iload1 S dX4_breaks_4 (n := 5) rfl ?_
  refine k_callS (As := [.int 1]) (rest := [.int (nI m)]) S (c_X4_named) mv_X4_named m_860 dX4_breaks_5 rfl rfl ⟨by decide, by decide⟩ rfl rfl (Nat.le_of_ble_eq_true rfl) ⟨by decide, by decide⟩ (n := 8) rfl (fun _ _ h => h.elim) (fun v9 ν9 h9 => ?_)
  rw [h9.1, h9.2]
  show zK x g ({ frames := 3, cells := 0, slots := 0, locals := 69 } : Room) 3 0 0 8 [some (.ref (za g 21)), some (.int 1), some (.int sd)] [.int (v_X4_named 1), .int (nI m)] μ
  rw [show v_X4_named 1 = 1 from by decide]
  refine k_icmp_ge S dX4_breaks_8 (tgt := 13) (by decide) (n := 11) rfl (fun _ => ?_) (fun h9 => absurd (nI_le (a := 1) (b := m) hr (by have := P.2.1; omega)) h9)
  refine k_iload1 S dX4_breaks_13 (n := 14) rfl ?_
  refine k_iconst S dX4_breaks_14 (v := 1) (by decide) (n := 15) rfl ?_
  refine k_icmp_ne S dX4_breaks_15 (tgt := 26) (by decide) (n := 18) rfl (fun h9 => absurd (rfl) h9) (fun _ => ?_)
  refine k_aload0 S dX4_breaks_18 (n := 19) rfl ?_
  refine k_iconst S dX4_breaks_19 (v := 0) (by decide) (n := 20) rfl ?_
  refine k_iconst S dX4_breaks_20 (v := 3) (by decide) (n := 21) rfl ?_
  refine k_iload2 S dX4_breaks_21 (n := 22) rfl ?_
  refine k_callV (As := [.int 0, .int 3, .int sd]) (rest := []) (p := 21) S (c_X4_isBeyond (j := 0) (th := 3) (sd := sd) hn P (by omega)) mv_X4_isBeyond m_863 dX4_breaks_22 rfl rfl ⟨by decide, by decide⟩ (by rw [hn]; decide) (by decide) (ci := 4) rfl rfl rfl (Nat.le_of_ble_eq_true rfl) ⟨by decide, by decide⟩ (n := 25) rfl (fun _ _ h => h.elim) (fun v9 ν9 h9 => ?_)
  rw [h9.1, h9.2]
  show zK x g ({ frames := 3, cells := 0, slots := 0, locals := 69 } : Room) 3 0 0 25 [some (.ref (za g 21)), some (.int 1), some (.int sd)] [.int (v_X4_isBeyond (y 0) C W 3 sd)] μ
  exact k_iret S Y dX4_breaks_25 (by decide) (by decide) (by rcases zbool_bey (y 0) C W 3 sd with e | e <;> rw [e] <;> rfl) (⟨rfl, rfl⟩)
set_option maxRecDepth 100000 in
set_option maxHeartbeats 4000000 in
theorem c_X4_breaks_lo2 {l : Launch} {g : zG} {μ : zM} {m : Nat} {y : Nat → Int32} {C W : Int32} {sd : Int32}  (hn : zn g = 32) (P : zPy μ m y C W) (hr : m < 9) : zC l g yX4_breaks cX4_breaks 3 (some .boolean) ({ frames := 3, cells := 0, slots := 0, locals := 69 } : Room) 0 0 [.ref (za g 21), .int 2, .int sd] μ (zRv (some (.int 0)) μ) zNX := by
  refine zC_of (L0 := [some (.ref (za g 21)), some (.int 2), some (.int sd)]) (plainFor_of_name (by decide)) (Nat.le_of_ble_eq_true rfl) rfl ?_
  intro x S Y hxl
  subst hxl
  refine k_aload0 S dX4_breaks_0 (n := 1) rfl ?_
  refine k_getv (v := nI m) (T := TX4) (j := 20) S dX4_breaks_1 (by rw [hn]; decide) (by decide) (ci := 4) rfl rfl (by decide) in_4 m_692 rfl rfl P.1 (n := 4) rfl ?_
  refine k_iload1 S dX4_breaks_4 (n := 5) rfl ?_
  refine k_callS (As := [.int 2]) (rest := [.int (nI m)]) S (c_X4_named) mv_X4_named m_860 dX4_breaks_5 rfl rfl ⟨by decide, by decide⟩ rfl rfl (Nat.le_of_ble_eq_true rfl) ⟨by decide, by decide⟩ (n := 8) rfl (fun _ _ h => h.elim) (fun v9 ν9 h9 => ?_)
  rw [h9.1, h9.2]
  show zK x g ({ frames := 3, cells := 0, slots := 0, locals := 69 } : Room) 3 0 0 8 [some (.ref (za g 21)), some (.int 2), some (.int sd)] [.int (v_X4_named 2), .int (nI m)] μ
  rw [show v_X4_named 2 = 9 from by decide]
  refine k_icmp_ge S dX4_breaks_8 (tgt := 13) (by decide) (n := 11) rfl (fun h9 => absurd h9 (nI_ge (a := m) (b := 9) hr (by decide))) (fun _ => ?_)
  refine k_iconst S dX4_breaks_11 (v := 0) (by decide) (n := 12) rfl ?_
  exact k_iret S Y dX4_breaks_12 (by decide) (by decide) rfl (⟨rfl, rfl⟩)
set_option maxRecDepth 100000 in
set_option maxHeartbeats 4000000 in
theorem c_X4_breaks_hi2 {l : Launch} {g : zG} {μ : zM} {m : Nat} {y : Nat → Int32} {C W : Int32} {sd : Int32}  (hn : zn g = 32) (P : zPy μ m y C W) (hr : 9 ≤ m) : zC l g yX4_breaks cX4_breaks 3 (some .boolean) ({ frames := 3, cells := 0, slots := 0, locals := 69 } : Room) 0 0 [.ref (za g 21), .int 2, .int sd] μ (zRv (some (.int ((if zab y C sd 9 = 9 then (1 : Int32) else (0 : Int32))))) μ) zNX := by
  refine zC_of (L0 := [some (.ref (za g 21)), some (.int 2), some (.int sd)]) (plainFor_of_name (by decide)) (Nat.le_of_ble_eq_true rfl) rfl ?_
  intro x S Y hxl
  subst hxl
  refine k_aload0 S dX4_breaks_0 (n := 1) rfl ?_
  refine k_getv (v := nI m) (T := TX4) (j := 20) S dX4_breaks_1 (by rw [hn]; decide) (by decide) (ci := 4) rfl rfl (by decide) in_4 m_692 rfl rfl P.1 (n := 4) rfl ?_
  refine k_iload1 S dX4_breaks_4 (n := 5) rfl ?_
  refine k_callS (As := [.int 2]) (rest := [.int (nI m)]) S (c_X4_named) mv_X4_named m_860 dX4_breaks_5 rfl rfl ⟨by decide, by decide⟩ rfl rfl (Nat.le_of_ble_eq_true rfl) ⟨by decide, by decide⟩ (n := 8) rfl (fun _ _ h => h.elim) (fun v9 ν9 h9 => ?_)
  rw [h9.1, h9.2]
  show zK x g ({ frames := 3, cells := 0, slots := 0, locals := 69 } : Room) 3 0 0 8 [some (.ref (za g 21)), some (.int 2), some (.int sd)] [.int (v_X4_named 2), .int (nI m)] μ
  rw [show v_X4_named 2 = 9 from by decide]
  refine k_icmp_ge S dX4_breaks_8 (tgt := 13) (by decide) (n := 11) rfl (fun _ => ?_) (fun h9 => absurd (nI_le (a := 9) (b := m) hr (by have := P.2.1; omega)) h9)
  refine k_iload1 S dX4_breaks_13 (n := 14) rfl ?_
  refine k_iconst S dX4_breaks_14 (v := 1) (by decide) (n := 15) rfl ?_
  refine k_icmp_ne S dX4_breaks_15 (tgt := 26) (by decide) (n := 18) rfl (fun _ => ?_) (fun h9 => absurd h9 (by decide))
  refine k_iload1 S dX4_breaks_26 (n := 27) rfl ?_
  refine k_iconst S dX4_breaks_27 (v := 2) (by decide) (n := 28) rfl ?_
  refine k_icmp_ne S dX4_breaks_28 (tgt := 49) (by decide) (n := 31) rfl (fun h9 => absurd (rfl) h9) (fun _ => ?_)
  refine k_aload0 S dX4_breaks_31 (n := 32) rfl ?_
  refine k_bipush S dX4_breaks_32 (v := 9) (by decide) (n := 34) rfl ?_
  refine k_iload2 S dX4_breaks_34 (n := 35) rfl ?_
  refine k_callV (As := [.int 9, .int sd]) (rest := []) (p := 21) S (c_X4_aboveOf (N := 9) (sd := sd) hn P (by omega)) mv_X4_aboveOf m_872 dX4_breaks_35 rfl rfl ⟨by decide, by decide⟩ (by rw [hn]; decide) (by decide) (ci := 4) rfl rfl rfl (Nat.le_of_ble_eq_true rfl) ⟨by decide, by decide⟩ (n := 38) rfl (fun _ _ h => h.elim) (fun v9 ν9 h9 => ?_)
  rw [h9.1, h9.2]
  show zK x g ({ frames := 3, cells := 0, slots := 0, locals := 69 } : Room) 3 0 0 38 [some (.ref (za g 21)), some (.int 2), some (.int sd)] [.int (zab y C sd 9)] μ
  refine k_bipush S dX4_breaks_38 (v := 9) (by decide) (n := 40) rfl ?_
  have hJ2 : zK x g ({ frames := 3, cells := 0, slots := 0, locals := 69 } : Room) 3 0 0 48 [some (.ref (za g 21)), some (.int 2), some (.int sd)] [.int ((if (zab y C sd 9) = 9 then (1 : Int32) else (0 : Int32)))] μ := by
    exact k_iret S Y dX4_breaks_48 (by decide) (by decide) (by (repeat' split) <;> rfl) (⟨rfl, rfl⟩)
  refine k_icmp_ne S dX4_breaks_40 (tgt := 47) (by decide) (n := 43) rfl (fun c1 => ?_) (fun c1 => ?_)
  ·
    refine k_iconst S dX4_breaks_47 (v := 0) (by decide) (n := 48) rfl ?_
    rw [if_neg c1] at hJ2
    exact hJ2
  ·
    refine k_iconst S dX4_breaks_43 (v := 1) (by decide) (n := 44) rfl ?_
    refine k_goto S dX4_breaks_44 (tgt := 48) (by decide) ?_
    rw [if_pos c1] at hJ2
    exact hJ2
set_option maxRecDepth 100000 in
set_option maxHeartbeats 4000000 in
theorem c_X4_breaks_lo3 {l : Launch} {g : zG} {μ : zM} {m : Nat} {y : Nat → Int32} {C W : Int32} {sd : Int32}  (hn : zn g = 32) (P : zPy μ m y C W) (hr : m < 6) : zC l g yX4_breaks cX4_breaks 3 (some .boolean) ({ frames := 3, cells := 0, slots := 0, locals := 69 } : Room) 0 0 [.ref (za g 21), .int 3, .int sd] μ (zRv (some (.int 0)) μ) zNX := by
  refine zC_of (L0 := [some (.ref (za g 21)), some (.int 3), some (.int sd)]) (plainFor_of_name (by decide)) (Nat.le_of_ble_eq_true rfl) rfl ?_
  intro x S Y hxl
  subst hxl
  refine k_aload0 S dX4_breaks_0 (n := 1) rfl ?_
  refine k_getv (v := nI m) (T := TX4) (j := 20) S dX4_breaks_1 (by rw [hn]; decide) (by decide) (ci := 4) rfl rfl (by decide) in_4 m_692 rfl rfl P.1 (n := 4) rfl ?_
  refine k_iload1 S dX4_breaks_4 (n := 5) rfl ?_
  refine k_callS (As := [.int 3]) (rest := [.int (nI m)]) S (c_X4_named) mv_X4_named m_860 dX4_breaks_5 rfl rfl ⟨by decide, by decide⟩ rfl rfl (Nat.le_of_ble_eq_true rfl) ⟨by decide, by decide⟩ (n := 8) rfl (fun _ _ h => h.elim) (fun v9 ν9 h9 => ?_)
  rw [h9.1, h9.2]
  show zK x g ({ frames := 3, cells := 0, slots := 0, locals := 69 } : Room) 3 0 0 8 [some (.ref (za g 21)), some (.int 3), some (.int sd)] [.int (v_X4_named 3), .int (nI m)] μ
  rw [show v_X4_named 3 = 6 from by decide]
  refine k_icmp_ge S dX4_breaks_8 (tgt := 13) (by decide) (n := 11) rfl (fun h9 => absurd h9 (nI_ge (a := m) (b := 6) hr (by decide))) (fun _ => ?_)
  refine k_iconst S dX4_breaks_11 (v := 0) (by decide) (n := 12) rfl ?_
  exact k_iret S Y dX4_breaks_12 (by decide) (by decide) rfl (⟨rfl, rfl⟩)
set_option maxRecDepth 100000 in
set_option maxHeartbeats 4000000 in
theorem c_X4_breaks_hi3 {l : Launch} {g : zG} {μ : zM} {m : Nat} {y : Nat → Int32} {C W : Int32} {sd : Int32}  (hn : zn g = 32) (P : zPy μ m y C W) (hr : 6 ≤ m) : zC l g yX4_breaks cX4_breaks 3 (some .boolean) ({ frames := 3, cells := 0, slots := 0, locals := 69 } : Room) 0 0 [.ref (za g 21), .int 3, .int sd] μ (zRv (some (.int ((if zst y sd 5 = 5 then (1 : Int32) else (0 : Int32))))) μ) zNX := by
  refine zC_of (L0 := [some (.ref (za g 21)), some (.int 3), some (.int sd)]) (plainFor_of_name (by decide)) (Nat.le_of_ble_eq_true rfl) rfl ?_
  intro x S Y hxl
  subst hxl
  refine k_aload0 S dX4_breaks_0 (n := 1) rfl ?_
  refine k_getv (v := nI m) (T := TX4) (j := 20) S dX4_breaks_1 (by rw [hn]; decide) (by decide) (ci := 4) rfl rfl (by decide) in_4 m_692 rfl rfl P.1 (n := 4) rfl ?_
  refine k_iload1 S dX4_breaks_4 (n := 5) rfl ?_
  refine k_callS (As := [.int 3]) (rest := [.int (nI m)]) S (c_X4_named) mv_X4_named m_860 dX4_breaks_5 rfl rfl ⟨by decide, by decide⟩ rfl rfl (Nat.le_of_ble_eq_true rfl) ⟨by decide, by decide⟩ (n := 8) rfl (fun _ _ h => h.elim) (fun v9 ν9 h9 => ?_)
  rw [h9.1, h9.2]
  show zK x g ({ frames := 3, cells := 0, slots := 0, locals := 69 } : Room) 3 0 0 8 [some (.ref (za g 21)), some (.int 3), some (.int sd)] [.int (v_X4_named 3), .int (nI m)] μ
  rw [show v_X4_named 3 = 6 from by decide]
  refine k_icmp_ge S dX4_breaks_8 (tgt := 13) (by decide) (n := 11) rfl (fun _ => ?_) (fun h9 => absurd (nI_le (a := 6) (b := m) hr (by have := P.2.1; omega)) h9)
  refine k_iload1 S dX4_breaks_13 (n := 14) rfl ?_
  refine k_iconst S dX4_breaks_14 (v := 1) (by decide) (n := 15) rfl ?_
  refine k_icmp_ne S dX4_breaks_15 (tgt := 26) (by decide) (n := 18) rfl (fun _ => ?_) (fun h9 => absurd h9 (by decide))
  refine k_iload1 S dX4_breaks_26 (n := 27) rfl ?_
  refine k_iconst S dX4_breaks_27 (v := 2) (by decide) (n := 28) rfl ?_
  refine k_icmp_ne S dX4_breaks_28 (tgt := 49) (by decide) (n := 31) rfl (fun _ => ?_) (fun h9 => absurd h9 (by decide))
  refine k_iload1 S dX4_breaks_49 (n := 50) rfl ?_
  refine k_iconst S dX4_breaks_50 (v := 3) (by decide) (n := 51) rfl ?_
  refine k_icmp_ne S dX4_breaks_51 (tgt := 70) (by decide) (n := 54) rfl (fun h9 => absurd (rfl) h9) (fun _ => ?_)
  refine k_aload0 S dX4_breaks_54 (n := 55) rfl ?_
  refine k_iconst S dX4_breaks_55 (v := 5) (by decide) (n := 56) rfl ?_
  refine k_iload2 S dX4_breaks_56 (n := 57) rfl ?_
  refine k_callV (As := [.int 5, .int sd]) (rest := []) (p := 21) S (c_X4_steps (N := 5) (sd := sd) hn P (by omega)) mv_X4_steps m_876 dX4_breaks_57 rfl rfl ⟨by decide, by decide⟩ (by rw [hn]; decide) (by decide) (ci := 4) rfl rfl rfl (Nat.le_of_ble_eq_true rfl) ⟨by decide, by decide⟩ (n := 60) rfl (fun _ _ h => h.elim) (fun v9 ν9 h9 => ?_)
  rw [h9.1, h9.2]
  show zK x g ({ frames := 3, cells := 0, slots := 0, locals := 69 } : Room) 3 0 0 60 [some (.ref (za g 21)), some (.int 3), some (.int sd)] [.int (zst y sd 5)] μ
  refine k_iconst S dX4_breaks_60 (v := 5) (by decide) (n := 61) rfl ?_
  have hJ2 : zK x g ({ frames := 3, cells := 0, slots := 0, locals := 69 } : Room) 3 0 0 69 [some (.ref (za g 21)), some (.int 3), some (.int sd)] [.int ((if (zst y sd 5) = 5 then (1 : Int32) else (0 : Int32)))] μ := by
    exact k_iret S Y dX4_breaks_69 (by decide) (by decide) (by (repeat' split) <;> rfl) (⟨rfl, rfl⟩)
  refine k_icmp_ne S dX4_breaks_61 (tgt := 68) (by decide) (n := 64) rfl (fun c1 => ?_) (fun c1 => ?_)
  ·
    refine k_iconst S dX4_breaks_68 (v := 0) (by decide) (n := 69) rfl ?_
    rw [if_neg c1] at hJ2
    exact hJ2
  ·
    refine k_iconst S dX4_breaks_64 (v := 1) (by decide) (n := 65) rfl ?_
    refine k_goto S dX4_breaks_65 (tgt := 69) (by decide) ?_
    rw [if_pos c1] at hJ2
    exact hJ2
set_option maxRecDepth 100000 in
set_option maxHeartbeats 4000000 in
theorem c_X4_breaks_lo4 {l : Launch} {g : zG} {μ : zM} {m : Nat} {y : Nat → Int32} {C W : Int32} {sd : Int32}  (hn : zn g = 32) (P : zPy μ m y C W) (hr : m < 14) : zC l g yX4_breaks cX4_breaks 3 (some .boolean) ({ frames := 3, cells := 0, slots := 0, locals := 69 } : Room) 0 0 [.ref (za g 21), .int 4, .int sd] μ (zRv (some (.int 0)) μ) zNX := by
  refine zC_of (L0 := [some (.ref (za g 21)), some (.int 4), some (.int sd)]) (plainFor_of_name (by decide)) (Nat.le_of_ble_eq_true rfl) rfl ?_
  intro x S Y hxl
  subst hxl
  refine k_aload0 S dX4_breaks_0 (n := 1) rfl ?_
  refine k_getv (v := nI m) (T := TX4) (j := 20) S dX4_breaks_1 (by rw [hn]; decide) (by decide) (ci := 4) rfl rfl (by decide) in_4 m_692 rfl rfl P.1 (n := 4) rfl ?_
  refine k_iload1 S dX4_breaks_4 (n := 5) rfl ?_
  refine k_callS (As := [.int 4]) (rest := [.int (nI m)]) S (c_X4_named) mv_X4_named m_860 dX4_breaks_5 rfl rfl ⟨by decide, by decide⟩ rfl rfl (Nat.le_of_ble_eq_true rfl) ⟨by decide, by decide⟩ (n := 8) rfl (fun _ _ h => h.elim) (fun v9 ν9 h9 => ?_)
  rw [h9.1, h9.2]
  show zK x g ({ frames := 3, cells := 0, slots := 0, locals := 69 } : Room) 3 0 0 8 [some (.ref (za g 21)), some (.int 4), some (.int sd)] [.int (v_X4_named 4), .int (nI m)] μ
  rw [show v_X4_named 4 = 14 from by decide]
  refine k_icmp_ge S dX4_breaks_8 (tgt := 13) (by decide) (n := 11) rfl (fun h9 => absurd h9 (nI_ge (a := m) (b := 14) hr (by decide))) (fun _ => ?_)
  refine k_iconst S dX4_breaks_11 (v := 0) (by decide) (n := 12) rfl ?_
  exact k_iret S Y dX4_breaks_12 (by decide) (by decide) rfl (⟨rfl, rfl⟩)
set_option maxRecDepth 100000 in
set_option maxHeartbeats 4000000 in
theorem c_X4_breaks_hi4 {l : Launch} {g : zG} {μ : zM} {m : Nat} {y : Nat → Int32} {C W : Int32} {sd : Int32}  (hn : zn g = 32) (P : zPy μ m y C W) (hr : 14 ≤ m) : zC l g yX4_breaks cX4_breaks 3 (some .boolean) ({ frames := 3, cells := 0, slots := 0, locals := 69 } : Room) 0 0 [.ref (za g 21), .int 4, .int sd] μ (zRv (some (.int (zt2 y (zt1 y 13) 12))) μ) zNX := by
  refine zC_of (L0 := [some (.ref (za g 21)), some (.int 4), some (.int sd)]) (plainFor_of_name (by decide)) (Nat.le_of_ble_eq_true rfl) rfl ?_
  intro x S Y hxl
  subst hxl
  refine k_aload0 S dX4_breaks_0 (n := 1) rfl ?_
  refine k_getv (v := nI m) (T := TX4) (j := 20) S dX4_breaks_1 (by rw [hn]; decide) (by decide) (ci := 4) rfl rfl (by decide) in_4 m_692 rfl rfl P.1 (n := 4) rfl ?_
  refine k_iload1 S dX4_breaks_4 (n := 5) rfl ?_
  refine k_callS (As := [.int 4]) (rest := [.int (nI m)]) S (c_X4_named) mv_X4_named m_860 dX4_breaks_5 rfl rfl ⟨by decide, by decide⟩ rfl rfl (Nat.le_of_ble_eq_true rfl) ⟨by decide, by decide⟩ (n := 8) rfl (fun _ _ h => h.elim) (fun v9 ν9 h9 => ?_)
  rw [h9.1, h9.2]
  show zK x g ({ frames := 3, cells := 0, slots := 0, locals := 69 } : Room) 3 0 0 8 [some (.ref (za g 21)), some (.int 4), some (.int sd)] [.int (v_X4_named 4), .int (nI m)] μ
  rw [show v_X4_named 4 = 14 from by decide]
  refine k_icmp_ge S dX4_breaks_8 (tgt := 13) (by decide) (n := 11) rfl (fun _ => ?_) (fun h9 => absurd (nI_le (a := 14) (b := m) hr (by have := P.2.1; omega)) h9)
  refine k_iload1 S dX4_breaks_13 (n := 14) rfl ?_
  refine k_iconst S dX4_breaks_14 (v := 1) (by decide) (n := 15) rfl ?_
  refine k_icmp_ne S dX4_breaks_15 (tgt := 26) (by decide) (n := 18) rfl (fun _ => ?_) (fun h9 => absurd h9 (by decide))
  refine k_iload1 S dX4_breaks_26 (n := 27) rfl ?_
  refine k_iconst S dX4_breaks_27 (v := 2) (by decide) (n := 28) rfl ?_
  refine k_icmp_ne S dX4_breaks_28 (tgt := 49) (by decide) (n := 31) rfl (fun _ => ?_) (fun h9 => absurd h9 (by decide))
  refine k_iload1 S dX4_breaks_49 (n := 50) rfl ?_
  refine k_iconst S dX4_breaks_50 (v := 3) (by decide) (n := 51) rfl ?_
  refine k_icmp_ne S dX4_breaks_51 (tgt := 70) (by decide) (n := 54) rfl (fun _ => ?_) (fun h9 => absurd h9 (by decide))
  refine k_iload1 S dX4_breaks_70 (n := 71) rfl ?_
  refine k_iconst S dX4_breaks_71 (v := 4) (by decide) (n := 72) rfl ?_
  refine k_icmp_ne S dX4_breaks_72 (tgt := 80) (by decide) (n := 75) rfl (fun h9 => absurd (rfl) h9) (fun _ => ?_)
  refine k_aload0 S dX4_breaks_75 (n := 76) rfl ?_
  refine k_callV (As := []) (rest := []) (p := 21) S (c_X4_isTurning hn P (by omega)) mv_X4_isTurning m_880 dX4_breaks_76 rfl rfl ⟨by decide, by decide⟩ (by rw [hn]; decide) (by decide) (ci := 4) rfl rfl rfl (Nat.le_of_ble_eq_true rfl) ⟨by decide, by decide⟩ (n := 79) rfl (fun _ _ h => h.elim) (fun v9 ν9 h9 => ?_)
  rw [h9.1, h9.2]
  show zK x g ({ frames := 3, cells := 0, slots := 0, locals := 69 } : Room) 3 0 0 79 [some (.ref (za g 21)), some (.int 4), some (.int sd)] [.int (zt2 y (zt1 y 13) 12)] μ
  exact k_iret S Y dX4_breaks_79 (by decide) (by decide) (by rcases zt2_b y (zt1_b y 13) 12 with e | e <;> rw [e] <;> rfl) (⟨rfl, rfl⟩)
set_option maxRecDepth 100000 in
set_option maxHeartbeats 4000000 in
theorem c_X4_breaks_lo5 {l : Launch} {g : zG} {μ : zM} {m : Nat} {y : Nat → Int32} {C W : Int32} {sd : Int32}  (hn : zn g = 32) (P : zPy μ m y C W) (hr : m < 3) : zC l g yX4_breaks cX4_breaks 3 (some .boolean) ({ frames := 3, cells := 0, slots := 0, locals := 69 } : Room) 0 0 [.ref (za g 21), .int 5, .int sd] μ (zRv (some (.int 0)) μ) zNX := by
  refine zC_of (L0 := [some (.ref (za g 21)), some (.int 5), some (.int sd)]) (plainFor_of_name (by decide)) (Nat.le_of_ble_eq_true rfl) rfl ?_
  intro x S Y hxl
  subst hxl
  refine k_aload0 S dX4_breaks_0 (n := 1) rfl ?_
  refine k_getv (v := nI m) (T := TX4) (j := 20) S dX4_breaks_1 (by rw [hn]; decide) (by decide) (ci := 4) rfl rfl (by decide) in_4 m_692 rfl rfl P.1 (n := 4) rfl ?_
  refine k_iload1 S dX4_breaks_4 (n := 5) rfl ?_
  refine k_callS (As := [.int 5]) (rest := [.int (nI m)]) S (c_X4_named) mv_X4_named m_860 dX4_breaks_5 rfl rfl ⟨by decide, by decide⟩ rfl rfl (Nat.le_of_ble_eq_true rfl) ⟨by decide, by decide⟩ (n := 8) rfl (fun _ _ h => h.elim) (fun v9 ν9 h9 => ?_)
  rw [h9.1, h9.2]
  show zK x g ({ frames := 3, cells := 0, slots := 0, locals := 69 } : Room) 3 0 0 8 [some (.ref (za g 21)), some (.int 5), some (.int sd)] [.int (v_X4_named 5), .int (nI m)] μ
  rw [show v_X4_named 5 = 3 from by decide]
  refine k_icmp_ge S dX4_breaks_8 (tgt := 13) (by decide) (n := 11) rfl (fun h9 => absurd h9 (nI_ge (a := m) (b := 3) hr (by decide))) (fun _ => ?_)
  refine k_iconst S dX4_breaks_11 (v := 0) (by decide) (n := 12) rfl ?_
  exact k_iret S Y dX4_breaks_12 (by decide) (by decide) rfl (⟨rfl, rfl⟩)
set_option maxRecDepth 100000 in
set_option maxHeartbeats 4000000 in
theorem c_X4_breaks_hi5 {l : Launch} {g : zG} {μ : zM} {m : Nat} {y : Nat → Int32} {C W : Int32} {sd : Int32}  (hn : zn g = 32) (P : zPy μ m y C W) (hr : 3 ≤ m) : zC l g yX4_breaks cX4_breaks 3 (some .boolean) ({ frames := 3, cells := 0, slots := 0, locals := 69 } : Room) 0 0 [.ref (za g 21), .int 5, .int sd] μ (zRv (some (.int ((if v_X4_isBeyond (y 0) C W 2 sd = 0 then (0 : Int32) else if zbN y C W 2 sd 3 < 2 then (0 : Int32) else (1 : Int32))))) μ) zNX := by
  refine zC_of (L0 := [some (.ref (za g 21)), some (.int 5), some (.int sd)]) (plainFor_of_name (by decide)) (Nat.le_of_ble_eq_true rfl) rfl ?_
  intro x S Y hxl
  subst hxl
  refine k_aload0 S dX4_breaks_0 (n := 1) rfl ?_
  refine k_getv (v := nI m) (T := TX4) (j := 20) S dX4_breaks_1 (by rw [hn]; decide) (by decide) (ci := 4) rfl rfl (by decide) in_4 m_692 rfl rfl P.1 (n := 4) rfl ?_
  refine k_iload1 S dX4_breaks_4 (n := 5) rfl ?_
  refine k_callS (As := [.int 5]) (rest := [.int (nI m)]) S (c_X4_named) mv_X4_named m_860 dX4_breaks_5 rfl rfl ⟨by decide, by decide⟩ rfl rfl (Nat.le_of_ble_eq_true rfl) ⟨by decide, by decide⟩ (n := 8) rfl (fun _ _ h => h.elim) (fun v9 ν9 h9 => ?_)
  rw [h9.1, h9.2]
  show zK x g ({ frames := 3, cells := 0, slots := 0, locals := 69 } : Room) 3 0 0 8 [some (.ref (za g 21)), some (.int 5), some (.int sd)] [.int (v_X4_named 5), .int (nI m)] μ
  rw [show v_X4_named 5 = 3 from by decide]
  refine k_icmp_ge S dX4_breaks_8 (tgt := 13) (by decide) (n := 11) rfl (fun _ => ?_) (fun h9 => absurd (nI_le (a := 3) (b := m) hr (by have := P.2.1; omega)) h9)
  refine k_iload1 S dX4_breaks_13 (n := 14) rfl ?_
  refine k_iconst S dX4_breaks_14 (v := 1) (by decide) (n := 15) rfl ?_
  refine k_icmp_ne S dX4_breaks_15 (tgt := 26) (by decide) (n := 18) rfl (fun _ => ?_) (fun h9 => absurd h9 (by decide))
  refine k_iload1 S dX4_breaks_26 (n := 27) rfl ?_
  refine k_iconst S dX4_breaks_27 (v := 2) (by decide) (n := 28) rfl ?_
  refine k_icmp_ne S dX4_breaks_28 (tgt := 49) (by decide) (n := 31) rfl (fun _ => ?_) (fun h9 => absurd h9 (by decide))
  refine k_iload1 S dX4_breaks_49 (n := 50) rfl ?_
  refine k_iconst S dX4_breaks_50 (v := 3) (by decide) (n := 51) rfl ?_
  refine k_icmp_ne S dX4_breaks_51 (tgt := 70) (by decide) (n := 54) rfl (fun _ => ?_) (fun h9 => absurd h9 (by decide))
  refine k_iload1 S dX4_breaks_70 (n := 71) rfl ?_
  refine k_iconst S dX4_breaks_71 (v := 4) (by decide) (n := 72) rfl ?_
  refine k_icmp_ne S dX4_breaks_72 (tgt := 80) (by decide) (n := 75) rfl (fun _ => ?_) (fun h9 => absurd h9 (by decide))
  refine k_iload1 S dX4_breaks_80 (n := 81) rfl ?_
  refine k_iconst S dX4_breaks_81 (v := 5) (by decide) (n := 82) rfl ?_
  refine k_icmp_ne S dX4_breaks_82 (tgt := 112) (by decide) (n := 85) rfl (fun h9 => absurd (rfl) h9) (fun _ => ?_)
  refine k_aload0 S dX4_breaks_85 (n := 86) rfl ?_
  refine k_iconst S dX4_breaks_86 (v := 0) (by decide) (n := 87) rfl ?_
  refine k_iconst S dX4_breaks_87 (v := 2) (by decide) (n := 88) rfl ?_
  refine k_iload2 S dX4_breaks_88 (n := 89) rfl ?_
  refine k_callV (As := [.int 0, .int 2, .int sd]) (rest := []) (p := 21) S (c_X4_isBeyond (j := 0) (th := 2) (sd := sd) hn P (by omega)) mv_X4_isBeyond m_863 dX4_breaks_89 rfl rfl ⟨by decide, by decide⟩ (by rw [hn]; decide) (by decide) (ci := 4) rfl rfl rfl (Nat.le_of_ble_eq_true rfl) ⟨by decide, by decide⟩ (n := 92) rfl (fun _ _ h => h.elim) (fun v9 ν9 h9 => ?_)
  rw [h9.1, h9.2]
  show zK x g ({ frames := 3, cells := 0, slots := 0, locals := 69 } : Room) 3 0 0 92 [some (.ref (za g 21)), some (.int 5), some (.int sd)] [.int (v_X4_isBeyond (y 0) C W 2 sd)] μ
  have hJ2 : zK x g ({ frames := 3, cells := 0, slots := 0, locals := 69 } : Room) 3 0 0 111 [some (.ref (za g 21)), some (.int 5), some (.int sd)] [.int ((if (v_X4_isBeyond (y 0) C W 2 sd) = 0 then (0 : Int32) else (if (zbN y C W 2 sd 3) < 2 then (0 : Int32) else (1 : Int32))))] μ := by
    exact k_iret S Y dX4_breaks_111 (by decide) (by decide) (by (repeat' split) <;> rfl) (⟨rfl, rfl⟩)
  refine k_if_eq S dX4_breaks_92 (tgt := 110) (by decide) (n := 95) rfl (fun c1 => ?_) (fun c1 => ?_)
  ·
    refine k_iconst S dX4_breaks_110 (v := 0) (by decide) (n := 111) rfl ?_
    rw [if_pos c1] at hJ2
    exact hJ2
  ·
    refine k_aload0 S dX4_breaks_95 (n := 96) rfl ?_
    refine k_iconst S dX4_breaks_96 (v := 3) (by decide) (n := 97) rfl ?_
    refine k_iconst S dX4_breaks_97 (v := 2) (by decide) (n := 98) rfl ?_
    refine k_iload2 S dX4_breaks_98 (n := 99) rfl ?_
    refine k_callV (As := [.int 3, .int 2, .int sd]) (rest := []) (p := 21) S (c_X4_beyond (N := 3) (th := 2) (sd := sd) hn P (by omega)) mv_X4_beyond m_884 dX4_breaks_99 rfl rfl ⟨by decide, by decide⟩ (by rw [hn]; decide) (by decide) (ci := 4) rfl rfl rfl (Nat.le_of_ble_eq_true rfl) ⟨by decide, by decide⟩ (n := 102) rfl (fun _ _ h => h.elim) (fun v9 ν9 h9 => ?_)
    rw [h9.1, h9.2]
    show zK x g ({ frames := 3, cells := 0, slots := 0, locals := 69 } : Room) 3 0 0 102 [some (.ref (za g 21)), some (.int 5), some (.int sd)] [.int (zbN y C W 2 sd 3)] μ
    refine k_iconst S dX4_breaks_102 (v := 2) (by decide) (n := 103) rfl ?_
    refine k_icmp_lt S dX4_breaks_103 (tgt := 110) (by decide) (n := 106) rfl (fun c3 => ?_) (fun c3 => ?_)
    ·
      refine k_iconst S dX4_breaks_110 (v := 0) (by decide) (n := 111) rfl ?_
      rw [if_neg c1, if_pos c3] at hJ2
      exact hJ2
    ·
      refine k_iconst S dX4_breaks_106 (v := 1) (by decide) (n := 107) rfl ?_
      refine k_goto S dX4_breaks_107 (tgt := 111) (by decide) ?_
      rw [if_neg c1, if_neg c3] at hJ2
      exact hJ2
set_option maxRecDepth 100000 in
set_option maxHeartbeats 4000000 in
theorem c_X4_breaks_lo6 {l : Launch} {g : zG} {μ : zM} {m : Nat} {y : Nat → Int32} {C W : Int32} {sd : Int32}  (hn : zn g = 32) (P : zPy μ m y C W) (hr : m < 5) : zC l g yX4_breaks cX4_breaks 3 (some .boolean) ({ frames := 3, cells := 0, slots := 0, locals := 69 } : Room) 0 0 [.ref (za g 21), .int 6, .int sd] μ (zRv (some (.int 0)) μ) zNX := by
  refine zC_of (L0 := [some (.ref (za g 21)), some (.int 6), some (.int sd)]) (plainFor_of_name (by decide)) (Nat.le_of_ble_eq_true rfl) rfl ?_
  intro x S Y hxl
  subst hxl
  refine k_aload0 S dX4_breaks_0 (n := 1) rfl ?_
  refine k_getv (v := nI m) (T := TX4) (j := 20) S dX4_breaks_1 (by rw [hn]; decide) (by decide) (ci := 4) rfl rfl (by decide) in_4 m_692 rfl rfl P.1 (n := 4) rfl ?_
  refine k_iload1 S dX4_breaks_4 (n := 5) rfl ?_
  refine k_callS (As := [.int 6]) (rest := [.int (nI m)]) S (c_X4_named) mv_X4_named m_860 dX4_breaks_5 rfl rfl ⟨by decide, by decide⟩ rfl rfl (Nat.le_of_ble_eq_true rfl) ⟨by decide, by decide⟩ (n := 8) rfl (fun _ _ h => h.elim) (fun v9 ν9 h9 => ?_)
  rw [h9.1, h9.2]
  show zK x g ({ frames := 3, cells := 0, slots := 0, locals := 69 } : Room) 3 0 0 8 [some (.ref (za g 21)), some (.int 6), some (.int sd)] [.int (v_X4_named 6), .int (nI m)] μ
  rw [show v_X4_named 6 = 5 from by decide]
  refine k_icmp_ge S dX4_breaks_8 (tgt := 13) (by decide) (n := 11) rfl (fun h9 => absurd h9 (nI_ge (a := m) (b := 5) hr (by decide))) (fun _ => ?_)
  refine k_iconst S dX4_breaks_11 (v := 0) (by decide) (n := 12) rfl ?_
  exact k_iret S Y dX4_breaks_12 (by decide) (by decide) rfl (⟨rfl, rfl⟩)
set_option maxRecDepth 100000 in
set_option maxHeartbeats 4000000 in
theorem c_X4_breaks_hi6 {l : Launch} {g : zG} {μ : zM} {m : Nat} {y : Nat → Int32} {C W : Int32} {sd : Int32}  (hn : zn g = 32) (P : zPy μ m y C W) (hr : 5 ≤ m) : zC l g yX4_breaks cX4_breaks 3 (some .boolean) ({ frames := 3, cells := 0, slots := 0, locals := 69 } : Room) 0 0 [.ref (za g 21), .int 6, .int sd] μ (zRv (some (.int ((if v_X4_isBeyond (y 0) C W 1 sd = 0 then (0 : Int32) else if zbN y C W 1 sd 5 < 4 then (0 : Int32) else (1 : Int32))))) μ) zNX := by
  refine zC_of (L0 := [some (.ref (za g 21)), some (.int 6), some (.int sd)]) (plainFor_of_name (by decide)) (Nat.le_of_ble_eq_true rfl) rfl ?_
  intro x S Y hxl
  subst hxl
  refine k_aload0 S dX4_breaks_0 (n := 1) rfl ?_
  refine k_getv (v := nI m) (T := TX4) (j := 20) S dX4_breaks_1 (by rw [hn]; decide) (by decide) (ci := 4) rfl rfl (by decide) in_4 m_692 rfl rfl P.1 (n := 4) rfl ?_
  refine k_iload1 S dX4_breaks_4 (n := 5) rfl ?_
  refine k_callS (As := [.int 6]) (rest := [.int (nI m)]) S (c_X4_named) mv_X4_named m_860 dX4_breaks_5 rfl rfl ⟨by decide, by decide⟩ rfl rfl (Nat.le_of_ble_eq_true rfl) ⟨by decide, by decide⟩ (n := 8) rfl (fun _ _ h => h.elim) (fun v9 ν9 h9 => ?_)
  rw [h9.1, h9.2]
  show zK x g ({ frames := 3, cells := 0, slots := 0, locals := 69 } : Room) 3 0 0 8 [some (.ref (za g 21)), some (.int 6), some (.int sd)] [.int (v_X4_named 6), .int (nI m)] μ
  rw [show v_X4_named 6 = 5 from by decide]
  refine k_icmp_ge S dX4_breaks_8 (tgt := 13) (by decide) (n := 11) rfl (fun _ => ?_) (fun h9 => absurd (nI_le (a := 5) (b := m) hr (by have := P.2.1; omega)) h9)
  refine k_iload1 S dX4_breaks_13 (n := 14) rfl ?_
  refine k_iconst S dX4_breaks_14 (v := 1) (by decide) (n := 15) rfl ?_
  refine k_icmp_ne S dX4_breaks_15 (tgt := 26) (by decide) (n := 18) rfl (fun _ => ?_) (fun h9 => absurd h9 (by decide))
  refine k_iload1 S dX4_breaks_26 (n := 27) rfl ?_
  refine k_iconst S dX4_breaks_27 (v := 2) (by decide) (n := 28) rfl ?_
  refine k_icmp_ne S dX4_breaks_28 (tgt := 49) (by decide) (n := 31) rfl (fun _ => ?_) (fun h9 => absurd h9 (by decide))
  refine k_iload1 S dX4_breaks_49 (n := 50) rfl ?_
  refine k_iconst S dX4_breaks_50 (v := 3) (by decide) (n := 51) rfl ?_
  refine k_icmp_ne S dX4_breaks_51 (tgt := 70) (by decide) (n := 54) rfl (fun _ => ?_) (fun h9 => absurd h9 (by decide))
  refine k_iload1 S dX4_breaks_70 (n := 71) rfl ?_
  refine k_iconst S dX4_breaks_71 (v := 4) (by decide) (n := 72) rfl ?_
  refine k_icmp_ne S dX4_breaks_72 (tgt := 80) (by decide) (n := 75) rfl (fun _ => ?_) (fun h9 => absurd h9 (by decide))
  refine k_iload1 S dX4_breaks_80 (n := 81) rfl ?_
  refine k_iconst S dX4_breaks_81 (v := 5) (by decide) (n := 82) rfl ?_
  refine k_icmp_ne S dX4_breaks_82 (tgt := 112) (by decide) (n := 85) rfl (fun _ => ?_) (fun h9 => absurd h9 (by decide))
  refine k_iload1 S dX4_breaks_112 (n := 113) rfl ?_
  refine k_bipush S dX4_breaks_113 (v := 6) (by decide) (n := 115) rfl ?_
  refine k_icmp_ne S dX4_breaks_115 (tgt := 145) (by decide) (n := 118) rfl (fun h9 => absurd (rfl) h9) (fun _ => ?_)
  refine k_aload0 S dX4_breaks_118 (n := 119) rfl ?_
  refine k_iconst S dX4_breaks_119 (v := 0) (by decide) (n := 120) rfl ?_
  refine k_iconst S dX4_breaks_120 (v := 1) (by decide) (n := 121) rfl ?_
  refine k_iload2 S dX4_breaks_121 (n := 122) rfl ?_
  refine k_callV (As := [.int 0, .int 1, .int sd]) (rest := []) (p := 21) S (c_X4_isBeyond (j := 0) (th := 1) (sd := sd) hn P (by omega)) mv_X4_isBeyond m_863 dX4_breaks_122 rfl rfl ⟨by decide, by decide⟩ (by rw [hn]; decide) (by decide) (ci := 4) rfl rfl rfl (Nat.le_of_ble_eq_true rfl) ⟨by decide, by decide⟩ (n := 125) rfl (fun _ _ h => h.elim) (fun v9 ν9 h9 => ?_)
  rw [h9.1, h9.2]
  show zK x g ({ frames := 3, cells := 0, slots := 0, locals := 69 } : Room) 3 0 0 125 [some (.ref (za g 21)), some (.int 6), some (.int sd)] [.int (v_X4_isBeyond (y 0) C W 1 sd)] μ
  have hJ2 : zK x g ({ frames := 3, cells := 0, slots := 0, locals := 69 } : Room) 3 0 0 144 [some (.ref (za g 21)), some (.int 6), some (.int sd)] [.int ((if (v_X4_isBeyond (y 0) C W 1 sd) = 0 then (0 : Int32) else (if (zbN y C W 1 sd 5) < 4 then (0 : Int32) else (1 : Int32))))] μ := by
    exact k_iret S Y dX4_breaks_144 (by decide) (by decide) (by (repeat' split) <;> rfl) (⟨rfl, rfl⟩)
  refine k_if_eq S dX4_breaks_125 (tgt := 143) (by decide) (n := 128) rfl (fun c1 => ?_) (fun c1 => ?_)
  ·
    refine k_iconst S dX4_breaks_143 (v := 0) (by decide) (n := 144) rfl ?_
    rw [if_pos c1] at hJ2
    exact hJ2
  ·
    refine k_aload0 S dX4_breaks_128 (n := 129) rfl ?_
    refine k_iconst S dX4_breaks_129 (v := 5) (by decide) (n := 130) rfl ?_
    refine k_iconst S dX4_breaks_130 (v := 1) (by decide) (n := 131) rfl ?_
    refine k_iload2 S dX4_breaks_131 (n := 132) rfl ?_
    refine k_callV (As := [.int 5, .int 1, .int sd]) (rest := []) (p := 21) S (c_X4_beyond (N := 5) (th := 1) (sd := sd) hn P (by omega)) mv_X4_beyond m_884 dX4_breaks_132 rfl rfl ⟨by decide, by decide⟩ (by rw [hn]; decide) (by decide) (ci := 4) rfl rfl rfl (Nat.le_of_ble_eq_true rfl) ⟨by decide, by decide⟩ (n := 135) rfl (fun _ _ h => h.elim) (fun v9 ν9 h9 => ?_)
    rw [h9.1, h9.2]
    show zK x g ({ frames := 3, cells := 0, slots := 0, locals := 69 } : Room) 3 0 0 135 [some (.ref (za g 21)), some (.int 6), some (.int sd)] [.int (zbN y C W 1 sd 5)] μ
    refine k_iconst S dX4_breaks_135 (v := 4) (by decide) (n := 136) rfl ?_
    refine k_icmp_lt S dX4_breaks_136 (tgt := 143) (by decide) (n := 139) rfl (fun c3 => ?_) (fun c3 => ?_)
    ·
      refine k_iconst S dX4_breaks_143 (v := 0) (by decide) (n := 144) rfl ?_
      rw [if_neg c1, if_pos c3] at hJ2
      exact hJ2
    ·
      refine k_iconst S dX4_breaks_139 (v := 1) (by decide) (n := 140) rfl ?_
      refine k_goto S dX4_breaks_140 (tgt := 144) (by decide) ?_
      rw [if_neg c1, if_neg c3] at hJ2
      exact hJ2
set_option maxRecDepth 100000 in
set_option maxHeartbeats 4000000 in
theorem c_X4_breaks_lo7 {l : Launch} {g : zG} {μ : zM} {m : Nat} {y : Nat → Int32} {C W : Int32} {sd : Int32}  (hn : zn g = 32) (P : zPy μ m y C W) (hr : m < 15) : zC l g yX4_breaks cX4_breaks 3 (some .boolean) ({ frames := 3, cells := 0, slots := 0, locals := 69 } : Room) 0 0 [.ref (za g 21), .int 7, .int sd] μ (zRv (some (.int 0)) μ) zNX := by
  refine zC_of (L0 := [some (.ref (za g 21)), some (.int 7), some (.int sd)]) (plainFor_of_name (by decide)) (Nat.le_of_ble_eq_true rfl) rfl ?_
  intro x S Y hxl
  subst hxl
  refine k_aload0 S dX4_breaks_0 (n := 1) rfl ?_
  refine k_getv (v := nI m) (T := TX4) (j := 20) S dX4_breaks_1 (by rw [hn]; decide) (by decide) (ci := 4) rfl rfl (by decide) in_4 m_692 rfl rfl P.1 (n := 4) rfl ?_
  refine k_iload1 S dX4_breaks_4 (n := 5) rfl ?_
  refine k_callS (As := [.int 7]) (rest := [.int (nI m)]) S (c_X4_named) mv_X4_named m_860 dX4_breaks_5 rfl rfl ⟨by decide, by decide⟩ rfl rfl (Nat.le_of_ble_eq_true rfl) ⟨by decide, by decide⟩ (n := 8) rfl (fun _ _ h => h.elim) (fun v9 ν9 h9 => ?_)
  rw [h9.1, h9.2]
  show zK x g ({ frames := 3, cells := 0, slots := 0, locals := 69 } : Room) 3 0 0 8 [some (.ref (za g 21)), some (.int 7), some (.int sd)] [.int (v_X4_named 7), .int (nI m)] μ
  rw [show v_X4_named 7 = 15 from by decide]
  refine k_icmp_ge S dX4_breaks_8 (tgt := 13) (by decide) (n := 11) rfl (fun h9 => absurd h9 (nI_ge (a := m) (b := 15) hr (by decide))) (fun _ => ?_)
  refine k_iconst S dX4_breaks_11 (v := 0) (by decide) (n := 12) rfl ?_
  exact k_iret S Y dX4_breaks_12 (by decide) (by decide) rfl (⟨rfl, rfl⟩)
set_option maxRecDepth 100000 in
set_option maxHeartbeats 4000000 in
theorem c_X4_breaks_hi7 {l : Launch} {g : zG} {μ : zM} {m : Nat} {y : Nat → Int32} {C W : Int32} {sd : Int32}  (hn : zn g = 32) (P : zPy μ m y C W) (hr : 15 ≤ m) : zC l g yX4_breaks cX4_breaks 3 (some .boolean) ({ frames := 3, cells := 0, slots := 0, locals := 69 } : Room) 0 0 [.ref (za g 21), .int 7, .int sd] μ (zRv (some (.int ((if zbN y C W 1 1 15 + zbN y C W 1 (-1) 15 = 0 then (1 : Int32) else (0 : Int32))))) μ) zNX := by
  refine zC_of (L0 := [some (.ref (za g 21)), some (.int 7), some (.int sd)]) (plainFor_of_name (by decide)) (Nat.le_of_ble_eq_true rfl) rfl ?_
  intro x S Y hxl
  subst hxl
  refine k_aload0 S dX4_breaks_0 (n := 1) rfl ?_
  refine k_getv (v := nI m) (T := TX4) (j := 20) S dX4_breaks_1 (by rw [hn]; decide) (by decide) (ci := 4) rfl rfl (by decide) in_4 m_692 rfl rfl P.1 (n := 4) rfl ?_
  refine k_iload1 S dX4_breaks_4 (n := 5) rfl ?_
  refine k_callS (As := [.int 7]) (rest := [.int (nI m)]) S (c_X4_named) mv_X4_named m_860 dX4_breaks_5 rfl rfl ⟨by decide, by decide⟩ rfl rfl (Nat.le_of_ble_eq_true rfl) ⟨by decide, by decide⟩ (n := 8) rfl (fun _ _ h => h.elim) (fun v9 ν9 h9 => ?_)
  rw [h9.1, h9.2]
  show zK x g ({ frames := 3, cells := 0, slots := 0, locals := 69 } : Room) 3 0 0 8 [some (.ref (za g 21)), some (.int 7), some (.int sd)] [.int (v_X4_named 7), .int (nI m)] μ
  rw [show v_X4_named 7 = 15 from by decide]
  refine k_icmp_ge S dX4_breaks_8 (tgt := 13) (by decide) (n := 11) rfl (fun _ => ?_) (fun h9 => absurd (nI_le (a := 15) (b := m) hr (by have := P.2.1; omega)) h9)
  refine k_iload1 S dX4_breaks_13 (n := 14) rfl ?_
  refine k_iconst S dX4_breaks_14 (v := 1) (by decide) (n := 15) rfl ?_
  refine k_icmp_ne S dX4_breaks_15 (tgt := 26) (by decide) (n := 18) rfl (fun _ => ?_) (fun h9 => absurd h9 (by decide))
  refine k_iload1 S dX4_breaks_26 (n := 27) rfl ?_
  refine k_iconst S dX4_breaks_27 (v := 2) (by decide) (n := 28) rfl ?_
  refine k_icmp_ne S dX4_breaks_28 (tgt := 49) (by decide) (n := 31) rfl (fun _ => ?_) (fun h9 => absurd h9 (by decide))
  refine k_iload1 S dX4_breaks_49 (n := 50) rfl ?_
  refine k_iconst S dX4_breaks_50 (v := 3) (by decide) (n := 51) rfl ?_
  refine k_icmp_ne S dX4_breaks_51 (tgt := 70) (by decide) (n := 54) rfl (fun _ => ?_) (fun h9 => absurd h9 (by decide))
  refine k_iload1 S dX4_breaks_70 (n := 71) rfl ?_
  refine k_iconst S dX4_breaks_71 (v := 4) (by decide) (n := 72) rfl ?_
  refine k_icmp_ne S dX4_breaks_72 (tgt := 80) (by decide) (n := 75) rfl (fun _ => ?_) (fun h9 => absurd h9 (by decide))
  refine k_iload1 S dX4_breaks_80 (n := 81) rfl ?_
  refine k_iconst S dX4_breaks_81 (v := 5) (by decide) (n := 82) rfl ?_
  refine k_icmp_ne S dX4_breaks_82 (tgt := 112) (by decide) (n := 85) rfl (fun _ => ?_) (fun h9 => absurd h9 (by decide))
  refine k_iload1 S dX4_breaks_112 (n := 113) rfl ?_
  refine k_bipush S dX4_breaks_113 (v := 6) (by decide) (n := 115) rfl ?_
  refine k_icmp_ne S dX4_breaks_115 (tgt := 145) (by decide) (n := 118) rfl (fun _ => ?_) (fun h9 => absurd h9 (by decide))
  refine k_iload1 S dX4_breaks_145 (n := 146) rfl ?_
  refine k_bipush S dX4_breaks_146 (v := 7) (by decide) (n := 148) rfl ?_
  refine k_icmp_ne S dX4_breaks_148 (tgt := 177) (by decide) (n := 151) rfl (fun h9 => absurd (rfl) h9) (fun _ => ?_)
  refine k_aload0 S dX4_breaks_151 (n := 152) rfl ?_
  refine k_bipush S dX4_breaks_152 (v := 15) (by decide) (n := 154) rfl ?_
  refine k_iconst S dX4_breaks_154 (v := 1) (by decide) (n := 155) rfl ?_
  refine k_iconst S dX4_breaks_155 (v := 1) (by decide) (n := 156) rfl ?_
  refine k_callV (As := [.int 15, .int 1, .int 1]) (rest := []) (p := 21) S (c_X4_beyond (N := 15) (th := 1) (sd := 1) hn P (by omega)) mv_X4_beyond m_884 dX4_breaks_156 rfl rfl ⟨by decide, by decide⟩ (by rw [hn]; decide) (by decide) (ci := 4) rfl rfl rfl (Nat.le_of_ble_eq_true rfl) ⟨by decide, by decide⟩ (n := 159) rfl (fun _ _ h => h.elim) (fun v9 ν9 h9 => ?_)
  rw [h9.1, h9.2]
  show zK x g ({ frames := 3, cells := 0, slots := 0, locals := 69 } : Room) 3 0 0 159 [some (.ref (za g 21)), some (.int 7), some (.int sd)] [.int (zbN y C W 1 1 15)] μ
  refine k_aload0 S dX4_breaks_159 (n := 160) rfl ?_
  refine k_bipush S dX4_breaks_160 (v := 15) (by decide) (n := 162) rfl ?_
  refine k_iconst S dX4_breaks_162 (v := 1) (by decide) (n := 163) rfl ?_
  refine k_iconst S dX4_breaks_163 (v := (-1)) (by decide) (n := 164) rfl ?_
  refine k_callV (As := [.int 15, .int 1, .int ((-1))]) (rest := [.int (zbN y C W 1 1 15)]) (p := 21) S (c_X4_beyond (N := 15) (th := 1) (sd := ((-1))) hn P (by omega)) mv_X4_beyond m_884 dX4_breaks_164 rfl rfl ⟨by decide, by decide⟩ (by rw [hn]; decide) (by decide) (ci := 4) rfl rfl rfl (Nat.le_of_ble_eq_true rfl) ⟨by decide, by decide⟩ (n := 167) rfl (fun _ _ h => h.elim) (fun v9 ν9 h9 => ?_)
  rw [h9.1, h9.2]
  show zK x g ({ frames := 3, cells := 0, slots := 0, locals := 69 } : Room) 3 0 0 167 [some (.ref (za g 21)), some (.int 7), some (.int sd)] [.int (zbN y C W 1 ((-1)) 15), .int (zbN y C W 1 1 15)] μ
  refine k_iadd S dX4_breaks_167 (n := 168) rfl ?_
  have hJ2 : zK x g ({ frames := 3, cells := 0, slots := 0, locals := 69 } : Room) 3 0 0 176 [some (.ref (za g 21)), some (.int 7), some (.int sd)] [.int ((if ((zbN y C W 1 1 15) + (zbN y C W 1 ((-1)) 15)) = 0 then (1 : Int32) else (0 : Int32)))] μ := by
    exact k_iret S Y dX4_breaks_176 (by decide) (by decide) (by (repeat' split) <;> rfl) (⟨rfl, rfl⟩)
  refine k_if_ne S dX4_breaks_168 (tgt := 175) (by decide) (n := 171) rfl (fun c1 => ?_) (fun c1 => ?_)
  ·
    refine k_iconst S dX4_breaks_175 (v := 0) (by decide) (n := 176) rfl ?_
    rw [if_neg c1] at hJ2
    exact hJ2
  ·
    refine k_iconst S dX4_breaks_171 (v := 1) (by decide) (n := 172) rfl ?_
    refine k_goto S dX4_breaks_172 (tgt := 176) (by decide) ?_
    rw [if_pos c1] at hJ2
    exact hJ2
set_option maxRecDepth 100000 in
set_option maxHeartbeats 4000000 in
theorem c_X4_breaks_lo8 {l : Launch} {g : zG} {μ : zM} {m : Nat} {y : Nat → Int32} {C W : Int32} {sd : Int32}  (hn : zn g = 32) (P : zPy μ m y C W) (hr : m < 8) : zC l g yX4_breaks cX4_breaks 3 (some .boolean) ({ frames := 3, cells := 0, slots := 0, locals := 69 } : Room) 0 0 [.ref (za g 21), .int 8, .int sd] μ (zRv (some (.int 0)) μ) zNX := by
  refine zC_of (L0 := [some (.ref (za g 21)), some (.int 8), some (.int sd)]) (plainFor_of_name (by decide)) (Nat.le_of_ble_eq_true rfl) rfl ?_
  intro x S Y hxl
  subst hxl
  refine k_aload0 S dX4_breaks_0 (n := 1) rfl ?_
  refine k_getv (v := nI m) (T := TX4) (j := 20) S dX4_breaks_1 (by rw [hn]; decide) (by decide) (ci := 4) rfl rfl (by decide) in_4 m_692 rfl rfl P.1 (n := 4) rfl ?_
  refine k_iload1 S dX4_breaks_4 (n := 5) rfl ?_
  refine k_callS (As := [.int 8]) (rest := [.int (nI m)]) S (c_X4_named) mv_X4_named m_860 dX4_breaks_5 rfl rfl ⟨by decide, by decide⟩ rfl rfl (Nat.le_of_ble_eq_true rfl) ⟨by decide, by decide⟩ (n := 8) rfl (fun _ _ h => h.elim) (fun v9 ν9 h9 => ?_)
  rw [h9.1, h9.2]
  show zK x g ({ frames := 3, cells := 0, slots := 0, locals := 69 } : Room) 3 0 0 8 [some (.ref (za g 21)), some (.int 8), some (.int sd)] [.int (v_X4_named 8), .int (nI m)] μ
  rw [show v_X4_named 8 = 8 from by decide]
  refine k_icmp_ge S dX4_breaks_8 (tgt := 13) (by decide) (n := 11) rfl (fun h9 => absurd h9 (nI_ge (a := m) (b := 8) hr (by decide))) (fun _ => ?_)
  refine k_iconst S dX4_breaks_11 (v := 0) (by decide) (n := 12) rfl ?_
  exact k_iret S Y dX4_breaks_12 (by decide) (by decide) rfl (⟨rfl, rfl⟩)
set_option maxRecDepth 100000 in
set_option maxHeartbeats 4000000 in
theorem c_X4_breaks_hi8 {l : Launch} {g : zG} {μ : zM} {m : Nat} {y : Nat → Int32} {C W : Int32} {sd : Int32}  (hn : zn g = 32) (P : zPy μ m y C W) (hr : 8 ≤ m) : zC l g yX4_breaks cX4_breaks 3 (some .boolean) ({ frames := 3, cells := 0, slots := 0, locals := 69 } : Room) 0 0 [.ref (za g 21), .int 8, .int sd] μ (zRv (some (.int ((if zbN y C W 1 1 8 + zbN y C W 1 (-1) 8 = 8 then (1 : Int32) else (0 : Int32))))) μ) zNX := by
  refine zC_of (L0 := [some (.ref (za g 21)), some (.int 8), some (.int sd)]) (plainFor_of_name (by decide)) (Nat.le_of_ble_eq_true rfl) rfl ?_
  intro x S Y hxl
  subst hxl
  refine k_aload0 S dX4_breaks_0 (n := 1) rfl ?_
  refine k_getv (v := nI m) (T := TX4) (j := 20) S dX4_breaks_1 (by rw [hn]; decide) (by decide) (ci := 4) rfl rfl (by decide) in_4 m_692 rfl rfl P.1 (n := 4) rfl ?_
  refine k_iload1 S dX4_breaks_4 (n := 5) rfl ?_
  refine k_callS (As := [.int 8]) (rest := [.int (nI m)]) S (c_X4_named) mv_X4_named m_860 dX4_breaks_5 rfl rfl ⟨by decide, by decide⟩ rfl rfl (Nat.le_of_ble_eq_true rfl) ⟨by decide, by decide⟩ (n := 8) rfl (fun _ _ h => h.elim) (fun v9 ν9 h9 => ?_)
  rw [h9.1, h9.2]
  show zK x g ({ frames := 3, cells := 0, slots := 0, locals := 69 } : Room) 3 0 0 8 [some (.ref (za g 21)), some (.int 8), some (.int sd)] [.int (v_X4_named 8), .int (nI m)] μ
  rw [show v_X4_named 8 = 8 from by decide]
  refine k_icmp_ge S dX4_breaks_8 (tgt := 13) (by decide) (n := 11) rfl (fun _ => ?_) (fun h9 => absurd (nI_le (a := 8) (b := m) hr (by have := P.2.1; omega)) h9)
  refine k_iload1 S dX4_breaks_13 (n := 14) rfl ?_
  refine k_iconst S dX4_breaks_14 (v := 1) (by decide) (n := 15) rfl ?_
  refine k_icmp_ne S dX4_breaks_15 (tgt := 26) (by decide) (n := 18) rfl (fun _ => ?_) (fun h9 => absurd h9 (by decide))
  refine k_iload1 S dX4_breaks_26 (n := 27) rfl ?_
  refine k_iconst S dX4_breaks_27 (v := 2) (by decide) (n := 28) rfl ?_
  refine k_icmp_ne S dX4_breaks_28 (tgt := 49) (by decide) (n := 31) rfl (fun _ => ?_) (fun h9 => absurd h9 (by decide))
  refine k_iload1 S dX4_breaks_49 (n := 50) rfl ?_
  refine k_iconst S dX4_breaks_50 (v := 3) (by decide) (n := 51) rfl ?_
  refine k_icmp_ne S dX4_breaks_51 (tgt := 70) (by decide) (n := 54) rfl (fun _ => ?_) (fun h9 => absurd h9 (by decide))
  refine k_iload1 S dX4_breaks_70 (n := 71) rfl ?_
  refine k_iconst S dX4_breaks_71 (v := 4) (by decide) (n := 72) rfl ?_
  refine k_icmp_ne S dX4_breaks_72 (tgt := 80) (by decide) (n := 75) rfl (fun _ => ?_) (fun h9 => absurd h9 (by decide))
  refine k_iload1 S dX4_breaks_80 (n := 81) rfl ?_
  refine k_iconst S dX4_breaks_81 (v := 5) (by decide) (n := 82) rfl ?_
  refine k_icmp_ne S dX4_breaks_82 (tgt := 112) (by decide) (n := 85) rfl (fun _ => ?_) (fun h9 => absurd h9 (by decide))
  refine k_iload1 S dX4_breaks_112 (n := 113) rfl ?_
  refine k_bipush S dX4_breaks_113 (v := 6) (by decide) (n := 115) rfl ?_
  refine k_icmp_ne S dX4_breaks_115 (tgt := 145) (by decide) (n := 118) rfl (fun _ => ?_) (fun h9 => absurd h9 (by decide))
  refine k_iload1 S dX4_breaks_145 (n := 146) rfl ?_
  refine k_bipush S dX4_breaks_146 (v := 7) (by decide) (n := 148) rfl ?_
  refine k_icmp_ne S dX4_breaks_148 (tgt := 177) (by decide) (n := 151) rfl (fun _ => ?_) (fun h9 => absurd h9 (by decide))
  refine k_aload0 S dX4_breaks_177 (n := 178) rfl ?_
  refine k_bipush S dX4_breaks_178 (v := 8) (by decide) (n := 180) rfl ?_
  refine k_iconst S dX4_breaks_180 (v := 1) (by decide) (n := 181) rfl ?_
  refine k_iconst S dX4_breaks_181 (v := 1) (by decide) (n := 182) rfl ?_
  refine k_callV (As := [.int 8, .int 1, .int 1]) (rest := []) (p := 21) S (c_X4_beyond (N := 8) (th := 1) (sd := 1) hn P (by omega)) mv_X4_beyond m_884 dX4_breaks_182 rfl rfl ⟨by decide, by decide⟩ (by rw [hn]; decide) (by decide) (ci := 4) rfl rfl rfl (Nat.le_of_ble_eq_true rfl) ⟨by decide, by decide⟩ (n := 185) rfl (fun _ _ h => h.elim) (fun v9 ν9 h9 => ?_)
  rw [h9.1, h9.2]
  show zK x g ({ frames := 3, cells := 0, slots := 0, locals := 69 } : Room) 3 0 0 185 [some (.ref (za g 21)), some (.int 8), some (.int sd)] [.int (zbN y C W 1 1 8)] μ
  refine k_aload0 S dX4_breaks_185 (n := 186) rfl ?_
  refine k_bipush S dX4_breaks_186 (v := 8) (by decide) (n := 188) rfl ?_
  refine k_iconst S dX4_breaks_188 (v := 1) (by decide) (n := 189) rfl ?_
  refine k_iconst S dX4_breaks_189 (v := (-1)) (by decide) (n := 190) rfl ?_
  refine k_callV (As := [.int 8, .int 1, .int ((-1))]) (rest := [.int (zbN y C W 1 1 8)]) (p := 21) S (c_X4_beyond (N := 8) (th := 1) (sd := ((-1))) hn P (by omega)) mv_X4_beyond m_884 dX4_breaks_190 rfl rfl ⟨by decide, by decide⟩ (by rw [hn]; decide) (by decide) (ci := 4) rfl rfl rfl (Nat.le_of_ble_eq_true rfl) ⟨by decide, by decide⟩ (n := 193) rfl (fun _ _ h => h.elim) (fun v9 ν9 h9 => ?_)
  rw [h9.1, h9.2]
  show zK x g ({ frames := 3, cells := 0, slots := 0, locals := 69 } : Room) 3 0 0 193 [some (.ref (za g 21)), some (.int 8), some (.int sd)] [.int (zbN y C W 1 ((-1)) 8), .int (zbN y C W 1 1 8)] μ
  refine k_iadd S dX4_breaks_193 (n := 194) rfl ?_
  refine k_bipush S dX4_breaks_194 (v := 8) (by decide) (n := 196) rfl ?_
  have hJ2 : zK x g ({ frames := 3, cells := 0, slots := 0, locals := 69 } : Room) 3 0 0 204 [some (.ref (za g 21)), some (.int 8), some (.int sd)] [.int ((if ((zbN y C W 1 1 8) + (zbN y C W 1 ((-1)) 8)) = 8 then (1 : Int32) else (0 : Int32)))] μ := by
    exact k_iret S Y dX4_breaks_204 (by decide) (by decide) (by (repeat' split) <;> rfl) (⟨rfl, rfl⟩)
  refine k_icmp_ne S dX4_breaks_196 (tgt := 203) (by decide) (n := 199) rfl (fun c1 => ?_) (fun c1 => ?_)
  ·
    refine k_iconst S dX4_breaks_203 (v := 0) (by decide) (n := 204) rfl ?_
    rw [if_neg c1] at hJ2
    exact hJ2
  ·
    refine k_iconst S dX4_breaks_199 (v := 1) (by decide) (n := 200) rfl ?_
    refine k_goto S dX4_breaks_200 (tgt := 204) (by decide) ?_
    rw [if_pos c1] at hJ2
    exact hJ2
theorem zBv_1 (y : Nat → Int32) (C W sd : Int32) : zBv y C W 1 sd = v_X4_isBeyond (y 0) C W 3 sd := by
  unfold zBv
  rw [if_pos rfl]
theorem zBv_2 (y : Nat → Int32) (C W sd : Int32) : zBv y C W 2 sd = (if zab y C sd 9 = 9 then (1 : Int32) else (0 : Int32)) := by
  unfold zBv
  rw [if_neg (by decide), if_pos rfl]
theorem zBv_3 (y : Nat → Int32) (C W sd : Int32) : zBv y C W 3 sd = (if zst y sd 5 = 5 then (1 : Int32) else (0 : Int32)) := by
  unfold zBv
  rw [if_neg (by decide), if_neg (by decide), if_pos rfl]
theorem zBv_4 (y : Nat → Int32) (C W sd : Int32) : zBv y C W 4 sd = zt2 y (zt1 y 13) 12 := by
  unfold zBv
  rw [if_neg (by decide), if_neg (by decide), if_neg (by decide), if_pos rfl]
theorem zBv_5 (y : Nat → Int32) (C W sd : Int32) : zBv y C W 5 sd = (if v_X4_isBeyond (y 0) C W 2 sd = 0 then (0 : Int32) else if zbN y C W 2 sd 3 < 2 then (0 : Int32) else (1 : Int32)) := by
  unfold zBv
  rw [if_neg (by decide), if_neg (by decide), if_neg (by decide), if_neg (by decide), if_pos rfl]
theorem zBv_6 (y : Nat → Int32) (C W sd : Int32) : zBv y C W 6 sd = (if v_X4_isBeyond (y 0) C W 1 sd = 0 then (0 : Int32) else if zbN y C W 1 sd 5 < 4 then (0 : Int32) else (1 : Int32)) := by
  unfold zBv
  rw [if_neg (by decide), if_neg (by decide), if_neg (by decide), if_neg (by decide), if_neg (by decide), if_pos rfl]
theorem zBv_7 (y : Nat → Int32) (C W sd : Int32) : zBv y C W 7 sd = (if zbN y C W 1 1 15 + zbN y C W 1 (-1) 15 = 0 then (1 : Int32) else (0 : Int32)) := by
  unfold zBv
  rw [if_neg (by decide), if_neg (by decide), if_neg (by decide), if_neg (by decide), if_neg (by decide), if_neg (by decide), if_pos rfl]
theorem zBv_8 (y : Nat → Int32) (C W sd : Int32) : zBv y C W 8 sd = (if zbN y C W 1 1 8 + zbN y C W 1 (-1) 8 = 8 then (1 : Int32) else (0 : Int32)) := by
  unfold zBv
  rw [if_neg (by decide), if_neg (by decide), if_neg (by decide), if_neg (by decide), if_neg (by decide), if_neg (by decide), if_neg (by decide)]
theorem c_X4_breaks {l : Launch} {g : zG} {μ : zM} {m : Nat} {y : Nat → Int32} {C W : Int32} {r : Nat} {sd : Int32} (hn : zn g = 32) (P : zPy μ m y C W) (h1 : 1 ≤ r) (h8 : r ≤ 8) : zC l g yX4_breaks cX4_breaks 3 (some .boolean) ({ frames := 3, cells := 0, slots := 0, locals := 69 } : Room) 0 0 [.ref (za g 21), .int (nI r), .int sd] μ (zRv (some (.int (zBr m y C W r sd))) μ) zNX := by
  unfold zBr
  match r, h1, h8 with
  | 1, _, _ =>
    rw [show nI 1 = (1 : Int32) from rfl, show zNm 1 = 1 from rfl, zBv_1]
    by_cases h : m < 1
    · rw [if_pos h]
      exact c_X4_breaks_lo1 hn P h
    · rw [if_neg h]
      exact c_X4_breaks_hi1 hn P (by omega)
  | 2, _, _ =>
    rw [show nI 2 = (2 : Int32) from rfl, show zNm 2 = 9 from rfl, zBv_2]
    by_cases h : m < 9
    · rw [if_pos h]
      exact c_X4_breaks_lo2 hn P h
    · rw [if_neg h]
      exact c_X4_breaks_hi2 hn P (by omega)
  | 3, _, _ =>
    rw [show nI 3 = (3 : Int32) from rfl, show zNm 3 = 6 from rfl, zBv_3]
    by_cases h : m < 6
    · rw [if_pos h]
      exact c_X4_breaks_lo3 hn P h
    · rw [if_neg h]
      exact c_X4_breaks_hi3 hn P (by omega)
  | 4, _, _ =>
    rw [show nI 4 = (4 : Int32) from rfl, show zNm 4 = 14 from rfl, zBv_4]
    by_cases h : m < 14
    · rw [if_pos h]
      exact c_X4_breaks_lo4 hn P h
    · rw [if_neg h]
      exact c_X4_breaks_hi4 hn P (by omega)
  | 5, _, _ =>
    rw [show nI 5 = (5 : Int32) from rfl, show zNm 5 = 3 from rfl, zBv_5]
    by_cases h : m < 3
    · rw [if_pos h]
      exact c_X4_breaks_lo5 hn P h
    · rw [if_neg h]
      exact c_X4_breaks_hi5 hn P (by omega)
  | 6, _, _ =>
    rw [show nI 6 = (6 : Int32) from rfl, show zNm 6 = 5 from rfl, zBv_6]
    by_cases h : m < 5
    · rw [if_pos h]
      exact c_X4_breaks_lo6 hn P h
    · rw [if_neg h]
      exact c_X4_breaks_hi6 hn P (by omega)
  | 7, _, _ =>
    rw [show nI 7 = (7 : Int32) from rfl, show zNm 7 = 15 from rfl, zBv_7]
    by_cases h : m < 15
    · rw [if_pos h]
      exact c_X4_breaks_lo7 hn P h
    · rw [if_neg h]
      exact c_X4_breaks_hi7 hn P (by omega)
  | 8, _, _ =>
    rw [show nI 8 = (8 : Int32) from rfl, show zNm 8 = 8 from rfl, zBv_8]
    by_cases h : m < 8
    · rw [if_pos h]
      exact c_X4_breaks_lo8 hn P h
    · rw [if_neg h]
      exact c_X4_breaks_hi8 hn P (by omega)
  | r + 9, _, h => exact absurd h (by omega)
