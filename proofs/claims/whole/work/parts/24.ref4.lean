/-! THE REFERENCE'S CALLS THAT CHANGE IT -/
/-- a call of the reference with the answer v, thrown w, and the memory μ' -/
def zRt (μ' : zM) (v : Option Value) (w : Int32) : Option Value → zM → Prop := fun r ν => r = v ∧ zNear (zu μ' 21 23 w) ν
theorem zrt0 (μ : zM) (v : Option Value) (w : Int32) : zRt μ v w v (zu μ 21 23 w) := ⟨rfl, zNear.refl _⟩
theorem zu_comm {μ : zM} {p j q k : Nat} (v w : Int32) (h : ¬ (p = q ∧ j = k)) : zu (zu μ p j v) q k w = zu (zu μ q k w) p j v := by
  refine Prod.ext (funext fun a => funext fun b => ?_) rfl
  by_cases e : a = p ∧ b = j
  · obtain ⟨rfl, rfl⟩ := e
    rw [zu_ne w h]
    simp [zu]
  · rw [zu_ne (μ := zu μ q k w) v e]
    by_cases f : a = q ∧ b = k
    · obtain ⟨rfl, rfl⟩ := f
      simp [zu]
    · rw [zu_ne w f, zu_ne w f, zu_ne v e]
theorem zu_zu (μ : zM) (p j : Nat) (v w : Int32) : zu (zu μ p j v) p j w = zu μ p j w := by
  refine Prod.ext (funext fun a => funext fun b => ?_) rfl
  by_cases e : a = p ∧ b = j
  · rw [e.1, e.2]
    simp [zu]
  · rw [zu_ne w e, zu_ne w e, zu_ne v e]
def zbM (μ : zM) (v : Int32) : Nat → zM
  | 0 => zu (zu (zu (zu (zu (zu μ 21 23 0) 21 0 v) 21 1 0) 21 2 0) 21 9 1) 21 14 2
  | n + 1 => zu (zu (zbM μ v n) 25 n 0) 26 n 0
set_option maxRecDepth 100000 in
set_option maxHeartbeats 4000000 in
theorem l_X4_begin {x : zX} {g : zG} {μ : zM} {v : Int32} (S : zS x g 3 cX4_begin RX4) (Y : zR x g none 0 0 [] (zRv none (zbM μ v 10)) zNX) (hn : zn g = 32)  : ∀ (m n : Nat), n + m = 10 → zK x g ({ frames := 1, cells := 0, slots := 0, locals := 22 } : Room) 3 0 0 54 [some (.ref (za g 21)), some (.int v), some (.int (nI n))] [] (zbM μ v n) := by
  intro m
  induction m with
  | zero =>
    intro n h1
    obtain rfl : n = 10 := by omega
    refine k_iload2 S dX4_begin_54 (n := 55) rfl ?_
    refine k_bipush S dX4_begin_55 (v := 10) (by decide) (n := 57) rfl ?_
    refine k_icmp_ge S dX4_begin_57 (tgt := 80) (by decide) (n := 60) rfl (fun _ => ?_) (fun h9 => absurd ((Int32.le_refl _ : (10 : Int32) ≤ nI 10)) h9)
    exact k_vret S Y dX4_begin_80 (by decide) (by decide) (⟨rfl, rfl⟩)
  | succ m ih =>
    intro n h1
    refine k_iload2 S dX4_begin_54 (n := 55) rfl ?_
    refine k_bipush S dX4_begin_55 (v := 10) (by decide) (n := 57) rfl ?_
    refine k_icmp_ge S dX4_begin_57 (tgt := 80) (by decide) (n := 60) rfl (fun h9 => absurd h9 (nI_ge (a := n) (b := 10) (by omega) (by decide))) (fun _ => ?_)
    refine k_aload0 S dX4_begin_60 (n := 61) rfl ?_
    refine k_getr (r := 25) (T := TX4) (j := 10) S dX4_begin_61 (by rw [hn]; decide) (by decide) (ci := 4) rfl rfl (by decide) in_4 m_682 rfl rfl (n := 64) rfl ?_
    refine k_iload2 S dX4_begin_64 (n := 65) rfl ?_
    refine k_iconst S dX4_begin_65 (v := 0) (by decide) (n := 66) rfl ?_
    refine k_iast S dX4_begin_66 (j := n) (by rw [hn]; decide) (by decide) rfl (show n < 10 by omega) (by decide) (n := 67) rfl ?_
    refine k_aload0 S dX4_begin_67 (n := 68) rfl ?_
    refine k_getr (r := 26) (T := TX4) (j := 11) S dX4_begin_68 (by rw [hn]; decide) (by decide) (ci := 4) rfl rfl (by decide) in_4 m_683 rfl rfl (n := 71) rfl ?_
    refine k_iload2 S dX4_begin_71 (n := 72) rfl ?_
    refine k_iconst S dX4_begin_72 (v := 0) (by decide) (n := 73) rfl ?_
    refine k_zast S dX4_begin_73 (j := n) (by rw [hn]; decide) (by decide) rfl (show n < 10 by omega) (by decide) rfl (n := 74) rfl ?_
    refine k_iinc2 S dX4_begin_74 (v := nI (n + 1)) (zi1 n) (by decide) (n := 77) rfl ?_
    refine k_goto S dX4_begin_77 (tgt := 54) (by decide) ?_
    exact ih (n + 1) (by omega)
set_option maxRecDepth 100000 in
set_option maxHeartbeats 4000000 in
theorem c_X4_begin_ok {l : Launch} {g : zG} {μ : zM} {v : Int32} (hn : zn g = 32) (h1 : 2 ≤ v) (h2 : v ≤ 6) : zC l g yX4_begin cX4_begin 3 none ({ frames := 1, cells := 0, slots := 0, locals := 22 } : Room) 0 0 [.ref (za g 21), .int v] μ (zRv none (zbM μ v 10)) zNX := by
  refine zC_of (L0 := [some (.ref (za g 21)), some (.int v), none]) (plainFor_of_name (by decide)) (Nat.le_of_ble_eq_true rfl) rfl ?_
  intro x S Y hxl
  subst hxl
  refine k_aload0 S dX4_begin_0 (n := 1) rfl ?_
  refine k_iload1 S dX4_begin_1 (n := 2) rfl ?_
  refine k_iconst S dX4_begin_2 (v := 2) (by decide) (n := 3) rfl ?_
  refine k_bipush S dX4_begin_3 (v := 6) (by decide) (n := 5) rfl ?_
  refine k_callS (As := [.int v, .int 2, .int 6]) (rest := [.ref (za g 21)]) S (c_X4_isIn) mv_X4_isIn m_754 dX4_begin_5 rfl rfl ⟨by decide, by decide⟩ rfl rfl (Nat.le_of_ble_eq_true rfl) ⟨by decide, by decide⟩ (n := 8) rfl (fun _ _ h => h.elim) (fun v9 ν9 h9 => ?_)
  rw [h9.1, h9.2]
  show zK x g ({ frames := 1, cells := 0, slots := 0, locals := 22 } : Room) 3 0 0 8 [some (.ref (za g 21)), some (.int v), none] [.int (zii v 2 6), .ref (za g 21)] μ
  refine k_if_eq S dX4_begin_8 (tgt := 15) (by decide) (n := 11) rfl (fun h9 => absurd h9 (by rw [zii_i h1 h2]; decide)) (fun _ => ?_)
  refine k_iconst S dX4_begin_11 (v := 0) (by decide) (n := 12) rfl ?_
  refine k_goto S dX4_begin_12 (tgt := 16) (by decide) ?_
  refine k_put (T := TX4) (j := 23) S dX4_begin_16 (by rw [hn]; decide) (by decide) (ci := 4) rfl rfl (by decide) in_4 m_695 rfl rfl (ty0 := tyX4) tyX4_ok nmX4 rfl rfl rfl (n := 19) rfl ?_
  refine k_aload0 S dX4_begin_19 (n := 20) rfl ?_
  refine k_getv (v := 0) (T := TX4) (j := 23) S dX4_begin_20 (by rw [hn]; decide) (by decide) (ci := 4) rfl rfl (by decide) in_4 m_695 rfl rfl (by simp [zu, zset, upd]) (n := 23) rfl ?_
  refine k_if_le S dX4_begin_23 (tgt := 27) (by decide) (n := 26) rfl (fun _ => ?_) (fun h9 => absurd (by decide) h9)
  refine k_aload0 S dX4_begin_27 (n := 28) rfl ?_
  refine k_iload1 S dX4_begin_28 (n := 29) rfl ?_
  refine k_put (T := TX4) (j := 0) S dX4_begin_29 (by rw [hn]; decide) (by decide) (ci := 4) rfl rfl (by decide) in_4 m_672 rfl rfl (ty0 := tyX4) tyX4_ok nmX4 rfl rfl rfl (n := 32) rfl ?_
  refine k_aload0 S dX4_begin_32 (n := 33) rfl ?_
  refine k_iconst S dX4_begin_33 (v := 0) (by decide) (n := 34) rfl ?_
  refine k_put (T := TX4) (j := 1) S dX4_begin_34 (by rw [hn]; decide) (by decide) (ci := 4) rfl rfl (by decide) in_4 m_673 rfl rfl (ty0 := tyX4) tyX4_ok nmX4 rfl rfl rfl (n := 37) rfl ?_
  refine k_aload0 S dX4_begin_37 (n := 38) rfl ?_
  refine k_iconst S dX4_begin_38 (v := 0) (by decide) (n := 39) rfl ?_
  refine k_put (T := TX4) (j := 2) S dX4_begin_39 (by rw [hn]; decide) (by decide) (ci := 4) rfl rfl (by decide) in_4 m_674 rfl rfl (ty0 := tyX4) tyX4_ok nmX4 rfl rfl rfl (n := 42) rfl ?_
  refine k_aload0 S dX4_begin_42 (n := 43) rfl ?_
  refine k_iconst S dX4_begin_43 (v := 1) (by decide) (n := 44) rfl ?_
  refine k_put (T := TX4) (j := 9) S dX4_begin_44 (by rw [hn]; decide) (by decide) (ci := 4) rfl rfl (by decide) in_4 m_681 rfl rfl (ty0 := tyX4) tyX4_ok nmX4 rfl rfl rfl (n := 47) rfl ?_
  refine k_aload0 S dX4_begin_47 (n := 48) rfl ?_
  refine k_iconst S dX4_begin_48 (v := 2) (by decide) (n := 49) rfl ?_
  refine k_put (T := TX4) (j := 14) S dX4_begin_49 (by rw [hn]; decide) (by decide) (ci := 4) rfl rfl (by decide) in_4 m_686 rfl rfl (ty0 := tyX4) tyX4_ok nmX4 rfl rfl rfl (n := 52) rfl ?_
  refine k_iconst S dX4_begin_52 (v := 0) (by decide) (n := 53) rfl ?_
  refine k_istore2 S dX4_begin_53 (by decide) rfl (n := 54) rfl ?_
  exact l_X4_begin S Y hn 10 0 (by omega)
set_option maxRecDepth 100000 in
set_option maxHeartbeats 4000000 in
theorem c_X4_begin_no {l : Launch} {g : zG} {μ : zM} {v : Int32} (hn : zn g = 32) (h1 : ¬ (2 ≤ v ∧ v ≤ 6)) : zC l g yX4_begin cX4_begin 3 none ({ frames := 1, cells := 0, slots := 0, locals := 22 } : Room) 0 0 [.ref (za g 21), .int v] μ (zRv none (zu μ 21 23 1)) zNX := by
  refine zC_of (L0 := [some (.ref (za g 21)), some (.int v), none]) (plainFor_of_name (by decide)) (Nat.le_of_ble_eq_true rfl) rfl ?_
  intro x S Y hxl
  subst hxl
  refine k_aload0 S dX4_begin_0 (n := 1) rfl ?_
  refine k_iload1 S dX4_begin_1 (n := 2) rfl ?_
  refine k_iconst S dX4_begin_2 (v := 2) (by decide) (n := 3) rfl ?_
  refine k_bipush S dX4_begin_3 (v := 6) (by decide) (n := 5) rfl ?_
  refine k_callS (As := [.int v, .int 2, .int 6]) (rest := [.ref (za g 21)]) S (c_X4_isIn) mv_X4_isIn m_754 dX4_begin_5 rfl rfl ⟨by decide, by decide⟩ rfl rfl (Nat.le_of_ble_eq_true rfl) ⟨by decide, by decide⟩ (n := 8) rfl (fun _ _ h => h.elim) (fun v9 ν9 h9 => ?_)
  rw [h9.1, h9.2]
  show zK x g ({ frames := 1, cells := 0, slots := 0, locals := 22 } : Room) 3 0 0 8 [some (.ref (za g 21)), some (.int v), none] [.int (zii v 2 6), .ref (za g 21)] μ
  refine k_if_eq S dX4_begin_8 (tgt := 15) (by decide) (n := 11) rfl (fun _ => ?_) (fun h9 => absurd (zii_o h1) h9)
  refine k_iconst S dX4_begin_15 (v := 1) (by decide) (n := 16) rfl ?_
  refine k_put (T := TX4) (j := 23) S dX4_begin_16 (by rw [hn]; decide) (by decide) (ci := 4) rfl rfl (by decide) in_4 m_695 rfl rfl (ty0 := tyX4) tyX4_ok nmX4 rfl rfl rfl (n := 19) rfl ?_
  refine k_aload0 S dX4_begin_19 (n := 20) rfl ?_
  refine k_getv (v := 1) (T := TX4) (j := 23) S dX4_begin_20 (by rw [hn]; decide) (by decide) (ci := 4) rfl rfl (by decide) in_4 m_695 rfl rfl (by simp [zu, zset, upd]) (n := 23) rfl ?_
  refine k_if_le S dX4_begin_23 (tgt := 27) (by decide) (n := 26) rfl (fun h9 => absurd h9 (by decide)) (fun _ => ?_)
  exact k_vret S Y dX4_begin_26 (by decide) (by decide) (⟨rfl, rfl⟩)
set_option maxRecDepth 100000 in
set_option maxHeartbeats 4000000 in
theorem c_X4_put_t1 {l : Launch} {g : zG} {μ : zM} {v : Int32} (hn : zn g = 32) (h1 : ¬ (-9999 ≤ v ∧ v ≤ 9999)) : zC l g yX4_put cX4_put 2 (some .boolean) ({ frames := 1, cells := 0, slots := 0, locals := 22 } : Room) 0 0 [.ref (za g 21), .int v] μ (zRv (some (.int 0)) (zu μ 21 23 1)) zNX := by
  refine zC_of (L0 := [some (.ref (za g 21)), some (.int v)]) (plainFor_of_name (by decide)) (Nat.le_of_ble_eq_true rfl) rfl ?_
  intro x S Y hxl
  subst hxl
  refine k_aload0 S dX4_put_0 (n := 1) rfl ?_
  refine k_iload1 S dX4_put_1 (n := 2) rfl ?_
  refine k_sipush S dX4_put_2 (v := (-9999)) (by decide) (n := 5) rfl ?_
  refine k_sipush S dX4_put_5 (v := 9999) (by decide) (n := 8) rfl ?_
  refine k_callS (As := [.int v, .int ((-9999)), .int 9999]) (rest := [.ref (za g 21)]) S (c_X4_isIn) mv_X4_isIn m_754 dX4_put_8 rfl rfl ⟨by decide, by decide⟩ rfl rfl (Nat.le_of_ble_eq_true rfl) ⟨by decide, by decide⟩ (n := 11) rfl (fun _ _ h => h.elim) (fun v9 ν9 h9 => ?_)
  rw [h9.1, h9.2]
  show zK x g ({ frames := 1, cells := 0, slots := 0, locals := 22 } : Room) 2 0 0 11 [some (.ref (za g 21)), some (.int v)] [.int (zii v ((-9999)) 9999), .ref (za g 21)] μ
  refine k_if_ne S dX4_put_11 (tgt := 18) (by decide) (n := 14) rfl (fun h9 => absurd (zii_o h1) h9) (fun _ => ?_)
  refine k_iconst S dX4_put_14 (v := 1) (by decide) (n := 15) rfl ?_
  refine k_goto S dX4_put_15 (tgt := 32) (by decide) ?_
  refine k_put (T := TX4) (j := 23) S dX4_put_32 (by rw [hn]; decide) (by decide) (ci := 4) rfl rfl (by decide) in_4 m_695 rfl rfl (ty0 := tyX4) tyX4_ok nmX4 rfl rfl rfl (n := 35) rfl ?_
  refine k_aload0 S dX4_put_35 (n := 36) rfl ?_
  refine k_getv (v := 1) (T := TX4) (j := 23) S dX4_put_36 (by rw [hn]; decide) (by decide) (ci := 4) rfl rfl (by decide) in_4 m_695 rfl rfl (by simp [zu, zset, upd]) (n := 39) rfl ?_
  refine k_if_le S dX4_put_39 (tgt := 44) (by decide) (n := 42) rfl (fun h9 => absurd h9 (by decide)) (fun _ => ?_)
  refine k_iconst S dX4_put_42 (v := 0) (by decide) (n := 43) rfl ?_
  exact k_iret S Y dX4_put_43 (by decide) (by decide) rfl (⟨rfl, rfl⟩)
set_option maxRecDepth 100000 in
set_option maxHeartbeats 4000000 in
theorem c_X4_put_t2 {l : Launch} {g : zG} {μ : zM} {v : Int32} (hn : zn g = 32) (h1 : -9999 ≤ v) (h2 : v ≤ 9999) (hd : μ.1 21 1 = 60) : zC l g yX4_put cX4_put 2 (some .boolean) ({ frames := 1, cells := 0, slots := 0, locals := 22 } : Room) 0 0 [.ref (za g 21), .int v] μ (zRv (some (.int 0)) (zu μ 21 23 2)) zNX := by
  refine zC_of (L0 := [some (.ref (za g 21)), some (.int v)]) (plainFor_of_name (by decide)) (Nat.le_of_ble_eq_true rfl) rfl ?_
  intro x S Y hxl
  subst hxl
  refine k_aload0 S dX4_put_0 (n := 1) rfl ?_
  refine k_iload1 S dX4_put_1 (n := 2) rfl ?_
  refine k_sipush S dX4_put_2 (v := (-9999)) (by decide) (n := 5) rfl ?_
  refine k_sipush S dX4_put_5 (v := 9999) (by decide) (n := 8) rfl ?_
  refine k_callS (As := [.int v, .int ((-9999)), .int 9999]) (rest := [.ref (za g 21)]) S (c_X4_isIn) mv_X4_isIn m_754 dX4_put_8 rfl rfl ⟨by decide, by decide⟩ rfl rfl (Nat.le_of_ble_eq_true rfl) ⟨by decide, by decide⟩ (n := 11) rfl (fun _ _ h => h.elim) (fun v9 ν9 h9 => ?_)
  rw [h9.1, h9.2]
  show zK x g ({ frames := 1, cells := 0, slots := 0, locals := 22 } : Room) 2 0 0 11 [some (.ref (za g 21)), some (.int v)] [.int (zii v ((-9999)) 9999), .ref (za g 21)] μ
  refine k_if_ne S dX4_put_11 (tgt := 18) (by decide) (n := 14) rfl (fun _ => ?_) (fun h9 => absurd h9 (by rw [zii_i h1 h2]; decide))
  refine k_aload0 S dX4_put_18 (n := 19) rfl ?_
  refine k_geti (T := TX4) (j := 1) S dX4_put_19 (by rw [hn]; decide) (by decide) (ci := 4) rfl rfl (by decide) in_4 m_673 rfl rfl (n := 22) rfl ?_
  refine k_bipush S dX4_put_22 (v := 60) (by decide) (n := 24) rfl ?_
  refine k_icmp_ne S dX4_put_24 (tgt := 31) (by decide) (n := 27) rfl (fun h9 => absurd (hd) h9) (fun _ => ?_)
  refine k_iconst S dX4_put_27 (v := 2) (by decide) (n := 28) rfl ?_
  refine k_goto S dX4_put_28 (tgt := 32) (by decide) ?_
  refine k_put (T := TX4) (j := 23) S dX4_put_32 (by rw [hn]; decide) (by decide) (ci := 4) rfl rfl (by decide) in_4 m_695 rfl rfl (ty0 := tyX4) tyX4_ok nmX4 rfl rfl rfl (n := 35) rfl ?_
  refine k_aload0 S dX4_put_35 (n := 36) rfl ?_
  refine k_getv (v := 2) (T := TX4) (j := 23) S dX4_put_36 (by rw [hn]; decide) (by decide) (ci := 4) rfl rfl (by decide) in_4 m_695 rfl rfl (by simp [zu, zset, upd]) (n := 39) rfl ?_
  refine k_if_le S dX4_put_39 (tgt := 44) (by decide) (n := 42) rfl (fun h9 => absurd h9 (by decide)) (fun _ => ?_)
  refine k_iconst S dX4_put_42 (v := 0) (by decide) (n := 43) rfl ?_
  exact k_iret S Y dX4_put_43 (by decide) (by decide) rfl (⟨rfl, rfl⟩)
def v_X4_put_go (μ : zM) (v : Int32) : Int32 := 0
def m_X4_put_go (μ : zM) (v : Int32) : zM := zu (zu (zu (zu (zu μ 21 23 0) 21 3 ((if (μ.1 21 2) = 0 then v else (μ.1 21 3) + v))) 21 4 ((if (μ.1 21 2) = 0 then v else (if (μ.1 21 4) ≤ v then μ.1 21 4 else v)))) 21 5 ((if (μ.1 21 2) = 0 then v else (if v ≤ (μ.1 21 5) then μ.1 21 5 else v)))) 21 2 ((μ.1 21 2) + 1)
set_option maxRecDepth 100000 in
set_option maxHeartbeats 4000000 in
theorem c_X4_put_go {l : Launch} {g : zG} {μ : zM} {v : Int32} (hn : zn g = 32) (h1 : -9999 ≤ v) (h2 : v ≤ 9999) (hd : ¬ μ.1 21 1 = 60) (hb : ¬ μ.1 21 0 ≤ μ.1 21 2 + 1) : zC l g yX4_put cX4_put 2 (some .boolean) ({ frames := 1, cells := 0, slots := 0, locals := 22 } : Room) 0 0 [.ref (za g 21), .int v] μ (zRv (some (.int (v_X4_put_go μ v))) (m_X4_put_go μ v)) zNX := by
  refine zC_of (L0 := [some (.ref (za g 21)), some (.int v)]) (plainFor_of_name (by decide)) (Nat.le_of_ble_eq_true rfl) rfl ?_
  intro x S Y hxl
  subst hxl
  refine k_aload0 S dX4_put_0 (n := 1) rfl ?_
  refine k_iload1 S dX4_put_1 (n := 2) rfl ?_
  refine k_sipush S dX4_put_2 (v := (-9999)) (by decide) (n := 5) rfl ?_
  refine k_sipush S dX4_put_5 (v := 9999) (by decide) (n := 8) rfl ?_
  refine k_callS (As := [.int v, .int ((-9999)), .int 9999]) (rest := [.ref (za g 21)]) S (c_X4_isIn) mv_X4_isIn m_754 dX4_put_8 rfl rfl ⟨by decide, by decide⟩ rfl rfl (Nat.le_of_ble_eq_true rfl) ⟨by decide, by decide⟩ (n := 11) rfl (fun _ _ h => h.elim) (fun v9 ν9 h9 => ?_)
  rw [h9.1, h9.2]
  show zK x g ({ frames := 1, cells := 0, slots := 0, locals := 22 } : Room) 2 0 0 11 [some (.ref (za g 21)), some (.int v)] [.int (zii v ((-9999)) 9999), .ref (za g 21)] μ
  refine k_if_ne S dX4_put_11 (tgt := 18) (by decide) (n := 14) rfl (fun _ => ?_) (fun h9 => absurd h9 (by rw [zii_i h1 h2]; decide))
  refine k_aload0 S dX4_put_18 (n := 19) rfl ?_
  refine k_geti (T := TX4) (j := 1) S dX4_put_19 (by rw [hn]; decide) (by decide) (ci := 4) rfl rfl (by decide) in_4 m_673 rfl rfl (n := 22) rfl ?_
  refine k_bipush S dX4_put_22 (v := 60) (by decide) (n := 24) rfl ?_
  refine k_icmp_ne S dX4_put_24 (tgt := 31) (by decide) (n := 27) rfl (fun _ => ?_) (fun h9 => absurd h9 (hd))
  refine k_iconst S dX4_put_31 (v := 0) (by decide) (n := 32) rfl ?_
  refine k_put (T := TX4) (j := 23) S dX4_put_32 (by rw [hn]; decide) (by decide) (ci := 4) rfl rfl (by decide) in_4 m_695 rfl rfl (ty0 := tyX4) tyX4_ok nmX4 rfl rfl rfl (n := 35) rfl ?_
  refine k_aload0 S dX4_put_35 (n := 36) rfl ?_
  refine k_getv (v := 0) (T := TX4) (j := 23) S dX4_put_36 (by rw [hn]; decide) (by decide) (ci := 4) rfl rfl (by decide) in_4 m_695 rfl rfl (by simp [zu, zset, upd]) (n := 39) rfl ?_
  refine k_if_le S dX4_put_39 (tgt := 44) (by decide) (n := 42) rfl (fun _ => ?_) (fun h9 => absurd (by decide) h9)
  refine k_aload0 S dX4_put_44 (n := 45) rfl ?_
  refine k_aload0 S dX4_put_45 (n := 46) rfl ?_
  refine k_getv (v := μ.1 21 2) (T := TX4) (j := 2) S dX4_put_46 (by rw [hn]; decide) (by decide) (ci := 4) rfl rfl (by decide) in_4 m_674 rfl rfl (by simp [zu, zset, upd]) (n := 49) rfl ?_
  have hJ2 : zK x g ({ frames := 1, cells := 0, slots := 0, locals := 22 } : Room) 2 0 0 62 [some (.ref (za g 21)), some (.int v)] [.int ((if (μ.1 21 2) = 0 then v else (μ.1 21 3) + v)), .ref (za g 21)] (zu μ 21 23 0) := by
    refine k_put (T := TX4) (j := 3) S dX4_put_62 (by rw [hn]; decide) (by decide) (ci := 4) rfl rfl (by decide) in_4 m_675 rfl rfl (ty0 := tyX4) tyX4_ok nmX4 rfl rfl rfl (n := 65) rfl ?_
    refine k_aload0 S dX4_put_65 (n := 66) rfl ?_
    refine k_aload0 S dX4_put_66 (n := 67) rfl ?_
    refine k_getv (v := μ.1 21 2) (T := TX4) (j := 2) S dX4_put_67 (by rw [hn]; decide) (by decide) (ci := 4) rfl rfl (by decide) in_4 m_674 rfl rfl (by simp [zu, zset, upd]) (n := 70) rfl ?_
    have hJ4 : zK x g ({ frames := 1, cells := 0, slots := 0, locals := 22 } : Room) 2 0 0 89 [some (.ref (za g 21)), some (.int v)] [.int ((if (μ.1 21 2) = 0 then v else (if (μ.1 21 4) ≤ v then μ.1 21 4 else v))), .ref (za g 21)] (zu (zu μ 21 23 0) 21 3 ((if (μ.1 21 2) = 0 then v else (μ.1 21 3) + v))) := by
      refine k_put (T := TX4) (j := 4) S dX4_put_89 (by rw [hn]; decide) (by decide) (ci := 4) rfl rfl (by decide) in_4 m_676 rfl rfl (ty0 := tyX4) tyX4_ok nmX4 rfl rfl rfl (n := 92) rfl ?_
      refine k_aload0 S dX4_put_92 (n := 93) rfl ?_
      refine k_aload0 S dX4_put_93 (n := 94) rfl ?_
      refine k_getv (v := μ.1 21 2) (T := TX4) (j := 2) S dX4_put_94 (by rw [hn]; decide) (by decide) (ci := 4) rfl rfl (by decide) in_4 m_674 rfl rfl (by simp [zu, zset, upd]) (n := 97) rfl ?_
      have hJ6 : zK x g ({ frames := 1, cells := 0, slots := 0, locals := 22 } : Room) 2 0 0 116 [some (.ref (za g 21)), some (.int v)] [.int ((if (μ.1 21 2) = 0 then v else (if v ≤ (μ.1 21 5) then μ.1 21 5 else v))), .ref (za g 21)] (zu (zu (zu μ 21 23 0) 21 3 ((if (μ.1 21 2) = 0 then v else (μ.1 21 3) + v))) 21 4 ((if (μ.1 21 2) = 0 then v else (if (μ.1 21 4) ≤ v then μ.1 21 4 else v)))) := by
        refine k_put (T := TX4) (j := 5) S dX4_put_116 (by rw [hn]; decide) (by decide) (ci := 4) rfl rfl (by decide) in_4 m_677 rfl rfl (ty0 := tyX4) tyX4_ok nmX4 rfl rfl rfl (n := 119) rfl ?_
        refine k_aload0 S dX4_put_119 (n := 120) rfl ?_
        refine k_dup S dX4_put_120 rfl (n := 121) rfl ?_
        refine k_getv (v := μ.1 21 2) (T := TX4) (j := 2) S dX4_put_121 (by rw [hn]; decide) (by decide) (ci := 4) rfl rfl (by decide) in_4 m_674 rfl rfl (by simp [zu, zset, upd]) (n := 124) rfl ?_
        refine k_iconst S dX4_put_124 (v := 1) (by decide) (n := 125) rfl ?_
        refine k_iadd S dX4_put_125 (n := 126) rfl ?_
        refine k_put (T := TX4) (j := 2) S dX4_put_126 (by rw [hn]; decide) (by decide) (ci := 4) rfl rfl (by decide) in_4 m_674 rfl rfl (ty0 := tyX4) tyX4_ok nmX4 rfl rfl rfl (n := 129) rfl ?_
        refine k_aload0 S dX4_put_129 (n := 130) rfl ?_
        refine k_getv (v := (μ.1 21 2) + 1) (T := TX4) (j := 2) S dX4_put_130 (by rw [hn]; decide) (by decide) (ci := 4) rfl rfl (by decide) in_4 m_674 rfl rfl (by simp [zu, zset, upd]) (n := 133) rfl ?_
        refine k_aload0 S dX4_put_133 (n := 134) rfl ?_
        refine k_getv (v := μ.1 21 0) (T := TX4) (j := 0) S dX4_put_134 (by rw [hn]; decide) (by decide) (ci := 4) rfl rfl (by decide) in_4 m_672 rfl rfl (by simp [zu, zset, upd]) (n := 137) rfl ?_
        refine k_icmp_ge S dX4_put_137 (tgt := 142) (by decide) (n := 140) rfl (fun h9 => absurd h9 (hb)) (fun _ => ?_)
        refine k_iconst S dX4_put_140 (v := 0) (by decide) (n := 141) rfl ?_
        exact k_iret S Y dX4_put_141 (by decide) (by decide) rfl (⟨rfl, rfl⟩)
      refine k_if_eq S dX4_put_97 (tgt := 108) (by decide) (n := 100) rfl (fun c5 => ?_) (fun c5 => ?_)
      ·
        refine k_iload1 S dX4_put_108 (n := 109) rfl ?_
        refine k_goto S dX4_put_109 (tgt := 116) (by decide) ?_
        rw [if_pos c5] at hJ6
        exact hJ6
      ·
        refine k_iload1 S dX4_put_100 (n := 101) rfl ?_
        refine k_aload0 S dX4_put_101 (n := 102) rfl ?_
        refine k_getv (v := μ.1 21 5) (T := TX4) (j := 5) S dX4_put_102 (by rw [hn]; decide) (by decide) (ci := 4) rfl rfl (by decide) in_4 m_677 rfl rfl (by simp [zu, zset, upd]) (n := 105) rfl ?_
        refine k_icmp_le S dX4_put_105 (tgt := 112) (by decide) (n := 108) rfl (fun c7 => ?_) (fun c7 => ?_)
        ·
          refine k_aload0 S dX4_put_112 (n := 113) rfl ?_
          refine k_getv (v := μ.1 21 5) (T := TX4) (j := 5) S dX4_put_113 (by rw [hn]; decide) (by decide) (ci := 4) rfl rfl (by decide) in_4 m_677 rfl rfl (by simp [zu, zset, upd]) (n := 116) rfl ?_
          rw [if_neg c5, if_pos c7] at hJ6
          exact hJ6
        ·
          refine k_iload1 S dX4_put_108 (n := 109) rfl ?_
          refine k_goto S dX4_put_109 (tgt := 116) (by decide) ?_
          rw [if_neg c5, if_neg c7] at hJ6
          exact hJ6
    refine k_if_eq S dX4_put_70 (tgt := 81) (by decide) (n := 73) rfl (fun c3 => ?_) (fun c3 => ?_)
    ·
      refine k_iload1 S dX4_put_81 (n := 82) rfl ?_
      refine k_goto S dX4_put_82 (tgt := 89) (by decide) ?_
      rw [if_pos c3] at hJ4
      exact hJ4
    ·
      refine k_iload1 S dX4_put_73 (n := 74) rfl ?_
      refine k_aload0 S dX4_put_74 (n := 75) rfl ?_
      refine k_getv (v := μ.1 21 4) (T := TX4) (j := 4) S dX4_put_75 (by rw [hn]; decide) (by decide) (ci := 4) rfl rfl (by decide) in_4 m_676 rfl rfl (by simp [zu, zset, upd]) (n := 78) rfl ?_
      refine k_icmp_ge S dX4_put_78 (tgt := 85) (by decide) (n := 81) rfl (fun c8 => ?_) (fun c8 => ?_)
      ·
        refine k_aload0 S dX4_put_85 (n := 86) rfl ?_
        refine k_getv (v := μ.1 21 4) (T := TX4) (j := 4) S dX4_put_86 (by rw [hn]; decide) (by decide) (ci := 4) rfl rfl (by decide) in_4 m_676 rfl rfl (by simp [zu, zset, upd]) (n := 89) rfl ?_
        rw [if_neg c3, if_pos c8] at hJ4
        exact hJ4
      ·
        refine k_iload1 S dX4_put_81 (n := 82) rfl ?_
        refine k_goto S dX4_put_82 (tgt := 89) (by decide) ?_
        rw [if_neg c3, if_neg c8] at hJ4
        exact hJ4
  refine k_if_ne S dX4_put_49 (tgt := 56) (by decide) (n := 52) rfl (fun c1 => ?_) (fun c1 => ?_)
  ·
    refine k_aload0 S dX4_put_56 (n := 57) rfl ?_
    refine k_getv (v := μ.1 21 3) (T := TX4) (j := 3) S dX4_put_57 (by rw [hn]; decide) (by decide) (ci := 4) rfl rfl (by decide) in_4 m_675 rfl rfl (by simp [zu, zset, upd]) (n := 60) rfl ?_
    refine k_iload1 S dX4_put_60 (n := 61) rfl ?_
    refine k_iadd S dX4_put_61 (n := 62) rfl ?_
    rw [if_neg c1] at hJ2
    exact hJ2
  ·
    refine k_iload1 S dX4_put_52 (n := 53) rfl ?_
    refine k_goto S dX4_put_53 (tgt := 62) (by decide) ?_
    rw [if_pos c1] at hJ2
    exact hJ2
def v_X4_put_done (μ : zM) (v : Int32) (d : Nat) : Int32 := 1
def m_X4_put_done (μ : zM) (v : Int32) (d : Nat) : zM := zu (zu (zu (zu (zu (zu (zu (zu (zu (zu μ 21 23 0) 21 3 ((if (μ.1 21 2) = 0 then v else (μ.1 21 3) + v))) 21 4 ((if (μ.1 21 2) = 0 then v else (if (μ.1 21 4) ≤ v then μ.1 21 4 else v)))) 21 5 ((if (μ.1 21 2) = 0 then v else (if v ≤ (μ.1 21 5) then μ.1 21 5 else v)))) 21 2 ((μ.1 21 2) + 1)) 22 d ((if (μ.1 21 2) = 0 then v else (μ.1 21 3) + v))) 23 d (((if (μ.1 21 2) = 0 then v else (if v ≤ (μ.1 21 5) then μ.1 21 5 else v))) - ((if (μ.1 21 2) = 0 then v else (if (μ.1 21 4) ≤ v then μ.1 21 4 else v))))) 24 d 0) 21 1 ((nI d) + 1)) 21 2 0
set_option maxRecDepth 100000 in
set_option maxHeartbeats 4000000 in
theorem c_X4_put_done {l : Launch} {g : zG} {μ : zM} {v : Int32} {d : Nat} (hn : zn g = 32) (h1 : -9999 ≤ v) (h2 : v ≤ 9999) (hd : μ.1 21 1 = nI d) (hd60 : d < 60) (hb : μ.1 21 0 ≤ μ.1 21 2 + 1) : zC l g yX4_put cX4_put 2 (some .boolean) ({ frames := 1, cells := 0, slots := 0, locals := 22 } : Room) 0 0 [.ref (za g 21), .int v] μ (zRv (some (.int (v_X4_put_done μ v d))) (m_X4_put_done μ v d)) zNX := by
  refine zC_of (L0 := [some (.ref (za g 21)), some (.int v)]) (plainFor_of_name (by decide)) (Nat.le_of_ble_eq_true rfl) rfl ?_
  intro x S Y hxl
  subst hxl
  refine k_aload0 S dX4_put_0 (n := 1) rfl ?_
  refine k_iload1 S dX4_put_1 (n := 2) rfl ?_
  refine k_sipush S dX4_put_2 (v := (-9999)) (by decide) (n := 5) rfl ?_
  refine k_sipush S dX4_put_5 (v := 9999) (by decide) (n := 8) rfl ?_
  refine k_callS (As := [.int v, .int ((-9999)), .int 9999]) (rest := [.ref (za g 21)]) S (c_X4_isIn) mv_X4_isIn m_754 dX4_put_8 rfl rfl ⟨by decide, by decide⟩ rfl rfl (Nat.le_of_ble_eq_true rfl) ⟨by decide, by decide⟩ (n := 11) rfl (fun _ _ h => h.elim) (fun v9 ν9 h9 => ?_)
  rw [h9.1, h9.2]
  show zK x g ({ frames := 1, cells := 0, slots := 0, locals := 22 } : Room) 2 0 0 11 [some (.ref (za g 21)), some (.int v)] [.int (zii v ((-9999)) 9999), .ref (za g 21)] μ
  refine k_if_ne S dX4_put_11 (tgt := 18) (by decide) (n := 14) rfl (fun _ => ?_) (fun h9 => absurd h9 (by rw [zii_i h1 h2]; decide))
  refine k_aload0 S dX4_put_18 (n := 19) rfl ?_
  refine k_getv (v := nI d) (T := TX4) (j := 1) S dX4_put_19 (by rw [hn]; decide) (by decide) (ci := 4) rfl rfl (by decide) in_4 m_673 rfl rfl hd (n := 22) rfl ?_
  refine k_bipush S dX4_put_22 (v := 60) (by decide) (n := 24) rfl ?_
  refine k_icmp_ne S dX4_put_24 (tgt := 31) (by decide) (n := 27) rfl (fun _ => ?_) (fun h9 => absurd h9 (fun q => by have := (nI_eq (b := 60) (by omega) (by decide)).mp q; omega))
  refine k_iconst S dX4_put_31 (v := 0) (by decide) (n := 32) rfl ?_
  refine k_put (T := TX4) (j := 23) S dX4_put_32 (by rw [hn]; decide) (by decide) (ci := 4) rfl rfl (by decide) in_4 m_695 rfl rfl (ty0 := tyX4) tyX4_ok nmX4 rfl rfl rfl (n := 35) rfl ?_
  refine k_aload0 S dX4_put_35 (n := 36) rfl ?_
  refine k_getv (v := 0) (T := TX4) (j := 23) S dX4_put_36 (by rw [hn]; decide) (by decide) (ci := 4) rfl rfl (by decide) in_4 m_695 rfl rfl (by simp [zu, zset, upd]) (n := 39) rfl ?_
  refine k_if_le S dX4_put_39 (tgt := 44) (by decide) (n := 42) rfl (fun _ => ?_) (fun h9 => absurd (by decide) h9)
  refine k_aload0 S dX4_put_44 (n := 45) rfl ?_
  refine k_aload0 S dX4_put_45 (n := 46) rfl ?_
  refine k_getv (v := μ.1 21 2) (T := TX4) (j := 2) S dX4_put_46 (by rw [hn]; decide) (by decide) (ci := 4) rfl rfl (by decide) in_4 m_674 rfl rfl (by simp [zu, zset, upd]) (n := 49) rfl ?_
  have hJ2 : zK x g ({ frames := 1, cells := 0, slots := 0, locals := 22 } : Room) 2 0 0 62 [some (.ref (za g 21)), some (.int v)] [.int ((if (μ.1 21 2) = 0 then v else (μ.1 21 3) + v)), .ref (za g 21)] (zu μ 21 23 0) := by
    refine k_put (T := TX4) (j := 3) S dX4_put_62 (by rw [hn]; decide) (by decide) (ci := 4) rfl rfl (by decide) in_4 m_675 rfl rfl (ty0 := tyX4) tyX4_ok nmX4 rfl rfl rfl (n := 65) rfl ?_
    refine k_aload0 S dX4_put_65 (n := 66) rfl ?_
    refine k_aload0 S dX4_put_66 (n := 67) rfl ?_
    refine k_getv (v := μ.1 21 2) (T := TX4) (j := 2) S dX4_put_67 (by rw [hn]; decide) (by decide) (ci := 4) rfl rfl (by decide) in_4 m_674 rfl rfl (by simp [zu, zset, upd]) (n := 70) rfl ?_
    have hJ4 : zK x g ({ frames := 1, cells := 0, slots := 0, locals := 22 } : Room) 2 0 0 89 [some (.ref (za g 21)), some (.int v)] [.int ((if (μ.1 21 2) = 0 then v else (if (μ.1 21 4) ≤ v then μ.1 21 4 else v))), .ref (za g 21)] (zu (zu μ 21 23 0) 21 3 ((if (μ.1 21 2) = 0 then v else (μ.1 21 3) + v))) := by
      refine k_put (T := TX4) (j := 4) S dX4_put_89 (by rw [hn]; decide) (by decide) (ci := 4) rfl rfl (by decide) in_4 m_676 rfl rfl (ty0 := tyX4) tyX4_ok nmX4 rfl rfl rfl (n := 92) rfl ?_
      refine k_aload0 S dX4_put_92 (n := 93) rfl ?_
      refine k_aload0 S dX4_put_93 (n := 94) rfl ?_
      refine k_getv (v := μ.1 21 2) (T := TX4) (j := 2) S dX4_put_94 (by rw [hn]; decide) (by decide) (ci := 4) rfl rfl (by decide) in_4 m_674 rfl rfl (by simp [zu, zset, upd]) (n := 97) rfl ?_
      have hJ6 : zK x g ({ frames := 1, cells := 0, slots := 0, locals := 22 } : Room) 2 0 0 116 [some (.ref (za g 21)), some (.int v)] [.int ((if (μ.1 21 2) = 0 then v else (if v ≤ (μ.1 21 5) then μ.1 21 5 else v))), .ref (za g 21)] (zu (zu (zu μ 21 23 0) 21 3 ((if (μ.1 21 2) = 0 then v else (μ.1 21 3) + v))) 21 4 ((if (μ.1 21 2) = 0 then v else (if (μ.1 21 4) ≤ v then μ.1 21 4 else v)))) := by
        refine k_put (T := TX4) (j := 5) S dX4_put_116 (by rw [hn]; decide) (by decide) (ci := 4) rfl rfl (by decide) in_4 m_677 rfl rfl (ty0 := tyX4) tyX4_ok nmX4 rfl rfl rfl (n := 119) rfl ?_
        refine k_aload0 S dX4_put_119 (n := 120) rfl ?_
        refine k_dup S dX4_put_120 rfl (n := 121) rfl ?_
        refine k_getv (v := μ.1 21 2) (T := TX4) (j := 2) S dX4_put_121 (by rw [hn]; decide) (by decide) (ci := 4) rfl rfl (by decide) in_4 m_674 rfl rfl (by simp [zu, zset, upd]) (n := 124) rfl ?_
        refine k_iconst S dX4_put_124 (v := 1) (by decide) (n := 125) rfl ?_
        refine k_iadd S dX4_put_125 (n := 126) rfl ?_
        refine k_put (T := TX4) (j := 2) S dX4_put_126 (by rw [hn]; decide) (by decide) (ci := 4) rfl rfl (by decide) in_4 m_674 rfl rfl (ty0 := tyX4) tyX4_ok nmX4 rfl rfl rfl (n := 129) rfl ?_
        refine k_aload0 S dX4_put_129 (n := 130) rfl ?_
        refine k_getv (v := (μ.1 21 2) + 1) (T := TX4) (j := 2) S dX4_put_130 (by rw [hn]; decide) (by decide) (ci := 4) rfl rfl (by decide) in_4 m_674 rfl rfl (by simp [zu, zset, upd]) (n := 133) rfl ?_
        refine k_aload0 S dX4_put_133 (n := 134) rfl ?_
        refine k_getv (v := μ.1 21 0) (T := TX4) (j := 0) S dX4_put_134 (by rw [hn]; decide) (by decide) (ci := 4) rfl rfl (by decide) in_4 m_672 rfl rfl (by simp [zu, zset, upd]) (n := 137) rfl ?_
        refine k_icmp_ge S dX4_put_137 (tgt := 142) (by decide) (n := 140) rfl (fun _ => ?_) (fun h9 => absurd (hb) h9)
        refine k_aload0 S dX4_put_142 (n := 143) rfl ?_
        refine k_getr (r := 22) (T := TX4) (j := 6) S dX4_put_143 (by rw [hn]; decide) (by decide) (ci := 4) rfl rfl (by decide) in_4 m_678 rfl rfl (n := 146) rfl ?_
        refine k_aload0 S dX4_put_146 (n := 147) rfl ?_
        refine k_getv (v := nI d) (T := TX4) (j := 1) S dX4_put_147 (by rw [hn]; decide) (by decide) (ci := 4) rfl rfl (by decide) in_4 m_673 rfl rfl (by simp [zu, hd]) (n := 150) rfl ?_
        refine k_aload0 S dX4_put_150 (n := 151) rfl ?_
        refine k_getv (v := (if (μ.1 21 2) = 0 then v else (μ.1 21 3) + v)) (T := TX4) (j := 3) S dX4_put_151 (by rw [hn]; decide) (by decide) (ci := 4) rfl rfl (by decide) in_4 m_675 rfl rfl (by simp [zu, zset, upd]) (n := 154) rfl ?_
        refine k_iast S dX4_put_154 (j := d) (by rw [hn]; decide) (by decide) rfl (show d < 60 from hd60) (by decide) (n := 155) rfl ?_
        refine k_aload0 S dX4_put_155 (n := 156) rfl ?_
        refine k_getr (r := 23) (T := TX4) (j := 7) S dX4_put_156 (by rw [hn]; decide) (by decide) (ci := 4) rfl rfl (by decide) in_4 m_679 rfl rfl (n := 159) rfl ?_
        refine k_aload0 S dX4_put_159 (n := 160) rfl ?_
        refine k_getv (v := nI d) (T := TX4) (j := 1) S dX4_put_160 (by rw [hn]; decide) (by decide) (ci := 4) rfl rfl (by decide) in_4 m_673 rfl rfl (by simp [zu, hd]) (n := 163) rfl ?_
        refine k_aload0 S dX4_put_163 (n := 164) rfl ?_
        refine k_getv (v := (if (μ.1 21 2) = 0 then v else (if v ≤ (μ.1 21 5) then μ.1 21 5 else v))) (T := TX4) (j := 5) S dX4_put_164 (by rw [hn]; decide) (by decide) (ci := 4) rfl rfl (by decide) in_4 m_677 rfl rfl (by simp [zu, zset, upd]) (n := 167) rfl ?_
        refine k_aload0 S dX4_put_167 (n := 168) rfl ?_
        refine k_getv (v := (if (μ.1 21 2) = 0 then v else (if (μ.1 21 4) ≤ v then μ.1 21 4 else v))) (T := TX4) (j := 4) S dX4_put_168 (by rw [hn]; decide) (by decide) (ci := 4) rfl rfl (by decide) in_4 m_676 rfl rfl (by simp [zu, zset, upd]) (n := 171) rfl ?_
        refine k_isub S dX4_put_171 (n := 172) rfl ?_
        refine k_iast S dX4_put_172 (j := d) (by rw [hn]; decide) (by decide) rfl (show d < 60 from hd60) (by decide) (n := 173) rfl ?_
        refine k_aload0 S dX4_put_173 (n := 174) rfl ?_
        refine k_getr (r := 24) (T := TX4) (j := 8) S dX4_put_174 (by rw [hn]; decide) (by decide) (ci := 4) rfl rfl (by decide) in_4 m_680 rfl rfl (n := 177) rfl ?_
        refine k_aload0 S dX4_put_177 (n := 178) rfl ?_
        refine k_getv (v := nI d) (T := TX4) (j := 1) S dX4_put_178 (by rw [hn]; decide) (by decide) (ci := 4) rfl rfl (by decide) in_4 m_673 rfl rfl (by simp [zu, hd]) (n := 181) rfl ?_
        refine k_iconst S dX4_put_181 (v := 0) (by decide) (n := 182) rfl ?_
        refine k_iast S dX4_put_182 (j := d) (by rw [hn]; decide) (by decide) rfl (show d < 60 from hd60) (by decide) (n := 183) rfl ?_
        refine k_aload0 S dX4_put_183 (n := 184) rfl ?_
        refine k_dup S dX4_put_184 rfl (n := 185) rfl ?_
        refine k_getv (v := nI d) (T := TX4) (j := 1) S dX4_put_185 (by rw [hn]; decide) (by decide) (ci := 4) rfl rfl (by decide) in_4 m_673 rfl rfl (by simp [zu, hd]) (n := 188) rfl ?_
        refine k_iconst S dX4_put_188 (v := 1) (by decide) (n := 189) rfl ?_
        refine k_iadd S dX4_put_189 (n := 190) rfl ?_
        refine k_put (T := TX4) (j := 1) S dX4_put_190 (by rw [hn]; decide) (by decide) (ci := 4) rfl rfl (by decide) in_4 m_673 rfl rfl (ty0 := tyX4) tyX4_ok nmX4 rfl rfl rfl (n := 193) rfl ?_
        refine k_aload0 S dX4_put_193 (n := 194) rfl ?_
        refine k_iconst S dX4_put_194 (v := 0) (by decide) (n := 195) rfl ?_
        refine k_put (T := TX4) (j := 2) S dX4_put_195 (by rw [hn]; decide) (by decide) (ci := 4) rfl rfl (by decide) in_4 m_674 rfl rfl (ty0 := tyX4) tyX4_ok nmX4 rfl rfl rfl (n := 198) rfl ?_
        refine k_iconst S dX4_put_198 (v := 1) (by decide) (n := 199) rfl ?_
        exact k_iret S Y dX4_put_199 (by decide) (by decide) rfl (⟨rfl, rfl⟩)
      refine k_if_eq S dX4_put_97 (tgt := 108) (by decide) (n := 100) rfl (fun c5 => ?_) (fun c5 => ?_)
      ·
        refine k_iload1 S dX4_put_108 (n := 109) rfl ?_
        refine k_goto S dX4_put_109 (tgt := 116) (by decide) ?_
        rw [if_pos c5] at hJ6
        exact hJ6
      ·
        refine k_iload1 S dX4_put_100 (n := 101) rfl ?_
        refine k_aload0 S dX4_put_101 (n := 102) rfl ?_
        refine k_getv (v := μ.1 21 5) (T := TX4) (j := 5) S dX4_put_102 (by rw [hn]; decide) (by decide) (ci := 4) rfl rfl (by decide) in_4 m_677 rfl rfl (by simp [zu, zset, upd]) (n := 105) rfl ?_
        refine k_icmp_le S dX4_put_105 (tgt := 112) (by decide) (n := 108) rfl (fun c7 => ?_) (fun c7 => ?_)
        ·
          refine k_aload0 S dX4_put_112 (n := 113) rfl ?_
          refine k_getv (v := μ.1 21 5) (T := TX4) (j := 5) S dX4_put_113 (by rw [hn]; decide) (by decide) (ci := 4) rfl rfl (by decide) in_4 m_677 rfl rfl (by simp [zu, zset, upd]) (n := 116) rfl ?_
          rw [if_neg c5, if_pos c7] at hJ6
          exact hJ6
        ·
          refine k_iload1 S dX4_put_108 (n := 109) rfl ?_
          refine k_goto S dX4_put_109 (tgt := 116) (by decide) ?_
          rw [if_neg c5, if_neg c7] at hJ6
          exact hJ6
    refine k_if_eq S dX4_put_70 (tgt := 81) (by decide) (n := 73) rfl (fun c3 => ?_) (fun c3 => ?_)
    ·
      refine k_iload1 S dX4_put_81 (n := 82) rfl ?_
      refine k_goto S dX4_put_82 (tgt := 89) (by decide) ?_
      rw [if_pos c3] at hJ4
      exact hJ4
    ·
      refine k_iload1 S dX4_put_73 (n := 74) rfl ?_
      refine k_aload0 S dX4_put_74 (n := 75) rfl ?_
      refine k_getv (v := μ.1 21 4) (T := TX4) (j := 4) S dX4_put_75 (by rw [hn]; decide) (by decide) (ci := 4) rfl rfl (by decide) in_4 m_676 rfl rfl (by simp [zu, zset, upd]) (n := 78) rfl ?_
      refine k_icmp_ge S dX4_put_78 (tgt := 85) (by decide) (n := 81) rfl (fun c8 => ?_) (fun c8 => ?_)
      ·
        refine k_aload0 S dX4_put_85 (n := 86) rfl ?_
        refine k_getv (v := μ.1 21 4) (T := TX4) (j := 4) S dX4_put_86 (by rw [hn]; decide) (by decide) (ci := 4) rfl rfl (by decide) in_4 m_676 rfl rfl (by simp [zu, zset, upd]) (n := 89) rfl ?_
        rw [if_neg c3, if_pos c8] at hJ4
        exact hJ4
      ·
        refine k_iload1 S dX4_put_81 (n := 82) rfl ?_
        refine k_goto S dX4_put_82 (tgt := 89) (by decide) ?_
        rw [if_neg c3, if_neg c8] at hJ4
        exact hJ4
  refine k_if_ne S dX4_put_49 (tgt := 56) (by decide) (n := 52) rfl (fun c1 => ?_) (fun c1 => ?_)
  ·
    refine k_aload0 S dX4_put_56 (n := 57) rfl ?_
    refine k_getv (v := μ.1 21 3) (T := TX4) (j := 3) S dX4_put_57 (by rw [hn]; decide) (by decide) (ci := 4) rfl rfl (by decide) in_4 m_675 rfl rfl (by simp [zu, zset, upd]) (n := 60) rfl ?_
    refine k_iload1 S dX4_put_60 (n := 61) rfl ?_
    refine k_iadd S dX4_put_61 (n := 62) rfl ?_
    rw [if_neg c1] at hJ2
    exact hJ2
  ·
    refine k_iload1 S dX4_put_52 (n := 53) rfl ?_
    refine k_goto S dX4_put_53 (tgt := 62) (by decide) ?_
    rw [if_pos c1] at hJ2
    exact hJ2
set_option maxRecDepth 100000 in
set_option maxHeartbeats 4000000 in
theorem c_X4_newPhase_a {l : Launch} {g : zG} {μ : zM} {c d f : Nat} (hn : zn g = 32) (hc : μ.1 21 9 = nI c) (h1 : 1 ≤ c) (hc10 : c ≤ 10) (hs : μ.1 25 (c - 1) = nI f) (hd : μ.1 21 1 = nI d) (hf : f ≤ 60) (hd60 : d ≤ 60) (h2 : f = d) : zC l g yX4_newPhase cX4_newPhase 1 (some .int) ({ frames := 0, cells := 0, slots := 0, locals := 0 } : Room) 0 0 [.ref (za g 21)] μ (zRv (some (.int 0)) (zu μ 21 23 1)) zNX := by
  refine zC_of (L0 := [some (.ref (za g 21))]) (plainFor_of_name (by decide)) (Nat.le_of_ble_eq_true rfl) rfl ?_
  intro x S Y hxl
  subst hxl
  refine k_aload0 S dX4_newPhase_0 (n := 1) rfl ?_
  refine k_aload0 S dX4_newPhase_1 (n := 2) rfl ?_
  refine k_getr (r := 25) (T := TX4) (j := 10) S dX4_newPhase_2 (by rw [hn]; decide) (by decide) (ci := 4) rfl rfl (by decide) in_4 m_682 rfl rfl (n := 5) rfl ?_
  refine k_aload0 S dX4_newPhase_5 (n := 6) rfl ?_
  refine k_getv (v := nI c) (T := TX4) (j := 9) S dX4_newPhase_6 (by rw [hn]; decide) (by decide) (ci := 4) rfl rfl (by decide) in_4 m_681 rfl rfl hc (n := 9) rfl ?_
  refine k_iconst S dX4_newPhase_9 (v := 1) (by decide) (n := 10) rfl ?_
  refine k_isub S dX4_newPhase_10 (n := 11) rfl ?_
  refine k_ialdv (v := nI f) S dX4_newPhase_11 (j := (c - 1)) (by rw [hn]; decide) (by decide) (pk_sub (a := c) (b := 1) h1) (show c - 1 < 10 by omega) (by decide) hs (n := 12) rfl ?_
  refine k_aload0 S dX4_newPhase_12 (n := 13) rfl ?_
  refine k_getv (v := nI d) (T := TX4) (j := 1) S dX4_newPhase_13 (by rw [hn]; decide) (by decide) (ci := 4) rfl rfl (by decide) in_4 m_673 rfl rfl hd (n := 16) rfl ?_
  refine k_icmp_eq S dX4_newPhase_16 (tgt := 35) (by decide) (n := 19) rfl (fun _ => ?_) (fun h9 => absurd (by rw [h2]) h9)
  refine k_iconst S dX4_newPhase_35 (v := 1) (by decide) (n := 36) rfl ?_
  refine k_goto S dX4_newPhase_36 (tgt := 40) (by decide) ?_
  refine k_put (T := TX4) (j := 23) S dX4_newPhase_40 (by rw [hn]; decide) (by decide) (ci := 4) rfl rfl (by decide) in_4 m_695 rfl rfl (ty0 := tyX4) tyX4_ok nmX4 rfl rfl rfl (n := 43) rfl ?_
  refine k_aload0 S dX4_newPhase_43 (n := 44) rfl ?_
  refine k_getv (v := 1) (T := TX4) (j := 23) S dX4_newPhase_44 (by rw [hn]; decide) (by decide) (ci := 4) rfl rfl (by decide) in_4 m_695 rfl rfl (by simp [zu, zset, upd]) (n := 47) rfl ?_
  refine k_if_le S dX4_newPhase_47 (tgt := 52) (by decide) (n := 50) rfl (fun h9 => absurd h9 (by decide)) (fun _ => ?_)
  refine k_iconst S dX4_newPhase_50 (v := 0) (by decide) (n := 51) rfl ?_
  exact k_iret S Y dX4_newPhase_51 (by decide) (by decide) rfl (⟨rfl, rfl⟩)
set_option maxRecDepth 100000 in
set_option maxHeartbeats 4000000 in
theorem c_X4_newPhase_b {l : Launch} {g : zG} {μ : zM} {c d f : Nat} (hn : zn g = 32) (hc : μ.1 21 9 = nI c) (h1 : 1 ≤ c) (hc10 : c ≤ 10) (hs : μ.1 25 (c - 1) = nI f) (hd : μ.1 21 1 = nI d) (hf : f ≤ 60) (hd60 : d ≤ 60) (h2 : ¬ f = d) (h3 : 0 < μ.1 21 2) : zC l g yX4_newPhase cX4_newPhase 1 (some .int) ({ frames := 0, cells := 0, slots := 0, locals := 0 } : Room) 0 0 [.ref (za g 21)] μ (zRv (some (.int 0)) (zu μ 21 23 1)) zNX := by
  refine zC_of (L0 := [some (.ref (za g 21))]) (plainFor_of_name (by decide)) (Nat.le_of_ble_eq_true rfl) rfl ?_
  intro x S Y hxl
  subst hxl
  refine k_aload0 S dX4_newPhase_0 (n := 1) rfl ?_
  refine k_aload0 S dX4_newPhase_1 (n := 2) rfl ?_
  refine k_getr (r := 25) (T := TX4) (j := 10) S dX4_newPhase_2 (by rw [hn]; decide) (by decide) (ci := 4) rfl rfl (by decide) in_4 m_682 rfl rfl (n := 5) rfl ?_
  refine k_aload0 S dX4_newPhase_5 (n := 6) rfl ?_
  refine k_getv (v := nI c) (T := TX4) (j := 9) S dX4_newPhase_6 (by rw [hn]; decide) (by decide) (ci := 4) rfl rfl (by decide) in_4 m_681 rfl rfl hc (n := 9) rfl ?_
  refine k_iconst S dX4_newPhase_9 (v := 1) (by decide) (n := 10) rfl ?_
  refine k_isub S dX4_newPhase_10 (n := 11) rfl ?_
  refine k_ialdv (v := nI f) S dX4_newPhase_11 (j := (c - 1)) (by rw [hn]; decide) (by decide) (pk_sub (a := c) (b := 1) h1) (show c - 1 < 10 by omega) (by decide) hs (n := 12) rfl ?_
  refine k_aload0 S dX4_newPhase_12 (n := 13) rfl ?_
  refine k_getv (v := nI d) (T := TX4) (j := 1) S dX4_newPhase_13 (by rw [hn]; decide) (by decide) (ci := 4) rfl rfl (by decide) in_4 m_673 rfl rfl hd (n := 16) rfl ?_
  refine k_icmp_eq S dX4_newPhase_16 (tgt := 35) (by decide) (n := 19) rfl (fun h9 => absurd h9 (fun q => h2 ((nI_eq (by omega) (by omega)).mp q))) (fun _ => ?_)
  refine k_aload0 S dX4_newPhase_19 (n := 20) rfl ?_
  refine k_geti (T := TX4) (j := 2) S dX4_newPhase_20 (by rw [hn]; decide) (by decide) (ci := 4) rfl rfl (by decide) in_4 m_674 rfl rfl (n := 23) rfl ?_
  refine k_if_gt S dX4_newPhase_23 (tgt := 35) (by decide) (n := 26) rfl (fun _ => ?_) (fun h9 => absurd (h3) h9)
  refine k_iconst S dX4_newPhase_35 (v := 1) (by decide) (n := 36) rfl ?_
  refine k_goto S dX4_newPhase_36 (tgt := 40) (by decide) ?_
  refine k_put (T := TX4) (j := 23) S dX4_newPhase_40 (by rw [hn]; decide) (by decide) (ci := 4) rfl rfl (by decide) in_4 m_695 rfl rfl (ty0 := tyX4) tyX4_ok nmX4 rfl rfl rfl (n := 43) rfl ?_
  refine k_aload0 S dX4_newPhase_43 (n := 44) rfl ?_
  refine k_getv (v := 1) (T := TX4) (j := 23) S dX4_newPhase_44 (by rw [hn]; decide) (by decide) (ci := 4) rfl rfl (by decide) in_4 m_695 rfl rfl (by simp [zu, zset, upd]) (n := 47) rfl ?_
  refine k_if_le S dX4_newPhase_47 (tgt := 52) (by decide) (n := 50) rfl (fun h9 => absurd h9 (by decide)) (fun _ => ?_)
  refine k_iconst S dX4_newPhase_50 (v := 0) (by decide) (n := 51) rfl ?_
  exact k_iret S Y dX4_newPhase_51 (by decide) (by decide) rfl (⟨rfl, rfl⟩)
set_option maxRecDepth 100000 in
set_option maxHeartbeats 4000000 in
theorem c_X4_newPhase_c {l : Launch} {g : zG} {μ : zM} {c d f : Nat} (hn : zn g = 32) (hc : μ.1 21 9 = nI c) (h1 : 1 ≤ c) (hc10 : c ≤ 10) (hs : μ.1 25 (c - 1) = nI f) (hd : μ.1 21 1 = nI d) (hf : f ≤ 60) (hd60 : d ≤ 60) (h2 : ¬ f = d) (h3 : ¬ 0 < μ.1 21 2) (h4 : c = 10) : zC l g yX4_newPhase cX4_newPhase 1 (some .int) ({ frames := 0, cells := 0, slots := 0, locals := 0 } : Room) 0 0 [.ref (za g 21)] μ (zRv (some (.int 0)) (zu μ 21 23 1)) zNX := by
  refine zC_of (L0 := [some (.ref (za g 21))]) (plainFor_of_name (by decide)) (Nat.le_of_ble_eq_true rfl) rfl ?_
  intro x S Y hxl
  subst hxl
  refine k_aload0 S dX4_newPhase_0 (n := 1) rfl ?_
  refine k_aload0 S dX4_newPhase_1 (n := 2) rfl ?_
  refine k_getr (r := 25) (T := TX4) (j := 10) S dX4_newPhase_2 (by rw [hn]; decide) (by decide) (ci := 4) rfl rfl (by decide) in_4 m_682 rfl rfl (n := 5) rfl ?_
  refine k_aload0 S dX4_newPhase_5 (n := 6) rfl ?_
  refine k_getv (v := nI c) (T := TX4) (j := 9) S dX4_newPhase_6 (by rw [hn]; decide) (by decide) (ci := 4) rfl rfl (by decide) in_4 m_681 rfl rfl hc (n := 9) rfl ?_
  refine k_iconst S dX4_newPhase_9 (v := 1) (by decide) (n := 10) rfl ?_
  refine k_isub S dX4_newPhase_10 (n := 11) rfl ?_
  refine k_ialdv (v := nI f) S dX4_newPhase_11 (j := (c - 1)) (by rw [hn]; decide) (by decide) (pk_sub (a := c) (b := 1) h1) (show c - 1 < 10 by omega) (by decide) hs (n := 12) rfl ?_
  refine k_aload0 S dX4_newPhase_12 (n := 13) rfl ?_
  refine k_getv (v := nI d) (T := TX4) (j := 1) S dX4_newPhase_13 (by rw [hn]; decide) (by decide) (ci := 4) rfl rfl (by decide) in_4 m_673 rfl rfl hd (n := 16) rfl ?_
  refine k_icmp_eq S dX4_newPhase_16 (tgt := 35) (by decide) (n := 19) rfl (fun h9 => absurd h9 (fun q => h2 ((nI_eq (by omega) (by omega)).mp q))) (fun _ => ?_)
  refine k_aload0 S dX4_newPhase_19 (n := 20) rfl ?_
  refine k_geti (T := TX4) (j := 2) S dX4_newPhase_20 (by rw [hn]; decide) (by decide) (ci := 4) rfl rfl (by decide) in_4 m_674 rfl rfl (n := 23) rfl ?_
  refine k_if_gt S dX4_newPhase_23 (tgt := 35) (by decide) (n := 26) rfl (fun h9 => absurd h9 (h3)) (fun _ => ?_)
  refine k_aload0 S dX4_newPhase_26 (n := 27) rfl ?_
  refine k_getv (v := nI c) (T := TX4) (j := 9) S dX4_newPhase_27 (by rw [hn]; decide) (by decide) (ci := 4) rfl rfl (by decide) in_4 m_681 rfl rfl hc (n := 30) rfl ?_
  refine k_bipush S dX4_newPhase_30 (v := 10) (by decide) (n := 32) rfl ?_
  refine k_icmp_ne S dX4_newPhase_32 (tgt := 39) (by decide) (n := 35) rfl (fun h9 => absurd (by rw [h4]; rfl) h9) (fun _ => ?_)
  refine k_iconst S dX4_newPhase_35 (v := 1) (by decide) (n := 36) rfl ?_
  refine k_goto S dX4_newPhase_36 (tgt := 40) (by decide) ?_
  refine k_put (T := TX4) (j := 23) S dX4_newPhase_40 (by rw [hn]; decide) (by decide) (ci := 4) rfl rfl (by decide) in_4 m_695 rfl rfl (ty0 := tyX4) tyX4_ok nmX4 rfl rfl rfl (n := 43) rfl ?_
  refine k_aload0 S dX4_newPhase_43 (n := 44) rfl ?_
  refine k_getv (v := 1) (T := TX4) (j := 23) S dX4_newPhase_44 (by rw [hn]; decide) (by decide) (ci := 4) rfl rfl (by decide) in_4 m_695 rfl rfl (by simp [zu, zset, upd]) (n := 47) rfl ?_
  refine k_if_le S dX4_newPhase_47 (tgt := 52) (by decide) (n := 50) rfl (fun h9 => absurd h9 (by decide)) (fun _ => ?_)
  refine k_iconst S dX4_newPhase_50 (v := 0) (by decide) (n := 51) rfl ?_
  exact k_iret S Y dX4_newPhase_51 (by decide) (by decide) rfl (⟨rfl, rfl⟩)
theorem zin1 {c : Nat} (h : 1 ≤ c) : nI c + 1 - 1 = nI c := by
  rw [← nI_succ]
  exact pk_sub (a := c + 1) (b := 1) (by omega)
def m_X4_newPhase (μ : zM) (c d : Nat) : zM := zu (zu (zu (zu μ 21 23 0) 25 c (nI d)) 26 c 0) 21 9 (nI c + 1)
set_option maxRecDepth 100000 in
set_option maxHeartbeats 4000000 in
theorem c_X4_newPhase_ok {l : Launch} {g : zG} {μ : zM} {c d f : Nat} (hn : zn g = 32) (hc : μ.1 21 9 = nI c) (h1 : 1 ≤ c) (hc10 : c ≤ 10) (hs : μ.1 25 (c - 1) = nI f) (hd : μ.1 21 1 = nI d) (hf : f ≤ 60) (hd60 : d ≤ 60) (h2 : ¬ f = d) (h3 : ¬ 0 < μ.1 21 2) (h4 : c < 10) : zC l g yX4_newPhase cX4_newPhase 1 (some .int) ({ frames := 0, cells := 0, slots := 0, locals := 0 } : Room) 0 0 [.ref (za g 21)] μ (zRv (some (.int (nI c))) (m_X4_newPhase μ c d)) zNX := by
  refine zC_of (L0 := [some (.ref (za g 21))]) (plainFor_of_name (by decide)) (Nat.le_of_ble_eq_true rfl) rfl ?_
  intro x S Y hxl
  subst hxl
  refine k_aload0 S dX4_newPhase_0 (n := 1) rfl ?_
  refine k_aload0 S dX4_newPhase_1 (n := 2) rfl ?_
  refine k_getr (r := 25) (T := TX4) (j := 10) S dX4_newPhase_2 (by rw [hn]; decide) (by decide) (ci := 4) rfl rfl (by decide) in_4 m_682 rfl rfl (n := 5) rfl ?_
  refine k_aload0 S dX4_newPhase_5 (n := 6) rfl ?_
  refine k_getv (v := nI c) (T := TX4) (j := 9) S dX4_newPhase_6 (by rw [hn]; decide) (by decide) (ci := 4) rfl rfl (by decide) in_4 m_681 rfl rfl hc (n := 9) rfl ?_
  refine k_iconst S dX4_newPhase_9 (v := 1) (by decide) (n := 10) rfl ?_
  refine k_isub S dX4_newPhase_10 (n := 11) rfl ?_
  refine k_ialdv (v := nI f) S dX4_newPhase_11 (j := (c - 1)) (by rw [hn]; decide) (by decide) (pk_sub (a := c) (b := 1) h1) (show c - 1 < 10 by omega) (by decide) hs (n := 12) rfl ?_
  refine k_aload0 S dX4_newPhase_12 (n := 13) rfl ?_
  refine k_getv (v := nI d) (T := TX4) (j := 1) S dX4_newPhase_13 (by rw [hn]; decide) (by decide) (ci := 4) rfl rfl (by decide) in_4 m_673 rfl rfl hd (n := 16) rfl ?_
  refine k_icmp_eq S dX4_newPhase_16 (tgt := 35) (by decide) (n := 19) rfl (fun h9 => absurd h9 (fun q => h2 ((nI_eq (by omega) (by omega)).mp q))) (fun _ => ?_)
  refine k_aload0 S dX4_newPhase_19 (n := 20) rfl ?_
  refine k_geti (T := TX4) (j := 2) S dX4_newPhase_20 (by rw [hn]; decide) (by decide) (ci := 4) rfl rfl (by decide) in_4 m_674 rfl rfl (n := 23) rfl ?_
  refine k_if_gt S dX4_newPhase_23 (tgt := 35) (by decide) (n := 26) rfl (fun h9 => absurd h9 (h3)) (fun _ => ?_)
  refine k_aload0 S dX4_newPhase_26 (n := 27) rfl ?_
  refine k_getv (v := nI c) (T := TX4) (j := 9) S dX4_newPhase_27 (by rw [hn]; decide) (by decide) (ci := 4) rfl rfl (by decide) in_4 m_681 rfl rfl hc (n := 30) rfl ?_
  refine k_bipush S dX4_newPhase_30 (v := 10) (by decide) (n := 32) rfl ?_
  refine k_icmp_ne S dX4_newPhase_32 (tgt := 39) (by decide) (n := 35) rfl (fun _ => ?_) (fun h9 => absurd h9 (fun q => by have := (nI_eq (b := 10) (by omega) (by decide)).mp q; omega))
  refine k_iconst S dX4_newPhase_39 (v := 0) (by decide) (n := 40) rfl ?_
  refine k_put (T := TX4) (j := 23) S dX4_newPhase_40 (by rw [hn]; decide) (by decide) (ci := 4) rfl rfl (by decide) in_4 m_695 rfl rfl (ty0 := tyX4) tyX4_ok nmX4 rfl rfl rfl (n := 43) rfl ?_
  refine k_aload0 S dX4_newPhase_43 (n := 44) rfl ?_
  refine k_getv (v := 0) (T := TX4) (j := 23) S dX4_newPhase_44 (by rw [hn]; decide) (by decide) (ci := 4) rfl rfl (by decide) in_4 m_695 rfl rfl (by simp [zu, zset, upd]) (n := 47) rfl ?_
  refine k_if_le S dX4_newPhase_47 (tgt := 52) (by decide) (n := 50) rfl (fun _ => ?_) (fun h9 => absurd (by decide) h9)
  refine k_aload0 S dX4_newPhase_52 (n := 53) rfl ?_
  refine k_getr (r := 25) (T := TX4) (j := 10) S dX4_newPhase_53 (by rw [hn]; decide) (by decide) (ci := 4) rfl rfl (by decide) in_4 m_682 rfl rfl (n := 56) rfl ?_
  refine k_aload0 S dX4_newPhase_56 (n := 57) rfl ?_
  refine k_getv (v := nI c) (T := TX4) (j := 9) S dX4_newPhase_57 (by rw [hn]; decide) (by decide) (ci := 4) rfl rfl (by decide) in_4 m_681 rfl rfl (by simp [zu, hc]) (n := 60) rfl ?_
  refine k_aload0 S dX4_newPhase_60 (n := 61) rfl ?_
  refine k_getv (v := nI d) (T := TX4) (j := 1) S dX4_newPhase_61 (by rw [hn]; decide) (by decide) (ci := 4) rfl rfl (by decide) in_4 m_673 rfl rfl (by simp [zu, hd]) (n := 64) rfl ?_
  refine k_iast S dX4_newPhase_64 (j := c) (by rw [hn]; decide) (by decide) rfl (show c < 10 by omega) (by decide) (n := 65) rfl ?_
  refine k_aload0 S dX4_newPhase_65 (n := 66) rfl ?_
  refine k_getr (r := 26) (T := TX4) (j := 11) S dX4_newPhase_66 (by rw [hn]; decide) (by decide) (ci := 4) rfl rfl (by decide) in_4 m_683 rfl rfl (n := 69) rfl ?_
  refine k_aload0 S dX4_newPhase_69 (n := 70) rfl ?_
  refine k_getv (v := nI c) (T := TX4) (j := 9) S dX4_newPhase_70 (by rw [hn]; decide) (by decide) (ci := 4) rfl rfl (by decide) in_4 m_681 rfl rfl (by simp [zu, hc]) (n := 73) rfl ?_
  refine k_iconst S dX4_newPhase_73 (v := 0) (by decide) (n := 74) rfl ?_
  refine k_zast S dX4_newPhase_74 (j := c) (by rw [hn]; decide) (by decide) rfl (show c < 10 by omega) (by decide) rfl (n := 75) rfl ?_
  refine k_aload0 S dX4_newPhase_75 (n := 76) rfl ?_
  refine k_dup S dX4_newPhase_76 rfl (n := 77) rfl ?_
  refine k_getv (v := nI c) (T := TX4) (j := 9) S dX4_newPhase_77 (by rw [hn]; decide) (by decide) (ci := 4) rfl rfl (by decide) in_4 m_681 rfl rfl (by simp [zu, hc]) (n := 80) rfl ?_
  refine k_iconst S dX4_newPhase_80 (v := 1) (by decide) (n := 81) rfl ?_
  refine k_iadd S dX4_newPhase_81 (n := 82) rfl ?_
  refine k_put (T := TX4) (j := 9) S dX4_newPhase_82 (by rw [hn]; decide) (by decide) (ci := 4) rfl rfl (by decide) in_4 m_681 rfl rfl (ty0 := tyX4) tyX4_ok nmX4 rfl rfl rfl (n := 85) rfl ?_
  refine k_aload0 S dX4_newPhase_85 (n := 86) rfl ?_
  refine k_getv (v := (nI c) + 1) (T := TX4) (j := 9) S dX4_newPhase_86 (by rw [hn]; decide) (by decide) (ci := 4) rfl rfl (by decide) in_4 m_681 rfl rfl (by simp [zu, zset, upd]) (n := 89) rfl ?_
  refine k_iconst S dX4_newPhase_89 (v := 1) (by decide) (n := 90) rfl ?_
  refine k_isub S dX4_newPhase_90 (n := 91) rfl ?_
  exact k_iret S Y dX4_newPhase_91 (by decide) (by decide) rfl (⟨congrArg (fun z => some (Value.int z)) (zin1 h1), rfl⟩)
def m_X4_freeze (μ : zM) (ph : Nat → Nat) (k d s : Nat) : zM := zu (zu (zu μ 27 k (zLC μ ph k d s)) 28 k (zLR μ ph k d)) 26 k 1
theorem zfr_n {μ ν : zM} {k : Nat} {w a b e : Int32} (h : zNear (zu μ 21 23 w) ν) : zNear (zu (zu (zu (zu μ 27 k a) 28 k b) 26 k e) 21 23 0) (zu (zu (zu (zu ν 21 23 0) 27 k a) 28 k b) 26 k e) := by
  have q := (((h.thr (w' := 0)).uu 27 k a).uu 28 k b).uu 26 k e
  rw [zu_comm (p := 21) (q := 27) 0 a (by omega), zu_comm (p := 21) (q := 28) 0 b (by omega), zu_comm (p := 21) (q := 26) 0 e (by omega)] at q
  exact q
set_option maxRecDepth 100000 in
set_option maxHeartbeats 4000000 in
theorem c_X4_freeze_a {l : Launch} {g : zG} {μ : zM} {k : Nat} {d c s : Nat} {ph fs : Nat → Nat}  (hn : zn g = 32) (Q : zQ μ d c s ph fs) (hk : k < c) (hz : ¬ μ.1 26 k = 0) : zC l g yX4_freeze cX4_freeze 2 none ({ frames := 4, cells := 0, slots := 0, locals := 97 } : Room) 0 0 [.ref (za g 21), .int (nI k)] μ (zRn μ none 2) zNX := by
  refine zC_of (L0 := [some (.ref (za g 21)), some (.int (nI k))]) (plainFor_of_name (by decide)) (Nat.le_of_ble_eq_true rfl) rfl ?_
  intro x S Y hxl
  subst hxl
  refine k_aload0 S dX4_freeze_0 (n := 1) rfl ?_
  refine k_iload1 S dX4_freeze_1 (n := 2) rfl ?_
  refine k_callV (As := [.int (nI k)]) (rest := []) (p := 21) S (c_X4_isPhase_ok hn Q.1.1 (by have := Q.c10; omega) hk) mv_X4_isPhase m_769 dX4_freeze_2 rfl rfl ⟨by decide, by decide⟩ (by rw [hn]; decide) (by decide) (ci := 4) rfl rfl rfl (Nat.le_of_ble_eq_true rfl) ⟨by decide, by decide⟩ (n := 5) rfl (fun _ _ h => h.elim) (fun v9 ν9 h9 => ?_)
  rw [h9.1, h9.2]
  show zK x g ({ frames := 4, cells := 0, slots := 0, locals := 97 } : Room) 2 0 0 5 [some (.ref (za g 21)), some (.int (nI k))] [.int 1] (zu μ 21 23 0)
  refine k_if_ne S dX4_freeze_5 (tgt := 9) (by decide) (n := 8) rfl (fun _ => ?_) (fun h9 => absurd h9 (by decide))
  refine k_aload0 S dX4_freeze_9 (n := 10) rfl ?_
  refine k_iload1 S dX4_freeze_10 (n := 11) rfl ?_
  refine k_callV (As := [.int (nI k)]) (rest := []) (p := 21) S (c_X4_laysLimitsR (t := k) hn (Q.thr 0) hk) mv_X4_laysLimits m_773 dX4_freeze_11 rfl rfl ⟨by decide, by decide⟩ (by rw [hn]; decide) (by decide) (ci := 4) rfl rfl rfl (Nat.le_of_ble_eq_true rfl) ⟨by decide, by decide⟩ (n := 14) rfl (fun _ _ h => h.elim) (fun v9 ν1 h9 => ?_)
  obtain ⟨e1, hL⟩ := h9
  rw [e1]
  show zK x g ({ frames := 4, cells := 0, slots := 0, locals := 97 } : Room) 2 0 0 14 [some (.ref (za g 21)), some (.int (nI k))] [] ν1
  have h10 := Q.c10
  have hL1 := hL.thr
  have h26 : ν1.1 26 k = μ.1 26 k := (hL1.1.2 26 k rfl).trans (zu_ne _ (by omega))
  refine k_aload0 S dX4_freeze_14 (n := 15) rfl ?_
  refine k_aload0 S dX4_freeze_15 (n := 16) rfl ?_
  refine k_getr (r := 26) (T := TX4) (j := 11) S dX4_freeze_16 (by rw [hn]; decide) (by decide) (ci := 4) rfl rfl (by decide) in_4 m_683 rfl rfl (n := 19) rfl ?_
  refine k_iload1 S dX4_freeze_19 (n := 20) rfl ?_
  refine k_zaldv (v := μ.1 26 k) S dX4_freeze_20 (j := k) (by rw [hn]; decide) (by decide) rfl (show k < 10 by omega) (by decide) h26 (n := 21) rfl ?_
  refine k_if_ne S dX4_freeze_21 (tgt := 32) (by decide) (n := 24) rfl (fun _ => ?_) (fun h9 => absurd h9 (hz))
  refine k_iconst S dX4_freeze_32 (v := 2) (by decide) (n := 33) rfl ?_
  refine k_goto S dX4_freeze_33 (tgt := 37) (by decide) ?_
  refine k_put (T := TX4) (j := 23) S dX4_freeze_37 (by rw [hn]; decide) (by decide) (ci := 4) rfl rfl (by decide) in_4 m_695 rfl rfl (ty0 := tyX4) tyX4_ok nmX4 rfl rfl rfl (n := 40) rfl ?_
  refine k_aload0 S dX4_freeze_40 (n := 41) rfl ?_
  refine k_getv (v := 2) (T := TX4) (j := 23) S dX4_freeze_41 (by rw [hn]; decide) (by decide) (ci := 4) rfl rfl (by decide) in_4 m_695 rfl rfl (by simp [zu, zset, upd]) (n := 44) rfl ?_
  refine k_if_ne S dX4_freeze_44 (tgt := 74) (by decide) (n := 47) rfl (fun _ => ?_) (fun h9 => absurd h9 (by decide))
  exact k_vret S Y dX4_freeze_74 (by decide) (by decide) (⟨rfl, hL1.1.thr⟩)
set_option maxRecDepth 100000 in
set_option maxHeartbeats 4000000 in
theorem c_X4_freeze_b {l : Launch} {g : zG} {μ : zM} {k : Nat} {d c s : Nat} {ph fs : Nat → Nat}  (hn : zn g = 32) (Q : zQ μ d c s ph fs) (hk : k < c) (hz : μ.1 26 k = 0) (hm : zpc ph (μ.1 24) k d < 2) : zC l g yX4_freeze cX4_freeze 2 none ({ frames := 4, cells := 0, slots := 0, locals := 97 } : Room) 0 0 [.ref (za g 21), .int (nI k)] μ (zRn μ none 2) zNX := by
  refine zC_of (L0 := [some (.ref (za g 21)), some (.int (nI k))]) (plainFor_of_name (by decide)) (Nat.le_of_ble_eq_true rfl) rfl ?_
  intro x S Y hxl
  subst hxl
  refine k_aload0 S dX4_freeze_0 (n := 1) rfl ?_
  refine k_iload1 S dX4_freeze_1 (n := 2) rfl ?_
  refine k_callV (As := [.int (nI k)]) (rest := []) (p := 21) S (c_X4_isPhase_ok hn Q.1.1 (by have := Q.c10; omega) hk) mv_X4_isPhase m_769 dX4_freeze_2 rfl rfl ⟨by decide, by decide⟩ (by rw [hn]; decide) (by decide) (ci := 4) rfl rfl rfl (Nat.le_of_ble_eq_true rfl) ⟨by decide, by decide⟩ (n := 5) rfl (fun _ _ h => h.elim) (fun v9 ν9 h9 => ?_)
  rw [h9.1, h9.2]
  show zK x g ({ frames := 4, cells := 0, slots := 0, locals := 97 } : Room) 2 0 0 5 [some (.ref (za g 21)), some (.int (nI k))] [.int 1] (zu μ 21 23 0)
  refine k_if_ne S dX4_freeze_5 (tgt := 9) (by decide) (n := 8) rfl (fun _ => ?_) (fun h9 => absurd h9 (by decide))
  refine k_aload0 S dX4_freeze_9 (n := 10) rfl ?_
  refine k_iload1 S dX4_freeze_10 (n := 11) rfl ?_
  refine k_callV (As := [.int (nI k)]) (rest := []) (p := 21) S (c_X4_laysLimitsR (t := k) hn (Q.thr 0) hk) mv_X4_laysLimits m_773 dX4_freeze_11 rfl rfl ⟨by decide, by decide⟩ (by rw [hn]; decide) (by decide) (ci := 4) rfl rfl rfl (Nat.le_of_ble_eq_true rfl) ⟨by decide, by decide⟩ (n := 14) rfl (fun _ _ h => h.elim) (fun v9 ν1 h9 => ?_)
  obtain ⟨e1, hL⟩ := h9
  rw [e1]
  show zK x g ({ frames := 4, cells := 0, slots := 0, locals := 97 } : Room) 2 0 0 14 [some (.ref (za g 21)), some (.int (nI k))] [] ν1
  have h10 := Q.c10
  have hL1 := hL.thr
  have h26 : ν1.1 26 k = μ.1 26 k := (hL1.1.2 26 k rfl).trans (zu_ne _ (by omega))
  refine k_aload0 S dX4_freeze_14 (n := 15) rfl ?_
  refine k_aload0 S dX4_freeze_15 (n := 16) rfl ?_
  refine k_getr (r := 26) (T := TX4) (j := 11) S dX4_freeze_16 (by rw [hn]; decide) (by decide) (ci := 4) rfl rfl (by decide) in_4 m_683 rfl rfl (n := 19) rfl ?_
  refine k_iload1 S dX4_freeze_19 (n := 20) rfl ?_
  refine k_zaldv (v := μ.1 26 k) S dX4_freeze_20 (j := k) (by rw [hn]; decide) (by decide) rfl (show k < 10 by omega) (by decide) h26 (n := 21) rfl ?_
  refine k_if_ne S dX4_freeze_21 (tgt := 32) (by decide) (n := 24) rfl (fun h9 => absurd (hz) h9) (fun _ => ?_)
  refine k_aload0 S dX4_freeze_24 (n := 25) rfl ?_
  refine k_getv (v := nI (zpc ph (μ.1 24) k d)) (T := TX4) (j := 20) S dX4_freeze_25 (by rw [hn]; decide) (by decide) (ci := 4) rfl rfl (by decide) in_4 m_692 rfl rfl hL1.2.1 (n := 28) rfl ?_
  refine k_iconst S dX4_freeze_28 (v := 2) (by decide) (n := 29) rfl ?_
  refine k_icmp_ge S dX4_freeze_29 (tgt := 36) (by decide) (n := 32) rfl (fun h9 => absurd h9 (nI_ge (b := 2) hm (by decide))) (fun _ => ?_)
  refine k_iconst S dX4_freeze_32 (v := 2) (by decide) (n := 33) rfl ?_
  refine k_goto S dX4_freeze_33 (tgt := 37) (by decide) ?_
  refine k_put (T := TX4) (j := 23) S dX4_freeze_37 (by rw [hn]; decide) (by decide) (ci := 4) rfl rfl (by decide) in_4 m_695 rfl rfl (ty0 := tyX4) tyX4_ok nmX4 rfl rfl rfl (n := 40) rfl ?_
  refine k_aload0 S dX4_freeze_40 (n := 41) rfl ?_
  refine k_getv (v := 2) (T := TX4) (j := 23) S dX4_freeze_41 (by rw [hn]; decide) (by decide) (ci := 4) rfl rfl (by decide) in_4 m_695 rfl rfl (by simp [zu, zset, upd]) (n := 44) rfl ?_
  refine k_if_ne S dX4_freeze_44 (tgt := 74) (by decide) (n := 47) rfl (fun _ => ?_) (fun h9 => absurd h9 (by decide))
  exact k_vret S Y dX4_freeze_74 (by decide) (by decide) (⟨rfl, hL1.1.thr⟩)
set_option maxRecDepth 100000 in
set_option maxHeartbeats 4000000 in
theorem c_X4_freeze_ok {l : Launch} {g : zG} {μ : zM} {k : Nat} {d c s : Nat} {ph fs : Nat → Nat}  (hn : zn g = 32) (Q : zQ μ d c s ph fs) (hk : k < c) (hz : μ.1 26 k = 0) (hm : 2 ≤ zpc ph (μ.1 24) k d) : zC l g yX4_freeze cX4_freeze 2 none ({ frames := 4, cells := 0, slots := 0, locals := 97 } : Room) 0 0 [.ref (za g 21), .int (nI k)] μ (zRt (m_X4_freeze μ ph k d s) none 0) zNX := by
  refine zC_of (L0 := [some (.ref (za g 21)), some (.int (nI k))]) (plainFor_of_name (by decide)) (Nat.le_of_ble_eq_true rfl) rfl ?_
  intro x S Y hxl
  subst hxl
  refine k_aload0 S dX4_freeze_0 (n := 1) rfl ?_
  refine k_iload1 S dX4_freeze_1 (n := 2) rfl ?_
  refine k_callV (As := [.int (nI k)]) (rest := []) (p := 21) S (c_X4_isPhase_ok hn Q.1.1 (by have := Q.c10; omega) hk) mv_X4_isPhase m_769 dX4_freeze_2 rfl rfl ⟨by decide, by decide⟩ (by rw [hn]; decide) (by decide) (ci := 4) rfl rfl rfl (Nat.le_of_ble_eq_true rfl) ⟨by decide, by decide⟩ (n := 5) rfl (fun _ _ h => h.elim) (fun v9 ν9 h9 => ?_)
  rw [h9.1, h9.2]
  show zK x g ({ frames := 4, cells := 0, slots := 0, locals := 97 } : Room) 2 0 0 5 [some (.ref (za g 21)), some (.int (nI k))] [.int 1] (zu μ 21 23 0)
  refine k_if_ne S dX4_freeze_5 (tgt := 9) (by decide) (n := 8) rfl (fun _ => ?_) (fun h9 => absurd h9 (by decide))
  refine k_aload0 S dX4_freeze_9 (n := 10) rfl ?_
  refine k_iload1 S dX4_freeze_10 (n := 11) rfl ?_
  refine k_callV (As := [.int (nI k)]) (rest := []) (p := 21) S (c_X4_laysLimitsR (t := k) hn (Q.thr 0) hk) mv_X4_laysLimits m_773 dX4_freeze_11 rfl rfl ⟨by decide, by decide⟩ (by rw [hn]; decide) (by decide) (ci := 4) rfl rfl rfl (Nat.le_of_ble_eq_true rfl) ⟨by decide, by decide⟩ (n := 14) rfl (fun _ _ h => h.elim) (fun v9 ν1 h9 => ?_)
  obtain ⟨e1, hL⟩ := h9
  rw [e1]
  show zK x g ({ frames := 4, cells := 0, slots := 0, locals := 97 } : Room) 2 0 0 14 [some (.ref (za g 21)), some (.int (nI k))] [] ν1
  have h10 := Q.c10
  have hL1 := hL.thr
  have h26 : ν1.1 26 k = μ.1 26 k := (hL1.1.2 26 k rfl).trans (zu_ne _ (by omega))
  have hL2 := hL1.2.2.1 (Or.inr (by omega))
  refine k_aload0 S dX4_freeze_14 (n := 15) rfl ?_
  refine k_aload0 S dX4_freeze_15 (n := 16) rfl ?_
  refine k_getr (r := 26) (T := TX4) (j := 11) S dX4_freeze_16 (by rw [hn]; decide) (by decide) (ci := 4) rfl rfl (by decide) in_4 m_683 rfl rfl (n := 19) rfl ?_
  refine k_iload1 S dX4_freeze_19 (n := 20) rfl ?_
  refine k_zaldv (v := μ.1 26 k) S dX4_freeze_20 (j := k) (by rw [hn]; decide) (by decide) rfl (show k < 10 by omega) (by decide) h26 (n := 21) rfl ?_
  refine k_if_ne S dX4_freeze_21 (tgt := 32) (by decide) (n := 24) rfl (fun h9 => absurd (hz) h9) (fun _ => ?_)
  refine k_aload0 S dX4_freeze_24 (n := 25) rfl ?_
  refine k_getv (v := nI (zpc ph (μ.1 24) k d)) (T := TX4) (j := 20) S dX4_freeze_25 (by rw [hn]; decide) (by decide) (ci := 4) rfl rfl (by decide) in_4 m_692 rfl rfl hL1.2.1 (n := 28) rfl ?_
  refine k_iconst S dX4_freeze_28 (v := 2) (by decide) (n := 29) rfl ?_
  refine k_icmp_ge S dX4_freeze_29 (tgt := 36) (by decide) (n := 32) rfl (fun _ => ?_) (fun h9 => absurd (nI_le (a := 2) hm (by have := zpc_le ph (μ.1 24) k d; have := Q.2.2.1; omega)) h9)
  refine k_iconst S dX4_freeze_36 (v := 0) (by decide) (n := 37) rfl ?_
  refine k_put (T := TX4) (j := 23) S dX4_freeze_37 (by rw [hn]; decide) (by decide) (ci := 4) rfl rfl (by decide) in_4 m_695 rfl rfl (ty0 := tyX4) tyX4_ok nmX4 rfl rfl rfl (n := 40) rfl ?_
  refine k_aload0 S dX4_freeze_40 (n := 41) rfl ?_
  refine k_getv (v := 0) (T := TX4) (j := 23) S dX4_freeze_41 (by rw [hn]; decide) (by decide) (ci := 4) rfl rfl (by decide) in_4 m_695 rfl rfl (by simp [zu, zset, upd]) (n := 44) rfl ?_
  refine k_if_ne S dX4_freeze_44 (tgt := 74) (by decide) (n := 47) rfl (fun h9 => absurd (by decide) h9) (fun _ => ?_)
  refine k_aload0 S dX4_freeze_47 (n := 48) rfl ?_
  refine k_getr (r := 27) (T := TX4) (j := 12) S dX4_freeze_48 (by rw [hn]; decide) (by decide) (ci := 4) rfl rfl (by decide) in_4 m_684 rfl rfl (n := 51) rfl ?_
  refine k_iload1 S dX4_freeze_51 (n := 52) rfl ?_
  refine k_aload0 S dX4_freeze_52 (n := 53) rfl ?_
  refine k_getv (v := zLC μ ph k d s) (T := TX4) (j := 16) S dX4_freeze_53 (by rw [hn]; decide) (by decide) (ci := 4) rfl rfl (by decide) in_4 m_688 rfl rfl ((zu_ne _ (by decide)).trans hL2.2.1) (n := 56) rfl ?_
  refine k_iast S dX4_freeze_56 (j := k) (by rw [hn]; decide) (by decide) rfl (show k < 10 by omega) (by decide) (n := 57) rfl ?_
  refine k_aload0 S dX4_freeze_57 (n := 58) rfl ?_
  refine k_getr (r := 28) (T := TX4) (j := 13) S dX4_freeze_58 (by rw [hn]; decide) (by decide) (ci := 4) rfl rfl (by decide) in_4 m_685 rfl rfl (n := 61) rfl ?_
  refine k_iload1 S dX4_freeze_61 (n := 62) rfl ?_
  refine k_aload0 S dX4_freeze_62 (n := 63) rfl ?_
  refine k_getv (v := zLR μ ph k d) (T := TX4) (j := 17) S dX4_freeze_63 (by rw [hn]; decide) (by decide) (ci := 4) rfl rfl (by decide) in_4 m_689 rfl rfl (((zu_ne _ (by omega)).trans (zu_ne _ (by decide))).trans hL2.2.2.1) (n := 66) rfl ?_
  refine k_iast S dX4_freeze_66 (j := k) (by rw [hn]; decide) (by decide) rfl (show k < 10 by omega) (by decide) (n := 67) rfl ?_
  refine k_aload0 S dX4_freeze_67 (n := 68) rfl ?_
  refine k_getr (r := 26) (T := TX4) (j := 11) S dX4_freeze_68 (by rw [hn]; decide) (by decide) (ci := 4) rfl rfl (by decide) in_4 m_683 rfl rfl (n := 71) rfl ?_
  refine k_iload1 S dX4_freeze_71 (n := 72) rfl ?_
  refine k_iconst S dX4_freeze_72 (v := 1) (by decide) (n := 73) rfl ?_
  refine k_zast S dX4_freeze_73 (j := k) (by rw [hn]; decide) (by decide) rfl (show k < 10 by omega) (by decide) rfl (n := 74) rfl ?_
  exact k_vret S Y dX4_freeze_74 (by decide) (by decide) (⟨rfl, zfr_n hL1.1⟩)
set_option maxRecDepth 100000 in
set_option maxHeartbeats 4000000 in
theorem c_X4_freeze_no {l : Launch} {g : zG} {μ : zM} {v : Int32} {d c s : Nat} {ph fs : Nat → Nat}  (hn : zn g = 32) (Q : zQ μ d c s ph fs) (hk : ¬ zIn v c) : zC l g yX4_freeze cX4_freeze 2 none ({ frames := 4, cells := 0, slots := 0, locals := 97 } : Room) 0 0 [.ref (za g 21), .int v] μ (zRn μ none 1) zNX := by
  refine zC_of (L0 := [some (.ref (za g 21)), some (.int v)]) (plainFor_of_name (by decide)) (Nat.le_of_ble_eq_true rfl) rfl ?_
  intro x S Y hxl
  subst hxl
  refine k_aload0 S dX4_freeze_0 (n := 1) rfl ?_
  refine k_iload1 S dX4_freeze_1 (n := 2) rfl ?_
  refine k_callV (As := [.int v]) (rest := []) (p := 21) S (c_X4_isPhase_no hn Q.1.1 (by have := Q.c10; omega) hk) mv_X4_isPhase m_769 dX4_freeze_2 rfl rfl ⟨by decide, by decide⟩ (by rw [hn]; decide) (by decide) (ci := 4) rfl rfl rfl (Nat.le_of_ble_eq_true rfl) ⟨by decide, by decide⟩ (n := 5) rfl (fun _ _ h => h.elim) (fun v9 ν9 h9 => ?_)
  rw [h9.1, h9.2]
  show zK x g ({ frames := 4, cells := 0, slots := 0, locals := 97 } : Room) 2 0 0 5 [some (.ref (za g 21)), some (.int v)] [.int 0] (zu μ 21 23 1)
  refine k_if_ne S dX4_freeze_5 (tgt := 9) (by decide) (n := 8) rfl (fun h9 => absurd (by decide) h9) (fun _ => ?_)
  exact k_vret S Y dX4_freeze_8 (by decide) (by decide) ((zrn0 _ _ _))
set_option maxRecDepth 100000 in
set_option maxHeartbeats 4000000 in
theorem c_X4_thaw_t2 {l : Launch} {g : zG} {μ : zM} {k : Nat} {d c s : Nat} {ph fs : Nat → Nat}  (hn : zn g = 32) (Q : zQ μ d c s ph fs) (hk : k < c) (hz : μ.1 26 k = 0) : zC l g yX4_thaw cX4_thaw 2 none ({ frames := 2, cells := 0, slots := 0, locals := 43 } : Room) 0 0 [.ref (za g 21), .int (nI k)] μ (zRn μ none 2) zNX := by
  refine zC_of (L0 := [some (.ref (za g 21)), some (.int (nI k))]) (plainFor_of_name (by decide)) (Nat.le_of_ble_eq_true rfl) rfl ?_
  intro x S Y hxl
  subst hxl
  have h10 := Q.c10
  refine k_aload0 S dX4_thaw_0 (n := 1) rfl ?_
  refine k_iload1 S dX4_thaw_1 (n := 2) rfl ?_
  refine k_callV (As := [.int (nI k)]) (rest := []) (p := 21) S (c_X4_isPhase_ok hn Q.1.1 (by have := Q.c10; omega) hk) mv_X4_isPhase m_769 dX4_thaw_2 rfl rfl ⟨by decide, by decide⟩ (by rw [hn]; decide) (by decide) (ci := 4) rfl rfl rfl (Nat.le_of_ble_eq_true rfl) ⟨by decide, by decide⟩ (n := 5) rfl (fun _ _ h => h.elim) (fun v9 ν9 h9 => ?_)
  rw [h9.1, h9.2]
  show zK x g ({ frames := 2, cells := 0, slots := 0, locals := 43 } : Room) 2 0 0 5 [some (.ref (za g 21)), some (.int (nI k))] [.int 1] (zu μ 21 23 0)
  refine k_if_ne S dX4_thaw_5 (tgt := 9) (by decide) (n := 8) rfl (fun _ => ?_) (fun h9 => absurd h9 (by decide))
  refine k_aload0 S dX4_thaw_9 (n := 10) rfl ?_
  refine k_aload0 S dX4_thaw_10 (n := 11) rfl ?_
  refine k_getr (r := 26) (T := TX4) (j := 11) S dX4_thaw_11 (by rw [hn]; decide) (by decide) (ci := 4) rfl rfl (by decide) in_4 m_683 rfl rfl (n := 14) rfl ?_
  refine k_iload1 S dX4_thaw_14 (n := 15) rfl ?_
  refine k_zaldv (v := μ.1 26 k) S dX4_thaw_15 (j := k) (by rw [hn]; decide) (by decide) rfl (show k < 10 by omega) (by decide) (by simp [zu, zset, upd]) (n := 16) rfl ?_
  refine k_if_eq S dX4_thaw_16 (tgt := 23) (by decide) (n := 19) rfl (fun _ => ?_) (fun h9 => absurd (hz) h9)
  refine k_iconst S dX4_thaw_23 (v := 2) (by decide) (n := 24) rfl ?_
  refine k_put (T := TX4) (j := 23) S dX4_thaw_24 (by rw [hn]; decide) (by decide) (ci := 4) rfl rfl (by decide) in_4 m_695 rfl rfl (ty0 := tyX4) tyX4_ok nmX4 rfl rfl rfl (n := 27) rfl ?_
  refine k_aload0 S dX4_thaw_27 (n := 28) rfl ?_
  refine k_getv (v := 2) (T := TX4) (j := 23) S dX4_thaw_28 (by rw [hn]; decide) (by decide) (ci := 4) rfl rfl (by decide) in_4 m_695 rfl rfl (by simp [zu, zset, upd]) (n := 31) rfl ?_
  refine k_if_ne S dX4_thaw_31 (tgt := 41) (by decide) (n := 34) rfl (fun _ => ?_) (fun h9 => absurd h9 (by decide))
  exact k_vret S Y dX4_thaw_41 (by decide) (by decide) (⟨rfl, (zNear.refl _).thr⟩)
set_option maxRecDepth 100000 in
set_option maxHeartbeats 4000000 in
theorem c_X4_thaw_ok {l : Launch} {g : zG} {μ : zM} {k : Nat} {d c s : Nat} {ph fs : Nat → Nat}  (hn : zn g = 32) (Q : zQ μ d c s ph fs) (hk : k < c) (hz : ¬ μ.1 26 k = 0) : zC l g yX4_thaw cX4_thaw 2 none ({ frames := 2, cells := 0, slots := 0, locals := 43 } : Room) 0 0 [.ref (za g 21), .int (nI k)] μ (zRt (zu μ 26 k 0) none 0) zNX := by
  refine zC_of (L0 := [some (.ref (za g 21)), some (.int (nI k))]) (plainFor_of_name (by decide)) (Nat.le_of_ble_eq_true rfl) rfl ?_
  intro x S Y hxl
  subst hxl
  have h10 := Q.c10
  refine k_aload0 S dX4_thaw_0 (n := 1) rfl ?_
  refine k_iload1 S dX4_thaw_1 (n := 2) rfl ?_
  refine k_callV (As := [.int (nI k)]) (rest := []) (p := 21) S (c_X4_isPhase_ok hn Q.1.1 (by have := Q.c10; omega) hk) mv_X4_isPhase m_769 dX4_thaw_2 rfl rfl ⟨by decide, by decide⟩ (by rw [hn]; decide) (by decide) (ci := 4) rfl rfl rfl (Nat.le_of_ble_eq_true rfl) ⟨by decide, by decide⟩ (n := 5) rfl (fun _ _ h => h.elim) (fun v9 ν9 h9 => ?_)
  rw [h9.1, h9.2]
  show zK x g ({ frames := 2, cells := 0, slots := 0, locals := 43 } : Room) 2 0 0 5 [some (.ref (za g 21)), some (.int (nI k))] [.int 1] (zu μ 21 23 0)
  refine k_if_ne S dX4_thaw_5 (tgt := 9) (by decide) (n := 8) rfl (fun _ => ?_) (fun h9 => absurd h9 (by decide))
  refine k_aload0 S dX4_thaw_9 (n := 10) rfl ?_
  refine k_aload0 S dX4_thaw_10 (n := 11) rfl ?_
  refine k_getr (r := 26) (T := TX4) (j := 11) S dX4_thaw_11 (by rw [hn]; decide) (by decide) (ci := 4) rfl rfl (by decide) in_4 m_683 rfl rfl (n := 14) rfl ?_
  refine k_iload1 S dX4_thaw_14 (n := 15) rfl ?_
  refine k_zaldv (v := μ.1 26 k) S dX4_thaw_15 (j := k) (by rw [hn]; decide) (by decide) rfl (show k < 10 by omega) (by decide) (by simp [zu, zset, upd]) (n := 16) rfl ?_
  refine k_if_eq S dX4_thaw_16 (tgt := 23) (by decide) (n := 19) rfl (fun h9 => absurd h9 (hz)) (fun _ => ?_)
  refine k_iconst S dX4_thaw_19 (v := 0) (by decide) (n := 20) rfl ?_
  refine k_goto S dX4_thaw_20 (tgt := 24) (by decide) ?_
  refine k_put (T := TX4) (j := 23) S dX4_thaw_24 (by rw [hn]; decide) (by decide) (ci := 4) rfl rfl (by decide) in_4 m_695 rfl rfl (ty0 := tyX4) tyX4_ok nmX4 rfl rfl rfl (n := 27) rfl ?_
  refine k_aload0 S dX4_thaw_27 (n := 28) rfl ?_
  refine k_getv (v := 0) (T := TX4) (j := 23) S dX4_thaw_28 (by rw [hn]; decide) (by decide) (ci := 4) rfl rfl (by decide) in_4 m_695 rfl rfl (by simp [zu, zset, upd]) (n := 31) rfl ?_
  refine k_if_ne S dX4_thaw_31 (tgt := 41) (by decide) (n := 34) rfl (fun h9 => absurd (by decide) h9) (fun _ => ?_)
  refine k_aload0 S dX4_thaw_34 (n := 35) rfl ?_
  refine k_getr (r := 26) (T := TX4) (j := 11) S dX4_thaw_35 (by rw [hn]; decide) (by decide) (ci := 4) rfl rfl (by decide) in_4 m_683 rfl rfl (n := 38) rfl ?_
  refine k_iload1 S dX4_thaw_38 (n := 39) rfl ?_
  refine k_iconst S dX4_thaw_39 (v := 0) (by decide) (n := 40) rfl ?_
  refine k_zast S dX4_thaw_40 (j := k) (by rw [hn]; decide) (by decide) rfl (show k < 10 by omega) (by decide) rfl (n := 41) rfl ?_
  exact k_vret S Y dX4_thaw_41 (by decide) (by decide) (⟨rfl, by rw [← zu_comm (p := 21) (q := 26) 0 0 (by omega), zu_zu]; exact zNear.refl _⟩)
set_option maxRecDepth 100000 in
set_option maxHeartbeats 4000000 in
theorem c_X4_thaw_no {l : Launch} {g : zG} {μ : zM} {v : Int32} {d c s : Nat} {ph fs : Nat → Nat}  (hn : zn g = 32) (Q : zQ μ d c s ph fs) (hk : ¬ zIn v c) : zC l g yX4_thaw cX4_thaw 2 none ({ frames := 2, cells := 0, slots := 0, locals := 43 } : Room) 0 0 [.ref (za g 21), .int v] μ (zRn μ none 1) zNX := by
  refine zC_of (L0 := [some (.ref (za g 21)), some (.int v)]) (plainFor_of_name (by decide)) (Nat.le_of_ble_eq_true rfl) rfl ?_
  intro x S Y hxl
  subst hxl
  refine k_aload0 S dX4_thaw_0 (n := 1) rfl ?_
  refine k_iload1 S dX4_thaw_1 (n := 2) rfl ?_
  refine k_callV (As := [.int v]) (rest := []) (p := 21) S (c_X4_isPhase_no hn Q.1.1 (by have := Q.c10; omega) hk) mv_X4_isPhase m_769 dX4_thaw_2 rfl rfl ⟨by decide, by decide⟩ (by rw [hn]; decide) (by decide) (ci := 4) rfl rfl rfl (Nat.le_of_ble_eq_true rfl) ⟨by decide, by decide⟩ (n := 5) rfl (fun _ _ h => h.elim) (fun v9 ν9 h9 => ?_)
  rw [h9.1, h9.2]
  show zK x g ({ frames := 2, cells := 0, slots := 0, locals := 43 } : Room) 2 0 0 5 [some (.ref (za g 21)), some (.int v)] [.int 0] (zu μ 21 23 1)
  refine k_if_ne S dX4_thaw_5 (tgt := 9) (by decide) (n := 8) rfl (fun h9 => absurd (by decide) h9) (fun _ => ?_)
  exact k_vret S Y dX4_thaw_8 (by decide) (by decide) ((zrn0 _ _ _))
set_option maxRecDepth 100000 in
set_option maxHeartbeats 4000000 in
theorem c_X4_exclude_no {l : Launch} {g : zG} {μ : zM} {v a : Int32} {d c s : Nat} {ph fs : Nat → Nat}  (hn : zn g = 32) (Q : zQ μ d c s ph fs) (hi : ¬ zIn v d) : zC l g yX4_exclude cX4_exclude 4 (some .int) ({ frames := 2, cells := 0, slots := 0, locals := 43 } : Room) 0 0 [.ref (za g 21), .int v, .int a] μ (zRn μ (some (.int (0))) 1) zNX := by
  refine zC_of (L0 := [some (.ref (za g 21)), some (.int v), some (.int a), none]) (plainFor_of_name (by decide)) (Nat.le_of_ble_eq_true rfl) rfl ?_
  intro x S Y hxl
  subst hxl
  refine k_aload0 S dX4_exclude_0 (n := 1) rfl ?_
  refine k_iload1 S dX4_exclude_1 (n := 2) rfl ?_
  refine k_callV (As := [.int v]) (rest := []) (p := 21) S (c_X4_isDone_no hn Q.2.1 Q.2.2.1 hi) mv_X4_isDone m_804 dX4_exclude_2 rfl rfl ⟨by decide, by decide⟩ (by rw [hn]; decide) (by decide) (ci := 4) rfl rfl rfl (Nat.le_of_ble_eq_true rfl) ⟨by decide, by decide⟩ (n := 5) rfl (fun _ _ h => h.elim) (fun v9 ν9 h9 => ?_)
  rw [h9.1, h9.2]
  show zK x g ({ frames := 2, cells := 0, slots := 0, locals := 43 } : Room) 4 0 0 5 [some (.ref (za g 21)), some (.int v), some (.int a), none] [.int 0] (zu μ 21 23 1)
  refine k_if_ne S dX4_exclude_5 (tgt := 10) (by decide) (n := 8) rfl (fun h9 => absurd (by decide) h9) (fun _ => ?_)
  refine k_iconst S dX4_exclude_8 (v := 0) (by decide) (n := 9) rfl ?_
  exact k_iret S Y dX4_exclude_9 (by decide) (by decide) rfl ((zrn0 _ _ _))
set_option maxRecDepth 100000 in
set_option maxHeartbeats 4000000 in
theorem c_X4_exclude_t2 {l : Launch} {g : zG} {μ : zM} {i : Nat} {a : Int32} {d c s : Nat} {ph fs : Nat → Nat}  (hn : zn g = 32) (Q : zQ μ d c s ph fs) (hi : i < d) (ha : ¬ (0 ≤ a ∧ a ≤ 9)) : zC l g yX4_exclude cX4_exclude 4 (some .int) ({ frames := 2, cells := 0, slots := 0, locals := 43 } : Room) 0 0 [.ref (za g 21), .int (nI i), .int a] μ (zRn μ (some (.int (0))) 2) zNX := by
  refine zC_of (L0 := [some (.ref (za g 21)), some (.int (nI i)), some (.int a), none]) (plainFor_of_name (by decide)) (Nat.le_of_ble_eq_true rfl) rfl ?_
  intro x S Y hxl
  subst hxl
  refine k_aload0 S dX4_exclude_0 (n := 1) rfl ?_
  refine k_iload1 S dX4_exclude_1 (n := 2) rfl ?_
  refine k_callV (As := [.int (nI i)]) (rest := []) (p := 21) S (c_X4_isDone_ok hn Q.2.1 Q.2.2.1 hi) mv_X4_isDone m_804 dX4_exclude_2 rfl rfl ⟨by decide, by decide⟩ (by rw [hn]; decide) (by decide) (ci := 4) rfl rfl rfl (Nat.le_of_ble_eq_true rfl) ⟨by decide, by decide⟩ (n := 5) rfl (fun _ _ h => h.elim) (fun v9 ν9 h9 => ?_)
  rw [h9.1, h9.2]
  show zK x g ({ frames := 2, cells := 0, slots := 0, locals := 43 } : Room) 4 0 0 5 [some (.ref (za g 21)), some (.int (nI i)), some (.int a), none] [.int 1] (zu μ 21 23 0)
  refine k_if_ne S dX4_exclude_5 (tgt := 10) (by decide) (n := 8) rfl (fun _ => ?_) (fun h9 => absurd h9 (by decide))
  refine k_aload0 S dX4_exclude_10 (n := 11) rfl ?_
  refine k_iload2 S dX4_exclude_11 (n := 12) rfl ?_
  refine k_iconst S dX4_exclude_12 (v := 0) (by decide) (n := 13) rfl ?_
  refine k_bipush S dX4_exclude_13 (v := 9) (by decide) (n := 15) rfl ?_
  refine k_callS (As := [.int a, .int 0, .int 9]) (rest := [.ref (za g 21)]) S (c_X4_isIn) mv_X4_isIn m_754 dX4_exclude_15 rfl rfl ⟨by decide, by decide⟩ rfl rfl (Nat.le_of_ble_eq_true rfl) ⟨by decide, by decide⟩ (n := 18) rfl (fun _ _ h => h.elim) (fun v9 ν9 h9 => ?_)
  rw [h9.1, h9.2]
  show zK x g ({ frames := 2, cells := 0, slots := 0, locals := 43 } : Room) 4 0 0 18 [some (.ref (za g 21)), some (.int (nI i)), some (.int a), none] [.int (zii a 0 9), .ref (za g 21)] (zu μ 21 23 0)
  refine k_if_eq S dX4_exclude_18 (tgt := 25) (by decide) (n := 21) rfl (fun _ => ?_) (fun h9 => absurd (zii_o ha) h9)
  refine k_iconst S dX4_exclude_25 (v := 2) (by decide) (n := 26) rfl ?_
  refine k_put (T := TX4) (j := 23) S dX4_exclude_26 (by rw [hn]; decide) (by decide) (ci := 4) rfl rfl (by decide) in_4 m_695 rfl rfl (ty0 := tyX4) tyX4_ok nmX4 rfl rfl rfl (n := 29) rfl ?_
  refine k_aload0 S dX4_exclude_29 (n := 30) rfl ?_
  refine k_getv (v := 2) (T := TX4) (j := 23) S dX4_exclude_30 (by rw [hn]; decide) (by decide) (ci := 4) rfl rfl (by decide) in_4 m_695 rfl rfl (by simp [zu, zset, upd]) (n := 33) rfl ?_
  refine k_if_le S dX4_exclude_33 (tgt := 38) (by decide) (n := 36) rfl (fun h9 => absurd h9 (by decide)) (fun _ => ?_)
  refine k_iconst S dX4_exclude_36 (v := 0) (by decide) (n := 37) rfl ?_
  exact k_iret S Y dX4_exclude_37 (by decide) (by decide) rfl (⟨rfl, (zNear.refl _).thr⟩)
set_option maxRecDepth 100000 in
set_option maxHeartbeats 4000000 in
theorem c_X4_exclude_ok {l : Launch} {g : zG} {μ : zM} {i : Nat} {a : Int32} {d c s : Nat} {ph fs : Nat → Nat}  (hn : zn g = 32) (Q : zQ μ d c s ph fs) (hi : i < d) (ha : 0 ≤ a) (ha9 : a ≤ 9) : zC l g yX4_exclude cX4_exclude 4 (some .int) ({ frames := 2, cells := 0, slots := 0, locals := 43 } : Room) 0 0 [.ref (za g 21), .int (nI i), .int a] μ (zRt (zu μ 24 i a) (some (.int (μ.1 24 i))) 0) zNX := by
  refine zC_of (L0 := [some (.ref (za g 21)), some (.int (nI i)), some (.int a), none]) (plainFor_of_name (by decide)) (Nat.le_of_ble_eq_true rfl) rfl ?_
  intro x S Y hxl
  subst hxl
  have hd60 := Q.2.2.1
  refine k_aload0 S dX4_exclude_0 (n := 1) rfl ?_
  refine k_iload1 S dX4_exclude_1 (n := 2) rfl ?_
  refine k_callV (As := [.int (nI i)]) (rest := []) (p := 21) S (c_X4_isDone_ok hn Q.2.1 Q.2.2.1 hi) mv_X4_isDone m_804 dX4_exclude_2 rfl rfl ⟨by decide, by decide⟩ (by rw [hn]; decide) (by decide) (ci := 4) rfl rfl rfl (Nat.le_of_ble_eq_true rfl) ⟨by decide, by decide⟩ (n := 5) rfl (fun _ _ h => h.elim) (fun v9 ν9 h9 => ?_)
  rw [h9.1, h9.2]
  show zK x g ({ frames := 2, cells := 0, slots := 0, locals := 43 } : Room) 4 0 0 5 [some (.ref (za g 21)), some (.int (nI i)), some (.int a), none] [.int 1] (zu μ 21 23 0)
  refine k_if_ne S dX4_exclude_5 (tgt := 10) (by decide) (n := 8) rfl (fun _ => ?_) (fun h9 => absurd h9 (by decide))
  refine k_aload0 S dX4_exclude_10 (n := 11) rfl ?_
  refine k_iload2 S dX4_exclude_11 (n := 12) rfl ?_
  refine k_iconst S dX4_exclude_12 (v := 0) (by decide) (n := 13) rfl ?_
  refine k_bipush S dX4_exclude_13 (v := 9) (by decide) (n := 15) rfl ?_
  refine k_callS (As := [.int a, .int 0, .int 9]) (rest := [.ref (za g 21)]) S (c_X4_isIn) mv_X4_isIn m_754 dX4_exclude_15 rfl rfl ⟨by decide, by decide⟩ rfl rfl (Nat.le_of_ble_eq_true rfl) ⟨by decide, by decide⟩ (n := 18) rfl (fun _ _ h => h.elim) (fun v9 ν9 h9 => ?_)
  rw [h9.1, h9.2]
  show zK x g ({ frames := 2, cells := 0, slots := 0, locals := 43 } : Room) 4 0 0 18 [some (.ref (za g 21)), some (.int (nI i)), some (.int a), none] [.int (zii a 0 9), .ref (za g 21)] (zu μ 21 23 0)
  refine k_if_eq S dX4_exclude_18 (tgt := 25) (by decide) (n := 21) rfl (fun h9 => absurd h9 (by rw [zii_i ha ha9]; decide)) (fun _ => ?_)
  refine k_iconst S dX4_exclude_21 (v := 0) (by decide) (n := 22) rfl ?_
  refine k_goto S dX4_exclude_22 (tgt := 26) (by decide) ?_
  refine k_put (T := TX4) (j := 23) S dX4_exclude_26 (by rw [hn]; decide) (by decide) (ci := 4) rfl rfl (by decide) in_4 m_695 rfl rfl (ty0 := tyX4) tyX4_ok nmX4 rfl rfl rfl (n := 29) rfl ?_
  refine k_aload0 S dX4_exclude_29 (n := 30) rfl ?_
  refine k_getv (v := 0) (T := TX4) (j := 23) S dX4_exclude_30 (by rw [hn]; decide) (by decide) (ci := 4) rfl rfl (by decide) in_4 m_695 rfl rfl (by simp [zu, zset, upd]) (n := 33) rfl ?_
  refine k_if_le S dX4_exclude_33 (tgt := 38) (by decide) (n := 36) rfl (fun _ => ?_) (fun h9 => absurd (by decide) h9)
  refine k_aload0 S dX4_exclude_38 (n := 39) rfl ?_
  refine k_getr (r := 24) (T := TX4) (j := 8) S dX4_exclude_39 (by rw [hn]; decide) (by decide) (ci := 4) rfl rfl (by decide) in_4 m_680 rfl rfl (n := 42) rfl ?_
  refine k_iload1 S dX4_exclude_42 (n := 43) rfl ?_
  refine k_ialdv (v := μ.1 24 i) S dX4_exclude_43 (j := i) (by rw [hn]; decide) (by decide) rfl (show i < 60 by omega) (by decide) (by simp [zu, zset, upd]) (n := 44) rfl ?_
  refine k_istore3 S dX4_exclude_44 (by decide) rfl (n := 45) rfl ?_
  refine k_aload0 S dX4_exclude_45 (n := 46) rfl ?_
  refine k_getr (r := 24) (T := TX4) (j := 8) S dX4_exclude_46 (by rw [hn]; decide) (by decide) (ci := 4) rfl rfl (by decide) in_4 m_680 rfl rfl (n := 49) rfl ?_
  refine k_iload1 S dX4_exclude_49 (n := 50) rfl ?_
  refine k_iload2 S dX4_exclude_50 (n := 51) rfl ?_
  refine k_iast S dX4_exclude_51 (j := i) (by rw [hn]; decide) (by decide) rfl (show i < 60 by omega) (by decide) (n := 52) rfl ?_
  refine k_iload3 S dX4_exclude_52 (n := 53) rfl ?_
  exact k_iret S Y dX4_exclude_53 (by decide) (by decide) rfl (⟨rfl, by rw [← zu_comm (p := 21) (q := 24) 0 a (by omega), zu_zu]; exact zNear.refl _⟩)
set_option maxRecDepth 100000 in
set_option maxHeartbeats 4000000 in
theorem c_X4_setWeight_no {l : Launch} {g : zG} {μ : zM} {v : Int32} (hn : zn g = 32) (h1 : ¬ (1 ≤ v ∧ v ≤ 10)) : zC l g yX4_setWeight cX4_setWeight 3 (some .int) ({ frames := 1, cells := 0, slots := 0, locals := 22 } : Room) 0 0 [.ref (za g 21), .int v] μ (zRv (some (.int 0)) (zu μ 21 23 1)) zNX := by
  refine zC_of (L0 := [some (.ref (za g 21)), some (.int v), none]) (plainFor_of_name (by decide)) (Nat.le_of_ble_eq_true rfl) rfl ?_
  intro x S Y hxl
  subst hxl
  refine k_aload0 S dX4_setWeight_0 (n := 1) rfl ?_
  refine k_iload1 S dX4_setWeight_1 (n := 2) rfl ?_
  refine k_iconst S dX4_setWeight_2 (v := 1) (by decide) (n := 3) rfl ?_
  refine k_bipush S dX4_setWeight_3 (v := 10) (by decide) (n := 5) rfl ?_
  refine k_callS (As := [.int v, .int 1, .int 10]) (rest := [.ref (za g 21)]) S (c_X4_isIn) mv_X4_isIn m_754 dX4_setWeight_5 rfl rfl ⟨by decide, by decide⟩ rfl rfl (Nat.le_of_ble_eq_true rfl) ⟨by decide, by decide⟩ (n := 8) rfl (fun _ _ h => h.elim) (fun v9 ν9 h9 => ?_)
  rw [h9.1, h9.2]
  show zK x g ({ frames := 1, cells := 0, slots := 0, locals := 22 } : Room) 3 0 0 8 [some (.ref (za g 21)), some (.int v), none] [.int (zii v 1 10), .ref (za g 21)] μ
  refine k_if_eq S dX4_setWeight_8 (tgt := 15) (by decide) (n := 11) rfl (fun _ => ?_) (fun h9 => absurd (zii_o h1) h9)
  refine k_iconst S dX4_setWeight_15 (v := 1) (by decide) (n := 16) rfl ?_
  refine k_put (T := TX4) (j := 23) S dX4_setWeight_16 (by rw [hn]; decide) (by decide) (ci := 4) rfl rfl (by decide) in_4 m_695 rfl rfl (ty0 := tyX4) tyX4_ok nmX4 rfl rfl rfl (n := 19) rfl ?_
  refine k_aload0 S dX4_setWeight_19 (n := 20) rfl ?_
  refine k_getv (v := 1) (T := TX4) (j := 23) S dX4_setWeight_20 (by rw [hn]; decide) (by decide) (ci := 4) rfl rfl (by decide) in_4 m_695 rfl rfl (by simp [zu, zset, upd]) (n := 23) rfl ?_
  refine k_if_le S dX4_setWeight_23 (tgt := 28) (by decide) (n := 26) rfl (fun h9 => absurd h9 (by decide)) (fun _ => ?_)
  refine k_iconst S dX4_setWeight_26 (v := 0) (by decide) (n := 27) rfl ?_
  exact k_iret S Y dX4_setWeight_27 (by decide) (by decide) rfl (⟨rfl, rfl⟩)
set_option maxRecDepth 100000 in
set_option maxHeartbeats 4000000 in
theorem c_X4_setWeight_ok {l : Launch} {g : zG} {μ : zM} {v : Int32} (hn : zn g = 32) (h1 : 1 ≤ v) (h2 : v ≤ 10) : zC l g yX4_setWeight cX4_setWeight 3 (some .int) ({ frames := 1, cells := 0, slots := 0, locals := 22 } : Room) 0 0 [.ref (za g 21), .int v] μ (zRv (some (.int (μ.1 21 14))) (zu (zu μ 21 23 0) 21 14 v)) zNX := by
  refine zC_of (L0 := [some (.ref (za g 21)), some (.int v), none]) (plainFor_of_name (by decide)) (Nat.le_of_ble_eq_true rfl) rfl ?_
  intro x S Y hxl
  subst hxl
  refine k_aload0 S dX4_setWeight_0 (n := 1) rfl ?_
  refine k_iload1 S dX4_setWeight_1 (n := 2) rfl ?_
  refine k_iconst S dX4_setWeight_2 (v := 1) (by decide) (n := 3) rfl ?_
  refine k_bipush S dX4_setWeight_3 (v := 10) (by decide) (n := 5) rfl ?_
  refine k_callS (As := [.int v, .int 1, .int 10]) (rest := [.ref (za g 21)]) S (c_X4_isIn) mv_X4_isIn m_754 dX4_setWeight_5 rfl rfl ⟨by decide, by decide⟩ rfl rfl (Nat.le_of_ble_eq_true rfl) ⟨by decide, by decide⟩ (n := 8) rfl (fun _ _ h => h.elim) (fun v9 ν9 h9 => ?_)
  rw [h9.1, h9.2]
  show zK x g ({ frames := 1, cells := 0, slots := 0, locals := 22 } : Room) 3 0 0 8 [some (.ref (za g 21)), some (.int v), none] [.int (zii v 1 10), .ref (za g 21)] μ
  refine k_if_eq S dX4_setWeight_8 (tgt := 15) (by decide) (n := 11) rfl (fun h9 => absurd h9 (by rw [zii_i h1 h2]; decide)) (fun _ => ?_)
  refine k_iconst S dX4_setWeight_11 (v := 0) (by decide) (n := 12) rfl ?_
  refine k_goto S dX4_setWeight_12 (tgt := 16) (by decide) ?_
  refine k_put (T := TX4) (j := 23) S dX4_setWeight_16 (by rw [hn]; decide) (by decide) (ci := 4) rfl rfl (by decide) in_4 m_695 rfl rfl (ty0 := tyX4) tyX4_ok nmX4 rfl rfl rfl (n := 19) rfl ?_
  refine k_aload0 S dX4_setWeight_19 (n := 20) rfl ?_
  refine k_getv (v := 0) (T := TX4) (j := 23) S dX4_setWeight_20 (by rw [hn]; decide) (by decide) (ci := 4) rfl rfl (by decide) in_4 m_695 rfl rfl (by simp [zu, zset, upd]) (n := 23) rfl ?_
  refine k_if_le S dX4_setWeight_23 (tgt := 28) (by decide) (n := 26) rfl (fun _ => ?_) (fun h9 => absurd (by decide) h9)
  refine k_aload0 S dX4_setWeight_28 (n := 29) rfl ?_
  refine k_getv (v := μ.1 21 14) (T := TX4) (j := 14) S dX4_setWeight_29 (by rw [hn]; decide) (by decide) (ci := 4) rfl rfl (by decide) in_4 m_686 rfl rfl (by simp [zu, zset, upd]) (n := 32) rfl ?_
  refine k_istore2 S dX4_setWeight_32 (by decide) rfl (n := 33) rfl ?_
  refine k_aload0 S dX4_setWeight_33 (n := 34) rfl ?_
  refine k_iload1 S dX4_setWeight_34 (n := 35) rfl ?_
  refine k_put (T := TX4) (j := 14) S dX4_setWeight_35 (by rw [hn]; decide) (by decide) (ci := 4) rfl rfl (by decide) in_4 m_686 rfl rfl (ty0 := tyX4) tyX4_ok nmX4 rfl rfl rfl (n := 38) rfl ?_
  refine k_iload2 S dX4_setWeight_38 (n := 39) rfl ?_
  exact k_iret S Y dX4_setWeight_39 (by decide) (by decide) rfl (⟨rfl, rfl⟩)
