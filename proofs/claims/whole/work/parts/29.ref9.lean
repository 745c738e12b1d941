/-! WHOLE NUMBERS behind words; the reference's weighted, cumulative, capability -/
theorem z64m {a b : Int64} (h1 : -9223372036854775808 ≤ a.toInt * b.toInt) (h2 : a.toInt * b.toInt < 9223372036854775808) : (a * b).toInt = a.toInt * b.toInt := by
  rw [Int64.toInt_mul]
  exact Int.bmod_eq_of_le (by omega) (by omega)
theorem z64a {a b : Int64} (h1 : -9223372036854775808 ≤ a.toInt + b.toInt) (h2 : a.toInt + b.toInt < 9223372036854775808) : (a + b).toInt = a.toInt + b.toInt := by
  rw [Int64.toInt_add]
  exact Int.bmod_eq_of_le (by omega) (by omega)
theorem z64s {a b : Int64} (h1 : -9223372036854775808 ≤ a.toInt - b.toInt) (h2 : a.toInt - b.toInt < 9223372036854775808) : (a - b).toInt = a.toInt - b.toInt := by
  rw [Int64.toInt_sub]
  exact Int.bmod_eq_of_le (by omega) (by omega)
theorem z32m {a b : Int32} (h1 : -2147483648 ≤ a.toInt * b.toInt) (h2 : a.toInt * b.toInt < 2147483648) : (a * b).toInt = a.toInt * b.toInt := by
  rw [Int32.toInt_mul]
  exact Int.bmod_eq_of_le (by omega) (by omega)
theorem z32a {a b : Int32} (h1 : -2147483648 ≤ a.toInt + b.toInt) (h2 : a.toInt + b.toInt < 2147483648) : (a + b).toInt = a.toInt + b.toInt := by
  rw [Int32.toInt_add]
  exact Int.bmod_eq_of_le (by omega) (by omega)
theorem z32s {a b : Int32} (h1 : -2147483648 ≤ a.toInt - b.toInt) (h2 : a.toInt - b.toInt < 2147483648) : (a - b).toInt = a.toInt - b.toInt := by
  rw [Int32.toInt_sub]
  exact Int.bmod_eq_of_le (by omega) (by omega)
set_option maxRecDepth 100000 in
set_option maxHeartbeats 4000000 in
theorem c_X4_isPoint_no {l : Launch} {g : zG} {μ : zM} {v : Int32} {d c s : Nat} {ph fs : Nat → Nat}  (hn : zn g = 32) (Q : zQ μ d c s ph fs) (hi : ¬ zIn v d) : zC l g yX4_isPoint cX4_isPoint 2 (some .boolean) ({ frames := 4, cells := 0, slots := 0, locals := 97 } : Room) 0 0 [.ref (za g 21), .int v] μ (zRn μ (some (.int (0))) 1) zNX := by
  refine zC_of (L0 := [some (.ref (za g 21)), some (.int v)]) (plainFor_of_name (by decide)) (Nat.le_of_ble_eq_true rfl) rfl ?_
  intro x S Y hxl
  subst hxl
  refine k_aload0 S dX4_isPoint_0 (n := 1) rfl ?_
  refine k_iload1 S dX4_isPoint_1 (n := 2) rfl ?_
  refine k_callV (As := [.int v]) (rest := []) (p := 21) S (c_X4_isDone_no hn Q.2.1 Q.2.2.1 hi) mv_X4_isDone m_804 dX4_isPoint_2 rfl rfl ⟨by decide, by decide⟩ (by rw [hn]; decide) (by decide) (ci := 4) rfl rfl rfl (Nat.le_of_ble_eq_true rfl) ⟨by decide, by decide⟩ (n := 5) rfl (fun _ _ h => h.elim) (fun v9 ν9 h9 => ?_)
  rw [h9.1, h9.2]
  show zK x g ({ frames := 4, cells := 0, slots := 0, locals := 97 } : Room) 2 0 0 5 [some (.ref (za g 21)), some (.int v)] [.int 0] (zu μ 21 23 1)
  refine k_if_ne S dX4_isPoint_5 (tgt := 10) (by decide) (n := 8) rfl (fun h9 => absurd (by decide) h9) (fun _ => ?_)
  refine k_iconst S dX4_isPoint_8 (v := 0) (by decide) (n := 9) rfl ?_
  exact k_iret S Y dX4_isPoint_9 (by decide) (by decide) rfl ((zrn0 _ _ _))
set_option maxRecDepth 100000 in
set_option maxHeartbeats 4000000 in
theorem c_X4_isPoint_ex {l : Launch} {g : zG} {μ : zM} {i : Nat} {d c s : Nat} {ph fs : Nat → Nat}  (hn : zn g = 32) (Q : zQ μ d c s ph fs) (hi : i < d) (hr : ¬ μ.1 24 i ≤ 0) : zC l g yX4_isPoint cX4_isPoint 2 (some .boolean) ({ frames := 4, cells := 0, slots := 0, locals := 97 } : Room) 0 0 [.ref (za g 21), .int (nI i)] μ (zRn μ (some (.int (0))) 2) zNX := by
  refine zC_of (L0 := [some (.ref (za g 21)), some (.int (nI i))]) (plainFor_of_name (by decide)) (Nat.le_of_ble_eq_true rfl) rfl ?_
  intro x S Y hxl
  subst hxl
  have hd60 := Q.2.2.1
  refine k_aload0 S dX4_isPoint_0 (n := 1) rfl ?_
  refine k_iload1 S dX4_isPoint_1 (n := 2) rfl ?_
  refine k_callV (As := [.int (nI i)]) (rest := []) (p := 21) S (c_X4_isDone_ok hn Q.2.1 Q.2.2.1 hi) mv_X4_isDone m_804 dX4_isPoint_2 rfl rfl ⟨by decide, by decide⟩ (by rw [hn]; decide) (by decide) (ci := 4) rfl rfl rfl (Nat.le_of_ble_eq_true rfl) ⟨by decide, by decide⟩ (n := 5) rfl (fun _ _ h => h.elim) (fun v9 ν9 h9 => ?_)
  rw [h9.1, h9.2]
  show zK x g ({ frames := 4, cells := 0, slots := 0, locals := 97 } : Room) 2 0 0 5 [some (.ref (za g 21)), some (.int (nI i))] [.int 1] (zu μ 21 23 0)
  refine k_if_ne S dX4_isPoint_5 (tgt := 10) (by decide) (n := 8) rfl (fun _ => ?_) (fun h9 => absurd h9 (by decide))
  refine k_aload0 S dX4_isPoint_10 (n := 11) rfl ?_
  refine k_aload0 S dX4_isPoint_11 (n := 12) rfl ?_
  refine k_getr (r := 24) (T := TX4) (j := 8) S dX4_isPoint_12 (by rw [hn]; decide) (by decide) (ci := 4) rfl rfl (by decide) in_4 m_680 rfl rfl (n := 15) rfl ?_
  refine k_iload1 S dX4_isPoint_15 (n := 16) rfl ?_
  refine k_ialdv (v := μ.1 24 i) S dX4_isPoint_16 (j := i) (by rw [hn]; decide) (by decide) rfl (show i < 60 by omega) (by decide) (by simp [zu, zset, upd]) (n := 17) rfl ?_
  refine k_if_le S dX4_isPoint_17 (tgt := 24) (by decide) (n := 20) rfl (fun h9 => absurd h9 (hr)) (fun _ => ?_)
  refine k_iconst S dX4_isPoint_20 (v := 2) (by decide) (n := 21) rfl ?_
  refine k_goto S dX4_isPoint_21 (tgt := 25) (by decide) ?_
  refine k_put (T := TX4) (j := 23) S dX4_isPoint_25 (by rw [hn]; decide) (by decide) (ci := 4) rfl rfl (by decide) in_4 m_695 rfl rfl (ty0 := tyX4) tyX4_ok nmX4 rfl rfl rfl (n := 28) rfl ?_
  refine k_aload0 S dX4_isPoint_28 (n := 29) rfl ?_
  refine k_getv (v := 2) (T := TX4) (j := 23) S dX4_isPoint_29 (by rw [hn]; decide) (by decide) (ci := 4) rfl rfl (by decide) in_4 m_695 rfl rfl (by simp [zu, zset, upd]) (n := 32) rfl ?_
  refine k_if_ne S dX4_isPoint_32 (tgt := 54) (by decide) (n := 35) rfl (fun _ => ?_) (fun h9 => absurd h9 (by decide))
  refine k_aload0 S dX4_isPoint_54 (n := 55) rfl ?_
  refine k_getv (v := 2) (T := TX4) (j := 23) S dX4_isPoint_55 (by rw [hn]; decide) (by decide) (ci := 4) rfl rfl (by decide) in_4 m_695 rfl rfl (by simp [zu, zset, upd]) (n := 58) rfl ?_
  refine k_if_ne S dX4_isPoint_58 (tgt := 65) (by decide) (n := 61) rfl (fun _ => ?_) (fun h9 => absurd h9 (by decide))
  refine k_iconst S dX4_isPoint_65 (v := 0) (by decide) (n := 66) rfl ?_
  exact k_iret S Y dX4_isPoint_66 (by decide) (by decide) rfl (⟨rfl, (zNear.refl _).thr⟩)
set_option maxRecDepth 100000 in
set_option maxHeartbeats 4000000 in
theorem c_X4_isPoint_ok {l : Launch} {g : zG} {μ : zM} {i : Nat} {d c s : Nat} {ph fs : Nat → Nat}  (hn : zn g = 32) (Q : zQ μ d c s ph fs) (hi : i < d) (hr : μ.1 24 i = 0) : zC l g yX4_isPoint cX4_isPoint 2 (some .boolean) ({ frames := 4, cells := 0, slots := 0, locals := 97 } : Room) 0 0 [.ref (za g 21), .int (nI i)] μ (fun r ν => r = some (.int 1) ∧ zLaT μ ν ph (ph i) d s (i + 1) 0) zNX := by
  refine zC_of (L0 := [some (.ref (za g 21)), some (.int (nI i))]) (plainFor_of_name (by decide)) (Nat.le_of_ble_eq_true rfl) rfl ?_
  intro x S Y hxl
  subst hxl
  have hd60 := Q.2.2.1
  refine k_aload0 S dX4_isPoint_0 (n := 1) rfl ?_
  refine k_iload1 S dX4_isPoint_1 (n := 2) rfl ?_
  refine k_callV (As := [.int (nI i)]) (rest := []) (p := 21) S (c_X4_isDone_ok hn Q.2.1 Q.2.2.1 hi) mv_X4_isDone m_804 dX4_isPoint_2 rfl rfl ⟨by decide, by decide⟩ (by rw [hn]; decide) (by decide) (ci := 4) rfl rfl rfl (Nat.le_of_ble_eq_true rfl) ⟨by decide, by decide⟩ (n := 5) rfl (fun _ _ h => h.elim) (fun v9 ν9 h9 => ?_)
  rw [h9.1, h9.2]
  show zK x g ({ frames := 4, cells := 0, slots := 0, locals := 97 } : Room) 2 0 0 5 [some (.ref (za g 21)), some (.int (nI i))] [.int 1] (zu μ 21 23 0)
  refine k_if_ne S dX4_isPoint_5 (tgt := 10) (by decide) (n := 8) rfl (fun _ => ?_) (fun h9 => absurd h9 (by decide))
  refine k_aload0 S dX4_isPoint_10 (n := 11) rfl ?_
  refine k_aload0 S dX4_isPoint_11 (n := 12) rfl ?_
  refine k_getr (r := 24) (T := TX4) (j := 8) S dX4_isPoint_12 (by rw [hn]; decide) (by decide) (ci := 4) rfl rfl (by decide) in_4 m_680 rfl rfl (n := 15) rfl ?_
  refine k_iload1 S dX4_isPoint_15 (n := 16) rfl ?_
  refine k_ialdv (v := μ.1 24 i) S dX4_isPoint_16 (j := i) (by rw [hn]; decide) (by decide) rfl (show i < 60 by omega) (by decide) (by simp [zu, zset, upd]) (n := 17) rfl ?_
  refine k_if_le S dX4_isPoint_17 (tgt := 24) (by decide) (n := 20) rfl (fun _ => ?_) (fun h9 => absurd (by rw [hr]; decide) h9)
  refine k_iconst S dX4_isPoint_24 (v := 0) (by decide) (n := 25) rfl ?_
  refine k_put (T := TX4) (j := 23) S dX4_isPoint_25 (by rw [hn]; decide) (by decide) (ci := 4) rfl rfl (by decide) in_4 m_695 rfl rfl (ty0 := tyX4) tyX4_ok nmX4 rfl rfl rfl (n := 28) rfl ?_
  refine k_aload0 S dX4_isPoint_28 (n := 29) rfl ?_
  refine k_getv (v := 0) (T := TX4) (j := 23) S dX4_isPoint_29 (by rw [hn]; decide) (by decide) (ci := 4) rfl rfl (by decide) in_4 m_695 rfl rfl (by simp [zu, zset, upd]) (n := 32) rfl ?_
  refine k_if_ne S dX4_isPoint_32 (tgt := 54) (by decide) (n := 35) rfl (fun h9 => absurd (by decide) h9) (fun _ => ?_)
  refine k_aload0 S dX4_isPoint_35 (n := 36) rfl ?_
  refine k_aload0 S dX4_isPoint_36 (n := 37) rfl ?_
  refine k_iload1 S dX4_isPoint_37 (n := 38) rfl ?_
  refine k_callV (As := [.int (nI i)]) (rest := [.ref (za g 21)]) (p := 21) S (c_X4_phase (i := i) hn ((Q.thr 0).thr 0).1 hi hd60) mv_X4_phase m_781 dX4_isPoint_38 rfl rfl ⟨by decide, by decide⟩ (by rw [hn]; decide) (by decide) (ci := 4) rfl rfl rfl (Nat.le_of_ble_eq_true rfl) ⟨by decide, by decide⟩ (n := 41) rfl (fun _ _ h => h.elim) (fun v9 ν9 h9 => ?_)
  rw [h9.1, h9.2]
  show zK x g ({ frames := 4, cells := 0, slots := 0, locals := 97 } : Room) 2 0 0 41 [some (.ref (za g 21)), some (.int (nI i))] [.int (nI (ph i)), .ref (za g 21)] (zu (zu μ 21 23 0) 21 23 0)
  refine k_callV (As := [.int (nI (ph i))]) (rest := []) (p := 21) S (c_X4_laysLimitsR (t := ph i) hn ((Q.thr 0).thr 0) (Q.pc hi)) mv_X4_laysLimits m_773 dX4_isPoint_41 rfl rfl ⟨by decide, by decide⟩ (by rw [hn]; decide) (by decide) (ci := 4) rfl rfl rfl (Nat.le_of_ble_eq_true rfl) ⟨by decide, by decide⟩ (n := 44) rfl (fun _ _ h => h.elim) (fun v9 ν1 h9 => ?_)
  obtain ⟨e1, hL⟩ := h9
  rw [e1]
  show zK x g ({ frames := 4, cells := 0, slots := 0, locals := 97 } : Room) 2 0 0 44 [some (.ref (za g 21)), some (.int (nI i))] [] ν1
  refine k_aload0 S dX4_isPoint_44 (n := 45) rfl ?_
  refine k_aload0 S dX4_isPoint_45 (n := 46) rfl ?_
  refine k_iload1 S dX4_isPoint_46 (n := 47) rfl ?_
  refine k_callV (As := [.int (nI i)]) (rest := [.ref (za g 21)]) (p := 21) S (c_X4_phase (i := i) hn (((Q.thr 0).thr 0).near hL.1).1 hi hd60) mv_X4_phase m_781 dX4_isPoint_47 rfl rfl ⟨by decide, by decide⟩ (by rw [hn]; decide) (by decide) (ci := 4) rfl rfl rfl (Nat.le_of_ble_eq_true rfl) ⟨by decide, by decide⟩ (n := 50) rfl (fun _ _ h => h.elim) (fun v9 ν9 h9 => ?_)
  rw [h9.1, h9.2]
  show zK x g ({ frames := 4, cells := 0, slots := 0, locals := 97 } : Room) 2 0 0 50 [some (.ref (za g 21)), some (.int (nI i))] [.int (nI (ph i)), .ref (za g 21)] ν1
  refine k_iload1 S dX4_isPoint_50 (n := 51) rfl ?_
  refine k_callV (As := [.int (nI (ph i)), .int (nI i)]) (rest := []) (p := 21) S (c_X4_laysPointsR (t := ph i) hn (((Q.thr 0).thr 0).near hL.1) (by have := Q.pc hi; have := Q.c10; omega) (q := i) (N := i + 1) (by omega) (Or.inl ⟨rfl, hi⟩)) mv_X4_laysPoints m_777 dX4_isPoint_51 rfl rfl ⟨by decide, by decide⟩ (by rw [hn]; decide) (by decide) (ci := 4) rfl rfl rfl (Nat.le_of_ble_eq_true rfl) ⟨by decide, by decide⟩ (n := 54) rfl (fun _ _ h => h.elim) (fun v9 ν2 h9 => ?_)
  obtain ⟨e1, hP⟩ := h9
  rw [e1]
  show zK x g ({ frames := 4, cells := 0, slots := 0, locals := 97 } : Room) 2 0 0 54 [some (.ref (za g 21)), some (.int (nI i))] [] ν2
  have hl : zHas (zu (zu μ 21 23 0) 21 23 0) ph (ph i) d := (zL_thr _ 0 ph (ph i) d s).2.2.mpr ((zL_thr μ 0 ph (ph i) d s).2.2.mpr (Or.inr (zpc_pos ph (μ.1 24) hi hr)))
  have hA := zLaid_of hL hl hP
  refine k_aload0 S dX4_isPoint_54 (n := 55) rfl ?_
  refine k_getv (v := 0) (T := TX4) (j := 23) S dX4_isPoint_55 (by rw [hn]; decide) (by decide) (ci := 4) rfl rfl (by decide) in_4 m_695 rfl rfl ((hA.1.2 21 23 rfl).trans (by simp [zu])) (n := 58) rfl ?_
  refine k_if_ne S dX4_isPoint_58 (tgt := 65) (by decide) (n := 61) rfl (fun h9 => absurd (by decide) h9) (fun _ => ?_)
  refine k_iconst S dX4_isPoint_61 (v := 1) (by decide) (n := 62) rfl ?_
  refine k_goto S dX4_isPoint_62 (tgt := 66) (by decide) ?_
  exact k_iret S Y dX4_isPoint_66 (by decide) (by decide) rfl (⟨rfl, by rw [zu_zu] at hA; exact hA.thr⟩)
def zwM (wt : Int64) (xs : Nat → Int32) (C : Int32) : Nat → Int64
  | 0 => Int32.toInt64 C
  | n + 1 => zwM wt xs C n + zflM (wt * (Int32.toInt64 (xs n) - zwM wt xs C n)) 10
def zcM (h sd C : Int32) (xs : Nat → Int32) : Nat → Int32
  | 0 => 0
  | n + 1 => if zcM h sd C xs n + ((xs n - C) * sd - h) ≤ 0 then 0 else zcM h sd C xs n + ((xs n - C) * sd - h)
/-- the means of the points of phase t among the first n subgroups, from the first one on -/
def zxs (μ : zM) (ph : Nat → Nat) (t n : Nat) : Nat → Int32 := fun j => zmn μ (zpx ph (μ.1 24) t n j)
set_option maxRecDepth 100000 in
set_option maxHeartbeats 4000000 in
theorem l_X4_weighted {x : zX} {g : zG} {ν : zM} {m : Nat} {xs : Nat → Int32} {wt C : Int32} {RT : Option Value → zM → Prop} {i : Nat} (S : zS x g 5 cX4_weighted RX4) (Y : zR x g (some .int) 0 0 [] RT zNX) (hR : RT (some (.int (Int64.toInt32 (zwM (Int32.toInt64 wt) xs C m)))) ν) (hn : zn g = 32) (hm : ν.1 21 20 = nI m) (hm60 : m ≤ 60) (hx : ∀ j, j < m → ν.1 30 j = xs j) (hw : ν.1 21 14 = wt)  : ∀ (k n : Nat), n + k = m → zK x g ({ frames := 5, cells := 0, slots := 0, locals := 118 } : Room) 5 0 0 19 [some (.ref (za g 21)), some (.int (nI i)), some (.long (zwM (Int32.toInt64 wt) xs C n)), none, some (.int (nI n))] [] ν := by
  intro k
  induction k with
  | zero =>
    intro n h1
    obtain rfl : m = n := by omega
    refine k_iload4 S dX4_weighted_19 (n := 21) rfl ?_
    refine k_aload0 S dX4_weighted_21 (n := 22) rfl ?_
    refine k_getv (v := nI m) (T := TX4) (j := 20) S dX4_weighted_22 (by rw [hn]; decide) (by decide) (ci := 4) rfl rfl (by decide) in_4 m_692 rfl rfl hm (n := 25) rfl ?_
    refine k_icmp_ge S dX4_weighted_25 (tgt := 59) (by decide) (n := 28) rfl (fun _ => ?_) (fun h9 => absurd (Int32.le_refl _) h9)
    refine k_lload2 S dX4_weighted_59 (n := 60) rfl ?_
    refine k_l2i S dX4_weighted_60 (n := 61) rfl ?_
    exact k_iret S Y dX4_weighted_61 (by decide) (by decide) rfl (hR)
  | succ k ih =>
    intro n h1
    refine k_iload4 S dX4_weighted_19 (n := 21) rfl ?_
    refine k_aload0 S dX4_weighted_21 (n := 22) rfl ?_
    refine k_getv (v := nI m) (T := TX4) (j := 20) S dX4_weighted_22 (by rw [hn]; decide) (by decide) (ci := 4) rfl rfl (by decide) in_4 m_692 rfl rfl hm (n := 25) rfl ?_
    refine k_icmp_ge S dX4_weighted_25 (tgt := 59) (by decide) (n := 28) rfl (fun h9 => absurd h9 (nI_ge (by omega) (by omega))) (fun _ => ?_)
    refine k_lload2 S dX4_weighted_28 (n := 29) rfl ?_
    refine k_aload0 S dX4_weighted_29 (n := 30) rfl ?_
    refine k_getv (v := wt) (T := TX4) (j := 14) S dX4_weighted_30 (by rw [hn]; decide) (by decide) (ci := 4) rfl rfl (by decide) in_4 m_686 rfl rfl hw (n := 33) rfl ?_
    refine k_i2l S dX4_weighted_33 (n := 34) rfl ?_
    refine k_aload0 S dX4_weighted_34 (n := 35) rfl ?_
    refine k_getr (r := 30) (T := TX4) (j := 22) S dX4_weighted_35 (by rw [hn]; decide) (by decide) (ci := 4) rfl rfl (by decide) in_4 m_694 rfl rfl (n := 38) rfl ?_
    refine k_iload4 S dX4_weighted_38 (n := 40) rfl ?_
    refine k_ialdv (v := xs n) S dX4_weighted_40 (j := n) (by rw [hn]; decide) (by decide) rfl (show n < 60 by omega) (by decide) (hx n (by omega)) (n := 41) rfl ?_
    refine k_i2l S dX4_weighted_41 (n := 42) rfl ?_
    refine k_lload2 S dX4_weighted_42 (n := 43) rfl ?_
    refine k_lsub S dX4_weighted_43 (n := 44) rfl ?_
    refine k_lmul S dX4_weighted_44 (n := 45) rfl ?_
    refine k_ldc2 S dX4_weighted_45 (v := 10) m_916 (n := 48) rfl ?_
    refine k_callS (As := [.long ((Int32.toInt64 wt) * ((Int32.toInt64 (xs n)) - (zwM (Int32.toInt64 wt) xs C n))), .long 10]) (rest := [.long (zwM (Int32.toInt64 wt) xs C n)]) S (c_X4_floored (by decide)) mv_X4_floored m_790 dX4_weighted_48 rfl rfl ⟨by decide, by decide⟩ rfl rfl (Nat.le_of_ble_eq_true rfl) ⟨by decide, by decide⟩ (n := 51) rfl (fun _ _ h => h.elim) (fun v9 ν9 h9 => ?_)
    rw [h9.1, h9.2]
    show zK x g ({ frames := 5, cells := 0, slots := 0, locals := 118 } : Room) 5 0 0 51 [some (.ref (za g 21)), some (.int (nI i)), some (.long (zwM (Int32.toInt64 wt) xs C n)), none, some (.int (nI n))] [.long (zflM ((Int32.toInt64 wt) * ((Int32.toInt64 (xs n)) - (zwM (Int32.toInt64 wt) xs C n))) 10), .long (zwM (Int32.toInt64 wt) xs C n)] ν
    refine k_ladd S dX4_weighted_51 (n := 52) rfl ?_
    refine k_lstore2 S dX4_weighted_52 (by decide) rfl (n := 53) rfl ?_
    refine k_iinc4 S dX4_weighted_53 (v := nI (n + 1)) (zi1 n) (by decide) (n := 56) rfl ?_
    refine k_goto S dX4_weighted_56 (tgt := 19) (by decide) ?_
    exact ih (n + 1) (by omega)
set_option maxRecDepth 100000 in
set_option maxHeartbeats 4000000 in
theorem c_X4_weighted_no {l : Launch} {g : zG} {μ : zM} {v : Int32} {d c s : Nat} {ph fs : Nat → Nat}  (hn : zn g = 32) (Q : zQ μ d c s ph fs) (hi : ¬ zIn v d) : zC l g yX4_weighted cX4_weighted 5 (some .int) ({ frames := 5, cells := 0, slots := 0, locals := 118 } : Room) 0 0 [.ref (za g 21), .int v] μ (zRn μ (some (.int (0))) 1) zNX := by
  refine zC_of (L0 := [some (.ref (za g 21)), some (.int v), none, none, none]) (plainFor_of_name (by decide)) (Nat.le_of_ble_eq_true rfl) rfl ?_
  intro x S Y hxl
  subst hxl
  refine k_aload0 S dX4_weighted_0 (n := 1) rfl ?_
  refine k_iload1 S dX4_weighted_1 (n := 2) rfl ?_
  refine k_callV (As := [.int v]) (rest := []) (p := 21) S (c_X4_isPoint_no hn Q hi) mv_X4_isPoint m_912 dX4_weighted_2 rfl rfl ⟨by decide, by decide⟩ (by rw [hn]; decide) (by decide) (ci := 4) rfl rfl rfl (Nat.le_of_ble_eq_true rfl) ⟨by decide, by decide⟩ (n := 5) rfl (fun _ _ h => h.elim) (fun v9 ν1 h9 => ?_)
  obtain ⟨e1, hA⟩ := h9
  rw [e1]
  show zK x g ({ frames := 5, cells := 0, slots := 0, locals := 118 } : Room) 5 0 0 5 [some (.ref (za g 21)), some (.int v), none, none, none] [.int 0] ν1
  refine k_if_ne S dX4_weighted_5 (tgt := 10) (by decide) (n := 8) rfl (fun h9 => absurd (by decide) h9) (fun _ => ?_)
  refine k_iconst S dX4_weighted_8 (v := 0) (by decide) (n := 9) rfl ?_
  exact k_iret S Y dX4_weighted_9 (by decide) (by decide) rfl (⟨rfl, hA⟩)
set_option maxRecDepth 100000 in
set_option maxHeartbeats 4000000 in
theorem c_X4_weighted_ex {l : Launch} {g : zG} {μ : zM} {i : Nat} {d c s : Nat} {ph fs : Nat → Nat}  (hn : zn g = 32) (Q : zQ μ d c s ph fs) (hi : i < d) (hr : ¬ μ.1 24 i ≤ 0) : zC l g yX4_weighted cX4_weighted 5 (some .int) ({ frames := 5, cells := 0, slots := 0, locals := 118 } : Room) 0 0 [.ref (za g 21), .int (nI i)] μ (zRn μ (some (.int (0))) 2) zNX := by
  refine zC_of (L0 := [some (.ref (za g 21)), some (.int (nI i)), none, none, none]) (plainFor_of_name (by decide)) (Nat.le_of_ble_eq_true rfl) rfl ?_
  intro x S Y hxl
  subst hxl
  refine k_aload0 S dX4_weighted_0 (n := 1) rfl ?_
  refine k_iload1 S dX4_weighted_1 (n := 2) rfl ?_
  refine k_callV (As := [.int (nI i)]) (rest := []) (p := 21) S (c_X4_isPoint_ex hn Q hi hr) mv_X4_isPoint m_912 dX4_weighted_2 rfl rfl ⟨by decide, by decide⟩ (by rw [hn]; decide) (by decide) (ci := 4) rfl rfl rfl (Nat.le_of_ble_eq_true rfl) ⟨by decide, by decide⟩ (n := 5) rfl (fun _ _ h => h.elim) (fun v9 ν1 h9 => ?_)
  obtain ⟨e1, hA⟩ := h9
  rw [e1]
  show zK x g ({ frames := 5, cells := 0, slots := 0, locals := 118 } : Room) 5 0 0 5 [some (.ref (za g 21)), some (.int (nI i)), none, none, none] [.int 0] ν1
  refine k_if_ne S dX4_weighted_5 (tgt := 10) (by decide) (n := 8) rfl (fun h9 => absurd (by decide) h9) (fun _ => ?_)
  refine k_iconst S dX4_weighted_8 (v := 0) (by decide) (n := 9) rfl ?_
  exact k_iret S Y dX4_weighted_9 (by decide) (by decide) rfl (⟨rfl, hA⟩)
set_option maxRecDepth 100000 in
set_option maxHeartbeats 4000000 in
theorem c_X4_weighted_ok {l : Launch} {g : zG} {μ : zM} {i : Nat} {d c s : Nat} {ph fs : Nat → Nat}  (hn : zn g = 32) (Q : zQ μ d c s ph fs) (hi : i < d) (hr : μ.1 24 i = 0) : zC l g yX4_weighted cX4_weighted 5 (some .int) ({ frames := 5, cells := 0, slots := 0, locals := 118 } : Room) 0 0 [.ref (za g 21), .int (nI i)] μ (zRn μ (some (.int (Int64.toInt32 (zwM (Int32.toInt64 (μ.1 21 14)) (zxs μ ph (ph i) (i + 1)) (zLC μ ph (ph i) d s) (zpc ph (μ.1 24) (ph i) (i + 1)))))) 0) zNX := by
  refine zC_of (L0 := [some (.ref (za g 21)), some (.int (nI i)), none, none, none]) (plainFor_of_name (by decide)) (Nat.le_of_ble_eq_true rfl) rfl ?_
  intro x S Y hxl
  subst hxl
  refine k_aload0 S dX4_weighted_0 (n := 1) rfl ?_
  refine k_iload1 S dX4_weighted_1 (n := 2) rfl ?_
  refine k_callV (As := [.int (nI i)]) (rest := []) (p := 21) S (c_X4_isPoint_ok hn Q hi hr) mv_X4_isPoint m_912 dX4_weighted_2 rfl rfl ⟨by decide, by decide⟩ (by rw [hn]; decide) (by decide) (ci := 4) rfl rfl rfl (Nat.le_of_ble_eq_true rfl) ⟨by decide, by decide⟩ (n := 5) rfl (fun _ _ h => h.elim) (fun v9 ν1 h9 => ?_)
  obtain ⟨e1, hA⟩ := h9
  rw [e1]
  show zK x g ({ frames := 5, cells := 0, slots := 0, locals := 118 } : Room) 5 0 0 5 [some (.ref (za g 21)), some (.int (nI i)), none, none, none] [.int 1] ν1
  refine k_if_ne S dX4_weighted_5 (tgt := 10) (by decide) (n := 8) rfl (fun _ => ?_) (fun h9 => absurd h9 (by decide))
  refine k_aload0 S dX4_weighted_10 (n := 11) rfl ?_
  refine k_getv (v := zLC μ ph (ph i) d s) (T := TX4) (j := 16) S dX4_weighted_11 (by rw [hn]; decide) (by decide) (ci := 4) rfl rfl (by decide) in_4 m_688 rfl rfl hA.2.1 (n := 14) rfl ?_
  refine k_i2l S dX4_weighted_14 (n := 15) rfl ?_
  refine k_lstore2 S dX4_weighted_15 (by decide) rfl (n := 16) rfl ?_
  refine k_iconst S dX4_weighted_16 (v := 0) (by decide) (n := 17) rfl ?_
  refine k_istore4 S dX4_weighted_17 (by decide) rfl (n := 19) rfl ?_
  have hd60 := Q.2.2.1
  have hle := zpc_le ph (μ.1 24) (ph i) (i + 1)
  exact l_X4_weighted (xs := zxs μ ph (ph i) (i + 1)) (m := zpc ph (μ.1 24) (ph i) (i + 1)) (wt := μ.1 21 14) (C := zLC μ ph (ph i) d s) S Y ⟨rfl, hA.1⟩ hn hA.2.2.2.2.2.1 (by omega) (fun j hj => (hA.2.2.2.2.2.2 j hj).2) ((hA.1.2 21 14 rfl).trans (zu_ne _ (by decide))) (zpc ph (μ.1 24) (ph i) (i + 1)) 0 (by omega)
set_option maxRecDepth 100000 in
set_option maxHeartbeats 4000000 in
theorem l_X4_cumulative {x : zX} {g : zG} {ν : zM} {m : Nat} {xs : Nat → Int32} {C h sd b : Int32} {RT : Option Value → zM → Prop} {i : Nat} (S : zS x g 7 cX4_cumulative RX4) (Y : zR x g (some .int) 0 0 [] RT zNX) (hR : RT (some (.int (zcM h sd C xs m))) ν) (hn : zn g = 32) (hm : ν.1 21 20 = nI m) (hm60 : m ≤ 60) (hx : ∀ j, j < m → ν.1 30 j = xs j) (hC : ν.1 21 16 = C)  : ∀ (k n : Nat), n + k = m → zK x g ({ frames := 5, cells := 0, slots := 0, locals := 118 } : Room) 7 0 0 36 [some (.ref (za g 21)), some (.int (nI i)), some (.int b), some (.int h), some (.int sd), some (.int (zcM h sd C xs n)), some (.int (nI n))] [] ν := by
  intro k
  induction k with
  | zero =>
    intro n h1
    obtain rfl : m = n := by omega
    refine k_iload6 S dX4_cumulative_36 (n := 38) rfl ?_
    refine k_aload0 S dX4_cumulative_38 (n := 39) rfl ?_
    refine k_getv (v := nI m) (T := TX4) (j := 20) S dX4_cumulative_39 (by rw [hn]; decide) (by decide) (ci := 4) rfl rfl (by decide) in_4 m_692 rfl rfl hm (n := 42) rfl ?_
    refine k_icmp_ge S dX4_cumulative_42 (tgt := 86) (by decide) (n := 45) rfl (fun _ => ?_) (fun h9 => absurd (Int32.le_refl _) h9)
    refine k_iload5 S dX4_cumulative_86 (n := 88) rfl ?_
    exact k_iret S Y dX4_cumulative_88 (by decide) (by decide) rfl (hR)
  | succ k ih =>
    intro n h1
    refine k_iload6 S dX4_cumulative_36 (n := 38) rfl ?_
    refine k_aload0 S dX4_cumulative_38 (n := 39) rfl ?_
    refine k_getv (v := nI m) (T := TX4) (j := 20) S dX4_cumulative_39 (by rw [hn]; decide) (by decide) (ci := 4) rfl rfl (by decide) in_4 m_692 rfl rfl hm (n := 42) rfl ?_
    refine k_icmp_ge S dX4_cumulative_42 (tgt := 86) (by decide) (n := 45) rfl (fun h9 => absurd h9 (nI_ge (by omega) (by omega))) (fun _ => ?_)
    refine k_iload5 S dX4_cumulative_45 (n := 47) rfl ?_
    refine k_aload0 S dX4_cumulative_47 (n := 48) rfl ?_
    refine k_getr (r := 30) (T := TX4) (j := 22) S dX4_cumulative_48 (by rw [hn]; decide) (by decide) (ci := 4) rfl rfl (by decide) in_4 m_694 rfl rfl (n := 51) rfl ?_
    refine k_iload6 S dX4_cumulative_51 (n := 53) rfl ?_
    refine k_ialdv (v := xs n) S dX4_cumulative_53 (j := n) (by rw [hn]; decide) (by decide) rfl (show n < 60 by omega) (by decide) (hx n (by omega)) (n := 54) rfl ?_
    refine k_aload0 S dX4_cumulative_54 (n := 55) rfl ?_
    refine k_getv (v := C) (T := TX4) (j := 16) S dX4_cumulative_55 (by rw [hn]; decide) (by decide) (ci := 4) rfl rfl (by decide) in_4 m_688 rfl rfl hC (n := 58) rfl ?_
    refine k_isub S dX4_cumulative_58 (n := 59) rfl ?_
    refine k_iload4 S dX4_cumulative_59 (n := 61) rfl ?_
    refine k_imul S dX4_cumulative_61 (n := 62) rfl ?_
    refine k_iload3 S dX4_cumulative_62 (n := 63) rfl ?_
    refine k_isub S dX4_cumulative_63 (n := 64) rfl ?_
    refine k_iadd S dX4_cumulative_64 (n := 65) rfl ?_
    refine k_istore5 S dX4_cumulative_65 (by decide) rfl (n := 67) rfl ?_
    refine k_iload5 S dX4_cumulative_67 (n := 69) rfl ?_
    have hJ2 : zK x g ({ frames := 5, cells := 0, slots := 0, locals := 118 } : Room) 7 0 0 78 [some (.ref (za g 21)), some (.int (nI i)), some (.int b), some (.int h), some (.int sd), some (.int ((zcM h sd C xs n) + ((((xs n) - C) * sd) - h))), some (.int (nI n))] [.int ((if ((zcM h sd C xs n) + ((((xs n) - C) * sd) - h)) ≤ 0 then (0 : Int32) else (zcM h sd C xs n) + ((((xs n) - C) * sd) - h)))] ν := by
      refine k_istore5 S dX4_cumulative_78 (by decide) rfl (n := 80) rfl ?_
      refine k_iinc6 S dX4_cumulative_80 (v := nI (n + 1)) (zi1 n) (by decide) (n := 83) rfl ?_
      refine k_goto S dX4_cumulative_83 (tgt := 36) (by decide) ?_
      exact ih (n + 1) (by omega)
    refine k_if_le S dX4_cumulative_69 (tgt := 77) (by decide) (n := 72) rfl (fun c1 => ?_) (fun c1 => ?_)
    ·
      refine k_iconst S dX4_cumulative_77 (v := 0) (by decide) (n := 78) rfl ?_
      rw [if_pos c1] at hJ2
      exact hJ2
    ·
      refine k_iload5 S dX4_cumulative_72 (n := 74) rfl ?_
      refine k_goto S dX4_cumulative_74 (tgt := 78) (by decide) ?_
      rw [if_neg c1] at hJ2
      exact hJ2
set_option maxRecDepth 100000 in
set_option maxHeartbeats 4000000 in
theorem c_X4_cumulative_no {l : Launch} {g : zG} {μ : zM} {v : Int32} {b : Int32} {d c s : Nat} {ph fs : Nat → Nat}  (hn : zn g = 32) (Q : zQ μ d c s ph fs) (hi : ¬ zIn v d) : zC l g yX4_cumulative cX4_cumulative 7 (some .int) ({ frames := 5, cells := 0, slots := 0, locals := 118 } : Room) 0 0 [.ref (za g 21), .int v, .int b] μ (zRn μ (some (.int (0))) 1) zNX := by
  refine zC_of (L0 := [some (.ref (za g 21)), some (.int v), some (.int b), none, none, none, none]) (plainFor_of_name (by decide)) (Nat.le_of_ble_eq_true rfl) rfl ?_
  intro x S Y hxl
  subst hxl
  refine k_aload0 S dX4_cumulative_0 (n := 1) rfl ?_
  refine k_iload1 S dX4_cumulative_1 (n := 2) rfl ?_
  refine k_callV (As := [.int v]) (rest := []) (p := 21) S (c_X4_isPoint_no hn Q hi) mv_X4_isPoint m_912 dX4_cumulative_2 rfl rfl ⟨by decide, by decide⟩ (by rw [hn]; decide) (by decide) (ci := 4) rfl rfl rfl (Nat.le_of_ble_eq_true rfl) ⟨by decide, by decide⟩ (n := 5) rfl (fun _ _ h => h.elim) (fun v9 ν1 h9 => ?_)
  obtain ⟨e1, hA⟩ := h9
  rw [e1]
  show zK x g ({ frames := 5, cells := 0, slots := 0, locals := 118 } : Room) 7 0 0 5 [some (.ref (za g 21)), some (.int v), some (.int b), none, none, none, none] [.int 0] ν1
  refine k_if_ne S dX4_cumulative_5 (tgt := 10) (by decide) (n := 8) rfl (fun h9 => absurd (by decide) h9) (fun _ => ?_)
  refine k_iconst S dX4_cumulative_8 (v := 0) (by decide) (n := 9) rfl ?_
  exact k_iret S Y dX4_cumulative_9 (by decide) (by decide) rfl (⟨rfl, hA⟩)
set_option maxRecDepth 100000 in
set_option maxHeartbeats 4000000 in
theorem c_X4_cumulative_ex {l : Launch} {g : zG} {μ : zM} {i : Nat} {b : Int32} {d c s : Nat} {ph fs : Nat → Nat}  (hn : zn g = 32) (Q : zQ μ d c s ph fs) (hi : i < d) (hr : ¬ μ.1 24 i ≤ 0) : zC l g yX4_cumulative cX4_cumulative 7 (some .int) ({ frames := 5, cells := 0, slots := 0, locals := 118 } : Room) 0 0 [.ref (za g 21), .int (nI i), .int b] μ (zRn μ (some (.int (0))) 2) zNX := by
  refine zC_of (L0 := [some (.ref (za g 21)), some (.int (nI i)), some (.int b), none, none, none, none]) (plainFor_of_name (by decide)) (Nat.le_of_ble_eq_true rfl) rfl ?_
  intro x S Y hxl
  subst hxl
  refine k_aload0 S dX4_cumulative_0 (n := 1) rfl ?_
  refine k_iload1 S dX4_cumulative_1 (n := 2) rfl ?_
  refine k_callV (As := [.int (nI i)]) (rest := []) (p := 21) S (c_X4_isPoint_ex hn Q hi hr) mv_X4_isPoint m_912 dX4_cumulative_2 rfl rfl ⟨by decide, by decide⟩ (by rw [hn]; decide) (by decide) (ci := 4) rfl rfl rfl (Nat.le_of_ble_eq_true rfl) ⟨by decide, by decide⟩ (n := 5) rfl (fun _ _ h => h.elim) (fun v9 ν1 h9 => ?_)
  obtain ⟨e1, hA⟩ := h9
  rw [e1]
  show zK x g ({ frames := 5, cells := 0, slots := 0, locals := 118 } : Room) 7 0 0 5 [some (.ref (za g 21)), some (.int (nI i)), some (.int b), none, none, none, none] [.int 0] ν1
  refine k_if_ne S dX4_cumulative_5 (tgt := 10) (by decide) (n := 8) rfl (fun h9 => absurd (by decide) h9) (fun _ => ?_)
  refine k_iconst S dX4_cumulative_8 (v := 0) (by decide) (n := 9) rfl ?_
  exact k_iret S Y dX4_cumulative_9 (by decide) (by decide) rfl (⟨rfl, hA⟩)
set_option maxRecDepth 100000 in
set_option maxHeartbeats 4000000 in
theorem c_X4_cumulative_ok {l : Launch} {g : zG} {μ : zM} {i : Nat} {b : Int32} {d c s : Nat} {ph fs : Nat → Nat}  (hn : zn g = 32) (Q : zQ μ d c s ph fs) (hi : i < d) (hr : μ.1 24 i = 0) : zC l g yX4_cumulative cX4_cumulative 7 (some .int) ({ frames := 5, cells := 0, slots := 0, locals := 118 } : Room) 0 0 [.ref (za g 21), .int (nI i), .int b] μ (zRn μ (some (.int (zcM (zWd s 0 (zLR μ ph (ph i) d) / 3 / 2) (if b = 0 then (-1 : Int32) else (1 : Int32)) (zLC μ ph (ph i) d s) (zxs μ ph (ph i) (i + 1)) (zpc ph (μ.1 24) (ph i) (i + 1))))) 0) zNX := by
  refine zC_of (L0 := [some (.ref (za g 21)), some (.int (nI i)), some (.int b), none, none, none, none]) (plainFor_of_name (by decide)) (Nat.le_of_ble_eq_true rfl) rfl ?_
  intro x S Y hxl
  subst hxl
  refine k_aload0 S dX4_cumulative_0 (n := 1) rfl ?_
  refine k_iload1 S dX4_cumulative_1 (n := 2) rfl ?_
  refine k_callV (As := [.int (nI i)]) (rest := []) (p := 21) S (c_X4_isPoint_ok hn Q hi hr) mv_X4_isPoint m_912 dX4_cumulative_2 rfl rfl ⟨by decide, by decide⟩ (by rw [hn]; decide) (by decide) (ci := 4) rfl rfl rfl (Nat.le_of_ble_eq_true rfl) ⟨by decide, by decide⟩ (n := 5) rfl (fun _ _ h => h.elim) (fun v9 ν1 h9 => ?_)
  obtain ⟨e1, hA⟩ := h9
  rw [e1]
  show zK x g ({ frames := 5, cells := 0, slots := 0, locals := 118 } : Room) 7 0 0 5 [some (.ref (za g 21)), some (.int (nI i)), some (.int b), none, none, none, none] [.int 1] ν1
  refine k_if_ne S dX4_cumulative_5 (tgt := 10) (by decide) (n := 8) rfl (fun _ => ?_) (fun h9 => absurd h9 (by decide))
  refine k_aload0 S dX4_cumulative_10 (n := 11) rfl ?_
  refine k_getv (v := zWd s 0 (zLR μ ph (ph i) d)) (T := TX4) (j := 18) S dX4_cumulative_11 (by rw [hn]; decide) (by decide) (ci := 4) rfl rfl (by decide) in_4 m_690 rfl rfl hA.2.2.2.1 (n := 14) rfl ?_
  refine k_iconst S dX4_cumulative_14 (v := 3) (by decide) (n := 15) rfl ?_
  refine k_idiv S dX4_cumulative_15 (by decide) (n := 16) rfl ?_
  refine k_iconst S dX4_cumulative_16 (v := 2) (by decide) (n := 17) rfl ?_
  refine k_idiv S dX4_cumulative_17 (by decide) (n := 18) rfl ?_
  refine k_istore3 S dX4_cumulative_18 (by decide) rfl (n := 19) rfl ?_
  refine k_iload2 S dX4_cumulative_19 (n := 20) rfl ?_
  have hJ2 : zK x g ({ frames := 5, cells := 0, slots := 0, locals := 118 } : Room) 7 0 0 28 [some (.ref (za g 21)), some (.int (nI i)), some (.int b), some (.int (((zWd s 0 (zLR μ ph (ph i) d)) / 3) / 2)), none, none, none] [.int ((if b = 0 then (-1 : Int32) else (1 : Int32)))] ν1 := by
    refine k_istore4 S dX4_cumulative_28 (by decide) rfl (n := 30) rfl ?_
    refine k_iconst S dX4_cumulative_30 (v := 0) (by decide) (n := 31) rfl ?_
    refine k_istore5 S dX4_cumulative_31 (by decide) rfl (n := 33) rfl ?_
    refine k_iconst S dX4_cumulative_33 (v := 0) (by decide) (n := 34) rfl ?_
    refine k_istore6 S dX4_cumulative_34 (by decide) rfl (n := 36) rfl ?_
    have hd60 := Q.2.2.1
    have hle := zpc_le ph (μ.1 24) (ph i) (i + 1)
    exact l_X4_cumulative (xs := zxs μ ph (ph i) (i + 1)) (m := zpc ph (μ.1 24) (ph i) (i + 1)) (C := zLC μ ph (ph i) d s) S Y ⟨rfl, hA.1⟩ hn hA.2.2.2.2.2.1 (by omega) (fun j hj => (hA.2.2.2.2.2.2 j hj).2) hA.2.1 (zpc ph (μ.1 24) (ph i) (i + 1)) 0 (by omega)
  refine k_if_eq S dX4_cumulative_20 (tgt := 27) (by decide) (n := 23) rfl (fun c1 => ?_) (fun c1 => ?_)
  ·
    refine k_iconst S dX4_cumulative_27 (v := (-1)) (by decide) (n := 28) rfl ?_
    rw [if_pos c1] at hJ2
    exact hJ2
  ·
    refine k_iconst S dX4_cumulative_23 (v := 1) (by decide) (n := 24) rfl ?_
    refine k_goto S dX4_cumulative_24 (tgt := 28) (by decide) ?_
    rw [if_neg c1] at hJ2
    exact hJ2
def zsM (μ : zM) (ph : Nat → Nat) (k d s : Nat) : Int64 := 1000 * Int32.toInt64 (zLR μ ph k d) / Int32.toInt64 (zTab 2 s)
def zkM (C a b e : Int32) (sp : Int64) : Int64 := if e = 0 then 1000 * (1000 * Int32.toInt64 b - 1000 * Int32.toInt64 a) / (6 * sp) else zflM (1000 * (if 0 ≤ lg_cmp (1000 * Int32.toInt64 b - Int32.toInt64 C) (Int32.toInt64 C - 1000 * Int32.toInt64 a) then Int32.toInt64 C - 1000 * Int32.toInt64 a else 1000 * Int32.toInt64 b - Int32.toInt64 C)) (3 * sp)
theorem zdv {s : Nat} (h : s < 5) : ¬ Int32.toInt64 (zTab 2 s) = 0 := by
  match s, h with
  | 0, _ => decide
  | 1, _ => decide
  | 2, _ => decide
  | 3, _ => decide
  | 4, _ => decide
  | s + 5, h => exact absurd h (by omega)
set_option maxRecDepth 100000 in
set_option maxHeartbeats 4000000 in
theorem c_X4_capability_no {l : Launch} {g : zG} {μ : zM} {v a b e : Int32} {d c s : Nat} {ph fs : Nat → Nat}  (hn : zn g = 32) (Q : zQ μ d c s ph fs) (hk : ¬ zIn v c) : zC l g yX4_capability cX4_capability 13 (some .long) ({ frames := 4, cells := 0, slots := 0, locals := 97 } : Room) 0 0 [.ref (za g 21), .int v, .int a, .int b, .int e] μ (zRn μ (some (.long (0))) 1) zNX := by
  refine zC_of (L0 := [some (.ref (za g 21)), some (.int v), some (.int a), some (.int b), some (.int e), none, none, none, none, none, none, none, none]) (plainFor_of_name (by decide)) (Nat.le_of_ble_eq_true rfl) rfl ?_
  intro x S Y hxl
  subst hxl
  refine k_aload0 S dX4_capability_0 (n := 1) rfl ?_
  refine k_iload1 S dX4_capability_1 (n := 2) rfl ?_
  refine k_callV (As := [.int v]) (rest := []) (p := 21) S (c_X4_isPhase_no hn Q.1.1 (by have := Q.c10; omega) hk) mv_X4_isPhase m_769 dX4_capability_2 rfl rfl ⟨by decide, by decide⟩ (by rw [hn]; decide) (by decide) (ci := 4) rfl rfl rfl (Nat.le_of_ble_eq_true rfl) ⟨by decide, by decide⟩ (n := 5) rfl (fun _ _ h => h.elim) (fun v9 ν9 h9 => ?_)
  rw [h9.1, h9.2]
  show zK x g ({ frames := 4, cells := 0, slots := 0, locals := 97 } : Room) 13 0 0 5 [some (.ref (za g 21)), some (.int v), some (.int a), some (.int b), some (.int e), none, none, none, none, none, none, none, none] [.int 0] (zu μ 21 23 1)
  refine k_if_ne S dX4_capability_5 (tgt := 10) (by decide) (n := 8) rfl (fun h9 => absurd (by decide) h9) (fun _ => ?_)
  refine k_lconst S dX4_capability_8 (v := 0) (by decide) (n := 9) rfl ?_
  exact k_lret S Y dX4_capability_9 (by decide) (by decide) ((zrn0 _ _ _))
set_option maxRecDepth 100000 in
set_option maxHeartbeats 4000000 in
theorem c_X4_capability_a {l : Launch} {g : zG} {μ : zM} {k : Nat} {a b e : Int32} {d c s : Nat} {ph fs : Nat → Nat}  (hn : zn g = 32) (Q : zQ μ d c s ph fs) (hk : k < c) (h1 : ¬ (-9999 ≤ a ∧ a ≤ 9999)) : zC l g yX4_capability cX4_capability 13 (some .long) ({ frames := 4, cells := 0, slots := 0, locals := 97 } : Room) 0 0 [.ref (za g 21), .int (nI k), .int a, .int b, .int e] μ (zRn μ (some (.long (0))) 2) zNX := by
  refine zC_of (L0 := [some (.ref (za g 21)), some (.int (nI k)), some (.int a), some (.int b), some (.int e), none, none, none, none, none, none, none, none]) (plainFor_of_name (by decide)) (Nat.le_of_ble_eq_true rfl) rfl ?_
  intro x S Y hxl
  subst hxl
  refine k_aload0 S dX4_capability_0 (n := 1) rfl ?_
  refine k_iload1 S dX4_capability_1 (n := 2) rfl ?_
  refine k_callV (As := [.int (nI k)]) (rest := []) (p := 21) S (c_X4_isPhase_ok hn Q.1.1 (by have := Q.c10; omega) hk) mv_X4_isPhase m_769 dX4_capability_2 rfl rfl ⟨by decide, by decide⟩ (by rw [hn]; decide) (by decide) (ci := 4) rfl rfl rfl (Nat.le_of_ble_eq_true rfl) ⟨by decide, by decide⟩ (n := 5) rfl (fun _ _ h => h.elim) (fun v9 ν9 h9 => ?_)
  rw [h9.1, h9.2]
  show zK x g ({ frames := 4, cells := 0, slots := 0, locals := 97 } : Room) 13 0 0 5 [some (.ref (za g 21)), some (.int (nI k)), some (.int a), some (.int b), some (.int e), none, none, none, none, none, none, none, none] [.int 1] (zu μ 21 23 0)
  refine k_if_ne S dX4_capability_5 (tgt := 10) (by decide) (n := 8) rfl (fun _ => ?_) (fun h9 => absurd h9 (by decide))
  refine k_aload0 S dX4_capability_10 (n := 11) rfl ?_
  refine k_iload2 S dX4_capability_11 (n := 12) rfl ?_
  refine k_sipush S dX4_capability_12 (v := (-9999)) (by decide) (n := 15) rfl ?_
  refine k_sipush S dX4_capability_15 (v := 9999) (by decide) (n := 18) rfl ?_
  refine k_callS (As := [.int a, .int ((-9999)), .int 9999]) (rest := [.ref (za g 21)]) S (c_X4_isIn) mv_X4_isIn m_754 dX4_capability_18 rfl rfl ⟨by decide, by decide⟩ rfl rfl (Nat.le_of_ble_eq_true rfl) ⟨by decide, by decide⟩ (n := 21) rfl (fun _ _ h => h.elim) (fun v9 ν9 h9 => ?_)
  rw [h9.1, h9.2]
  show zK x g ({ frames := 4, cells := 0, slots := 0, locals := 97 } : Room) 13 0 0 21 [some (.ref (za g 21)), some (.int (nI k)), some (.int a), some (.int b), some (.int e), none, none, none, none, none, none, none, none] [.int (zii a ((-9999)) 9999), .ref (za g 21)] (zu μ 21 23 0)
  refine k_if_eq S dX4_capability_21 (tgt := 39) (by decide) (n := 24) rfl (fun _ => ?_) (fun h9 => absurd (zii_o h1) h9)
  refine k_iconst S dX4_capability_39 (v := 2) (by decide) (n := 40) rfl ?_
  refine k_put (T := TX4) (j := 23) S dX4_capability_40 (by rw [hn]; decide) (by decide) (ci := 4) rfl rfl (by decide) in_4 m_695 rfl rfl (ty0 := tyX4) tyX4_ok nmX4 rfl rfl rfl (n := 43) rfl ?_
  refine k_aload0 S dX4_capability_43 (n := 44) rfl ?_
  refine k_getv (v := 2) (T := TX4) (j := 23) S dX4_capability_44 (by rw [hn]; decide) (by decide) (ci := 4) rfl rfl (by decide) in_4 m_695 rfl rfl (by simp [zu, zset, upd]) (n := 47) rfl ?_
  refine k_if_le S dX4_capability_47 (tgt := 52) (by decide) (n := 50) rfl (fun h9 => absurd h9 (by decide)) (fun _ => ?_)
  refine k_lconst S dX4_capability_50 (v := 0) (by decide) (n := 51) rfl ?_
  exact k_lret S Y dX4_capability_51 (by decide) (by decide) (⟨rfl, (zNear.refl _).thr⟩)
set_option maxRecDepth 100000 in
set_option maxHeartbeats 4000000 in
theorem c_X4_capability_b {l : Launch} {g : zG} {μ : zM} {k : Nat} {a b e : Int32} {d c s : Nat} {ph fs : Nat → Nat}  (hn : zn g = 32) (Q : zQ μ d c s ph fs) (hk : k < c) (h1 : -9999 ≤ a) (h2 : a ≤ 9999) (h3 : ¬ (a ≤ b ∧ b ≤ 9999)) : zC l g yX4_capability cX4_capability 13 (some .long) ({ frames := 4, cells := 0, slots := 0, locals := 97 } : Room) 0 0 [.ref (za g 21), .int (nI k), .int a, .int b, .int e] μ (zRn μ (some (.long (0))) 2) zNX := by
  refine zC_of (L0 := [some (.ref (za g 21)), some (.int (nI k)), some (.int a), some (.int b), some (.int e), none, none, none, none, none, none, none, none]) (plainFor_of_name (by decide)) (Nat.le_of_ble_eq_true rfl) rfl ?_
  intro x S Y hxl
  subst hxl
  refine k_aload0 S dX4_capability_0 (n := 1) rfl ?_
  refine k_iload1 S dX4_capability_1 (n := 2) rfl ?_
  refine k_callV (As := [.int (nI k)]) (rest := []) (p := 21) S (c_X4_isPhase_ok hn Q.1.1 (by have := Q.c10; omega) hk) mv_X4_isPhase m_769 dX4_capability_2 rfl rfl ⟨by decide, by decide⟩ (by rw [hn]; decide) (by decide) (ci := 4) rfl rfl rfl (Nat.le_of_ble_eq_true rfl) ⟨by decide, by decide⟩ (n := 5) rfl (fun _ _ h => h.elim) (fun v9 ν9 h9 => ?_)
  rw [h9.1, h9.2]
  show zK x g ({ frames := 4, cells := 0, slots := 0, locals := 97 } : Room) 13 0 0 5 [some (.ref (za g 21)), some (.int (nI k)), some (.int a), some (.int b), some (.int e), none, none, none, none, none, none, none, none] [.int 1] (zu μ 21 23 0)
  refine k_if_ne S dX4_capability_5 (tgt := 10) (by decide) (n := 8) rfl (fun _ => ?_) (fun h9 => absurd h9 (by decide))
  refine k_aload0 S dX4_capability_10 (n := 11) rfl ?_
  refine k_iload2 S dX4_capability_11 (n := 12) rfl ?_
  refine k_sipush S dX4_capability_12 (v := (-9999)) (by decide) (n := 15) rfl ?_
  refine k_sipush S dX4_capability_15 (v := 9999) (by decide) (n := 18) rfl ?_
  refine k_callS (As := [.int a, .int ((-9999)), .int 9999]) (rest := [.ref (za g 21)]) S (c_X4_isIn) mv_X4_isIn m_754 dX4_capability_18 rfl rfl ⟨by decide, by decide⟩ rfl rfl (Nat.le_of_ble_eq_true rfl) ⟨by decide, by decide⟩ (n := 21) rfl (fun _ _ h => h.elim) (fun v9 ν9 h9 => ?_)
  rw [h9.1, h9.2]
  show zK x g ({ frames := 4, cells := 0, slots := 0, locals := 97 } : Room) 13 0 0 21 [some (.ref (za g 21)), some (.int (nI k)), some (.int a), some (.int b), some (.int e), none, none, none, none, none, none, none, none] [.int (zii a ((-9999)) 9999), .ref (za g 21)] (zu μ 21 23 0)
  refine k_if_eq S dX4_capability_21 (tgt := 39) (by decide) (n := 24) rfl (fun h9 => absurd h9 (by rw [zii_i h1 h2]; decide)) (fun _ => ?_)
  refine k_iload3 S dX4_capability_24 (n := 25) rfl ?_
  refine k_iload2 S dX4_capability_25 (n := 26) rfl ?_
  refine k_sipush S dX4_capability_26 (v := 9999) (by decide) (n := 29) rfl ?_
  refine k_callS (As := [.int b, .int a, .int 9999]) (rest := [.ref (za g 21)]) S (c_X4_isIn) mv_X4_isIn m_754 dX4_capability_29 rfl rfl ⟨by decide, by decide⟩ rfl rfl (Nat.le_of_ble_eq_true rfl) ⟨by decide, by decide⟩ (n := 32) rfl (fun _ _ h => h.elim) (fun v9 ν9 h9 => ?_)
  rw [h9.1, h9.2]
  show zK x g ({ frames := 4, cells := 0, slots := 0, locals := 97 } : Room) 13 0 0 32 [some (.ref (za g 21)), some (.int (nI k)), some (.int a), some (.int b), some (.int e), none, none, none, none, none, none, none, none] [.int (zii b a 9999), .ref (za g 21)] (zu μ 21 23 0)
  refine k_if_eq S dX4_capability_32 (tgt := 39) (by decide) (n := 35) rfl (fun _ => ?_) (fun h9 => absurd (zii_o h3) h9)
  refine k_iconst S dX4_capability_39 (v := 2) (by decide) (n := 40) rfl ?_
  refine k_put (T := TX4) (j := 23) S dX4_capability_40 (by rw [hn]; decide) (by decide) (ci := 4) rfl rfl (by decide) in_4 m_695 rfl rfl (ty0 := tyX4) tyX4_ok nmX4 rfl rfl rfl (n := 43) rfl ?_
  refine k_aload0 S dX4_capability_43 (n := 44) rfl ?_
  refine k_getv (v := 2) (T := TX4) (j := 23) S dX4_capability_44 (by rw [hn]; decide) (by decide) (ci := 4) rfl rfl (by decide) in_4 m_695 rfl rfl (by simp [zu, zset, upd]) (n := 47) rfl ?_
  refine k_if_le S dX4_capability_47 (tgt := 52) (by decide) (n := 50) rfl (fun h9 => absurd h9 (by decide)) (fun _ => ?_)
  refine k_lconst S dX4_capability_50 (v := 0) (by decide) (n := 51) rfl ?_
  exact k_lret S Y dX4_capability_51 (by decide) (by decide) (⟨rfl, (zNear.refl _).thr⟩)
set_option maxRecDepth 100000 in
set_option maxHeartbeats 4000000 in
theorem c_X4_capability_c {l : Launch} {g : zG} {μ : zM} {k : Nat} {a b e : Int32} {d c s : Nat} {ph fs : Nat → Nat}  (hn : zn g = 32) (Q : zQ μ d c s ph fs) (hk : k < c) (h1 : -9999 ≤ a) (h2 : a ≤ 9999) (h3 : a ≤ b) (h4 : b ≤ 9999) (hz : ¬ zHas μ ph k d) : zC l g yX4_capability cX4_capability 13 (some .long) ({ frames := 4, cells := 0, slots := 0, locals := 97 } : Room) 0 0 [.ref (za g 21), .int (nI k), .int a, .int b, .int e] μ (zRn μ (some (.long (0))) 3) zNX := by
  refine zC_of (L0 := [some (.ref (za g 21)), some (.int (nI k)), some (.int a), some (.int b), some (.int e), none, none, none, none, none, none, none, none]) (plainFor_of_name (by decide)) (Nat.le_of_ble_eq_true rfl) rfl ?_
  intro x S Y hxl
  subst hxl
  refine k_aload0 S dX4_capability_0 (n := 1) rfl ?_
  refine k_iload1 S dX4_capability_1 (n := 2) rfl ?_
  refine k_callV (As := [.int (nI k)]) (rest := []) (p := 21) S (c_X4_isPhase_ok hn Q.1.1 (by have := Q.c10; omega) hk) mv_X4_isPhase m_769 dX4_capability_2 rfl rfl ⟨by decide, by decide⟩ (by rw [hn]; decide) (by decide) (ci := 4) rfl rfl rfl (Nat.le_of_ble_eq_true rfl) ⟨by decide, by decide⟩ (n := 5) rfl (fun _ _ h => h.elim) (fun v9 ν9 h9 => ?_)
  rw [h9.1, h9.2]
  show zK x g ({ frames := 4, cells := 0, slots := 0, locals := 97 } : Room) 13 0 0 5 [some (.ref (za g 21)), some (.int (nI k)), some (.int a), some (.int b), some (.int e), none, none, none, none, none, none, none, none] [.int 1] (zu μ 21 23 0)
  refine k_if_ne S dX4_capability_5 (tgt := 10) (by decide) (n := 8) rfl (fun _ => ?_) (fun h9 => absurd h9 (by decide))
  refine k_aload0 S dX4_capability_10 (n := 11) rfl ?_
  refine k_iload2 S dX4_capability_11 (n := 12) rfl ?_
  refine k_sipush S dX4_capability_12 (v := (-9999)) (by decide) (n := 15) rfl ?_
  refine k_sipush S dX4_capability_15 (v := 9999) (by decide) (n := 18) rfl ?_
  refine k_callS (As := [.int a, .int ((-9999)), .int 9999]) (rest := [.ref (za g 21)]) S (c_X4_isIn) mv_X4_isIn m_754 dX4_capability_18 rfl rfl ⟨by decide, by decide⟩ rfl rfl (Nat.le_of_ble_eq_true rfl) ⟨by decide, by decide⟩ (n := 21) rfl (fun _ _ h => h.elim) (fun v9 ν9 h9 => ?_)
  rw [h9.1, h9.2]
  show zK x g ({ frames := 4, cells := 0, slots := 0, locals := 97 } : Room) 13 0 0 21 [some (.ref (za g 21)), some (.int (nI k)), some (.int a), some (.int b), some (.int e), none, none, none, none, none, none, none, none] [.int (zii a ((-9999)) 9999), .ref (za g 21)] (zu μ 21 23 0)
  refine k_if_eq S dX4_capability_21 (tgt := 39) (by decide) (n := 24) rfl (fun h9 => absurd h9 (by rw [zii_i h1 h2]; decide)) (fun _ => ?_)
  refine k_iload3 S dX4_capability_24 (n := 25) rfl ?_
  refine k_iload2 S dX4_capability_25 (n := 26) rfl ?_
  refine k_sipush S dX4_capability_26 (v := 9999) (by decide) (n := 29) rfl ?_
  refine k_callS (As := [.int b, .int a, .int 9999]) (rest := [.ref (za g 21)]) S (c_X4_isIn) mv_X4_isIn m_754 dX4_capability_29 rfl rfl ⟨by decide, by decide⟩ rfl rfl (Nat.le_of_ble_eq_true rfl) ⟨by decide, by decide⟩ (n := 32) rfl (fun _ _ h => h.elim) (fun v9 ν9 h9 => ?_)
  rw [h9.1, h9.2]
  show zK x g ({ frames := 4, cells := 0, slots := 0, locals := 97 } : Room) 13 0 0 32 [some (.ref (za g 21)), some (.int (nI k)), some (.int a), some (.int b), some (.int e), none, none, none, none, none, none, none, none] [.int (zii b a 9999), .ref (za g 21)] (zu μ 21 23 0)
  refine k_if_eq S dX4_capability_32 (tgt := 39) (by decide) (n := 35) rfl (fun h9 => absurd h9 (by rw [zii_i h3 h4]; decide)) (fun _ => ?_)
  refine k_iconst S dX4_capability_35 (v := 0) (by decide) (n := 36) rfl ?_
  refine k_goto S dX4_capability_36 (tgt := 40) (by decide) ?_
  refine k_put (T := TX4) (j := 23) S dX4_capability_40 (by rw [hn]; decide) (by decide) (ci := 4) rfl rfl (by decide) in_4 m_695 rfl rfl (ty0 := tyX4) tyX4_ok nmX4 rfl rfl rfl (n := 43) rfl ?_
  refine k_aload0 S dX4_capability_43 (n := 44) rfl ?_
  refine k_getv (v := 0) (T := TX4) (j := 23) S dX4_capability_44 (by rw [hn]; decide) (by decide) (ci := 4) rfl rfl (by decide) in_4 m_695 rfl rfl (by simp [zu, zset, upd]) (n := 47) rfl ?_
  refine k_if_le S dX4_capability_47 (tgt := 52) (by decide) (n := 50) rfl (fun _ => ?_) (fun h9 => absurd (by decide) h9)
  refine k_aload0 S dX4_capability_52 (n := 53) rfl ?_
  refine k_iload1 S dX4_capability_53 (n := 54) rfl ?_
  refine k_callV (As := [.int (nI k)]) (rest := []) (p := 21) S (c_X4_laysLimitsR (t := k) hn ((Q.thr 0).thr 0) hk) mv_X4_laysLimits m_773 dX4_capability_54 rfl rfl ⟨by decide, by decide⟩ (by rw [hn]; decide) (by decide) (ci := 4) rfl rfl rfl (Nat.le_of_ble_eq_true rfl) ⟨by decide, by decide⟩ (n := 57) rfl (fun _ _ h => h.elim) (fun v9 ν1 h9 => ?_)
  obtain ⟨e1, hL⟩ := h9
  rw [e1]
  show zK x g ({ frames := 4, cells := 0, slots := 0, locals := 97 } : Room) 13 0 0 57 [some (.ref (za g 21)), some (.int (nI k)), some (.int a), some (.int b), some (.int e), none, none, none, none, none, none, none, none] [] ν1
  have hL0 := hL
  rw [zu_zu] at hL0
  have hL1 := hL0.thr
  refine k_aload0 S dX4_capability_57 (n := 58) rfl ?_
  refine k_getv (v := 0) (T := TX4) (j := 15) S dX4_capability_58 (by rw [hn]; decide) (by decide) (ci := 4) rfl rfl (by decide) in_4 m_687 rfl rfl (hL1.2.2.2 hz) (n := 61) rfl ?_
  refine k_if_eq S dX4_capability_61 (tgt := 100) (by decide) (n := 64) rfl (fun _ => ?_) (fun h9 => absurd (rfl) h9)
  refine k_lconst S dX4_capability_100 (v := 0) (by decide) (n := 101) rfl ?_
  refine k_lstore5 S dX4_capability_101 (by decide) rfl (n := 103) rfl ?_
  refine k_aload0 S dX4_capability_103 (n := 104) rfl ?_
  refine k_lload5 S dX4_capability_104 (n := 106) rfl ?_
  refine k_lconst S dX4_capability_106 (v := 0) (by decide) (n := 107) rfl ?_
  refine k_lcmp S dX4_capability_107 (n := 108) rfl ?_
  refine k_if_ne S dX4_capability_108 (tgt := 115) (by decide) (n := 111) rfl (fun h9 => absurd (rfl) h9) (fun _ => ?_)
  refine k_iconst S dX4_capability_111 (v := 3) (by decide) (n := 112) rfl ?_
  refine k_goto S dX4_capability_112 (tgt := 116) (by decide) ?_
  refine k_put (T := TX4) (j := 23) S dX4_capability_116 (by rw [hn]; decide) (by decide) (ci := 4) rfl rfl (by decide) in_4 m_695 rfl rfl (ty0 := tyX4) tyX4_ok nmX4 rfl rfl rfl (n := 119) rfl ?_
  refine k_aload0 S dX4_capability_119 (n := 120) rfl ?_
  refine k_getv (v := 3) (T := TX4) (j := 23) S dX4_capability_120 (by rw [hn]; decide) (by decide) (ci := 4) rfl rfl (by decide) in_4 m_695 rfl rfl (by simp [zu, zset, upd]) (n := 123) rfl ?_
  refine k_if_le S dX4_capability_123 (tgt := 128) (by decide) (n := 126) rfl (fun h9 => absurd h9 (by decide)) (fun _ => ?_)
  refine k_lconst S dX4_capability_126 (v := 0) (by decide) (n := 127) rfl ?_
  exact k_lret S Y dX4_capability_127 (by decide) (by decide) (⟨rfl, hL1.1.thr⟩)
set_option maxRecDepth 100000 in
set_option maxHeartbeats 4000000 in
theorem c_X4_capability_d {l : Launch} {g : zG} {μ : zM} {k : Nat} {a b e : Int32} {d c s : Nat} {ph fs : Nat → Nat}  (hn : zn g = 32) (Q : zQ μ d c s ph fs) (hk : k < c) (h1 : -9999 ≤ a) (h2 : a ≤ 9999) (h3 : a ≤ b) (h4 : b ≤ 9999) (hz : zHas μ ph k d) (hs0 : lg_cmp (zsM μ ph k d s) 0 = 0) : zC l g yX4_capability cX4_capability 13 (some .long) ({ frames := 4, cells := 0, slots := 0, locals := 97 } : Room) 0 0 [.ref (za g 21), .int (nI k), .int a, .int b, .int e] μ (zRn μ (some (.long (0))) 3) zNX := by
  refine zC_of (L0 := [some (.ref (za g 21)), some (.int (nI k)), some (.int a), some (.int b), some (.int e), none, none, none, none, none, none, none, none]) (plainFor_of_name (by decide)) (Nat.le_of_ble_eq_true rfl) rfl ?_
  intro x S Y hxl
  subst hxl
  refine k_aload0 S dX4_capability_0 (n := 1) rfl ?_
  refine k_iload1 S dX4_capability_1 (n := 2) rfl ?_
  refine k_callV (As := [.int (nI k)]) (rest := []) (p := 21) S (c_X4_isPhase_ok hn Q.1.1 (by have := Q.c10; omega) hk) mv_X4_isPhase m_769 dX4_capability_2 rfl rfl ⟨by decide, by decide⟩ (by rw [hn]; decide) (by decide) (ci := 4) rfl rfl rfl (Nat.le_of_ble_eq_true rfl) ⟨by decide, by decide⟩ (n := 5) rfl (fun _ _ h => h.elim) (fun v9 ν9 h9 => ?_)
  rw [h9.1, h9.2]
  show zK x g ({ frames := 4, cells := 0, slots := 0, locals := 97 } : Room) 13 0 0 5 [some (.ref (za g 21)), some (.int (nI k)), some (.int a), some (.int b), some (.int e), none, none, none, none, none, none, none, none] [.int 1] (zu μ 21 23 0)
  refine k_if_ne S dX4_capability_5 (tgt := 10) (by decide) (n := 8) rfl (fun _ => ?_) (fun h9 => absurd h9 (by decide))
  refine k_aload0 S dX4_capability_10 (n := 11) rfl ?_
  refine k_iload2 S dX4_capability_11 (n := 12) rfl ?_
  refine k_sipush S dX4_capability_12 (v := (-9999)) (by decide) (n := 15) rfl ?_
  refine k_sipush S dX4_capability_15 (v := 9999) (by decide) (n := 18) rfl ?_
  refine k_callS (As := [.int a, .int ((-9999)), .int 9999]) (rest := [.ref (za g 21)]) S (c_X4_isIn) mv_X4_isIn m_754 dX4_capability_18 rfl rfl ⟨by decide, by decide⟩ rfl rfl (Nat.le_of_ble_eq_true rfl) ⟨by decide, by decide⟩ (n := 21) rfl (fun _ _ h => h.elim) (fun v9 ν9 h9 => ?_)
  rw [h9.1, h9.2]
  show zK x g ({ frames := 4, cells := 0, slots := 0, locals := 97 } : Room) 13 0 0 21 [some (.ref (za g 21)), some (.int (nI k)), some (.int a), some (.int b), some (.int e), none, none, none, none, none, none, none, none] [.int (zii a ((-9999)) 9999), .ref (za g 21)] (zu μ 21 23 0)
  refine k_if_eq S dX4_capability_21 (tgt := 39) (by decide) (n := 24) rfl (fun h9 => absurd h9 (by rw [zii_i h1 h2]; decide)) (fun _ => ?_)
  refine k_iload3 S dX4_capability_24 (n := 25) rfl ?_
  refine k_iload2 S dX4_capability_25 (n := 26) rfl ?_
  refine k_sipush S dX4_capability_26 (v := 9999) (by decide) (n := 29) rfl ?_
  refine k_callS (As := [.int b, .int a, .int 9999]) (rest := [.ref (za g 21)]) S (c_X4_isIn) mv_X4_isIn m_754 dX4_capability_29 rfl rfl ⟨by decide, by decide⟩ rfl rfl (Nat.le_of_ble_eq_true rfl) ⟨by decide, by decide⟩ (n := 32) rfl (fun _ _ h => h.elim) (fun v9 ν9 h9 => ?_)
  rw [h9.1, h9.2]
  show zK x g ({ frames := 4, cells := 0, slots := 0, locals := 97 } : Room) 13 0 0 32 [some (.ref (za g 21)), some (.int (nI k)), some (.int a), some (.int b), some (.int e), none, none, none, none, none, none, none, none] [.int (zii b a 9999), .ref (za g 21)] (zu μ 21 23 0)
  refine k_if_eq S dX4_capability_32 (tgt := 39) (by decide) (n := 35) rfl (fun h9 => absurd h9 (by rw [zii_i h3 h4]; decide)) (fun _ => ?_)
  refine k_iconst S dX4_capability_35 (v := 0) (by decide) (n := 36) rfl ?_
  refine k_goto S dX4_capability_36 (tgt := 40) (by decide) ?_
  refine k_put (T := TX4) (j := 23) S dX4_capability_40 (by rw [hn]; decide) (by decide) (ci := 4) rfl rfl (by decide) in_4 m_695 rfl rfl (ty0 := tyX4) tyX4_ok nmX4 rfl rfl rfl (n := 43) rfl ?_
  refine k_aload0 S dX4_capability_43 (n := 44) rfl ?_
  refine k_getv (v := 0) (T := TX4) (j := 23) S dX4_capability_44 (by rw [hn]; decide) (by decide) (ci := 4) rfl rfl (by decide) in_4 m_695 rfl rfl (by simp [zu, zset, upd]) (n := 47) rfl ?_
  refine k_if_le S dX4_capability_47 (tgt := 52) (by decide) (n := 50) rfl (fun _ => ?_) (fun h9 => absurd (by decide) h9)
  refine k_aload0 S dX4_capability_52 (n := 53) rfl ?_
  refine k_iload1 S dX4_capability_53 (n := 54) rfl ?_
  refine k_callV (As := [.int (nI k)]) (rest := []) (p := 21) S (c_X4_laysLimitsR (t := k) hn ((Q.thr 0).thr 0) hk) mv_X4_laysLimits m_773 dX4_capability_54 rfl rfl ⟨by decide, by decide⟩ (by rw [hn]; decide) (by decide) (ci := 4) rfl rfl rfl (Nat.le_of_ble_eq_true rfl) ⟨by decide, by decide⟩ (n := 57) rfl (fun _ _ h => h.elim) (fun v9 ν1 h9 => ?_)
  obtain ⟨e1, hL⟩ := h9
  rw [e1]
  show zK x g ({ frames := 4, cells := 0, slots := 0, locals := 97 } : Room) 13 0 0 57 [some (.ref (za g 21)), some (.int (nI k)), some (.int a), some (.int b), some (.int e), none, none, none, none, none, none, none, none] [] ν1
  have hL0 := hL
  rw [zu_zu] at hL0
  have hL1 := hL0.thr
  have hL2 := hL1.2.2.1 hz
  refine k_aload0 S dX4_capability_57 (n := 58) rfl ?_
  refine k_getv (v := 1) (T := TX4) (j := 15) S dX4_capability_58 (by rw [hn]; decide) (by decide) (ci := 4) rfl rfl (by decide) in_4 m_687 rfl rfl hL2.1 (n := 61) rfl ?_
  refine k_if_eq S dX4_capability_61 (tgt := 100) (by decide) (n := 64) rfl (fun h9 => absurd h9 (by decide)) (fun _ => ?_)
  refine k_ldc2 S dX4_capability_64 (v := 1000) m_785 (n := 67) rfl ?_
  refine k_aload0 S dX4_capability_67 (n := 68) rfl ?_
  refine k_getv (v := zLR μ ph k d) (T := TX4) (j := 17) S dX4_capability_68 (by rw [hn]; decide) (by decide) (ci := 4) rfl rfl (by decide) in_4 m_689 rfl rfl hL2.2.2.1 (n := 71) rfl ?_
  refine k_i2l S dX4_capability_71 (n := 72) rfl ?_
  refine k_lmul S dX4_capability_72 (n := 73) rfl ?_
  refine k_aload0 S dX4_capability_73 (n := 74) rfl ?_
  refine k_getv (v := nI (s + 2)) (T := TX4) (j := 0) S dX4_capability_74 (by rw [hn]; decide) (by decide) (ci := 4) rfl rfl (by decide) in_4 m_672 rfl rfl ((hL1.1.2 21 0 rfl).trans ((zu_ne _ (by decide)).trans Q.2.2.2.1)) (n := 77) rfl ?_
  refine k_sipush S dX4_capability_77 (v := 1128) (by decide) (n := 80) rfl ?_
  refine k_sipush S dX4_capability_80 (v := 1693) (by decide) (n := 83) rfl ?_
  refine k_sipush S dX4_capability_83 (v := 2059) (by decide) (n := 86) rfl ?_
  refine k_sipush S dX4_capability_86 (v := 2326) (by decide) (n := 89) rfl ?_
  refine k_sipush S dX4_capability_89 (v := 2534) (by decide) (n := 92) rfl ?_
  refine k_callS (As := [.int (nI (s + 2)), .int 1128, .int 1693, .int 2059, .int 2326, .int 2534]) (rest := [.long (1000 * (Int32.toInt64 (zLR μ ph k d)))]) S (c_X4_factor) mv_X4_factor m_793 dX4_capability_92 rfl rfl ⟨by decide, by decide⟩ rfl rfl (Nat.le_of_ble_eq_true rfl) ⟨by decide, by decide⟩ (n := 95) rfl (fun _ _ h => h.elim) (fun v9 ν9 h9 => ?_)
  rw [h9.1, h9.2]
  show zK x g ({ frames := 4, cells := 0, slots := 0, locals := 97 } : Room) 13 0 0 95 [some (.ref (za g 21)), some (.int (nI k)), some (.int a), some (.int b), some (.int e), none, none, none, none, none, none, none, none] [.int (v_X4_factor (nI (s + 2)) 1128 1693 2059 2326 2534), .long (1000 * (Int32.toInt64 (zLR μ ph k d)))] ν1
  rw [zfac2 Q.2.2.2.2]
  refine k_i2l S dX4_capability_95 (n := 96) rfl ?_
  refine k_ldiv S dX4_capability_96 (zdv Q.2.2.2.2) (n := 97) rfl ?_
  refine k_goto S dX4_capability_97 (tgt := 101) (by decide) ?_
  refine k_lstore5 S dX4_capability_101 (by decide) rfl (n := 103) rfl ?_
  refine k_aload0 S dX4_capability_103 (n := 104) rfl ?_
  refine k_lload5 S dX4_capability_104 (n := 106) rfl ?_
  refine k_lconst S dX4_capability_106 (v := 0) (by decide) (n := 107) rfl ?_
  refine k_lcmp S dX4_capability_107 (n := 108) rfl ?_
  refine k_if_ne S dX4_capability_108 (tgt := 115) (by decide) (n := 111) rfl (fun h9 => absurd (hs0) h9) (fun _ => ?_)
  refine k_iconst S dX4_capability_111 (v := 3) (by decide) (n := 112) rfl ?_
  refine k_goto S dX4_capability_112 (tgt := 116) (by decide) ?_
  refine k_put (T := TX4) (j := 23) S dX4_capability_116 (by rw [hn]; decide) (by decide) (ci := 4) rfl rfl (by decide) in_4 m_695 rfl rfl (ty0 := tyX4) tyX4_ok nmX4 rfl rfl rfl (n := 119) rfl ?_
  refine k_aload0 S dX4_capability_119 (n := 120) rfl ?_
  refine k_getv (v := 3) (T := TX4) (j := 23) S dX4_capability_120 (by rw [hn]; decide) (by decide) (ci := 4) rfl rfl (by decide) in_4 m_695 rfl rfl (by simp [zu, zset, upd]) (n := 123) rfl ?_
  refine k_if_le S dX4_capability_123 (tgt := 128) (by decide) (n := 126) rfl (fun h9 => absurd h9 (by decide)) (fun _ => ?_)
  refine k_lconst S dX4_capability_126 (v := 0) (by decide) (n := 127) rfl ?_
  exact k_lret S Y dX4_capability_127 (by decide) (by decide) (⟨rfl, hL1.1.thr⟩)
set_option maxRecDepth 100000 in
set_option maxHeartbeats 4000000 in
theorem c_X4_capability_e {l : Launch} {g : zG} {μ : zM} {k : Nat} {a b e : Int32} {d c s : Nat} {ph fs : Nat → Nat}  (hn : zn g = 32) (Q : zQ μ d c s ph fs) (hk : k < c) (h1 : -9999 ≤ a) (h2 : a ≤ 9999) (h3 : a ≤ b) (h4 : b ≤ 9999) (hz : zHas μ ph k d) (hs0 : ¬ lg_cmp (zsM μ ph k d s) 0 = 0) (hs3 : ¬ 3 * zsM μ ph k d s = 0) (hs6 : ¬ 6 * zsM μ ph k d s = 0) (he : e = 0) : zC l g yX4_capability cX4_capability 13 (some .long) ({ frames := 4, cells := 0, slots := 0, locals := 97 } : Room) 0 0 [.ref (za g 21), .int (nI k), .int a, .int b, .int e] μ (zRn μ (some (.long (zkM (zLC μ ph k d s) a b e (zsM μ ph k d s)))) 0) zNX := by
  refine zC_of (L0 := [some (.ref (za g 21)), some (.int (nI k)), some (.int a), some (.int b), some (.int e), none, none, none, none, none, none, none, none]) (plainFor_of_name (by decide)) (Nat.le_of_ble_eq_true rfl) rfl ?_
  intro x S Y hxl
  subst hxl
  refine k_aload0 S dX4_capability_0 (n := 1) rfl ?_
  refine k_iload1 S dX4_capability_1 (n := 2) rfl ?_
  refine k_callV (As := [.int (nI k)]) (rest := []) (p := 21) S (c_X4_isPhase_ok hn Q.1.1 (by have := Q.c10; omega) hk) mv_X4_isPhase m_769 dX4_capability_2 rfl rfl ⟨by decide, by decide⟩ (by rw [hn]; decide) (by decide) (ci := 4) rfl rfl rfl (Nat.le_of_ble_eq_true rfl) ⟨by decide, by decide⟩ (n := 5) rfl (fun _ _ h => h.elim) (fun v9 ν9 h9 => ?_)
  rw [h9.1, h9.2]
  show zK x g ({ frames := 4, cells := 0, slots := 0, locals := 97 } : Room) 13 0 0 5 [some (.ref (za g 21)), some (.int (nI k)), some (.int a), some (.int b), some (.int e), none, none, none, none, none, none, none, none] [.int 1] (zu μ 21 23 0)
  refine k_if_ne S dX4_capability_5 (tgt := 10) (by decide) (n := 8) rfl (fun _ => ?_) (fun h9 => absurd h9 (by decide))
  refine k_aload0 S dX4_capability_10 (n := 11) rfl ?_
  refine k_iload2 S dX4_capability_11 (n := 12) rfl ?_
  refine k_sipush S dX4_capability_12 (v := (-9999)) (by decide) (n := 15) rfl ?_
  refine k_sipush S dX4_capability_15 (v := 9999) (by decide) (n := 18) rfl ?_
  refine k_callS (As := [.int a, .int ((-9999)), .int 9999]) (rest := [.ref (za g 21)]) S (c_X4_isIn) mv_X4_isIn m_754 dX4_capability_18 rfl rfl ⟨by decide, by decide⟩ rfl rfl (Nat.le_of_ble_eq_true rfl) ⟨by decide, by decide⟩ (n := 21) rfl (fun _ _ h => h.elim) (fun v9 ν9 h9 => ?_)
  rw [h9.1, h9.2]
  show zK x g ({ frames := 4, cells := 0, slots := 0, locals := 97 } : Room) 13 0 0 21 [some (.ref (za g 21)), some (.int (nI k)), some (.int a), some (.int b), some (.int e), none, none, none, none, none, none, none, none] [.int (zii a ((-9999)) 9999), .ref (za g 21)] (zu μ 21 23 0)
  refine k_if_eq S dX4_capability_21 (tgt := 39) (by decide) (n := 24) rfl (fun h9 => absurd h9 (by rw [zii_i h1 h2]; decide)) (fun _ => ?_)
  refine k_iload3 S dX4_capability_24 (n := 25) rfl ?_
  refine k_iload2 S dX4_capability_25 (n := 26) rfl ?_
  refine k_sipush S dX4_capability_26 (v := 9999) (by decide) (n := 29) rfl ?_
  refine k_callS (As := [.int b, .int a, .int 9999]) (rest := [.ref (za g 21)]) S (c_X4_isIn) mv_X4_isIn m_754 dX4_capability_29 rfl rfl ⟨by decide, by decide⟩ rfl rfl (Nat.le_of_ble_eq_true rfl) ⟨by decide, by decide⟩ (n := 32) rfl (fun _ _ h => h.elim) (fun v9 ν9 h9 => ?_)
  rw [h9.1, h9.2]
  show zK x g ({ frames := 4, cells := 0, slots := 0, locals := 97 } : Room) 13 0 0 32 [some (.ref (za g 21)), some (.int (nI k)), some (.int a), some (.int b), some (.int e), none, none, none, none, none, none, none, none] [.int (zii b a 9999), .ref (za g 21)] (zu μ 21 23 0)
  refine k_if_eq S dX4_capability_32 (tgt := 39) (by decide) (n := 35) rfl (fun h9 => absurd h9 (by rw [zii_i h3 h4]; decide)) (fun _ => ?_)
  refine k_iconst S dX4_capability_35 (v := 0) (by decide) (n := 36) rfl ?_
  refine k_goto S dX4_capability_36 (tgt := 40) (by decide) ?_
  refine k_put (T := TX4) (j := 23) S dX4_capability_40 (by rw [hn]; decide) (by decide) (ci := 4) rfl rfl (by decide) in_4 m_695 rfl rfl (ty0 := tyX4) tyX4_ok nmX4 rfl rfl rfl (n := 43) rfl ?_
  refine k_aload0 S dX4_capability_43 (n := 44) rfl ?_
  refine k_getv (v := 0) (T := TX4) (j := 23) S dX4_capability_44 (by rw [hn]; decide) (by decide) (ci := 4) rfl rfl (by decide) in_4 m_695 rfl rfl (by simp [zu, zset, upd]) (n := 47) rfl ?_
  refine k_if_le S dX4_capability_47 (tgt := 52) (by decide) (n := 50) rfl (fun _ => ?_) (fun h9 => absurd (by decide) h9)
  refine k_aload0 S dX4_capability_52 (n := 53) rfl ?_
  refine k_iload1 S dX4_capability_53 (n := 54) rfl ?_
  refine k_callV (As := [.int (nI k)]) (rest := []) (p := 21) S (c_X4_laysLimitsR (t := k) hn ((Q.thr 0).thr 0) hk) mv_X4_laysLimits m_773 dX4_capability_54 rfl rfl ⟨by decide, by decide⟩ (by rw [hn]; decide) (by decide) (ci := 4) rfl rfl rfl (Nat.le_of_ble_eq_true rfl) ⟨by decide, by decide⟩ (n := 57) rfl (fun _ _ h => h.elim) (fun v9 ν1 h9 => ?_)
  obtain ⟨e1, hL⟩ := h9
  rw [e1]
  show zK x g ({ frames := 4, cells := 0, slots := 0, locals := 97 } : Room) 13 0 0 57 [some (.ref (za g 21)), some (.int (nI k)), some (.int a), some (.int b), some (.int e), none, none, none, none, none, none, none, none] [] ν1
  have hL0 := hL
  rw [zu_zu] at hL0
  have hL1 := hL0.thr
  have hL2 := hL1.2.2.1 hz
  refine k_aload0 S dX4_capability_57 (n := 58) rfl ?_
  refine k_getv (v := 1) (T := TX4) (j := 15) S dX4_capability_58 (by rw [hn]; decide) (by decide) (ci := 4) rfl rfl (by decide) in_4 m_687 rfl rfl hL2.1 (n := 61) rfl ?_
  refine k_if_eq S dX4_capability_61 (tgt := 100) (by decide) (n := 64) rfl (fun h9 => absurd h9 (by decide)) (fun _ => ?_)
  refine k_ldc2 S dX4_capability_64 (v := 1000) m_785 (n := 67) rfl ?_
  refine k_aload0 S dX4_capability_67 (n := 68) rfl ?_
  refine k_getv (v := zLR μ ph k d) (T := TX4) (j := 17) S dX4_capability_68 (by rw [hn]; decide) (by decide) (ci := 4) rfl rfl (by decide) in_4 m_689 rfl rfl hL2.2.2.1 (n := 71) rfl ?_
  refine k_i2l S dX4_capability_71 (n := 72) rfl ?_
  refine k_lmul S dX4_capability_72 (n := 73) rfl ?_
  refine k_aload0 S dX4_capability_73 (n := 74) rfl ?_
  refine k_getv (v := nI (s + 2)) (T := TX4) (j := 0) S dX4_capability_74 (by rw [hn]; decide) (by decide) (ci := 4) rfl rfl (by decide) in_4 m_672 rfl rfl ((hL1.1.2 21 0 rfl).trans ((zu_ne _ (by decide)).trans Q.2.2.2.1)) (n := 77) rfl ?_
  refine k_sipush S dX4_capability_77 (v := 1128) (by decide) (n := 80) rfl ?_
  refine k_sipush S dX4_capability_80 (v := 1693) (by decide) (n := 83) rfl ?_
  refine k_sipush S dX4_capability_83 (v := 2059) (by decide) (n := 86) rfl ?_
  refine k_sipush S dX4_capability_86 (v := 2326) (by decide) (n := 89) rfl ?_
  refine k_sipush S dX4_capability_89 (v := 2534) (by decide) (n := 92) rfl ?_
  refine k_callS (As := [.int (nI (s + 2)), .int 1128, .int 1693, .int 2059, .int 2326, .int 2534]) (rest := [.long (1000 * (Int32.toInt64 (zLR μ ph k d)))]) S (c_X4_factor) mv_X4_factor m_793 dX4_capability_92 rfl rfl ⟨by decide, by decide⟩ rfl rfl (Nat.le_of_ble_eq_true rfl) ⟨by decide, by decide⟩ (n := 95) rfl (fun _ _ h => h.elim) (fun v9 ν9 h9 => ?_)
  rw [h9.1, h9.2]
  show zK x g ({ frames := 4, cells := 0, slots := 0, locals := 97 } : Room) 13 0 0 95 [some (.ref (za g 21)), some (.int (nI k)), some (.int a), some (.int b), some (.int e), none, none, none, none, none, none, none, none] [.int (v_X4_factor (nI (s + 2)) 1128 1693 2059 2326 2534), .long (1000 * (Int32.toInt64 (zLR μ ph k d)))] ν1
  rw [zfac2 Q.2.2.2.2]
  refine k_i2l S dX4_capability_95 (n := 96) rfl ?_
  refine k_ldiv S dX4_capability_96 (zdv Q.2.2.2.2) (n := 97) rfl ?_
  refine k_goto S dX4_capability_97 (tgt := 101) (by decide) ?_
  refine k_lstore5 S dX4_capability_101 (by decide) rfl (n := 103) rfl ?_
  refine k_aload0 S dX4_capability_103 (n := 104) rfl ?_
  refine k_lload5 S dX4_capability_104 (n := 106) rfl ?_
  refine k_lconst S dX4_capability_106 (v := 0) (by decide) (n := 107) rfl ?_
  refine k_lcmp S dX4_capability_107 (n := 108) rfl ?_
  refine k_if_ne S dX4_capability_108 (tgt := 115) (by decide) (n := 111) rfl (fun _ => ?_) (fun h9 => absurd h9 (hs0))
  refine k_iconst S dX4_capability_115 (v := 0) (by decide) (n := 116) rfl ?_
  refine k_put (T := TX4) (j := 23) S dX4_capability_116 (by rw [hn]; decide) (by decide) (ci := 4) rfl rfl (by decide) in_4 m_695 rfl rfl (ty0 := tyX4) tyX4_ok nmX4 rfl rfl rfl (n := 119) rfl ?_
  refine k_aload0 S dX4_capability_119 (n := 120) rfl ?_
  refine k_getv (v := 0) (T := TX4) (j := 23) S dX4_capability_120 (by rw [hn]; decide) (by decide) (ci := 4) rfl rfl (by decide) in_4 m_695 rfl rfl (by simp [zu, zset, upd]) (n := 123) rfl ?_
  refine k_if_le S dX4_capability_123 (tgt := 128) (by decide) (n := 126) rfl (fun _ => ?_) (fun h9 => absurd (by decide) h9)
  refine k_ldc2 S dX4_capability_128 (v := 1000) m_785 (n := 131) rfl ?_
  refine k_iload3 S dX4_capability_131 (n := 132) rfl ?_
  refine k_i2l S dX4_capability_132 (n := 133) rfl ?_
  refine k_lmul S dX4_capability_133 (n := 134) rfl ?_
  refine k_aload0 S dX4_capability_134 (n := 135) rfl ?_
  refine k_getv (v := zLC μ ph k d s) (T := TX4) (j := 16) S dX4_capability_135 (by rw [hn]; decide) (by decide) (ci := 4) rfl rfl (by decide) in_4 m_688 rfl rfl ((zu_ne _ (by decide)).trans hL2.2.1) (n := 138) rfl ?_
  refine k_i2l S dX4_capability_138 (n := 139) rfl ?_
  refine k_lsub S dX4_capability_139 (n := 140) rfl ?_
  refine k_lstore7 S dX4_capability_140 (by decide) rfl (n := 142) rfl ?_
  refine k_aload0 S dX4_capability_142 (n := 143) rfl ?_
  refine k_getv (v := zLC μ ph k d s) (T := TX4) (j := 16) S dX4_capability_143 (by rw [hn]; decide) (by decide) (ci := 4) rfl rfl (by decide) in_4 m_688 rfl rfl ((zu_ne _ (by decide)).trans hL2.2.1) (n := 146) rfl ?_
  refine k_i2l S dX4_capability_146 (n := 147) rfl ?_
  refine k_ldc2 S dX4_capability_147 (v := 1000) m_785 (n := 150) rfl ?_
  refine k_iload2 S dX4_capability_150 (n := 151) rfl ?_
  refine k_i2l S dX4_capability_151 (n := 152) rfl ?_
  refine k_lmul S dX4_capability_152 (n := 153) rfl ?_
  refine k_lsub S dX4_capability_153 (n := 154) rfl ?_
  refine k_lstore9 S dX4_capability_154 (by decide) rfl (n := 156) rfl ?_
  refine k_lload7 S dX4_capability_156 (n := 158) rfl ?_
  refine k_lload9 S dX4_capability_158 (n := 160) rfl ?_
  refine k_lcmp S dX4_capability_160 (n := 161) rfl ?_
  have hJ2 : zK x g ({ frames := 4, cells := 0, slots := 0, locals := 97 } : Room) 13 0 0 171 [some (.ref (za g 21)), some (.int (nI k)), some (.int a), some (.int b), some (.int e), some (.long ((1000 * (Int32.toInt64 (zLR μ ph k d))) / (Int32.toInt64 (zTab 2 s)))), none, some (.long ((1000 * (Int32.toInt64 b)) - (Int32.toInt64 (zLC μ ph k d s)))), none, some (.long ((Int32.toInt64 (zLC μ ph k d s)) - (1000 * (Int32.toInt64 a)))), none, none, none] [.long ((if 0 ≤ (lg_cmp ((1000 * (Int32.toInt64 b)) - (Int32.toInt64 (zLC μ ph k d s))) ((Int32.toInt64 (zLC μ ph k d s)) - (1000 * (Int32.toInt64 a)))) then (Int32.toInt64 (zLC μ ph k d s)) - (1000 * (Int32.toInt64 a)) else (1000 * (Int32.toInt64 b)) - (Int32.toInt64 (zLC μ ph k d s))))] (zu ν1 21 23 0) := by
    refine k_lstore11 S dX4_capability_171 (by decide) rfl (n := 173) rfl ?_
    refine k_iload4 S dX4_capability_173 (n := 175) rfl ?_
    refine k_if_eq S dX4_capability_175 (tgt := 196) (by decide) (n := 178) rfl (fun _ => ?_) (fun h9 => absurd (he) h9)
    refine k_ldc2 S dX4_capability_196 (v := 1000) m_785 (n := 199) rfl ?_
    refine k_ldc2 S dX4_capability_199 (v := 1000) m_785 (n := 202) rfl ?_
    refine k_iload3 S dX4_capability_202 (n := 203) rfl ?_
    refine k_i2l S dX4_capability_203 (n := 204) rfl ?_
    refine k_lmul S dX4_capability_204 (n := 205) rfl ?_
    refine k_ldc2 S dX4_capability_205 (v := 1000) m_785 (n := 208) rfl ?_
    refine k_iload2 S dX4_capability_208 (n := 209) rfl ?_
    refine k_i2l S dX4_capability_209 (n := 210) rfl ?_
    refine k_lmul S dX4_capability_210 (n := 211) rfl ?_
    refine k_lsub S dX4_capability_211 (n := 212) rfl ?_
    refine k_lmul S dX4_capability_212 (n := 213) rfl ?_
    refine k_ldc2 S dX4_capability_213 (v := 6) m_925 (n := 216) rfl ?_
    refine k_lload5 S dX4_capability_216 (n := 218) rfl ?_
    refine k_lmul S dX4_capability_218 (n := 219) rfl ?_
    refine k_ldiv S dX4_capability_219 hs6 (n := 220) rfl ?_
    exact k_lret S Y dX4_capability_220 (by decide) (by decide) (⟨by unfold zkM; rw [if_pos he]; rfl, hL1.1.thr⟩)
  refine k_if_ge S dX4_capability_161 (tgt := 169) (by decide) (n := 164) rfl (fun c1 => ?_) (fun c1 => ?_)
  ·
    refine k_lload9 S dX4_capability_169 (n := 171) rfl ?_
    rw [if_pos c1] at hJ2
    exact hJ2
  ·
    refine k_lload7 S dX4_capability_164 (n := 166) rfl ?_
    refine k_goto S dX4_capability_166 (tgt := 171) (by decide) ?_
    rw [if_neg c1] at hJ2
    exact hJ2
set_option maxRecDepth 100000 in
set_option maxHeartbeats 4000000 in
theorem c_X4_capability_f {l : Launch} {g : zG} {μ : zM} {k : Nat} {a b e : Int32} {d c s : Nat} {ph fs : Nat → Nat}  (hn : zn g = 32) (Q : zQ μ d c s ph fs) (hk : k < c) (h1 : -9999 ≤ a) (h2 : a ≤ 9999) (h3 : a ≤ b) (h4 : b ≤ 9999) (hz : zHas μ ph k d) (hs0 : ¬ lg_cmp (zsM μ ph k d s) 0 = 0) (hs3 : ¬ 3 * zsM μ ph k d s = 0) (hs6 : ¬ 6 * zsM μ ph k d s = 0) (he : ¬ e = 0) : zC l g yX4_capability cX4_capability 13 (some .long) ({ frames := 4, cells := 0, slots := 0, locals := 97 } : Room) 0 0 [.ref (za g 21), .int (nI k), .int a, .int b, .int e] μ (zRn μ (some (.long (zkM (zLC μ ph k d s) a b e (zsM μ ph k d s)))) 0) zNX := by
  refine zC_of (L0 := [some (.ref (za g 21)), some (.int (nI k)), some (.int a), some (.int b), some (.int e), none, none, none, none, none, none, none, none]) (plainFor_of_name (by decide)) (Nat.le_of_ble_eq_true rfl) rfl ?_
  intro x S Y hxl
  subst hxl
  refine k_aload0 S dX4_capability_0 (n := 1) rfl ?_
  refine k_iload1 S dX4_capability_1 (n := 2) rfl ?_
  refine k_callV (As := [.int (nI k)]) (rest := []) (p := 21) S (c_X4_isPhase_ok hn Q.1.1 (by have := Q.c10; omega) hk) mv_X4_isPhase m_769 dX4_capability_2 rfl rfl ⟨by decide, by decide⟩ (by rw [hn]; decide) (by decide) (ci := 4) rfl rfl rfl (Nat.le_of_ble_eq_true rfl) ⟨by decide, by decide⟩ (n := 5) rfl (fun _ _ h => h.elim) (fun v9 ν9 h9 => ?_)
  rw [h9.1, h9.2]
  show zK x g ({ frames := 4, cells := 0, slots := 0, locals := 97 } : Room) 13 0 0 5 [some (.ref (za g 21)), some (.int (nI k)), some (.int a), some (.int b), some (.int e), none, none, none, none, none, none, none, none] [.int 1] (zu μ 21 23 0)
  refine k_if_ne S dX4_capability_5 (tgt := 10) (by decide) (n := 8) rfl (fun _ => ?_) (fun h9 => absurd h9 (by decide))
  refine k_aload0 S dX4_capability_10 (n := 11) rfl ?_
  refine k_iload2 S dX4_capability_11 (n := 12) rfl ?_
  refine k_sipush S dX4_capability_12 (v := (-9999)) (by decide) (n := 15) rfl ?_
  refine k_sipush S dX4_capability_15 (v := 9999) (by decide) (n := 18) rfl ?_
  refine k_callS (As := [.int a, .int ((-9999)), .int 9999]) (rest := [.ref (za g 21)]) S (c_X4_isIn) mv_X4_isIn m_754 dX4_capability_18 rfl rfl ⟨by decide, by decide⟩ rfl rfl (Nat.le_of_ble_eq_true rfl) ⟨by decide, by decide⟩ (n := 21) rfl (fun _ _ h => h.elim) (fun v9 ν9 h9 => ?_)
  rw [h9.1, h9.2]
  show zK x g ({ frames := 4, cells := 0, slots := 0, locals := 97 } : Room) 13 0 0 21 [some (.ref (za g 21)), some (.int (nI k)), some (.int a), some (.int b), some (.int e), none, none, none, none, none, none, none, none] [.int (zii a ((-9999)) 9999), .ref (za g 21)] (zu μ 21 23 0)
  refine k_if_eq S dX4_capability_21 (tgt := 39) (by decide) (n := 24) rfl (fun h9 => absurd h9 (by rw [zii_i h1 h2]; decide)) (fun _ => ?_)
  refine k_iload3 S dX4_capability_24 (n := 25) rfl ?_
  refine k_iload2 S dX4_capability_25 (n := 26) rfl ?_
  refine k_sipush S dX4_capability_26 (v := 9999) (by decide) (n := 29) rfl ?_
  refine k_callS (As := [.int b, .int a, .int 9999]) (rest := [.ref (za g 21)]) S (c_X4_isIn) mv_X4_isIn m_754 dX4_capability_29 rfl rfl ⟨by decide, by decide⟩ rfl rfl (Nat.le_of_ble_eq_true rfl) ⟨by decide, by decide⟩ (n := 32) rfl (fun _ _ h => h.elim) (fun v9 ν9 h9 => ?_)
  rw [h9.1, h9.2]
  show zK x g ({ frames := 4, cells := 0, slots := 0, locals := 97 } : Room) 13 0 0 32 [some (.ref (za g 21)), some (.int (nI k)), some (.int a), some (.int b), some (.int e), none, none, none, none, none, none, none, none] [.int (zii b a 9999), .ref (za g 21)] (zu μ 21 23 0)
  refine k_if_eq S dX4_capability_32 (tgt := 39) (by decide) (n := 35) rfl (fun h9 => absurd h9 (by rw [zii_i h3 h4]; decide)) (fun _ => ?_)
  refine k_iconst S dX4_capability_35 (v := 0) (by decide) (n := 36) rfl ?_
  refine k_goto S dX4_capability_36 (tgt := 40) (by decide) ?_
  refine k_put (T := TX4) (j := 23) S dX4_capability_40 (by rw [hn]; decide) (by decide) (ci := 4) rfl rfl (by decide) in_4 m_695 rfl rfl (ty0 := tyX4) tyX4_ok nmX4 rfl rfl rfl (n := 43) rfl ?_
  refine k_aload0 S dX4_capability_43 (n := 44) rfl ?_
  refine k_getv (v := 0) (T := TX4) (j := 23) S dX4_capability_44 (by rw [hn]; decide) (by decide) (ci := 4) rfl rfl (by decide) in_4 m_695 rfl rfl (by simp [zu, zset, upd]) (n := 47) rfl ?_
  refine k_if_le S dX4_capability_47 (tgt := 52) (by decide) (n := 50) rfl (fun _ => ?_) (fun h9 => absurd (by decide) h9)
  refine k_aload0 S dX4_capability_52 (n := 53) rfl ?_
  refine k_iload1 S dX4_capability_53 (n := 54) rfl ?_
  refine k_callV (As := [.int (nI k)]) (rest := []) (p := 21) S (c_X4_laysLimitsR (t := k) hn ((Q.thr 0).thr 0) hk) mv_X4_laysLimits m_773 dX4_capability_54 rfl rfl ⟨by decide, by decide⟩ (by rw [hn]; decide) (by decide) (ci := 4) rfl rfl rfl (Nat.le_of_ble_eq_true rfl) ⟨by decide, by decide⟩ (n := 57) rfl (fun _ _ h => h.elim) (fun v9 ν1 h9 => ?_)
  obtain ⟨e1, hL⟩ := h9
  rw [e1]
  show zK x g ({ frames := 4, cells := 0, slots := 0, locals := 97 } : Room) 13 0 0 57 [some (.ref (za g 21)), some (.int (nI k)), some (.int a), some (.int b), some (.int e), none, none, none, none, none, none, none, none] [] ν1
  have hL0 := hL
  rw [zu_zu] at hL0
  have hL1 := hL0.thr
  have hL2 := hL1.2.2.1 hz
  refine k_aload0 S dX4_capability_57 (n := 58) rfl ?_
  refine k_getv (v := 1) (T := TX4) (j := 15) S dX4_capability_58 (by rw [hn]; decide) (by decide) (ci := 4) rfl rfl (by decide) in_4 m_687 rfl rfl hL2.1 (n := 61) rfl ?_
  refine k_if_eq S dX4_capability_61 (tgt := 100) (by decide) (n := 64) rfl (fun h9 => absurd h9 (by decide)) (fun _ => ?_)
  refine k_ldc2 S dX4_capability_64 (v := 1000) m_785 (n := 67) rfl ?_
  refine k_aload0 S dX4_capability_67 (n := 68) rfl ?_
  refine k_getv (v := zLR μ ph k d) (T := TX4) (j := 17) S dX4_capability_68 (by rw [hn]; decide) (by decide) (ci := 4) rfl rfl (by decide) in_4 m_689 rfl rfl hL2.2.2.1 (n := 71) rfl ?_
  refine k_i2l S dX4_capability_71 (n := 72) rfl ?_
  refine k_lmul S dX4_capability_72 (n := 73) rfl ?_
  refine k_aload0 S dX4_capability_73 (n := 74) rfl ?_
  refine k_getv (v := nI (s + 2)) (T := TX4) (j := 0) S dX4_capability_74 (by rw [hn]; decide) (by decide) (ci := 4) rfl rfl (by decide) in_4 m_672 rfl rfl ((hL1.1.2 21 0 rfl).trans ((zu_ne _ (by decide)).trans Q.2.2.2.1)) (n := 77) rfl ?_
  refine k_sipush S dX4_capability_77 (v := 1128) (by decide) (n := 80) rfl ?_
  refine k_sipush S dX4_capability_80 (v := 1693) (by decide) (n := 83) rfl ?_
  refine k_sipush S dX4_capability_83 (v := 2059) (by decide) (n := 86) rfl ?_
  refine k_sipush S dX4_capability_86 (v := 2326) (by decide) (n := 89) rfl ?_
  refine k_sipush S dX4_capability_89 (v := 2534) (by decide) (n := 92) rfl ?_
  refine k_callS (As := [.int (nI (s + 2)), .int 1128, .int 1693, .int 2059, .int 2326, .int 2534]) (rest := [.long (1000 * (Int32.toInt64 (zLR μ ph k d)))]) S (c_X4_factor) mv_X4_factor m_793 dX4_capability_92 rfl rfl ⟨by decide, by decide⟩ rfl rfl (Nat.le_of_ble_eq_true rfl) ⟨by decide, by decide⟩ (n := 95) rfl (fun _ _ h => h.elim) (fun v9 ν9 h9 => ?_)
  rw [h9.1, h9.2]
  show zK x g ({ frames := 4, cells := 0, slots := 0, locals := 97 } : Room) 13 0 0 95 [some (.ref (za g 21)), some (.int (nI k)), some (.int a), some (.int b), some (.int e), none, none, none, none, none, none, none, none] [.int (v_X4_factor (nI (s + 2)) 1128 1693 2059 2326 2534), .long (1000 * (Int32.toInt64 (zLR μ ph k d)))] ν1
  rw [zfac2 Q.2.2.2.2]
  refine k_i2l S dX4_capability_95 (n := 96) rfl ?_
  refine k_ldiv S dX4_capability_96 (zdv Q.2.2.2.2) (n := 97) rfl ?_
  refine k_goto S dX4_capability_97 (tgt := 101) (by decide) ?_
  refine k_lstore5 S dX4_capability_101 (by decide) rfl (n := 103) rfl ?_
  refine k_aload0 S dX4_capability_103 (n := 104) rfl ?_
  refine k_lload5 S dX4_capability_104 (n := 106) rfl ?_
  refine k_lconst S dX4_capability_106 (v := 0) (by decide) (n := 107) rfl ?_
  refine k_lcmp S dX4_capability_107 (n := 108) rfl ?_
  refine k_if_ne S dX4_capability_108 (tgt := 115) (by decide) (n := 111) rfl (fun _ => ?_) (fun h9 => absurd h9 (hs0))
  refine k_iconst S dX4_capability_115 (v := 0) (by decide) (n := 116) rfl ?_
  refine k_put (T := TX4) (j := 23) S dX4_capability_116 (by rw [hn]; decide) (by decide) (ci := 4) rfl rfl (by decide) in_4 m_695 rfl rfl (ty0 := tyX4) tyX4_ok nmX4 rfl rfl rfl (n := 119) rfl ?_
  refine k_aload0 S dX4_capability_119 (n := 120) rfl ?_
  refine k_getv (v := 0) (T := TX4) (j := 23) S dX4_capability_120 (by rw [hn]; decide) (by decide) (ci := 4) rfl rfl (by decide) in_4 m_695 rfl rfl (by simp [zu, zset, upd]) (n := 123) rfl ?_
  refine k_if_le S dX4_capability_123 (tgt := 128) (by decide) (n := 126) rfl (fun _ => ?_) (fun h9 => absurd (by decide) h9)
  refine k_ldc2 S dX4_capability_128 (v := 1000) m_785 (n := 131) rfl ?_
  refine k_iload3 S dX4_capability_131 (n := 132) rfl ?_
  refine k_i2l S dX4_capability_132 (n := 133) rfl ?_
  refine k_lmul S dX4_capability_133 (n := 134) rfl ?_
  refine k_aload0 S dX4_capability_134 (n := 135) rfl ?_
  refine k_getv (v := zLC μ ph k d s) (T := TX4) (j := 16) S dX4_capability_135 (by rw [hn]; decide) (by decide) (ci := 4) rfl rfl (by decide) in_4 m_688 rfl rfl ((zu_ne _ (by decide)).trans hL2.2.1) (n := 138) rfl ?_
  refine k_i2l S dX4_capability_138 (n := 139) rfl ?_
  refine k_lsub S dX4_capability_139 (n := 140) rfl ?_
  refine k_lstore7 S dX4_capability_140 (by decide) rfl (n := 142) rfl ?_
  refine k_aload0 S dX4_capability_142 (n := 143) rfl ?_
  refine k_getv (v := zLC μ ph k d s) (T := TX4) (j := 16) S dX4_capability_143 (by rw [hn]; decide) (by decide) (ci := 4) rfl rfl (by decide) in_4 m_688 rfl rfl ((zu_ne _ (by decide)).trans hL2.2.1) (n := 146) rfl ?_
  refine k_i2l S dX4_capability_146 (n := 147) rfl ?_
  refine k_ldc2 S dX4_capability_147 (v := 1000) m_785 (n := 150) rfl ?_
  refine k_iload2 S dX4_capability_150 (n := 151) rfl ?_
  refine k_i2l S dX4_capability_151 (n := 152) rfl ?_
  refine k_lmul S dX4_capability_152 (n := 153) rfl ?_
  refine k_lsub S dX4_capability_153 (n := 154) rfl ?_
  refine k_lstore9 S dX4_capability_154 (by decide) rfl (n := 156) rfl ?_
  refine k_lload7 S dX4_capability_156 (n := 158) rfl ?_
  refine k_lload9 S dX4_capability_158 (n := 160) rfl ?_
  refine k_lcmp S dX4_capability_160 (n := 161) rfl ?_
  have hJ2 : zK x g ({ frames := 4, cells := 0, slots := 0, locals := 97 } : Room) 13 0 0 171 [some (.ref (za g 21)), some (.int (nI k)), some (.int a), some (.int b), some (.int e), some (.long ((1000 * (Int32.toInt64 (zLR μ ph k d))) / (Int32.toInt64 (zTab 2 s)))), none, some (.long ((1000 * (Int32.toInt64 b)) - (Int32.toInt64 (zLC μ ph k d s)))), none, some (.long ((Int32.toInt64 (zLC μ ph k d s)) - (1000 * (Int32.toInt64 a)))), none, none, none] [.long ((if 0 ≤ (lg_cmp ((1000 * (Int32.toInt64 b)) - (Int32.toInt64 (zLC μ ph k d s))) ((Int32.toInt64 (zLC μ ph k d s)) - (1000 * (Int32.toInt64 a)))) then (Int32.toInt64 (zLC μ ph k d s)) - (1000 * (Int32.toInt64 a)) else (1000 * (Int32.toInt64 b)) - (Int32.toInt64 (zLC μ ph k d s))))] (zu ν1 21 23 0) := by
    refine k_lstore11 S dX4_capability_171 (by decide) rfl (n := 173) rfl ?_
    refine k_iload4 S dX4_capability_173 (n := 175) rfl ?_
    refine k_if_eq S dX4_capability_175 (tgt := 196) (by decide) (n := 178) rfl (fun h9 => absurd h9 (he)) (fun _ => ?_)
    refine k_ldc2 S dX4_capability_178 (v := 1000) m_785 (n := 181) rfl ?_
    refine k_lload11 S dX4_capability_181 (n := 183) rfl ?_
    refine k_lmul S dX4_capability_183 (n := 184) rfl ?_
    refine k_ldc2 S dX4_capability_184 (v := 3) m_867 (n := 187) rfl ?_
    refine k_lload5 S dX4_capability_187 (n := 189) rfl ?_
    refine k_lmul S dX4_capability_189 (n := 190) rfl ?_
    refine k_callS (As := [.long (1000 * ((if 0 ≤ (lg_cmp ((1000 * (Int32.toInt64 b)) - (Int32.toInt64 (zLC μ ph k d s))) ((Int32.toInt64 (zLC μ ph k d s)) - (1000 * (Int32.toInt64 a)))) then (Int32.toInt64 (zLC μ ph k d s)) - (1000 * (Int32.toInt64 a)) else (1000 * (Int32.toInt64 b)) - (Int32.toInt64 (zLC μ ph k d s))))), .long (3 * ((1000 * (Int32.toInt64 (zLR μ ph k d))) / (Int32.toInt64 (zTab 2 s))))]) (rest := []) S (c_X4_floored hs3) mv_X4_floored m_790 dX4_capability_190 rfl rfl ⟨by decide, by decide⟩ rfl rfl (Nat.le_of_ble_eq_true rfl) ⟨by decide, by decide⟩ (n := 193) rfl (fun _ _ h => h.elim) (fun v9 ν9 h9 => ?_)
    rw [h9.1, h9.2]
    show zK x g ({ frames := 4, cells := 0, slots := 0, locals := 97 } : Room) 13 0 0 193 [some (.ref (za g 21)), some (.int (nI k)), some (.int a), some (.int b), some (.int e), some (.long ((1000 * (Int32.toInt64 (zLR μ ph k d))) / (Int32.toInt64 (zTab 2 s)))), none, some (.long ((1000 * (Int32.toInt64 b)) - (Int32.toInt64 (zLC μ ph k d s)))), none, some (.long ((Int32.toInt64 (zLC μ ph k d s)) - (1000 * (Int32.toInt64 a)))), none, some (.long ((if 0 ≤ (lg_cmp ((1000 * (Int32.toInt64 b)) - (Int32.toInt64 (zLC μ ph k d s))) ((Int32.toInt64 (zLC μ ph k d s)) - (1000 * (Int32.toInt64 a)))) then (Int32.toInt64 (zLC μ ph k d s)) - (1000 * (Int32.toInt64 a)) else (1000 * (Int32.toInt64 b)) - (Int32.toInt64 (zLC μ ph k d s))))), none] [.long (zflM (1000 * ((if 0 ≤ (lg_cmp ((1000 * (Int32.toInt64 b)) - (Int32.toInt64 (zLC μ ph k d s))) ((Int32.toInt64 (zLC μ ph k d s)) - (1000 * (Int32.toInt64 a)))) then (Int32.toInt64 (zLC μ ph k d s)) - (1000 * (Int32.toInt64 a)) else (1000 * (Int32.toInt64 b)) - (Int32.toInt64 (zLC μ ph k d s))))) (3 * ((1000 * (Int32.toInt64 (zLR μ ph k d))) / (Int32.toInt64 (zTab 2 s)))))] (zu ν1 21 23 0)
    refine k_goto S dX4_capability_193 (tgt := 220) (by decide) ?_
    exact k_lret S Y dX4_capability_220 (by decide) (by decide) (⟨by unfold zkM; rw [if_neg he]; rfl, hL1.1.thr⟩)
  refine k_if_ge S dX4_capability_161 (tgt := 169) (by decide) (n := 164) rfl (fun c1 => ?_) (fun c1 => ?_)
  ·
    refine k_lload9 S dX4_capability_169 (n := 171) rfl ?_
    rw [if_pos c1] at hJ2
    exact hJ2
  ·
    refine k_lload7 S dX4_capability_164 (n := 166) rfl ?_
    refine k_goto S dX4_capability_166 (tgt := 171) (by decide) ?_
    rw [if_neg c1] at hJ2
    exact hJ2
