/-! THE REFERENCE'S CALLS ON POINTS -/
theorem zset_s (a c B : Int32) : (if a = 0 then (if c = 0 then (0 : Int32) else B) else B) = if (decide (¬ (a = 0 ∧ c = 0))) = true then B else 0 := by
  by_cases h : a = 0
  · by_cases k : c = 0
    · simp [h, k]
    · simp [h, k]
  · simp [h]
def zB8 (b1 b2 b3 b4 b5 b6 b7 b8 : Bool) : Int32 := (((((((0 ||| (if b1 = true then (1 : Int32) <<< (nI 1 &&& 31) else 0)) ||| (if b2 = true then (1 : Int32) <<< (nI 2 &&& 31) else 0)) ||| (if b3 = true then (1 : Int32) <<< (nI 3 &&& 31) else 0)) ||| (if b4 = true then (1 : Int32) <<< (nI 4 &&& 31) else 0)) ||| (if b5 = true then (1 : Int32) <<< (nI 5 &&& 31) else 0)) ||| (if b6 = true then (1 : Int32) <<< (nI 6 &&& 31) else 0)) ||| (if b7 = true then (1 : Int32) <<< (nI 7 &&& 31) else 0)) ||| (if b8 = true then (1 : Int32) <<< (nI 8 &&& 31) else 0)
def zbit (a : Int32) (r : Nat) : Bool := decide ((a >>> (nI r &&& 31)) &&& 1 = 1)
theorem zB8_bits : ∀ b1 b2 b3 b4 b5 b6 b7 b8 : Bool, zbit (zB8 b1 b2 b3 b4 b5 b6 b7 b8) 1 = b1 ∧ zbit (zB8 b1 b2 b3 b4 b5 b6 b7 b8) 2 = b2 ∧ zbit (zB8 b1 b2 b3 b4 b5 b6 b7 b8) 3 = b3 ∧ zbit (zB8 b1 b2 b3 b4 b5 b6 b7 b8) 4 = b4 ∧ zbit (zB8 b1 b2 b3 b4 b5 b6 b7 b8) 5 = b5 ∧ zbit (zB8 b1 b2 b3 b4 b5 b6 b7 b8) 6 = b6 ∧ zbit (zB8 b1 b2 b3 b4 b5 b6 b7 b8) 7 = b7 ∧ zbit (zB8 b1 b2 b3 b4 b5 b6 b7 b8) 8 = b8 := by decide +kernel
def zbr (m : Nat) (y : Nat → Int32) (C W : Int32) (r : Nat) : Bool := decide (¬ (zBr m y C W r 1 = 0 ∧ zBr m y C W r (-1) = 0))
theorem zSet_B8 (m : Nat) (y : Nat → Int32) (C W : Int32) : zSet m y C W 8 = zB8 (zbr m y C W 1) (zbr m y C W 2) (zbr m y C W 3) (zbr m y C W 4) (zbr m y C W 5) (zbr m y C W 6) (zbr m y C W 7) (zbr m y C W 8) := by
  unfold zB8 zbr
  simp only [zSet, zset_s]
theorem zSet_bit (m : Nat) (y : Nat → Int32) (C W : Int32) {r : Nat} (h1 : 1 ≤ r) (h8 : r ≤ 8) : zbit (zSet m y C W 8) r = zbr m y C W r := by
  rw [zSet_B8]
  obtain ⟨q1, q2, q3, q4, q5, q6, q7, q8⟩ := zB8_bits (zbr m y C W 1) (zbr m y C W 2) (zbr m y C W 3) (zbr m y C W 4) (zbr m y C W 5) (zbr m y C W 6) (zbr m y C W 7) (zbr m y C W 8)
  match r, h1, h8 with
  | 1, _, _ => exact q1
  | 2, _, _ => exact q2
  | 3, _, _ => exact q3
  | 4, _, _ => exact q4
  | 5, _, _ => exact q5
  | 6, _, _ => exact q6
  | 7, _, _ => exact q7
  | 8, _, _ => exact q8
  | r + 9, _, h => exact absurd h (by omega)
theorem zbr_le {m : Nat} {y : Nat → Int32} {C W : Int32} {r : Nat} (h : zbr m y C W r = true) : zNm r ≤ m := by
  refine Nat.not_lt.mp fun q => ?_
  have h2 := of_decide_eq_true h
  refine h2 ⟨?_, ?_⟩
  · unfold zBr
    rw [if_pos q]
  · unfold zBr
    rw [if_pos q]
/-- what isPoint leaves behind it -/
def zLaT (μ ν : zM) (ph : Nat → Nat) (t d s n : Nat) (w : Int32) : Prop := zNear (zu μ 21 23 w) ν ∧ ν.1 21 16 = zLC μ ph t d s ∧ ν.1 21 17 = zLR μ ph t d ∧ ν.1 21 18 = zWd s 0 (zLR μ ph t d) ∧ ν.1 21 19 = zWd s 1 (zLR μ ph t d) ∧
  ν.1 21 20 = nI (zpc ph (μ.1 24) t n) ∧ ∀ j, j < zpc ph (μ.1 24) t n → ν.1 29 j = nI (zpx ph (μ.1 24) t n j) ∧ ν.1 30 j = zmn μ (zpx ph (μ.1 24) t n j)
theorem zLaid.thr {μ ν : zM} {ph : Nat → Nat} {t d s n : Nat} {w : Int32} (h : zLaid (zu μ 21 23 w) ν ph t d s n) : zLaT μ ν ph t d s n w := by
  obtain ⟨a, b, c', e, f, i, j⟩ := h
  obtain ⟨e1, e2, -⟩ := zL_thr μ w ph t d s
  rw [e1] at b
  rw [e2] at c' e f
  rw [zpc_thr] at i j
  refine ⟨a, b, c', e, f, i, fun k hk => ?_⟩
  have q := j k hk
  rw [zu_off μ 21 23 w (show (24 : Nat) ≠ 21 by decide), zmn_thr] at q
  exact q
set_option maxRecDepth 100000 in
set_option maxHeartbeats 4000000 in
theorem c_X4_signals_ok {l : Launch} {g : zG} {μ : zM} {i : Nat} {d c s : Nat} {ph fs : Nat → Nat}  (hn : zn g = 32) (Q : zQ μ d c s ph fs) (hi : i < d) (hr : zRs μ d) : zC l g yX4_signals cX4_signals 2 (some .int) ({ frames := 5, cells := 0, slots := 0, locals := 120 } : Room) 0 0 [.ref (za g 21), .int (nI i)] μ (zRn μ (some (.int (zbk μ ph i d s))) 0) zNX := by
  refine zC_of (L0 := [some (.ref (za g 21)), some (.int (nI i))]) (plainFor_of_name (by decide)) (Nat.le_of_ble_eq_true rfl) rfl ?_
  intro x S Y hxl
  subst hxl
  have hd60 := Q.2.2.1
  refine k_aload0 S dX4_signals_0 (n := 1) rfl ?_
  refine k_iload1 S dX4_signals_1 (n := 2) rfl ?_
  refine k_callV (As := [.int (nI i)]) (rest := []) (p := 21) S (c_X4_isDone_ok hn Q.2.1 Q.2.2.1 hi) mv_X4_isDone m_804 dX4_signals_2 rfl rfl ⟨by decide, by decide⟩ (by rw [hn]; decide) (by decide) (ci := 4) rfl rfl rfl (Nat.le_of_ble_eq_true rfl) ⟨by decide, by decide⟩ (n := 5) rfl (fun _ _ h => h.elim) (fun v9 ν9 h9 => ?_)
  rw [h9.1, h9.2]
  show zK x g ({ frames := 5, cells := 0, slots := 0, locals := 120 } : Room) 2 0 0 5 [some (.ref (za g 21)), some (.int (nI i))] [.int 1] (zu μ 21 23 0)
  refine k_if_eq S dX4_signals_5 (tgt := 16) (by decide) (n := 8) rfl (fun h9 => absurd h9 (by decide)) (fun _ => ?_)
  refine k_aload0 S dX4_signals_8 (n := 9) rfl ?_
  refine k_iload1 S dX4_signals_9 (n := 10) rfl ?_
  refine k_callV (As := [.int (nI i)]) (rest := []) (p := 21) S (c_X4_broken hn (Q.thr 0) hi (hr.thr 0)) mv_X4_broken m_852 dX4_signals_10 rfl rfl ⟨by decide, by decide⟩ (by rw [hn]; decide) (by decide) (ci := 4) rfl rfl rfl (Nat.le_of_ble_eq_true rfl) ⟨by decide, by decide⟩ (n := 13) rfl (fun _ _ h => h.elim) (fun v9 ν1 h9 => ?_)
  obtain ⟨e1, hB⟩ := h9
  rw [e1]
  show zK x g ({ frames := 5, cells := 0, slots := 0, locals := 120 } : Room) 2 0 0 13 [some (.ref (za g 21)), some (.int (nI i))] [.int (zbk (zu μ 21 23 0) ph i d s)] ν1
  refine k_goto S dX4_signals_13 (tgt := 17) (by decide) ?_
  exact k_iret S Y dX4_signals_17 (by decide) (by decide) rfl (⟨by rw [zbk_thr], hB⟩)
set_option maxRecDepth 100000 in
set_option maxHeartbeats 4000000 in
theorem c_X4_signals_no {l : Launch} {g : zG} {μ : zM} {v : Int32} {d c s : Nat} {ph fs : Nat → Nat}  (hn : zn g = 32) (Q : zQ μ d c s ph fs) (hi : ¬ zIn v d) : zC l g yX4_signals cX4_signals 2 (some .int) ({ frames := 5, cells := 0, slots := 0, locals := 120 } : Room) 0 0 [.ref (za g 21), .int v] μ (zRn μ (some (.int (0))) 1) zNX := by
  refine zC_of (L0 := [some (.ref (za g 21)), some (.int v)]) (plainFor_of_name (by decide)) (Nat.le_of_ble_eq_true rfl) rfl ?_
  intro x S Y hxl
  subst hxl
  refine k_aload0 S dX4_signals_0 (n := 1) rfl ?_
  refine k_iload1 S dX4_signals_1 (n := 2) rfl ?_
  refine k_callV (As := [.int v]) (rest := []) (p := 21) S (c_X4_isDone_no hn Q.2.1 Q.2.2.1 hi) mv_X4_isDone m_804 dX4_signals_2 rfl rfl ⟨by decide, by decide⟩ (by rw [hn]; decide) (by decide) (ci := 4) rfl rfl rfl (Nat.le_of_ble_eq_true rfl) ⟨by decide, by decide⟩ (n := 5) rfl (fun _ _ h => h.elim) (fun v9 ν9 h9 => ?_)
  rw [h9.1, h9.2]
  show zK x g ({ frames := 5, cells := 0, slots := 0, locals := 120 } : Room) 2 0 0 5 [some (.ref (za g 21)), some (.int v)] [.int 0] (zu μ 21 23 1)
  refine k_if_eq S dX4_signals_5 (tgt := 16) (by decide) (n := 8) rfl (fun _ => ?_) (fun h9 => absurd (by decide) h9)
  refine k_iconst S dX4_signals_16 (v := 0) (by decide) (n := 17) rfl ?_
  exact k_iret S Y dX4_signals_17 (by decide) (by decide) rfl ((zrn0 _ _ _))
set_option maxRecDepth 100000 in
set_option maxHeartbeats 4000000 in
theorem c_X4_signalsByWindows_ok {l : Launch} {g : zG} {μ : zM} {i : Nat} {d c s : Nat} {ph fs : Nat → Nat}  (hn : zn g = 32) (Q : zQ μ d c s ph fs) (hi : i < d) (hr : zRs μ d) : zC l g yX4_signalsByWindows cX4_signalsByWindows 2 (some .int) ({ frames := 5, cells := 0, slots := 0, locals := 120 } : Room) 0 0 [.ref (za g 21), .int (nI i)] μ (zRn μ (some (.int (zbk μ ph i d s))) 0) zNX := by
  refine zC_of (L0 := [some (.ref (za g 21)), some (.int (nI i))]) (plainFor_of_name (by decide)) (Nat.le_of_ble_eq_true rfl) rfl ?_
  intro x S Y hxl
  subst hxl
  have hd60 := Q.2.2.1
  refine k_aload0 S dX4_signalsByWindows_0 (n := 1) rfl ?_
  refine k_iload1 S dX4_signalsByWindows_1 (n := 2) rfl ?_
  refine k_callV (As := [.int (nI i)]) (rest := []) (p := 21) S (c_X4_isDone_ok hn Q.2.1 Q.2.2.1 hi) mv_X4_isDone m_804 dX4_signalsByWindows_2 rfl rfl ⟨by decide, by decide⟩ (by rw [hn]; decide) (by decide) (ci := 4) rfl rfl rfl (Nat.le_of_ble_eq_true rfl) ⟨by decide, by decide⟩ (n := 5) rfl (fun _ _ h => h.elim) (fun v9 ν9 h9 => ?_)
  rw [h9.1, h9.2]
  show zK x g ({ frames := 5, cells := 0, slots := 0, locals := 120 } : Room) 2 0 0 5 [some (.ref (za g 21)), some (.int (nI i))] [.int 1] (zu μ 21 23 0)
  refine k_if_eq S dX4_signalsByWindows_5 (tgt := 16) (by decide) (n := 8) rfl (fun h9 => absurd h9 (by decide)) (fun _ => ?_)
  refine k_aload0 S dX4_signalsByWindows_8 (n := 9) rfl ?_
  refine k_iload1 S dX4_signalsByWindows_9 (n := 10) rfl ?_
  refine k_callV (As := [.int (nI i)]) (rest := []) (p := 21) S (c_X4_broken hn (Q.thr 0) hi (hr.thr 0)) mv_X4_broken m_852 dX4_signalsByWindows_10 rfl rfl ⟨by decide, by decide⟩ (by rw [hn]; decide) (by decide) (ci := 4) rfl rfl rfl (Nat.le_of_ble_eq_true rfl) ⟨by decide, by decide⟩ (n := 13) rfl (fun _ _ h => h.elim) (fun v9 ν1 h9 => ?_)
  obtain ⟨e1, hB⟩ := h9
  rw [e1]
  show zK x g ({ frames := 5, cells := 0, slots := 0, locals := 120 } : Room) 2 0 0 13 [some (.ref (za g 21)), some (.int (nI i))] [.int (zbk (zu μ 21 23 0) ph i d s)] ν1
  refine k_goto S dX4_signalsByWindows_13 (tgt := 17) (by decide) ?_
  exact k_iret S Y dX4_signalsByWindows_17 (by decide) (by decide) rfl (⟨by rw [zbk_thr], hB⟩)
set_option maxRecDepth 100000 in
set_option maxHeartbeats 4000000 in
theorem c_X4_signalsByWindows_no {l : Launch} {g : zG} {μ : zM} {v : Int32} {d c s : Nat} {ph fs : Nat → Nat}  (hn : zn g = 32) (Q : zQ μ d c s ph fs) (hi : ¬ zIn v d) : zC l g yX4_signalsByWindows cX4_signalsByWindows 2 (some .int) ({ frames := 5, cells := 0, slots := 0, locals := 120 } : Room) 0 0 [.ref (za g 21), .int v] μ (zRn μ (some (.int (0))) 1) zNX := by
  refine zC_of (L0 := [some (.ref (za g 21)), some (.int v)]) (plainFor_of_name (by decide)) (Nat.le_of_ble_eq_true rfl) rfl ?_
  intro x S Y hxl
  subst hxl
  refine k_aload0 S dX4_signalsByWindows_0 (n := 1) rfl ?_
  refine k_iload1 S dX4_signalsByWindows_1 (n := 2) rfl ?_
  refine k_callV (As := [.int v]) (rest := []) (p := 21) S (c_X4_isDone_no hn Q.2.1 Q.2.2.1 hi) mv_X4_isDone m_804 dX4_signalsByWindows_2 rfl rfl ⟨by decide, by decide⟩ (by rw [hn]; decide) (by decide) (ci := 4) rfl rfl rfl (Nat.le_of_ble_eq_true rfl) ⟨by decide, by decide⟩ (n := 5) rfl (fun _ _ h => h.elim) (fun v9 ν9 h9 => ?_)
  rw [h9.1, h9.2]
  show zK x g ({ frames := 5, cells := 0, slots := 0, locals := 120 } : Room) 2 0 0 5 [some (.ref (za g 21)), some (.int v)] [.int 0] (zu μ 21 23 1)
  refine k_if_eq S dX4_signalsByWindows_5 (tgt := 16) (by decide) (n := 8) rfl (fun _ => ?_) (fun h9 => absurd (by decide) h9)
  refine k_iconst S dX4_signalsByWindows_16 (v := 0) (by decide) (n := 17) rfl ?_
  exact k_iret S Y dX4_signalsByWindows_17 (by decide) (by decide) rfl ((zrn0 _ _ _))
set_option maxRecDepth 100000 in
set_option maxHeartbeats 4000000 in
theorem c_X4_firstOf_a {l : Launch} {g : zG} {μ : zM} {v r : Int32} {d c s : Nat} {ph fs : Nat → Nat}  (hn : zn g = 32) (Q : zQ μ d c s ph fs) (hi : ¬ zIn v d) : zC l g yX4_firstOf cX4_firstOf 3 (some .int) ({ frames := 5, cells := 0, slots := 0, locals := 120 } : Room) 0 0 [.ref (za g 21), .int v, .int r] μ (zRn μ (some (.int (0))) 1) zNX := by
  refine zC_of (L0 := [some (.ref (za g 21)), some (.int v), some (.int r)]) (plainFor_of_name (by decide)) (Nat.le_of_ble_eq_true rfl) rfl ?_
  intro x S Y hxl
  subst hxl
  refine k_aload0 S dX4_firstOf_0 (n := 1) rfl ?_
  refine k_iload1 S dX4_firstOf_1 (n := 2) rfl ?_
  refine k_iconst S dX4_firstOf_2 (v := 0) (by decide) (n := 3) rfl ?_
  refine k_aload0 S dX4_firstOf_3 (n := 4) rfl ?_
  refine k_getv (v := nI d) (T := TX4) (j := 1) S dX4_firstOf_4 (by rw [hn]; decide) (by decide) (ci := 4) rfl rfl (by decide) in_4 m_673 rfl rfl Q.2.1 (n := 7) rfl ?_
  refine k_iconst S dX4_firstOf_7 (v := 1) (by decide) (n := 8) rfl ?_
  refine k_isub S dX4_firstOf_8 (n := 9) rfl ?_
  refine k_callS (As := [.int v, .int 0, .int ((nI d) - 1)]) (rest := [.ref (za g 21)]) S (c_X4_isIn) mv_X4_isIn m_754 dX4_firstOf_9 rfl rfl ⟨by decide, by decide⟩ rfl rfl (Nat.le_of_ble_eq_true rfl) ⟨by decide, by decide⟩ (n := 12) rfl (fun _ _ h => h.elim) (fun v9 ν9 h9 => ?_)
  rw [h9.1, h9.2]
  show zK x g ({ frames := 5, cells := 0, slots := 0, locals := 120 } : Room) 3 0 0 12 [some (.ref (za g 21)), some (.int v), some (.int r)] [.int (zii v 0 ((nI d) - 1)), .ref (za g 21)] μ
  refine k_if_eq S dX4_firstOf_12 (tgt := 29) (by decide) (n := 15) rfl (fun _ => ?_) (fun h9 => absurd (zii_0 hi (by have := Q.2.2.1; omega)) h9)
  refine k_iconst S dX4_firstOf_29 (v := 1) (by decide) (n := 30) rfl ?_
  refine k_put (T := TX4) (j := 23) S dX4_firstOf_30 (by rw [hn]; decide) (by decide) (ci := 4) rfl rfl (by decide) in_4 m_695 rfl rfl (ty0 := tyX4) tyX4_ok nmX4 rfl rfl rfl (n := 33) rfl ?_
  refine k_aload0 S dX4_firstOf_33 (n := 34) rfl ?_
  refine k_getv (v := 1) (T := TX4) (j := 23) S dX4_firstOf_34 (by rw [hn]; decide) (by decide) (ci := 4) rfl rfl (by decide) in_4 m_695 rfl rfl (by simp [zu, zset, upd]) (n := 37) rfl ?_
  refine k_if_le S dX4_firstOf_37 (tgt := 42) (by decide) (n := 40) rfl (fun h9 => absurd h9 (by decide)) (fun _ => ?_)
  refine k_iconst S dX4_firstOf_40 (v := 0) (by decide) (n := 41) rfl ?_
  exact k_iret S Y dX4_firstOf_41 (by decide) (by decide) rfl ((zrn0 _ _ _))
set_option maxRecDepth 100000 in
set_option maxHeartbeats 4000000 in
theorem c_X4_firstOf_b {l : Launch} {g : zG} {μ : zM} {i : Nat} {r : Int32} {d c s : Nat} {ph fs : Nat → Nat}  (hn : zn g = 32) (Q : zQ μ d c s ph fs) (hi : i < d) (hr : ¬ (1 ≤ r ∧ r ≤ 8)) : zC l g yX4_firstOf cX4_firstOf 3 (some .int) ({ frames := 5, cells := 0, slots := 0, locals := 120 } : Room) 0 0 [.ref (za g 21), .int (nI i), .int r] μ (zRn μ (some (.int (0))) 1) zNX := by
  refine zC_of (L0 := [some (.ref (za g 21)), some (.int (nI i)), some (.int r)]) (plainFor_of_name (by decide)) (Nat.le_of_ble_eq_true rfl) rfl ?_
  intro x S Y hxl
  subst hxl
  refine k_aload0 S dX4_firstOf_0 (n := 1) rfl ?_
  refine k_iload1 S dX4_firstOf_1 (n := 2) rfl ?_
  refine k_iconst S dX4_firstOf_2 (v := 0) (by decide) (n := 3) rfl ?_
  refine k_aload0 S dX4_firstOf_3 (n := 4) rfl ?_
  refine k_getv (v := nI d) (T := TX4) (j := 1) S dX4_firstOf_4 (by rw [hn]; decide) (by decide) (ci := 4) rfl rfl (by decide) in_4 m_673 rfl rfl Q.2.1 (n := 7) rfl ?_
  refine k_iconst S dX4_firstOf_7 (v := 1) (by decide) (n := 8) rfl ?_
  refine k_isub S dX4_firstOf_8 (n := 9) rfl ?_
  refine k_callS (As := [.int (nI i), .int 0, .int ((nI d) - 1)]) (rest := [.ref (za g 21)]) S (c_X4_isIn) mv_X4_isIn m_754 dX4_firstOf_9 rfl rfl ⟨by decide, by decide⟩ rfl rfl (Nat.le_of_ble_eq_true rfl) ⟨by decide, by decide⟩ (n := 12) rfl (fun _ _ h => h.elim) (fun v9 ν9 h9 => ?_)
  rw [h9.1, h9.2]
  show zK x g ({ frames := 5, cells := 0, slots := 0, locals := 120 } : Room) 3 0 0 12 [some (.ref (za g 21)), some (.int (nI i)), some (.int r)] [.int (zii (nI i) 0 ((nI d) - 1)), .ref (za g 21)] μ
  refine k_if_eq S dX4_firstOf_12 (tgt := 29) (by decide) (n := 15) rfl (fun h9 => absurd h9 (by rw [zii_1 hi (by have := Q.2.2.1; omega)]; decide)) (fun _ => ?_)
  refine k_iload2 S dX4_firstOf_15 (n := 16) rfl ?_
  refine k_iconst S dX4_firstOf_16 (v := 1) (by decide) (n := 17) rfl ?_
  refine k_bipush S dX4_firstOf_17 (v := 8) (by decide) (n := 19) rfl ?_
  refine k_callS (As := [.int r, .int 1, .int 8]) (rest := [.ref (za g 21)]) S (c_X4_isIn) mv_X4_isIn m_754 dX4_firstOf_19 rfl rfl ⟨by decide, by decide⟩ rfl rfl (Nat.le_of_ble_eq_true rfl) ⟨by decide, by decide⟩ (n := 22) rfl (fun _ _ h => h.elim) (fun v9 ν9 h9 => ?_)
  rw [h9.1, h9.2]
  show zK x g ({ frames := 5, cells := 0, slots := 0, locals := 120 } : Room) 3 0 0 22 [some (.ref (za g 21)), some (.int (nI i)), some (.int r)] [.int (zii r 1 8), .ref (za g 21)] μ
  refine k_if_eq S dX4_firstOf_22 (tgt := 29) (by decide) (n := 25) rfl (fun _ => ?_) (fun h9 => absurd (zii_o hr) h9)
  refine k_iconst S dX4_firstOf_29 (v := 1) (by decide) (n := 30) rfl ?_
  refine k_put (T := TX4) (j := 23) S dX4_firstOf_30 (by rw [hn]; decide) (by decide) (ci := 4) rfl rfl (by decide) in_4 m_695 rfl rfl (ty0 := tyX4) tyX4_ok nmX4 rfl rfl rfl (n := 33) rfl ?_
  refine k_aload0 S dX4_firstOf_33 (n := 34) rfl ?_
  refine k_getv (v := 1) (T := TX4) (j := 23) S dX4_firstOf_34 (by rw [hn]; decide) (by decide) (ci := 4) rfl rfl (by decide) in_4 m_695 rfl rfl (by simp [zu, zset, upd]) (n := 37) rfl ?_
  refine k_if_le S dX4_firstOf_37 (tgt := 42) (by decide) (n := 40) rfl (fun h9 => absurd h9 (by decide)) (fun _ => ?_)
  refine k_iconst S dX4_firstOf_40 (v := 0) (by decide) (n := 41) rfl ?_
  exact k_iret S Y dX4_firstOf_41 (by decide) (by decide) rfl ((zrn0 _ _ _))
theorem zBK_bit {μ : zM} {ph : Nat → Nat} {i d s r : Nat} (h1 : 1 ≤ r) (h8 : r ≤ 8) : ((zBK (zu μ 21 23 0) ph i d s >>> (nI r &&& 31)) &&& 1 = 1) ↔ zbr (zpc ph (μ.1 24) (ph i) (i + 1)) (zys μ ph (ph i) (i + 1)) (zLC μ ph (ph i) d s) (zWd s 0 (zLR μ ph (ph i) d)) r = true := by
  rw [zBK_thr, ← zSet_bit _ _ _ _ h1 h8]
  exact ⟨fun h => decide_eq_true h, fun h => of_decide_eq_true h⟩
theorem zsh0 (r : Nat) : (0 : Int32) >>> (nI r &&& 31) = 0 := by
  rw [Int32.zero_shiftRight]
set_option maxRecDepth 100000 in
set_option maxHeartbeats 4000000 in
theorem c_X4_firstOf_y {l : Launch} {g : zG} {μ : zM} {i r : Nat} {d c s : Nat} {ph fs : Nat → Nat}  (hn : zn g = 32) (Q : zQ μ d c s ph fs) (hi : i < d) (h1 : 1 ≤ r) (h8 : r ≤ 8) (hr : μ.1 24 i = 0) (hb : zbr (zpc ph (μ.1 24) (ph i) (i + 1)) (zys μ ph (ph i) (i + 1)) (zLC μ ph (ph i) d s) (zWd s 0 (zLR μ ph (ph i) d)) r = true) : zC l g yX4_firstOf cX4_firstOf 3 (some .int) ({ frames := 5, cells := 0, slots := 0, locals := 120 } : Room) 0 0 [.ref (za g 21), .int (nI i), .int (nI r)] μ (zRn μ (some (.int (nI (zpx ph (μ.1 24) (ph i) (i + 1) (zpc ph (μ.1 24) (ph i) (i + 1) - zNm r))))) 0) zNX := by
  refine zC_of (L0 := [some (.ref (za g 21)), some (.int (nI i)), some (.int (nI r))]) (plainFor_of_name (by decide)) (Nat.le_of_ble_eq_true rfl) rfl ?_
  intro x S Y hxl
  subst hxl
  have hd60 := Q.2.2.1
  refine k_aload0 S dX4_firstOf_0 (n := 1) rfl ?_
  refine k_iload1 S dX4_firstOf_1 (n := 2) rfl ?_
  refine k_iconst S dX4_firstOf_2 (v := 0) (by decide) (n := 3) rfl ?_
  refine k_aload0 S dX4_firstOf_3 (n := 4) rfl ?_
  refine k_getv (v := nI d) (T := TX4) (j := 1) S dX4_firstOf_4 (by rw [hn]; decide) (by decide) (ci := 4) rfl rfl (by decide) in_4 m_673 rfl rfl Q.2.1 (n := 7) rfl ?_
  refine k_iconst S dX4_firstOf_7 (v := 1) (by decide) (n := 8) rfl ?_
  refine k_isub S dX4_firstOf_8 (n := 9) rfl ?_
  refine k_callS (As := [.int (nI i), .int 0, .int ((nI d) - 1)]) (rest := [.ref (za g 21)]) S (c_X4_isIn) mv_X4_isIn m_754 dX4_firstOf_9 rfl rfl ⟨by decide, by decide⟩ rfl rfl (Nat.le_of_ble_eq_true rfl) ⟨by decide, by decide⟩ (n := 12) rfl (fun _ _ h => h.elim) (fun v9 ν9 h9 => ?_)
  rw [h9.1, h9.2]
  show zK x g ({ frames := 5, cells := 0, slots := 0, locals := 120 } : Room) 3 0 0 12 [some (.ref (za g 21)), some (.int (nI i)), some (.int (nI r))] [.int (zii (nI i) 0 ((nI d) - 1)), .ref (za g 21)] μ
  refine k_if_eq S dX4_firstOf_12 (tgt := 29) (by decide) (n := 15) rfl (fun h9 => absurd h9 (by rw [zii_1 hi (by have := Q.2.2.1; omega)]; decide)) (fun _ => ?_)
  refine k_iload2 S dX4_firstOf_15 (n := 16) rfl ?_
  refine k_iconst S dX4_firstOf_16 (v := 1) (by decide) (n := 17) rfl ?_
  refine k_bipush S dX4_firstOf_17 (v := 8) (by decide) (n := 19) rfl ?_
  refine k_callS (As := [.int (nI r), .int 1, .int 8]) (rest := [.ref (za g 21)]) S (c_X4_isIn) mv_X4_isIn m_754 dX4_firstOf_19 rfl rfl ⟨by decide, by decide⟩ rfl rfl (Nat.le_of_ble_eq_true rfl) ⟨by decide, by decide⟩ (n := 22) rfl (fun _ _ h => h.elim) (fun v9 ν9 h9 => ?_)
  rw [h9.1, h9.2]
  show zK x g ({ frames := 5, cells := 0, slots := 0, locals := 120 } : Room) 3 0 0 22 [some (.ref (za g 21)), some (.int (nI i)), some (.int (nI r))] [.int (zii (nI r) 1 8), .ref (za g 21)] μ
  refine k_if_eq S dX4_firstOf_22 (tgt := 29) (by decide) (n := 25) rfl (fun h9 => absurd h9 (by rw [show zii (nI r) 1 8 = 1 from zii_r (a := r) (lo := 1) (hi := 8) h1 h8 (by decide)]; decide)) (fun _ => ?_)
  refine k_iconst S dX4_firstOf_25 (v := 0) (by decide) (n := 26) rfl ?_
  refine k_goto S dX4_firstOf_26 (tgt := 30) (by decide) ?_
  refine k_put (T := TX4) (j := 23) S dX4_firstOf_30 (by rw [hn]; decide) (by decide) (ci := 4) rfl rfl (by decide) in_4 m_695 rfl rfl (ty0 := tyX4) tyX4_ok nmX4 rfl rfl rfl (n := 33) rfl ?_
  refine k_aload0 S dX4_firstOf_33 (n := 34) rfl ?_
  refine k_getv (v := 0) (T := TX4) (j := 23) S dX4_firstOf_34 (by rw [hn]; decide) (by decide) (ci := 4) rfl rfl (by decide) in_4 m_695 rfl rfl (by simp [zu, zset, upd]) (n := 37) rfl ?_
  refine k_if_le S dX4_firstOf_37 (tgt := 42) (by decide) (n := 40) rfl (fun _ => ?_) (fun h9 => absurd (by decide) h9)
  refine k_aload0 S dX4_firstOf_42 (n := 43) rfl ?_
  refine k_iload1 S dX4_firstOf_43 (n := 44) rfl ?_
  refine k_callV (As := [.int (nI i)]) (rest := []) (p := 21) S (c_X4_broken_pt hn (Q.thr 0) hi ((zu_ne _ (by omega)).trans hr)) mv_X4_broken m_852 dX4_firstOf_44 rfl rfl ⟨by decide, by decide⟩ (by rw [hn]; decide) (by decide) (ci := 4) rfl rfl rfl (Nat.le_of_ble_eq_true rfl) ⟨by decide, by decide⟩ (n := 47) rfl (fun _ _ h => h.elim) (fun v9 ν1 h9 => ?_)
  obtain ⟨e1, hB⟩ := h9
  rw [e1]
  show zK x g ({ frames := 5, cells := 0, slots := 0, locals := 120 } : Room) 3 0 0 47 [some (.ref (za g 21)), some (.int (nI i)), some (.int (nI r))] [.int (zBK (zu μ 21 23 0) ph i d s)] ν1
  refine k_iload2 S dX4_firstOf_47 (n := 48) rfl ?_
  refine k_ishr S dX4_firstOf_48 (n := 49) rfl ?_
  refine k_iconst S dX4_firstOf_49 (v := 1) (by decide) (n := 50) rfl ?_
  refine k_iand S dX4_firstOf_50 (n := 51) rfl ?_
  refine k_iconst S dX4_firstOf_51 (v := 1) (by decide) (n := 52) rfl ?_
  refine k_icmp_ne S dX4_firstOf_52 (tgt := 72) (by decide) (n := 55) rfl (fun h9 => absurd ((zBK_bit h1 h8).mpr hb) h9) (fun _ => ?_)
  refine k_aload0 S dX4_firstOf_55 (n := 56) rfl ?_
  refine k_getr (r := 29) (T := TX4) (j := 21) S dX4_firstOf_56 (by rw [hn]; decide) (by decide) (ci := 4) rfl rfl (by decide) in_4 m_693 rfl rfl (n := 59) rfl ?_
  refine k_aload0 S dX4_firstOf_59 (n := 60) rfl ?_
  refine k_getv (v := nI (zpc ph (μ.1 24) (ph i) (i + 1))) (T := TX4) (j := 20) S dX4_firstOf_60 (by rw [hn]; decide) (by decide) (ci := 4) rfl rfl (by decide) in_4 m_692 rfl rfl hB.thr.2.2.2.2.2.1 (n := 63) rfl ?_
  refine k_iload2 S dX4_firstOf_63 (n := 64) rfl ?_
  refine k_callS (As := [.int (nI r)]) (rest := [.int (nI (zpc ph (μ.1 24) (ph i) (i + 1))), .ref (za g 29)]) S (c_X4_named) mv_X4_named m_860 dX4_firstOf_64 rfl rfl ⟨by decide, by decide⟩ rfl rfl (Nat.le_of_ble_eq_true rfl) ⟨by decide, by decide⟩ (n := 67) rfl (fun _ _ h => h.elim) (fun v9 ν9 h9 => ?_)
  rw [h9.1, h9.2]
  show zK x g ({ frames := 5, cells := 0, slots := 0, locals := 120 } : Room) 3 0 0 67 [some (.ref (za g 21)), some (.int (nI i)), some (.int (nI r))] [.int (v_X4_named (nI r)), .int (nI (zpc ph (μ.1 24) (ph i) (i + 1))), .ref (za g 29)] ν1
  have hle := zbr_le hb
  refine k_isub S dX4_firstOf_67 (n := 68) rfl ?_
  refine k_ialdv (v := nI (zpx ph (μ.1 24) (ph i) (i + 1) (zpc ph (μ.1 24) (ph i) (i + 1) - zNm r))) S dX4_firstOf_68 (j := (zpc ph (μ.1 24) (ph i) (i + 1) - zNm r)) (by rw [hn]; decide) (by decide) (by rw [znm_v h1 h8]; exact pk_sub hle) (show zpc ph (μ.1 24) (ph i) (i + 1) - zNm r < 60 by have := zpc_le ph (μ.1 24) (ph i) (i + 1); have := (znm_le r).2; omega) (by decide) (hB.thr.2.2.2.2.2.2 _ (by have := (znm_le r).2; omega)).1 (n := 69) rfl ?_
  refine k_goto S dX4_firstOf_69 (tgt := 73) (by decide) ?_
  exact k_iret S Y dX4_firstOf_73 (by decide) (by decide) rfl (⟨rfl, hB.1⟩)
set_option maxRecDepth 100000 in
set_option maxHeartbeats 4000000 in
theorem c_X4_firstOf_n {l : Launch} {g : zG} {μ : zM} {i r : Nat} {d c s : Nat} {ph fs : Nat → Nat}  (hn : zn g = 32) (Q : zQ μ d c s ph fs) (hi : i < d) (h1 : 1 ≤ r) (h8 : r ≤ 8) (hr : μ.1 24 i = 0) (hb : ¬ zbr (zpc ph (μ.1 24) (ph i) (i + 1)) (zys μ ph (ph i) (i + 1)) (zLC μ ph (ph i) d s) (zWd s 0 (zLR μ ph (ph i) d)) r = true) : zC l g yX4_firstOf cX4_firstOf 3 (some .int) ({ frames := 5, cells := 0, slots := 0, locals := 120 } : Room) 0 0 [.ref (za g 21), .int (nI i), .int (nI r)] μ (zRn μ (some (.int (-1))) 0) zNX := by
  refine zC_of (L0 := [some (.ref (za g 21)), some (.int (nI i)), some (.int (nI r))]) (plainFor_of_name (by decide)) (Nat.le_of_ble_eq_true rfl) rfl ?_
  intro x S Y hxl
  subst hxl
  have hd60 := Q.2.2.1
  refine k_aload0 S dX4_firstOf_0 (n := 1) rfl ?_
  refine k_iload1 S dX4_firstOf_1 (n := 2) rfl ?_
  refine k_iconst S dX4_firstOf_2 (v := 0) (by decide) (n := 3) rfl ?_
  refine k_aload0 S dX4_firstOf_3 (n := 4) rfl ?_
  refine k_getv (v := nI d) (T := TX4) (j := 1) S dX4_firstOf_4 (by rw [hn]; decide) (by decide) (ci := 4) rfl rfl (by decide) in_4 m_673 rfl rfl Q.2.1 (n := 7) rfl ?_
  refine k_iconst S dX4_firstOf_7 (v := 1) (by decide) (n := 8) rfl ?_
  refine k_isub S dX4_firstOf_8 (n := 9) rfl ?_
  refine k_callS (As := [.int (nI i), .int 0, .int ((nI d) - 1)]) (rest := [.ref (za g 21)]) S (c_X4_isIn) mv_X4_isIn m_754 dX4_firstOf_9 rfl rfl ⟨by decide, by decide⟩ rfl rfl (Nat.le_of_ble_eq_true rfl) ⟨by decide, by decide⟩ (n := 12) rfl (fun _ _ h => h.elim) (fun v9 ν9 h9 => ?_)
  rw [h9.1, h9.2]
  show zK x g ({ frames := 5, cells := 0, slots := 0, locals := 120 } : Room) 3 0 0 12 [some (.ref (za g 21)), some (.int (nI i)), some (.int (nI r))] [.int (zii (nI i) 0 ((nI d) - 1)), .ref (za g 21)] μ
  refine k_if_eq S dX4_firstOf_12 (tgt := 29) (by decide) (n := 15) rfl (fun h9 => absurd h9 (by rw [zii_1 hi (by have := Q.2.2.1; omega)]; decide)) (fun _ => ?_)
  refine k_iload2 S dX4_firstOf_15 (n := 16) rfl ?_
  refine k_iconst S dX4_firstOf_16 (v := 1) (by decide) (n := 17) rfl ?_
  refine k_bipush S dX4_firstOf_17 (v := 8) (by decide) (n := 19) rfl ?_
  refine k_callS (As := [.int (nI r), .int 1, .int 8]) (rest := [.ref (za g 21)]) S (c_X4_isIn) mv_X4_isIn m_754 dX4_firstOf_19 rfl rfl ⟨by decide, by decide⟩ rfl rfl (Nat.le_of_ble_eq_true rfl) ⟨by decide, by decide⟩ (n := 22) rfl (fun _ _ h => h.elim) (fun v9 ν9 h9 => ?_)
  rw [h9.1, h9.2]
  show zK x g ({ frames := 5, cells := 0, slots := 0, locals := 120 } : Room) 3 0 0 22 [some (.ref (za g 21)), some (.int (nI i)), some (.int (nI r))] [.int (zii (nI r) 1 8), .ref (za g 21)] μ
  refine k_if_eq S dX4_firstOf_22 (tgt := 29) (by decide) (n := 25) rfl (fun h9 => absurd h9 (by rw [show zii (nI r) 1 8 = 1 from zii_r (a := r) (lo := 1) (hi := 8) h1 h8 (by decide)]; decide)) (fun _ => ?_)
  refine k_iconst S dX4_firstOf_25 (v := 0) (by decide) (n := 26) rfl ?_
  refine k_goto S dX4_firstOf_26 (tgt := 30) (by decide) ?_
  refine k_put (T := TX4) (j := 23) S dX4_firstOf_30 (by rw [hn]; decide) (by decide) (ci := 4) rfl rfl (by decide) in_4 m_695 rfl rfl (ty0 := tyX4) tyX4_ok nmX4 rfl rfl rfl (n := 33) rfl ?_
  refine k_aload0 S dX4_firstOf_33 (n := 34) rfl ?_
  refine k_getv (v := 0) (T := TX4) (j := 23) S dX4_firstOf_34 (by rw [hn]; decide) (by decide) (ci := 4) rfl rfl (by decide) in_4 m_695 rfl rfl (by simp [zu, zset, upd]) (n := 37) rfl ?_
  refine k_if_le S dX4_firstOf_37 (tgt := 42) (by decide) (n := 40) rfl (fun _ => ?_) (fun h9 => absurd (by decide) h9)
  refine k_aload0 S dX4_firstOf_42 (n := 43) rfl ?_
  refine k_iload1 S dX4_firstOf_43 (n := 44) rfl ?_
  refine k_callV (As := [.int (nI i)]) (rest := []) (p := 21) S (c_X4_broken_pt hn (Q.thr 0) hi ((zu_ne _ (by omega)).trans hr)) mv_X4_broken m_852 dX4_firstOf_44 rfl rfl ⟨by decide, by decide⟩ (by rw [hn]; decide) (by decide) (ci := 4) rfl rfl rfl (Nat.le_of_ble_eq_true rfl) ⟨by decide, by decide⟩ (n := 47) rfl (fun _ _ h => h.elim) (fun v9 ν1 h9 => ?_)
  obtain ⟨e1, hB⟩ := h9
  rw [e1]
  show zK x g ({ frames := 5, cells := 0, slots := 0, locals := 120 } : Room) 3 0 0 47 [some (.ref (za g 21)), some (.int (nI i)), some (.int (nI r))] [.int (zBK (zu μ 21 23 0) ph i d s)] ν1
  refine k_iload2 S dX4_firstOf_47 (n := 48) rfl ?_
  refine k_ishr S dX4_firstOf_48 (n := 49) rfl ?_
  refine k_iconst S dX4_firstOf_49 (v := 1) (by decide) (n := 50) rfl ?_
  refine k_iand S dX4_firstOf_50 (n := 51) rfl ?_
  refine k_iconst S dX4_firstOf_51 (v := 1) (by decide) (n := 52) rfl ?_
  refine k_icmp_ne S dX4_firstOf_52 (tgt := 72) (by decide) (n := 55) rfl (fun _ => ?_) (fun h9 => absurd h9 (fun q => hb ((zBK_bit h1 h8).mp q)))
  refine k_iconst S dX4_firstOf_72 (v := (-1)) (by decide) (n := 73) rfl ?_
  exact k_iret S Y dX4_firstOf_73 (by decide) (by decide) rfl (⟨rfl, hB.1⟩)
set_option maxRecDepth 100000 in
set_option maxHeartbeats 4000000 in
theorem c_X4_firstOf_e {l : Launch} {g : zG} {μ : zM} {i r : Nat} {d c s : Nat} {ph fs : Nat → Nat}  (hn : zn g = 32) (Q : zQ μ d c s ph fs) (hi : i < d) (h1 : 1 ≤ r) (h8 : r ≤ 8) (hr : ¬ μ.1 24 i ≤ 0) : zC l g yX4_firstOf cX4_firstOf 3 (some .int) ({ frames := 5, cells := 0, slots := 0, locals := 120 } : Room) 0 0 [.ref (za g 21), .int (nI i), .int (nI r)] μ (zRn μ (some (.int (-1))) 0) zNX := by
  refine zC_of (L0 := [some (.ref (za g 21)), some (.int (nI i)), some (.int (nI r))]) (plainFor_of_name (by decide)) (Nat.le_of_ble_eq_true rfl) rfl ?_
  intro x S Y hxl
  subst hxl
  have hd60 := Q.2.2.1
  refine k_aload0 S dX4_firstOf_0 (n := 1) rfl ?_
  refine k_iload1 S dX4_firstOf_1 (n := 2) rfl ?_
  refine k_iconst S dX4_firstOf_2 (v := 0) (by decide) (n := 3) rfl ?_
  refine k_aload0 S dX4_firstOf_3 (n := 4) rfl ?_
  refine k_getv (v := nI d) (T := TX4) (j := 1) S dX4_firstOf_4 (by rw [hn]; decide) (by decide) (ci := 4) rfl rfl (by decide) in_4 m_673 rfl rfl Q.2.1 (n := 7) rfl ?_
  refine k_iconst S dX4_firstOf_7 (v := 1) (by decide) (n := 8) rfl ?_
  refine k_isub S dX4_firstOf_8 (n := 9) rfl ?_
  refine k_callS (As := [.int (nI i), .int 0, .int ((nI d) - 1)]) (rest := [.ref (za g 21)]) S (c_X4_isIn) mv_X4_isIn m_754 dX4_firstOf_9 rfl rfl ⟨by decide, by decide⟩ rfl rfl (Nat.le_of_ble_eq_true rfl) ⟨by decide, by decide⟩ (n := 12) rfl (fun _ _ h => h.elim) (fun v9 ν9 h9 => ?_)
  rw [h9.1, h9.2]
  show zK x g ({ frames := 5, cells := 0, slots := 0, locals := 120 } : Room) 3 0 0 12 [some (.ref (za g 21)), some (.int (nI i)), some (.int (nI r))] [.int (zii (nI i) 0 ((nI d) - 1)), .ref (za g 21)] μ
  refine k_if_eq S dX4_firstOf_12 (tgt := 29) (by decide) (n := 15) rfl (fun h9 => absurd h9 (by rw [zii_1 hi (by have := Q.2.2.1; omega)]; decide)) (fun _ => ?_)
  refine k_iload2 S dX4_firstOf_15 (n := 16) rfl ?_
  refine k_iconst S dX4_firstOf_16 (v := 1) (by decide) (n := 17) rfl ?_
  refine k_bipush S dX4_firstOf_17 (v := 8) (by decide) (n := 19) rfl ?_
  refine k_callS (As := [.int (nI r), .int 1, .int 8]) (rest := [.ref (za g 21)]) S (c_X4_isIn) mv_X4_isIn m_754 dX4_firstOf_19 rfl rfl ⟨by decide, by decide⟩ rfl rfl (Nat.le_of_ble_eq_true rfl) ⟨by decide, by decide⟩ (n := 22) rfl (fun _ _ h => h.elim) (fun v9 ν9 h9 => ?_)
  rw [h9.1, h9.2]
  show zK x g ({ frames := 5, cells := 0, slots := 0, locals := 120 } : Room) 3 0 0 22 [some (.ref (za g 21)), some (.int (nI i)), some (.int (nI r))] [.int (zii (nI r) 1 8), .ref (za g 21)] μ
  refine k_if_eq S dX4_firstOf_22 (tgt := 29) (by decide) (n := 25) rfl (fun h9 => absurd h9 (by rw [show zii (nI r) 1 8 = 1 from zii_r (a := r) (lo := 1) (hi := 8) h1 h8 (by decide)]; decide)) (fun _ => ?_)
  refine k_iconst S dX4_firstOf_25 (v := 0) (by decide) (n := 26) rfl ?_
  refine k_goto S dX4_firstOf_26 (tgt := 30) (by decide) ?_
  refine k_put (T := TX4) (j := 23) S dX4_firstOf_30 (by rw [hn]; decide) (by decide) (ci := 4) rfl rfl (by decide) in_4 m_695 rfl rfl (ty0 := tyX4) tyX4_ok nmX4 rfl rfl rfl (n := 33) rfl ?_
  refine k_aload0 S dX4_firstOf_33 (n := 34) rfl ?_
  refine k_getv (v := 0) (T := TX4) (j := 23) S dX4_firstOf_34 (by rw [hn]; decide) (by decide) (ci := 4) rfl rfl (by decide) in_4 m_695 rfl rfl (by simp [zu, zset, upd]) (n := 37) rfl ?_
  refine k_if_le S dX4_firstOf_37 (tgt := 42) (by decide) (n := 40) rfl (fun _ => ?_) (fun h9 => absurd (by decide) h9)
  refine k_aload0 S dX4_firstOf_42 (n := 43) rfl ?_
  refine k_iload1 S dX4_firstOf_43 (n := 44) rfl ?_
  refine k_callV (As := [.int (nI i)]) (rest := []) (p := 21) S (c_X4_broken_ex hn (Q.thr 0) hi (fun q => hr (by rw [zu_ne _ (by omega)] at q; exact q))) mv_X4_broken m_852 dX4_firstOf_44 rfl rfl ⟨by decide, by decide⟩ (by rw [hn]; decide) (by decide) (ci := 4) rfl rfl rfl (Nat.le_of_ble_eq_true rfl) ⟨by decide, by decide⟩ (n := 47) rfl (fun _ _ h => h.elim) (fun v9 ν1 h9 => ?_)
  obtain ⟨e1, hB⟩ := h9
  rw [e1]
  show zK x g ({ frames := 5, cells := 0, slots := 0, locals := 120 } : Room) 3 0 0 47 [some (.ref (za g 21)), some (.int (nI i)), some (.int (nI r))] [.int 0] ν1
  refine k_iload2 S dX4_firstOf_47 (n := 48) rfl ?_
  refine k_ishr S dX4_firstOf_48 (n := 49) rfl ?_
  refine k_iconst S dX4_firstOf_49 (v := 1) (by decide) (n := 50) rfl ?_
  refine k_iand S dX4_firstOf_50 (n := 51) rfl ?_
  refine k_iconst S dX4_firstOf_51 (v := 1) (by decide) (n := 52) rfl ?_
  refine k_icmp_ne S dX4_firstOf_52 (tgt := 72) (by decide) (n := 55) rfl (fun _ => ?_) (fun h9 => absurd h9 (by rw [zsh0 r]; decide))
  refine k_iconst S dX4_firstOf_72 (v := (-1)) (by decide) (n := 73) rfl ?_
  exact k_iret S Y dX4_firstOf_73 (by decide) (by decide) rfl (⟨rfl, by rw [hB]; exact zNear.refl _⟩)
set_option maxRecDepth 100000 in
set_option maxHeartbeats 4000000 in
theorem c_X4_isWide_no {l : Launch} {g : zG} {μ : zM} {v : Int32} {d c s : Nat} {ph fs : Nat → Nat}  (hn : zn g = 32) (Q : zQ μ d c s ph fs) (hi : ¬ zIn v d) : zC l g yX4_isWide cX4_isWide 2 (some .boolean) ({ frames := 4, cells := 0, slots := 0, locals := 97 } : Room) 0 0 [.ref (za g 21), .int v] μ (zRn μ (some (.int (0))) 1) zNX := by
  refine zC_of (L0 := [some (.ref (za g 21)), some (.int v)]) (plainFor_of_name (by decide)) (Nat.le_of_ble_eq_true rfl) rfl ?_
  intro x S Y hxl
  subst hxl
  refine k_aload0 S dX4_isWide_0 (n := 1) rfl ?_
  refine k_iload1 S dX4_isWide_1 (n := 2) rfl ?_
  refine k_callV (As := [.int v]) (rest := []) (p := 21) S (c_X4_isDone_no hn Q.2.1 Q.2.2.1 hi) mv_X4_isDone m_804 dX4_isWide_2 rfl rfl ⟨by decide, by decide⟩ (by rw [hn]; decide) (by decide) (ci := 4) rfl rfl rfl (Nat.le_of_ble_eq_true rfl) ⟨by decide, by decide⟩ (n := 5) rfl (fun _ _ h => h.elim) (fun v9 ν9 h9 => ?_)
  rw [h9.1, h9.2]
  show zK x g ({ frames := 4, cells := 0, slots := 0, locals := 97 } : Room) 2 0 0 5 [some (.ref (za g 21)), some (.int v)] [.int 0] (zu μ 21 23 1)
  refine k_if_eq S dX4_isWide_5 (tgt := 17) (by decide) (n := 8) rfl (fun _ => ?_) (fun h9 => absurd (by decide) h9)
  refine k_iconst S dX4_isWide_17 (v := 0) (by decide) (n := 18) rfl ?_
  exact k_iret S Y dX4_isWide_18 (by decide) (by decide) rfl ((zrn0 _ _ _))
set_option maxRecDepth 100000 in
set_option maxHeartbeats 4000000 in
theorem c_X4_isWide_ex {l : Launch} {g : zG} {μ : zM} {i : Nat} {d c s : Nat} {ph fs : Nat → Nat}  (hn : zn g = 32) (Q : zQ μ d c s ph fs) (hi : i < d) (hr : ¬ μ.1 24 i ≤ 0) : zC l g yX4_isWide cX4_isWide 2 (some .boolean) ({ frames := 4, cells := 0, slots := 0, locals := 97 } : Room) 0 0 [.ref (za g 21), .int (nI i)] μ (zRn μ (some (.int (0))) 0) zNX := by
  refine zC_of (L0 := [some (.ref (za g 21)), some (.int (nI i))]) (plainFor_of_name (by decide)) (Nat.le_of_ble_eq_true rfl) rfl ?_
  intro x S Y hxl
  subst hxl
  have hd60 := Q.2.2.1
  refine k_aload0 S dX4_isWide_0 (n := 1) rfl ?_
  refine k_iload1 S dX4_isWide_1 (n := 2) rfl ?_
  refine k_callV (As := [.int (nI i)]) (rest := []) (p := 21) S (c_X4_isDone_ok hn Q.2.1 Q.2.2.1 hi) mv_X4_isDone m_804 dX4_isWide_2 rfl rfl ⟨by decide, by decide⟩ (by rw [hn]; decide) (by decide) (ci := 4) rfl rfl rfl (Nat.le_of_ble_eq_true rfl) ⟨by decide, by decide⟩ (n := 5) rfl (fun _ _ h => h.elim) (fun v9 ν9 h9 => ?_)
  rw [h9.1, h9.2]
  show zK x g ({ frames := 4, cells := 0, slots := 0, locals := 97 } : Room) 2 0 0 5 [some (.ref (za g 21)), some (.int (nI i))] [.int 1] (zu μ 21 23 0)
  refine k_if_eq S dX4_isWide_5 (tgt := 17) (by decide) (n := 8) rfl (fun h9 => absurd h9 (by decide)) (fun _ => ?_)
  refine k_aload0 S dX4_isWide_8 (n := 9) rfl ?_
  refine k_getr (r := 24) (T := TX4) (j := 8) S dX4_isWide_9 (by rw [hn]; decide) (by decide) (ci := 4) rfl rfl (by decide) in_4 m_680 rfl rfl (n := 12) rfl ?_
  refine k_iload1 S dX4_isWide_12 (n := 13) rfl ?_
  refine k_ialdv (v := μ.1 24 i) S dX4_isWide_13 (j := i) (by rw [hn]; decide) (by decide) rfl (show i < 60 by omega) (by decide) (by simp [zu, zset, upd]) (n := 14) rfl ?_
  refine k_if_le S dX4_isWide_14 (tgt := 19) (by decide) (n := 17) rfl (fun h9 => absurd h9 (hr)) (fun _ => ?_)
  refine k_iconst S dX4_isWide_17 (v := 0) (by decide) (n := 18) rfl ?_
  exact k_iret S Y dX4_isWide_18 (by decide) (by decide) rfl ((zrn0 _ _ _))
set_option maxRecDepth 100000 in
set_option maxHeartbeats 4000000 in
theorem c_X4_isWide_ok {l : Launch} {g : zG} {μ : zM} {i : Nat} {d c s : Nat} {ph fs : Nat → Nat}  (hn : zn g = 32) (Q : zQ μ d c s ph fs) (hi : i < d) (hr : μ.1 24 i = 0) : zC l g yX4_isWide cX4_isWide 2 (some .boolean) ({ frames := 4, cells := 0, slots := 0, locals := 97 } : Room) 0 0 [.ref (za g 21), .int (nI i)] μ (zRn μ (some (.int (if 1000 * μ.1 23 i ≤ zWd s 1 (zLR μ ph (ph i) d) then (0 : Int32) else (1 : Int32)))) 0) zNX := by
  refine zC_of (L0 := [some (.ref (za g 21)), some (.int (nI i))]) (plainFor_of_name (by decide)) (Nat.le_of_ble_eq_true rfl) rfl ?_
  intro x S Y hxl
  subst hxl
  have hd60 := Q.2.2.1
  refine k_aload0 S dX4_isWide_0 (n := 1) rfl ?_
  refine k_iload1 S dX4_isWide_1 (n := 2) rfl ?_
  refine k_callV (As := [.int (nI i)]) (rest := []) (p := 21) S (c_X4_isDone_ok hn Q.2.1 Q.2.2.1 hi) mv_X4_isDone m_804 dX4_isWide_2 rfl rfl ⟨by decide, by decide⟩ (by rw [hn]; decide) (by decide) (ci := 4) rfl rfl rfl (Nat.le_of_ble_eq_true rfl) ⟨by decide, by decide⟩ (n := 5) rfl (fun _ _ h => h.elim) (fun v9 ν9 h9 => ?_)
  rw [h9.1, h9.2]
  show zK x g ({ frames := 4, cells := 0, slots := 0, locals := 97 } : Room) 2 0 0 5 [some (.ref (za g 21)), some (.int (nI i))] [.int 1] (zu μ 21 23 0)
  refine k_if_eq S dX4_isWide_5 (tgt := 17) (by decide) (n := 8) rfl (fun h9 => absurd h9 (by decide)) (fun _ => ?_)
  refine k_aload0 S dX4_isWide_8 (n := 9) rfl ?_
  refine k_getr (r := 24) (T := TX4) (j := 8) S dX4_isWide_9 (by rw [hn]; decide) (by decide) (ci := 4) rfl rfl (by decide) in_4 m_680 rfl rfl (n := 12) rfl ?_
  refine k_iload1 S dX4_isWide_12 (n := 13) rfl ?_
  refine k_ialdv (v := μ.1 24 i) S dX4_isWide_13 (j := i) (by rw [hn]; decide) (by decide) rfl (show i < 60 by omega) (by decide) (by simp [zu, zset, upd]) (n := 14) rfl ?_
  refine k_if_le S dX4_isWide_14 (tgt := 19) (by decide) (n := 17) rfl (fun _ => ?_) (fun h9 => absurd (by rw [hr]; decide) h9)
  refine k_aload0 S dX4_isWide_19 (n := 20) rfl ?_
  refine k_aload0 S dX4_isWide_20 (n := 21) rfl ?_
  refine k_iload1 S dX4_isWide_21 (n := 22) rfl ?_
  refine k_callV (As := [.int (nI i)]) (rest := [.ref (za g 21)]) (p := 21) S (c_X4_phase (i := i) hn (Q.thr 0).1 hi hd60) mv_X4_phase m_781 dX4_isWide_22 rfl rfl ⟨by decide, by decide⟩ (by rw [hn]; decide) (by decide) (ci := 4) rfl rfl rfl (Nat.le_of_ble_eq_true rfl) ⟨by decide, by decide⟩ (n := 25) rfl (fun _ _ h => h.elim) (fun v9 ν9 h9 => ?_)
  rw [h9.1, h9.2]
  show zK x g ({ frames := 4, cells := 0, slots := 0, locals := 97 } : Room) 2 0 0 25 [some (.ref (za g 21)), some (.int (nI i))] [.int (nI (ph i)), .ref (za g 21)] (zu μ 21 23 0)
  refine k_callV (As := [.int (nI (ph i))]) (rest := []) (p := 21) S (c_X4_laysLimitsR (t := ph i) hn (Q.thr 0) (Q.pc hi)) mv_X4_laysLimits m_773 dX4_isWide_25 rfl rfl ⟨by decide, by decide⟩ (by rw [hn]; decide) (by decide) (ci := 4) rfl rfl rfl (Nat.le_of_ble_eq_true rfl) ⟨by decide, by decide⟩ (n := 28) rfl (fun _ _ h => h.elim) (fun v9 ν1 h9 => ?_)
  obtain ⟨e1, hL⟩ := h9
  rw [e1]
  show zK x g ({ frames := 4, cells := 0, slots := 0, locals := 97 } : Room) 2 0 0 28 [some (.ref (za g 21)), some (.int (nI i))] [] ν1
  have hl : zHas μ ph (ph i) d := Or.inr (zpc_pos ph (μ.1 24) hi hr)
  have hL1 := hL.thr
  have hL2 := hL1.2.2.1 hl
  have h23 : ν1.1 23 i = μ.1 23 i := (hL1.1.2 23 i rfl).trans (zu_ne _ (by omega))
  refine k_sipush S dX4_isWide_28 (v := 1000) (by decide) (n := 31) rfl ?_
  refine k_aload0 S dX4_isWide_31 (n := 32) rfl ?_
  refine k_getr (r := 23) (T := TX4) (j := 7) S dX4_isWide_32 (by rw [hn]; decide) (by decide) (ci := 4) rfl rfl (by decide) in_4 m_679 rfl rfl (n := 35) rfl ?_
  refine k_iload1 S dX4_isWide_35 (n := 36) rfl ?_
  refine k_ialdv (v := μ.1 23 i) S dX4_isWide_36 (j := i) (by rw [hn]; decide) (by decide) rfl (show i < 60 by omega) (by decide) h23 (n := 37) rfl ?_
  refine k_imul S dX4_isWide_37 (n := 38) rfl ?_
  refine k_aload0 S dX4_isWide_38 (n := 39) rfl ?_
  refine k_getv (v := zWd s 1 (zLR μ ph (ph i) d)) (T := TX4) (j := 19) S dX4_isWide_39 (by rw [hn]; decide) (by decide) (ci := 4) rfl rfl (by decide) in_4 m_691 rfl rfl hL2.2.2.2.2 (n := 42) rfl ?_
  have hJ2 : zK x g ({ frames := 4, cells := 0, slots := 0, locals := 97 } : Room) 2 0 0 50 [some (.ref (za g 21)), some (.int (nI i))] [.int ((if (1000 * (μ.1 23 i)) ≤ (zWd s 1 (zLR μ ph (ph i) d)) then (0 : Int32) else (1 : Int32)))] ν1 := by
    exact k_iret S Y dX4_isWide_50 (by decide) (by decide) (by (repeat' split) <;> rfl) (⟨rfl, hL1.1⟩)
  refine k_icmp_le S dX4_isWide_42 (tgt := 49) (by decide) (n := 45) rfl (fun c1 => ?_) (fun c1 => ?_)
  ·
    refine k_iconst S dX4_isWide_49 (v := 0) (by decide) (n := 50) rfl ?_
    rw [if_pos c1] at hJ2
    exact hJ2
  ·
    refine k_iconst S dX4_isWide_45 (v := 1) (by decide) (n := 46) rfl ?_
    refine k_goto S dX4_isWide_46 (tgt := 50) (by decide) ?_
    rw [if_neg c1] at hJ2
    exact hJ2
def zaM (μ : zM) (ph : Nat → Nat) (d s : Nat) : Nat → Int32
  | 0 => 0
  | n + 1 => zaM μ ph d s n + (if zbk μ ph n d s ≤ 0 then (0 : Int32) else (1 : Int32))
set_option maxRecDepth 100000 in
set_option maxHeartbeats 4000000 in
theorem l_X4_alarms {x : zX} {g : zG} {μ : zM} {d c s : Nat} {ph fs : Nat → Nat} (S : zS x g 3 cX4_alarms RX4) (Y : zR x g (some .int) 0 0 [] (zRn μ (some (.int (zaM μ ph d s d))) 0) zNX) (hn : zn g = 32) (Q : zQ μ d c s ph fs) (hr : zRs μ d) : ∀ (k n : Nat) (ν : zM), n + k = d → zNear (zu μ 21 23 0) ν → zK x g ({ frames := 5, cells := 0, slots := 0, locals := 120 } : Room) 3 0 0 9 [some (.ref (za g 21)), some (.int (zaM μ ph d s n)), some (.int (nI n))] [] ν := by
  intro k
  induction k with
  | zero =>
    intro n ν h1 hN
    obtain rfl : d = n := by omega
    refine k_iload2 S dX4_alarms_9 (n := 10) rfl ?_
    refine k_aload0 S dX4_alarms_10 (n := 11) rfl ?_
    refine k_getv (v := nI d) (T := TX4) (j := 1) S dX4_alarms_11 (by rw [hn]; decide) (by decide) (ci := 4) rfl rfl (by decide) in_4 m_673 rfl rfl ((hN.2 21 1 rfl).trans ((zu_ne _ (by decide)).trans Q.2.1)) (n := 14) rfl ?_
    refine k_icmp_ge S dX4_alarms_14 (tgt := 39) (by decide) (n := 17) rfl (fun _ => ?_) (fun h9 => absurd (Int32.le_refl _) h9)
    refine k_iload1 S dX4_alarms_39 (n := 40) rfl ?_
    exact k_iret S Y dX4_alarms_40 (by decide) (by decide) rfl (⟨rfl, hN⟩)
  | succ k ih =>
    intro n ν h1 hN
    have hd60 := Q.2.2.1
    refine k_iload2 S dX4_alarms_9 (n := 10) rfl ?_
    refine k_aload0 S dX4_alarms_10 (n := 11) rfl ?_
    refine k_getv (v := nI d) (T := TX4) (j := 1) S dX4_alarms_11 (by rw [hn]; decide) (by decide) (ci := 4) rfl rfl (by decide) in_4 m_673 rfl rfl ((hN.2 21 1 rfl).trans ((zu_ne _ (by decide)).trans Q.2.1)) (n := 14) rfl ?_
    refine k_icmp_ge S dX4_alarms_14 (tgt := 39) (by decide) (n := 17) rfl (fun h9 => absurd h9 (nI_ge (by omega) (by omega))) (fun _ => ?_)
    refine k_iload1 S dX4_alarms_17 (n := 18) rfl ?_
    refine k_aload0 S dX4_alarms_18 (n := 19) rfl ?_
    refine k_iload2 S dX4_alarms_19 (n := 20) rfl ?_
    refine k_callV (As := [.int (nI n)]) (rest := [.int (zaM μ ph d s n)]) (p := 21) S (c_X4_broken (i := n) hn ((Q.thr 0).near hN) (by omega) ((hr.thr 0).near hN)) mv_X4_broken m_852 dX4_alarms_20 rfl rfl ⟨by decide, by decide⟩ (by rw [hn]; decide) (by decide) (ci := 4) rfl rfl rfl (Nat.le_of_ble_eq_true rfl) ⟨by decide, by decide⟩ (n := 23) rfl (fun _ _ h => h.elim) (fun v9 ν1 h9 => ?_)
    obtain ⟨e1, hB⟩ := h9
    rw [e1]
    show zK x g ({ frames := 5, cells := 0, slots := 0, locals := 120 } : Room) 3 0 0 23 [some (.ref (za g 21)), some (.int (zaM μ ph d s n)), some (.int (nI n))] [.int (zbk ν ph n d s), .int (zaM μ ph d s n)] ν1
    rw [zbk_near hN, zbk_thr]
    have hJ2 : zK x g ({ frames := 5, cells := 0, slots := 0, locals := 120 } : Room) 3 0 0 31 [some (.ref (za g 21)), some (.int (zaM μ ph d s n)), some (.int (nI n))] [.int ((if (zbk μ ph n d s) ≤ 0 then (0 : Int32) else (1 : Int32))), .int (zaM μ ph d s n)] ν1 := by
      refine k_iadd S dX4_alarms_31 (n := 32) rfl ?_
      refine k_istore1 S dX4_alarms_32 (by decide) rfl (n := 33) rfl ?_
      refine k_iinc2 S dX4_alarms_33 (v := nI (n + 1)) (zi1 n) (by decide) (n := 36) rfl ?_
      refine k_goto S dX4_alarms_36 (tgt := 9) (by decide) ?_
      exact ih (n + 1) ν1 (by omega) (hN.trans hB)
    refine k_if_le S dX4_alarms_23 (tgt := 30) (by decide) (n := 26) rfl (fun c1 => ?_) (fun c1 => ?_)
    ·
      refine k_iconst S dX4_alarms_30 (v := 0) (by decide) (n := 31) rfl ?_
      rw [if_pos c1] at hJ2
      exact hJ2
    ·
      refine k_iconst S dX4_alarms_26 (v := 1) (by decide) (n := 27) rfl ?_
      refine k_goto S dX4_alarms_27 (tgt := 31) (by decide) ?_
      rw [if_neg c1] at hJ2
      exact hJ2
set_option maxRecDepth 100000 in
set_option maxHeartbeats 4000000 in
theorem c_X4_alarms {l : Launch} {g : zG} {μ : zM} {d c s : Nat} {ph fs : Nat → Nat}  (hn : zn g = 32) (Q : zQ μ d c s ph fs) (hr : zRs μ d) : zC l g yX4_alarms cX4_alarms 3 (some .int) ({ frames := 5, cells := 0, slots := 0, locals := 120 } : Room) 0 0 [.ref (za g 21)] μ (zRn μ (some (.int (zaM μ ph d s d))) 0) zNX := by
  refine zC_of (L0 := [some (.ref (za g 21)), none, none]) (plainFor_of_name (by decide)) (Nat.le_of_ble_eq_true rfl) rfl ?_
  intro x S Y hxl
  subst hxl
  refine k_aload0 S dX4_alarms_0 (n := 1) rfl ?_
  refine k_iconst S dX4_alarms_1 (v := 0) (by decide) (n := 2) rfl ?_
  refine k_put (T := TX4) (j := 23) S dX4_alarms_2 (by rw [hn]; decide) (by decide) (ci := 4) rfl rfl (by decide) in_4 m_695 rfl rfl (ty0 := tyX4) tyX4_ok nmX4 rfl rfl rfl (n := 5) rfl ?_
  refine k_iconst S dX4_alarms_5 (v := 0) (by decide) (n := 6) rfl ?_
  refine k_istore1 S dX4_alarms_6 (by decide) rfl (n := 7) rfl ?_
  refine k_iconst S dX4_alarms_7 (v := 0) (by decide) (n := 8) rfl ?_
  refine k_istore2 S dX4_alarms_8 (by decide) rfl (n := 9) rfl ?_
  exact l_X4_alarms S Y hn Q hr d 0 _ (by omega) (zNear.refl _)
