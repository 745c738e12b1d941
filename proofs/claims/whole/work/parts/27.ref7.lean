def zSet (m : Nat) (y : Nat → Int32) (C W : Int32) : Nat → Int32
  | 0 => 0
  | r + 1 => zSet m y C W r ||| (if zBr m y C W (r + 1) 1 = 0 then (if zBr m y C W (r + 1) (-1) = 0 then (0 : Int32) else (1 : Int32) <<< (nI (r + 1) &&& 31)) else (1 : Int32) <<< (nI (r + 1) &&& 31))
/-- the mean of the point so many back, of those of phase t among the first n subgroups -/
def zys (μ : zM) (ph : Nat → Nat) (t n : Nat) : Nat → Int32 := fun j => zmn μ (zpx ph (μ.1 24) t n (zpc ph (μ.1 24) t n - 1 - j))
def zLaid (μ ν : zM) (ph : Nat → Nat) (t d s n : Nat) : Prop := zNear μ ν ∧ ν.1 21 16 = zLC μ ph t d s ∧ ν.1 21 17 = zLR μ ph t d ∧ ν.1 21 18 = zWd s 0 (zLR μ ph t d) ∧ ν.1 21 19 = zWd s 1 (zLR μ ph t d) ∧
  ν.1 21 20 = nI (zpc ph (μ.1 24) t n) ∧ ∀ j, j < zpc ph (μ.1 24) t n → ν.1 29 j = nI (zpx ph (μ.1 24) t n j) ∧ ν.1 30 j = zmn μ (zpx ph (μ.1 24) t n j)
theorem zmn_near {μ ν : zM} (h : zNear μ ν) (i : Nat) : zmn ν i = zmn μ i := by
  unfold zmn
  rw [h.2 22 i rfl, h.2 21 0 rfl]
theorem zmn_thr (μ : zM) (w : Int32) (i : Nat) : zmn (zu μ 21 23 w) i = zmn μ i := by
  unfold zmn
  rw [zu_ne w (by omega), zu_ne w (by omega)]
theorem zLaid_of {μ ν κ : zM} {ph : Nat → Nat} {t d s n : Nat} (h : zLim μ ν ph t d s) (hz : zHas μ ph t d) (p : zPts ν κ ph t n) : zLaid μ κ ph t d s n := by
  obtain ⟨h1, _, h3, _⟩ := h
  obtain ⟨a, b, c', e, f⟩ := h3 hz
  obtain ⟨p1, p2, p3, p4⟩ := p
  rw [h1.pl (a := 24) fun _ => rfl] at p2 p4
  exact ⟨h1.trans p1, (p3 16 (by decide)).trans b, (p3 17 (by decide)).trans c', (p3 18 (by decide)).trans e, (p3 19 (by decide)).trans f, p2, fun j hj => ⟨(p4 j hj).1, (p4 j hj).2.trans (zmn_near h1 _)⟩⟩
theorem zLaid.pt {μ ν : zM} {ph : Nat → Nat} {t d s n : Nat} (h : zLaid μ ν ph t d s n) (hn : n ≤ 60) : zPy ν (zpc ph (μ.1 24) t n) (zys μ ph t n) (zLC μ ph t d s) (zWd s 0 (zLR μ ph t d)) :=
  ⟨h.2.2.2.2.2.1, Nat.le_trans (zpc_le ph (μ.1 24) t n) hn, fun j hj => (h.2.2.2.2.2.2 _ (by omega)).2, h.2.1, h.2.2.2.1⟩
theorem zpc_mono (ph : Nat → Nat) (rs : Nat → Int32) (t : Nat) {a b : Nat} (h : a ≤ b) : zpc ph rs t a ≤ zpc ph rs t b := by
  induction h with
  | refl => exact Nat.le_refl _
  | step _ ih =>
    rw [zpc_s]
    split
    · split <;> omega
    · omega
theorem zpc_pos (ph : Nat → Nat) (rs : Nat → Int32) {i d : Nat} (hi : i < d) (hr : rs i = 0) : 0 < zpc ph rs (ph i) d := by
  have h := zpc_mono ph rs (ph i) (show i + 1 ≤ d by omega)
  rw [zpc_s, if_pos rfl, if_pos hr] at h
  omega
/-- the rules that subgroup i breaks -/
def zBK (μ : zM) (ph : Nat → Nat) (i d s : Nat) : Int32 := zSet (zpc ph (μ.1 24) (ph i) (i + 1)) (zys μ ph (ph i) (i + 1)) (zLC μ ph (ph i) d s) (zWd s 0 (zLR μ ph (ph i) d)) 8
def zbk (μ : zM) (ph : Nat → Nat) (i d s : Nat) : Int32 := if μ.1 24 i = 0 then zBK μ ph i d s else 0
theorem zBK_near {μ ν : zM} (h : zNear μ ν) (ph : Nat → Nat) (i d s : Nat) : zBK ν ph i d s = zBK μ ph i d s := by
  have e1 : zys ν ph (ph i) (i + 1) = zys μ ph (ph i) (i + 1) := by
    funext j
    unfold zys
    rw [h.pl (a := 24) fun _ => rfl, zmn_near h]
  unfold zBK
  rw [h.pl (a := 24) fun _ => rfl, e1, (zL_near h ph (ph i) d s).1, (zL_near h ph (ph i) d s).2.1]
theorem zBK_thr (μ : zM) (w : Int32) (ph : Nat → Nat) (i d s : Nat) : zBK (zu μ 21 23 w) ph i d s = zBK μ ph i d s := by
  have e1 : zys (zu μ 21 23 w) ph (ph i) (i + 1) = zys μ ph (ph i) (i + 1) := by
    funext j
    unfold zys
    rw [zu_off μ 21 23 w (show (24 : Nat) ≠ 21 by decide), zmn_thr]
  unfold zBK
  rw [zu_off μ 21 23 w (show (24 : Nat) ≠ 21 by decide), e1, (zL_thr μ w ph (ph i) d s).1, (zL_thr μ w ph (ph i) d s).2.1]
theorem zbk_near {μ ν : zM} (h : zNear μ ν) (ph : Nat → Nat) (i d s : Nat) : zbk ν ph i d s = zbk μ ph i d s := by
  unfold zbk
  rw [h.pl (a := 24) fun _ => rfl, zBK_near h]
theorem zbk_thr (μ : zM) (w : Int32) (ph : Nat → Nat) (i d s : Nat) : zbk (zu μ 21 23 w) ph i d s = zbk μ ph i d s := by
  unfold zbk
  rw [zu_off μ 21 23 w (show (24 : Nat) ≠ 21 by decide), zBK_thr]
/-- the reasons are 0 to 9 -/
def zRs (μ : zM) (d : Nat) : Prop := ∀ i, i < d → 0 ≤ μ.1 24 i
theorem zRs.near {μ ν : zM} {d : Nat} (h : zRs μ d) (n : zNear μ ν) : zRs ν d := fun i hi => by rw [n.2 24 i rfl]; exact h i hi
theorem zRs.thr {μ : zM} {d : Nat} (h : zRs μ d) (w : Int32) : zRs (zu μ 21 23 w) d := fun i hi => by rw [zu_ne w (by omega)]; exact h i hi
theorem zle0 {a : Int32} (h : 0 ≤ a) (h0 : ¬ a = 0) : ¬ a ≤ 0 := fun q => h0 (Int32.le_antisymm q h)
set_option maxRecDepth 100000 in
set_option maxHeartbeats 4000000 in
theorem l_X4_broken {x : zX} {g : zG} {μ : zM} {m : Nat} {y : Nat → Int32} {C W : Int32} {i : Nat} {RT : Option Value → zM → Prop} {XT : String → zM → Prop} (S : zS x g 4 cX4_broken RX4) (Y : zR x g (some .int) 0 0 [] RT XT) (hR : RT (some (.int (zSet m y C W 8))) μ) (hn : zn g = 32) (P : zPy μ m y C W)  : ∀ (k n : Nat), n + k = 8 → zK x g ({ frames := 4, cells := 0, slots := 0, locals := 97 } : Room) 4 0 0 34 [some (.ref (za g 21)), some (.int (nI i)), some (.int (zSet m y C W n)), some (.int (nI (n + 1)))] [] μ := by
  intro k
  induction k with
  | zero =>
    intro n h1
    obtain rfl : n = 8 := by omega
    refine k_iload3 S dX4_broken_34 (n := 35) rfl ?_
    refine k_bipush S dX4_broken_35 (v := 9) (by decide) (n := 37) rfl ?_
    refine k_icmp_ge S dX4_broken_37 (tgt := 74) (by decide) (n := 40) rfl (fun _ => ?_) (fun h9 => absurd ((by decide : (9 : Int32) ≤ nI (8 + 1))) h9)
    refine k_iload2 S dX4_broken_74 (n := 75) rfl ?_
    exact k_iret S Y dX4_broken_75 (by decide) (by decide) rfl (hR)
  | succ k ih =>
    intro n h1
    refine k_iload3 S dX4_broken_34 (n := 35) rfl ?_
    refine k_bipush S dX4_broken_35 (v := 9) (by decide) (n := 37) rfl ?_
    refine k_icmp_ge S dX4_broken_37 (tgt := 74) (by decide) (n := 40) rfl (fun h9 => absurd h9 (nI_ge (a := n + 1) (b := 9) (by omega) (by decide))) (fun _ => ?_)
    refine k_iload2 S dX4_broken_40 (n := 41) rfl ?_
    refine k_aload0 S dX4_broken_41 (n := 42) rfl ?_
    refine k_iload3 S dX4_broken_42 (n := 43) rfl ?_
    refine k_iconst S dX4_broken_43 (v := 1) (by decide) (n := 44) rfl ?_
    refine k_callV (As := [.int (nI (n + 1)), .int 1]) (rest := [.int (zSet m y C W n)]) (p := 21) S (c_X4_breaks (r := (n + 1)) (sd := 1) hn P (by omega) (by omega)) mv_X4_breaks m_856 dX4_broken_44 rfl rfl ⟨by decide, by decide⟩ (by rw [hn]; decide) (by decide) (ci := 4) rfl rfl rfl (Nat.le_of_ble_eq_true rfl) ⟨by decide, by decide⟩ (n := 47) rfl (fun _ _ h => h.elim) (fun v9 ν9 h9 => ?_)
    rw [h9.1, h9.2]
    show zK x g ({ frames := 4, cells := 0, slots := 0, locals := 97 } : Room) 4 0 0 47 [some (.ref (za g 21)), some (.int (nI i)), some (.int (zSet m y C W n)), some (.int (nI (n + 1)))] [.int (zBr m y C W (n + 1) 1), .int (zSet m y C W n)] μ
    have hJ2 : zK x g ({ frames := 4, cells := 0, slots := 0, locals := 97 } : Room) 4 0 0 66 [some (.ref (za g 21)), some (.int (nI i)), some (.int (zSet m y C W n)), some (.int (nI (n + 1)))] [.int ((if (zBr m y C W (n + 1) 1) = 0 then (if (zBr m y C W (n + 1) ((-1))) = 0 then (0 : Int32) else 1 <<< ((nI (n + 1)) &&& 31)) else 1 <<< ((nI (n + 1)) &&& 31))), .int (zSet m y C W n)] μ := by
      refine k_ior S dX4_broken_66 (n := 67) rfl ?_
      refine k_istore2 S dX4_broken_67 (by decide) rfl (n := 68) rfl ?_
      refine k_iinc3 S dX4_broken_68 (v := nI (n + 1 + 1)) (zi1 (n + 1)) (by decide) (n := 71) rfl ?_
      refine k_goto S dX4_broken_71 (tgt := 34) (by decide) ?_
      exact ih (n + 1) (by omega)
    refine k_if_ne S dX4_broken_47 (tgt := 59) (by decide) (n := 50) rfl (fun c1 => ?_) (fun c1 => ?_)
    ·
      refine k_iconst S dX4_broken_59 (v := 1) (by decide) (n := 60) rfl ?_
      refine k_iload3 S dX4_broken_60 (n := 61) rfl ?_
      refine k_ishl S dX4_broken_61 (n := 62) rfl ?_
      refine k_goto S dX4_broken_62 (tgt := 66) (by decide) ?_
      rw [if_neg c1] at hJ2
      exact hJ2
    ·
      refine k_aload0 S dX4_broken_50 (n := 51) rfl ?_
      refine k_iload3 S dX4_broken_51 (n := 52) rfl ?_
      refine k_iconst S dX4_broken_52 (v := (-1)) (by decide) (n := 53) rfl ?_
      refine k_callV (As := [.int (nI (n + 1)), .int ((-1))]) (rest := [.int (zSet m y C W n)]) (p := 21) S (c_X4_breaks (r := (n + 1)) (sd := ((-1))) hn P (by omega) (by omega)) mv_X4_breaks m_856 dX4_broken_53 rfl rfl ⟨by decide, by decide⟩ (by rw [hn]; decide) (by decide) (ci := 4) rfl rfl rfl (Nat.le_of_ble_eq_true rfl) ⟨by decide, by decide⟩ (n := 56) rfl (fun _ _ h => h.elim) (fun v9 ν9 h9 => ?_)
      rw [h9.1, h9.2]
      show zK x g ({ frames := 4, cells := 0, slots := 0, locals := 97 } : Room) 4 0 0 56 [some (.ref (za g 21)), some (.int (nI i)), some (.int (zSet m y C W n)), some (.int (nI (n + 1)))] [.int (zBr m y C W (n + 1) ((-1))), .int (zSet m y C W n)] μ
      refine k_if_eq S dX4_broken_56 (tgt := 65) (by decide) (n := 59) rfl (fun c3 => ?_) (fun c3 => ?_)
      ·
        refine k_iconst S dX4_broken_65 (v := 0) (by decide) (n := 66) rfl ?_
        rw [if_pos c1, if_pos c3] at hJ2
        exact hJ2
      ·
        refine k_iconst S dX4_broken_59 (v := 1) (by decide) (n := 60) rfl ?_
        refine k_iload3 S dX4_broken_60 (n := 61) rfl ?_
        refine k_ishl S dX4_broken_61 (n := 62) rfl ?_
        refine k_goto S dX4_broken_62 (tgt := 66) (by decide) ?_
        rw [if_pos c1, if_neg c3] at hJ2
        exact hJ2
set_option maxRecDepth 100000 in
set_option maxHeartbeats 4000000 in
theorem c_X4_broken_pt {l : Launch} {g : zG} {μ : zM} {i : Nat} {d c s : Nat} {ph fs : Nat → Nat}  (hn : zn g = 32) (Q : zQ μ d c s ph fs) (hi : i < d) (hr : μ.1 24 i = 0) : zC l g yX4_broken cX4_broken 4 (some .int) ({ frames := 4, cells := 0, slots := 0, locals := 97 } : Room) 0 0 [.ref (za g 21), .int (nI i)] μ (fun r ν => r = some (.int (zBK μ ph i d s)) ∧ zLaid μ ν ph (ph i) d s (i + 1)) zNX := by
  refine zC_of (L0 := [some (.ref (za g 21)), some (.int (nI i)), none, none]) (plainFor_of_name (by decide)) (Nat.le_of_ble_eq_true rfl) rfl ?_
  intro x S Y hxl
  subst hxl
  have hd60 := Q.2.2.1
  refine k_aload0 S dX4_broken_0 (n := 1) rfl ?_
  refine k_getr (r := 24) (T := TX4) (j := 8) S dX4_broken_1 (by rw [hn]; decide) (by decide) (ci := 4) rfl rfl (by decide) in_4 m_680 rfl rfl (n := 4) rfl ?_
  refine k_iload1 S dX4_broken_4 (n := 5) rfl ?_
  refine k_ialdv (v := 0) S dX4_broken_5 (j := i) (by rw [hn]; decide) (by decide) rfl (show i < 60 by omega) (by decide) hr (n := 6) rfl ?_
  refine k_if_le S dX4_broken_6 (tgt := 11) (by decide) (n := 9) rfl (fun _ => ?_) (fun h9 => absurd (by decide) h9)
  refine k_aload0 S dX4_broken_11 (n := 12) rfl ?_
  refine k_aload0 S dX4_broken_12 (n := 13) rfl ?_
  refine k_iload1 S dX4_broken_13 (n := 14) rfl ?_
  refine k_callV (As := [.int (nI i)]) (rest := [.ref (za g 21)]) (p := 21) S (c_X4_phase (i := i) hn Q.1 hi Q.2.2.1) mv_X4_phase m_781 dX4_broken_14 rfl rfl ⟨by decide, by decide⟩ (by rw [hn]; decide) (by decide) (ci := 4) rfl rfl rfl (Nat.le_of_ble_eq_true rfl) ⟨by decide, by decide⟩ (n := 17) rfl (fun _ _ h => h.elim) (fun v9 ν9 h9 => ?_)
  rw [h9.1, h9.2]
  show zK x g ({ frames := 4, cells := 0, slots := 0, locals := 97 } : Room) 4 0 0 17 [some (.ref (za g 21)), some (.int (nI i)), none, none] [.int (nI (ph i)), .ref (za g 21)] μ
  refine k_callV (As := [.int (nI (ph i))]) (rest := []) (p := 21) S (c_X4_laysLimitsR (t := ph i) hn Q (Q.pc hi)) mv_X4_laysLimits m_773 dX4_broken_17 rfl rfl ⟨by decide, by decide⟩ (by rw [hn]; decide) (by decide) (ci := 4) rfl rfl rfl (Nat.le_of_ble_eq_true rfl) ⟨by decide, by decide⟩ (n := 20) rfl (fun _ _ h => h.elim) (fun v9 ν1 h9 => ?_)
  obtain ⟨e1, hL⟩ := h9
  rw [e1]
  show zK x g ({ frames := 4, cells := 0, slots := 0, locals := 97 } : Room) 4 0 0 20 [some (.ref (za g 21)), some (.int (nI i)), none, none] [] ν1
  refine k_aload0 S dX4_broken_20 (n := 21) rfl ?_
  refine k_aload0 S dX4_broken_21 (n := 22) rfl ?_
  refine k_iload1 S dX4_broken_22 (n := 23) rfl ?_
  refine k_callV (As := [.int (nI i)]) (rest := [.ref (za g 21)]) (p := 21) S (c_X4_phase (i := i) hn (Q.near hL.1).1 hi Q.2.2.1) mv_X4_phase m_781 dX4_broken_23 rfl rfl ⟨by decide, by decide⟩ (by rw [hn]; decide) (by decide) (ci := 4) rfl rfl rfl (Nat.le_of_ble_eq_true rfl) ⟨by decide, by decide⟩ (n := 26) rfl (fun _ _ h => h.elim) (fun v9 ν9 h9 => ?_)
  rw [h9.1, h9.2]
  show zK x g ({ frames := 4, cells := 0, slots := 0, locals := 97 } : Room) 4 0 0 26 [some (.ref (za g 21)), some (.int (nI i)), none, none] [.int (nI (ph i)), .ref (za g 21)] ν1
  refine k_iload1 S dX4_broken_26 (n := 27) rfl ?_
  refine k_callV (As := [.int (nI (ph i)), .int (nI i)]) (rest := []) (p := 21) S (c_X4_laysPointsR (t := ph i) hn (Q.near hL.1) (by have := Q.pc hi; have := Q.c10; omega) (q := i) (N := i + 1) (by have := Q.2.2.1; omega) (Or.inl ⟨rfl, hi⟩)) mv_X4_laysPoints m_777 dX4_broken_27 rfl rfl ⟨by decide, by decide⟩ (by rw [hn]; decide) (by decide) (ci := 4) rfl rfl rfl (Nat.le_of_ble_eq_true rfl) ⟨by decide, by decide⟩ (n := 30) rfl (fun _ _ h => h.elim) (fun v9 ν2 h9 => ?_)
  obtain ⟨e1, hP⟩ := h9
  rw [e1]
  show zK x g ({ frames := 4, cells := 0, slots := 0, locals := 97 } : Room) 4 0 0 30 [some (.ref (za g 21)), some (.int (nI i)), none, none] [] ν2
  refine k_iconst S dX4_broken_30 (v := 0) (by decide) (n := 31) rfl ?_
  refine k_istore2 S dX4_broken_31 (by decide) rfl (n := 32) rfl ?_
  refine k_iconst S dX4_broken_32 (v := 1) (by decide) (n := 33) rfl ?_
  refine k_istore3 S dX4_broken_33 (by decide) rfl (n := 34) rfl ?_
  have hl : zHas μ ph (ph i) d := Or.inr (zpc_pos ph (μ.1 24) hi hr)
  have hA := zLaid_of hL hl hP
  exact l_X4_broken S Y ⟨rfl, hA⟩ hn (hA.pt (by omega)) 8 0 (by omega)
set_option maxRecDepth 100000 in
set_option maxHeartbeats 4000000 in
theorem c_X4_broken_ex {l : Launch} {g : zG} {μ : zM} {i : Nat} {d c s : Nat} {ph fs : Nat → Nat}  (hn : zn g = 32) (Q : zQ μ d c s ph fs) (hi : i < d) (hr : ¬ μ.1 24 i ≤ 0) : zC l g yX4_broken cX4_broken 4 (some .int) ({ frames := 4, cells := 0, slots := 0, locals := 97 } : Room) 0 0 [.ref (za g 21), .int (nI i)] μ (zRv (some (.int 0)) μ) zNX := by
  refine zC_of (L0 := [some (.ref (za g 21)), some (.int (nI i)), none, none]) (plainFor_of_name (by decide)) (Nat.le_of_ble_eq_true rfl) rfl ?_
  intro x S Y hxl
  subst hxl
  have hd60 := Q.2.2.1
  refine k_aload0 S dX4_broken_0 (n := 1) rfl ?_
  refine k_getr (r := 24) (T := TX4) (j := 8) S dX4_broken_1 (by rw [hn]; decide) (by decide) (ci := 4) rfl rfl (by decide) in_4 m_680 rfl rfl (n := 4) rfl ?_
  refine k_iload1 S dX4_broken_4 (n := 5) rfl ?_
  refine k_iald S dX4_broken_5 (j := i) (by rw [hn]; decide) (by decide) rfl (show i < 60 by omega) (by decide) (n := 6) rfl ?_
  refine k_if_le S dX4_broken_6 (tgt := 11) (by decide) (n := 9) rfl (fun h9 => absurd h9 (hr)) (fun _ => ?_)
  refine k_iconst S dX4_broken_9 (v := 0) (by decide) (n := 10) rfl ?_
  exact k_iret S Y dX4_broken_10 (by decide) (by decide) rfl (⟨rfl, rfl⟩)
theorem c_X4_broken {l : Launch} {g : zG} {μ : zM} {i : Nat} {d c s : Nat} {ph fs : Nat → Nat}  (hn : zn g = 32) (Q : zQ μ d c s ph fs) (hi : i < d) (hr : zRs μ d) : zC l g yX4_broken cX4_broken 4 (some .int) ({ frames := 4, cells := 0, slots := 0, locals := 97 } : Room) 0 0 [.ref (za g 21), .int (nI i)] μ (fun r ν => r = some (.int (zbk μ ph i d s)) ∧ zNear μ ν) zNX := by
  by_cases h : μ.1 24 i = 0
  · rw [show zbk μ ph i d s = zBK μ ph i d s from if_pos h]
    exact (c_X4_broken_pt hn Q hi h).mono (fun _ _ q => ⟨q.1, q.2.1⟩) (fun _ _ q => q)
  · rw [show zbk μ ph i d s = 0 from if_neg h]
    refine (c_X4_broken_ex hn Q hi (zle0 (hr i hi) h)).mono (fun _ ν q => ⟨q.1, ?_⟩) (fun _ _ q => q)
    rw [q.2]
    exact zNear.refl μ
