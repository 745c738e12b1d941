/-! THE REFERENCE'S CALLS -/
theorem zC.mono {l : Launch} {g : zG} {y : MethodName} {cc : ByteArray} {maxL : Nat} {ret : Option FieldType} {rm : Room} {mc ms : Nat} {av : List Value} {μ : zM} {RT RT' : Option Value → zM → Prop} {XT XT' : String → zM → Prop}
    (h : zC l g y cc maxL ret rm mc ms av μ RT XT) (hr : ∀ v ν, RT v ν → RT' v ν) (hx : ∀ E ν, XT E ν → XT' E ν) : zC l g y cc maxL ret rm mc ms av μ RT' XT' := by
  intro p e h1 h2 h3 s m args below h4 h5 h6 h7
  obtain ⟨n, o, q1, q2, q3, q4⟩ := h p e h1 h2 h3 s m args below h4 h5 h6 h7
  refine ⟨n, o, q1, q2, q3, ?_⟩
  rcases q4 with ⟨⟨v, ν, e9, hR, hP, hF⟩, hE⟩ | ⟨q, e9, E, ce, L, ⟨ν, hX1, hX2⟩, rest⟩
  · exact Or.inl ⟨⟨v, ν, e9, hr _ _ hR, hP, hF⟩, hE⟩
  · exact Or.inr ⟨q, e9, E, ce, L, ⟨ν, hx _ _ hX1, hX2⟩, rest⟩
/-- the slots that a call may leave otherwise without its being seen -/
def zScr (a b : Nat) : Bool := a == 7 || a == 8 || a == 9 || a == 10 || a == 29 || a == 30 || (a == 21 && (b == 15 || b == 16 || b == 17 || b == 18 || b == 19 || b == 20))
def zNear (μ ν : zM) : Prop := ν.2 = μ.2 ∧ ∀ a b, zScr a b = false → ν.1 a b = μ.1 a b
theorem zNear.refl (μ : zM) : zNear μ μ := ⟨rfl, fun _ _ _ => rfl⟩
theorem zNear.trans {μ ν κ : zM} (h : zNear μ ν) (k : zNear ν κ) : zNear μ κ := ⟨k.1.trans h.1, fun a b q => (k.2 a b q).trans (h.2 a b q)⟩
theorem zu_ne {μ : zM} {p j a b : Nat} (v : Int32) (h : ¬ (a = p ∧ b = j)) : (zu μ p j v).1 a b = μ.1 a b := by
  show (if a = p then (if b = j then v else μ.1 a b) else μ.1 a b) = _
  by_cases e : a = p
  · rw [if_pos e]
    by_cases f : b = j
    · exact absurd ⟨e, f⟩ h
    · rw [if_neg f]
  · rw [if_neg e]
theorem zNear.u {μ ν : zM} (h : zNear μ ν) {p j : Nat} (v : Int32) (q : zScr p j = true) : zNear μ (zu ν p j v) := ⟨h.1, fun a b z => by
  rw [zu_ne v (fun e => by rw [e.1, e.2, q] at z; cases z)]
  exact h.2 a b z⟩
theorem zNear.uu {μ ν : zM} (h : zNear μ ν) (p j : Nat) (v : Int32) : zNear (zu μ p j v) (zu ν p j v) := ⟨h.1, fun a b z => by
  by_cases e : a = p ∧ b = j
  · rw [e.1, e.2]
    simp [zu]
  · rw [zu_ne v e, zu_ne v e]
    exact h.2 a b z⟩
theorem zNear.pl {μ ν : zM} (h : zNear μ ν) {a : Nat} (q : ∀ b, zScr a b = false) : ν.1 a = μ.1 a := funext fun b => h.2 a b (q b)
theorem zScr_no {a b : Nat} (q : zScr a b = false) : a ≠ 29 ∧ a ≠ 30 ∧ (a ≠ 21 ∨ b ≠ 20) := by
  refine ⟨fun e => ?_, fun e => ?_, ?_⟩
  · rw [e, show zScr 29 b = true from rfl] at q
    cases q
  · rw [e, show zScr 30 b = true from rfl] at q
    cases q
  · by_cases e : a = 21
    · refine Or.inr fun f => ?_
      rw [e, f, show zScr 21 20 = true from rfl] at q
      cases q
    · exact Or.inl e
theorem zpM_near (μ : zM) (ph : Nat → Nat) (t n : Nat) : zNear μ (zpM μ ph t n) := ⟨zpM_2 μ ph t n, fun a b q => zpM_off μ ph t (zScr_no q).1 (zScr_no q).2.1 (zScr_no q).2.2 n⟩
/-- the reference with d subgroups, c phases, subgroups of s + 2 -/
def zQ (μ : zM) (d c s : Nat) (ph fs : Nat → Nat) : Prop := zMP μ d c ph fs ∧ μ.1 21 1 = nI d ∧ d ≤ 60 ∧ μ.1 21 0 = nI (s + 2) ∧ s < 5
theorem zQ.near {μ ν : zM} {d c s : Nat} {ph fs : Nat → Nat} (h : zQ μ d c s ph fs) (n : zNear μ ν) : zQ ν d c s ph fs :=
  ⟨h.1.mono (n.2 21 9 rfl) (n.pl fun _ => rfl), (n.2 21 1 rfl).trans h.2.1, h.2.2.1, (n.2 21 0 rfl).trans h.2.2.2.1, h.2.2.2.2⟩
theorem zQ.thr {μ : zM} {d c s : Nat} {ph fs : Nat → Nat} (h : zQ μ d c s ph fs) (v : Int32) : zQ (zu μ 21 23 v) d c s ph fs :=
  ⟨h.1.mono (zu_ne v (by decide)) (zu_off μ 21 23 v (by decide)), (zu_ne v (by decide)).trans h.2.1, h.2.2.1, (zu_ne v (by decide)).trans h.2.2.2.1, h.2.2.2.2⟩
theorem zQ.c10 {μ : zM} {d c s : Nat} {ph fs : Nat → Nat} (h : zQ μ d c s ph fs) : c ≤ 10 := h.1.2.1
theorem zQ.pc {μ : zM} {d c s : Nat} {ph fs : Nat → Nat} (h : zQ μ d c s ph fs) {i : Nat} (hi : i < d) : ph i < c := (h.1.2.2.2 i hi).1
/-- the points of phase t among the first n subgroups, laid -/
def zPts (μ ν : zM) (ph : Nat → Nat) (t n : Nat) : Prop := zNear μ ν ∧ ν.1 21 20 = nI (zpc ph (μ.1 24) t n) ∧ (∀ b, b ≠ 20 → ν.1 21 b = μ.1 21 b) ∧ ∀ j, j < zpc ph (μ.1 24) t n → ν.1 29 j = nI (zpx ph (μ.1 24) t n j) ∧ ν.1 30 j = zmn μ (zpx ph (μ.1 24) t n j)
theorem zPts_zpM (μ : zM) (ph : Nat → Nat) (t n : Nat) : zPts μ (zpM μ ph t n) ph t n := ⟨zpM_near μ ph t n, zpM_n μ ph t n, fun _ hb => zpM_off μ ph t (by decide) (by decide) (Or.inr hb) n, zpM_pt μ ph t n⟩
def zLim (μ ν : zM) (ph : Nat → Nat) (t d s : Nat) : Prop := zNear μ ν ∧ ν.1 21 20 = nI (zpc ph (μ.1 24) t d) ∧
  (zHas μ ph t d → ν.1 21 15 = 1 ∧ ν.1 21 16 = zLC μ ph t d s ∧ ν.1 21 17 = zLR μ ph t d ∧ ν.1 21 18 = zWd s 0 (zLR μ ph t d) ∧ ν.1 21 19 = zWd s 1 (zLR μ ph t d)) ∧ (¬ zHas μ ph t d → ν.1 21 15 = 0)
theorem c_X4_laysPointsR {l : Launch} {g : zG} {μ : zM} {t d c s : Nat} {ph fs : Nat → Nat} (hn : zn g = 32) (Q : zQ μ d c s ph fs) (ht : t < 10) {q N : Nat} (hq : q < 60) (hN : N = q + 1 ∧ q < d ∨ N = d ∧ q = 59) : zC l g yX4_laysPoints cX4_laysPoints 4 none ({ frames := 2, cells := 0, slots := 0, locals := 48 } : Room) 0 0 [.ref (za g 21), .int (nI t), .int (nI q)] μ (fun r ν => r = none ∧ zPts μ ν ph t N) zNX := by
  have hd := Q.2.2.1
  refine (c_X4_laysPoints (t := t) (q := q) (N := N) hn Q.1 Q.2.1 Q.2.2.1 ht hq (by omega) (by omega) (by omega) Q.2.2.2.1 Q.2.2.2.2).mono (fun r ν h => ?_) (fun _ _ h => h)
  obtain ⟨e1, e2⟩ := h
  subst e2
  exact ⟨e1, zPts_zpM μ ph t N⟩
theorem c_X4_laysLimitsR {l : Launch} {g : zG} {μ : zM} {t d c s : Nat} {ph fs : Nat → Nat} (hn : zn g = 32) (Q : zQ μ d c s ph fs) (ht : t < c) : zC l g yX4_laysLimits cX4_laysLimits 7 none ({ frames := 3, cells := 0, slots := 0, locals := 71 } : Room) 0 0 [.ref (za g 21), .int (nI t)] μ (fun r ν => r = none ∧ zLim μ ν ph t d s) zNX := by
  have hnr := zpM_near μ ph t d
  have hmn := zpM_n μ ph t d
  by_cases hz : zHas μ ph t d
  · refine (c_X4_laysLimits_ok (t := t) hn Q.1 Q.2.1 Q.2.2.1 Q.2.2.2.1 Q.2.2.2.2 ht hz).mono (fun r ν h => ?_) (fun _ _ h => h)
    obtain ⟨e1, e2⟩ := h
    subst e2
    refine ⟨e1, ((((hnr.u _ rfl).u _ rfl).u _ rfl).u _ rfl).u _ rfl, ?_, fun _ => ⟨?_, ?_, ?_, ?_, ?_⟩, fun q => absurd hz q⟩
    · simp [zLmM, zu]
      exact hmn
    all_goals simp [zLmM, zu]
  · have hz1 : μ.1 26 t = 0 := Classical.byContradiction fun q => hz (Or.inl q)
    have hz2 : zpc ph (μ.1 24) t d = 0 := Nat.eq_zero_of_not_pos fun q => hz (Or.inr q)
    refine (c_X4_laysLimits_no (t := t) hn Q.1 Q.2.1 Q.2.2.1 Q.2.2.2.1 Q.2.2.2.2 ht hz1 hz2).mono (fun r ν h => ?_) (fun _ _ h => h)
    obtain ⟨e1, e2⟩ := h
    subst e2
    refine ⟨e1, hnr.u _ rfl, ?_, fun q => absurd q hz, fun _ => by simp [zu]⟩
    simp [zu]
    exact hmn
/-- a call of the reference that answers v, with thrown w, and changes nothing that is seen -/
def zRn (μ : zM) (v : Option Value) (w : Int32) : Option Value → zM → Prop := fun r ν => r = v ∧ zNear (zu μ 21 23 w) ν
theorem zrn0 (μ : zM) (v : Option Value) (w : Int32) : zRn μ v w v (zu μ 21 23 w) := ⟨rfl, zNear.refl _⟩
set_option maxRecDepth 100000 in
set_option maxHeartbeats 4000000 in
theorem c_X4_subgroups {l : Launch} {g : zG} {μ : zM} {d c s : Nat} {ph fs : Nat → Nat}  (hn : zn g = 32) (Q : zQ μ d c s ph fs) : zC l g yX4_subgroups cX4_subgroups 1 (some .int) ({ frames := 0, cells := 0, slots := 0, locals := 0 } : Room) 0 0 [.ref (za g 21)] μ (zRn μ (some (.int (nI d))) 0) zNX := by
  refine zC_of (L0 := [some (.ref (za g 21))]) (plainFor_of_name (by decide)) (Nat.le_of_ble_eq_true rfl) rfl ?_
  intro x S Y hxl
  subst hxl
  refine k_aload0 S dX4_subgroups_0 (n := 1) rfl ?_
  refine k_iconst S dX4_subgroups_1 (v := 0) (by decide) (n := 2) rfl ?_
  refine k_put (T := TX4) (j := 23) S dX4_subgroups_2 (by rw [hn]; decide) (by decide) (ci := 4) rfl rfl (by decide) in_4 m_695 rfl rfl (ty0 := tyX4) tyX4_ok nmX4 rfl rfl rfl (n := 5) rfl ?_
  refine k_aload0 S dX4_subgroups_5 (n := 6) rfl ?_
  refine k_getv (v := nI d) (T := TX4) (j := 1) S dX4_subgroups_6 (by rw [hn]; decide) (by decide) (ci := 4) rfl rfl (by decide) in_4 m_673 rfl rfl ((zu_ne _ (by decide)).trans Q.2.1) (n := 9) rfl ?_
  exact k_iret S Y dX4_subgroups_9 (by decide) (by decide) rfl ((zrn0 _ _ _))
set_option maxRecDepth 100000 in
set_option maxHeartbeats 4000000 in
theorem c_X4_phases {l : Launch} {g : zG} {μ : zM} {d c s : Nat} {ph fs : Nat → Nat}  (hn : zn g = 32) (Q : zQ μ d c s ph fs) : zC l g yX4_phases cX4_phases 1 (some .int) ({ frames := 0, cells := 0, slots := 0, locals := 0 } : Room) 0 0 [.ref (za g 21)] μ (zRn μ (some (.int (nI c))) 0) zNX := by
  refine zC_of (L0 := [some (.ref (za g 21))]) (plainFor_of_name (by decide)) (Nat.le_of_ble_eq_true rfl) rfl ?_
  intro x S Y hxl
  subst hxl
  refine k_aload0 S dX4_phases_0 (n := 1) rfl ?_
  refine k_iconst S dX4_phases_1 (v := 0) (by decide) (n := 2) rfl ?_
  refine k_put (T := TX4) (j := 23) S dX4_phases_2 (by rw [hn]; decide) (by decide) (ci := 4) rfl rfl (by decide) in_4 m_695 rfl rfl (ty0 := tyX4) tyX4_ok nmX4 rfl rfl rfl (n := 5) rfl ?_
  refine k_aload0 S dX4_phases_5 (n := 6) rfl ?_
  refine k_getv (v := nI c) (T := TX4) (j := 9) S dX4_phases_6 (by rw [hn]; decide) (by decide) (ci := 4) rfl rfl (by decide) in_4 m_681 rfl rfl ((zu_ne _ (by decide)).trans Q.1.1) (n := 9) rfl ?_
  exact k_iret S Y dX4_phases_9 (by decide) (by decide) rfl ((zrn0 _ _ _))
set_option maxRecDepth 100000 in
set_option maxHeartbeats 4000000 in
theorem c_X4_mean_ok {l : Launch} {g : zG} {μ : zM} {i : Nat} {d c s : Nat} {ph fs : Nat → Nat}  (hn : zn g = 32) (Q : zQ μ d c s ph fs) (hi : i < d) : zC l g yX4_mean cX4_mean 2 (some .int) ({ frames := 2, cells := 0, slots := 0, locals := 48 } : Room) 0 0 [.ref (za g 21), .int (nI i)] μ (zRn μ (some (.int (zmn μ i))) 0) zNX := by
  refine zC_of (L0 := [some (.ref (za g 21)), some (.int (nI i))]) (plainFor_of_name (by decide)) (Nat.le_of_ble_eq_true rfl) rfl ?_
  intro x S Y hxl
  subst hxl
  have hd60 := Q.2.2.1
  refine k_aload0 S dX4_mean_0 (n := 1) rfl ?_
  refine k_iload1 S dX4_mean_1 (n := 2) rfl ?_
  refine k_callV (As := [.int (nI i)]) (rest := []) (p := 21) S (c_X4_isDone_ok hn Q.2.1 Q.2.2.1 hi) mv_X4_isDone m_804 dX4_mean_2 rfl rfl ⟨by decide, by decide⟩ (by rw [hn]; decide) (by decide) (ci := 4) rfl rfl rfl (Nat.le_of_ble_eq_true rfl) ⟨by decide, by decide⟩ (n := 5) rfl (fun _ _ h => h.elim) (fun v9 ν9 h9 => ?_)
  rw [h9.1, h9.2]
  show zK x g ({ frames := 2, cells := 0, slots := 0, locals := 48 } : Room) 2 0 0 5 [some (.ref (za g 21)), some (.int (nI i))] [.int 1] (zu μ 21 23 0)
  refine k_if_eq S dX4_mean_5 (tgt := 30) (by decide) (n := 8) rfl (fun h9 => absurd h9 (by decide)) (fun _ => ?_)
  refine k_ldc2 S dX4_mean_8 (v := 1000) m_785 (n := 11) rfl ?_
  refine k_aload0 S dX4_mean_11 (n := 12) rfl ?_
  refine k_getr (r := 22) (T := TX4) (j := 6) S dX4_mean_12 (by rw [hn]; decide) (by decide) (ci := 4) rfl rfl (by decide) in_4 m_678 rfl rfl (n := 15) rfl ?_
  refine k_iload1 S dX4_mean_15 (n := 16) rfl ?_
  refine k_ialdv (v := μ.1 22 i) S dX4_mean_16 (j := i) (by rw [hn]; decide) (by decide) rfl (show i < 60 by omega) (by decide) (by simp [zu, zset, upd]) (n := 17) rfl ?_
  refine k_i2l S dX4_mean_17 (n := 18) rfl ?_
  refine k_lmul S dX4_mean_18 (n := 19) rfl ?_
  refine k_aload0 S dX4_mean_19 (n := 20) rfl ?_
  refine k_getv (v := μ.1 21 0) (T := TX4) (j := 0) S dX4_mean_20 (by rw [hn]; decide) (by decide) (ci := 4) rfl rfl (by decide) in_4 m_672 rfl rfl (by simp [zu, zset, upd]) (n := 23) rfl ?_
  refine k_i2l S dX4_mean_23 (n := 24) rfl ?_
  refine k_callS (As := [.long (1000 * (Int32.toInt64 (μ.1 22 i))), .long (Int32.toInt64 (μ.1 21 0))]) (rest := []) S (c_X4_rounded (zsz Q.2.2.2.1 Q.2.2.2.2)) mv_X4_rounded m_786 dX4_mean_24 rfl rfl ⟨by decide, by decide⟩ rfl rfl (Nat.le_of_ble_eq_true rfl) ⟨by decide, by decide⟩ (n := 27) rfl (fun _ _ h => h.elim) (fun v9 ν9 h9 => ?_)
  rw [h9.1, h9.2]
  show zK x g ({ frames := 2, cells := 0, slots := 0, locals := 48 } : Room) 2 0 0 27 [some (.ref (za g 21)), some (.int (nI i))] [.int (zrdM (1000 * (Int32.toInt64 (μ.1 22 i))) (Int32.toInt64 (μ.1 21 0)))] (zu μ 21 23 0)
  refine k_goto S dX4_mean_27 (tgt := 31) (by decide) ?_
  exact k_iret S Y dX4_mean_31 (by decide) (by decide) rfl ((zrn0 _ _ _))
set_option maxRecDepth 100000 in
set_option maxHeartbeats 4000000 in
theorem c_X4_mean_no {l : Launch} {g : zG} {μ : zM} {v : Int32} {d c s : Nat} {ph fs : Nat → Nat}  (hn : zn g = 32) (Q : zQ μ d c s ph fs) (hi : ¬ zIn v d) : zC l g yX4_mean cX4_mean 2 (some .int) ({ frames := 2, cells := 0, slots := 0, locals := 48 } : Room) 0 0 [.ref (za g 21), .int v] μ (zRn μ (some (.int (0))) 1) zNX := by
  refine zC_of (L0 := [some (.ref (za g 21)), some (.int v)]) (plainFor_of_name (by decide)) (Nat.le_of_ble_eq_true rfl) rfl ?_
  intro x S Y hxl
  subst hxl
  refine k_aload0 S dX4_mean_0 (n := 1) rfl ?_
  refine k_iload1 S dX4_mean_1 (n := 2) rfl ?_
  refine k_callV (As := [.int v]) (rest := []) (p := 21) S (c_X4_isDone_no hn Q.2.1 Q.2.2.1 hi) mv_X4_isDone m_804 dX4_mean_2 rfl rfl ⟨by decide, by decide⟩ (by rw [hn]; decide) (by decide) (ci := 4) rfl rfl rfl (Nat.le_of_ble_eq_true rfl) ⟨by decide, by decide⟩ (n := 5) rfl (fun _ _ h => h.elim) (fun v9 ν9 h9 => ?_)
  rw [h9.1, h9.2]
  show zK x g ({ frames := 2, cells := 0, slots := 0, locals := 48 } : Room) 2 0 0 5 [some (.ref (za g 21)), some (.int v)] [.int 0] (zu μ 21 23 1)
  refine k_if_eq S dX4_mean_5 (tgt := 30) (by decide) (n := 8) rfl (fun _ => ?_) (fun h9 => absurd (by decide) h9)
  refine k_iconst S dX4_mean_30 (v := 0) (by decide) (n := 31) rfl ?_
  exact k_iret S Y dX4_mean_31 (by decide) (by decide) rfl ((zrn0 _ _ _))
set_option maxRecDepth 100000 in
set_option maxHeartbeats 4000000 in
theorem c_X4_range_ok {l : Launch} {g : zG} {μ : zM} {i : Nat} {d c s : Nat} {ph fs : Nat → Nat}  (hn : zn g = 32) (Q : zQ μ d c s ph fs) (hi : i < d) : zC l g yX4_range cX4_range 2 (some .int) ({ frames := 2, cells := 0, slots := 0, locals := 43 } : Room) 0 0 [.ref (za g 21), .int (nI i)] μ (zRn μ (some (.int (μ.1 23 i))) 0) zNX := by
  refine zC_of (L0 := [some (.ref (za g 21)), some (.int (nI i))]) (plainFor_of_name (by decide)) (Nat.le_of_ble_eq_true rfl) rfl ?_
  intro x S Y hxl
  subst hxl
  have hd60 := Q.2.2.1
  refine k_aload0 S dX4_range_0 (n := 1) rfl ?_
  refine k_iload1 S dX4_range_1 (n := 2) rfl ?_
  refine k_callV (As := [.int (nI i)]) (rest := []) (p := 21) S (c_X4_isDone_ok hn Q.2.1 Q.2.2.1 hi) mv_X4_isDone m_804 dX4_range_2 rfl rfl ⟨by decide, by decide⟩ (by rw [hn]; decide) (by decide) (ci := 4) rfl rfl rfl (Nat.le_of_ble_eq_true rfl) ⟨by decide, by decide⟩ (n := 5) rfl (fun _ _ h => h.elim) (fun v9 ν9 h9 => ?_)
  rw [h9.1, h9.2]
  show zK x g ({ frames := 2, cells := 0, slots := 0, locals := 43 } : Room) 2 0 0 5 [some (.ref (za g 21)), some (.int (nI i))] [.int 1] (zu μ 21 23 0)
  refine k_if_eq S dX4_range_5 (tgt := 17) (by decide) (n := 8) rfl (fun h9 => absurd h9 (by decide)) (fun _ => ?_)
  refine k_aload0 S dX4_range_8 (n := 9) rfl ?_
  refine k_getr (r := 23) (T := TX4) (j := 7) S dX4_range_9 (by rw [hn]; decide) (by decide) (ci := 4) rfl rfl (by decide) in_4 m_679 rfl rfl (n := 12) rfl ?_
  refine k_iload1 S dX4_range_12 (n := 13) rfl ?_
  refine k_ialdv (v := μ.1 23 i) S dX4_range_13 (j := i) (by rw [hn]; decide) (by decide) rfl (show i < 60 by omega) (by decide) (by simp [zu, zset, upd]) (n := 14) rfl ?_
  refine k_goto S dX4_range_14 (tgt := 18) (by decide) ?_
  exact k_iret S Y dX4_range_18 (by decide) (by decide) rfl ((zrn0 _ _ _))
set_option maxRecDepth 100000 in
set_option maxHeartbeats 4000000 in
theorem c_X4_range_no {l : Launch} {g : zG} {μ : zM} {v : Int32} {d c s : Nat} {ph fs : Nat → Nat}  (hn : zn g = 32) (Q : zQ μ d c s ph fs) (hi : ¬ zIn v d) : zC l g yX4_range cX4_range 2 (some .int) ({ frames := 2, cells := 0, slots := 0, locals := 43 } : Room) 0 0 [.ref (za g 21), .int v] μ (zRn μ (some (.int (0))) 1) zNX := by
  refine zC_of (L0 := [some (.ref (za g 21)), some (.int v)]) (plainFor_of_name (by decide)) (Nat.le_of_ble_eq_true rfl) rfl ?_
  intro x S Y hxl
  subst hxl
  refine k_aload0 S dX4_range_0 (n := 1) rfl ?_
  refine k_iload1 S dX4_range_1 (n := 2) rfl ?_
  refine k_callV (As := [.int v]) (rest := []) (p := 21) S (c_X4_isDone_no hn Q.2.1 Q.2.2.1 hi) mv_X4_isDone m_804 dX4_range_2 rfl rfl ⟨by decide, by decide⟩ (by rw [hn]; decide) (by decide) (ci := 4) rfl rfl rfl (Nat.le_of_ble_eq_true rfl) ⟨by decide, by decide⟩ (n := 5) rfl (fun _ _ h => h.elim) (fun v9 ν9 h9 => ?_)
  rw [h9.1, h9.2]
  show zK x g ({ frames := 2, cells := 0, slots := 0, locals := 43 } : Room) 2 0 0 5 [some (.ref (za g 21)), some (.int v)] [.int 0] (zu μ 21 23 1)
  refine k_if_eq S dX4_range_5 (tgt := 17) (by decide) (n := 8) rfl (fun _ => ?_) (fun h9 => absurd (by decide) h9)
  refine k_iconst S dX4_range_17 (v := 0) (by decide) (n := 18) rfl ?_
  exact k_iret S Y dX4_range_18 (by decide) (by decide) rfl ((zrn0 _ _ _))
set_option maxRecDepth 100000 in
set_option maxHeartbeats 4000000 in
theorem c_X4_phaseOf_ok {l : Launch} {g : zG} {μ : zM} {i : Nat} {d c s : Nat} {ph fs : Nat → Nat}  (hn : zn g = 32) (Q : zQ μ d c s ph fs) (hi : i < d) : zC l g yX4_phaseOf cX4_phaseOf 2 (some .int) ({ frames := 2, cells := 0, slots := 0, locals := 43 } : Room) 0 0 [.ref (za g 21), .int (nI i)] μ (zRn μ (some (.int (nI (ph i)))) 0) zNX := by
  refine zC_of (L0 := [some (.ref (za g 21)), some (.int (nI i))]) (plainFor_of_name (by decide)) (Nat.le_of_ble_eq_true rfl) rfl ?_
  intro x S Y hxl
  subst hxl
  have hd60 := Q.2.2.1
  refine k_aload0 S dX4_phaseOf_0 (n := 1) rfl ?_
  refine k_iload1 S dX4_phaseOf_1 (n := 2) rfl ?_
  refine k_callV (As := [.int (nI i)]) (rest := []) (p := 21) S (c_X4_isDone_ok hn Q.2.1 Q.2.2.1 hi) mv_X4_isDone m_804 dX4_phaseOf_2 rfl rfl ⟨by decide, by decide⟩ (by rw [hn]; decide) (by decide) (ci := 4) rfl rfl rfl (Nat.le_of_ble_eq_true rfl) ⟨by decide, by decide⟩ (n := 5) rfl (fun _ _ h => h.elim) (fun v9 ν9 h9 => ?_)
  rw [h9.1, h9.2]
  show zK x g ({ frames := 2, cells := 0, slots := 0, locals := 43 } : Room) 2 0 0 5 [some (.ref (za g 21)), some (.int (nI i))] [.int 1] (zu μ 21 23 0)
  refine k_if_eq S dX4_phaseOf_5 (tgt := 16) (by decide) (n := 8) rfl (fun h9 => absurd h9 (by decide)) (fun _ => ?_)
  refine k_aload0 S dX4_phaseOf_8 (n := 9) rfl ?_
  refine k_iload1 S dX4_phaseOf_9 (n := 10) rfl ?_
  refine k_callV (As := [.int (nI i)]) (rest := []) (p := 21) S (c_X4_phase (i := i) hn (Q.thr 0).1 hi hd60) mv_X4_phase m_781 dX4_phaseOf_10 rfl rfl ⟨by decide, by decide⟩ (by rw [hn]; decide) (by decide) (ci := 4) rfl rfl rfl (Nat.le_of_ble_eq_true rfl) ⟨by decide, by decide⟩ (n := 13) rfl (fun _ _ h => h.elim) (fun v9 ν9 h9 => ?_)
  rw [h9.1, h9.2]
  show zK x g ({ frames := 2, cells := 0, slots := 0, locals := 43 } : Room) 2 0 0 13 [some (.ref (za g 21)), some (.int (nI i))] [.int (nI (ph i))] (zu μ 21 23 0)
  refine k_goto S dX4_phaseOf_13 (tgt := 17) (by decide) ?_
  exact k_iret S Y dX4_phaseOf_17 (by decide) (by decide) rfl ((zrn0 _ _ _))
set_option maxRecDepth 100000 in
set_option maxHeartbeats 4000000 in
theorem c_X4_phaseOf_no {l : Launch} {g : zG} {μ : zM} {v : Int32} {d c s : Nat} {ph fs : Nat → Nat}  (hn : zn g = 32) (Q : zQ μ d c s ph fs) (hi : ¬ zIn v d) : zC l g yX4_phaseOf cX4_phaseOf 2 (some .int) ({ frames := 2, cells := 0, slots := 0, locals := 43 } : Room) 0 0 [.ref (za g 21), .int v] μ (zRn μ (some (.int (0))) 1) zNX := by
  refine zC_of (L0 := [some (.ref (za g 21)), some (.int v)]) (plainFor_of_name (by decide)) (Nat.le_of_ble_eq_true rfl) rfl ?_
  intro x S Y hxl
  subst hxl
  refine k_aload0 S dX4_phaseOf_0 (n := 1) rfl ?_
  refine k_iload1 S dX4_phaseOf_1 (n := 2) rfl ?_
  refine k_callV (As := [.int v]) (rest := []) (p := 21) S (c_X4_isDone_no hn Q.2.1 Q.2.2.1 hi) mv_X4_isDone m_804 dX4_phaseOf_2 rfl rfl ⟨by decide, by decide⟩ (by rw [hn]; decide) (by decide) (ci := 4) rfl rfl rfl (Nat.le_of_ble_eq_true rfl) ⟨by decide, by decide⟩ (n := 5) rfl (fun _ _ h => h.elim) (fun v9 ν9 h9 => ?_)
  rw [h9.1, h9.2]
  show zK x g ({ frames := 2, cells := 0, slots := 0, locals := 43 } : Room) 2 0 0 5 [some (.ref (za g 21)), some (.int v)] [.int 0] (zu μ 21 23 1)
  refine k_if_eq S dX4_phaseOf_5 (tgt := 16) (by decide) (n := 8) rfl (fun _ => ?_) (fun h9 => absurd (by decide) h9)
  refine k_iconst S dX4_phaseOf_16 (v := 0) (by decide) (n := 17) rfl ?_
  exact k_iret S Y dX4_phaseOf_17 (by decide) (by decide) rfl ((zrn0 _ _ _))
theorem zpc_thr (μ : zM) (ph : Nat → Nat) (t n : Nat) (w : Int32) : zpc ph ((zu μ 21 23 w).1 24) t n = zpc ph (μ.1 24) t n := by rw [zu_off μ 21 23 w (by decide)]
set_option maxRecDepth 100000 in
set_option maxHeartbeats 4000000 in
theorem c_X4_points_ok {l : Launch} {g : zG} {μ : zM} {k : Nat} {d c s : Nat} {ph fs : Nat → Nat}  (hn : zn g = 32) (Q : zQ μ d c s ph fs) (hk : k < c) : zC l g yX4_points cX4_points 2 (some .int) ({ frames := 3, cells := 0, slots := 0, locals := 71 } : Room) 0 0 [.ref (za g 21), .int (nI k)] μ (zRn μ (some (.int (nI (zpc ph (μ.1 24) k d)))) 0) zNX := by
  refine zC_of (L0 := [some (.ref (za g 21)), some (.int (nI k))]) (plainFor_of_name (by decide)) (Nat.le_of_ble_eq_true rfl) rfl ?_
  intro x S Y hxl
  subst hxl
  have hd60 := Q.2.2.1
  have h10 := Q.c10
  refine k_aload0 S dX4_points_0 (n := 1) rfl ?_
  refine k_iload1 S dX4_points_1 (n := 2) rfl ?_
  refine k_callV (As := [.int (nI k)]) (rest := []) (p := 21) S (c_X4_isPhase_ok hn Q.1.1 (by have := Q.c10; omega) hk) mv_X4_isPhase m_769 dX4_points_2 rfl rfl ⟨by decide, by decide⟩ (by rw [hn]; decide) (by decide) (ci := 4) rfl rfl rfl (Nat.le_of_ble_eq_true rfl) ⟨by decide, by decide⟩ (n := 5) rfl (fun _ _ h => h.elim) (fun v9 ν9 h9 => ?_)
  rw [h9.1, h9.2]
  show zK x g ({ frames := 3, cells := 0, slots := 0, locals := 71 } : Room) 2 0 0 5 [some (.ref (za g 21)), some (.int (nI k))] [.int 1] (zu μ 21 23 0)
  refine k_if_ne S dX4_points_5 (tgt := 10) (by decide) (n := 8) rfl (fun _ => ?_) (fun h9 => absurd h9 (by decide))
  refine k_aload0 S dX4_points_10 (n := 11) rfl ?_
  refine k_iload1 S dX4_points_11 (n := 12) rfl ?_
  refine k_bipush S dX4_points_12 (v := 59) (by decide) (n := 14) rfl ?_
  refine k_callV (As := [.int (nI k), .int 59]) (rest := []) (p := 21) S (c_X4_laysPointsR (t := k) hn (Q.thr 0) (by omega) (q := 59) (N := d) (by decide) (Or.inr ⟨rfl, rfl⟩)) mv_X4_laysPoints m_777 dX4_points_14 rfl rfl ⟨by decide, by decide⟩ (by rw [hn]; decide) (by decide) (ci := 4) rfl rfl rfl (Nat.le_of_ble_eq_true rfl) ⟨by decide, by decide⟩ (n := 17) rfl (fun _ _ h => h.elim) (fun v9 ν1 h9 => ?_)
  obtain ⟨e1, hP⟩ := h9
  rw [e1]
  show zK x g ({ frames := 3, cells := 0, slots := 0, locals := 71 } : Room) 2 0 0 17 [some (.ref (za g 21)), some (.int (nI k))] [] ν1
  refine k_aload0 S dX4_points_17 (n := 18) rfl ?_
  refine k_getv (v := nI (zpc ph (μ.1 24) k d)) (T := TX4) (j := 20) S dX4_points_18 (by rw [hn]; decide) (by decide) (ci := 4) rfl rfl (by decide) in_4 m_692 rfl rfl (hP.2.1.trans (by rw [zpc_thr])) (n := 21) rfl ?_
  exact k_iret S Y dX4_points_21 (by decide) (by decide) rfl (⟨rfl, hP.1⟩)
set_option maxRecDepth 100000 in
set_option maxHeartbeats 4000000 in
theorem c_X4_points_no {l : Launch} {g : zG} {μ : zM} {v : Int32} {d c s : Nat} {ph fs : Nat → Nat}  (hn : zn g = 32) (Q : zQ μ d c s ph fs) (hk : ¬ zIn v c) : zC l g yX4_points cX4_points 2 (some .int) ({ frames := 4, cells := 0, slots := 0, locals := 97 } : Room) 0 0 [.ref (za g 21), .int v] μ (zRn μ (some (.int (0))) 1) zNX := by
  refine zC_of (L0 := [some (.ref (za g 21)), some (.int v)]) (plainFor_of_name (by decide)) (Nat.le_of_ble_eq_true rfl) rfl ?_
  intro x S Y hxl
  subst hxl
  refine k_aload0 S dX4_points_0 (n := 1) rfl ?_
  refine k_iload1 S dX4_points_1 (n := 2) rfl ?_
  refine k_callV (As := [.int v]) (rest := []) (p := 21) S (c_X4_isPhase_no hn Q.1.1 (by have := Q.c10; omega) hk) mv_X4_isPhase m_769 dX4_points_2 rfl rfl ⟨by decide, by decide⟩ (by rw [hn]; decide) (by decide) (ci := 4) rfl rfl rfl (Nat.le_of_ble_eq_true rfl) ⟨by decide, by decide⟩ (n := 5) rfl (fun _ _ h => h.elim) (fun v9 ν9 h9 => ?_)
  rw [h9.1, h9.2]
  show zK x g ({ frames := 4, cells := 0, slots := 0, locals := 97 } : Room) 2 0 0 5 [some (.ref (za g 21)), some (.int v)] [.int 0] (zu μ 21 23 1)
  refine k_if_ne S dX4_points_5 (tgt := 10) (by decide) (n := 8) rfl (fun h9 => absurd (by decide) h9) (fun _ => ?_)
  refine k_iconst S dX4_points_8 (v := 0) (by decide) (n := 9) rfl ?_
  exact k_iret S Y dX4_points_9 (by decide) (by decide) rfl ((zrn0 _ _ _))
theorem zsa_congr {f h : Nat → Int32} : ∀ n, (∀ j, j < n → f j = h j) → zsa f n = zsa h n
  | 0, _ => rfl
  | n + 1, q => by
    show zsa f n + Int32.toInt64 (f n) = zsa h n + Int32.toInt64 (h n)
    rw [zsa_congr n (fun j hj => q j (by omega)), q n (by omega)]
theorem zL_of {μ ν : zM} (h22 : ν.1 22 = μ.1 22) (h23 : ν.1 23 = μ.1 23) (h24 : ν.1 24 = μ.1 24) (h26 : ν.1 26 = μ.1 26) (h27 : ν.1 27 = μ.1 27) (h28 : ν.1 28 = μ.1 28) (ph : Nat → Nat) (t d s : Nat) :
    zLC ν ph t d s = zLC μ ph t d s ∧ zLR ν ph t d = zLR μ ph t d ∧ (zHas ν ph t d ↔ zHas μ ph t d) := by
  unfold zLC zLR zHas zLCp zLRp zSF
  rw [h22, h23, h24, h26, h27, h28]
  exact ⟨rfl, rfl, Iff.rfl⟩
theorem zL_thr (μ : zM) (w : Int32) (ph : Nat → Nat) (t d s : Nat) : zLC (zu μ 21 23 w) ph t d s = zLC μ ph t d s ∧ zLR (zu μ 21 23 w) ph t d = zLR μ ph t d ∧ (zHas (zu μ 21 23 w) ph t d ↔ zHas μ ph t d) :=
  zL_of (zu_off _ _ _ _ (by decide)) (zu_off _ _ _ _ (by decide)) (zu_off _ _ _ _ (by decide)) (zu_off _ _ _ _ (by decide)) (zu_off _ _ _ _ (by decide)) (zu_off _ _ _ _ (by decide)) ph t d s
theorem zL_near {μ ν : zM} (h : zNear μ ν) (ph : Nat → Nat) (t d s : Nat) : zLC ν ph t d s = zLC μ ph t d s ∧ zLR ν ph t d = zLR μ ph t d ∧ (zHas ν ph t d ↔ zHas μ ph t d) :=
  zL_of (h.pl fun _ => rfl) (h.pl fun _ => rfl) (h.pl fun _ => rfl) (h.pl fun _ => rfl) (h.pl fun _ => rfl) (h.pl fun _ => rfl) ph t d s
theorem zLim.thr {μ ν : zM} {w : Int32} {ph : Nat → Nat} {t d s : Nat} (h : zLim (zu μ 21 23 w) ν ph t d s) : zNear (zu μ 21 23 w) ν ∧ ν.1 21 20 = nI (zpc ph (μ.1 24) t d) ∧
    (zHas μ ph t d → ν.1 21 15 = 1 ∧ ν.1 21 16 = zLC μ ph t d s ∧ ν.1 21 17 = zLR μ ph t d ∧ ν.1 21 18 = zWd s 0 (zLR μ ph t d) ∧ ν.1 21 19 = zWd s 1 (zLR μ ph t d)) ∧ (¬ zHas μ ph t d → ν.1 21 15 = 0) := by
  obtain ⟨h1, h2, h3, h4⟩ := h
  obtain ⟨e1, e2, e3⟩ := zL_thr μ w ph t d s
  rw [e1, e2, e3] at h3
  rw [e3] at h4
  rw [zpc_thr] at h2
  exact ⟨h1, h2, h3, h4⟩
theorem zNear.thr {μ ν : zM} {w w' : Int32} (h : zNear (zu μ 21 23 w) ν) : zNear (zu μ 21 23 w') (zu ν 21 23 w') := ⟨h.1, fun a b z => by
  by_cases e : a = 21 ∧ b = 23
  · rw [e.1, e.2]
    simp [zu]
  · rw [zu_ne w' e, zu_ne w' e, h.2 a b z, zu_ne w e]⟩
/-- a call that lays the limits: has they, the answer, thrown -/
def zRl (μ : zM) (ph : Nat → Nat) (t d s : Nat) : Option Value → zM → Prop := fun r ν => zNear (zu μ 21 23 0) ν ∧ r = some (.int 1) ∧ ν.1 21 16 = zLC μ ph t d s ∧ ν.1 21 18 = zWd s 0 (zLR μ ph t d) ∧ ν.1 21 19 = zWd s 1 (zLR μ ph t d)
set_option maxRecDepth 100000 in
set_option maxHeartbeats 4000000 in
theorem c_X4_isLimited_ok {l : Launch} {g : zG} {μ : zM} {k : Nat} {d c s : Nat} {ph fs : Nat → Nat}  (hn : zn g = 32) (Q : zQ μ d c s ph fs) (hk : k < c) (hl : zHas μ ph k d) : zC l g yX4_isLimited cX4_isLimited 2 (some .boolean) ({ frames := 4, cells := 0, slots := 0, locals := 97 } : Room) 0 0 [.ref (za g 21), .int (nI k)] μ (zRl μ ph k d s) zNX := by
  refine zC_of (L0 := [some (.ref (za g 21)), some (.int (nI k))]) (plainFor_of_name (by decide)) (Nat.le_of_ble_eq_true rfl) rfl ?_
  intro x S Y hxl
  subst hxl
  refine k_aload0 S dX4_isLimited_0 (n := 1) rfl ?_
  refine k_iload1 S dX4_isLimited_1 (n := 2) rfl ?_
  refine k_callV (As := [.int (nI k)]) (rest := []) (p := 21) S (c_X4_isPhase_ok hn Q.1.1 (by have := Q.c10; omega) hk) mv_X4_isPhase m_769 dX4_isLimited_2 rfl rfl ⟨by decide, by decide⟩ (by rw [hn]; decide) (by decide) (ci := 4) rfl rfl rfl (Nat.le_of_ble_eq_true rfl) ⟨by decide, by decide⟩ (n := 5) rfl (fun _ _ h => h.elim) (fun v9 ν9 h9 => ?_)
  rw [h9.1, h9.2]
  show zK x g ({ frames := 4, cells := 0, slots := 0, locals := 97 } : Room) 2 0 0 5 [some (.ref (za g 21)), some (.int (nI k))] [.int 1] (zu μ 21 23 0)
  refine k_if_ne S dX4_isLimited_5 (tgt := 10) (by decide) (n := 8) rfl (fun _ => ?_) (fun h9 => absurd h9 (by decide))
  refine k_aload0 S dX4_isLimited_10 (n := 11) rfl ?_
  refine k_iload1 S dX4_isLimited_11 (n := 12) rfl ?_
  refine k_callV (As := [.int (nI k)]) (rest := []) (p := 21) S (c_X4_laysLimitsR (t := k) hn (Q.thr 0) hk) mv_X4_laysLimits m_773 dX4_isLimited_12 rfl rfl ⟨by decide, by decide⟩ (by rw [hn]; decide) (by decide) (ci := 4) rfl rfl rfl (Nat.le_of_ble_eq_true rfl) ⟨by decide, by decide⟩ (n := 15) rfl (fun _ _ h => h.elim) (fun v9 ν1 h9 => ?_)
  obtain ⟨e1, hL⟩ := h9
  rw [e1]
  show zK x g ({ frames := 4, cells := 0, slots := 0, locals := 97 } : Room) 2 0 0 15 [some (.ref (za g 21)), some (.int (nI k))] [] ν1
  have hL1 := hL.thr
  have hL2 := hL1.2.2.1 hl
  refine k_aload0 S dX4_isLimited_15 (n := 16) rfl ?_
  refine k_aload0 S dX4_isLimited_16 (n := 17) rfl ?_
  refine k_getv (v := 1) (T := TX4) (j := 15) S dX4_isLimited_17 (by rw [hn]; decide) (by decide) (ci := 4) rfl rfl (by decide) in_4 m_687 rfl rfl hL2.1 (n := 20) rfl ?_
  refine k_if_eq S dX4_isLimited_20 (tgt := 27) (by decide) (n := 23) rfl (fun h9 => absurd h9 (by decide)) (fun _ => ?_)
  refine k_iconst S dX4_isLimited_23 (v := 0) (by decide) (n := 24) rfl ?_
  refine k_goto S dX4_isLimited_24 (tgt := 28) (by decide) ?_
  refine k_put (T := TX4) (j := 23) S dX4_isLimited_28 (by rw [hn]; decide) (by decide) (ci := 4) rfl rfl (by decide) in_4 m_695 rfl rfl (ty0 := tyX4) tyX4_ok nmX4 rfl rfl rfl (n := 31) rfl ?_
  refine k_aload0 S dX4_isLimited_31 (n := 32) rfl ?_
  refine k_getv (v := 1) (T := TX4) (j := 15) S dX4_isLimited_32 (by rw [hn]; decide) (by decide) (ci := 4) rfl rfl (by decide) in_4 m_687 rfl rfl ((zu_ne _ (by decide)).trans hL2.1) (n := 35) rfl ?_
  exact k_iret S Y dX4_isLimited_35 (by decide) (by decide) rfl (⟨hL1.1.thr, rfl, (zu_ne _ (by decide)).trans hL2.2.1, (zu_ne _ (by decide)).trans hL2.2.2.2.1, (zu_ne _ (by decide)).trans hL2.2.2.2.2⟩)
set_option maxRecDepth 100000 in
set_option maxHeartbeats 4000000 in
theorem c_X4_isLimited_t2 {l : Launch} {g : zG} {μ : zM} {k : Nat} {d c s : Nat} {ph fs : Nat → Nat}  (hn : zn g = 32) (Q : zQ μ d c s ph fs) (hk : k < c) (hl : ¬ zHas μ ph k d) : zC l g yX4_isLimited cX4_isLimited 2 (some .boolean) ({ frames := 4, cells := 0, slots := 0, locals := 97 } : Room) 0 0 [.ref (za g 21), .int (nI k)] μ (zRn μ (some (.int (0))) 2) zNX := by
  refine zC_of (L0 := [some (.ref (za g 21)), some (.int (nI k))]) (plainFor_of_name (by decide)) (Nat.le_of_ble_eq_true rfl) rfl ?_
  intro x S Y hxl
  subst hxl
  refine k_aload0 S dX4_isLimited_0 (n := 1) rfl ?_
  refine k_iload1 S dX4_isLimited_1 (n := 2) rfl ?_
  refine k_callV (As := [.int (nI k)]) (rest := []) (p := 21) S (c_X4_isPhase_ok hn Q.1.1 (by have := Q.c10; omega) hk) mv_X4_isPhase m_769 dX4_isLimited_2 rfl rfl ⟨by decide, by decide⟩ (by rw [hn]; decide) (by decide) (ci := 4) rfl rfl rfl (Nat.le_of_ble_eq_true rfl) ⟨by decide, by decide⟩ (n := 5) rfl (fun _ _ h => h.elim) (fun v9 ν9 h9 => ?_)
  rw [h9.1, h9.2]
  show zK x g ({ frames := 4, cells := 0, slots := 0, locals := 97 } : Room) 2 0 0 5 [some (.ref (za g 21)), some (.int (nI k))] [.int 1] (zu μ 21 23 0)
  refine k_if_ne S dX4_isLimited_5 (tgt := 10) (by decide) (n := 8) rfl (fun _ => ?_) (fun h9 => absurd h9 (by decide))
  refine k_aload0 S dX4_isLimited_10 (n := 11) rfl ?_
  refine k_iload1 S dX4_isLimited_11 (n := 12) rfl ?_
  refine k_callV (As := [.int (nI k)]) (rest := []) (p := 21) S (c_X4_laysLimitsR (t := k) hn (Q.thr 0) hk) mv_X4_laysLimits m_773 dX4_isLimited_12 rfl rfl ⟨by decide, by decide⟩ (by rw [hn]; decide) (by decide) (ci := 4) rfl rfl rfl (Nat.le_of_ble_eq_true rfl) ⟨by decide, by decide⟩ (n := 15) rfl (fun _ _ h => h.elim) (fun v9 ν1 h9 => ?_)
  obtain ⟨e1, hL⟩ := h9
  rw [e1]
  show zK x g ({ frames := 4, cells := 0, slots := 0, locals := 97 } : Room) 2 0 0 15 [some (.ref (za g 21)), some (.int (nI k))] [] ν1
  have hL1 := hL.thr
  have hL2 := hL1.2.2.2 hl
  refine k_aload0 S dX4_isLimited_15 (n := 16) rfl ?_
  refine k_aload0 S dX4_isLimited_16 (n := 17) rfl ?_
  refine k_getv (v := 0) (T := TX4) (j := 15) S dX4_isLimited_17 (by rw [hn]; decide) (by decide) (ci := 4) rfl rfl (by decide) in_4 m_687 rfl rfl hL2 (n := 20) rfl ?_
  refine k_if_eq S dX4_isLimited_20 (tgt := 27) (by decide) (n := 23) rfl (fun _ => ?_) (fun h9 => absurd (by decide) h9)
  refine k_iconst S dX4_isLimited_27 (v := 2) (by decide) (n := 28) rfl ?_
  refine k_put (T := TX4) (j := 23) S dX4_isLimited_28 (by rw [hn]; decide) (by decide) (ci := 4) rfl rfl (by decide) in_4 m_695 rfl rfl (ty0 := tyX4) tyX4_ok nmX4 rfl rfl rfl (n := 31) rfl ?_
  refine k_aload0 S dX4_isLimited_31 (n := 32) rfl ?_
  refine k_getv (v := 0) (T := TX4) (j := 15) S dX4_isLimited_32 (by rw [hn]; decide) (by decide) (ci := 4) rfl rfl (by decide) in_4 m_687 rfl rfl ((zu_ne _ (by decide)).trans hL2) (n := 35) rfl ?_
  exact k_iret S Y dX4_isLimited_35 (by decide) (by decide) rfl (⟨rfl, hL1.1.thr⟩)
set_option maxRecDepth 100000 in
set_option maxHeartbeats 4000000 in
theorem c_X4_isLimited_no {l : Launch} {g : zG} {μ : zM} {v : Int32} {d c s : Nat} {ph fs : Nat → Nat}  (hn : zn g = 32) (Q : zQ μ d c s ph fs) (hk : ¬ zIn v c) : zC l g yX4_isLimited cX4_isLimited 2 (some .boolean) ({ frames := 4, cells := 0, slots := 0, locals := 97 } : Room) 0 0 [.ref (za g 21), .int v] μ (zRn μ (some (.int (0))) 1) zNX := by
  refine zC_of (L0 := [some (.ref (za g 21)), some (.int v)]) (plainFor_of_name (by decide)) (Nat.le_of_ble_eq_true rfl) rfl ?_
  intro x S Y hxl
  subst hxl
  refine k_aload0 S dX4_isLimited_0 (n := 1) rfl ?_
  refine k_iload1 S dX4_isLimited_1 (n := 2) rfl ?_
  refine k_callV (As := [.int v]) (rest := []) (p := 21) S (c_X4_isPhase_no hn Q.1.1 (by have := Q.c10; omega) hk) mv_X4_isPhase m_769 dX4_isLimited_2 rfl rfl ⟨by decide, by decide⟩ (by rw [hn]; decide) (by decide) (ci := 4) rfl rfl rfl (Nat.le_of_ble_eq_true rfl) ⟨by decide, by decide⟩ (n := 5) rfl (fun _ _ h => h.elim) (fun v9 ν9 h9 => ?_)
  rw [h9.1, h9.2]
  show zK x g ({ frames := 4, cells := 0, slots := 0, locals := 97 } : Room) 2 0 0 5 [some (.ref (za g 21)), some (.int v)] [.int 0] (zu μ 21 23 1)
  refine k_if_ne S dX4_isLimited_5 (tgt := 10) (by decide) (n := 8) rfl (fun h9 => absurd (by decide) h9) (fun _ => ?_)
  refine k_iconst S dX4_isLimited_8 (v := 0) (by decide) (n := 9) rfl ?_
  exact k_iret S Y dX4_isLimited_9 (by decide) (by decide) rfl ((zrn0 _ _ _))
set_option maxRecDepth 100000 in
set_option maxHeartbeats 4000000 in
theorem c_X4_center_ok {l : Launch} {g : zG} {μ : zM} {k : Nat} {d c s : Nat} {ph fs : Nat → Nat}  (hn : zn g = 32) (Q : zQ μ d c s ph fs) (hk : k < c) (hl : zHas μ ph k d) : zC l g yX4_center cX4_center 2 (some .int) ({ frames := 5, cells := 0, slots := 0, locals := 118 } : Room) 0 0 [.ref (za g 21), .int (nI k)] μ (zRn μ (some (.int (zLC μ ph k d s))) 0) zNX := by
  refine zC_of (L0 := [some (.ref (za g 21)), some (.int (nI k))]) (plainFor_of_name (by decide)) (Nat.le_of_ble_eq_true rfl) rfl ?_
  intro x S Y hxl
  subst hxl
  refine k_aload0 S dX4_center_0 (n := 1) rfl ?_
  refine k_iload1 S dX4_center_1 (n := 2) rfl ?_
  refine k_callV (As := [.int (nI k)]) (rest := []) (p := 21) S (c_X4_isLimited_ok hn Q hk hl) mv_X4_isLimited m_836 dX4_center_2 rfl rfl ⟨by decide, by decide⟩ (by rw [hn]; decide) (by decide) (ci := 4) rfl rfl rfl (Nat.le_of_ble_eq_true rfl) ⟨by decide, by decide⟩ (n := 5) rfl (fun _ _ h => h.elim) (fun v9 ν1 h9 => ?_)
  have hL := h9
  rw [hL.2.1]
  show zK x g ({ frames := 5, cells := 0, slots := 0, locals := 118 } : Room) 2 0 0 5 [some (.ref (za g 21)), some (.int (nI k))] [.int 1] ν1
  refine k_if_eq S dX4_center_5 (tgt := 15) (by decide) (n := 8) rfl (fun h9 => absurd h9 (by decide)) (fun _ => ?_)
  refine k_aload0 S dX4_center_8 (n := 9) rfl ?_
  refine k_getv (v := zLC μ ph k d s) (T := TX4) (j := 16) S dX4_center_9 (by rw [hn]; decide) (by decide) (ci := 4) rfl rfl (by decide) in_4 m_688 rfl rfl hL.2.2.1 (n := 12) rfl ?_
  refine k_goto S dX4_center_12 (tgt := 16) (by decide) ?_
  exact k_iret S Y dX4_center_16 (by decide) (by decide) rfl (⟨rfl, hL.1⟩)
set_option maxRecDepth 100000 in
set_option maxHeartbeats 4000000 in
theorem c_X4_center_t2 {l : Launch} {g : zG} {μ : zM} {k : Nat} {d c s : Nat} {ph fs : Nat → Nat}  (hn : zn g = 32) (Q : zQ μ d c s ph fs) (hk : k < c) (hl : ¬ zHas μ ph k d) : zC l g yX4_center cX4_center 2 (some .int) ({ frames := 5, cells := 0, slots := 0, locals := 118 } : Room) 0 0 [.ref (za g 21), .int (nI k)] μ (zRn μ (some (.int (0))) 2) zNX := by
  refine zC_of (L0 := [some (.ref (za g 21)), some (.int (nI k))]) (plainFor_of_name (by decide)) (Nat.le_of_ble_eq_true rfl) rfl ?_
  intro x S Y hxl
  subst hxl
  refine k_aload0 S dX4_center_0 (n := 1) rfl ?_
  refine k_iload1 S dX4_center_1 (n := 2) rfl ?_
  refine k_callV (As := [.int (nI k)]) (rest := []) (p := 21) S (c_X4_isLimited_t2 hn Q hk hl) mv_X4_isLimited m_836 dX4_center_2 rfl rfl ⟨by decide, by decide⟩ (by rw [hn]; decide) (by decide) (ci := 4) rfl rfl rfl (Nat.le_of_ble_eq_true rfl) ⟨by decide, by decide⟩ (n := 5) rfl (fun _ _ h => h.elim) (fun v9 ν1 h9 => ?_)
  have hL := h9
  rw [hL.1]
  show zK x g ({ frames := 5, cells := 0, slots := 0, locals := 118 } : Room) 2 0 0 5 [some (.ref (za g 21)), some (.int (nI k))] [.int 0] ν1
  refine k_if_eq S dX4_center_5 (tgt := 15) (by decide) (n := 8) rfl (fun _ => ?_) (fun h9 => absurd (by decide) h9)
  refine k_iconst S dX4_center_15 (v := 0) (by decide) (n := 16) rfl ?_
  exact k_iret S Y dX4_center_16 (by decide) (by decide) rfl (⟨rfl, hL.2⟩)
set_option maxRecDepth 100000 in
set_option maxHeartbeats 4000000 in
theorem c_X4_center_no {l : Launch} {g : zG} {μ : zM} {v : Int32} {d c s : Nat} {ph fs : Nat → Nat}  (hn : zn g = 32) (Q : zQ μ d c s ph fs) (hk : ¬ zIn v c) : zC l g yX4_center cX4_center 2 (some .int) ({ frames := 5, cells := 0, slots := 0, locals := 118 } : Room) 0 0 [.ref (za g 21), .int v] μ (zRn μ (some (.int (0))) 1) zNX := by
  refine zC_of (L0 := [some (.ref (za g 21)), some (.int v)]) (plainFor_of_name (by decide)) (Nat.le_of_ble_eq_true rfl) rfl ?_
  intro x S Y hxl
  subst hxl
  refine k_aload0 S dX4_center_0 (n := 1) rfl ?_
  refine k_iload1 S dX4_center_1 (n := 2) rfl ?_
  refine k_callV (As := [.int v]) (rest := []) (p := 21) S (c_X4_isLimited_no hn Q hk) mv_X4_isLimited m_836 dX4_center_2 rfl rfl ⟨by decide, by decide⟩ (by rw [hn]; decide) (by decide) (ci := 4) rfl rfl rfl (Nat.le_of_ble_eq_true rfl) ⟨by decide, by decide⟩ (n := 5) rfl (fun _ _ h => h.elim) (fun v9 ν1 h9 => ?_)
  have hL := h9
  rw [hL.1]
  show zK x g ({ frames := 5, cells := 0, slots := 0, locals := 118 } : Room) 2 0 0 5 [some (.ref (za g 21)), some (.int v)] [.int 0] ν1
  refine k_if_eq S dX4_center_5 (tgt := 15) (by decide) (n := 8) rfl (fun _ => ?_) (fun h9 => absurd (by decide) h9)
  refine k_iconst S dX4_center_15 (v := 0) (by decide) (n := 16) rfl ?_
  exact k_iret S Y dX4_center_16 (by decide) (by decide) rfl (⟨rfl, hL.2⟩)
set_option maxRecDepth 100000 in
set_option maxHeartbeats 4000000 in
theorem c_X4_width_ok {l : Launch} {g : zG} {μ : zM} {k : Nat} {d c s : Nat} {ph fs : Nat → Nat}  (hn : zn g = 32) (Q : zQ μ d c s ph fs) (hk : k < c) (hl : zHas μ ph k d) : zC l g yX4_width cX4_width 2 (some .int) ({ frames := 5, cells := 0, slots := 0, locals := 118 } : Room) 0 0 [.ref (za g 21), .int (nI k)] μ (zRn μ (some (.int (zWd s 0 (zLR μ ph k d)))) 0) zNX := by
  refine zC_of (L0 := [some (.ref (za g 21)), some (.int (nI k))]) (plainFor_of_name (by decide)) (Nat.le_of_ble_eq_true rfl) rfl ?_
  intro x S Y hxl
  subst hxl
  refine k_aload0 S dX4_width_0 (n := 1) rfl ?_
  refine k_iload1 S dX4_width_1 (n := 2) rfl ?_
  refine k_callV (As := [.int (nI k)]) (rest := []) (p := 21) S (c_X4_isLimited_ok hn Q hk hl) mv_X4_isLimited m_836 dX4_width_2 rfl rfl ⟨by decide, by decide⟩ (by rw [hn]; decide) (by decide) (ci := 4) rfl rfl rfl (Nat.le_of_ble_eq_true rfl) ⟨by decide, by decide⟩ (n := 5) rfl (fun _ _ h => h.elim) (fun v9 ν1 h9 => ?_)
  have hL := h9
  rw [hL.2.1]
  show zK x g ({ frames := 5, cells := 0, slots := 0, locals := 118 } : Room) 2 0 0 5 [some (.ref (za g 21)), some (.int (nI k))] [.int 1] ν1
  refine k_if_eq S dX4_width_5 (tgt := 15) (by decide) (n := 8) rfl (fun h9 => absurd h9 (by decide)) (fun _ => ?_)
  refine k_aload0 S dX4_width_8 (n := 9) rfl ?_
  refine k_getv (v := zWd s 0 (zLR μ ph k d)) (T := TX4) (j := 18) S dX4_width_9 (by rw [hn]; decide) (by decide) (ci := 4) rfl rfl (by decide) in_4 m_690 rfl rfl hL.2.2.2.1 (n := 12) rfl ?_
  refine k_goto S dX4_width_12 (tgt := 16) (by decide) ?_
  exact k_iret S Y dX4_width_16 (by decide) (by decide) rfl (⟨rfl, hL.1⟩)
set_option maxRecDepth 100000 in
set_option maxHeartbeats 4000000 in
theorem c_X4_width_t2 {l : Launch} {g : zG} {μ : zM} {k : Nat} {d c s : Nat} {ph fs : Nat → Nat}  (hn : zn g = 32) (Q : zQ μ d c s ph fs) (hk : k < c) (hl : ¬ zHas μ ph k d) : zC l g yX4_width cX4_width 2 (some .int) ({ frames := 5, cells := 0, slots := 0, locals := 118 } : Room) 0 0 [.ref (za g 21), .int (nI k)] μ (zRn μ (some (.int (0))) 2) zNX := by
  refine zC_of (L0 := [some (.ref (za g 21)), some (.int (nI k))]) (plainFor_of_name (by decide)) (Nat.le_of_ble_eq_true rfl) rfl ?_
  intro x S Y hxl
  subst hxl
  refine k_aload0 S dX4_width_0 (n := 1) rfl ?_
  refine k_iload1 S dX4_width_1 (n := 2) rfl ?_
  refine k_callV (As := [.int (nI k)]) (rest := []) (p := 21) S (c_X4_isLimited_t2 hn Q hk hl) mv_X4_isLimited m_836 dX4_width_2 rfl rfl ⟨by decide, by decide⟩ (by rw [hn]; decide) (by decide) (ci := 4) rfl rfl rfl (Nat.le_of_ble_eq_true rfl) ⟨by decide, by decide⟩ (n := 5) rfl (fun _ _ h => h.elim) (fun v9 ν1 h9 => ?_)
  have hL := h9
  rw [hL.1]
  show zK x g ({ frames := 5, cells := 0, slots := 0, locals := 118 } : Room) 2 0 0 5 [some (.ref (za g 21)), some (.int (nI k))] [.int 0] ν1
  refine k_if_eq S dX4_width_5 (tgt := 15) (by decide) (n := 8) rfl (fun _ => ?_) (fun h9 => absurd (by decide) h9)
  refine k_iconst S dX4_width_15 (v := 0) (by decide) (n := 16) rfl ?_
  exact k_iret S Y dX4_width_16 (by decide) (by decide) rfl (⟨rfl, hL.2⟩)
set_option maxRecDepth 100000 in
set_option maxHeartbeats 4000000 in
theorem c_X4_width_no {l : Launch} {g : zG} {μ : zM} {v : Int32} {d c s : Nat} {ph fs : Nat → Nat}  (hn : zn g = 32) (Q : zQ μ d c s ph fs) (hk : ¬ zIn v c) : zC l g yX4_width cX4_width 2 (some .int) ({ frames := 5, cells := 0, slots := 0, locals := 118 } : Room) 0 0 [.ref (za g 21), .int v] μ (zRn μ (some (.int (0))) 1) zNX := by
  refine zC_of (L0 := [some (.ref (za g 21)), some (.int v)]) (plainFor_of_name (by decide)) (Nat.le_of_ble_eq_true rfl) rfl ?_
  intro x S Y hxl
  subst hxl
  refine k_aload0 S dX4_width_0 (n := 1) rfl ?_
  refine k_iload1 S dX4_width_1 (n := 2) rfl ?_
  refine k_callV (As := [.int v]) (rest := []) (p := 21) S (c_X4_isLimited_no hn Q hk) mv_X4_isLimited m_836 dX4_width_2 rfl rfl ⟨by decide, by decide⟩ (by rw [hn]; decide) (by decide) (ci := 4) rfl rfl rfl (Nat.le_of_ble_eq_true rfl) ⟨by decide, by decide⟩ (n := 5) rfl (fun _ _ h => h.elim) (fun v9 ν1 h9 => ?_)
  have hL := h9
  rw [hL.1]
  show zK x g ({ frames := 5, cells := 0, slots := 0, locals := 118 } : Room) 2 0 0 5 [some (.ref (za g 21)), some (.int v)] [.int 0] ν1
  refine k_if_eq S dX4_width_5 (tgt := 15) (by decide) (n := 8) rfl (fun _ => ?_) (fun h9 => absurd (by decide) h9)
  refine k_iconst S dX4_width_15 (v := 0) (by decide) (n := 16) rfl ?_
  exact k_iret S Y dX4_width_16 (by decide) (by decide) rfl (⟨rfl, hL.2⟩)
set_option maxRecDepth 100000 in
set_option maxHeartbeats 4000000 in
theorem c_X4_rangeLimit_ok {l : Launch} {g : zG} {μ : zM} {k : Nat} {d c s : Nat} {ph fs : Nat → Nat}  (hn : zn g = 32) (Q : zQ μ d c s ph fs) (hk : k < c) (hl : zHas μ ph k d) : zC l g yX4_rangeLimit cX4_rangeLimit 2 (some .int) ({ frames := 5, cells := 0, slots := 0, locals := 118 } : Room) 0 0 [.ref (za g 21), .int (nI k)] μ (zRn μ (some (.int (zWd s 1 (zLR μ ph k d)))) 0) zNX := by
  refine zC_of (L0 := [some (.ref (za g 21)), some (.int (nI k))]) (plainFor_of_name (by decide)) (Nat.le_of_ble_eq_true rfl) rfl ?_
  intro x S Y hxl
  subst hxl
  refine k_aload0 S dX4_rangeLimit_0 (n := 1) rfl ?_
  refine k_iload1 S dX4_rangeLimit_1 (n := 2) rfl ?_
  refine k_callV (As := [.int (nI k)]) (rest := []) (p := 21) S (c_X4_isLimited_ok hn Q hk hl) mv_X4_isLimited m_836 dX4_rangeLimit_2 rfl rfl ⟨by decide, by decide⟩ (by rw [hn]; decide) (by decide) (ci := 4) rfl rfl rfl (Nat.le_of_ble_eq_true rfl) ⟨by decide, by decide⟩ (n := 5) rfl (fun _ _ h => h.elim) (fun v9 ν1 h9 => ?_)
  have hL := h9
  rw [hL.2.1]
  show zK x g ({ frames := 5, cells := 0, slots := 0, locals := 118 } : Room) 2 0 0 5 [some (.ref (za g 21)), some (.int (nI k))] [.int 1] ν1
  refine k_if_eq S dX4_rangeLimit_5 (tgt := 15) (by decide) (n := 8) rfl (fun h9 => absurd h9 (by decide)) (fun _ => ?_)
  refine k_aload0 S dX4_rangeLimit_8 (n := 9) rfl ?_
  refine k_getv (v := zWd s 1 (zLR μ ph k d)) (T := TX4) (j := 19) S dX4_rangeLimit_9 (by rw [hn]; decide) (by decide) (ci := 4) rfl rfl (by decide) in_4 m_691 rfl rfl hL.2.2.2.2 (n := 12) rfl ?_
  refine k_goto S dX4_rangeLimit_12 (tgt := 16) (by decide) ?_
  exact k_iret S Y dX4_rangeLimit_16 (by decide) (by decide) rfl (⟨rfl, hL.1⟩)
set_option maxRecDepth 100000 in
set_option maxHeartbeats 4000000 in
theorem c_X4_rangeLimit_t2 {l : Launch} {g : zG} {μ : zM} {k : Nat} {d c s : Nat} {ph fs : Nat → Nat}  (hn : zn g = 32) (Q : zQ μ d c s ph fs) (hk : k < c) (hl : ¬ zHas μ ph k d) : zC l g yX4_rangeLimit cX4_rangeLimit 2 (some .int) ({ frames := 5, cells := 0, slots := 0, locals := 118 } : Room) 0 0 [.ref (za g 21), .int (nI k)] μ (zRn μ (some (.int (0))) 2) zNX := by
  refine zC_of (L0 := [some (.ref (za g 21)), some (.int (nI k))]) (plainFor_of_name (by decide)) (Nat.le_of_ble_eq_true rfl) rfl ?_
  intro x S Y hxl
  subst hxl
  refine k_aload0 S dX4_rangeLimit_0 (n := 1) rfl ?_
  refine k_iload1 S dX4_rangeLimit_1 (n := 2) rfl ?_
  refine k_callV (As := [.int (nI k)]) (rest := []) (p := 21) S (c_X4_isLimited_t2 hn Q hk hl) mv_X4_isLimited m_836 dX4_rangeLimit_2 rfl rfl ⟨by decide, by decide⟩ (by rw [hn]; decide) (by decide) (ci := 4) rfl rfl rfl (Nat.le_of_ble_eq_true rfl) ⟨by decide, by decide⟩ (n := 5) rfl (fun _ _ h => h.elim) (fun v9 ν1 h9 => ?_)
  have hL := h9
  rw [hL.1]
  show zK x g ({ frames := 5, cells := 0, slots := 0, locals := 118 } : Room) 2 0 0 5 [some (.ref (za g 21)), some (.int (nI k))] [.int 0] ν1
  refine k_if_eq S dX4_rangeLimit_5 (tgt := 15) (by decide) (n := 8) rfl (fun _ => ?_) (fun h9 => absurd (by decide) h9)
  refine k_iconst S dX4_rangeLimit_15 (v := 0) (by decide) (n := 16) rfl ?_
  exact k_iret S Y dX4_rangeLimit_16 (by decide) (by decide) rfl (⟨rfl, hL.2⟩)
set_option maxRecDepth 100000 in
set_option maxHeartbeats 4000000 in
theorem c_X4_rangeLimit_no {l : Launch} {g : zG} {μ : zM} {v : Int32} {d c s : Nat} {ph fs : Nat → Nat}  (hn : zn g = 32) (Q : zQ μ d c s ph fs) (hk : ¬ zIn v c) : zC l g yX4_rangeLimit cX4_rangeLimit 2 (some .int) ({ frames := 5, cells := 0, slots := 0, locals := 118 } : Room) 0 0 [.ref (za g 21), .int v] μ (zRn μ (some (.int (0))) 1) zNX := by
  refine zC_of (L0 := [some (.ref (za g 21)), some (.int v)]) (plainFor_of_name (by decide)) (Nat.le_of_ble_eq_true rfl) rfl ?_
  intro x S Y hxl
  subst hxl
  refine k_aload0 S dX4_rangeLimit_0 (n := 1) rfl ?_
  refine k_iload1 S dX4_rangeLimit_1 (n := 2) rfl ?_
  refine k_callV (As := [.int v]) (rest := []) (p := 21) S (c_X4_isLimited_no hn Q hk) mv_X4_isLimited m_836 dX4_rangeLimit_2 rfl rfl ⟨by decide, by decide⟩ (by rw [hn]; decide) (by decide) (ci := 4) rfl rfl rfl (Nat.le_of_ble_eq_true rfl) ⟨by decide, by decide⟩ (n := 5) rfl (fun _ _ h => h.elim) (fun v9 ν1 h9 => ?_)
  have hL := h9
  rw [hL.1]
  show zK x g ({ frames := 5, cells := 0, slots := 0, locals := 118 } : Room) 2 0 0 5 [some (.ref (za g 21)), some (.int v)] [.int 0] ν1
  refine k_if_eq S dX4_rangeLimit_5 (tgt := 15) (by decide) (n := 8) rfl (fun _ => ?_) (fun h9 => absurd (by decide) h9)
  refine k_iconst S dX4_rangeLimit_15 (v := 0) (by decide) (n := 16) rfl ?_
  exact k_iret S Y dX4_rangeLimit_16 (by decide) (by decide) rfl (⟨rfl, hL.2⟩)
