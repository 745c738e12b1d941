section K15
variable {x : zX} {g : zG} {R : Room} {nL ce sl pc n : Nat} {L : List (Option Value)} {st : List Value} {μ : zM} {cc : ByteArray} {own : String}
theorem k_tsw {a : Int32} {dflt lo hi off : Int} {offs : Array Int} {len tgt : Nat} (S : zS x g nL cc own) (hd : decode cc pc = .ok (.tableswitch dflt lo hi offs, len)) (h1 : ¬ a.toInt < lo) (h2 : ¬ hi < a.toInt) (ho : offs[(a.toInt - lo).toNat]? = some off) (ht : (pc : Int) + off = (tgt : Int)) (k : zK x g R nL ce sl tgt L st μ) : zK x g R nL ce sl pc L (.int a :: st) μ := fun H locs ls hP hS hl => lv_tableIn S.ex S.by hd h1 h2 ho ht (k H locs ls hP hS hl)
theorem k_tswo {a : Int32} {dflt lo hi : Int} {offs : Array Int} {len tgt : Nat} (S : zS x g nL cc own) (hd : decode cc pc = .ok (.tableswitch dflt lo hi offs, len)) (h : a.toInt < lo ∨ hi < a.toInt) (ht : (pc : Int) + dflt = (tgt : Int)) (k : zK x g R nL ce sl tgt L st μ) : zK x g R nL ce sl pc L (.int a :: st) μ := fun H locs ls hP hS hl => lv_tableOut S.ex S.by hd h ht (k H locs ls hP hS hl)
end K15
/-! WHAT THE WINDOW SAYS OF A RULE -/
def zWb (r n : Nat) (lv : Nat → Int32) (ce w : Int32) : Prop := match r with
  | 1 => 1 ≤ n ∧ ¬ zsb (lv 0) ce w 3 = 0
  | 2 => 9 ≤ n ∧ (zdir ce (lv 0) ≠ 0 ∧ ∀ i, i < 9 → zdir ce (lv i) = zdir ce (lv 0))
  | 3 => 6 ≤ n ∧ (zdir (lv 1) (lv 0) ≠ 0 ∧ ∀ i, i + 1 < 6 → zdir (lv (i + 1)) (lv i) = zdir (lv 1) (lv 0))
  | 4 => 14 ≤ n ∧ (zdir (lv 1) (lv 0) ≠ 0 ∧ ∀ i, 1 ≤ i → i + 1 < 14 → zdir (lv (i + 1)) (lv i) = -(zdir (lv i) (lv (i - 1))))
  | 5 => 3 ≤ n ∧ (zsb (lv 0) ce w 2 ≠ 0 ∧ 2 ≤ nI (zct (fun i => zsb (lv i) ce w 2 = zsb (lv 0) ce w 2) 3))
  | 6 => 5 ≤ n ∧ (zsb (lv 0) ce w 1 ≠ 0 ∧ 4 ≤ nI (zct (fun i => zsb (lv i) ce w 1 = zsb (lv 0) ce w 1) 5))
  | 7 => 15 ≤ n ∧ nI (zct (fun i => ¬ zsb (lv i) ce w 1 = 0) 15) = 0
  | _ => 8 ≤ n ∧ nI (zct (fun i => ¬ zsb (lv i) ce w 1 = 0) 8) = 8
set_option maxRecDepth 100000 in
set_option maxHeartbeats 4000000 in
theorem c_X2_breaks1 {l : Launch} {g : zG} {μ : zM} {k n : Nat} {ce w : Int32} (hk : k < 10) (hc : μ.1 (11 + k) 5 = ce) (hw : μ.1 (11 + k) 7 = w) (hn : μ.1 8 2 = nI n) (hn15 : n ≤ 15) : zC l g yX2_breaks cX2_breaks 4 (some .boolean) ({ frames := 3, cells := 0, slots := 0, locals := 66 } : Room) 0 0 [.ref (za g 8), .int 1, .ref (za g (11 + k))] μ (zRv (some (.int (zpb (zWb 1 n (μ.1 10) ce w)))) μ) zNX := by
  refine zC_of (L0 := [some (.ref (za g 8)), some (.int 1), some (.ref (za g (11 + k))), none]) (plainFor_of_name (by decide)) (Nat.le_of_ble_eq_true rfl) rfl ?_
  intro x S Y hxl
  subst hxl
  refine k_iload1 S dX2_breaks_0 (n := 1) rfl ?_
  refine k_callSN (As := [.int 1]) (rest := []) (host := RX3) S (c_pr1) mv_X3_pointsOfRule (by decide +kernel) dX2_breaks_1 rfl rfl ⟨by decide, by decide⟩ rfl rfl (Nat.le_of_ble_eq_true rfl) ⟨by decide, by decide⟩ (n := 4) rfl (fun _ _ h => h.elim) (fun v9 ν9 h9 => ?_)
  rw [h9.1, h9.2]
  show zK x g ({ frames := 3, cells := 0, slots := 0, locals := 66 } : Room) 4 0 0 4 [some (.ref (za g 8)), some (.int 1), some (.ref (za g (11 + k))), none] [.int 1] μ
  refine k_istore3 S dX2_breaks_4 (by decide) rfl (n := 5) rfl ?_
  refine k_iload3 S dX2_breaks_5 (n := 6) rfl ?_
  refine k_iconst S dX2_breaks_6 (v := 1) (by decide) (n := 7) rfl ?_
  refine k_icmp_lt S dX2_breaks_7 (tgt := 18) (by decide) (n := 10) rfl (fun h9 => absurd h9 (by decide)) (fun _ => ?_)
  refine k_iload3 S dX2_breaks_10 (n := 11) rfl ?_
  refine k_aload0 S dX2_breaks_11 (n := 12) rfl ?_
  refine k_getv (v := nI n) (T := TX2) (j := 2) S dX2_breaks_12 (zlt S (by decide)) (by decide) (ci := 2) rfl rfl (by decide) in_2 m_129 rfl rfl hn (n := 15) rfl ?_
  refine k_icmp_le S dX2_breaks_15 (tgt := 20) (by decide) (n := 18) rfl (fun c1 => ?_) (fun c1 => ?_)
  ·
    have h1 : 1 ≤ n := (nI_leI (by omega) (by omega)).mp (show nI 1 ≤ nI n from c1)
    refine k_iload1 S dX2_breaks_20 (n := 21) rfl ?_
    refine k_tsw S dX2_breaks_21 (off := 47) (tgt := 68) (by decide) (by decide) (by decide) (by decide) ?_
    refine k_aload2 S dX2_breaks_68 (n := 69) rfl ?_
    refine k_aload0 S dX2_breaks_69 (n := 70) rfl ?_
    refine k_getr (r := 10) (T := TX2) (j := 1) S dX2_breaks_70 (zlt S (by decide)) (by decide) (ci := 2) rfl rfl (by decide) in_2 m_128 rfl rfl (n := 73) rfl ?_
    refine k_iconst S dX2_breaks_73 (v := 0) (by decide) (n := 74) rfl ?_
    refine k_iald S dX2_breaks_74 (j := 0) (zlt S (by decide)) (by decide) (by decide) (by decide) (by decide) (n := 75) rfl ?_
    refine k_iconst S dX2_breaks_75 (v := 3) (by decide) (n := 76) rfl ?_
    refine k_callV (As := [.int (μ.1 10 0), .int 3]) (rest := []) (p := 11 + k) S (c_X0_beyond (k := k) hk (ce := ce) (w := w) hc hw) mv_X0_sideBeyond m_548 dX2_breaks_76 rfl rfl ⟨by decide, by decide⟩ (zlt S (by omega)) (zki_ph hk) (ci := 0) rfl rfl rfl (Nat.le_of_ble_eq_true rfl) ⟨by decide, by decide⟩ (n := 79) rfl (fun _ _ h => h.elim) (fun v9 ν9 h9 => ?_)
    rw [h9.1, h9.2]
    show zK x g ({ frames := 3, cells := 0, slots := 0, locals := 66 } : Room) 4 0 0 79 [some (.ref (za g 8)), some (.int 1), some (.ref (za g (11 + k))), some (.int 1)] [.int (zsb (μ.1 10 0) ce w 3)] μ
    have hJ2 : zK x g ({ frames := 3, cells := 0, slots := 0, locals := 66 } : Room) 4 0 0 87 [some (.ref (za g 8)), some (.int 1), some (.ref (za g (11 + k))), some (.int 1)] [.int ((if (zsb (μ.1 10 0) ce w 3) = 0 then (0 : Int32) else (1 : Int32)))] μ := by
      exact k_iret S Y dX2_breaks_87 (by decide) (by decide) (by rw [zpb_n]; exact zpb_nar _) (⟨congrArg (fun z => some (Value.int z)) (by rw [zpb_n]; exact zpb_c ⟨fun q => ⟨h1, q⟩, fun q => q.2⟩), rfl⟩)
    refine k_if_eq S dX2_breaks_79 (tgt := 86) (by decide) (n := 82) rfl (fun c1 => ?_) (fun c1 => ?_)
    ·
      refine k_iconst S dX2_breaks_86 (v := 0) (by decide) (n := 87) rfl ?_
      rw [if_pos c1] at hJ2
      exact hJ2
    ·
      refine k_iconst S dX2_breaks_82 (v := 1) (by decide) (n := 83) rfl ?_
      refine k_goto S dX2_breaks_83 (tgt := 87) (by decide) ?_
      rw [if_neg c1] at hJ2
      exact hJ2
  ·
    refine k_iconst S dX2_breaks_18 (v := 0) (by decide) (n := 19) rfl ?_
    exact k_iret S Y dX2_breaks_19 (by decide) (by decide) rfl (⟨congrArg (fun z => some (Value.int z)) ((zpb_f (fun q => c1 (show nI 1 ≤ nI n from nI_le q.1 (by omega)))).symm), rfl⟩)
set_option maxRecDepth 100000 in
set_option maxHeartbeats 4000000 in
theorem c_X2_breaks2 {l : Launch} {g : zG} {μ : zM} {k n : Nat} {ce w : Int32} (hk : k < 10) (hc : μ.1 (11 + k) 5 = ce) (hw : μ.1 (11 + k) 7 = w) (hn : μ.1 8 2 = nI n) (hn15 : n ≤ 15) : zC l g yX2_breaks cX2_breaks 4 (some .boolean) ({ frames := 3, cells := 0, slots := 0, locals := 66 } : Room) 0 0 [.ref (za g 8), .int 2, .ref (za g (11 + k))] μ (zRv (some (.int (zpb (zWb 2 n (μ.1 10) ce w)))) μ) zNX := by
  refine zC_of (L0 := [some (.ref (za g 8)), some (.int 2), some (.ref (za g (11 + k))), none]) (plainFor_of_name (by decide)) (Nat.le_of_ble_eq_true rfl) rfl ?_
  intro x S Y hxl
  subst hxl
  refine k_iload1 S dX2_breaks_0 (n := 1) rfl ?_
  refine k_callSN (As := [.int 2]) (rest := []) (host := RX3) S (c_pr2) mv_X3_pointsOfRule (by decide +kernel) dX2_breaks_1 rfl rfl ⟨by decide, by decide⟩ rfl rfl (Nat.le_of_ble_eq_true rfl) ⟨by decide, by decide⟩ (n := 4) rfl (fun _ _ h => h.elim) (fun v9 ν9 h9 => ?_)
  rw [h9.1, h9.2]
  show zK x g ({ frames := 3, cells := 0, slots := 0, locals := 66 } : Room) 4 0 0 4 [some (.ref (za g 8)), some (.int 2), some (.ref (za g (11 + k))), none] [.int 9] μ
  refine k_istore3 S dX2_breaks_4 (by decide) rfl (n := 5) rfl ?_
  refine k_iload3 S dX2_breaks_5 (n := 6) rfl ?_
  refine k_iconst S dX2_breaks_6 (v := 1) (by decide) (n := 7) rfl ?_
  refine k_icmp_lt S dX2_breaks_7 (tgt := 18) (by decide) (n := 10) rfl (fun h9 => absurd h9 (by decide)) (fun _ => ?_)
  refine k_iload3 S dX2_breaks_10 (n := 11) rfl ?_
  refine k_aload0 S dX2_breaks_11 (n := 12) rfl ?_
  refine k_getv (v := nI n) (T := TX2) (j := 2) S dX2_breaks_12 (zlt S (by decide)) (by decide) (ci := 2) rfl rfl (by decide) in_2 m_129 rfl rfl hn (n := 15) rfl ?_
  refine k_icmp_le S dX2_breaks_15 (tgt := 20) (by decide) (n := 18) rfl (fun c1 => ?_) (fun c1 => ?_)
  ·
    have h1 : 9 ≤ n := (nI_leI (by omega) (by omega)).mp (show nI 9 ≤ nI n from c1)
    refine k_iload1 S dX2_breaks_20 (n := 21) rfl ?_
    refine k_tsw S dX2_breaks_21 (off := 67) (tgt := 88) (by decide) (by decide) (by decide) (by decide) ?_
    refine k_aload0 S dX2_breaks_88 (n := 89) rfl ?_
    refine k_iload3 S dX2_breaks_89 (n := 90) rfl ?_
    refine k_aload2 S dX2_breaks_90 (n := 91) rfl ?_
    refine k_callV (As := [.int 9, .ref (za g (11 + k))]) (rest := []) (p := 8) S (c_X2_isOnOneSide (n := 9) hk (by decide) (by decide) hc) mv_X2_isOnOneSide m_549 dX2_breaks_91 rfl rfl ⟨by decide, by decide⟩ (zlt S (by decide)) (by decide) (ci := 2) rfl rfl rfl (Nat.le_of_ble_eq_true rfl) ⟨by decide, by decide⟩ (n := 94) rfl (fun _ _ h => h.elim) (fun v9 ν9 h9 => ?_)
    rw [h9.1, h9.2]
    show zK x g ({ frames := 3, cells := 0, slots := 0, locals := 66 } : Room) 4 0 0 94 [some (.ref (za g 8)), some (.int 2), some (.ref (za g (11 + k))), some (.int 9)] [.int (zpb (zdir ce (μ.1 10 0) ≠ 0 ∧ ∀ i, i < 9 → zdir ce (μ.1 10 i) = zdir ce (μ.1 10 0)))] μ
    exact k_iret S Y dX2_breaks_94 (by decide) (by decide) (zpb_nar _) (⟨congrArg (fun z => some (Value.int z)) (zpb_c ⟨fun q => ⟨h1, q⟩, fun q => q.2⟩), rfl⟩)
  ·
    refine k_iconst S dX2_breaks_18 (v := 0) (by decide) (n := 19) rfl ?_
    exact k_iret S Y dX2_breaks_19 (by decide) (by decide) rfl (⟨congrArg (fun z => some (Value.int z)) ((zpb_f (fun q => c1 (show nI 9 ≤ nI n from nI_le q.1 (by omega)))).symm), rfl⟩)
set_option maxRecDepth 100000 in
set_option maxHeartbeats 4000000 in
theorem c_X2_breaks3 {l : Launch} {g : zG} {μ : zM} {k n : Nat} {ce w : Int32} (hk : k < 10) (hc : μ.1 (11 + k) 5 = ce) (hw : μ.1 (11 + k) 7 = w) (hn : μ.1 8 2 = nI n) (hn15 : n ≤ 15) : zC l g yX2_breaks cX2_breaks 4 (some .boolean) ({ frames := 3, cells := 0, slots := 0, locals := 66 } : Room) 0 0 [.ref (za g 8), .int 3, .ref (za g (11 + k))] μ (zRv (some (.int (zpb (zWb 3 n (μ.1 10) ce w)))) μ) zNX := by
  refine zC_of (L0 := [some (.ref (za g 8)), some (.int 3), some (.ref (za g (11 + k))), none]) (plainFor_of_name (by decide)) (Nat.le_of_ble_eq_true rfl) rfl ?_
  intro x S Y hxl
  subst hxl
  refine k_iload1 S dX2_breaks_0 (n := 1) rfl ?_
  refine k_callSN (As := [.int 3]) (rest := []) (host := RX3) S (c_pr3) mv_X3_pointsOfRule (by decide +kernel) dX2_breaks_1 rfl rfl ⟨by decide, by decide⟩ rfl rfl (Nat.le_of_ble_eq_true rfl) ⟨by decide, by decide⟩ (n := 4) rfl (fun _ _ h => h.elim) (fun v9 ν9 h9 => ?_)
  rw [h9.1, h9.2]
  show zK x g ({ frames := 3, cells := 0, slots := 0, locals := 66 } : Room) 4 0 0 4 [some (.ref (za g 8)), some (.int 3), some (.ref (za g (11 + k))), none] [.int 6] μ
  refine k_istore3 S dX2_breaks_4 (by decide) rfl (n := 5) rfl ?_
  refine k_iload3 S dX2_breaks_5 (n := 6) rfl ?_
  refine k_iconst S dX2_breaks_6 (v := 1) (by decide) (n := 7) rfl ?_
  refine k_icmp_lt S dX2_breaks_7 (tgt := 18) (by decide) (n := 10) rfl (fun h9 => absurd h9 (by decide)) (fun _ => ?_)
  refine k_iload3 S dX2_breaks_10 (n := 11) rfl ?_
  refine k_aload0 S dX2_breaks_11 (n := 12) rfl ?_
  refine k_getv (v := nI n) (T := TX2) (j := 2) S dX2_breaks_12 (zlt S (by decide)) (by decide) (ci := 2) rfl rfl (by decide) in_2 m_129 rfl rfl hn (n := 15) rfl ?_
  refine k_icmp_le S dX2_breaks_15 (tgt := 20) (by decide) (n := 18) rfl (fun c1 => ?_) (fun c1 => ?_)
  ·
    have h1 : 6 ≤ n := (nI_leI (by omega) (by omega)).mp (show nI 6 ≤ nI n from c1)
    refine k_iload1 S dX2_breaks_20 (n := 21) rfl ?_
    refine k_tsw S dX2_breaks_21 (off := 74) (tgt := 95) (by decide) (by decide) (by decide) (by decide) ?_
    refine k_aload0 S dX2_breaks_95 (n := 96) rfl ?_
    refine k_iload3 S dX2_breaks_96 (n := 97) rfl ?_
    refine k_callV (As := [.int 6]) (rest := []) (p := 8) S (c_X2_isSteady (n := 6) (by decide) (by decide)) mv_X2_isSteady m_554 dX2_breaks_97 rfl rfl ⟨by decide, by decide⟩ (zlt S (by decide)) (by decide) (ci := 2) rfl rfl rfl (Nat.le_of_ble_eq_true rfl) ⟨by decide, by decide⟩ (n := 100) rfl (fun _ _ h => h.elim) (fun v9 ν9 h9 => ?_)
    rw [h9.1, h9.2]
    show zK x g ({ frames := 3, cells := 0, slots := 0, locals := 66 } : Room) 4 0 0 100 [some (.ref (za g 8)), some (.int 3), some (.ref (za g (11 + k))), some (.int 6)] [.int (zpb (zdir (μ.1 10 1) (μ.1 10 0) ≠ 0 ∧ ∀ i, i + 1 < 6 → zdir (μ.1 10 (i + 1)) (μ.1 10 i) = zdir (μ.1 10 1) (μ.1 10 0)))] μ
    exact k_iret S Y dX2_breaks_100 (by decide) (by decide) (zpb_nar _) (⟨congrArg (fun z => some (Value.int z)) (zpb_c ⟨fun q => ⟨h1, q⟩, fun q => q.2⟩), rfl⟩)
  ·
    refine k_iconst S dX2_breaks_18 (v := 0) (by decide) (n := 19) rfl ?_
    exact k_iret S Y dX2_breaks_19 (by decide) (by decide) rfl (⟨congrArg (fun z => some (Value.int z)) ((zpb_f (fun q => c1 (show nI 6 ≤ nI n from nI_le q.1 (by omega)))).symm), rfl⟩)
set_option maxRecDepth 100000 in
set_option maxHeartbeats 4000000 in
theorem c_X2_breaks4 {l : Launch} {g : zG} {μ : zM} {k n : Nat} {ce w : Int32} (hk : k < 10) (hc : μ.1 (11 + k) 5 = ce) (hw : μ.1 (11 + k) 7 = w) (hn : μ.1 8 2 = nI n) (hn15 : n ≤ 15) : zC l g yX2_breaks cX2_breaks 4 (some .boolean) ({ frames := 3, cells := 0, slots := 0, locals := 66 } : Room) 0 0 [.ref (za g 8), .int 4, .ref (za g (11 + k))] μ (zRv (some (.int (zpb (zWb 4 n (μ.1 10) ce w)))) μ) zNX := by
  refine zC_of (L0 := [some (.ref (za g 8)), some (.int 4), some (.ref (za g (11 + k))), none]) (plainFor_of_name (by decide)) (Nat.le_of_ble_eq_true rfl) rfl ?_
  intro x S Y hxl
  subst hxl
  refine k_iload1 S dX2_breaks_0 (n := 1) rfl ?_
  refine k_callSN (As := [.int 4]) (rest := []) (host := RX3) S (c_pr4) mv_X3_pointsOfRule (by decide +kernel) dX2_breaks_1 rfl rfl ⟨by decide, by decide⟩ rfl rfl (Nat.le_of_ble_eq_true rfl) ⟨by decide, by decide⟩ (n := 4) rfl (fun _ _ h => h.elim) (fun v9 ν9 h9 => ?_)
  rw [h9.1, h9.2]
  show zK x g ({ frames := 3, cells := 0, slots := 0, locals := 66 } : Room) 4 0 0 4 [some (.ref (za g 8)), some (.int 4), some (.ref (za g (11 + k))), none] [.int 14] μ
  refine k_istore3 S dX2_breaks_4 (by decide) rfl (n := 5) rfl ?_
  refine k_iload3 S dX2_breaks_5 (n := 6) rfl ?_
  refine k_iconst S dX2_breaks_6 (v := 1) (by decide) (n := 7) rfl ?_
  refine k_icmp_lt S dX2_breaks_7 (tgt := 18) (by decide) (n := 10) rfl (fun h9 => absurd h9 (by decide)) (fun _ => ?_)
  refine k_iload3 S dX2_breaks_10 (n := 11) rfl ?_
  refine k_aload0 S dX2_breaks_11 (n := 12) rfl ?_
  refine k_getv (v := nI n) (T := TX2) (j := 2) S dX2_breaks_12 (zlt S (by decide)) (by decide) (ci := 2) rfl rfl (by decide) in_2 m_129 rfl rfl hn (n := 15) rfl ?_
  refine k_icmp_le S dX2_breaks_15 (tgt := 20) (by decide) (n := 18) rfl (fun c1 => ?_) (fun c1 => ?_)
  ·
    have h1 : 14 ≤ n := (nI_leI (by omega) (by omega)).mp (show nI 14 ≤ nI n from c1)
    refine k_iload1 S dX2_breaks_20 (n := 21) rfl ?_
    refine k_tsw S dX2_breaks_21 (off := 80) (tgt := 101) (by decide) (by decide) (by decide) (by decide) ?_
    refine k_aload0 S dX2_breaks_101 (n := 102) rfl ?_
    refine k_iload3 S dX2_breaks_102 (n := 103) rfl ?_
    refine k_callV (As := [.int 14]) (rest := []) (p := 8) S (c_X2_isTurning (n := 14) (by decide) (by decide)) mv_X2_isTurning m_559 dX2_breaks_103 rfl rfl ⟨by decide, by decide⟩ (zlt S (by decide)) (by decide) (ci := 2) rfl rfl rfl (Nat.le_of_ble_eq_true rfl) ⟨by decide, by decide⟩ (n := 106) rfl (fun _ _ h => h.elim) (fun v9 ν9 h9 => ?_)
    rw [h9.1, h9.2]
    show zK x g ({ frames := 3, cells := 0, slots := 0, locals := 66 } : Room) 4 0 0 106 [some (.ref (za g 8)), some (.int 4), some (.ref (za g (11 + k))), some (.int 14)] [.int (zpb (zdir (μ.1 10 1) (μ.1 10 0) ≠ 0 ∧ ∀ i, 1 ≤ i → i + 1 < 14 → zdir (μ.1 10 (i + 1)) (μ.1 10 i) = -(zdir (μ.1 10 i) (μ.1 10 (i - 1)))))] μ
    exact k_iret S Y dX2_breaks_106 (by decide) (by decide) (zpb_nar _) (⟨congrArg (fun z => some (Value.int z)) (zpb_c ⟨fun q => ⟨h1, q⟩, fun q => q.2⟩), rfl⟩)
  ·
    refine k_iconst S dX2_breaks_18 (v := 0) (by decide) (n := 19) rfl ?_
    exact k_iret S Y dX2_breaks_19 (by decide) (by decide) rfl (⟨congrArg (fun z => some (Value.int z)) ((zpb_f (fun q => c1 (show nI 14 ≤ nI n from nI_le q.1 (by omega)))).symm), rfl⟩)
set_option maxRecDepth 100000 in
set_option maxHeartbeats 4000000 in
theorem c_X2_breaks5 {l : Launch} {g : zG} {μ : zM} {k n : Nat} {ce w : Int32} (hk : k < 10) (hc : μ.1 (11 + k) 5 = ce) (hw : μ.1 (11 + k) 7 = w) (hn : μ.1 8 2 = nI n) (hn15 : n ≤ 15) : zC l g yX2_breaks cX2_breaks 4 (some .boolean) ({ frames := 3, cells := 0, slots := 0, locals := 66 } : Room) 0 0 [.ref (za g 8), .int 5, .ref (za g (11 + k))] μ (zRv (some (.int (zpb (zWb 5 n (μ.1 10) ce w)))) μ) zNX := by
  refine zC_of (L0 := [some (.ref (za g 8)), some (.int 5), some (.ref (za g (11 + k))), none]) (plainFor_of_name (by decide)) (Nat.le_of_ble_eq_true rfl) rfl ?_
  intro x S Y hxl
  subst hxl
  refine k_iload1 S dX2_breaks_0 (n := 1) rfl ?_
  refine k_callSN (As := [.int 5]) (rest := []) (host := RX3) S (c_pr5) mv_X3_pointsOfRule (by decide +kernel) dX2_breaks_1 rfl rfl ⟨by decide, by decide⟩ rfl rfl (Nat.le_of_ble_eq_true rfl) ⟨by decide, by decide⟩ (n := 4) rfl (fun _ _ h => h.elim) (fun v9 ν9 h9 => ?_)
  rw [h9.1, h9.2]
  show zK x g ({ frames := 3, cells := 0, slots := 0, locals := 66 } : Room) 4 0 0 4 [some (.ref (za g 8)), some (.int 5), some (.ref (za g (11 + k))), none] [.int 3] μ
  refine k_istore3 S dX2_breaks_4 (by decide) rfl (n := 5) rfl ?_
  refine k_iload3 S dX2_breaks_5 (n := 6) rfl ?_
  refine k_iconst S dX2_breaks_6 (v := 1) (by decide) (n := 7) rfl ?_
  refine k_icmp_lt S dX2_breaks_7 (tgt := 18) (by decide) (n := 10) rfl (fun h9 => absurd h9 (by decide)) (fun _ => ?_)
  refine k_iload3 S dX2_breaks_10 (n := 11) rfl ?_
  refine k_aload0 S dX2_breaks_11 (n := 12) rfl ?_
  refine k_getv (v := nI n) (T := TX2) (j := 2) S dX2_breaks_12 (zlt S (by decide)) (by decide) (ci := 2) rfl rfl (by decide) in_2 m_129 rfl rfl hn (n := 15) rfl ?_
  refine k_icmp_le S dX2_breaks_15 (tgt := 20) (by decide) (n := 18) rfl (fun c1 => ?_) (fun c1 => ?_)
  ·
    have h1 : 3 ≤ n := (nI_leI (by omega) (by omega)).mp (show nI 3 ≤ nI n from c1)
    refine k_iload1 S dX2_breaks_20 (n := 21) rfl ?_
    refine k_tsw S dX2_breaks_21 (off := 86) (tgt := 107) (by decide) (by decide) (by decide) (by decide) ?_
    refine k_aload0 S dX2_breaks_107 (n := 108) rfl ?_
    refine k_iload3 S dX2_breaks_108 (n := 109) rfl ?_
    refine k_iconst S dX2_breaks_109 (v := 2) (by decide) (n := 110) rfl ?_
    refine k_iconst S dX2_breaks_110 (v := 2) (by decide) (n := 111) rfl ?_
    refine k_aload2 S dX2_breaks_111 (n := 112) rfl ?_
    refine k_callV (As := [.int 3, .int 2, .int 2, .ref (za g (11 + k))]) (rest := []) (p := 8) S (c_X2_isOften (n := 3) hk (by decide) hc hw) mv_X2_isOften m_563 dX2_breaks_112 rfl rfl ⟨by decide, by decide⟩ (zlt S (by decide)) (by decide) (ci := 2) rfl rfl rfl (Nat.le_of_ble_eq_true rfl) ⟨by decide, by decide⟩ (n := 115) rfl (fun _ _ h => h.elim) (fun v9 ν9 h9 => ?_)
    rw [h9.1, h9.2]
    show zK x g ({ frames := 3, cells := 0, slots := 0, locals := 66 } : Room) 4 0 0 115 [some (.ref (za g 8)), some (.int 5), some (.ref (za g (11 + k))), some (.int 3)] [.int (zpb (zsb (μ.1 10 0) ce w 2 ≠ 0 ∧ 2 ≤ nI (zct (fun i => zsb (μ.1 10 i) ce w 2 = zsb (μ.1 10 0) ce w 2) 3)))] μ
    exact k_iret S Y dX2_breaks_115 (by decide) (by decide) (zpb_nar _) (⟨congrArg (fun z => some (Value.int z)) (zpb_c ⟨fun q => ⟨h1, q⟩, fun q => q.2⟩), rfl⟩)
  ·
    refine k_iconst S dX2_breaks_18 (v := 0) (by decide) (n := 19) rfl ?_
    exact k_iret S Y dX2_breaks_19 (by decide) (by decide) rfl (⟨congrArg (fun z => some (Value.int z)) ((zpb_f (fun q => c1 (show nI 3 ≤ nI n from nI_le q.1 (by omega)))).symm), rfl⟩)
set_option maxRecDepth 100000 in
set_option maxHeartbeats 4000000 in
theorem c_X2_breaks6 {l : Launch} {g : zG} {μ : zM} {k n : Nat} {ce w : Int32} (hk : k < 10) (hc : μ.1 (11 + k) 5 = ce) (hw : μ.1 (11 + k) 7 = w) (hn : μ.1 8 2 = nI n) (hn15 : n ≤ 15) : zC l g yX2_breaks cX2_breaks 4 (some .boolean) ({ frames := 3, cells := 0, slots := 0, locals := 66 } : Room) 0 0 [.ref (za g 8), .int 6, .ref (za g (11 + k))] μ (zRv (some (.int (zpb (zWb 6 n (μ.1 10) ce w)))) μ) zNX := by
  refine zC_of (L0 := [some (.ref (za g 8)), some (.int 6), some (.ref (za g (11 + k))), none]) (plainFor_of_name (by decide)) (Nat.le_of_ble_eq_true rfl) rfl ?_
  intro x S Y hxl
  subst hxl
  refine k_iload1 S dX2_breaks_0 (n := 1) rfl ?_
  refine k_callSN (As := [.int 6]) (rest := []) (host := RX3) S (c_pr6) mv_X3_pointsOfRule (by decide +kernel) dX2_breaks_1 rfl rfl ⟨by decide, by decide⟩ rfl rfl (Nat.le_of_ble_eq_true rfl) ⟨by decide, by decide⟩ (n := 4) rfl (fun _ _ h => h.elim) (fun v9 ν9 h9 => ?_)
  rw [h9.1, h9.2]
  show zK x g ({ frames := 3, cells := 0, slots := 0, locals := 66 } : Room) 4 0 0 4 [some (.ref (za g 8)), some (.int 6), some (.ref (za g (11 + k))), none] [.int 5] μ
  refine k_istore3 S dX2_breaks_4 (by decide) rfl (n := 5) rfl ?_
  refine k_iload3 S dX2_breaks_5 (n := 6) rfl ?_
  refine k_iconst S dX2_breaks_6 (v := 1) (by decide) (n := 7) rfl ?_
  refine k_icmp_lt S dX2_breaks_7 (tgt := 18) (by decide) (n := 10) rfl (fun h9 => absurd h9 (by decide)) (fun _ => ?_)
  refine k_iload3 S dX2_breaks_10 (n := 11) rfl ?_
  refine k_aload0 S dX2_breaks_11 (n := 12) rfl ?_
  refine k_getv (v := nI n) (T := TX2) (j := 2) S dX2_breaks_12 (zlt S (by decide)) (by decide) (ci := 2) rfl rfl (by decide) in_2 m_129 rfl rfl hn (n := 15) rfl ?_
  refine k_icmp_le S dX2_breaks_15 (tgt := 20) (by decide) (n := 18) rfl (fun c1 => ?_) (fun c1 => ?_)
  ·
    have h1 : 5 ≤ n := (nI_leI (by omega) (by omega)).mp (show nI 5 ≤ nI n from c1)
    refine k_iload1 S dX2_breaks_20 (n := 21) rfl ?_
    refine k_tsw S dX2_breaks_21 (off := 95) (tgt := 116) (by decide) (by decide) (by decide) (by decide) ?_
    refine k_aload0 S dX2_breaks_116 (n := 117) rfl ?_
    refine k_iload3 S dX2_breaks_117 (n := 118) rfl ?_
    refine k_iconst S dX2_breaks_118 (v := 1) (by decide) (n := 119) rfl ?_
    refine k_iconst S dX2_breaks_119 (v := 4) (by decide) (n := 120) rfl ?_
    refine k_aload2 S dX2_breaks_120 (n := 121) rfl ?_
    refine k_callV (As := [.int 5, .int 1, .int 4, .ref (za g (11 + k))]) (rest := []) (p := 8) S (c_X2_isOften (n := 5) hk (by decide) hc hw) mv_X2_isOften m_563 dX2_breaks_121 rfl rfl ⟨by decide, by decide⟩ (zlt S (by decide)) (by decide) (ci := 2) rfl rfl rfl (Nat.le_of_ble_eq_true rfl) ⟨by decide, by decide⟩ (n := 124) rfl (fun _ _ h => h.elim) (fun v9 ν9 h9 => ?_)
    rw [h9.1, h9.2]
    show zK x g ({ frames := 3, cells := 0, slots := 0, locals := 66 } : Room) 4 0 0 124 [some (.ref (za g 8)), some (.int 6), some (.ref (za g (11 + k))), some (.int 5)] [.int (zpb (zsb (μ.1 10 0) ce w 1 ≠ 0 ∧ 4 ≤ nI (zct (fun i => zsb (μ.1 10 i) ce w 1 = zsb (μ.1 10 0) ce w 1) 5)))] μ
    exact k_iret S Y dX2_breaks_124 (by decide) (by decide) (zpb_nar _) (⟨congrArg (fun z => some (Value.int z)) (zpb_c ⟨fun q => ⟨h1, q⟩, fun q => q.2⟩), rfl⟩)
  ·
    refine k_iconst S dX2_breaks_18 (v := 0) (by decide) (n := 19) rfl ?_
    exact k_iret S Y dX2_breaks_19 (by decide) (by decide) rfl (⟨congrArg (fun z => some (Value.int z)) ((zpb_f (fun q => c1 (show nI 5 ≤ nI n from nI_le q.1 (by omega)))).symm), rfl⟩)
set_option maxRecDepth 100000 in
set_option maxHeartbeats 4000000 in
theorem c_X2_breaks7 {l : Launch} {g : zG} {μ : zM} {k n : Nat} {ce w : Int32} (hk : k < 10) (hc : μ.1 (11 + k) 5 = ce) (hw : μ.1 (11 + k) 7 = w) (hn : μ.1 8 2 = nI n) (hn15 : n ≤ 15) : zC l g yX2_breaks cX2_breaks 4 (some .boolean) ({ frames := 3, cells := 0, slots := 0, locals := 66 } : Room) 0 0 [.ref (za g 8), .int 7, .ref (za g (11 + k))] μ (zRv (some (.int (zpb (zWb 7 n (μ.1 10) ce w)))) μ) zNX := by
  refine zC_of (L0 := [some (.ref (za g 8)), some (.int 7), some (.ref (za g (11 + k))), none]) (plainFor_of_name (by decide)) (Nat.le_of_ble_eq_true rfl) rfl ?_
  intro x S Y hxl
  subst hxl
  refine k_iload1 S dX2_breaks_0 (n := 1) rfl ?_
  refine k_callSN (As := [.int 7]) (rest := []) (host := RX3) S (c_pr7) mv_X3_pointsOfRule (by decide +kernel) dX2_breaks_1 rfl rfl ⟨by decide, by decide⟩ rfl rfl (Nat.le_of_ble_eq_true rfl) ⟨by decide, by decide⟩ (n := 4) rfl (fun _ _ h => h.elim) (fun v9 ν9 h9 => ?_)
  rw [h9.1, h9.2]
  show zK x g ({ frames := 3, cells := 0, slots := 0, locals := 66 } : Room) 4 0 0 4 [some (.ref (za g 8)), some (.int 7), some (.ref (za g (11 + k))), none] [.int 15] μ
  refine k_istore3 S dX2_breaks_4 (by decide) rfl (n := 5) rfl ?_
  refine k_iload3 S dX2_breaks_5 (n := 6) rfl ?_
  refine k_iconst S dX2_breaks_6 (v := 1) (by decide) (n := 7) rfl ?_
  refine k_icmp_lt S dX2_breaks_7 (tgt := 18) (by decide) (n := 10) rfl (fun h9 => absurd h9 (by decide)) (fun _ => ?_)
  refine k_iload3 S dX2_breaks_10 (n := 11) rfl ?_
  refine k_aload0 S dX2_breaks_11 (n := 12) rfl ?_
  refine k_getv (v := nI n) (T := TX2) (j := 2) S dX2_breaks_12 (zlt S (by decide)) (by decide) (ci := 2) rfl rfl (by decide) in_2 m_129 rfl rfl hn (n := 15) rfl ?_
  refine k_icmp_le S dX2_breaks_15 (tgt := 20) (by decide) (n := 18) rfl (fun c1 => ?_) (fun c1 => ?_)
  ·
    have h1 : 15 ≤ n := (nI_leI (by omega) (by omega)).mp (show nI 15 ≤ nI n from c1)
    refine k_iload1 S dX2_breaks_20 (n := 21) rfl ?_
    refine k_tsw S dX2_breaks_21 (off := 104) (tgt := 125) (by decide) (by decide) (by decide) (by decide) ?_
    refine k_aload0 S dX2_breaks_125 (n := 126) rfl ?_
    refine k_iload3 S dX2_breaks_126 (n := 127) rfl ?_
    refine k_aload2 S dX2_breaks_127 (n := 128) rfl ?_
    refine k_callV (As := [.int 15, .ref (za g (11 + k))]) (rest := []) (p := 8) S (c_X2_beyondSome (n := 15) hk (by decide) hc hw) mv_X2_beyondSome m_567 dX2_breaks_128 rfl rfl ⟨by decide, by decide⟩ (zlt S (by decide)) (by decide) (ci := 2) rfl rfl rfl (Nat.le_of_ble_eq_true rfl) ⟨by decide, by decide⟩ (n := 131) rfl (fun _ _ h => h.elim) (fun v9 ν9 h9 => ?_)
    rw [h9.1, h9.2]
    show zK x g ({ frames := 3, cells := 0, slots := 0, locals := 66 } : Room) 4 0 0 131 [some (.ref (za g 8)), some (.int 7), some (.ref (za g (11 + k))), some (.int 15)] [.int (nI (zct (fun i => ¬ zsb (μ.1 10 i) ce w 1 = 0) 15))] μ
    have hJ2 : zK x g ({ frames := 3, cells := 0, slots := 0, locals := 66 } : Room) 4 0 0 139 [some (.ref (za g 8)), some (.int 7), some (.ref (za g (11 + k))), some (.int 15)] [.int ((if (nI (zct (fun i => ¬ zsb (μ.1 10 i) ce w 1 = 0) 15)) = 0 then (1 : Int32) else (0 : Int32)))] μ := by
      exact k_iret S Y dX2_breaks_139 (by decide) (by decide) (by rw [zpb_i]; exact zpb_nar _) (⟨congrArg (fun z => some (Value.int z)) (by rw [zpb_i]; exact zpb_c ⟨fun q => ⟨h1, q⟩, fun q => q.2⟩), rfl⟩)
    refine k_if_ne S dX2_breaks_131 (tgt := 138) (by decide) (n := 134) rfl (fun c1 => ?_) (fun c1 => ?_)
    ·
      refine k_iconst S dX2_breaks_138 (v := 0) (by decide) (n := 139) rfl ?_
      rw [if_neg c1] at hJ2
      exact hJ2
    ·
      refine k_iconst S dX2_breaks_134 (v := 1) (by decide) (n := 135) rfl ?_
      refine k_goto S dX2_breaks_135 (tgt := 139) (by decide) ?_
      rw [if_pos c1] at hJ2
      exact hJ2
  ·
    refine k_iconst S dX2_breaks_18 (v := 0) (by decide) (n := 19) rfl ?_
    exact k_iret S Y dX2_breaks_19 (by decide) (by decide) rfl (⟨congrArg (fun z => some (Value.int z)) ((zpb_f (fun q => c1 (show nI 15 ≤ nI n from nI_le q.1 (by omega)))).symm), rfl⟩)
set_option maxRecDepth 100000 in
set_option maxHeartbeats 4000000 in
theorem c_X2_breaks8 {l : Launch} {g : zG} {μ : zM} {k n : Nat} {ce w : Int32} (hk : k < 10) (hc : μ.1 (11 + k) 5 = ce) (hw : μ.1 (11 + k) 7 = w) (hn : μ.1 8 2 = nI n) (hn15 : n ≤ 15) : zC l g yX2_breaks cX2_breaks 4 (some .boolean) ({ frames := 3, cells := 0, slots := 0, locals := 66 } : Room) 0 0 [.ref (za g 8), .int 8, .ref (za g (11 + k))] μ (zRv (some (.int (zpb (zWb 8 n (μ.1 10) ce w)))) μ) zNX := by
  refine zC_of (L0 := [some (.ref (za g 8)), some (.int 8), some (.ref (za g (11 + k))), none]) (plainFor_of_name (by decide)) (Nat.le_of_ble_eq_true rfl) rfl ?_
  intro x S Y hxl
  subst hxl
  refine k_iload1 S dX2_breaks_0 (n := 1) rfl ?_
  refine k_callSN (As := [.int 8]) (rest := []) (host := RX3) S (c_pr8) mv_X3_pointsOfRule (by decide +kernel) dX2_breaks_1 rfl rfl ⟨by decide, by decide⟩ rfl rfl (Nat.le_of_ble_eq_true rfl) ⟨by decide, by decide⟩ (n := 4) rfl (fun _ _ h => h.elim) (fun v9 ν9 h9 => ?_)
  rw [h9.1, h9.2]
  show zK x g ({ frames := 3, cells := 0, slots := 0, locals := 66 } : Room) 4 0 0 4 [some (.ref (za g 8)), some (.int 8), some (.ref (za g (11 + k))), none] [.int 8] μ
  refine k_istore3 S dX2_breaks_4 (by decide) rfl (n := 5) rfl ?_
  refine k_iload3 S dX2_breaks_5 (n := 6) rfl ?_
  refine k_iconst S dX2_breaks_6 (v := 1) (by decide) (n := 7) rfl ?_
  refine k_icmp_lt S dX2_breaks_7 (tgt := 18) (by decide) (n := 10) rfl (fun h9 => absurd h9 (by decide)) (fun _ => ?_)
  refine k_iload3 S dX2_breaks_10 (n := 11) rfl ?_
  refine k_aload0 S dX2_breaks_11 (n := 12) rfl ?_
  refine k_getv (v := nI n) (T := TX2) (j := 2) S dX2_breaks_12 (zlt S (by decide)) (by decide) (ci := 2) rfl rfl (by decide) in_2 m_129 rfl rfl hn (n := 15) rfl ?_
  refine k_icmp_le S dX2_breaks_15 (tgt := 20) (by decide) (n := 18) rfl (fun c1 => ?_) (fun c1 => ?_)
  ·
    have h1 : 8 ≤ n := (nI_leI (by omega) (by omega)).mp (show nI 8 ≤ nI n from c1)
    refine k_iload1 S dX2_breaks_20 (n := 21) rfl ?_
    refine k_tsw S dX2_breaks_21 (off := 119) (tgt := 140) (by decide) (by decide) (by decide) (by decide) ?_
    refine k_aload0 S dX2_breaks_140 (n := 141) rfl ?_
    refine k_iload3 S dX2_breaks_141 (n := 142) rfl ?_
    refine k_aload2 S dX2_breaks_142 (n := 143) rfl ?_
    refine k_callV (As := [.int 8, .ref (za g (11 + k))]) (rest := []) (p := 8) S (c_X2_beyondSome (n := 8) hk (by decide) hc hw) mv_X2_beyondSome m_567 dX2_breaks_143 rfl rfl ⟨by decide, by decide⟩ (zlt S (by decide)) (by decide) (ci := 2) rfl rfl rfl (Nat.le_of_ble_eq_true rfl) ⟨by decide, by decide⟩ (n := 146) rfl (fun _ _ h => h.elim) (fun v9 ν9 h9 => ?_)
    rw [h9.1, h9.2]
    show zK x g ({ frames := 3, cells := 0, slots := 0, locals := 66 } : Room) 4 0 0 146 [some (.ref (za g 8)), some (.int 8), some (.ref (za g (11 + k))), some (.int 8)] [.int (nI (zct (fun i => ¬ zsb (μ.1 10 i) ce w 1 = 0) 8))] μ
    refine k_iload3 S dX2_breaks_146 (n := 147) rfl ?_
    have hJ2 : zK x g ({ frames := 3, cells := 0, slots := 0, locals := 66 } : Room) 4 0 0 155 [some (.ref (za g 8)), some (.int 8), some (.ref (za g (11 + k))), some (.int 8)] [.int ((if (nI (zct (fun i => ¬ zsb (μ.1 10 i) ce w 1 = 0) 8)) = 8 then (1 : Int32) else (0 : Int32)))] μ := by
      exact k_iret S Y dX2_breaks_155 (by decide) (by decide) (by rw [zpb_i]; exact zpb_nar _) (⟨congrArg (fun z => some (Value.int z)) (by rw [zpb_i]; exact zpb_c ⟨fun q => ⟨h1, q⟩, fun q => q.2⟩), rfl⟩)
    refine k_icmp_ne S dX2_breaks_147 (tgt := 154) (by decide) (n := 150) rfl (fun c1 => ?_) (fun c1 => ?_)
    ·
      refine k_iconst S dX2_breaks_154 (v := 0) (by decide) (n := 155) rfl ?_
      rw [if_neg c1] at hJ2
      exact hJ2
    ·
      refine k_iconst S dX2_breaks_150 (v := 1) (by decide) (n := 151) rfl ?_
      refine k_goto S dX2_breaks_151 (tgt := 155) (by decide) ?_
      rw [if_pos c1] at hJ2
      exact hJ2
  ·
    refine k_iconst S dX2_breaks_18 (v := 0) (by decide) (n := 19) rfl ?_
    exact k_iret S Y dX2_breaks_19 (by decide) (by decide) rfl (⟨congrArg (fun z => some (Value.int z)) ((zpb_f (fun q => c1 (show nI 8 ≤ nI n from nI_le q.1 (by omega)))).symm), rfl⟩)
theorem c_X2_breaks {l : Launch} {g : zG} {μ : zM} {k n r : Nat} {ce w : Int32} (hr : 1 ≤ r) (hr8 : r ≤ 8) (hk : k < 10) (hc : μ.1 (11 + k) 5 = ce) (hw : μ.1 (11 + k) 7 = w) (hn : μ.1 8 2 = nI n) (hn15 : n ≤ 15) : zC l g yX2_breaks cX2_breaks 4 (some .boolean) ({ frames := 3, cells := 0, slots := 0, locals := 66 } : Room) 0 0 [.ref (za g 8), .int (nI r), .ref (za g (11 + k))] μ (zRv (some (.int (zpb (zWb r n (μ.1 10) ce w)))) μ) zNX := by
  match r, hr, hr8 with
  | 1, _, _ => exact c_X2_breaks1 hk hc hw hn hn15
  | 2, _, _ => exact c_X2_breaks2 hk hc hw hn hn15
  | 3, _, _ => exact c_X2_breaks3 hk hc hw hn hn15
  | 4, _, _ => exact c_X2_breaks4 hk hc hw hn hn15
  | 5, _, _ => exact c_X2_breaks5 hk hc hw hn hn15
  | 6, _, _ => exact c_X2_breaks6 hk hc hw hn hn15
  | 7, _, _ => exact c_X2_breaks7 hk hc hw hn hn15
  | 8, _, _ => exact c_X2_breaks8 hk hc hw hn hn15
  | r + 9, _, h => exact absurd h (by omega)
