/-! MORE OF THE DESK'S CALLS WITH LOOPS -/
set_option maxRecDepth 100000 in
set_option maxHeartbeats 4000000 in
theorem l_X3_signalsByWindows {x : zX} {g : zG} {μ : zM} {i k n : Nat} {ce w : Int32} {RT : Option Value → zM → Prop} {XT : String → zM → Prop} (S : zS x g 5 cX3_signalsByWindows RX3) (Y : zR x g (some .int) 1 6 [] RT XT) (hk : k < 10) (hc : μ.1 (11 + k) 5 = ce) (hw : μ.1 (11 + k) 7 = w) (hn : μ.1 8 2 = nI n) (hn15 : n ≤ 15) (hRT : RT (some (.int (zbs (fun r => zWb r n (μ.1 10) ce w) 8))) μ) : ∀ (m r : Nat), r + m = 8 → zK x g ({ frames := 7, cells := 1, slots := 6, locals := 103 } : Room) 5 1 6 32 [some (.ref (za g 0)), some (.int (nI i)), some (.ref (za g (11 + k))), some (.int (zbs (fun r => zWb r n (μ.1 10) ce w) r)), some (.int (nI (r + 1)))] [] μ := by
  intro m
  induction m with
  | zero =>
    intro r h1
    obtain rfl : r = 8 := by omega
    refine k_iload4 S dX3_signalsByWindows_32 (n := 34) rfl ?_
    refine k_bipush S dX3_signalsByWindows_34 (v := 8) (by decide) (n := 36) rfl ?_
    refine k_icmp_gt S dX3_signalsByWindows_36 (tgt := 65) (by decide) (n := 39) rfl (fun _ => ?_) (fun h9 => absurd (by decide) h9)
    refine k_iload3 S dX3_signalsByWindows_65 (n := 66) rfl ?_
    exact k_iret S Y dX3_signalsByWindows_66 (by decide) (by decide) rfl (hRT)
  | succ m ih =>
    intro r h1
    refine k_iload4 S dX3_signalsByWindows_32 (n := 34) rfl ?_
    refine k_bipush S dX3_signalsByWindows_34 (v := 8) (by decide) (n := 36) rfl ?_
    refine k_icmp_gt S dX3_signalsByWindows_36 (tgt := 65) (by decide) (n := 39) rfl (fun h9 => absurd h9 (show ¬ nI 8 < nI (r + 1) from nI_nlt (by omega) (by omega))) (fun _ => ?_)
    refine k_aload0 S dX3_signalsByWindows_39 (n := 40) rfl ?_
    refine k_getr (r := 8) (T := TX3) (j := 15) S dX3_signalsByWindows_40 (zlt S (by decide)) (by decide) (ci := 3) rfl rfl (by decide) in_3 m_160 rfl rfl (n := 43) rfl ?_
    refine k_iload4 S dX3_signalsByWindows_43 (n := 45) rfl ?_
    refine k_aload2 S dX3_signalsByWindows_45 (n := 46) rfl ?_
    refine k_callV (As := [.int (nI (r + 1)), .ref (za g (11 + k))]) (rest := []) (p := 8) S (c_X2_breaks (r := r + 1) (by omega) (by omega) hk hc hw hn hn15) mv_X2_breaks m_543 dX3_signalsByWindows_46 rfl rfl ⟨by decide, by decide⟩ (zlt S (by decide)) (by decide) (ci := 2) rfl rfl rfl (Nat.le_of_ble_eq_true rfl) ⟨by decide, by decide⟩ (n := 49) rfl (fun _ _ h => h.elim) (fun v9 ν9 h9 => ?_)
    rw [h9.1, h9.2]
    show zK x g ({ frames := 7, cells := 1, slots := 6, locals := 103 } : Room) 5 1 6 49 [some (.ref (za g 0)), some (.int (nI i)), some (.ref (za g (11 + k))), some (.int (zbs (fun r => zWb r n (μ.1 10) ce w) r)), some (.int (nI (r + 1)))] [.int (zpb (zWb (r + 1) n (μ.1 10) ce w))] μ
    refine k_if_eq S dX3_signalsByWindows_49 (tgt := 59) (by decide) (n := 52) rfl (fun c1 => ?_) (fun c1 => ?_)
    ·
      have e1 : zbs (fun r => zWb r n (μ.1 10) ce w) (r + 1) = zbs (fun r => zWb r n (μ.1 10) ce w) r := zbs_f (P := (fun r => zWb r n (μ.1 10) ce w)) (zpb_0.mp c1)
      refine k_iinc4 S dX3_signalsByWindows_59 (v := nI (r + 1 + 1)) (zi1 (r + 1)) (by decide) (n := 62) rfl ?_
      refine k_goto S dX3_signalsByWindows_62 (tgt := 32) (by decide) ?_
      have q9 := ih (r + 1) (by omega)
      rw [e1] at q9
      exact q9
    ·
      have e1 : zbs (fun r => zWb r n (μ.1 10) ce w) (r + 1) = zbs (fun r => zWb r n (μ.1 10) ce w) r ||| ((1 : Int32) <<< (nI (r + 1) &&& 31)) := zbs_t (P := (fun r => zWb r n (μ.1 10) ce w)) (Classical.byContradiction fun q => c1 (zpb_0.mpr q))
      refine k_iload3 S dX3_signalsByWindows_52 (n := 53) rfl ?_
      refine k_iconst S dX3_signalsByWindows_53 (v := 1) (by decide) (n := 54) rfl ?_
      refine k_iload4 S dX3_signalsByWindows_54 (n := 56) rfl ?_
      refine k_ishl S dX3_signalsByWindows_56 (n := 57) rfl ?_
      refine k_ior S dX3_signalsByWindows_57 (n := 58) rfl ?_
      refine k_istore3 S dX3_signalsByWindows_58 (by decide) rfl (n := 59) rfl ?_
      refine k_iinc4 S dX3_signalsByWindows_59 (v := nI (r + 1 + 1)) (zi1 (r + 1)) (by decide) (n := 62) rfl ?_
      refine k_goto S dX3_signalsByWindows_62 (tgt := 32) (by decide) ?_
      have q9 := ih (r + 1) (by omega)
      rw [e1] at q9
      exact q9
set_option maxRecDepth 100000 in
set_option maxHeartbeats 4000000 in
theorem c_X3_signalsByWindows {l : Launch} {g : zG} {μ : zM} {v : Int32} {d c : Nat} {ph fs : Nat → Nat}  (hd : μ.1 0 6 = nI d) (hd60 : d ≤ 60) (hph : ∀ i, i < d → μ.1 5 i = nI (ph i) ∧ ph i < c) (hcc : μ.1 0 12 = nI c) (hc10 : c ≤ 10) (hfs : ∀ k, k < c → μ.1 (11 + k) 0 = nI (fs k)) (hfi : ∀ i, i < d → fs (ph i) ≤ i) : zC l g yX3_signalsByWindows cX3_signalsByWindows 5 (some .int) ({ frames := 7, cells := 1, slots := 6, locals := 103 } : Room) 1 6 [.ref (za g 0), .int v] μ (fun r ν => ∃ i, i < d ∧ v = nI i ∧ ((¬ μ.1 4 i = 0 ∧ r = some (.int 0) ∧ ν = μ) ∨ (μ.1 4 i = 0 ∧ r = some (.int (zbs (fun r => zWb r (zlc (μ.1 4) i (i + 1 - fs (ph i))) ((zlM μ i (i + 1 - fs (ph i))).1 10) (μ.1 (11 + ph i) 5) (μ.1 (11 + ph i) 7)) 8)) ∧ ν = zlM μ i (i + 1 - fs (ph i))))) (zXc (¬ zIn v d) "java/lang/IndexOutOfBoundsException" μ) := by
  refine zC_of (L0 := [some (.ref (za g 0)), some (.int v), none, none, none]) (plainFor_of_name (by decide)) (Nat.le_of_ble_eq_true rfl) rfl ?_
  intro x S Y hxl
  subst hxl
  refine k_aload0 S dX3_signalsByWindows_0 (n := 1) rfl ?_
  refine k_iload1 S dX3_signalsByWindows_1 (n := 2) rfl ?_
  refine k_callV (As := [.int v]) (rest := []) (p := 0) S (c_X3_checkSubgroup (d := d) hd hd60) mv_X3_checkSubgroup m_475 dX3_signalsByWindows_2 rfl rfl ⟨by decide, by decide⟩ (zlt S (by decide)) (by decide) (ci := 3) rfl rfl rfl (Nat.le_of_ble_eq_true rfl) ⟨by decide, by decide⟩ (n := 5) rfl (fun E9 ν9 h9 => k_out S Y (by decide) (by decide) (h9)) (fun v9 ν9 h9 => ?_)
  obtain ⟨⟨i, hi, e9⟩, e1, e2⟩ := h9
  subst e9
  rw [e1, e2]
  show zK x g ({ frames := 7, cells := 1, slots := 6, locals := 103 } : Room) 5 1 6 5 [some (.ref (za g 0)), some (.int (nI i)), none, none, none] [] μ
  refine k_aload0 S dX3_signalsByWindows_5 (n := 6) rfl ?_
  refine k_iload1 S dX3_signalsByWindows_6 (n := 7) rfl ?_
  refine k_callV (As := [.int (nI i)]) (rest := []) (p := 0) S (c_X3_isPoint hd hd60 hi) mv_X3_isPoint m_359 dX3_signalsByWindows_7 rfl rfl ⟨by decide, by decide⟩ (zlt S (by decide)) (by decide) (ci := 3) rfl rfl rfl (Nat.le_of_ble_eq_true rfl) ⟨by decide, by decide⟩ (n := 10) rfl (fun _ _ h => h.elim) (fun v9 ν9 h9 => ?_)
  rw [h9.1, h9.2]
  show zK x g ({ frames := 7, cells := 1, slots := 6, locals := 103 } : Room) 5 1 6 10 [some (.ref (za g 0)), some (.int (nI i)), none, none, none] [.int ((if μ.1 4 i = 0 then (1 : Int32) else 0))] μ
  refine k_if_ne S dX3_signalsByWindows_10 (tgt := 15) (by decide) (n := 13) rfl (fun c1 => ?_) (fun c1 => ?_)
  ·
    have hkc := (hph i hi).2
    have hk : ph i < 10 := by omega
    have hf9 := hfi i hi
    refine k_aload0 S dX3_signalsByWindows_15 (n := 16) rfl ?_
    refine k_iload1 S dX3_signalsByWindows_16 (n := 17) rfl ?_
    refine k_callV (As := [.int (nI i)]) (rest := []) (p := 0) S (c_X3_phaseHolding (show i < 60 by omega) (hph i hi).1 hcc (hph i hi).2 hc10) mv_X3_phaseHolding m_314 dX3_signalsByWindows_17 rfl rfl ⟨by decide, by decide⟩ (zlt S (by decide)) (by decide) (ci := 3) rfl rfl rfl (Nat.le_of_ble_eq_true rfl) ⟨by decide, by decide⟩ (n := 20) rfl (fun _ _ h => h.elim) (fun v9 ν9 h9 => ?_)
    rw [h9.1, h9.2]
    show zK x g ({ frames := 7, cells := 1, slots := 6, locals := 103 } : Room) 5 1 6 20 [some (.ref (za g 0)), some (.int (nI i)), none, none, none] [.ref (za g (11 + ph i))] μ
    refine k_astore2 S dX3_signalsByWindows_20 (by decide) rfl (n := 21) rfl ?_
    refine k_aload0 S dX3_signalsByWindows_21 (n := 22) rfl ?_
    refine k_iload1 S dX3_signalsByWindows_22 (n := 23) rfl ?_
    refine k_aload2 S dX3_signalsByWindows_23 (n := 24) rfl ?_
    refine k_callV (As := [.int (nI i), .ref (za g (11 + ph i))]) (rest := []) (p := 0) S (c_X3_lookBack hd hd60 hi hf9 hk (hfs _ hkc)) mv_X3_lookBack m_526 dX3_signalsByWindows_24 rfl rfl ⟨by decide, by decide⟩ (zlt S (by decide)) (by decide) (ci := 3) rfl rfl rfl (Nat.le_of_ble_eq_true rfl) ⟨by decide, by decide⟩ (n := 27) rfl (fun _ _ h => h.elim) (fun v9 ν9 h9 => ?_)
    rw [h9.1, h9.2]
    show zK x g ({ frames := 7, cells := 1, slots := 6, locals := 103 } : Room) 5 1 6 27 [some (.ref (za g 0)), some (.int (nI i)), some (.ref (za g (11 + ph i))), none, none] [] (zlM μ i (i + 1 - fs (ph i)))
    refine k_iconst S dX3_signalsByWindows_27 (v := 0) (by decide) (n := 28) rfl ?_
    refine k_istore3 S dX3_signalsByWindows_28 (by decide) rfl (n := 29) rfl ?_
    refine k_iconst S dX3_signalsByWindows_29 (v := 1) (by decide) (n := 30) rfl ?_
    refine k_istore4 S dX3_signalsByWindows_30 (by decide) rfl (n := 32) rfl ?_
    exact l_X3_signalsByWindows (μ := zlM μ i (i + 1 - fs (ph i))) S Y hk (by rw [zlM_off μ i (by omega) (by omega) (by omega)]) (by rw [zlM_off μ i (by omega) (by omega) (by omega)]) (zlM_n μ i _) (zlc_le _ _ _) ⟨i, hi, rfl, Or.inr ⟨zi0 c1, rfl, rfl⟩⟩ 8 0 rfl
  ·
    refine k_iconst S dX3_signalsByWindows_13 (v := 0) (by decide) (n := 14) rfl ?_
    exact k_iret S Y dX3_signalsByWindows_14 (by decide) (by decide) rfl (⟨i, hi, rfl, Or.inl ⟨zi0n c1, rfl, rfl⟩⟩)
theorem zrule {a : Int32} (h1 : ¬ a < 1) (h2 : a ≤ 8) : ∃ r, r < 8 ∧ a = nI (r + 1) := by
  obtain ⟨j, hj, e⟩ := zin_o (v := a) (d := 9) (by omega) (fun q => h1 (by rw [Int32.lt_iff_toInt_lt] at q ⊢; exact Int.lt_trans q (by decide))) (fun q => absurd (Int32.le_trans (show (9 : Int32) ≤ a from q) h2) (by decide))
  subst e
  cases j with
  | zero => exact absurd (show nI 0 < 1 by decide) h1
  | succ r => exact ⟨r, by omega, rfl⟩
def zPt (r : Nat) : Nat := [1, 9, 6, 14, 3, 5, 15, 8].getD r 0
theorem zPt_tab (r : Nat) (h : r < 8) : zTab 3 r = nI (zPt r) ∧ 1 ≤ zPt r ∧ zPt r ≤ 15 := by
  match r, h with
  | 0, _ => exact ⟨by decide, by decide, by decide⟩
  | 1, _ => exact ⟨by decide, by decide, by decide⟩
  | 2, _ => exact ⟨by decide, by decide, by decide⟩
  | 3, _ => exact ⟨by decide, by decide, by decide⟩
  | 4, _ => exact ⟨by decide, by decide, by decide⟩
  | 5, _ => exact ⟨by decide, by decide, by decide⟩
  | 6, _ => exact ⟨by decide, by decide, by decide⟩
  | 7, _ => exact ⟨by decide, by decide, by decide⟩
  | r + 8, h => exact absurd h (by omega)
theorem zWb_pt {r n : Nat} {lv : Nat → Int32} {ce w : Int32} (hr : r < 8) (h : zWb (r + 1) n lv ce w) : zPt r ≤ n := by
  match r, hr, h with
  | 0, _, h => exact h.1
  | 1, _, h => exact h.1
  | 2, _, h => exact h.1
  | 3, _, h => exact h.1
  | 4, _, h => exact h.1
  | 5, _, h => exact h.1
  | 6, _, h => exact h.1
  | 7, _, h => exact h.1
  | r + 8, hr, _ => exact absurd hr (by omega)
set_option maxRecDepth 100000 in
set_option maxHeartbeats 4000000 in
theorem c_X3_firstOf {l : Launch} {g : zG} {μ : zM} {v a : Int32} {d c : Nat} {ph fs : Nat → Nat}  (hd : μ.1 0 6 = nI d) (hd60 : d ≤ 60) (hph : ∀ i, i < d → μ.1 5 i = nI (ph i) ∧ ph i < c) (hcc : μ.1 0 12 = nI c) (hc10 : c ≤ 10) (hfs : ∀ k, k < c → μ.1 (11 + k) 0 = nI (fs k)) (hfi : ∀ i, i < d → fs (ph i) ≤ i) : zC l g yX3_firstOf cX3_firstOf 4 (some .int) ({ frames := 7, cells := 2, slots := 12, locals := 103 } : Room) 2 12 [.ref (za g 0), .int v, .int a] μ (fun r ν => ∃ i q, i < d ∧ v = nI i ∧ q < 8 ∧ a = nI (q + 1) ∧ ((¬ μ.1 4 i = 0 ∧ r = some (.int (-1)) ∧ ν = μ) ∨ (μ.1 4 i = 0 ∧ ν = zlM μ i (i + 1 - fs (ph i)) ∧ ((zWb (q + 1) (zlc (μ.1 4) i (i + 1 - fs (ph i))) ((zlM μ i (i + 1 - fs (ph i))).1 10) (μ.1 (11 + ph i) 5) (μ.1 (11 + ph i) 7) ∧ r = some (.int ((zlM μ i (i + 1 - fs (ph i))).1 9 (zPt q - 1)))) ∨ (¬ zWb (q + 1) (zlc (μ.1 4) i (i + 1 - fs (ph i))) ((zlM μ i (i + 1 - fs (ph i))).1 10) (μ.1 (11 + ph i) 5) (μ.1 (11 + ph i) 7) ∧ r = some (.int (-1))))))) (fun E ν => (¬ (zIn v d ∧ ¬ a < 1 ∧ a ≤ 8) ∧ E = "java/lang/IndexOutOfBoundsException") ∧ ν = μ) := by
  refine zC_of (L0 := [some (.ref (za g 0)), some (.int v), some (.int a), none]) (plainFor_of_name (by decide)) (Nat.le_of_ble_eq_true rfl) rfl ?_
  intro x S Y hxl
  subst hxl
  refine k_aload0 S dX3_firstOf_0 (n := 1) rfl ?_
  refine k_iload1 S dX3_firstOf_1 (n := 2) rfl ?_
  refine k_callV (As := [.int v]) (rest := []) (p := 0) S (c_X3_checkSubgroup (d := d) hd hd60) mv_X3_checkSubgroup m_475 dX3_firstOf_2 rfl rfl ⟨by decide, by decide⟩ (zlt S (by decide)) (by decide) (ci := 3) rfl rfl rfl (Nat.le_of_ble_eq_true rfl) ⟨by decide, by decide⟩ (n := 5) rfl (fun E9 ν9 h9 => k_out S Y (by decide) (by decide) (⟨⟨fun q => h9.1 q.1, h9.2.1⟩, h9.2.2⟩)) (fun v9 ν9 h9 => ?_)
  obtain ⟨⟨i, hi, e9⟩, e1, e2⟩ := h9
  subst e9
  rw [e1, e2]
  show zK x g ({ frames := 7, cells := 2, slots := 12, locals := 103 } : Room) 4 1 6 5 [some (.ref (za g 0)), some (.int (nI i)), some (.int a), none] [] μ
  refine k_iload2 S dX3_firstOf_5 (n := 6) rfl ?_
  refine k_iconst S dX3_firstOf_6 (v := 1) (by decide) (n := 7) rfl ?_
  refine k_icmp_lt S dX3_firstOf_7 (tgt := 16) (by decide) (n := 10) rfl (fun c2 => ?_) (fun c2 => ?_)
  ·
    exact k_throw (cls := "java/lang/IndexOutOfBoundsException") (names := zEx) (i9 := 13) S Y rfl (by decide) (by decide) m_431 m_8 rfl at_IOB ng_IOB go_IOB dX3_firstOf_16 dX3_firstOf_19 dX3_firstOf_20 dX3_firstOf_22 dX3_firstOf_25 (by decide) (by decide) (by decide) (by decide) (by decide) (by decide) (⟨⟨fun q => by first | exact q.2.1 c2 | exact c3 q.2.2, rfl⟩, rfl⟩)
  ·
    refine k_iload2 S dX3_firstOf_10 (n := 11) rfl ?_
    refine k_bipush S dX3_firstOf_11 (v := 8) (by decide) (n := 13) rfl ?_
    refine k_icmp_le S dX3_firstOf_13 (tgt := 26) (by decide) (n := 16) rfl (fun c3 => ?_) (fun c3 => ?_)
    ·
      obtain ⟨q, hq, e8⟩ := zrule c2 c3
      subst e8
      refine k_aload0 S dX3_firstOf_26 (n := 27) rfl ?_
      refine k_iload1 S dX3_firstOf_27 (n := 28) rfl ?_
      refine k_callV (As := [.int (nI i)]) (rest := []) (p := 0) S (c_X3_isPoint hd hd60 hi) mv_X3_isPoint m_359 dX3_firstOf_28 rfl rfl ⟨by decide, by decide⟩ (zlt S (by decide)) (by decide) (ci := 3) rfl rfl rfl (Nat.le_of_ble_eq_true rfl) ⟨by decide, by decide⟩ (n := 31) rfl (fun _ _ h => h.elim) (fun v9 ν9 h9 => ?_)
      rw [h9.1, h9.2]
      show zK x g ({ frames := 7, cells := 2, slots := 12, locals := 103 } : Room) 4 1 6 31 [some (.ref (za g 0)), some (.int (nI i)), some (.int (nI (q + 1))), none] [.int ((if μ.1 4 i = 0 then (1 : Int32) else 0))] μ
      refine k_if_ne S dX3_firstOf_31 (tgt := 36) (by decide) (n := 34) rfl (fun c1 => ?_) (fun c1 => ?_)
      ·
        have hkc := (hph i hi).2
        have hk : ph i < 10 := by omega
        have hf9 := hfi i hi
        refine k_aload0 S dX3_firstOf_36 (n := 37) rfl ?_
        refine k_iload1 S dX3_firstOf_37 (n := 38) rfl ?_
        refine k_callV (As := [.int (nI i)]) (rest := []) (p := 0) S (c_X3_phaseHolding (show i < 60 by omega) (hph i hi).1 hcc (hph i hi).2 hc10) mv_X3_phaseHolding m_314 dX3_firstOf_38 rfl rfl ⟨by decide, by decide⟩ (zlt S (by decide)) (by decide) (ci := 3) rfl rfl rfl (Nat.le_of_ble_eq_true rfl) ⟨by decide, by decide⟩ (n := 41) rfl (fun _ _ h => h.elim) (fun v9 ν9 h9 => ?_)
        rw [h9.1, h9.2]
        show zK x g ({ frames := 7, cells := 2, slots := 12, locals := 103 } : Room) 4 1 6 41 [some (.ref (za g 0)), some (.int (nI i)), some (.int (nI (q + 1))), none] [.ref (za g (11 + ph i))] μ
        refine k_astore3 S dX3_firstOf_41 (by decide) rfl (n := 42) rfl ?_
        refine k_aload0 S dX3_firstOf_42 (n := 43) rfl ?_
        refine k_iload1 S dX3_firstOf_43 (n := 44) rfl ?_
        refine k_aload3 S dX3_firstOf_44 (n := 45) rfl ?_
        refine k_callV (As := [.int (nI i), .ref (za g (11 + ph i))]) (rest := []) (p := 0) S (c_X3_lookBack hd hd60 hi hf9 hk (hfs _ hkc)) mv_X3_lookBack m_526 dX3_firstOf_45 rfl rfl ⟨by decide, by decide⟩ (zlt S (by decide)) (by decide) (ci := 3) rfl rfl rfl (Nat.le_of_ble_eq_true rfl) ⟨by decide, by decide⟩ (n := 48) rfl (fun _ _ h => h.elim) (fun v9 ν9 h9 => ?_)
        rw [h9.1, h9.2]
        show zK x g ({ frames := 7, cells := 2, slots := 12, locals := 103 } : Room) 4 1 6 48 [some (.ref (za g 0)), some (.int (nI i)), some (.int (nI (q + 1))), some (.ref (za g (11 + ph i)))] [] (zlM μ i (i + 1 - fs (ph i)))
        refine k_aload0 S dX3_firstOf_48 (n := 49) rfl ?_
        refine k_getr (r := 8) (T := TX3) (j := 15) S dX3_firstOf_49 (zlt S (by decide)) (by decide) (ci := 3) rfl rfl (by decide) in_3 m_160 rfl rfl (n := 52) rfl ?_
        refine k_iload2 S dX3_firstOf_52 (n := 53) rfl ?_
        refine k_aload3 S dX3_firstOf_53 (n := 54) rfl ?_
        refine k_callV (As := [.int (nI (q + 1)), .ref (za g (11 + ph i))]) (rest := []) (p := 8) S (c_X2_breaks (r := q + 1) (by omega) (by omega) hk (by rw [zlM_off μ i (by omega) (by omega) (by omega)]) (by rw [zlM_off μ i (by omega) (by omega) (by omega)]) (zlM_n μ i _) (zlc_le _ _ _)) mv_X2_breaks m_543 dX3_firstOf_54 rfl rfl ⟨by decide, by decide⟩ (zlt S (by decide)) (by decide) (ci := 2) rfl rfl rfl (Nat.le_of_ble_eq_true rfl) ⟨by decide, by decide⟩ (n := 57) rfl (fun _ _ h => h.elim) (fun v9 ν9 h9 => ?_)
        rw [h9.1, h9.2]
        show zK x g ({ frames := 7, cells := 2, slots := 12, locals := 103 } : Room) 4 1 6 57 [some (.ref (za g 0)), some (.int (nI i)), some (.int (nI (q + 1))), some (.ref (za g (11 + ph i)))] [.int (zpb (zWb (q + 1) (zlc (μ.1 4) i (i + 1 - fs (ph i))) ((zlM μ i (i + 1 - fs (ph i))).1 10) (μ.1 (11 + ph i) 5) (μ.1 (11 + ph i) 7)))] (zlM μ i (i + 1 - fs (ph i)))
        refine k_if_eq S dX3_firstOf_57 (tgt := 76) (by decide) (n := 60) rfl (fun c4 => ?_) (fun c4 => ?_)
        ·
          refine k_iconst S dX3_firstOf_76 (v := (-1)) (by decide) (n := 77) rfl ?_
          exact k_iret S Y dX3_firstOf_77 (by decide) (by decide) rfl (⟨i, q, hi, rfl, hq, rfl, Or.inr ⟨zi0 c1, rfl, by first | exact Or.inl ⟨c5, rfl⟩ | exact Or.inr ⟨zpb_0.mp c4, rfl⟩⟩⟩)
        ·
          have c5 : zWb (q + 1) (zlc (μ.1 4) i (i + 1 - fs (ph i))) ((zlM μ i (i + 1 - fs (ph i))).1 10) (μ.1 (11 + ph i) 5) (μ.1 (11 + ph i) 7) := Classical.byContradiction fun z => c4 (zpb_0.mpr z)
          have h5 := zWb_pt hq c5
          have h6 := zPt_tab q hq
          refine k_aload0 S dX3_firstOf_60 (n := 61) rfl ?_
          refine k_getr (r := 8) (T := TX3) (j := 15) S dX3_firstOf_61 (zlt S (by decide)) (by decide) (ci := 3) rfl rfl (by decide) in_3 m_160 rfl rfl (n := 64) rfl ?_
          refine k_iload2 S dX3_firstOf_64 (n := 65) rfl ?_
          refine k_callS (As := [.int (nI (q + 1))]) (rest := [.ref (za g 8)]) S (c_X3_pointsOfRule (j := q) hq) mv_X3_pointsOfRule m_576 dX3_firstOf_65 rfl rfl ⟨by decide, by decide⟩ rfl rfl (Nat.le_of_ble_eq_true rfl) ⟨by decide, by decide⟩ (n := 68) rfl (fun _ _ h => h.elim) (fun v9 ν9 h9 => ?_)
          rw [h9.1, h9.2]
          show zK x g ({ frames := 7, cells := 2, slots := 12, locals := 103 } : Room) 4 1 6 68 [some (.ref (za g 0)), some (.int (nI i)), some (.int (nI (q + 1))), some (.ref (za g (11 + ph i)))] [.int (zTab 3 q), .ref (za g 8)] (zlM μ i (i + 1 - fs (ph i)))
          refine k_iconst S dX3_firstOf_68 (v := 1) (by decide) (n := 69) rfl ?_
          refine k_isub S dX3_firstOf_69 (n := 70) rfl ?_
          rw [show (zTab 3 q) - 1 = nI (zPt q - 1) from by rw [h6.1]; exact pk_sub h6.2.1]
          refine k_callV (As := [.int (nI (zPt q - 1))]) (rest := []) (p := 8) S (c_X2_subgroupAt (j := zPt q - 1) (n := zlc (μ.1 4) i (i + 1 - fs (ph i))) (zlM_n μ i _) (zlc_le _ _ _) (by omega)) mv_X2_subgroupAt m_577 dX3_firstOf_70 rfl rfl ⟨by decide, by decide⟩ (zlt S (by decide)) (by decide) (ci := 2) rfl rfl rfl (Nat.le_of_ble_eq_true rfl) ⟨by decide, by decide⟩ (n := 73) rfl (fun _ _ h => h.elim) (fun v9 ν9 h9 => ?_)
          rw [h9.1, h9.2]
          show zK x g ({ frames := 7, cells := 2, slots := 12, locals := 103 } : Room) 4 1 6 73 [some (.ref (za g 0)), some (.int (nI i)), some (.int (nI (q + 1))), some (.ref (za g (11 + ph i)))] [.int ((zlM μ i (i + 1 - fs (ph i))).1 9 (zPt q - 1))] (zlM μ i (i + 1 - fs (ph i)))
          refine k_goto S dX3_firstOf_73 (tgt := 77) (by decide) ?_
          exact k_iret S Y dX3_firstOf_77 (by decide) (by decide) rfl (⟨i, q, hi, rfl, hq, rfl, Or.inr ⟨zi0 c1, rfl, by first | exact Or.inl ⟨c5, rfl⟩ | exact Or.inr ⟨zpb_0.mp c4, rfl⟩⟩⟩)
      ·
        refine k_iconst S dX3_firstOf_34 (v := (-1)) (by decide) (n := 35) rfl ?_
        exact k_iret S Y dX3_firstOf_35 (by decide) (by decide) rfl (⟨i, q, hi, rfl, hq, rfl, Or.inl ⟨zi0n c1, rfl, rfl⟩⟩)
    ·
      exact k_throw (cls := "java/lang/IndexOutOfBoundsException") (names := zEx) (i9 := 13) S Y rfl (by decide) (by decide) m_431 m_8 rfl at_IOB ng_IOB go_IOB dX3_firstOf_16 dX3_firstOf_19 dX3_firstOf_20 dX3_firstOf_22 dX3_firstOf_25 (by decide) (by decide) (by decide) (by decide) (by decide) (by decide) (⟨⟨fun q => by first | exact q.2.1 c2 | exact c3 q.2.2, rfl⟩, rfl⟩)
