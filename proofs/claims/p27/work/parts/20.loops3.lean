/-! alarms, weighted, cumulative, capability -/
theorem k_more {x : zX} {g : zG} {R : Room} {nL ce sl pc : Nat} {L L' : List (Option Value)} {st : List Value} {μ : zM} (r : List (Nat × Value)) (e : zl 0 L' = zl 0 L ++ r) (k : zK x g R nL ce sl pc L st μ) : zK x g R nL ce sl pc L' st μ := fun H locs ls hP hS hl =>
  k H locs ls hP hS ⟨hl.1, hl.2.1, fun q hq => hl.2.2 q (by rw [e]; exact List.mem_append_left _ hq)⟩
def zaA (μ : zM) (ph : Nat → Nat) (n : Nat) : Nat → Int32 := zaF (μ.1 4) (μ.1 3) (μ.1 5) (fun j => μ.1 (11 + ph j) 5) (fun j => μ.1 (11 + ph j) 7) (μ.1 7) n
def zaK (μ : zM) (ph : Nat → Nat) (n : Nat) : Int32 := zaC (μ.1 4) (μ.1 3) (μ.1 5) (fun j => μ.1 (11 + ph j) 5) (fun j => μ.1 (11 + ph j) 7) (μ.1 7) n
theorem zaA_s (μ : zM) (ph : Nat → Nat) (n : Nat) : zaA μ ph (n + 1) = if μ.1 4 n = 0 then r_X1_take (zaR (μ.1 5) n (zaA μ ph n)) (μ.1 3 n) (μ.1 (11 + ph n) 5) (μ.1 (11 + ph n) 7) else zaR (μ.1 5) n (zaA μ ph n) := rfl
theorem zaK_s (μ : zM) (ph : Nat → Nat) (n : Nat) : zaK μ ph (n + 1) = if μ.1 4 n = 0 then zaK μ ph n + (if v_X1_brokenRules (zaA μ ph (n + 1)) = 0 then 0 else 1) else zaK μ ph n := rfl
set_option maxRecDepth 100000 in
set_option maxHeartbeats 4000000 in
theorem l_X3_alarms {x : zX} {g : zG} {μ : zM} {d c : Nat} {ph : Nat → Nat} (S : zS x g 4 cX3_alarms RX3) (Y : zR x g (some .int) 0 0 [] (zRv (some (.int (zaK μ ph d))) (zset μ 7 (zaA μ ph d))) zNX) (hd : μ.1 0 6 = nI d) (hd60 : d ≤ 60) (hph : ∀ i, i < d → μ.1 5 i = nI (ph i) ∧ ph i < c) (hcc : μ.1 0 12 = nI c) (hc10 : c ≤ 10)  : ∀ (m n : Nat), n + m = d → zK x g ({ frames := 3, cells := 0, slots := 0, locals := 66 } : Room) 4 0 0 6 [some (.ref (za g 0)), some (.int (zaK μ ph n)), some (.int (zaN (μ.1 5) n)), some (.int (nI n))] [] (zset μ 7 (zaA μ ph n)) := by
  intro m
  induction m with
  | zero =>
    intro n h1
    obtain rfl : d = n := by omega
    refine k_iload3 S dX3_alarms_6 (n := 7) rfl ?_
    refine k_aload0 S dX3_alarms_7 (n := 8) rfl ?_
    refine k_getv (v := nI d) (T := TX3) (j := 6) S dX3_alarms_8 (zlt S (by decide)) (by decide) (ci := 3) rfl rfl (by decide) in_3 m_151 rfl rfl (by rw [zset_off _ _ (by decide)]; exact hd) (n := 11) rfl ?_
    refine k_icmp_ge S dX3_alarms_11 (tgt := 88) (by decide) (n := 14) rfl (fun _ => ?_) (fun h9 => absurd (Int32.le_refl _) h9)
    refine k_iload1 S dX3_alarms_88 (n := 89) rfl ?_
    exact k_iret S Y dX3_alarms_89 (by decide) (by decide) rfl (⟨rfl, rfl⟩)
  | succ m ih =>
    intro n h1
    have hk : ph n < 10 := by have := (hph n (by omega)).2; omega
    refine k_iload3 S dX3_alarms_6 (n := 7) rfl ?_
    refine k_aload0 S dX3_alarms_7 (n := 8) rfl ?_
    refine k_getv (v := nI d) (T := TX3) (j := 6) S dX3_alarms_8 (zlt S (by decide)) (by decide) (ci := 3) rfl rfl (by decide) in_3 m_151 rfl rfl (by rw [zset_off _ _ (by decide)]; exact hd) (n := 11) rfl ?_
    refine k_icmp_ge S dX3_alarms_11 (tgt := 88) (by decide) (n := 14) rfl (fun h9 => absurd h9 (nI_ge (by omega) (by omega))) (fun _ => ?_)
    refine k_aload0 S dX3_alarms_14 (n := 15) rfl ?_
    refine k_getr (r := 5) (T := TX3) (j := 11) S dX3_alarms_15 (zlt S (by decide)) (by decide) (ci := 3) rfl rfl (by decide) in_3 m_156 rfl rfl (n := 18) rfl ?_
    refine k_iload3 S dX3_alarms_18 (n := 19) rfl ?_
    refine k_ialdv (v := μ.1 5 n) S dX3_alarms_19 (j := n) (zlt S (by decide)) (by decide) rfl (show n < 60 by omega) (by decide) (by simp [zu, zset, upd]) (n := 20) rfl ?_
    refine k_iload2 S dX3_alarms_20 (n := 21) rfl ?_
    refine k_icmp_eq S dX3_alarms_21 (tgt := 38) (by decide) (n := 24) rfl (fun c1 => ?_) (fun c1 => ?_)
    ·
      refine k_aload0 S dX3_alarms_38 (n := 39) rfl ?_
      refine k_iload3 S dX3_alarms_39 (n := 40) rfl ?_
      refine k_callV (As := [.int (nI n)]) (rest := []) (p := 0) S (c_X3_isPoint (i := n) (d := d) (by rw [zset_off _ _ (by decide)]; exact hd) hd60 (by omega)) mv_X3_isPoint m_359 dX3_alarms_40 rfl rfl ⟨by decide, by decide⟩ (zlt S (by decide)) (by decide) (ci := 3) rfl rfl rfl (Nat.le_of_ble_eq_true rfl) ⟨by decide, by decide⟩ (n := 43) rfl (fun _ _ h => h.elim) (fun v9 ν9 h9 => ?_)
      rw [h9.1, h9.2]
      show zK x g ({ frames := 3, cells := 0, slots := 0, locals := 66 } : Room) 4 0 0 43 [some (.ref (za g 0)), some (.int (zaK μ ph n)), some (.int (zaN (μ.1 5) n)), some (.int (nI n))] [.int ((if μ.1 4 n = 0 then (1 : Int32) else 0))] (zset μ 7 (zaA μ ph n))
      refine k_if_eq S dX3_alarms_43 (tgt := 82) (by decide) (n := 46) rfl (fun c2a => ?_) (fun c2a => ?_)
      ·
        have c2 := zi0n c2a
        refine k_iinc3 S dX3_alarms_82 (v := nI (n + 1)) (zi1 n) (by decide) (n := 85) rfl ?_
        refine k_goto S dX3_alarms_85 (tgt := 6) (by decide) ?_
        have q9 := ih (n + 1) (by omega)
        rw [show zaN (μ.1 5) (n + 1) = μ.1 5 n from rfl] at q9
        rw [zaK_s, zaA_s, zaR] at q9
        first | rw [if_pos c2, if_pos c2, if_pos c1] at q9 | rw [if_pos c2, if_pos c2, if_neg c1] at q9 | rw [if_neg c2, if_neg c2, if_pos c1] at q9 | rw [if_neg c2, if_neg c2, if_neg c1] at q9
        first | exact q9 | (rw [← c1]; exact q9)
      ·
        have c2 := zi0 c2a
        refine k_aload0 S dX3_alarms_46 (n := 47) rfl ?_
        refine k_getr (r := 7) (T := TX3) (j := 14) S dX3_alarms_47 (zlt S (by decide)) (by decide) (ci := 3) rfl rfl (by decide) in_3 m_159 rfl rfl (n := 50) rfl ?_
        refine k_aload0 S dX3_alarms_50 (n := 51) rfl ?_
        refine k_getr (r := 3) (T := TX3) (j := 9) S dX3_alarms_51 (zlt S (by decide)) (by decide) (ci := 3) rfl rfl (by decide) in_3 m_154 rfl rfl (n := 54) rfl ?_
        refine k_iload3 S dX3_alarms_54 (n := 55) rfl ?_
        refine k_ialdv (v := μ.1 3 n) S dX3_alarms_55 (j := n) (zlt S (by decide)) (by decide) rfl (show n < 60 by omega) (by decide) (by simp [zu, zset, upd]) (n := 56) rfl ?_
        refine k_aload0 S dX3_alarms_56 (n := 57) rfl ?_
        refine k_iload3 S dX3_alarms_57 (n := 58) rfl ?_
        refine k_callV (As := [.int (nI n)]) (rest := [.int (μ.1 3 n), .ref (za g 7)]) (p := 0) S (c_X3_phaseHolding (i := n) (k := ph n) (c := c) (show n < 60 by omega) (by rw [zset_off _ _ (by decide)]; exact (hph n (by omega)).1) (by rw [zset_off _ _ (by decide)]; exact hcc) (hph n (by omega)).2 hc10) mv_X3_phaseHolding m_314 dX3_alarms_58 rfl rfl ⟨by decide, by decide⟩ (zlt S (by decide)) (by decide) (ci := 3) rfl rfl rfl (Nat.le_of_ble_eq_true rfl) ⟨by decide, by decide⟩ (n := 61) rfl (fun _ _ h => h.elim) (fun v9 ν9 h9 => ?_)
        rw [h9.1, h9.2]
        show zK x g ({ frames := 3, cells := 0, slots := 0, locals := 66 } : Room) 4 0 0 61 [some (.ref (za g 0)), some (.int (zaK μ ph n)), some (.int (zaN (μ.1 5) n)), some (.int (nI n))] [.ref (za g (11 + ph n)), .int (μ.1 3 n), .ref (za g 7)] (zset μ 7 (zaA μ ph n))
        refine k_callV (As := [.int (μ.1 3 n), .ref (za g (11 + ph n))]) (rest := []) (p := 7) S (c_X1_take (ce := μ.1 (11 + ph n) 5) (w := μ.1 (11 + ph n) 7) hk (by omega) rfl rfl) mv_X1_take m_363 dX3_alarms_61 rfl rfl ⟨by decide, by decide⟩ (zlt S (by decide)) (by decide) (ci := 1) rfl rfl rfl (Nat.le_of_ble_eq_true rfl) ⟨by decide, by decide⟩ (n := 64) rfl (fun _ _ h => h.elim) (fun v9 ν9 h9 => ?_)
        rw [h9.1, h9.2]
        show zK x g ({ frames := 3, cells := 0, slots := 0, locals := 66 } : Room) 4 0 0 64 [some (.ref (za g 0)), some (.int (zaK μ ph n)), some (.int (zaN (μ.1 5) n)), some (.int (nI n))] [] (zset μ 7 (r_X1_take (zaA μ ph n) (μ.1 3 n) (μ.1 (11 + ph n) 5) (μ.1 (11 + ph n) 7)))
        refine k_iload1 S dX3_alarms_64 (n := 65) rfl ?_
        refine k_aload0 S dX3_alarms_65 (n := 66) rfl ?_
        refine k_getr (r := 7) (T := TX3) (j := 14) S dX3_alarms_66 (zlt S (by decide)) (by decide) (ci := 3) rfl rfl (by decide) in_3 m_159 rfl rfl (n := 69) rfl ?_
        refine k_callV (As := []) (rest := [.int (zaK μ ph n)]) (p := 7) S (c_X1_brokenRules) mv_X1_brokenRules m_394 dX3_alarms_69 rfl rfl ⟨by decide, by decide⟩ (zlt S (by decide)) (by decide) (ci := 1) rfl rfl rfl (Nat.le_of_ble_eq_true rfl) ⟨by decide, by decide⟩ (n := 72) rfl (fun _ _ h => h.elim) (fun v9 ν9 h9 => ?_)
        rw [h9.1, h9.2]
        show zK x g ({ frames := 3, cells := 0, slots := 0, locals := 66 } : Room) 4 0 0 72 [some (.ref (za g 0)), some (.int (zaK μ ph n)), some (.int (zaN (μ.1 5) n)), some (.int (nI n))] [.int (v_X1_brokenRules (r_X1_take (zaA μ ph n) (μ.1 3 n) (μ.1 (11 + ph n) 5) (μ.1 (11 + ph n) 7))), .int (zaK μ ph n)] (zset μ 7 (r_X1_take (zaA μ ph n) (μ.1 3 n) (μ.1 (11 + ph n) 5) (μ.1 (11 + ph n) 7)))
        have hJ2 : zK x g ({ frames := 3, cells := 0, slots := 0, locals := 66 } : Room) 4 0 0 80 [some (.ref (za g 0)), some (.int (zaK μ ph n)), some (.int (zaN (μ.1 5) n)), some (.int (nI n))] [.int ((if (v_X1_brokenRules (r_X1_take (zaA μ ph n) (μ.1 3 n) (μ.1 (11 + ph n) 5) (μ.1 (11 + ph n) 7))) = 0 then (0 : Int32) else (1 : Int32))), .int (zaK μ ph n)] (zset μ 7 (r_X1_take (zaA μ ph n) (μ.1 3 n) (μ.1 (11 + ph n) 5) (μ.1 (11 + ph n) 7))) := by
          refine k_iadd S dX3_alarms_80 (n := 81) rfl ?_
          refine k_istore1 S dX3_alarms_81 (by decide) rfl (n := 82) rfl ?_
          refine k_iinc3 S dX3_alarms_82 (v := nI (n + 1)) (zi1 n) (by decide) (n := 85) rfl ?_
          refine k_goto S dX3_alarms_85 (tgt := 6) (by decide) ?_
          have q9 := ih (n + 1) (by omega)
          rw [show zaN (μ.1 5) (n + 1) = μ.1 5 n from rfl] at q9
          rw [zaK_s, zaA_s, zaR] at q9
          first | rw [if_pos c2, if_pos c2, if_pos c1] at q9 | rw [if_pos c2, if_pos c2, if_neg c1] at q9 | rw [if_neg c2, if_neg c2, if_pos c1] at q9 | rw [if_neg c2, if_neg c2, if_neg c1] at q9
          first | exact q9 | (rw [← c1]; exact q9)
        refine k_if_eq S dX3_alarms_72 (tgt := 79) (by decide) (n := 75) rfl (fun c1 => ?_) (fun c1 => ?_)
        ·
          refine k_iconst S dX3_alarms_79 (v := 0) (by decide) (n := 80) rfl ?_
          rw [if_pos c1] at hJ2
          exact hJ2
        ·
          refine k_iconst S dX3_alarms_75 (v := 1) (by decide) (n := 76) rfl ?_
          refine k_goto S dX3_alarms_76 (tgt := 80) (by decide) ?_
          rw [if_neg c1] at hJ2
          exact hJ2
    ·
      refine k_aload0 S dX3_alarms_24 (n := 25) rfl ?_
      refine k_getr (r := 5) (T := TX3) (j := 11) S dX3_alarms_25 (zlt S (by decide)) (by decide) (ci := 3) rfl rfl (by decide) in_3 m_156 rfl rfl (n := 28) rfl ?_
      refine k_iload3 S dX3_alarms_28 (n := 29) rfl ?_
      refine k_ialdv (v := μ.1 5 n) S dX3_alarms_29 (j := n) (zlt S (by decide)) (by decide) rfl (show n < 60 by omega) (by decide) (by simp [zu, zset, upd]) (n := 30) rfl ?_
      refine k_istore2 S dX3_alarms_30 (by decide) rfl (n := 31) rfl ?_
      refine k_aload0 S dX3_alarms_31 (n := 32) rfl ?_
      refine k_getr (r := 7) (T := TX3) (j := 14) S dX3_alarms_32 (zlt S (by decide)) (by decide) (ci := 3) rfl rfl (by decide) in_3 m_159 rfl rfl (n := 35) rfl ?_
      refine k_callV (As := []) (rest := []) (p := 7) S (c_X1_restart) mv_X1_restart m_355 dX3_alarms_35 rfl rfl ⟨by decide, by decide⟩ (zlt S (by decide)) (by decide) (ci := 1) rfl rfl rfl (Nat.le_of_ble_eq_true rfl) ⟨by decide, by decide⟩ (n := 38) rfl (fun _ _ h => h.elim) (fun v9 ν9 h9 => ?_)
      rw [h9.1, h9.2]
      show zK x g ({ frames := 3, cells := 0, slots := 0, locals := 66 } : Room) 4 0 0 38 [some (.ref (za g 0)), some (.int (zaK μ ph n)), some (.int (μ.1 5 n)), some (.int (nI n))] [] (zset μ 7 (r_X1_restart (zaA μ ph n) ))
      refine k_aload0 S dX3_alarms_38 (n := 39) rfl ?_
      refine k_iload3 S dX3_alarms_39 (n := 40) rfl ?_
      refine k_callV (As := [.int (nI n)]) (rest := []) (p := 0) S (c_X3_isPoint (i := n) (d := d) (by rw [zset_off _ _ (by decide)]; exact hd) hd60 (by omega)) mv_X3_isPoint m_359 dX3_alarms_40 rfl rfl ⟨by decide, by decide⟩ (zlt S (by decide)) (by decide) (ci := 3) rfl rfl rfl (Nat.le_of_ble_eq_true rfl) ⟨by decide, by decide⟩ (n := 43) rfl (fun _ _ h => h.elim) (fun v9 ν9 h9 => ?_)
      rw [h9.1, h9.2]
      show zK x g ({ frames := 3, cells := 0, slots := 0, locals := 66 } : Room) 4 0 0 43 [some (.ref (za g 0)), some (.int (zaK μ ph n)), some (.int (μ.1 5 n)), some (.int (nI n))] [.int ((if μ.1 4 n = 0 then (1 : Int32) else 0))] (zset μ 7 (r_X1_restart (zaA μ ph n) ))
      refine k_if_eq S dX3_alarms_43 (tgt := 82) (by decide) (n := 46) rfl (fun c2a => ?_) (fun c2a => ?_)
      ·
        have c2 := zi0n c2a
        refine k_iinc3 S dX3_alarms_82 (v := nI (n + 1)) (zi1 n) (by decide) (n := 85) rfl ?_
        refine k_goto S dX3_alarms_85 (tgt := 6) (by decide) ?_
        have q9 := ih (n + 1) (by omega)
        rw [show zaN (μ.1 5) (n + 1) = μ.1 5 n from rfl] at q9
        rw [zaK_s, zaA_s, zaR] at q9
        first | rw [if_pos c2, if_pos c2, if_pos c1] at q9 | rw [if_pos c2, if_pos c2, if_neg c1] at q9 | rw [if_neg c2, if_neg c2, if_pos c1] at q9 | rw [if_neg c2, if_neg c2, if_neg c1] at q9
        first | exact q9 | (rw [← c1]; exact q9)
      ·
        have c2 := zi0 c2a
        refine k_aload0 S dX3_alarms_46 (n := 47) rfl ?_
        refine k_getr (r := 7) (T := TX3) (j := 14) S dX3_alarms_47 (zlt S (by decide)) (by decide) (ci := 3) rfl rfl (by decide) in_3 m_159 rfl rfl (n := 50) rfl ?_
        refine k_aload0 S dX3_alarms_50 (n := 51) rfl ?_
        refine k_getr (r := 3) (T := TX3) (j := 9) S dX3_alarms_51 (zlt S (by decide)) (by decide) (ci := 3) rfl rfl (by decide) in_3 m_154 rfl rfl (n := 54) rfl ?_
        refine k_iload3 S dX3_alarms_54 (n := 55) rfl ?_
        refine k_ialdv (v := μ.1 3 n) S dX3_alarms_55 (j := n) (zlt S (by decide)) (by decide) rfl (show n < 60 by omega) (by decide) (by simp [zu, zset, upd]) (n := 56) rfl ?_
        refine k_aload0 S dX3_alarms_56 (n := 57) rfl ?_
        refine k_iload3 S dX3_alarms_57 (n := 58) rfl ?_
        refine k_callV (As := [.int (nI n)]) (rest := [.int (μ.1 3 n), .ref (za g 7)]) (p := 0) S (c_X3_phaseHolding (i := n) (k := ph n) (c := c) (show n < 60 by omega) (by rw [zset_off _ _ (by decide)]; exact (hph n (by omega)).1) (by rw [zset_off _ _ (by decide)]; exact hcc) (hph n (by omega)).2 hc10) mv_X3_phaseHolding m_314 dX3_alarms_58 rfl rfl ⟨by decide, by decide⟩ (zlt S (by decide)) (by decide) (ci := 3) rfl rfl rfl (Nat.le_of_ble_eq_true rfl) ⟨by decide, by decide⟩ (n := 61) rfl (fun _ _ h => h.elim) (fun v9 ν9 h9 => ?_)
        rw [h9.1, h9.2]
        show zK x g ({ frames := 3, cells := 0, slots := 0, locals := 66 } : Room) 4 0 0 61 [some (.ref (za g 0)), some (.int (zaK μ ph n)), some (.int (μ.1 5 n)), some (.int (nI n))] [.ref (za g (11 + ph n)), .int (μ.1 3 n), .ref (za g 7)] (zset μ 7 (r_X1_restart (zaA μ ph n) ))
        refine k_callV (As := [.int (μ.1 3 n), .ref (za g (11 + ph n))]) (rest := []) (p := 7) S (c_X1_take (ce := μ.1 (11 + ph n) 5) (w := μ.1 (11 + ph n) 7) hk (by omega) rfl rfl) mv_X1_take m_363 dX3_alarms_61 rfl rfl ⟨by decide, by decide⟩ (zlt S (by decide)) (by decide) (ci := 1) rfl rfl rfl (Nat.le_of_ble_eq_true rfl) ⟨by decide, by decide⟩ (n := 64) rfl (fun _ _ h => h.elim) (fun v9 ν9 h9 => ?_)
        rw [h9.1, h9.2]
        show zK x g ({ frames := 3, cells := 0, slots := 0, locals := 66 } : Room) 4 0 0 64 [some (.ref (za g 0)), some (.int (zaK μ ph n)), some (.int (μ.1 5 n)), some (.int (nI n))] [] (zset μ 7 (r_X1_take (r_X1_restart (zaA μ ph n) ) (μ.1 3 n) (μ.1 (11 + ph n) 5) (μ.1 (11 + ph n) 7)))
        refine k_iload1 S dX3_alarms_64 (n := 65) rfl ?_
        refine k_aload0 S dX3_alarms_65 (n := 66) rfl ?_
        refine k_getr (r := 7) (T := TX3) (j := 14) S dX3_alarms_66 (zlt S (by decide)) (by decide) (ci := 3) rfl rfl (by decide) in_3 m_159 rfl rfl (n := 69) rfl ?_
        refine k_callV (As := []) (rest := [.int (zaK μ ph n)]) (p := 7) S (c_X1_brokenRules) mv_X1_brokenRules m_394 dX3_alarms_69 rfl rfl ⟨by decide, by decide⟩ (zlt S (by decide)) (by decide) (ci := 1) rfl rfl rfl (Nat.le_of_ble_eq_true rfl) ⟨by decide, by decide⟩ (n := 72) rfl (fun _ _ h => h.elim) (fun v9 ν9 h9 => ?_)
        rw [h9.1, h9.2]
        show zK x g ({ frames := 3, cells := 0, slots := 0, locals := 66 } : Room) 4 0 0 72 [some (.ref (za g 0)), some (.int (zaK μ ph n)), some (.int (μ.1 5 n)), some (.int (nI n))] [.int (v_X1_brokenRules (r_X1_take (r_X1_restart (zaA μ ph n) ) (μ.1 3 n) (μ.1 (11 + ph n) 5) (μ.1 (11 + ph n) 7))), .int (zaK μ ph n)] (zset μ 7 (r_X1_take (r_X1_restart (zaA μ ph n) ) (μ.1 3 n) (μ.1 (11 + ph n) 5) (μ.1 (11 + ph n) 7)))
        have hJ4 : zK x g ({ frames := 3, cells := 0, slots := 0, locals := 66 } : Room) 4 0 0 80 [some (.ref (za g 0)), some (.int (zaK μ ph n)), some (.int (μ.1 5 n)), some (.int (nI n))] [.int ((if (v_X1_brokenRules (r_X1_take (r_X1_restart (zaA μ ph n) ) (μ.1 3 n) (μ.1 (11 + ph n) 5) (μ.1 (11 + ph n) 7))) = 0 then (0 : Int32) else (1 : Int32))), .int (zaK μ ph n)] (zset μ 7 (r_X1_take (r_X1_restart (zaA μ ph n) ) (μ.1 3 n) (μ.1 (11 + ph n) 5) (μ.1 (11 + ph n) 7))) := by
          refine k_iadd S dX3_alarms_80 (n := 81) rfl ?_
          refine k_istore1 S dX3_alarms_81 (by decide) rfl (n := 82) rfl ?_
          refine k_iinc3 S dX3_alarms_82 (v := nI (n + 1)) (zi1 n) (by decide) (n := 85) rfl ?_
          refine k_goto S dX3_alarms_85 (tgt := 6) (by decide) ?_
          have q9 := ih (n + 1) (by omega)
          rw [show zaN (μ.1 5) (n + 1) = μ.1 5 n from rfl] at q9
          rw [zaK_s, zaA_s, zaR] at q9
          first | rw [if_pos c2, if_pos c2, if_pos c1] at q9 | rw [if_pos c2, if_pos c2, if_neg c1] at q9 | rw [if_neg c2, if_neg c2, if_pos c1] at q9 | rw [if_neg c2, if_neg c2, if_neg c1] at q9
          first | exact q9 | (rw [← c1]; exact q9)
        refine k_if_eq S dX3_alarms_72 (tgt := 79) (by decide) (n := 75) rfl (fun c3 => ?_) (fun c3 => ?_)
        ·
          refine k_iconst S dX3_alarms_79 (v := 0) (by decide) (n := 80) rfl ?_
          rw [if_pos c3] at hJ4
          exact hJ4
        ·
          refine k_iconst S dX3_alarms_75 (v := 1) (by decide) (n := 76) rfl ?_
          refine k_goto S dX3_alarms_76 (tgt := 80) (by decide) ?_
          rw [if_neg c3] at hJ4
          exact hJ4
set_option maxRecDepth 100000 in
set_option maxHeartbeats 4000000 in
theorem c_X3_alarms {l : Launch} {g : zG} {μ : zM} {d c : Nat} {ph : Nat → Nat} (hd : μ.1 0 6 = nI d) (hd60 : d ≤ 60) (hph : ∀ i, i < d → μ.1 5 i = nI (ph i) ∧ ph i < c) (hcc : μ.1 0 12 = nI c) (hc10 : c ≤ 10) : zC l g yX3_alarms cX3_alarms 4 (some .int) ({ frames := 3, cells := 0, slots := 0, locals := 66 } : Room) 0 0 [.ref (za g 0)] μ (zRv (some (.int (zaK μ ph d))) (zset μ 7 (zaA μ ph d))) zNX := by
  refine zC_of (L0 := [some (.ref (za g 0)), none, none, none]) (plainFor_of_name (by decide)) (Nat.le_of_ble_eq_true rfl) rfl ?_
  intro x S Y hxl
  subst hxl
  refine k_iconst S dX3_alarms_0 (v := 0) (by decide) (n := 1) rfl ?_
  refine k_istore1 S dX3_alarms_1 (by decide) rfl (n := 2) rfl ?_
  refine k_iconst S dX3_alarms_2 (v := (-1)) (by decide) (n := 3) rfl ?_
  refine k_istore2 S dX3_alarms_3 (by decide) rfl (n := 4) rfl ?_
  refine k_iconst S dX3_alarms_4 (v := 0) (by decide) (n := 5) rfl ?_
  refine k_istore3 S dX3_alarms_5 (by decide) rfl (n := 6) rfl ?_
  have q9 := l_X3_alarms S Y hd hd60 hph hcc hc10 d 0 (by omega)
  rw [show zaA μ ph 0 = μ.1 7 from rfl, zset_self] at q9
  exact q9
set_option maxRecDepth 100000 in
set_option maxHeartbeats 4000000 in
theorem l_X3_weighted {x : zX} {g : zG} {μ : zM} {i k f d : Nat} {ce : Int32} {RT : Option Value → zM → Prop} {XT : String → zM → Prop} (S : zS x g 5 cX3_weighted RX3) (Y : zR x g (some .int) 2 12 [] RT XT) (hd : μ.1 0 6 = nI d) (hd60 : d ≤ 60) (hi : i < d) (hfi : f ≤ i) (hRT : RT (some (.int (zwt (μ.1 4) (μ.1 3) f ce (μ.1 0 1) (i + 1 - f)))) μ) : ∀ (m n : Nat), n + m = i + 1 - f → zK x g ({ frames := 8, cells := 2, slots := 12, locals := 124 } : Room) 5 2 12 22 [some (.ref (za g 0)), some (.int (nI i)), some (.ref (za g (11 + k))), some (.int (zwt (μ.1 4) (μ.1 3) f ce (μ.1 0 1) n)), some (.int (nI (f + n)))] [] μ := by
  intro m
  induction m with
  | zero =>
    intro n h1
    have e9 : n = i + 1 - f := by omega
    refine k_iload4 S dX3_weighted_22 (n := 24) rfl ?_
    refine k_iload1 S dX3_weighted_24 (n := 25) rfl ?_
    refine k_icmp_gt S dX3_weighted_25 (tgt := 65) (by decide) (n := 28) rfl (fun _ => ?_) (fun h9 => absurd (nI_lt (by omega) (by omega)) h9)
    refine k_iload3 S dX3_weighted_65 (n := 66) rfl ?_
    exact k_iret S Y dX3_weighted_66 (by decide) (by decide) rfl (by rw [e9]; exact hRT)
  | succ m ih =>
    intro n h1
    refine k_iload4 S dX3_weighted_22 (n := 24) rfl ?_
    refine k_iload1 S dX3_weighted_24 (n := 25) rfl ?_
    refine k_icmp_gt S dX3_weighted_25 (tgt := 65) (by decide) (n := 28) rfl (fun h9 => absurd h9 (nI_nlt (by omega) (by omega))) (fun _ => ?_)
    refine k_aload0 S dX3_weighted_28 (n := 29) rfl ?_
    refine k_iload4 S dX3_weighted_29 (n := 31) rfl ?_
    refine k_callV (As := [.int (nI (f + n))]) (rest := []) (p := 0) S (c_X3_isPoint (i := f + n) hd hd60 (show f + n < d by omega)) mv_X3_isPoint m_359 dX3_weighted_31 rfl rfl ⟨by decide, by decide⟩ (zlt S (by decide)) (by decide) (ci := 3) rfl rfl rfl (Nat.le_of_ble_eq_true rfl) ⟨by decide, by decide⟩ (n := 34) rfl (fun _ _ h => h.elim) (fun v9 ν9 h9 => ?_)
    rw [h9.1, h9.2]
    show zK x g ({ frames := 8, cells := 2, slots := 12, locals := 124 } : Room) 5 2 12 34 [some (.ref (za g 0)), some (.int (nI i)), some (.ref (za g (11 + k))), some (.int (zwt (μ.1 4) (μ.1 3) f ce (μ.1 0 1) n)), some (.int (nI (f + n)))] [.int ((if μ.1 4 (f + n) = 0 then (1 : Int32) else 0))] μ
    refine k_if_eq S dX3_weighted_34 (tgt := 59) (by decide) (n := 37) rfl (fun c1 => ?_) (fun c1 => ?_)
    ·
      have e1 : zwt (μ.1 4) (μ.1 3) f ce (μ.1 0 1) (n + 1) = zwt (μ.1 4) (μ.1 3) f ce (μ.1 0 1) n := if_neg (zi0n c1)
      refine k_iinc4 S dX3_weighted_59 (v := nI (f + n + 1)) (zi1 (f + n)) (by decide) (n := 62) rfl ?_
      refine k_goto S dX3_weighted_62 (tgt := 22) (by decide) ?_
      have q9 := ih (n + 1) (by omega)
      rw [e1] at q9
      exact q9
    ·
      have e1 : zwt (μ.1 4) (μ.1 3) f ce (μ.1 0 1) (n + 1) = zwt (μ.1 4) (μ.1 3) f ce (μ.1 0 1) n + zfd (μ.1 0 1 * (μ.1 3 (f + n) - zwt (μ.1 4) (μ.1 3) f ce (μ.1 0 1) n)) 10 := if_pos (zi0 c1)
      refine k_iload3 S dX3_weighted_37 (n := 38) rfl ?_
      refine k_aload0 S dX3_weighted_38 (n := 39) rfl ?_
      refine k_geti (T := TX3) (j := 1) S dX3_weighted_39 (zlt S (by decide)) (by decide) (ci := 3) rfl rfl (by decide) in_3 m_146 rfl rfl (n := 42) rfl ?_
      refine k_aload0 S dX3_weighted_42 (n := 43) rfl ?_
      refine k_getr (r := 3) (T := TX3) (j := 9) S dX3_weighted_43 (zlt S (by decide)) (by decide) (ci := 3) rfl rfl (by decide) in_3 m_154 rfl rfl (n := 46) rfl ?_
      refine k_iload4 S dX3_weighted_46 (n := 48) rfl ?_
      refine k_iald S dX3_weighted_48 (j := (f + n)) (zlt S (by decide)) (by decide) rfl (show f + n < 60 by omega) (by decide) (n := 49) rfl ?_
      refine k_iload3 S dX3_weighted_49 (n := 50) rfl ?_
      refine k_isub S dX3_weighted_50 (n := 51) rfl ?_
      refine k_imul S dX3_weighted_51 (n := 52) rfl ?_
      refine k_bipush S dX3_weighted_52 (v := 10) (by decide) (n := 54) rfl ?_
      refine k_callS (As := [.int ((μ.1 0 1) * ((μ.1 3 ((f + n))) - (zwt (μ.1 4) (μ.1 3) f ce (μ.1 0 1) n))), .int 10]) (rest := [.int (zwt (μ.1 4) (μ.1 3) f ce (μ.1 0 1) n)]) S (c_J9_floorDiv_7cf53 (by decide)) mv_J9_floorDiv_7cf53 m_599 dX3_weighted_54 rfl rfl ⟨by decide, by decide⟩ rfl rfl (Nat.le_of_ble_eq_true rfl) ⟨by decide, by decide⟩ (n := 57) rfl (fun _ _ h => h.elim) (fun v9 ν9 h9 => ?_)
      rw [h9.1, h9.2]
      show zK x g ({ frames := 8, cells := 2, slots := 12, locals := 124 } : Room) 5 2 12 57 [some (.ref (za g 0)), some (.int (nI i)), some (.ref (za g (11 + k))), some (.int (zwt (μ.1 4) (μ.1 3) f ce (μ.1 0 1) n)), some (.int (nI (f + n)))] [.int (zfd ((μ.1 0 1) * ((μ.1 3 ((f + n))) - (zwt (μ.1 4) (μ.1 3) f ce (μ.1 0 1) n))) 10), .int (zwt (μ.1 4) (μ.1 3) f ce (μ.1 0 1) n)] μ
      refine k_iadd S dX3_weighted_57 (n := 58) rfl ?_
      refine k_istore3 S dX3_weighted_58 (by decide) rfl (n := 59) rfl ?_
      refine k_iinc4 S dX3_weighted_59 (v := nI (f + n + 1)) (zi1 (f + n)) (by decide) (n := 62) rfl ?_
      refine k_goto S dX3_weighted_62 (tgt := 22) (by decide) ?_
      have q9 := ih (n + 1) (by omega)
      rw [e1] at q9
      exact q9
set_option maxRecDepth 100000 in
set_option maxHeartbeats 4000000 in
theorem c_X3_weighted {l : Launch} {g : zG} {μ : zM} {v : Int32} {d c : Nat} {ph fs : Nat → Nat}  (hd : μ.1 0 6 = nI d) (hd60 : d ≤ 60) (hph : ∀ i, i < d → μ.1 5 i = nI (ph i) ∧ ph i < c) (hcc : μ.1 0 12 = nI c) (hc10 : c ≤ 10) (hfs : ∀ k, k < c → μ.1 (11 + k) 0 = nI (fs k)) (hfi : ∀ i, i < d → fs (ph i) ≤ i) : zC l g yX3_weighted cX3_weighted 5 (some .int) ({ frames := 8, cells := 2, slots := 12, locals := 124 } : Room) 2 12 [.ref (za g 0), .int v] μ (fun r ν => ∃ i, i < d ∧ v = nI i ∧ μ.1 4 i = 0 ∧ r = some (.int (zwt (μ.1 4) (μ.1 3) (fs (ph i)) (μ.1 (11 + ph i) 5) (μ.1 0 1) (i + 1 - fs (ph i)))) ∧ ν = μ) (fun E ν => ((¬ zIn v d ∧ E = "java/lang/IndexOutOfBoundsException") ∨ (∃ i, i < d ∧ v = nI i ∧ ¬ μ.1 4 i = 0 ∧ E = "java/lang/IllegalStateException")) ∧ ν = μ) := by
  refine zC_of (L0 := [some (.ref (za g 0)), some (.int v), none, none, none]) (plainFor_of_name (by decide)) (Nat.le_of_ble_eq_true rfl) rfl ?_
  intro x S Y hxl
  subst hxl
  refine k_aload0 S dX3_weighted_0 (n := 1) rfl ?_
  refine k_iload1 S dX3_weighted_1 (n := 2) rfl ?_
  refine k_callV (As := [.int v]) (rest := []) (p := 0) S (c_X3_checkPoint (d := d) hd hd60) mv_X3_checkPoint m_594 dX3_weighted_2 rfl rfl ⟨by decide, by decide⟩ (zlt S (by decide)) (by decide) (ci := 3) rfl rfl rfl (Nat.le_of_ble_eq_true rfl) ⟨by decide, by decide⟩ (n := 5) rfl (fun E9 ν9 h9 => k_out S Y (by decide) (by decide) (h9)) (fun v9 ν9 h9 => ?_)
  obtain ⟨i, hi, e9, hpt, e1, e2⟩ := h9
  subst e9
  rw [e1, e2]
  show zK x g ({ frames := 8, cells := 2, slots := 12, locals := 124 } : Room) 5 2 12 5 [some (.ref (za g 0)), some (.int (nI i)), none, none, none] [] μ
  have hkc := (hph i hi).2
  have hk : ph i < 10 := by omega
  have hf9 := hfi i hi
  refine k_aload0 S dX3_weighted_5 (n := 6) rfl ?_
  refine k_iload1 S dX3_weighted_6 (n := 7) rfl ?_
  refine k_callV (As := [.int (nI i)]) (rest := []) (p := 0) S (c_X3_phaseHolding (show i < 60 by omega) (hph i hi).1 hcc (hph i hi).2 hc10) mv_X3_phaseHolding m_314 dX3_weighted_7 rfl rfl ⟨by decide, by decide⟩ (zlt S (by decide)) (by decide) (ci := 3) rfl rfl rfl (Nat.le_of_ble_eq_true rfl) ⟨by decide, by decide⟩ (n := 10) rfl (fun _ _ h => h.elim) (fun v9 ν9 h9 => ?_)
  rw [h9.1, h9.2]
  show zK x g ({ frames := 8, cells := 2, slots := 12, locals := 124 } : Room) 5 2 12 10 [some (.ref (za g 0)), some (.int (nI i)), none, none, none] [.ref (za g (11 + ph i))] μ
  refine k_astore2 S dX3_weighted_10 (by decide) rfl (n := 11) rfl ?_
  refine k_aload2 S dX3_weighted_11 (n := 12) rfl ?_
  refine k_geti (T := TX0) (j := 5) S dX3_weighted_12 (zlt S (by omega)) (zki_ph (by omega)) (ci := 0) rfl rfl (by decide) in_0 m_39 rfl rfl (n := 15) rfl ?_
  refine k_istore3 S dX3_weighted_15 (by decide) rfl (n := 16) rfl ?_
  refine k_aload2 S dX3_weighted_16 (n := 17) rfl ?_
  refine k_getv (v := nI (fs (ph i))) (T := TX0) (j := 0) S dX3_weighted_17 (zlt S (by omega)) (zki_ph (by omega)) (ci := 0) rfl rfl (by decide) in_0 m_29 rfl rfl (hfs _ hkc) (n := 20) rfl ?_
  refine k_istore4 S dX3_weighted_20 (by decide) rfl (n := 22) rfl ?_
  exact l_X3_weighted (ce := μ.1 (11 + ph i) 5) S Y hd hd60 hi hf9 ⟨i, hi, rfl, hpt, rfl, rfl⟩ (i + 1 - fs (ph i)) 0 (by omega)
set_option maxRecDepth 100000 in
set_option maxHeartbeats 4000000 in
theorem l_X3_cumulative {x : zX} {g : zG} {μ : zM} {i k f d : Nat} {ce w b : Int32} {RT : Option Value → zM → Prop} {XT : String → zM → Prop} (S : zS x g 8 cX3_cumulative RX3) (Y : zR x g (some .int) 2 12 [] RT XT) (hd : μ.1 0 6 = nI d) (hd60 : d ≤ 60) (hi : i < d) (hfi : f ≤ i) (hk : k < 10) (hc : μ.1 (11 + k) 5 = ce) (hRT : RT (some (.int (zcu (μ.1 4) (μ.1 3) f ce (zfd (zfd w 3) 2) b (i + 1 - f)))) μ) : ∀ (m n : Nat), n + m = i + 1 - f → zK x g ({ frames := 8, cells := 2, slots := 12, locals := 124 } : Room) 8 2 12 34 [some (.ref (za g 0)), some (.int (nI i)), some (.int b), some (.ref (za g (11 + k))), some (.int (zfd (zfd w 3) 2)), some (.int (zcu (μ.1 4) (μ.1 3) f ce (zfd (zfd w 3) 2) b n)), some (.int (nI (f + n))), none] [] μ := by
  intro m
  induction m with
  | zero =>
    intro n h1
    have e9 : n = i + 1 - f := by omega
    refine k_iload6 S dX3_cumulative_34 (n := 36) rfl ?_
    refine k_iload1 S dX3_cumulative_36 (n := 37) rfl ?_
    refine k_icmp_gt S dX3_cumulative_37 (tgt := 102) (by decide) (n := 40) rfl (fun _ => ?_) (fun h9 => absurd (nI_lt (by omega) (by omega)) h9)
    refine k_iload5 S dX3_cumulative_102 (n := 104) rfl ?_
    exact k_iret S Y dX3_cumulative_104 (by decide) (by decide) rfl (by rw [e9]; exact hRT)
  | succ m ih =>
    intro n h1
    refine k_iload6 S dX3_cumulative_34 (n := 36) rfl ?_
    refine k_iload1 S dX3_cumulative_36 (n := 37) rfl ?_
    refine k_icmp_gt S dX3_cumulative_37 (tgt := 102) (by decide) (n := 40) rfl (fun h9 => absurd h9 (nI_nlt (by omega) (by omega))) (fun _ => ?_)
    refine k_aload0 S dX3_cumulative_40 (n := 41) rfl ?_
    refine k_iload6 S dX3_cumulative_41 (n := 43) rfl ?_
    refine k_callV (As := [.int (nI (f + n))]) (rest := []) (p := 0) S (c_X3_isPoint (i := f + n) hd hd60 (show f + n < d by omega)) mv_X3_isPoint m_359 dX3_cumulative_43 rfl rfl ⟨by decide, by decide⟩ (zlt S (by decide)) (by decide) (ci := 3) rfl rfl rfl (Nat.le_of_ble_eq_true rfl) ⟨by decide, by decide⟩ (n := 46) rfl (fun _ _ h => h.elim) (fun v9 ν9 h9 => ?_)
    rw [h9.1, h9.2]
    show zK x g ({ frames := 8, cells := 2, slots := 12, locals := 124 } : Room) 8 2 12 46 [some (.ref (za g 0)), some (.int (nI i)), some (.int b), some (.ref (za g (11 + k))), some (.int (zfd (zfd w 3) 2)), some (.int (zcu (μ.1 4) (μ.1 3) f ce (zfd (zfd w 3) 2) b n)), some (.int (nI (f + n))), none] [.int ((if μ.1 4 (f + n) = 0 then (1 : Int32) else 0))] μ
    refine k_if_eq S dX3_cumulative_46 (tgt := 96) (by decide) (n := 49) rfl (fun c1 => ?_) (fun c1 => ?_)
    ·
      have e1 : zcu (μ.1 4) (μ.1 3) f ce (zfd (zfd w 3) 2) b (n + 1) = zcu (μ.1 4) (μ.1 3) f ce (zfd (zfd w 3) 2) b n := if_neg (zi0n c1)
      refine k_iinc6 S dX3_cumulative_96 (v := nI (f + n + 1)) (zi1 (f + n)) (by decide) (n := 99) rfl ?_
      refine k_goto S dX3_cumulative_99 (tgt := 34) (by decide) ?_
      have q9 := ih (n + 1) (by omega)
      rw [e1] at q9
      first | exact q9 | exact k_more _ rfl q9
    ·
      have e1 : zcu (μ.1 4) (μ.1 3) f ce (zfd (zfd w 3) 2) b (n + 1) = zmax 0 (zcu (μ.1 4) (μ.1 3) f ce (zfd (zfd w 3) 2) b n + (if b = 0 then ce - μ.1 3 (f + n) else μ.1 3 (f + n) - ce) - (zfd (zfd w 3) 2)) := if_pos (zi0 c1)
      refine k_iload2 S dX3_cumulative_49 (n := 50) rfl ?_
      have hJ2 : zK x g ({ frames := 8, cells := 2, slots := 12, locals := 124 } : Room) 8 2 12 80 [some (.ref (za g 0)), some (.int (nI i)), some (.int b), some (.ref (za g (11 + k))), some (.int (zfd (zfd w 3) 2)), some (.int (zcu (μ.1 4) (μ.1 3) f ce (zfd (zfd w 3) 2) b n)), some (.int (nI (f + n))), none] [.int ((if b = 0 then ce - (μ.1 3 ((f + n))) else (μ.1 3 ((f + n))) - ce))] μ := by
        refine k_istore7 S dX3_cumulative_80 (by decide) rfl (n := 82) rfl ?_
        refine k_iconst S dX3_cumulative_82 (v := 0) (by decide) (n := 83) rfl ?_
        refine k_iload5 S dX3_cumulative_83 (n := 85) rfl ?_
        refine k_iload7 S dX3_cumulative_85 (n := 87) rfl ?_
        refine k_iadd S dX3_cumulative_87 (n := 88) rfl ?_
        refine k_iload4 S dX3_cumulative_88 (n := 90) rfl ?_
        refine k_isub S dX3_cumulative_90 (n := 91) rfl ?_
        refine k_callS (As := [.int 0, .int (((zcu (μ.1 4) (μ.1 3) f ce (zfd (zfd w 3) 2) b n) + ((if b = 0 then ce - (μ.1 3 ((f + n))) else (μ.1 3 ((f + n))) - ce))) - (zfd (zfd w 3) 2))]) (rest := []) S (c_J9_max_7cf53) mv_J9_max_7cf53 m_292 dX3_cumulative_91 rfl rfl ⟨by decide, by decide⟩ rfl rfl (Nat.le_of_ble_eq_true rfl) ⟨by decide, by decide⟩ (n := 94) rfl (fun _ _ h => h.elim) (fun v9 ν9 h9 => ?_)
        rw [h9.1, h9.2]
        show zK x g ({ frames := 8, cells := 2, slots := 12, locals := 124 } : Room) 8 2 12 94 [some (.ref (za g 0)), some (.int (nI i)), some (.int b), some (.ref (za g (11 + k))), some (.int (zfd (zfd w 3) 2)), some (.int (zcu (μ.1 4) (μ.1 3) f ce (zfd (zfd w 3) 2) b n)), some (.int (nI (f + n))), some (.int ((if b = 0 then ce - (μ.1 3 ((f + n))) else (μ.1 3 ((f + n))) - ce)))] [.int (zmax 0 (((zcu (μ.1 4) (μ.1 3) f ce (zfd (zfd w 3) 2) b n) + ((if b = 0 then ce - (μ.1 3 ((f + n))) else (μ.1 3 ((f + n))) - ce))) - (zfd (zfd w 3) 2)))] μ
        refine k_istore5 S dX3_cumulative_94 (by decide) rfl (n := 96) rfl ?_
        refine k_iinc6 S dX3_cumulative_96 (v := nI (f + n + 1)) (zi1 (f + n)) (by decide) (n := 99) rfl ?_
        refine k_goto S dX3_cumulative_99 (tgt := 34) (by decide) ?_
        have q9 := ih (n + 1) (by omega)
        rw [e1] at q9
        first | exact q9 | exact k_more _ rfl q9
      refine k_if_eq S dX3_cumulative_50 (tgt := 68) (by decide) (n := 53) rfl (fun c1 => ?_) (fun c1 => ?_)
      ·
        refine k_aload3 S dX3_cumulative_68 (n := 69) rfl ?_
        refine k_getv (v := ce) (T := TX0) (j := 5) S dX3_cumulative_69 (zlt S (by omega)) (zki_ph (by omega)) (ci := 0) rfl rfl (by decide) in_0 m_39 rfl rfl hc (n := 72) rfl ?_
        refine k_aload0 S dX3_cumulative_72 (n := 73) rfl ?_
        refine k_getr (r := 3) (T := TX3) (j := 9) S dX3_cumulative_73 (zlt S (by decide)) (by decide) (ci := 3) rfl rfl (by decide) in_3 m_154 rfl rfl (n := 76) rfl ?_
        refine k_iload6 S dX3_cumulative_76 (n := 78) rfl ?_
        refine k_iald S dX3_cumulative_78 (j := (f + n)) (zlt S (by decide)) (by decide) rfl (show f + n < 60 by omega) (by decide) (n := 79) rfl ?_
        refine k_isub S dX3_cumulative_79 (n := 80) rfl ?_
        rw [if_pos c1] at hJ2
        exact hJ2
      ·
        refine k_aload0 S dX3_cumulative_53 (n := 54) rfl ?_
        refine k_getr (r := 3) (T := TX3) (j := 9) S dX3_cumulative_54 (zlt S (by decide)) (by decide) (ci := 3) rfl rfl (by decide) in_3 m_154 rfl rfl (n := 57) rfl ?_
        refine k_iload6 S dX3_cumulative_57 (n := 59) rfl ?_
        refine k_iald S dX3_cumulative_59 (j := (f + n)) (zlt S (by decide)) (by decide) rfl (show f + n < 60 by omega) (by decide) (n := 60) rfl ?_
        refine k_aload3 S dX3_cumulative_60 (n := 61) rfl ?_
        refine k_getv (v := ce) (T := TX0) (j := 5) S dX3_cumulative_61 (zlt S (by omega)) (zki_ph (by omega)) (ci := 0) rfl rfl (by decide) in_0 m_39 rfl rfl hc (n := 64) rfl ?_
        refine k_isub S dX3_cumulative_64 (n := 65) rfl ?_
        refine k_goto S dX3_cumulative_65 (tgt := 80) (by decide) ?_
        rw [if_neg c1] at hJ2
        exact hJ2
set_option maxRecDepth 100000 in
set_option maxHeartbeats 4000000 in
theorem c_X3_cumulative {l : Launch} {g : zG} {μ : zM} {v b : Int32} {d c : Nat} {ph fs : Nat → Nat}  (hd : μ.1 0 6 = nI d) (hd60 : d ≤ 60) (hph : ∀ i, i < d → μ.1 5 i = nI (ph i) ∧ ph i < c) (hcc : μ.1 0 12 = nI c) (hc10 : c ≤ 10) (hfs : ∀ k, k < c → μ.1 (11 + k) 0 = nI (fs k)) (hfi : ∀ i, i < d → fs (ph i) ≤ i) : zC l g yX3_cumulative cX3_cumulative 8 (some .int) ({ frames := 8, cells := 2, slots := 12, locals := 124 } : Room) 2 12 [.ref (za g 0), .int v, .int b] μ (fun r ν => ∃ i, i < d ∧ v = nI i ∧ μ.1 4 i = 0 ∧ r = some (.int (zcu (μ.1 4) (μ.1 3) (fs (ph i)) (μ.1 (11 + ph i) 5) (zfd (zfd (μ.1 (11 + ph i) 7) 3) 2) b (i + 1 - fs (ph i)))) ∧ ν = μ) (fun E ν => ((¬ zIn v d ∧ E = "java/lang/IndexOutOfBoundsException") ∨ (∃ i, i < d ∧ v = nI i ∧ ¬ μ.1 4 i = 0 ∧ E = "java/lang/IllegalStateException")) ∧ ν = μ) := by
  refine zC_of (L0 := [some (.ref (za g 0)), some (.int v), some (.int b), none, none, none, none, none]) (plainFor_of_name (by decide)) (Nat.le_of_ble_eq_true rfl) rfl ?_
  intro x S Y hxl
  subst hxl
  refine k_aload0 S dX3_cumulative_0 (n := 1) rfl ?_
  refine k_iload1 S dX3_cumulative_1 (n := 2) rfl ?_
  refine k_callV (As := [.int v]) (rest := []) (p := 0) S (c_X3_checkPoint (d := d) hd hd60) mv_X3_checkPoint m_594 dX3_cumulative_2 rfl rfl ⟨by decide, by decide⟩ (zlt S (by decide)) (by decide) (ci := 3) rfl rfl rfl (Nat.le_of_ble_eq_true rfl) ⟨by decide, by decide⟩ (n := 5) rfl (fun E9 ν9 h9 => k_out S Y (by decide) (by decide) (h9)) (fun v9 ν9 h9 => ?_)
  obtain ⟨i, hi, e9, hpt, e1, e2⟩ := h9
  subst e9
  rw [e1, e2]
  show zK x g ({ frames := 8, cells := 2, slots := 12, locals := 124 } : Room) 8 2 12 5 [some (.ref (za g 0)), some (.int (nI i)), some (.int b), none, none, none, none, none] [] μ
  have hkc := (hph i hi).2
  have hk : ph i < 10 := by omega
  have hf9 := hfi i hi
  refine k_aload0 S dX3_cumulative_5 (n := 6) rfl ?_
  refine k_iload1 S dX3_cumulative_6 (n := 7) rfl ?_
  refine k_callV (As := [.int (nI i)]) (rest := []) (p := 0) S (c_X3_phaseHolding (show i < 60 by omega) (hph i hi).1 hcc (hph i hi).2 hc10) mv_X3_phaseHolding m_314 dX3_cumulative_7 rfl rfl ⟨by decide, by decide⟩ (zlt S (by decide)) (by decide) (ci := 3) rfl rfl rfl (Nat.le_of_ble_eq_true rfl) ⟨by decide, by decide⟩ (n := 10) rfl (fun _ _ h => h.elim) (fun v9 ν9 h9 => ?_)
  rw [h9.1, h9.2]
  show zK x g ({ frames := 8, cells := 2, slots := 12, locals := 124 } : Room) 8 2 12 10 [some (.ref (za g 0)), some (.int (nI i)), some (.int b), none, none, none, none, none] [.ref (za g (11 + ph i))] μ
  refine k_astore3 S dX3_cumulative_10 (by decide) rfl (n := 11) rfl ?_
  refine k_aload3 S dX3_cumulative_11 (n := 12) rfl ?_
  refine k_geti (T := TX0) (j := 7) S dX3_cumulative_12 (zlt S (by omega)) (zki_ph (by omega)) (ci := 0) rfl rfl (by decide) in_0 m_43 rfl rfl (n := 15) rfl ?_
  refine k_iconst S dX3_cumulative_15 (v := 3) (by decide) (n := 16) rfl ?_
  refine k_callS (As := [.int (μ.1 (11 + ph i) 7), .int 3]) (rest := []) S (c_J9_floorDiv_7cf53 (by decide)) mv_J9_floorDiv_7cf53 m_599 dX3_cumulative_16 rfl rfl ⟨by decide, by decide⟩ rfl rfl (Nat.le_of_ble_eq_true rfl) ⟨by decide, by decide⟩ (n := 19) rfl (fun _ _ h => h.elim) (fun v9 ν9 h9 => ?_)
  rw [h9.1, h9.2]
  show zK x g ({ frames := 8, cells := 2, slots := 12, locals := 124 } : Room) 8 2 12 19 [some (.ref (za g 0)), some (.int (nI i)), some (.int b), some (.ref (za g (11 + ph i))), none, none, none, none] [.int (zfd (μ.1 (11 + ph i) 7) 3)] μ
  refine k_iconst S dX3_cumulative_19 (v := 2) (by decide) (n := 20) rfl ?_
  refine k_callS (As := [.int (zfd (μ.1 (11 + ph i) 7) 3), .int 2]) (rest := []) S (c_J9_floorDiv_7cf53 (by decide)) mv_J9_floorDiv_7cf53 m_599 dX3_cumulative_20 rfl rfl ⟨by decide, by decide⟩ rfl rfl (Nat.le_of_ble_eq_true rfl) ⟨by decide, by decide⟩ (n := 23) rfl (fun _ _ h => h.elim) (fun v9 ν9 h9 => ?_)
  rw [h9.1, h9.2]
  show zK x g ({ frames := 8, cells := 2, slots := 12, locals := 124 } : Room) 8 2 12 23 [some (.ref (za g 0)), some (.int (nI i)), some (.int b), some (.ref (za g (11 + ph i))), none, none, none, none] [.int (zfd (zfd (μ.1 (11 + ph i) 7) 3) 2)] μ
  refine k_istore4 S dX3_cumulative_23 (by decide) rfl (n := 25) rfl ?_
  refine k_iconst S dX3_cumulative_25 (v := 0) (by decide) (n := 26) rfl ?_
  refine k_istore5 S dX3_cumulative_26 (by decide) rfl (n := 28) rfl ?_
  refine k_aload3 S dX3_cumulative_28 (n := 29) rfl ?_
  refine k_getv (v := nI (fs (ph i))) (T := TX0) (j := 0) S dX3_cumulative_29 (zlt S (by omega)) (zki_ph (by omega)) (ci := 0) rfl rfl (by decide) in_0 m_29 rfl rfl (hfs _ hkc) (n := 32) rfl ?_
  refine k_istore6 S dX3_cumulative_32 (by decide) rfl (n := 34) rfl ?_
  exact l_X3_cumulative (ce := μ.1 (11 + ph i) 5) (w := μ.1 (11 + ph i) 7) S Y hd hd60 hi hf9 hk rfl ⟨i, hi, rfl, hpt, rfl, rfl⟩ (i + 1 - fs (ph i)) 0 (by omega)
def zsp (μ : zM) (k s : Nat) : Int64 := zfl (1000 * Int32.toInt64 (μ.1 (11 + k) 6)) (Int32.toInt64 (zTab 2 s))
def zLH (a b : Int32) : Prop := ¬ zme a = 0 ∧ ¬ zme b = 0 ∧ a ≤ b
set_option maxRecDepth 100000 in
set_option maxHeartbeats 4000000 in
theorem c_X3_capability {l : Launch} {g : zG} {μ : zM} {v a b e : Int32} {c s : Nat} (hc : μ.1 0 12 = nI c) (hc10 : c ≤ 10) (hs : μ.1 0 0 = nI (s + 2)) (hs5 : s < 5) : zC l g yX3_capability cX3_capability 12 (some .long) ({ frames := 7, cells := 2, slots := 12, locals := 103 } : Room) 2 12 [.ref (za g 0), .int v, .int a, .int b, .int e] μ (fun r ν => ∃ k, k < c ∧ v = nI k ∧ zLH a b ∧ zLm μ k ∧ ¬ lg_cmp (zsp μ k s) 0 = 0 ∧ r = some (.long (if e = 0 then zfl (1000 * (1000 * Int32.toInt64 b - 1000 * Int32.toInt64 a)) (6 * zsp μ k s) else zfl (1000 * zminL (1000 * Int32.toInt64 b - Int32.toInt64 (μ.1 (11 + k) 5)) (Int32.toInt64 (μ.1 (11 + k) 5) - 1000 * Int32.toInt64 a)) (3 * zsp μ k s))) ∧ ν = μ) (fun E ν => ((¬ zIn v c ∧ E = "java/lang/IndexOutOfBoundsException") ∨ (zIn v c ∧ ¬ zLH a b ∧ E = "java/lang/IllegalArgumentException") ∨ (∃ k, k < c ∧ v = nI k ∧ zLH a b ∧ ¬ (zLm μ k ∧ ¬ lg_cmp (zsp μ k s) 0 = 0) ∧ E = "java/lang/IllegalStateException")) ∧ ν = μ) := by
  refine zC_of (L0 := [some (.ref (za g 0)), some (.int v), some (.int a), some (.int b), some (.int e), none, none, none, none, none, none, none]) (plainFor_of_name (by decide)) (Nat.le_of_ble_eq_true rfl) rfl ?_
  intro x S Y hxl
  subst hxl
  refine k_aload0 S dX3_capability_0 (n := 1) rfl ?_
  refine k_iload1 S dX3_capability_1 (n := 2) rfl ?_
  refine k_callV (As := [.int v]) (rest := []) (p := 0) S (c_X3_findPhase (c := c) hc hc10) mv_X3_findPhase m_427 dX3_capability_2 rfl rfl ⟨by decide, by decide⟩ (zlt S (by decide)) (by decide) (ci := 3) rfl rfl rfl (Nat.le_of_ble_eq_true rfl) ⟨by decide, by decide⟩ (n := 5) rfl (fun E9 ν9 h9 => k_out S Y (by decide) (by decide) (⟨Or.inl ⟨h9.1, h9.2.1⟩, h9.2.2⟩)) (fun v9 ν9 h9 => ?_)
  obtain ⟨k, hk, e9, e1, e2⟩ := h9
  subst e9
  rw [e1, e2]
  show zK x g ({ frames := 7, cells := 2, slots := 12, locals := 103 } : Room) 12 1 6 5 [some (.ref (za g 0)), some (.int (nI k)), some (.int a), some (.int b), some (.int e), none, none, none, none, none, none, none] [.ref (za g (11 + k))] μ
  refine k_astore5 S dX3_capability_5 (by decide) rfl (n := 7) rfl ?_
  refine k_iload2 S dX3_capability_7 (n := 8) rfl ?_
  refine k_callS (As := [.int a]) (rest := []) S (c_X3_isMeasurement) mv_X3_isMeasurement m_198 dX3_capability_8 rfl rfl ⟨by decide, by decide⟩ rfl rfl (Nat.le_of_ble_eq_true rfl) ⟨by decide, by decide⟩ (n := 11) rfl (fun _ _ h => h.elim) (fun v9 ν9 h9 => ?_)
  rw [h9.1, h9.2]
  show zK x g ({ frames := 7, cells := 2, slots := 12, locals := 103 } : Room) 12 1 6 11 [some (.ref (za g 0)), some (.int (nI k)), some (.int a), some (.int b), some (.int e), some (.ref (za g (11 + k))), none, none, none, none, none, none] [.int (zme a)] μ
  refine k_if_eq S dX3_capability_11 (tgt := 26) (by decide) (n := 14) rfl (fun c1 => ?_) (fun c1 => ?_)
  ·
    exact k_throw (cls := "java/lang/IllegalArgumentException") (names := zEx) (i9 := 16) S Y rfl (by decide) (by decide) m_201 m_10 rfl at_IAE ng_IAE go_IAE dX3_capability_26 dX3_capability_29 dX3_capability_30 dX3_capability_32 dX3_capability_35 (by decide) (by decide) (by decide) (by decide) (by decide) (by decide) (⟨Or.inr (Or.inl ⟨⟨k, hk, rfl⟩, fun q => by first | exact q.1 c1 | exact q.2.1 c2 | exact c3 q.2.2, rfl⟩), rfl⟩)
  ·
    refine k_iload3 S dX3_capability_14 (n := 15) rfl ?_
    refine k_callS (As := [.int b]) (rest := []) S (c_X3_isMeasurement) mv_X3_isMeasurement m_198 dX3_capability_15 rfl rfl ⟨by decide, by decide⟩ rfl rfl (Nat.le_of_ble_eq_true rfl) ⟨by decide, by decide⟩ (n := 18) rfl (fun _ _ h => h.elim) (fun v9 ν9 h9 => ?_)
    rw [h9.1, h9.2]
    show zK x g ({ frames := 7, cells := 2, slots := 12, locals := 103 } : Room) 12 1 6 18 [some (.ref (za g 0)), some (.int (nI k)), some (.int a), some (.int b), some (.int e), some (.ref (za g (11 + k))), none, none, none, none, none, none] [.int (zme b)] μ
    refine k_if_eq S dX3_capability_18 (tgt := 26) (by decide) (n := 21) rfl (fun c2 => ?_) (fun c2 => ?_)
    ·
      exact k_throw (cls := "java/lang/IllegalArgumentException") (names := zEx) (i9 := 16) S Y rfl (by decide) (by decide) m_201 m_10 rfl at_IAE ng_IAE go_IAE dX3_capability_26 dX3_capability_29 dX3_capability_30 dX3_capability_32 dX3_capability_35 (by decide) (by decide) (by decide) (by decide) (by decide) (by decide) (⟨Or.inr (Or.inl ⟨⟨k, hk, rfl⟩, fun q => by first | exact q.1 c1 | exact q.2.1 c2 | exact c3 q.2.2, rfl⟩), rfl⟩)
    ·
      refine k_iload3 S dX3_capability_21 (n := 22) rfl ?_
      refine k_iload2 S dX3_capability_22 (n := 23) rfl ?_
      refine k_icmp_ge S dX3_capability_23 (tgt := 36) (by decide) (n := 26) rfl (fun c3 => ?_) (fun c3 => ?_)
      ·
        refine k_aload5 S dX3_capability_36 (n := 38) rfl ?_
        refine k_callV (As := []) (rest := []) (p := 11 + k) S (c_X0_hasLimits (show k < 10 by omega)) mv_X0_hasLimits m_505 dX3_capability_38 rfl rfl ⟨by decide, by decide⟩ (zlt S (by omega)) (zki_ph (show k < 10 by omega)) (ci := 0) rfl rfl rfl (Nat.le_of_ble_eq_true rfl) ⟨by decide, by decide⟩ (n := 41) rfl (fun _ _ h => h.elim) (fun v9 ν9 h9 => ?_)
        rw [h9.1, h9.2]
        show zK x g ({ frames := 7, cells := 2, slots := 12, locals := 103 } : Room) 12 1 6 41 [some (.ref (za g 0)), some (.int (nI k)), some (.int a), some (.int b), some (.int e), some (.ref (za g (11 + k))), none, none, none, none, none, none] [.int (zhl μ k)] μ
        refine k_if_ne S dX3_capability_41 (tgt := 54) (by decide) (n := 44) rfl (fun c4 => ?_) (fun c4 => ?_)
        ·
          refine k_ldc2 S dX3_capability_54 (v := 1000) m_299 (n := 57) rfl ?_
          refine k_aload5 S dX3_capability_57 (n := 59) rfl ?_
          refine k_geti (T := TX0) (j := 6) S dX3_capability_59 (zlt S (by omega)) (zki_ph (show k < 10 by omega)) (ci := 0) rfl rfl (by decide) in_0 m_41 rfl rfl (n := 62) rfl ?_
          refine k_i2l S dX3_capability_62 (n := 63) rfl ?_
          refine k_lmul S dX3_capability_63 (n := 64) rfl ?_
          refine k_gets S dX3_capability_64 (i := 2) (by decide) m_611 (n := 67) rfl ?_
          refine k_aload0 S dX3_capability_67 (n := 68) rfl ?_
          refine k_getv (v := nI (s + 2)) (T := TX3) (j := 0) S dX3_capability_68 (zlt S (by decide)) (by decide) (ci := 3) rfl rfl (by decide) in_3 m_145 rfl rfl hs (n := 71) rfl ?_
          refine k_callS (As := [.ref (zt g 2), .int (nI (s + 2))]) (rest := [.long (1000 * (Int32.toInt64 (μ.1 (11 + k) 6)))]) S (c_X3_bySize2 (j := s) hs5) mv_X3_bySize m_613 dX3_capability_71 rfl rfl ⟨by decide, by decide⟩ rfl rfl (Nat.le_of_ble_eq_true rfl) ⟨by decide, by decide⟩ (n := 74) rfl (fun _ _ h => h.elim) (fun v9 ν9 h9 => ?_)
          rw [h9.1, h9.2]
          show zK x g ({ frames := 7, cells := 2, slots := 12, locals := 103 } : Room) 12 1 6 74 [some (.ref (za g 0)), some (.int (nI k)), some (.int a), some (.int b), some (.int e), some (.ref (za g (11 + k))), none, none, none, none, none, none] [.int (zTab 2 s), .long (1000 * (Int32.toInt64 (μ.1 (11 + k) 6)))] μ
          refine k_i2l S dX3_capability_74 (n := 75) rfl ?_
          refine k_callS (As := [.long (1000 * (Int32.toInt64 (μ.1 (11 + k) 6))), .long (Int32.toInt64 (zTab 2 s))]) (rest := []) S (c_X3_floored) mv_X3_floored m_304 dX3_capability_75 rfl rfl ⟨by decide, by decide⟩ rfl rfl (Nat.le_of_ble_eq_true rfl) ⟨by decide, by decide⟩ (n := 78) rfl (fun _ _ h => h.elim) (fun v9 ν9 h9 => ?_)
          rw [h9.1, h9.2]
          show zK x g ({ frames := 7, cells := 2, slots := 12, locals := 103 } : Room) 12 1 6 78 [some (.ref (za g 0)), some (.int (nI k)), some (.int a), some (.int b), some (.int e), some (.ref (za g (11 + k))), none, none, none, none, none, none] [.long (zfl (1000 * (Int32.toInt64 (μ.1 (11 + k) 6))) (Int32.toInt64 (zTab 2 s)))] μ
          refine k_lstore6 S dX3_capability_78 (by decide) rfl (n := 80) rfl ?_
          refine k_lload6 S dX3_capability_80 (n := 82) rfl ?_
          refine k_lconst S dX3_capability_82 (v := 0) (by decide) (n := 83) rfl ?_
          refine k_lcmp S dX3_capability_83 (n := 84) rfl ?_
          refine k_if_ne S dX3_capability_84 (tgt := 97) (by decide) (n := 87) rfl (fun c5 => ?_) (fun c5 => ?_)
          ·
            refine k_ldc2 S dX3_capability_97 (v := 1000) m_299 (n := 100) rfl ?_
            refine k_iload2 S dX3_capability_100 (n := 101) rfl ?_
            refine k_i2l S dX3_capability_101 (n := 102) rfl ?_
            refine k_lmul S dX3_capability_102 (n := 103) rfl ?_
            refine k_lstore8 S dX3_capability_103 (by decide) rfl (n := 105) rfl ?_
            refine k_ldc2 S dX3_capability_105 (v := 1000) m_299 (n := 108) rfl ?_
            refine k_iload3 S dX3_capability_108 (n := 109) rfl ?_
            refine k_i2l S dX3_capability_109 (n := 110) rfl ?_
            refine k_lmul S dX3_capability_110 (n := 111) rfl ?_
            refine k_lstore10 S dX3_capability_111 (by decide) rfl (n := 113) rfl ?_
            refine k_iload4 S dX3_capability_113 (n := 115) rfl ?_
            refine k_if_ne S dX3_capability_115 (tgt := 137) (by decide) (n := 118) rfl (fun c6 => ?_) (fun c6 => ?_)
            ·
              refine k_ldc2 S dX3_capability_137 (v := 1000) m_299 (n := 140) rfl ?_
              refine k_lload10 S dX3_capability_140 (n := 142) rfl ?_
              refine k_aload5 S dX3_capability_142 (n := 144) rfl ?_
              refine k_geti (T := TX0) (j := 5) S dX3_capability_144 (zlt S (by omega)) (zki_ph (show k < 10 by omega)) (ci := 0) rfl rfl (by decide) in_0 m_39 rfl rfl (n := 147) rfl ?_
              refine k_i2l S dX3_capability_147 (n := 148) rfl ?_
              refine k_lsub S dX3_capability_148 (n := 149) rfl ?_
              refine k_aload5 S dX3_capability_149 (n := 151) rfl ?_
              refine k_geti (T := TX0) (j := 5) S dX3_capability_151 (zlt S (by omega)) (zki_ph (show k < 10 by omega)) (ci := 0) rfl rfl (by decide) in_0 m_39 rfl rfl (n := 154) rfl ?_
              refine k_i2l S dX3_capability_154 (n := 155) rfl ?_
              refine k_lload8 S dX3_capability_155 (n := 157) rfl ?_
              refine k_lsub S dX3_capability_157 (n := 158) rfl ?_
              refine k_callS (As := [.long ((1000 * (Int32.toInt64 b)) - (Int32.toInt64 (μ.1 (11 + k) 5))), .long ((Int32.toInt64 (μ.1 (11 + k) 5)) - (1000 * (Int32.toInt64 a)))]) (rest := [.long 1000]) S (c_J9_min_f86c9) mv_J9_min_f86c9 m_616 dX3_capability_158 rfl rfl ⟨by decide, by decide⟩ rfl rfl (Nat.le_of_ble_eq_true rfl) ⟨by decide, by decide⟩ (n := 161) rfl (fun _ _ h => h.elim) (fun v9 ν9 h9 => ?_)
              rw [h9.1, h9.2]
              show zK x g ({ frames := 7, cells := 2, slots := 12, locals := 103 } : Room) 12 1 6 161 [some (.ref (za g 0)), some (.int (nI k)), some (.int a), some (.int b), some (.int e), some (.ref (za g (11 + k))), some (.long (zfl (1000 * (Int32.toInt64 (μ.1 (11 + k) 6))) (Int32.toInt64 (zTab 2 s)))), none, some (.long (1000 * (Int32.toInt64 a))), none, some (.long (1000 * (Int32.toInt64 b))), none] [.long (zminL ((1000 * (Int32.toInt64 b)) - (Int32.toInt64 (μ.1 (11 + k) 5))) ((Int32.toInt64 (μ.1 (11 + k) 5)) - (1000 * (Int32.toInt64 a)))), .long 1000] μ
              refine k_lmul S dX3_capability_161 (n := 162) rfl ?_
              refine k_ldc2 S dX3_capability_162 (v := 3) m_619 (n := 165) rfl ?_
              refine k_lload6 S dX3_capability_165 (n := 167) rfl ?_
              refine k_lmul S dX3_capability_167 (n := 168) rfl ?_
              refine k_callS (As := [.long (1000 * (zminL ((1000 * (Int32.toInt64 b)) - (Int32.toInt64 (μ.1 (11 + k) 5))) ((Int32.toInt64 (μ.1 (11 + k) 5)) - (1000 * (Int32.toInt64 a))))), .long (3 * (zfl (1000 * (Int32.toInt64 (μ.1 (11 + k) 6))) (Int32.toInt64 (zTab 2 s))))]) (rest := []) S (c_X3_floored) mv_X3_floored m_304 dX3_capability_168 rfl rfl ⟨by decide, by decide⟩ rfl rfl (Nat.le_of_ble_eq_true rfl) ⟨by decide, by decide⟩ (n := 171) rfl (fun _ _ h => h.elim) (fun v9 ν9 h9 => ?_)
              rw [h9.1, h9.2]
              show zK x g ({ frames := 7, cells := 2, slots := 12, locals := 103 } : Room) 12 1 6 171 [some (.ref (za g 0)), some (.int (nI k)), some (.int a), some (.int b), some (.int e), some (.ref (za g (11 + k))), some (.long (zfl (1000 * (Int32.toInt64 (μ.1 (11 + k) 6))) (Int32.toInt64 (zTab 2 s)))), none, some (.long (1000 * (Int32.toInt64 a))), none, some (.long (1000 * (Int32.toInt64 b))), none] [.long (zfl (1000 * (zminL ((1000 * (Int32.toInt64 b)) - (Int32.toInt64 (μ.1 (11 + k) 5))) ((Int32.toInt64 (μ.1 (11 + k) 5)) - (1000 * (Int32.toInt64 a))))) (3 * (zfl (1000 * (Int32.toInt64 (μ.1 (11 + k) 6))) (Int32.toInt64 (zTab 2 s)))))] μ
              exact k_lret S Y dX3_capability_171 (by decide) (by decide) (⟨k, hk, rfl, ⟨c1, c2, c3⟩, zlm_t c4, c5, by rw [if_neg c6]; rfl, rfl⟩)
            ·
              refine k_ldc2 S dX3_capability_118 (v := 1000) m_299 (n := 121) rfl ?_
              refine k_lload10 S dX3_capability_121 (n := 123) rfl ?_
              refine k_lload8 S dX3_capability_123 (n := 125) rfl ?_
              refine k_lsub S dX3_capability_125 (n := 126) rfl ?_
              refine k_lmul S dX3_capability_126 (n := 127) rfl ?_
              refine k_ldc2 S dX3_capability_127 (v := 6) m_615 (n := 130) rfl ?_
              refine k_lload6 S dX3_capability_130 (n := 132) rfl ?_
              refine k_lmul S dX3_capability_132 (n := 133) rfl ?_
              refine k_callS (As := [.long (1000 * ((1000 * (Int32.toInt64 b)) - (1000 * (Int32.toInt64 a)))), .long (6 * (zfl (1000 * (Int32.toInt64 (μ.1 (11 + k) 6))) (Int32.toInt64 (zTab 2 s))))]) (rest := []) S (c_X3_floored) mv_X3_floored m_304 dX3_capability_133 rfl rfl ⟨by decide, by decide⟩ rfl rfl (Nat.le_of_ble_eq_true rfl) ⟨by decide, by decide⟩ (n := 136) rfl (fun _ _ h => h.elim) (fun v9 ν9 h9 => ?_)
              rw [h9.1, h9.2]
              show zK x g ({ frames := 7, cells := 2, slots := 12, locals := 103 } : Room) 12 1 6 136 [some (.ref (za g 0)), some (.int (nI k)), some (.int a), some (.int b), some (.int e), some (.ref (za g (11 + k))), some (.long (zfl (1000 * (Int32.toInt64 (μ.1 (11 + k) 6))) (Int32.toInt64 (zTab 2 s)))), none, some (.long (1000 * (Int32.toInt64 a))), none, some (.long (1000 * (Int32.toInt64 b))), none] [.long (zfl (1000 * ((1000 * (Int32.toInt64 b)) - (1000 * (Int32.toInt64 a)))) (6 * (zfl (1000 * (Int32.toInt64 (μ.1 (11 + k) 6))) (Int32.toInt64 (zTab 2 s)))))] μ
              exact k_lret S Y dX3_capability_136 (by decide) (by decide) (⟨k, hk, rfl, ⟨c1, c2, c3⟩, zlm_t c4, c5, by rw [if_pos c6]; rfl, rfl⟩)
          ·
            exact k_throw (cls := "java/lang/IllegalStateException") (names := zEx) (i9 := 17) S Y rfl (by decide) (by decide) m_269 m_11 rfl at_ISE ng_ISE go_ISE dX3_capability_87 dX3_capability_90 dX3_capability_91 dX3_capability_93 dX3_capability_96 (by decide) (by decide) (by decide) (by decide) (by decide) (by decide) (⟨Or.inr (Or.inr ⟨k, hk, rfl, ⟨c1, c2, c3⟩, fun q => q.2 c5, rfl⟩), rfl⟩)
        ·
          exact k_throw (cls := "java/lang/IllegalStateException") (names := zEx) (i9 := 12) S Y rfl (by decide) (by decide) m_269 m_11 rfl at_ISE ng_ISE go_ISE dX3_capability_44 dX3_capability_47 dX3_capability_48 dX3_capability_50 dX3_capability_53 (by decide) (by decide) (by decide) (by decide) (by decide) (by decide) (⟨Or.inr (Or.inr ⟨k, hk, rfl, ⟨c1, c2, c3⟩, fun q => zlm_f c4 q.1, rfl⟩), rfl⟩)
      ·
        exact k_throw (cls := "java/lang/IllegalArgumentException") (names := zEx) (i9 := 16) S Y rfl (by decide) (by decide) m_201 m_10 rfl at_IAE ng_IAE go_IAE dX3_capability_26 dX3_capability_29 dX3_capability_30 dX3_capability_32 dX3_capability_35 (by decide) (by decide) (by decide) (by decide) (by decide) (by decide) (⟨Or.inr (Or.inl ⟨⟨k, hk, rfl⟩, fun q => by first | exact q.1 c1 | exact q.2.1 c2 | exact c3 q.2.2, rfl⟩), rfl⟩)
