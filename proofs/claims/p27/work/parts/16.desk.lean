/-! THE DESK (place 0): its helpers. d subgroups are done, c + 1 phases, the size s + 2, b measurements begun -/
def zIn (v : Int32) (d : Nat) : Prop := ∃ i, i < d ∧ v = nI i
def zRc (P : Prop) (u : Option Value) (ν0 : zM) : Option Value → zM → Prop := fun v ν => P ∧ v = u ∧ ν = ν0
def zXc (P : Prop) (E : String) (ν0 : zM) : String → zM → Prop := fun F ν => P ∧ F = E ∧ ν = ν0
theorem zin_n {v : Int32} {d : Nat} (hd : d < 2 ^ 31) (h : v < 0) : ¬ zIn v d := fun ⟨i, hi, e⟩ => by
  subst e
  exact nI_pos (by omega) h
theorem zin_g {v : Int32} {d : Nat} (hd : d < 2 ^ 31) (h : nI d ≤ v) : ¬ zIn v d := fun ⟨i, hi, e⟩ => by
  subst e
  exact nI_ge hi hd h
theorem zin_o {v : Int32} {d : Nat} (hd : d < 2 ^ 31) (h : ¬ v < 0) (h2 : ¬ nI d ≤ v) : zIn v d := by
  rcases pk_ix v hd with q | q | q
  · exact absurd q h
  · exact absurd q h2
  · exact q
theorem zlt_n {a b : Int32} (h : ¬ a < b) : b ≤ a := Int32.not_lt.mp h
theorem zge_n {a b : Int32} (h : a < b) : ¬ b ≤ a := Int32.not_le.mpr h
def m_X0_settle (μ : zM) (k s : Nat) : zM := (if (μ.1 (11 + k) 4) = 0 then (if (μ.1 (11 + k) 1) = 0 then μ else zu (zu (zu (zu μ (11 + k) 5 (Int64.toInt32 (zrd (1000 * (Int32.toInt64 (μ.1 (11 + k) 2))) ((Int32.toInt64 (nI (s + 2))) * (Int32.toInt64 (μ.1 (11 + k) 1)))))) (11 + k) 6 (Int64.toInt32 (zrd (1000 * (Int32.toInt64 (μ.1 (11 + k) 3))) (Int32.toInt64 (μ.1 (11 + k) 1))))) (11 + k) 7 (Int64.toInt32 (zrd ((Int32.toInt64 (zTab 0 s)) * (zrd (1000 * (Int32.toInt64 (μ.1 (11 + k) 3))) (Int32.toInt64 (μ.1 (11 + k) 1)))) 1000))) (11 + k) 8 (Int64.toInt32 (zrd ((Int32.toInt64 (zTab 1 s)) * (zrd (1000 * (Int32.toInt64 (μ.1 (11 + k) 3))) (Int32.toInt64 (μ.1 (11 + k) 1)))) 1000))) else μ)
set_option maxRecDepth 100000 in
set_option maxHeartbeats 4000000 in
theorem c_X0_settle {l : Launch} {g : zG} {μ : zM} {k s : Nat} (hk : k < 10) (hs5 : s < 5) : zC l g yX0_settle cX0_settle 4 none ({ frames := 3, cells := 0, slots := 0, locals := 71 } : Room) 0 0 [.ref (za g (11 + k)), .int (nI (s + 2))] μ (zRv none (m_X0_settle μ k s)) zNX := by
  refine zC_of (L0 := [some (.ref (za g (11 + k))), some (.int (nI (s + 2))), none, none]) (plainFor_of_name (by decide)) (Nat.le_of_ble_eq_true rfl) rfl ?_
  intro x S Y hxl
  subst hxl
  refine k_aload0 S dX0_settle_0 (n := 1) rfl ?_
  refine k_geti (T := TX0) (j := 4) S dX0_settle_1 (zlt S (by omega)) (zki_ph hk) (ci := 0) rfl rfl (by decide) in_0 m_36 rfl rfl (n := 4) rfl ?_
  refine k_if_ne S dX0_settle_4 (tgt := 14) (by decide) (n := 7) rfl (fun c1 => ?_) (fun c1 => ?_)
  ·
    exact k_vret S Y dX0_settle_14 (by decide) (by decide) (⟨rfl, by rw [m_X0_settle, if_neg c1]⟩)
  ·
    refine k_aload0 S dX0_settle_7 (n := 8) rfl ?_
    refine k_geti (T := TX0) (j := 1) S dX0_settle_8 (zlt S (by omega)) (zki_ph hk) (ci := 0) rfl rfl (by decide) in_0 m_30 rfl rfl (n := 11) rfl ?_
    refine k_if_ne S dX0_settle_11 (tgt := 15) (by decide) (n := 14) rfl (fun c2 => ?_) (fun c2 => ?_)
    ·
      refine k_aload0 S dX0_settle_15 (n := 16) rfl ?_
      refine k_ldc2 S dX0_settle_16 (v := 1000) m_322 (n := 19) rfl ?_
      refine k_aload0 S dX0_settle_19 (n := 20) rfl ?_
      refine k_geti (T := TX0) (j := 2) S dX0_settle_20 (zlt S (by omega)) (zki_ph hk) (ci := 0) rfl rfl (by decide) in_0 m_32 rfl rfl (n := 23) rfl ?_
      refine k_i2l S dX0_settle_23 (n := 24) rfl ?_
      refine k_lmul S dX0_settle_24 (n := 25) rfl ?_
      refine k_iload1 S dX0_settle_25 (n := 26) rfl ?_
      refine k_i2l S dX0_settle_26 (n := 27) rfl ?_
      refine k_aload0 S dX0_settle_27 (n := 28) rfl ?_
      refine k_geti (T := TX0) (j := 1) S dX0_settle_28 (zlt S (by omega)) (zki_ph hk) (ci := 0) rfl rfl (by decide) in_0 m_30 rfl rfl (n := 31) rfl ?_
      refine k_i2l S dX0_settle_31 (n := 32) rfl ?_
      refine k_lmul S dX0_settle_32 (n := 33) rfl ?_
      refine k_callSN (As := [.long (1000 * (Int32.toInt64 (μ.1 (11 + k) 2))), .long ((Int32.toInt64 (nI (s + 2))) * (Int32.toInt64 (μ.1 (11 + k) 1)))]) (rest := [.ref (za g (11 + k))]) (host := RX3) S (c_X3_rounded) mv_X3_rounded (by decide +kernel) dX0_settle_33 rfl rfl ⟨by decide, by decide⟩ rfl rfl (Nat.le_of_ble_eq_true rfl) ⟨by decide, by decide⟩ (n := 36) rfl (fun _ _ h => h.elim) (fun v9 ν9 h9 => ?_)
      rw [h9.1, h9.2]
      show zK x g ({ frames := 3, cells := 0, slots := 0, locals := 71 } : Room) 4 0 0 36 [some (.ref (za g (11 + k))), some (.int (nI (s + 2))), none, none] [.long (zrd (1000 * (Int32.toInt64 (μ.1 (11 + k) 2))) ((Int32.toInt64 (nI (s + 2))) * (Int32.toInt64 (μ.1 (11 + k) 1)))), .ref (za g (11 + k))] μ
      refine k_l2i S dX0_settle_36 (n := 37) rfl ?_
      refine k_put (T := TX0) (j := 5) S dX0_settle_37 (zlt S (by omega)) (zki_ph hk) (ci := 0) rfl rfl (by decide) in_0 m_38 rfl rfl (ty0 := tyX0) tyX0_ok nmX0 rfl rfl rfl (n := 40) rfl ?_
      refine k_ldc2 S dX0_settle_40 (v := 1000) m_322 (n := 43) rfl ?_
      refine k_aload0 S dX0_settle_43 (n := 44) rfl ?_
      refine k_getv (v := μ.1 (11 + k) 3) (T := TX0) (j := 3) S dX0_settle_44 (zlt S (by omega)) (zki_ph hk) (ci := 0) rfl rfl (by decide) in_0 m_34 rfl rfl (by simp [zu, zset, upd]) (n := 47) rfl ?_
      refine k_i2l S dX0_settle_47 (n := 48) rfl ?_
      refine k_lmul S dX0_settle_48 (n := 49) rfl ?_
      refine k_aload0 S dX0_settle_49 (n := 50) rfl ?_
      refine k_getv (v := μ.1 (11 + k) 1) (T := TX0) (j := 1) S dX0_settle_50 (zlt S (by omega)) (zki_ph hk) (ci := 0) rfl rfl (by decide) in_0 m_30 rfl rfl (by simp [zu, zset, upd]) (n := 53) rfl ?_
      refine k_i2l S dX0_settle_53 (n := 54) rfl ?_
      refine k_callSN (As := [.long (1000 * (Int32.toInt64 (μ.1 (11 + k) 3))), .long (Int32.toInt64 (μ.1 (11 + k) 1))]) (rest := []) (host := RX3) S (c_X3_rounded) mv_X3_rounded (by decide +kernel) dX0_settle_54 rfl rfl ⟨by decide, by decide⟩ rfl rfl (Nat.le_of_ble_eq_true rfl) ⟨by decide, by decide⟩ (n := 57) rfl (fun _ _ h => h.elim) (fun v9 ν9 h9 => ?_)
      rw [h9.1, h9.2]
      show zK x g ({ frames := 3, cells := 0, slots := 0, locals := 71 } : Room) 4 0 0 57 [some (.ref (za g (11 + k))), some (.int (nI (s + 2))), none, none] [.long (zrd (1000 * (Int32.toInt64 (μ.1 (11 + k) 3))) (Int32.toInt64 (μ.1 (11 + k) 1)))] (zu μ (11 + k) 5 (Int64.toInt32 (zrd (1000 * (Int32.toInt64 (μ.1 (11 + k) 2))) ((Int32.toInt64 (nI (s + 2))) * (Int32.toInt64 (μ.1 (11 + k) 1))))))
      refine k_lstore2 S dX0_settle_57 (by decide) rfl (n := 58) rfl ?_
      refine k_aload0 S dX0_settle_58 (n := 59) rfl ?_
      refine k_lload2 S dX0_settle_59 (n := 60) rfl ?_
      refine k_l2i S dX0_settle_60 (n := 61) rfl ?_
      refine k_put (T := TX0) (j := 6) S dX0_settle_61 (zlt S (by omega)) (zki_ph hk) (ci := 0) rfl rfl (by decide) in_0 m_40 rfl rfl (ty0 := tyX0) tyX0_ok nmX0 rfl rfl rfl (n := 64) rfl ?_
      refine k_aload0 S dX0_settle_64 (n := 65) rfl ?_
      refine k_getsN (host := RX3) S dX0_settle_65 (i := 0) (by decide) (by decide +kernel) (n := 68) rfl ?_
      refine k_iload1 S dX0_settle_68 (n := 69) rfl ?_
      refine k_callSN (As := [.ref (zt g 0), .int (nI (s + 2))]) (rest := [.ref (za g (11 + k))]) (host := RX3) S (c_X3_bySize0 (j := s) hs5) mv_X3_bySize (by decide +kernel) dX0_settle_69 rfl rfl ⟨by decide, by decide⟩ rfl rfl (Nat.le_of_ble_eq_true rfl) ⟨by decide, by decide⟩ (n := 72) rfl (fun _ _ h => h.elim) (fun v9 ν9 h9 => ?_)
      rw [h9.1, h9.2]
      show zK x g ({ frames := 3, cells := 0, slots := 0, locals := 71 } : Room) 4 0 0 72 [some (.ref (za g (11 + k))), some (.int (nI (s + 2))), some (.long (zrd (1000 * (Int32.toInt64 (μ.1 (11 + k) 3))) (Int32.toInt64 (μ.1 (11 + k) 1)))), none] [.int (zTab 0 s), .ref (za g (11 + k))] (zu (zu μ (11 + k) 5 (Int64.toInt32 (zrd (1000 * (Int32.toInt64 (μ.1 (11 + k) 2))) ((Int32.toInt64 (nI (s + 2))) * (Int32.toInt64 (μ.1 (11 + k) 1)))))) (11 + k) 6 (Int64.toInt32 (zrd (1000 * (Int32.toInt64 (μ.1 (11 + k) 3))) (Int32.toInt64 (μ.1 (11 + k) 1)))))
      refine k_i2l S dX0_settle_72 (n := 73) rfl ?_
      refine k_lload2 S dX0_settle_73 (n := 74) rfl ?_
      refine k_lmul S dX0_settle_74 (n := 75) rfl ?_
      refine k_ldc2 S dX0_settle_75 (v := 1000) m_322 (n := 78) rfl ?_
      refine k_callSN (As := [.long ((Int32.toInt64 (zTab 0 s)) * (zrd (1000 * (Int32.toInt64 (μ.1 (11 + k) 3))) (Int32.toInt64 (μ.1 (11 + k) 1)))), .long 1000]) (rest := [.ref (za g (11 + k))]) (host := RX3) S (c_X3_rounded) mv_X3_rounded (by decide +kernel) dX0_settle_78 rfl rfl ⟨by decide, by decide⟩ rfl rfl (Nat.le_of_ble_eq_true rfl) ⟨by decide, by decide⟩ (n := 81) rfl (fun _ _ h => h.elim) (fun v9 ν9 h9 => ?_)
      rw [h9.1, h9.2]
      show zK x g ({ frames := 3, cells := 0, slots := 0, locals := 71 } : Room) 4 0 0 81 [some (.ref (za g (11 + k))), some (.int (nI (s + 2))), some (.long (zrd (1000 * (Int32.toInt64 (μ.1 (11 + k) 3))) (Int32.toInt64 (μ.1 (11 + k) 1)))), none] [.long (zrd ((Int32.toInt64 (zTab 0 s)) * (zrd (1000 * (Int32.toInt64 (μ.1 (11 + k) 3))) (Int32.toInt64 (μ.1 (11 + k) 1)))) 1000), .ref (za g (11 + k))] (zu (zu μ (11 + k) 5 (Int64.toInt32 (zrd (1000 * (Int32.toInt64 (μ.1 (11 + k) 2))) ((Int32.toInt64 (nI (s + 2))) * (Int32.toInt64 (μ.1 (11 + k) 1)))))) (11 + k) 6 (Int64.toInt32 (zrd (1000 * (Int32.toInt64 (μ.1 (11 + k) 3))) (Int32.toInt64 (μ.1 (11 + k) 1)))))
      refine k_l2i S dX0_settle_81 (n := 82) rfl ?_
      refine k_put (T := TX0) (j := 7) S dX0_settle_82 (zlt S (by omega)) (zki_ph hk) (ci := 0) rfl rfl (by decide) in_0 m_42 rfl rfl (ty0 := tyX0) tyX0_ok nmX0 rfl rfl rfl (n := 85) rfl ?_
      refine k_aload0 S dX0_settle_85 (n := 86) rfl ?_
      refine k_getsN (host := RX3) S dX0_settle_86 (i := 1) (by decide) (by decide +kernel) (n := 89) rfl ?_
      refine k_iload1 S dX0_settle_89 (n := 90) rfl ?_
      refine k_callSN (As := [.ref (zt g 1), .int (nI (s + 2))]) (rest := [.ref (za g (11 + k))]) (host := RX3) S (c_X3_bySize1 (j := s) hs5) mv_X3_bySize (by decide +kernel) dX0_settle_90 rfl rfl ⟨by decide, by decide⟩ rfl rfl (Nat.le_of_ble_eq_true rfl) ⟨by decide, by decide⟩ (n := 93) rfl (fun _ _ h => h.elim) (fun v9 ν9 h9 => ?_)
      rw [h9.1, h9.2]
      show zK x g ({ frames := 3, cells := 0, slots := 0, locals := 71 } : Room) 4 0 0 93 [some (.ref (za g (11 + k))), some (.int (nI (s + 2))), some (.long (zrd (1000 * (Int32.toInt64 (μ.1 (11 + k) 3))) (Int32.toInt64 (μ.1 (11 + k) 1)))), none] [.int (zTab 1 s), .ref (za g (11 + k))] (zu (zu (zu μ (11 + k) 5 (Int64.toInt32 (zrd (1000 * (Int32.toInt64 (μ.1 (11 + k) 2))) ((Int32.toInt64 (nI (s + 2))) * (Int32.toInt64 (μ.1 (11 + k) 1)))))) (11 + k) 6 (Int64.toInt32 (zrd (1000 * (Int32.toInt64 (μ.1 (11 + k) 3))) (Int32.toInt64 (μ.1 (11 + k) 1))))) (11 + k) 7 (Int64.toInt32 (zrd ((Int32.toInt64 (zTab 0 s)) * (zrd (1000 * (Int32.toInt64 (μ.1 (11 + k) 3))) (Int32.toInt64 (μ.1 (11 + k) 1)))) 1000)))
      refine k_i2l S dX0_settle_93 (n := 94) rfl ?_
      refine k_lload2 S dX0_settle_94 (n := 95) rfl ?_
      refine k_lmul S dX0_settle_95 (n := 96) rfl ?_
      refine k_ldc2 S dX0_settle_96 (v := 1000) m_322 (n := 99) rfl ?_
      refine k_callSN (As := [.long ((Int32.toInt64 (zTab 1 s)) * (zrd (1000 * (Int32.toInt64 (μ.1 (11 + k) 3))) (Int32.toInt64 (μ.1 (11 + k) 1)))), .long 1000]) (rest := [.ref (za g (11 + k))]) (host := RX3) S (c_X3_rounded) mv_X3_rounded (by decide +kernel) dX0_settle_99 rfl rfl ⟨by decide, by decide⟩ rfl rfl (Nat.le_of_ble_eq_true rfl) ⟨by decide, by decide⟩ (n := 102) rfl (fun _ _ h => h.elim) (fun v9 ν9 h9 => ?_)
      rw [h9.1, h9.2]
      show zK x g ({ frames := 3, cells := 0, slots := 0, locals := 71 } : Room) 4 0 0 102 [some (.ref (za g (11 + k))), some (.int (nI (s + 2))), some (.long (zrd (1000 * (Int32.toInt64 (μ.1 (11 + k) 3))) (Int32.toInt64 (μ.1 (11 + k) 1)))), none] [.long (zrd ((Int32.toInt64 (zTab 1 s)) * (zrd (1000 * (Int32.toInt64 (μ.1 (11 + k) 3))) (Int32.toInt64 (μ.1 (11 + k) 1)))) 1000), .ref (za g (11 + k))] (zu (zu (zu μ (11 + k) 5 (Int64.toInt32 (zrd (1000 * (Int32.toInt64 (μ.1 (11 + k) 2))) ((Int32.toInt64 (nI (s + 2))) * (Int32.toInt64 (μ.1 (11 + k) 1)))))) (11 + k) 6 (Int64.toInt32 (zrd (1000 * (Int32.toInt64 (μ.1 (11 + k) 3))) (Int32.toInt64 (μ.1 (11 + k) 1))))) (11 + k) 7 (Int64.toInt32 (zrd ((Int32.toInt64 (zTab 0 s)) * (zrd (1000 * (Int32.toInt64 (μ.1 (11 + k) 3))) (Int32.toInt64 (μ.1 (11 + k) 1)))) 1000)))
      refine k_l2i S dX0_settle_102 (n := 103) rfl ?_
      refine k_put (T := TX0) (j := 8) S dX0_settle_103 (zlt S (by omega)) (zki_ph hk) (ci := 0) rfl rfl (by decide) in_0 m_44 rfl rfl (ty0 := tyX0) tyX0_ok nmX0 rfl rfl rfl (n := 106) rfl ?_
      exact k_vret S Y dX0_settle_106 (by decide) (by decide) (⟨rfl, by rw [m_X0_settle, if_pos c1, if_neg c2]⟩)
    ·
      exact k_vret S Y dX0_settle_14 (by decide) (by decide) (⟨rfl, by rw [m_X0_settle, if_pos c1, if_pos c2]⟩)
set_option maxRecDepth 100000 in
set_option maxHeartbeats 4000000 in
theorem c_X3_isPoint {l : Launch} {g : zG} {μ : zM} {i d : Nat} (hd : μ.1 0 6 = nI d) (hd60 : d ≤ 60) (hi : i < d) : zC l g yX3_isPoint cX3_isPoint 2 (some .boolean) ({ frames := 0, cells := 0, slots := 0, locals := 0 } : Room) 0 0 [.ref (za g 0), .int (nI i)] μ (zRv (some (.int (if μ.1 4 i = 0 then 1 else 0))) μ) zNX := by
  refine zC_of (L0 := [some (.ref (za g 0)), some (.int (nI i))]) (plainFor_of_name (by decide)) (Nat.le_of_ble_eq_true rfl) rfl ?_
  intro x S Y hxl
  subst hxl
  refine k_iload1 S dX3_isPoint_0 (n := 1) rfl ?_
  refine k_if_lt S dX3_isPoint_1 (tgt := 25) (by decide) (n := 4) rfl (fun h9 => absurd h9 (nI_pos (by omega))) (fun _ => ?_)
  refine k_iload1 S dX3_isPoint_4 (n := 5) rfl ?_
  refine k_aload0 S dX3_isPoint_5 (n := 6) rfl ?_
  refine k_geti (T := TX3) (j := 6) S dX3_isPoint_6 (zlt S (by decide)) (by decide) (ci := 3) rfl rfl (by decide) in_3 m_151 rfl rfl (n := 9) rfl ?_
  refine k_icmp_ge S dX3_isPoint_9 (tgt := 25) (by decide) (n := 12) rfl (fun h9 => absurd h9 (by rw [hd]; exact nI_ge hi (by omega))) (fun _ => ?_)
  refine k_aload0 S dX3_isPoint_12 (n := 13) rfl ?_
  refine k_getr (r := 4) (T := TX3) (j := 10) S dX3_isPoint_13 (zlt S (by decide)) (by decide) (ci := 3) rfl rfl (by decide) in_3 m_155 rfl rfl (n := 16) rfl ?_
  refine k_iload1 S dX3_isPoint_16 (n := 17) rfl ?_
  refine k_iald S dX3_isPoint_17 (j := i) (zlt S (by decide)) (by decide) rfl (show i < 60 by omega) (by decide) (n := 18) rfl ?_
  have hJ2 : zK x g ({ frames := 0, cells := 0, slots := 0, locals := 0 } : Room) 2 0 0 26 [some (.ref (za g 0)), some (.int (nI i))] [.int ((if (μ.1 4 i) = 0 then (1 : Int32) else (0 : Int32)))] μ := by
    exact k_iret S Y dX3_isPoint_26 (by decide) (by decide) (by repeat' (first | rfl | split)) (⟨rfl, rfl⟩)
  refine k_if_ne S dX3_isPoint_18 (tgt := 25) (by decide) (n := 21) rfl (fun c1 => ?_) (fun c1 => ?_)
  ·
    refine k_iconst S dX3_isPoint_25 (v := 0) (by decide) (n := 26) rfl ?_
    rw [if_neg c1] at hJ2
    exact hJ2
  ·
    refine k_iconst S dX3_isPoint_21 (v := 1) (by decide) (n := 22) rfl ?_
    refine k_goto S dX3_isPoint_22 (tgt := 26) (by decide) ?_
    rw [if_pos c1] at hJ2
    exact hJ2
set_option maxRecDepth 100000 in
set_option maxHeartbeats 4000000 in
theorem c_X3_checkSubgroup {l : Launch} {g : zG} {μ : zM} {v : Int32} {d : Nat} (hd : μ.1 0 6 = nI d) (hd60 : d ≤ 60) : zC l g yX3_checkSubgroup cX3_checkSubgroup 2 none ({ frames := 6, cells := 1, slots := 6, locals := 82 } : Room) 1 6 [.ref (za g 0), .int v] μ (zRc (zIn v d) none μ) (zXc (¬ zIn v d) "java/lang/IndexOutOfBoundsException" μ) := by
  refine zC_of (L0 := [some (.ref (za g 0)), some (.int v)]) (plainFor_of_name (by decide)) (Nat.le_of_ble_eq_true rfl) rfl ?_
  intro x S Y hxl
  subst hxl
  refine k_iload1 S dX3_checkSubgroup_0 (n := 1) rfl ?_
  refine k_if_lt S dX3_checkSubgroup_1 (tgt := 12) (by decide) (n := 4) rfl (fun c1 => ?_) (fun c1 => ?_)
  ·
    exact k_throw (cls := "java/lang/IndexOutOfBoundsException") (names := zEx) (i9 := 10) S Y rfl (by decide) (by decide) m_431 m_8 rfl at_IOB ng_IOB go_IOB dX3_checkSubgroup_12 dX3_checkSubgroup_15 dX3_checkSubgroup_16 dX3_checkSubgroup_18 dX3_checkSubgroup_21 (by decide) (by decide) (by decide) (by decide) (by decide) (by decide) (⟨by first | exact zin_n (by omega) c1 | exact zin_g (by omega) (zlt_n c2), rfl, rfl⟩)
  ·
    refine k_iload1 S dX3_checkSubgroup_4 (n := 5) rfl ?_
    refine k_aload0 S dX3_checkSubgroup_5 (n := 6) rfl ?_
    refine k_getv (v := nI d) (T := TX3) (j := 6) S dX3_checkSubgroup_6 (zlt S (by decide)) (by decide) (ci := 3) rfl rfl (by decide) in_3 m_151 rfl rfl hd (n := 9) rfl ?_
    refine k_icmp_lt S dX3_checkSubgroup_9 (tgt := 22) (by decide) (n := 12) rfl (fun c2 => ?_) (fun c2 => ?_)
    ·
      exact k_vret S Y dX3_checkSubgroup_22 (by decide) (by decide) (⟨zin_o (by omega) c1 (fun q => absurd c2 (Int32.not_lt.mpr q)), rfl, rfl⟩)
    ·
      exact k_throw (cls := "java/lang/IndexOutOfBoundsException") (names := zEx) (i9 := 10) S Y rfl (by decide) (by decide) m_431 m_8 rfl at_IOB ng_IOB go_IOB dX3_checkSubgroup_12 dX3_checkSubgroup_15 dX3_checkSubgroup_16 dX3_checkSubgroup_18 dX3_checkSubgroup_21 (by decide) (by decide) (by decide) (by decide) (by decide) (by decide) (⟨by first | exact zin_n (by omega) c1 | exact zin_g (by omega) (zlt_n c2), rfl, rfl⟩)
set_option maxRecDepth 100000 in
set_option maxHeartbeats 4000000 in
theorem c_X3_findPhase {l : Launch} {g : zG} {μ : zM} {v : Int32} {c : Nat} (hc : μ.1 0 12 = nI c) (hc10 : c ≤ 10) : zC l g yX3_findPhase cX3_findPhase 2 (some (.object "ChartroomSpc$Phase")) ({ frames := 6, cells := 1, slots := 6, locals := 82 } : Room) 1 6 [.ref (za g 0), .int v] μ (fun r ν => ∃ k, k < c ∧ v = nI k ∧ r = some (.ref (za g (11 + k))) ∧ ν = μ) (zXc (¬ zIn v c) "java/lang/IndexOutOfBoundsException" μ) := by
  refine zC_of (L0 := [some (.ref (za g 0)), some (.int v)]) (plainFor_of_name (by decide)) (Nat.le_of_ble_eq_true rfl) rfl ?_
  intro x S Y hxl
  subst hxl
  refine k_iload1 S dX3_findPhase_0 (n := 1) rfl ?_
  refine k_if_lt S dX3_findPhase_1 (tgt := 12) (by decide) (n := 4) rfl (fun c1 => ?_) (fun c1 => ?_)
  ·
    exact k_throwW (cls := "java/lang/IndexOutOfBoundsException") (names := zEx) (i9 := 6) S Y rfl (by decide) (by decide) m_431 m_8 rfl at_IOB ng_IOB go_IOB dX3_findPhase_12 dX3_findPhase_15 dX3_findPhase_16 dX3_findPhase_19 dX3_findPhase_22 (by decide) (by decide) (by decide) (by decide) (by decide) (by decide) (⟨by first | exact zin_n (by omega) c1 | exact zin_g (by omega) (zlt_n c2), rfl, rfl⟩)
  ·
    refine k_iload1 S dX3_findPhase_4 (n := 5) rfl ?_
    refine k_aload0 S dX3_findPhase_5 (n := 6) rfl ?_
    refine k_getv (v := nI c) (T := TX3) (j := 12) S dX3_findPhase_6 (zlt S (by decide)) (by decide) (ci := 3) rfl rfl (by decide) in_3 m_157 rfl rfl hc (n := 9) rfl ?_
    refine k_icmp_lt S dX3_findPhase_9 (tgt := 23) (by decide) (n := 12) rfl (fun c2 => ?_) (fun c2 => ?_)
    ·
      obtain ⟨k, hk, e9⟩ := zin_o (d := c) (by omega) c1 (fun q => absurd c2 (Int32.not_lt.mpr q))
      subst e9
      refine k_aload0 S dX3_findPhase_23 (n := 24) rfl ?_
      refine k_getr (r := 6) (T := TX3) (j := 13) S dX3_findPhase_24 (zlt S (by decide)) (by decide) (ci := 3) rfl rfl (by decide) in_3 m_158 rfl rfl (n := 27) rfl ?_
      refine k_iload1 S dX3_findPhase_27 (n := 28) rfl ?_
      refine k_aald S dX3_findPhase_28 (j := k) (zlt S (by decide)) (by decide) rfl (show k < 10 by omega) (n := 29) rfl ?_
      exact k_aret S Y dX3_findPhase_29 (by decide) (by decide) (⟨k, hk, rfl, rfl, rfl⟩)
    ·
      exact k_throwW (cls := "java/lang/IndexOutOfBoundsException") (names := zEx) (i9 := 6) S Y rfl (by decide) (by decide) m_431 m_8 rfl at_IOB ng_IOB go_IOB dX3_findPhase_12 dX3_findPhase_15 dX3_findPhase_16 dX3_findPhase_19 dX3_findPhase_22 (by decide) (by decide) (by decide) (by decide) (by decide) (by decide) (⟨by first | exact zin_n (by omega) c1 | exact zin_g (by omega) (zlt_n c2), rfl, rfl⟩)
/-- phase k has limits -/
def zLm (μ : zM) (k : Nat) : Prop := ¬ μ.1 (11 + k) 4 = 0 ∨ ¬ μ.1 (11 + k) 1 ≤ 0
def zhl (μ : zM) (k : Nat) : Int32 := if μ.1 (11 + k) 4 = 0 then (if μ.1 (11 + k) 1 ≤ 0 then 0 else 1) else 1
theorem zlm_t {μ : zM} {k : Nat} (h : ¬ zhl μ k = 0) : zLm μ k := by
  unfold zhl at h
  by_cases h1 : μ.1 (11 + k) 4 = 0
  · rw [if_pos h1] at h
    by_cases h2 : μ.1 (11 + k) 1 ≤ 0
    · rw [if_pos h2] at h; exact absurd rfl h
    · exact Or.inr h2
  · exact Or.inl h1
theorem zlm_f {μ : zM} {k : Nat} (h : zhl μ k = 0) : ¬ zLm μ k := by
  unfold zhl at h
  by_cases h1 : μ.1 (11 + k) 4 = 0
  · rw [if_pos h1] at h
    by_cases h2 : μ.1 (11 + k) 1 ≤ 0
    · exact fun q => q.elim (fun q => q h1) (fun q => q h2)
    · rw [if_neg h2] at h; exact absurd h (by decide)
  · rw [if_neg h1] at h; exact absurd h (by decide)
set_option maxRecDepth 100000 in
set_option maxHeartbeats 4000000 in
theorem c_X3_findLimits {l : Launch} {g : zG} {μ : zM} {v : Int32} {c : Nat} (hc : μ.1 0 12 = nI c) (hc10 : c ≤ 10) : zC l g yX3_findLimits cX3_findLimits 3 (some (.object "ChartroomSpc$Phase")) ({ frames := 7, cells := 2, slots := 12, locals := 103 } : Room) 2 12 [.ref (za g 0), .int v] μ (fun r ν => ∃ k, k < c ∧ v = nI k ∧ zLm μ k ∧ r = some (.ref (za g (11 + k))) ∧ ν = μ) (fun E ν => ((¬ zIn v c ∧ E = "java/lang/IndexOutOfBoundsException") ∨ (∃ k, k < c ∧ v = nI k ∧ ¬ zLm μ k ∧ E = "java/lang/IllegalStateException")) ∧ ν = μ) := by
  refine zC_of (L0 := [some (.ref (za g 0)), some (.int v), none]) (plainFor_of_name (by decide)) (Nat.le_of_ble_eq_true rfl) rfl ?_
  intro x S Y hxl
  subst hxl
  refine k_aload0 S dX3_findLimits_0 (n := 1) rfl ?_
  refine k_iload1 S dX3_findLimits_1 (n := 2) rfl ?_
  refine k_callV (As := [.int v]) (rest := []) (p := 0) S (c_X3_findPhase (c := c) hc hc10) mv_X3_findPhase m_427 dX3_findLimits_2 rfl rfl ⟨by decide, by decide⟩ (zlt S (by decide)) (by decide) (ci := 3) rfl rfl rfl (Nat.le_of_ble_eq_true rfl) ⟨by decide, by decide⟩ (n := 5) rfl (fun E9 ν9 h9 => k_out S Y (by decide) (by decide) (⟨Or.inl ⟨h9.1, h9.2.1⟩, h9.2.2⟩)) (fun v9 ν9 h9 => ?_)
  obtain ⟨k, hk, e9, e1, e2⟩ := h9
  subst e9
  rw [e1, e2]
  show zK x g ({ frames := 7, cells := 2, slots := 12, locals := 103 } : Room) 3 1 6 5 [some (.ref (za g 0)), some (.int (nI k)), none] [.ref (za g (11 + k))] μ
  refine k_astore2 S dX3_findLimits_5 (by decide) rfl (n := 6) rfl ?_
  refine k_aload2 S dX3_findLimits_6 (n := 7) rfl ?_
  refine k_callV (As := []) (rest := []) (p := 11 + k) S (c_X0_hasLimits (show k < 10 by omega)) mv_X0_hasLimits m_505 dX3_findLimits_7 rfl rfl ⟨by decide, by decide⟩ (zlt S (by omega)) (zki_ph (show k < 10 by omega)) (ci := 0) rfl rfl rfl (Nat.le_of_ble_eq_true rfl) ⟨by decide, by decide⟩ (n := 10) rfl (fun _ _ h => h.elim) (fun v9 ν9 h9 => ?_)
  rw [h9.1, h9.2]
  show zK x g ({ frames := 7, cells := 2, slots := 12, locals := 103 } : Room) 3 1 6 10 [some (.ref (za g 0)), some (.int (nI k)), some (.ref (za g (11 + k)))] [.int (zhl μ k)] μ
  refine k_if_ne S dX3_findLimits_10 (tgt := 23) (by decide) (n := 13) rfl (fun c1 => ?_) (fun c1 => ?_)
  ·
    refine k_aload2 S dX3_findLimits_23 (n := 24) rfl ?_
    exact k_aret S Y dX3_findLimits_24 (by decide) (by decide) (⟨k, hk, rfl, zlm_t c1, rfl, rfl⟩)
  ·
    exact k_throw (cls := "java/lang/IllegalStateException") (names := zEx) (i9 := 12) S Y rfl (by decide) (by decide) m_269 m_11 rfl at_ISE ng_ISE go_ISE dX3_findLimits_13 dX3_findLimits_16 dX3_findLimits_17 dX3_findLimits_19 dX3_findLimits_22 (by decide) (by decide) (by decide) (by decide) (by decide) (by decide) (⟨Or.inr ⟨k, hk, rfl, zlm_f c1, rfl⟩, rfl⟩)
set_option maxRecDepth 100000 in
set_option maxHeartbeats 4000000 in
theorem c_X3_phaseHolding {l : Launch} {g : zG} {μ : zM} {i k c : Nat} (hi : i < 60) (hk : μ.1 5 i = nI k) (hc : μ.1 0 12 = nI c) (hkc : k < c) (hc10 : c ≤ 10) : zC l g yX3_phaseHolding cX3_phaseHolding 3 (some (.object "ChartroomSpc$Phase")) ({ frames := 0, cells := 0, slots := 0, locals := 0 } : Room) 0 0 [.ref (za g 0), .int (nI i)] μ (zRv (some (.ref (za g (11 + k)))) μ) zNX := by
  refine zC_of (L0 := [some (.ref (za g 0)), some (.int (nI i)), none]) (plainFor_of_name (by decide)) (Nat.le_of_ble_eq_true rfl) rfl ?_
  intro x S Y hxl
  subst hxl
  refine k_aload0 S dX3_phaseHolding_0 (n := 1) rfl ?_
  refine k_getr (r := 5) (T := TX3) (j := 11) S dX3_phaseHolding_1 (zlt S (by decide)) (by decide) (ci := 3) rfl rfl (by decide) in_3 m_156 rfl rfl (n := 4) rfl ?_
  refine k_iload1 S dX3_phaseHolding_4 (n := 5) rfl ?_
  refine k_ialdv (v := nI k) S dX3_phaseHolding_5 (j := i) (zlt S (by decide)) (by decide) rfl (show i < 60 from hi) (by decide) hk (n := 6) rfl ?_
  refine k_istore2 S dX3_phaseHolding_6 (by decide) rfl (n := 7) rfl ?_
  refine k_iload2 S dX3_phaseHolding_7 (n := 8) rfl ?_
  refine k_if_lt S dX3_phaseHolding_8 (tgt := 28) (by decide) (n := 11) rfl (fun h9 => absurd h9 (nI_pos (by omega))) (fun _ => ?_)
  refine k_iload2 S dX3_phaseHolding_11 (n := 12) rfl ?_
  refine k_aload0 S dX3_phaseHolding_12 (n := 13) rfl ?_
  refine k_getv (v := nI c) (T := TX3) (j := 12) S dX3_phaseHolding_13 (zlt S (by decide)) (by decide) (ci := 3) rfl rfl (by decide) in_3 m_157 rfl rfl hc (n := 16) rfl ?_
  refine k_icmp_ge S dX3_phaseHolding_16 (tgt := 28) (by decide) (n := 19) rfl (fun h9 => absurd h9 (nI_ge hkc (by omega))) (fun _ => ?_)
  refine k_aload0 S dX3_phaseHolding_19 (n := 20) rfl ?_
  refine k_getr (r := 6) (T := TX3) (j := 13) S dX3_phaseHolding_20 (zlt S (by decide)) (by decide) (ci := 3) rfl rfl (by decide) in_3 m_158 rfl rfl (n := 23) rfl ?_
  refine k_iload2 S dX3_phaseHolding_23 (n := 24) rfl ?_
  refine k_aald S dX3_phaseHolding_24 (j := k) (zlt S (by decide)) (by decide) rfl (show k < 10 by omega) (n := 25) rfl ?_
  refine k_goto S dX3_phaseHolding_25 (tgt := 34) (by decide) ?_
  exact k_aret S Y dX3_phaseHolding_34 (by decide) (by decide) (⟨rfl, rfl⟩)
set_option maxRecDepth 100000 in
set_option maxHeartbeats 4000000 in
theorem c_X3_lastPhase {l : Launch} {g : zG} {μ : zM} {c : Nat} (hc : μ.1 0 12 = nI c) (h1 : 1 ≤ c) (hc10 : c ≤ 10) : zC l g yX3_lastPhase cX3_lastPhase 1 (some (.object "ChartroomSpc$Phase")) ({ frames := 0, cells := 0, slots := 0, locals := 0 } : Room) 0 0 [.ref (za g 0)] μ (zRv (some (.ref (za g (11 + (c - 1))))) μ) zNX := by
  refine zC_of (L0 := [some (.ref (za g 0))]) (plainFor_of_name (by decide)) (Nat.le_of_ble_eq_true rfl) rfl ?_
  intro x S Y hxl
  subst hxl
  refine k_aload0 S dX3_lastPhase_0 (n := 1) rfl ?_
  refine k_getr (r := 6) (T := TX3) (j := 13) S dX3_lastPhase_1 (zlt S (by decide)) (by decide) (ci := 3) rfl rfl (by decide) in_3 m_158 rfl rfl (n := 4) rfl ?_
  refine k_aload0 S dX3_lastPhase_4 (n := 5) rfl ?_
  refine k_getv (v := nI c) (T := TX3) (j := 12) S dX3_lastPhase_5 (zlt S (by decide)) (by decide) (ci := 3) rfl rfl (by decide) in_3 m_157 rfl rfl hc (n := 8) rfl ?_
  refine k_iconst S dX3_lastPhase_8 (v := 1) (by decide) (n := 9) rfl ?_
  refine k_isub S dX3_lastPhase_9 (n := 10) rfl ?_
  refine k_aald S dX3_lastPhase_10 (j := c - 1) (zlt S (by decide)) (by decide) (pk_sub h1) (show c - 1 < 10 by omega) (n := 11) rfl ?_
  exact k_aret S Y dX3_lastPhase_11 (by decide) (by decide) (⟨rfl, rfl⟩)
def m_X3_countPoint (μ : zM) (i k s : Nat) (a : Int32) : zM := m_X0_settle (zu (zu (zu μ (11 + k) 1 ((μ.1 (11 + k) 1) + a)) (11 + k) 2 ((μ.1 (11 + k) 2) + (a * (μ.1 1 i)))) (11 + k) 3 ((μ.1 (11 + k) 3) + (a * (μ.1 2 i)))) k s
set_option maxRecDepth 100000 in
set_option maxHeartbeats 4000000 in
theorem c_X3_countPoint {l : Launch} {g : zG} {μ : zM} {i k s c : Nat} {a : Int32} (hi : i < 60) (hk : μ.1 5 i = nI k) (hc : μ.1 0 12 = nI c) (hkc : k < c) (hc10 : c ≤ 10) (hs : μ.1 0 0 = nI (s + 2)) (hs5 : s < 5) : zC l g yX3_countPoint cX3_countPoint 4 none ({ frames := 4, cells := 0, slots := 0, locals := 94 } : Room) 0 0 [.ref (za g 0), .int (nI i), .int a] μ (zRv none (m_X3_countPoint μ i k s a)) zNX := by
  refine zC_of (L0 := [some (.ref (za g 0)), some (.int (nI i)), some (.int a), none]) (plainFor_of_name (by decide)) (Nat.le_of_ble_eq_true rfl) rfl ?_
  intro x S Y hxl
  subst hxl
  refine k_aload0 S dX3_countPoint_0 (n := 1) rfl ?_
  refine k_iload1 S dX3_countPoint_1 (n := 2) rfl ?_
  refine k_callV (As := [.int (nI i)]) (rest := []) (p := 0) S (c_X3_phaseHolding hi hk hc hkc hc10) mv_X3_phaseHolding m_314 dX3_countPoint_2 rfl rfl ⟨by decide, by decide⟩ (zlt S (by decide)) (by decide) (ci := 3) rfl rfl rfl (Nat.le_of_ble_eq_true rfl) ⟨by decide, by decide⟩ (n := 5) rfl (fun _ _ h => h.elim) (fun v9 ν9 h9 => ?_)
  rw [h9.1, h9.2]
  show zK x g ({ frames := 4, cells := 0, slots := 0, locals := 94 } : Room) 4 0 0 5 [some (.ref (za g 0)), some (.int (nI i)), some (.int a), none] [.ref (za g (11 + k))] μ
  refine k_astore3 S dX3_countPoint_5 (by decide) rfl (n := 6) rfl ?_
  refine k_aload3 S dX3_countPoint_6 (n := 7) rfl ?_
  refine k_dup S dX3_countPoint_7 rfl (n := 8) rfl ?_
  refine k_geti (T := TX0) (j := 1) S dX3_countPoint_8 (zlt S (by omega)) (zki_ph (show k < 10 by omega)) (ci := 0) rfl rfl (by decide) in_0 m_31 rfl rfl (n := 11) rfl ?_
  refine k_iload2 S dX3_countPoint_11 (n := 12) rfl ?_
  refine k_iadd S dX3_countPoint_12 (n := 13) rfl ?_
  refine k_put (T := TX0) (j := 1) S dX3_countPoint_13 (zlt S (by omega)) (zki_ph (show k < 10 by omega)) (ci := 0) rfl rfl (by decide) in_0 m_31 rfl rfl (ty0 := tyX0) tyX0_ok nmX0 rfl rfl rfl (n := 16) rfl ?_
  refine k_aload3 S dX3_countPoint_16 (n := 17) rfl ?_
  refine k_dup S dX3_countPoint_17 rfl (n := 18) rfl ?_
  refine k_getv (v := μ.1 (11 + k) 2) (T := TX0) (j := 2) S dX3_countPoint_18 (zlt S (by omega)) (zki_ph (show k < 10 by omega)) (ci := 0) rfl rfl (by decide) in_0 m_33 rfl rfl (by simp [zu, zset, upd]) (n := 21) rfl ?_
  refine k_iload2 S dX3_countPoint_21 (n := 22) rfl ?_
  refine k_aload0 S dX3_countPoint_22 (n := 23) rfl ?_
  refine k_getr (r := 1) (T := TX3) (j := 7) S dX3_countPoint_23 (zlt S (by decide)) (by decide) (ci := 3) rfl rfl (by decide) in_3 m_152 rfl rfl (n := 26) rfl ?_
  refine k_iload1 S dX3_countPoint_26 (n := 27) rfl ?_
  refine k_ialdv (v := μ.1 1 i) S dX3_countPoint_27 (j := i) (zlt S (by decide)) (by decide) rfl (show i < 60 from hi) (by decide) (by simp [zu, zset, upd, (show (1 : Nat) ≠ 11 + k by omega)]) (n := 28) rfl ?_
  refine k_imul S dX3_countPoint_28 (n := 29) rfl ?_
  refine k_iadd S dX3_countPoint_29 (n := 30) rfl ?_
  refine k_put (T := TX0) (j := 2) S dX3_countPoint_30 (zlt S (by omega)) (zki_ph (show k < 10 by omega)) (ci := 0) rfl rfl (by decide) in_0 m_33 rfl rfl (ty0 := tyX0) tyX0_ok nmX0 rfl rfl rfl (n := 33) rfl ?_
  refine k_aload3 S dX3_countPoint_33 (n := 34) rfl ?_
  refine k_dup S dX3_countPoint_34 rfl (n := 35) rfl ?_
  refine k_getv (v := μ.1 (11 + k) 3) (T := TX0) (j := 3) S dX3_countPoint_35 (zlt S (by omega)) (zki_ph (show k < 10 by omega)) (ci := 0) rfl rfl (by decide) in_0 m_35 rfl rfl (by simp [zu, zset, upd]) (n := 38) rfl ?_
  refine k_iload2 S dX3_countPoint_38 (n := 39) rfl ?_
  refine k_aload0 S dX3_countPoint_39 (n := 40) rfl ?_
  refine k_getr (r := 2) (T := TX3) (j := 8) S dX3_countPoint_40 (zlt S (by decide)) (by decide) (ci := 3) rfl rfl (by decide) in_3 m_153 rfl rfl (n := 43) rfl ?_
  refine k_iload1 S dX3_countPoint_43 (n := 44) rfl ?_
  refine k_ialdv (v := μ.1 2 i) S dX3_countPoint_44 (j := i) (zlt S (by decide)) (by decide) rfl (show i < 60 from hi) (by decide) (by simp [zu, zset, upd, (show (2 : Nat) ≠ 11 + k by omega)]) (n := 45) rfl ?_
  refine k_imul S dX3_countPoint_45 (n := 46) rfl ?_
  refine k_iadd S dX3_countPoint_46 (n := 47) rfl ?_
  refine k_put (T := TX0) (j := 3) S dX3_countPoint_47 (zlt S (by omega)) (zki_ph (show k < 10 by omega)) (ci := 0) rfl rfl (by decide) in_0 m_35 rfl rfl (ty0 := tyX0) tyX0_ok nmX0 rfl rfl rfl (n := 50) rfl ?_
  refine k_aload3 S dX3_countPoint_50 (n := 51) rfl ?_
  refine k_aload0 S dX3_countPoint_51 (n := 52) rfl ?_
  refine k_getv (v := nI (s + 2)) (T := TX3) (j := 0) S dX3_countPoint_52 (zlt S (by decide)) (by decide) (ci := 3) rfl rfl (by decide) in_3 m_145 rfl rfl (by simp [zu, hs]) (n := 55) rfl ?_
  refine k_callV (As := [.int (nI (s + 2))]) (rest := []) (p := 11 + k) S (c_X0_settle (show k < 10 by omega) hs5) mv_X0_settle m_318 dX3_countPoint_55 rfl rfl ⟨by decide, by decide⟩ (zlt S (by omega)) (zki_ph (show k < 10 by omega)) (ci := 0) rfl rfl rfl (Nat.le_of_ble_eq_true rfl) ⟨by decide, by decide⟩ (n := 58) rfl (fun _ _ h => h.elim) (fun v9 ν9 h9 => ?_)
  rw [h9.1, h9.2]
  show zK x g ({ frames := 4, cells := 0, slots := 0, locals := 94 } : Room) 4 0 0 58 [some (.ref (za g 0)), some (.int (nI i)), some (.int a), some (.ref (za g (11 + k)))] [] (m_X0_settle (zu (zu (zu μ (11 + k) 1 ((μ.1 (11 + k) 1) + a)) (11 + k) 2 ((μ.1 (11 + k) 2) + (a * (μ.1 1 i)))) (11 + k) 3 ((μ.1 (11 + k) 3) + (a * (μ.1 2 i)))) k s)
  exact k_vret S Y dX3_countPoint_58 (by decide) (by decide) (⟨rfl, rfl⟩)
