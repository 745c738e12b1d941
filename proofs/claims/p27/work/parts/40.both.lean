/-! CHARTS AND RULES, from their entry -/
set_option maxRecDepth 100000 in
set_option maxHeartbeats 4000000 in
theorem c_L_charts (l : Launch) (D : va_G) (zt0 : Nat → Nat) (Bd : Nat) : Met l yL_charts (zws yL_charts cL_charts 1 (some .boolean)) ({ frames := 11, cells := 740, slots := 4779, locals := 220 } : Room) (va_Pc [] (fun U => Bd ≤ U.heap.size ∧ va_K D vwCl [] U ∧ zSt l (zgm D 0 (fun _ => 0) (fun _ => D.1 0) zt0 Bd) U U.heap ∧ va_AO RX0 U)) (va_Qi (fun (r : Int32) (_ : Unit) => r = 1) (fun _ _ => True) (fun q : Nat => Bd ≤ q)) 740 4779 (fun q : Nat => Bd ≤ q) := by
  refine Met.ofW (cc := cL_charts) (maxL := 1) (ret := (some .boolean)) (by decide) rfl ?_
  intro p e s m args below meth c s₁ B hml hv
  obtain ⟨rfl, hBd, hK, hSt, hAO⟩ := hv
  have hx := B.exec
  have hb := B.bytes
  have hr := B.returns
  have hts9 := atoms_spec (ws := zws yL_charts cL_charts 1 (some .boolean)) B.pre
  have hts : ∀ w ∈ zU, w.before ([] : List Value).toArray s = true := fun w hw => hts9 w (List.mem_cons_of_mem _ hw)
  have hown : s.vm.findClass RL = some m.cls := findClass_of_methodNamed B.named
  have hlocks := B.notSynchronized
  have hA : ∀ q : Nat, s.heap.size ≤ q → (fun q : Nat => Bd ≤ q) q := fun q h => Nat.le_trans hBd h
  have hS : va_S (fun q : Nat => Bd ≤ q) s.heap s.heap [] := va_S.rf
  have hP : va_P D vwCl [] s.heap := fun k q h => by simp at h
  have hD : va_D (fun q : Nat => Bd ≤ q) [] := ⟨fun i j p q h => by simp at h, fun k q h => by simp at h⟩
  have hl := lv_entry ([]) (n := 1) (Nat.le_of_ble_eq_true rfl)
  rw [lg_entry_eq]
  generalize (lg_sl ([]) ++ List.replicate (1 - (lg_sl ([])).length) Slot.unset).toArray = ls at hl ⊢
  have hl : lv_has ls 1 [] := hl
  refine va_new (ci := 3) (fs := [.int 0, .int 0, .int 0, .int 0, .int 0, .int 0, .int 0, .null, .null, .null, .null, .null, .int 0, .null, .null, .null]) (C := RX3) (T := TX3) (N := 16) hx hb hts in_3 tyX3 tyX3_ok hown (hts _ m_13) (hts _ m_14) (hts _ m_1) hK hP hD hS hA rfl zdf3 (Nat.le_of_ble_eq_true rfl) (Nat.le_of_ble_eq_true rfl) dL_charts_0 (fun q1 H hP hD hS => ?_)
  have hP : va_P D vwCl [(q1, .inr (3, [.int 0, .int 0, .int 0, .int 0, .int 0, .int 0, .int 0, .null, .null, .null, .null, .null, .int 0, .null, .null, .null]))] H := hP
  have hD : va_D (fun q : Nat => Bd ≤ q) [(q1, .inr (3, [.int 0, .int 0, .int 0, .int 0, .int 0, .int 0, .int 0, .null, .null, .null, .null, .null, .int 0, .null, .null, .null]))] := hD
  refine W.widen (k := 1) (n := 16) (Nat.le_of_ble_eq_true rfl) (Nat.le_of_ble_eq_true rfl) ?_
  refine lv_dup hx hb dL_charts_3 rfl ?_
  refine va_callv (va_runI (As := []) (rest := [.ref q1]) ⟨hx, hb, hml, hown, hts⟩ (c_X3_init l D zt0 (fun _ => 0) (fun _ => D.1 0) Bd q1) (cwI 0 hts (zgood m_17) rfl rfl rfl (hts _ m_1) (hts _ m_15) (hts _ m_16) rfl (by decide +kernel) ⟨Nat.le_of_ble_eq_true rfl, Nat.le_of_ble_eq_true rfl⟩) ⟨fun a U g mk q => by obtain ⟨q0, q1, qP, qK, qD, qS, qA⟩ := q; exact ⟨q0, q1, qP, va_K.moved (u := U) (U := U.calling g mk a) (Vm.Alike.refl U.vm) qK, qD, zSt.same qS rfl rfl, va_AO.moved (u := U) (U := U.calling g mk a) (Vm.Alike.refl U.vm) qA⟩, fun U hU hW => ⟨rfl, by rw [hU]; exact (Nat.le_trans hBd hS.1), by rw [hU]; exact hP, va_K.moved hW.alike hK, hD, zSt.go hSt hS hU hW, va_AO.moved hW.alike hAO⟩⟩ rfl rfl hl.1 rfl (lv_room (Nat.le_of_ble_eq_true rfl)) dL_charts_4 ⟨Nat.le_of_ble_eq_true rfl, Nat.le_of_ble_eq_true rfl⟩) hS (fun q _ h => h) (fun q h => h) (fun u t H1 locs ht hvm hw hB hz1 hk1 hS => ?_)
  obtain ⟨ad, cs⟩ := u
  dsimp only at hw
  subst hw
  obtain ⟨hP, hK1, hO⟩ := hB
  rw [ht] at hP
  have hK := va_K.moved hvm.symm hK1
  generalize H1 = H at hP hS ⊢
  dsimp only at hP hK hO
  refine W.widen (k := 21) (n := 465) (Nat.le_of_ble_eq_true rfl) (Nat.le_of_ble_eq_true rfl) ?_
  refine lv_astore_n (lv' := [(0, .ref (ad 0))]) hx hb dL_charts_7 rfl hl (by decide) rfl (fun ls hl => ?_)
  have hSt3 : zSt l (zgm D 21 ad cs zt0 Bd) s s.heap := hSt
  have S : zS (p, l, e, s, m, ([] : List Value).toArray, below, meth, c, MQ below (va_Qi (fun (r : Int32) (_ : Unit) => r = 1) (fun _ _ => True) (fun q : Nat => Bd ≤ q)) ([] : List Value).toArray s 740 4779 (fun q : Nat => Bd ≤ q)) (zgm D 21 ad cs zt0 Bd) 1 cL_charts RL := ⟨hx, hb, hml, hown, hts, hK, hO, hSt3, hlocks⟩
  have hend : ∀ (ce sl : Nat) (L : List (Option Value)) (μ : zM), ce ≤ 740 → sl ≤ 4779 → zK (p, l, e, s, m, ([] : List Value).toArray, below, meth, c, MQ below (va_Qi (fun (r : Int32) (_ : Unit) => r = 1) (fun _ _ => True) (fun q : Nat => Bd ≤ q)) ([] : List Value).toArray s 740 4779 (fun q : Nat => Bd ≤ q)) (zgm D 21 ad cs zt0 Bd) ({ frames := 11, cells := 740, slots := 4779, locals := 220 } : Room) 1 ce sl 811 L [.int 1] μ := fun ce sl L μ h1 h2 H locs ls hP hS hl => W.widen h1 h2 (W.zret hx hb hr rfl (fun t ht hW => ⟨⟨1, (), rfl, rfl, trivial⟩, va_S.F hS ht⟩) hS.2.2 dL_charts_811 hlocks)
  exact k_re (zOf sC0) rfl (zEq_of (by decide +kernel)) (gC0 S rfl hend) H locs ls hP hS hl
set_option maxRecDepth 100000 in
set_option maxHeartbeats 4000000 in
theorem c_L_rules (l : Launch) (D : va_G) (zt0 : Nat → Nat) (Bd : Nat) : Met l yL_rules (zws yL_rules cL_rules 3 (some .boolean)) ({ frames := 11, cells := 631, slots := 4125, locals := 220 } : Room) (va_Pc [] (fun U => Bd ≤ U.heap.size ∧ va_K D vwCl [] U ∧ zSt l (zgm D 0 (fun _ => 0) (fun _ => D.1 0) zt0 Bd) U U.heap ∧ va_AO RX0 U)) (va_Qi (fun (r : Int32) (_ : Unit) => r = 1) (fun _ _ => True) (fun q : Nat => Bd ≤ q)) 631 4125 (fun q : Nat => Bd ≤ q) := by
  refine Met.ofW (cc := cL_rules) (maxL := 3) (ret := (some .boolean)) (by decide) rfl ?_
  intro p e s m args below meth c s₁ B hml hv
  obtain ⟨rfl, hBd, hK, hSt, hAO⟩ := hv
  have hx := B.exec
  have hb := B.bytes
  have hr := B.returns
  have hts9 := atoms_spec (ws := zws yL_rules cL_rules 3 (some .boolean)) B.pre
  have hts : ∀ w ∈ zU, w.before ([] : List Value).toArray s = true := fun w hw => hts9 w (List.mem_cons_of_mem _ hw)
  have hown : s.vm.findClass RL = some m.cls := findClass_of_methodNamed B.named
  have hlocks := B.notSynchronized
  have hA : ∀ q : Nat, s.heap.size ≤ q → (fun q : Nat => Bd ≤ q) q := fun q h => Nat.le_trans hBd h
  have hS : va_S (fun q : Nat => Bd ≤ q) s.heap s.heap [] := va_S.rf
  have hP : va_P D vwCl [] s.heap := fun k q h => by simp at h
  have hD : va_D (fun q : Nat => Bd ≤ q) [] := ⟨fun i j p q h => by simp at h, fun k q h => by simp at h⟩
  have hl := lv_entry ([]) (n := 3) (Nat.le_of_ble_eq_true rfl)
  rw [lg_entry_eq]
  generalize (lg_sl ([]) ++ List.replicate (3 - (lg_sl ([])).length) Slot.unset).toArray = ls at hl ⊢
  have hl : lv_has ls 3 [] := hl
  refine va_new (ci := 3) (fs := [.int 0, .int 0, .int 0, .int 0, .int 0, .int 0, .int 0, .null, .null, .null, .null, .null, .int 0, .null, .null, .null]) (C := RX3) (T := TX3) (N := 16) hx hb hts in_3 tyX3 tyX3_ok hown (hts _ m_13) (hts _ m_14) (hts _ m_1) hK hP hD hS hA rfl zdf3 (Nat.le_of_ble_eq_true rfl) (Nat.le_of_ble_eq_true rfl) dL_rules_0 (fun q1 H hP hD hS => ?_)
  have hP : va_P D vwCl [(q1, .inr (3, [.int 0, .int 0, .int 0, .int 0, .int 0, .int 0, .int 0, .null, .null, .null, .null, .null, .int 0, .null, .null, .null]))] H := hP
  have hD : va_D (fun q : Nat => Bd ≤ q) [(q1, .inr (3, [.int 0, .int 0, .int 0, .int 0, .int 0, .int 0, .int 0, .null, .null, .null, .null, .null, .int 0, .null, .null, .null]))] := hD
  refine W.widen (k := 1) (n := 16) (Nat.le_of_ble_eq_true rfl) (Nat.le_of_ble_eq_true rfl) ?_
  refine lv_dup hx hb dL_rules_3 rfl ?_
  refine va_callv (va_runI (As := []) (rest := [.ref q1]) ⟨hx, hb, hml, hown, hts⟩ (c_X3_init l D zt0 (fun _ => 0) (fun _ => D.1 0) Bd q1) (cwI 0 hts (zgood m_17) rfl rfl rfl (hts _ m_1) (hts _ m_15) (hts _ m_16) rfl (by decide +kernel) ⟨Nat.le_of_ble_eq_true rfl, Nat.le_of_ble_eq_true rfl⟩) ⟨fun a U g mk q => by obtain ⟨q0, q1, qP, qK, qD, qS, qA⟩ := q; exact ⟨q0, q1, qP, va_K.moved (u := U) (U := U.calling g mk a) (Vm.Alike.refl U.vm) qK, qD, zSt.same qS rfl rfl, va_AO.moved (u := U) (U := U.calling g mk a) (Vm.Alike.refl U.vm) qA⟩, fun U hU hW => ⟨rfl, by rw [hU]; exact (Nat.le_trans hBd hS.1), by rw [hU]; exact hP, va_K.moved hW.alike hK, hD, zSt.go hSt hS hU hW, va_AO.moved hW.alike hAO⟩⟩ rfl rfl hl.1 rfl (lv_room (Nat.le_of_ble_eq_true rfl)) dL_rules_4 ⟨Nat.le_of_ble_eq_true rfl, Nat.le_of_ble_eq_true rfl⟩) hS (fun q _ h => h) (fun q h => h) (fun u t H1 locs ht hvm hw hB hz1 hk1 hS => ?_)
  obtain ⟨ad, cs⟩ := u
  dsimp only at hw
  subst hw
  obtain ⟨hP, hK1, hO⟩ := hB
  rw [ht] at hP
  have hK := va_K.moved hvm.symm hK1
  generalize H1 = H at hP hS ⊢
  dsimp only at hP hK hO
  refine W.widen (k := 21) (n := 465) (Nat.le_of_ble_eq_true rfl) (Nat.le_of_ble_eq_true rfl) ?_
  refine lv_astore_n (lv' := [(0, .ref (ad 0))]) hx hb dL_rules_7 rfl hl (by decide) rfl (fun ls hl => ?_)
  have hSt3 : zSt l (zgm D 21 ad cs zt0 Bd) s s.heap := hSt
  have S : zS (p, l, e, s, m, ([] : List Value).toArray, below, meth, c, MQ below (va_Qi (fun (r : Int32) (_ : Unit) => r = 1) (fun _ _ => True) (fun q : Nat => Bd ≤ q)) ([] : List Value).toArray s 631 4125 (fun q : Nat => Bd ≤ q)) (zgm D 21 ad cs zt0 Bd) 3 cL_rules RL := ⟨hx, hb, hml, hown, hts, hK, hO, hSt3, hlocks⟩
  have hend : ∀ (ce sl : Nat) (L : List (Option Value)) (μ : zM), ce ≤ 631 → sl ≤ 4125 → zK (p, l, e, s, m, ([] : List Value).toArray, below, meth, c, MQ below (va_Qi (fun (r : Int32) (_ : Unit) => r = 1) (fun _ _ => True) (fun q : Nat => Bd ≤ q)) ([] : List Value).toArray s 631 4125 (fun q : Nat => Bd ≤ q)) (zgm D 21 ad cs zt0 Bd) ({ frames := 11, cells := 631, slots := 4125, locals := 220 } : Room) 3 ce sl 937 L [.int 1] μ := fun ce sl L μ h1 h2 H locs ls hP hS hl => W.widen h1 h2 (W.zret hx hb hr rfl (fun t ht hW => ⟨⟨1, (), rfl, rfl, trivial⟩, va_S.F hS ht⟩) hS.2.2 dL_rules_937 hlocks)
  exact k_re (zOf sR0) rfl (zEq_of (by decide +kernel)) (gR0 S rfl hend) H locs ls hP hS hl
