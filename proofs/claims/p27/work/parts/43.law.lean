set_option maxRecDepth 100000 in
set_option maxHeartbeats 4000000 in
theorem law_mid {x : zX} {g : zG} {b LL : Nat} {sc : Nat → Int32} (S : zS x g 5 cL_law RL) (hn : zn g = 21) (V : zScr9 x g b LL sc) (hL : LL ≤ 260) (hend : ∀ (ce sl : Nat) (L : List (Option Value)) (μ : zM), ce ≤ 634230 → sl ≤ 7198934 → zK x g room_1 5 ce sl 147 L [.int 1] μ) (μ : zM) : zK x g room_1 5 1392 9369 22 [some (.ref b), some (.ref (za g 0)), none, none, none] [] μ := by
  have hJ : ∀ s : Nat, s < 5 → zK x g room_1 5 1392 9369 40 [some (.ref b), some (.ref (za g 0)), none, none, none] [.int (nI (s + 2))] μ := by
    intro s hs
    refine k_istore2 S dL_law_40 (by decide) rfl (n := 41) rfl ?_
    refine k_aload1 S dL_law_41 (n := 42) rfl ?_
    refine k_iload2 S dL_law_42 (n := 43) rfl ?_
    refine k_callH (As := [.ref (za g 0), .int (nI (s + 2))]) (rest := []) S (y_begin (d_begin ⟨nI_le (a := 2) (b := s + 2) (by omega) (by omega), nI_le (a := s + 2) (b := 6) (by omega) (by omega)⟩)) mv_L_begin m_335 dL_law_43 rfl rfl ⟨Nat.le_of_ble_eq_true rfl, Nat.le_of_ble_eq_true rfl⟩ rfl rfl (Nat.le_of_ble_eq_true rfl) ⟨Nat.le_of_ble_eq_true rfl, Nat.le_of_ble_eq_true rfl⟩ (n := 46) rfl (fun _ _ h => h.elim) (fun v9 ν9 h9 => ?_)
    rw [h9.1, h9.2]
    show zK x g room_1 5 1393 9375 46 [some (.ref b), some (.ref (za g 0)), some (.int (nI (s + 2))), none, none] [.int 0] (m_X3_restart μ (nI (s + 2)))
    refine k_if_eq S dL_law_46 (tgt := 51) (by decide) (n := 49) rfl (fun _ => ?_) (fun h9 => absurd rfl h9)
    refine k_iconst S dL_law_51 (v := 0) (by decide) (n := 52) rfl ?_
    refine k_istore3 S dL_law_52 (by decide) rfl (n := 53) rfl ?_
    refine law_loop S hn V hL hs hend 48 0 1393 9375 (m_X3_restart μ (nI (s + 2))) rfl (by omega) (by omega) ⟨⟨⟨?_, hs⟩, ⟨?_, ?_⟩, ⟨?_, by decide, by decide⟩, ?_, ?_, ?_⟩, ?_⟩
    · simp [m_X3_restart, zset, zu]
    · rw [Nat.zero_div]
      simp [m_X3_restart, zset, zu, nI_0]
    · rw [Nat.zero_div]
      exact Nat.zero_le _
    · simp [m_X3_restart, zset, zu]
      rfl
    · intro i hi
      rw [Nat.zero_div] at hi
      exact absurd hi (Nat.not_lt_zero i)
    · intro k hk
      obtain rfl : k = 0 := by omega
      rfl
    · intro i hi
      exact Nat.zero_le i
    · rw [Nat.zero_mod]
      simp [m_X3_restart, zset, zu, nI_0]
  refine k_iconst S dL_law_22 (v := 2) (by decide) (n := 23) rfl ?_
  refine k_aload0 S dL_law_23 (n := 24) rfl ?_
  refine k_slen S V dL_law_24 (n := 25) rfl ?_
  refine k_if_ne S dL_law_25 (tgt := 32) (by decide) (n := 28) rfl (fun h0 => ?_) (fun _ => ?_)
  · have hL0 : 0 < LL := Nat.pos_of_ne_zero (fun z => h0 (by rw [z]; rfl))
    refine k_aload0 S dL_law_32 (n := 33) rfl ?_
    refine k_iconst S dL_law_33 (v := 0) (by decide) (n := 34) rfl ?_
    refine k_sld (j := 0) S V dL_law_34 rfl hL0 hL (n := 35) rfl ?_
    refine k_iconst S dL_law_35 (v := 4) (by decide) (n := 36) rfl ?_
    obtain ⟨n, h31, en⟩ := z_ushr (sc 0) 4 4 (by decide) (by decide)
    refine k_iushr S dL_law_36 en (n := 37) rfl ?_
    refine k_iconst S dL_law_37 (v := 5) (by decide) (n := 38) rfl ?_
    refine k_irem S dL_law_38 (by decide) (n := 39) rfl ?_
    refine k_top (nI (n % 5)) (pk_rem (d := 5) h31 (by decide) (by decide)) ?_
    refine k_iadd S dL_law_39 (n := 40) rfl ?_
    refine k_top (nI (n % 5 + 2)) (by rw [Nat.add_comm]; exact nI_add 2 (n % 5)) ?_
    exact hJ (n % 5) (Nat.mod_lt _ (by decide))
  · refine k_iconst S dL_law_28 (v := 3) (by decide) (n := 29) rfl ?_
    refine k_goto S dL_law_29 (tgt := 39) (by decide) ?_
    refine k_iadd S dL_law_39 (n := 40) rfl ?_
    refine k_top (nI (3 + 2)) (by decide) ?_
    exact hJ 3 (by decide)
set_option maxRecDepth 100000 in
set_option maxHeartbeats 4000000 in
/-- THE LAW, from its entry -/
theorem whole_start {p : Program} {e : Env} {s : State} {m : MethodId} {below : List Frame} {meth : Method} {c : Code} (l : Launch) (hflags : l.flags = flags0) {b L : Nat} {xs : Nat → Int32} (hL : L ≤ 260) (C0 : lw_At p s m meth c b L xs) : W p l e room_1 s m #[Value.ref b] below meth c s.heap [] 0 0 (lw_Z below #[Value.ref b] s) (entryFrame m ([Value.ref b] : List Value).toArray 5) := by
  obtain ⟨hx, hb, hr, hml, hown, hts0, hX, hbl, hlocks, hgv⟩ := id C0
  have hts : ∀ w ∈ zU, w.before #[Value.ref b] s = true := fun w hw => hts0 w (List.mem_filter.mp hw).1
  have hA : ∀ q : Nat, s.heap.size ≤ q → (fun q : Nat => s.heap.size ≤ q) q := fun _ h => h
  have hbA : ¬ (fun q : Nat => s.heap.size ≤ q) b := Nat.not_le.mpr hbl
  obtain ⟨d0, iS0, hKn0⟩ := u_known (C := RX0) (T := TX0) (N := 9) (n := 9) hts in_0 (hts _ m_23)
  obtain ⟨d1, iS1, hKn1⟩ := u_known (C := RX1) (T := TX1) (N := 16) (n := 16) hts in_1 (hts _ m_67)
  obtain ⟨d2, iS2, hKn2⟩ := u_known (C := RX2) (T := TX2) (N := 3) (n := 3) hts in_2 (hts _ m_122)
  obtain ⟨d3, iS3, hKn3⟩ := u_known (C := RX3) (T := TX3) (N := 16) (n := 16) hts in_3 (hts _ m_14)
  obtain ⟨D, hKc⟩ : ∃ D : va_G, ∀ (k : Nat) (q : vw_C), vwCl[k]? = some q → u_Kn s q.1 q.2.1 q.2.2 (D.1 k) (D.2 k) := by
    refine ⟨(fun k => if k = 0 then d0 else if k = 1 then d1 else if k = 2 then d2 else d3, fun k => if k = 0 then iS0 else if k = 1 then iS1 else if k = 2 then iS2 else iS3), ?_⟩
    intro k q hq
    match k, hq with
    | 0, hq => cases hq; exact hKn0
    | 1, hq => cases hq; exact hKn1
    | 2, hq => cases hq; exact hKn2
    | 3, hq => cases hq; exact hKn3
    | k + 4, hq => simp [vwCl] at hq
  obtain ⟨zt0, hSt⟩ := zSt_start hflags hts0 hgv D (fun _ => 0) (fun _ => D.1 0)
  have hAO : va_AO RX0 s := va_AO.of (hts0 _ zAO_t)
  have hS : va_S (fun q : Nat => s.heap.size ≤ q) s.heap s.heap [] := va_S.rf
  have hK : va_K D vwCl [] s := ⟨hKc, fun k q h => by simp at h⟩
  have hD : va_D (fun q : Nat => s.heap.size ≤ q) [] := ⟨fun i j p q h => by simp at h, fun k q h => by simp at h⟩
  have hl := lv_entry ([.ref b]) (n := 5) (Nat.le_of_ble_eq_true rfl)
  rw [lg_entry_eq]
  generalize (lg_sl ([.ref b]) ++ List.replicate (5 - (lg_sl ([.ref b])).length) Slot.unset).toArray = ls at hl ⊢
  have hl : lv_has ls 5 [(0, .ref b)] := hl
  refine va_calli (va_runS (As := []) (rest := []) ⟨hx, hb, hml, hown, hts⟩ (c_L_charts l D zt0 s.heap.size) (va_cwS 0 hts (mv_L_charts.good m_621) rfl rfl rfl mv_L_charts.2.2.2 ⟨Nat.le_of_ble_eq_true rfl, Nat.le_of_ble_eq_true rfl⟩) ⟨fun a U g mk q => by obtain ⟨q0, q1, qK, qS, qA⟩ := q; exact ⟨q0, q1, va_K.moved (u := U) (U := U.calling g mk a) (Vm.Alike.refl U.vm) qK, zSt.same qS rfl rfl, va_AO.moved (u := U) (U := U.calling g mk a) (Vm.Alike.refl U.vm) qA⟩, fun U hU hW => ⟨rfl, by rw [hU]; exact hS.1, va_K.moved hW.alike hK, zSt.go hSt hS hU hW, va_AO.moved hW.alike hAO⟩⟩ rfl rfl hl.1 rfl (lv_room (Nat.le_of_ble_eq_true rfl)) dL_law_0 ⟨Nat.le_of_ble_eq_true rfl, Nat.le_of_ble_eq_true rfl⟩) hS (fun q _ h => h) (fun q h => h) (fun r u t H1 locs ht hvm hr1 hB hz1 hk1 hS => ?_)
  subst hr1
  refine W.widen (k := 740) (n := 4779) (Nat.le_of_ble_eq_true rfl) (Nat.le_of_ble_eq_true rfl) ?_
  refine lv_if_eq (tgt := 12) hx hb dL_law_3 (by decide) (fun h9 => absurd h9 (by decide)) (fun _ => ?_)
  refine va_calli (va_runS (As := []) (rest := []) ⟨hx, hb, hml, hown, hts⟩ (c_L_rules l D zt0 s.heap.size) (va_cwS 0 hts (mv_L_rules.good m_637) rfl rfl rfl mv_L_rules.2.2.2 ⟨Nat.le_of_ble_eq_true rfl, Nat.le_of_ble_eq_true rfl⟩) ⟨fun a U g mk q => by obtain ⟨q0, q1, qK, qS, qA⟩ := q; exact ⟨q0, q1, va_K.moved (u := U) (U := U.calling g mk a) (Vm.Alike.refl U.vm) qK, zSt.same qS rfl rfl, va_AO.moved (u := U) (U := U.calling g mk a) (Vm.Alike.refl U.vm) qA⟩, fun U hU hW => ⟨rfl, by rw [hU]; exact hS.1, va_K.moved hW.alike hK, zSt.go hSt hS hU hW, va_AO.moved hW.alike hAO⟩⟩ rfl rfl hl.1 rfl (lv_room (Nat.le_of_ble_eq_true rfl)) dL_law_6 ⟨Nat.le_of_ble_eq_true rfl, Nat.le_of_ble_eq_true rfl⟩) hS (fun q _ h => h) (fun q h => h) (fun r u t H2 locs ht hvm hr1 hB hz1 hk1 hS => ?_)
  subst hr1
  refine W.widen (k := 1371) (n := 8904) (Nat.le_of_ble_eq_true rfl) (Nat.le_of_ble_eq_true rfl) ?_
  refine lv_if_ne (tgt := 14) hx hb dL_law_9 (by decide) (fun _ => ?_) (fun h9 => absurd h9 (by decide))
  have hP : va_P D vwCl [] H2 := fun k q h => by simp at h
  refine va_new (ci := 3) (fs := [.int 0, .int 0, .int 0, .int 0, .int 0, .int 0, .int 0, .null, .null, .null, .null, .null, .int 0, .null, .null, .null]) (C := RX3) (T := TX3) (N := 16) hx hb hts in_3 tyX3 tyX3_ok hown (hts _ m_13) (hts _ m_14) (hts _ m_1) hK hP hD hS hA rfl zdf3 (Nat.le_of_ble_eq_true rfl) (Nat.le_of_ble_eq_true rfl) dL_law_14 (fun q1 H hP hD hS => ?_)
  have hP : va_P D vwCl [(q1, .inr (3, [.int 0, .int 0, .int 0, .int 0, .int 0, .int 0, .int 0, .null, .null, .null, .null, .null, .int 0, .null, .null, .null]))] H := hP
  have hD : va_D (fun q : Nat => s.heap.size ≤ q) [(q1, .inr (3, [.int 0, .int 0, .int 0, .int 0, .int 0, .int 0, .int 0, .null, .null, .null, .null, .null, .int 0, .null, .null, .null]))] := hD
  refine W.widen (k := 1372) (n := 8920) (Nat.le_of_ble_eq_true rfl) (Nat.le_of_ble_eq_true rfl) ?_
  refine lv_dup hx hb dL_law_17 rfl ?_
  refine va_callv (va_runI (As := []) (rest := [.ref q1]) ⟨hx, hb, hml, hown, hts⟩ (c_X3_init l D zt0 (fun _ => 0) (fun _ => D.1 0) s.heap.size q1) (cwI 0 hts (zgood m_17) rfl rfl rfl (hts _ m_1) (hts _ m_15) (hts _ m_16) rfl (by decide +kernel) ⟨Nat.le_of_ble_eq_true rfl, Nat.le_of_ble_eq_true rfl⟩) ⟨fun a U g mk q => by obtain ⟨q0, q1, qP, qK, qD, qS, qA⟩ := q; exact ⟨q0, q1, qP, va_K.moved (u := U) (U := U.calling g mk a) (Vm.Alike.refl U.vm) qK, qD, zSt.same qS rfl rfl, va_AO.moved (u := U) (U := U.calling g mk a) (Vm.Alike.refl U.vm) qA⟩, fun U hU hW => ⟨rfl, by rw [hU]; exact hS.1, by rw [hU]; exact hP, va_K.moved hW.alike hK, hD, zSt.go hSt hS hU hW, va_AO.moved hW.alike hAO⟩⟩ rfl rfl hl.1 rfl (lv_room (Nat.le_of_ble_eq_true rfl)) dL_law_18 ⟨Nat.le_of_ble_eq_true rfl, Nat.le_of_ble_eq_true rfl⟩) hS (fun q _ h => h) (fun q h => h) (fun u t H1 locs ht hvm hw hB hz1 hk1 hS => ?_)
  obtain ⟨ad, cs⟩ := u
  dsimp only at hw
  subst hw
  obtain ⟨hP, hK1, hO⟩ := hB
  rw [ht] at hP
  have hK := va_K.moved hvm.symm hK1
  generalize H1 = H at hP hS ⊢
  dsimp only at hP hK hO
  refine W.widen (k := 1392) (n := 9369) (Nat.le_of_ble_eq_true rfl) (Nat.le_of_ble_eq_true rfl) ?_
  refine lv_astore_n (lv' := [(1, .ref (ad 0)), (0, .ref b)]) hx hb dL_law_21 rfl hl (by decide) rfl (fun ls hl => ?_)
  have hSt3 : zSt l (zgm D 21 ad cs zt0 s.heap.size) s s.heap := hSt
  have hV : zScr9 (p, l, e, s, m, #[Value.ref b], below, meth, c, lw_Z below #[Value.ref b] s) (zgm D 21 ad cs zt0 s.heap.size) b L xs := ⟨hX, hbl, hbA⟩
  have S : zS (p, l, e, s, m, #[Value.ref b], below, meth, c, lw_Z below #[Value.ref b] s) (zgm D 21 ad cs zt0 s.heap.size) 5 cL_law RL := ⟨hx, hb, hml, hown, hts, hK, hO, hSt3, hlocks⟩
  have hend : ∀ (ce sl : Nat) (L9 : List (Option Value)) (μ : zM), ce ≤ 634230 → sl ≤ 7198934 → zK (p, l, e, s, m, #[Value.ref b], below, meth, c, lw_Z below #[Value.ref b] s) (zgm D 21 ad cs zt0 s.heap.size) room_1 5 ce sl 147 L9 [.int 1] μ := fun ce sl L9 μ h1 h2 H locs ls hP hS hl => va_forget (fun q hq => hS.2.2 q hq) (W.widen h1 h2 (lw_ret hx hb hr hlocks dL_law_147))
  exact law_mid S rfl hV hL hend (m_X3_restart z0M 5) H locs ls hP hS (lv_sub hl [1, 0] rfl)
