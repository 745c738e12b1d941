set_option maxRecDepth 100000 in
set_option maxHeartbeats 4000000 in
/-- THE LAW, from its entry -/
theorem whole_start {p : Program} {e : Env} {s : State} {m : MethodId} {below : List Frame} {meth : Method} {c : Code} (l : Launch) (hflags : l.flags = flags0) {b L : Nat} {xs : Nat → Int32} (hL : L ≤ 2560) (C0 : lw_At p s m meth c b L xs) : W p l e room_1 s m #[Value.ref b] below meth c s.heap [] 0 0 (lw_Z below #[Value.ref b] s) (entryFrame m ([Value.ref b] : List Value).toArray 8) := by
  obtain ⟨hx, hb, hr, hml, hown, hts0, hX, hbl, hlocks, hgv⟩ := id C0
  have hts : ∀ w ∈ zU, w.before #[Value.ref b] s = true := fun w hw => hts0 w (List.mem_filter.mp hw).1
  have hA : ∀ q : Nat, s.heap.size ≤ q → (fun q : Nat => s.heap.size ≤ q) q := fun _ h => h
  have hbA : ¬ (fun q : Nat => s.heap.size ≤ q) b := Nat.not_le.mpr hbl
  obtain ⟨d0, iS0, hKn0⟩ := u_known (C := RX0) (T := TX0) (N := 9) (n := 9) hts in_0 (hts _ m_24)
  obtain ⟨d1, iS1, hKn1⟩ := u_known (C := RX1) (T := TX1) (N := 16) (n := 16) hts in_1 (hts _ m_68)
  obtain ⟨d2, iS2, hKn2⟩ := u_known (C := RX2) (T := TX2) (N := 3) (n := 3) hts in_2 (hts _ m_123)
  obtain ⟨d3, iS3, hKn3⟩ := u_known (C := RX3) (T := TX3) (N := 16) (n := 16) hts in_3 (hts _ m_15)
  obtain ⟨d4, iS4, hKn4⟩ := u_known (C := RX4) (T := TX4) (N := 24) (n := 24) hts in_4 (hts _ m_667)
  obtain ⟨D, hKc⟩ : ∃ D : va_G, ∀ (k : Nat) (q : vw_C), vwCl[k]? = some q → u_Kn s q.1 q.2.1 q.2.2 (D.1 k) (D.2 k) := by
    refine ⟨(fun k => if k = 0 then d0 else if k = 1 then d1 else if k = 2 then d2 else if k = 3 then d3 else d4, fun k => if k = 0 then iS0 else if k = 1 then iS1 else if k = 2 then iS2 else if k = 3 then iS3 else iS4), ?_⟩
    intro k q hq
    match k, hq with
    | 0, hq => cases hq; exact hKn0
    | 1, hq => cases hq; exact hKn1
    | 2, hq => cases hq; exact hKn2
    | 3, hq => cases hq; exact hKn3
    | 4, hq => cases hq; exact hKn4
    | k + 5, hq => simp [vwCl] at hq
  obtain ⟨zt0, hSt⟩ := zSt_start hflags hts0 hgv D (fun _ => 0) (fun _ => D.1 0)
  have hAO : va_AO RX0 s := va_AO.of (hts0 _ zAO_t)
  have hS : va_S (fun q : Nat => s.heap.size ≤ q) s.heap s.heap [] := va_S.rf
  have hK : va_K D vwCl [] s := ⟨hKc, fun k q h => by simp at h⟩
  have hP : va_P D vwCl [] s.heap := fun k q h => by simp at h
  have hD : va_D (fun q : Nat => s.heap.size ≤ q) [] := ⟨fun i j p q h => by simp at h, fun k q h => by simp at h⟩
  have hl := lv_entry ([.ref b]) (n := 8) (Nat.le_of_ble_eq_true rfl)
  rw [lg_entry_eq]
  generalize (lg_sl ([.ref b]) ++ List.replicate (8 - (lg_sl ([.ref b])).length) Slot.unset).toArray = ls at hl ⊢
  have hl : lv_has ls 8 [(0, .ref b)] := hl
  refine va_new (ci := 3) (fs := [.int 0, .int 0, .int 0, .int 0, .int 0, .int 0, .int 0, .null, .null, .null, .null, .null, .int 0, .null, .null, .null]) (C := RX3) (T := TX3) (N := 16) hx hb hts in_3 tyX3 tyX3_ok hown (hts _ m_14) (hts _ m_15) (hts _ m_1) hK hP hD hS hA rfl zdf3 (Nat.le_of_ble_eq_true rfl) (Nat.le_of_ble_eq_true rfl) dL_law_0 (fun q1 H hP hD hS => ?_)
  have hP : va_P D vwCl [(q1, .inr (3, [.int 0, .int 0, .int 0, .int 0, .int 0, .int 0, .int 0, .null, .null, .null, .null, .null, .int 0, .null, .null, .null]))] H := hP
  have hD : va_D (fun q : Nat => s.heap.size ≤ q) [(q1, .inr (3, [.int 0, .int 0, .int 0, .int 0, .int 0, .int 0, .int 0, .null, .null, .null, .null, .null, .int 0, .null, .null, .null]))] := hD
  refine W.widen (k := 1) (n := 16) (Nat.le_of_ble_eq_true rfl) (Nat.le_of_ble_eq_true rfl) ?_
  refine lv_dup hx hb dL_law_3 rfl ?_
  refine va_callv (va_runI (As := []) (rest := [.ref q1]) ⟨hx, hb, hml, hown, hts⟩ (c_X3_init l D zt0 (fun _ => 0) (fun _ => D.1 0) s.heap.size q1) (cwI 0 hts (zgood m_18) rfl rfl rfl (hts _ m_1) (hts _ m_16) (hts _ m_17) rfl (by decide +kernel) ⟨Nat.le_of_ble_eq_true rfl, Nat.le_of_ble_eq_true rfl⟩) ⟨fun a U g mk q => by obtain ⟨q0, q1, qP, qK, qD, qS, qA⟩ := q; exact ⟨q0, q1, qP, va_K.moved (u := U) (U := U.calling g mk a) (Vm.Alike.refl U.vm) qK, qD, zSt.same qS rfl rfl, va_AO.moved (u := U) (U := U.calling g mk a) (Vm.Alike.refl U.vm) qA⟩, fun U hU hW => ⟨rfl, by rw [hU]; exact hS.1, by rw [hU]; exact hP, va_K.moved hW.alike hK, hD, zSt.go hSt hS hU hW, va_AO.moved hW.alike hAO⟩⟩ rfl rfl hl.1 rfl (lv_room (Nat.le_of_ble_eq_true rfl)) dL_law_4 ⟨Nat.le_of_ble_eq_true rfl, Nat.le_of_ble_eq_true rfl⟩) hS (fun q _ h => h) (fun q h => h) (fun u t H1 locs ht hvm hw hB hz1 hk1 hS => ?_)
  obtain ⟨ad, cs⟩ := u
  dsimp only at hw
  subst hw
  obtain ⟨hP, hK1, hO⟩ := hB
  rw [ht] at hP
  have hK := va_K.moved hvm.symm hK1
  generalize H1 = H at hP hS ⊢
  obtain ⟨μ1, hμ1⟩ : ∃ μ : zM, μ = m_X3_restart z0M 5 := ⟨_, rfl⟩
  dsimp only at hP hK hO
  rw [← hμ1] at hP
  have hD : va_D (fun q : Nat => s.heap.size ≤ q) (zW (zgm D 21 ad cs zt0 s.heap.size) μ1) := hO.D μ1
  refine W.widen (k := 21) (n := 465) (Nat.le_of_ble_eq_true rfl) (Nat.le_of_ble_eq_true rfl) ?_
  refine lv_astore_n (lv' := [(1, .ref (ad 0)), (0, .ref b)]) hx hb dL_law_7 rfl hl (by decide) rfl (fun ls hl => ?_)
  refine va_new (ci := 4) (fs := [.int 0, .int 0, .int 0, .int 0, .int 0, .int 0, .null, .null, .null, .int 0, .null, .null, .null, .null, .int 0, .int 0, .int 0, .int 0, .int 0, .int 0, .int 0, .null, .null, .int 0]) (C := RX4) (T := TX4) (N := 24) hx hb hts in_4 tyX4 tyX4_ok hown (hts _ m_666) (hts _ m_667) (hts _ m_5) hK hP hD hS hA rfl zdf4 (Nat.le_of_ble_eq_true rfl) (Nat.le_of_ble_eq_true rfl) dL_law_8 (fun q2 H hP hD hS => ?_)
  have hP : va_P D vwCl ((zW (zgm D 21 ad cs zt0 s.heap.size) μ1) ++ [(q2, .inr (4, [.int 0, .int 0, .int 0, .int 0, .int 0, .int 0, .null, .null, .null, .int 0, .null, .null, .null, .null, .int 0, .int 0, .int 0, .int 0, .int 0, .int 0, .int 0, .null, .null, .int 0]))]) H := hP
  have hD : va_D (fun q : Nat => s.heap.size ≤ q) ((zW (zgm D 21 ad cs zt0 s.heap.size) μ1) ++ [(q2, .inr (4, [.int 0, .int 0, .int 0, .int 0, .int 0, .int 0, .null, .null, .null, .int 0, .null, .null, .null, .null, .int 0, .int 0, .int 0, .int 0, .int 0, .int 0, .int 0, .null, .null, .int 0]))]) := hD
  refine W.widen (k := 22) (n := 489) (Nat.le_of_ble_eq_true rfl) (Nat.le_of_ble_eq_true rfl) ?_
  refine lv_dup hx hb dL_law_11 rfl ?_
  have hPc : va_P D vwCl [(q2, .inr (4, [.int 0, .int 0, .int 0, .int 0, .int 0, .int 0, .null, .null, .null, .int 0, .null, .null, .null, .null, .int 0, .int 0, .int 0, .int 0, .int 0, .int 0, .int 0, .null, .null, .int 0]))] H := hP.sub [21] rfl
  have hDc := hD.sub (ws' := [(q2, .inr (4, [.int 0, .int 0, .int 0, .int 0, .int 0, .int 0, .null, .null, .null, .int 0, .null, .null, .null, .null, .int 0, .int 0, .int 0, .int 0, .int 0, .int 0, .int 0, .null, .null, .int 0]))]) [21] (by decide) rfl
  have hKc := hK.sub (tys' := []) [] rfl
  have hFc := va_free (wc := [(q2, .inr (4, [.int 0, .int 0, .int 0, .int 0, .int 0, .int 0, .null, .null, .null, .int 0, .null, .null, .null, .null, .int 0, .int 0, .int 0, .int 0, .int 0, .int 0, .int 0, .null, .null, .int 0]))]) hD hS hA [21] rfl
  refine va_callv (va_runI (As := []) (rest := [.ref q2]) ⟨hx, hb, hml, hown, hts⟩ (c_X4_init l D q2 H.size) (cwI 0 hts (zgood m_670) rfl rfl rfl (hts _ m_5) (hts _ m_668) (hts _ m_669) rfl (by decide +kernel) ⟨Nat.le_of_ble_eq_true rfl, Nat.le_of_ble_eq_true rfl⟩) ⟨fun a U g mk q => by obtain ⟨q0, q1, qP, qK, qD⟩ := q; exact ⟨q0, q1, qP, va_K.moved (u := U) (U := U.calling g mk a) (Vm.Alike.refl U.vm) qK, qD⟩, fun U hU hW => ⟨rfl, by rw [hU], by rw [hU]; exact hPc, va_K.moved hW.alike hKc, hDc.weaken (fun _ _ _ _ => trivial)⟩⟩ rfl rfl hl.1 rfl (lv_room (Nat.le_of_ble_eq_true rfl)) dL_law_12 ⟨Nat.le_of_ble_eq_true rfl, Nat.le_of_ble_eq_true rfl⟩) hS (fun q _ h => hFc q h) hFc (fun u t H1 locs ht hvm hw hB hz1 hk1 hS => ?_)
  obtain ⟨hP1, hK1, hD1⟩ := hB
  rw [ht] at hP1
  have hK1 := va_K.moved hvm.symm hK1
  obtain ⟨hP, hD⟩ := va_join (wr := (zW (zgm D 21 ad cs zt0 s.heap.size) μ1)) (w1 := zR4 q2 u) hP hD [21] [0, 1, 2, 3, 4, 5, 6, 7, 8, 9, 10, 11, 12, 13, 14, 15, 16, 17, 18, 19, 20] rfl rfl (by decide) (by decide) hk1 hFc hP1 hD1
  have hK := hK.app hK1
  generalize H1 = H at hP hS ⊢
  refine W.widen (k := 31) (n := 829) (Nat.le_of_ble_eq_true rfl) (Nat.le_of_ble_eq_true rfl) ?_
  refine lv_astore_n (lv' := [(2, .ref q2), (1, .ref (ad 0)), (0, .ref b)]) hx hb dL_law_15 rfl hl (by decide) rfl (fun ls hl => ?_)
  refine lv_iconst (v := 1) hx hb dL_law_16 (by decide) ?_
  refine va_newa (atype := .long) (ty := .long) (a0 := (1, .inr (.inl (fun _ => 0)))) (N' := 1) hx hb (hts _ m_926) rfl hK hP hD hS hA (fun _ => rfl) (by decide) (by decide) (by decide) (Nat.le_of_ble_eq_true rfl) (Nat.le_of_ble_eq_true rfl) dL_law_17 (fun q3 c3 H hK hP hD hS => ?_)
  have hP : va_P D vwCl (((zW (zgm D 21 ad cs zt0 s.heap.size) μ1) ++ zR4 q2 u) ++ [(q3, .inl (c3, 1, .inr (.inl (fun _ => 0))))]) H := hP
  have hD : va_D (fun q : Nat => s.heap.size ≤ q) (((zW (zgm D 21 ad cs zt0 s.heap.size) μ1) ++ zR4 q2 u) ++ [(q3, .inl (c3, 1, .inr (.inl (fun _ => 0))))]) := hD
  have hK : va_K D vwCl (((zTy (zgm D 21 ad cs zt0 s.heap.size)) ++ zR4t u) ++ [(c3, .long)]) s := hK
  refine W.widen (k := 32) (n := 830) (Nat.le_of_ble_eq_true rfl) (Nat.le_of_ble_eq_true rfl) ?_
  refine lv_astore_n (lv' := [(3, .ref q3), (2, .ref q2), (1, .ref (ad 0)), (0, .ref b)]) hx hb dL_law_19 rfl hl (by decide) rfl (fun ls hl => ?_)
  refine lv_iconst (v := 0) hx hb dL_law_20 (by decide) ?_
  refine lv_istore (lv' := [(4, .int 0), (3, .ref q3), (2, .ref q2), (1, .ref (ad 0)), (0, .ref b)]) hx hb dL_law_21 hl (by decide) rfl (fun ls hl => ?_)
  have hPq := va_q_re hP 6 (f' := fun j => some (zad2 ad q2 u q3 (11 + j))) (zW_at6 D ad cs zt0 s.heap.size μ1 q2 q3 u c3) (fun j hj => by
    show some (ad (11 + j)) = some _
    unfold zad2
    rw [if_pos (by omega)])
  have hDq := va_D_re hD 6 (e' := .inl (cs 6, 10, .inr (.inr (.inr (.inr (fun j => some (zad2 ad q2 u q3 (11 + j)))))))) (zW_at6 D ad cs zt0 s.heap.size μ1 q2 q3 u c3)
  rw [zW_32] at hPq hDq
  obtain ⟨g, hg⟩ : ∃ g : zG, g = (zgm D 32 (zad2 ad q2 u q3) (zcs2 cs u c3) zt0 s.heap.size) := ⟨_, rfl⟩
  have hK3 : va_K D vwCl (zTy (zgm D 32 (zad2 ad q2 u q3) (zcs2 cs u c3) zt0 s.heap.size)) s := hK.sub [0, 1, 2, 3, 4, 5, 6, 7, 8, 9, 10, 11, 12, 13, 14, 15, 16, 17, 18, 19, 20, 21, 21, 22, 23, 24, 25, 26, 27, 28, 29, 30] rfl
  have hSt3 : zSt l (zgm D 32 (zad2 ad q2 u q3) (zcs2 cs u c3) zt0 s.heap.size) s s.heap := hSt
  have hV : zScr9 (p, l, e, s, m, #[Value.ref b], below, meth, c, lw_Z below #[Value.ref b] s) (zgm D 32 (zad2 ad q2 u q3) (zcs2 cs u c3) zt0 s.heap.size) b L xs := ⟨hX, hbl, hbA⟩
  have hO3 : zOK (zgm D 32 (zad2 ad q2 u q3) (zcs2 cs u c3) zt0 s.heap.size) := zOK_of (g := (zgm D 32 (zad2 ad q2 u q3) (zcs2 cs u c3) zt0 s.heap.size)) hDq (by show 21 ≤ 32; decide)
  have S : zS (p, l, e, s, m, #[Value.ref b], below, meth, c, lw_Z below #[Value.ref b] s) (zgm D 32 (zad2 ad q2 u q3) (zcs2 cs u c3) zt0 s.heap.size) 8 cL_law RL := ⟨hx, hb, hml, hown, hts, hK3, hO3, hSt3, hlocks⟩
  have hend : ∀ (ce sl : Nat) (L9 : List (Option Value)) (μ : zM), ce ≤ 618947 → sl ≤ 7239262 → zK (p, l, e, s, m, #[Value.ref b], below, meth, c, lw_Z below #[Value.ref b] s) (zgm D 32 (zad2 ad q2 u q3) (zcs2 cs u c3) zt0 s.heap.size) room_1 8 ce sl 1415 L9 [.int 1] μ := fun ce sl L9 μ h1 h2 H locs ls hP hS hl => va_forget (fun q hq => hS.2.2 q hq) (W.widen h1 h2 (lw_ret hx hb hr hlocks dL_law_1415))
  have J : zJx (zm2 μ1) := by rw [hμ1]; exact zJ_start
  exact law_loop S rfl hV hL hend L 0 0 (zm2 μ1) (by omega) rfl (Nat.zero_le L) J H locs ls hPq hS (lv_sub hl [4, 3, 2, 1, 0] rfl)
