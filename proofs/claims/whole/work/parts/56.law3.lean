/-! HELD AGAINST EACH OTHER: the calls that change something -/
set_option maxHeartbeats 200000 in
theorem pr_begin {l : Launch} {g : zG} (hn : zn g = 32) {μ ν9 : zM} {v9 : Option Value} {v : Int32} {s d c n w : Nat} {ph fs : Nat → Nat} (J : zJ μ s d c n w ph fs) (h9 : (fun (r : Option Value) (ν : zM) => (∃ μ1, (zRc (2 ≤ v ∧ v ≤ 6) none (m_X3_restart μ v)) none μ1 ∧ r = some (.int 0) ∧ ν = μ1) ∨ ((zXc (¬ (2 ≤ v ∧ v ≤ 6)) "java/lang/IllegalArgumentException" μ) "java/lang/IllegalArgumentException" ν ∧ r = some (.int 1))) v9 ν9) : ∃ k : Int32, v9 = some (.int k) ∧ zNx l g yX4_begin cX4_begin 3 none [.ref (za g 21), .int v] ν9 zOv k := by
  rcases h9 with ⟨μ1, ⟨⟨h1, h2⟩, -, rfl⟩, rfl, rfl⟩ | ⟨⟨h, -, rfl⟩, rfl⟩
  · have t2 : (2 : Int32).toInt = 2 := rfl
    have t6 : (6 : Int32).toInt = 6 := rfl
    have h1' := h1
    have h2' := h2
    rw [Int32.le_iff_toInt_le] at h1' h2'
    rw [t2] at h1'
    rw [t6] at h2'
    obtain ⟨s', hs', rfl⟩ : ∃ s' : Nat, s' < 5 ∧ v = nI (s' + 2) := ⟨v.toInt.toNat - 2, by omega, Int32.toInt_inj.mp (by rw [nI_toInt (by omega)]; omega)⟩
    refine ⟨0, rfl, zNx.of (c_X4_begin_ok hn h1 h2) (fun r ν q => ?_) (by decide) (by decide)⟩
    obtain ⟨q1, q2⟩ := q
    subst q1; subst q2
    refine ⟨rfl, ?_, (J.begin hs').x⟩
    rw [zbM_off _ _ (by decide) (by decide) 10]
    simp [zbM, zu]
  · exact ⟨1, rfl, zNx.of (c_X4_begin_no hn h) (fun r ν q => ⟨q.1, by rw [q.2]; simp [zu], by rw [q.2]; exact (J.see (zSee.thr _ _)).x⟩) (by decide) (by decide)⟩
set_option maxHeartbeats 200000 in
theorem pr_newPhase {l : Launch} {g : zG} (hn : zn g = 32) {μ ν9 : zM} {v9 : Option Value} {s d c n w : Nat} {ph fs : Nat → Nat} (J : zJ μ s d c n w ph fs) (h9 : (fun (r : Option Value) (ν : zM) => (∃ (a9 : Int32) (μ1 : zM), (zRc (zNP μ c d) (some (.int (nI c))) (m_X3_newPhase μ c d)) (some (.int a9)) μ1 ∧ r = some (.int 0) ∧ ν = zuo μ1 (Int32.toInt64 a9)) ∨ ((zXc (¬ zNP μ c d) "java/lang/IllegalStateException" μ) "java/lang/IllegalStateException" ν ∧ r = some (.int 1))) v9 ν9) : ∃ k : Int32, v9 = some (.int k) ∧ zNx l g yX4_newPhase cX4_newPhase 1 (some .int) [.ref (za g 21)] ν9 zOi k := by
  rcases h9 with ⟨a1, μ1, ⟨⟨h1, h2, h3⟩, e, rfl⟩, rfl, rfl⟩ | ⟨⟨h, -, rfl⟩, rfl⟩
  · have e3 := Value.int.inj (Option.some.inj e)
    subst e3
    obtain ⟨b1, b2, b3, -⟩ := J.2.2.1
    have c1 := J.c1
    have d60 := J.d60
    obtain ⟨f1, f2⟩ := J.2.2.2.1 (c - 1) (by omega)
    have hn0 : n = 0 := by
      rw [b1] at h2
      refine Nat.eq_zero_of_not_pos fun z => h2 ?_
      have hs5 := J.s5
      exact (nI_ltI (a := 0) (by decide) (by omega)).mpr z
    subst hn0
    have hlt : fs (c - 1) < d := by
      rw [f1] at h3
      exact (nI_ltI (by omega) (by omega)).mp h3
    have Q := J.1
    have e21 : (zuo (m_X3_newPhase μ c d) (Int32.toInt64 (nI c))).1 21 = μ.1 21 := by
      show (m_X3_newPhase μ c d).1 21 = μ.1 21
      unfold m_X3_newPhase
      rw [zu_off _ _ _ _ (by decide), zset_off _ _ (by omega)]
    have e25 : (zuo (m_X3_newPhase μ c d) (Int32.toInt64 (nI c))).1 25 = μ.1 25 := by
      show (m_X3_newPhase μ c d).1 25 = μ.1 25
      unfold m_X3_newPhase
      rw [zu_off _ _ _ _ (by decide), zset_off _ _ (by omega)]
    refine ⟨0, rfl, zNx.of (c_X4_newPhase_ok (d := d) (f := fs (c - 1)) hn (by rw [e21]; exact Q.1.1) c1 J.c10 (by rw [e25]; exact (Q.1.2.2.1 (c - 1) (by omega)).1) (by rw [e21]; exact Q.2.1) (by omega) d60 (by omega) (by rw [e21, b2]; decide) h1) (fun r ν q => ?_) (by decide) (by decide)⟩
    obtain ⟨q1, q2⟩ := q
    subst q1; subst q2
    refine ⟨nI c, rfl, by unfold m_X4_newPhase; simp [zu], fun _ => ?_, ?_⟩
    · show (zuo (m_X3_newPhase μ c d) (Int32.toInt64 (nI c))).2 0 = _
      rw [zuo_0]
    · unfold m_X4_newPhase
      refine (J.newPhase h1 hlt).x.see ?_
      exact ((((zSee.out _ _).trans (zSee.thr _ _)).u 25 c (nI d)).u 26 c 0).u 21 9 (nI c + 1)
  · obtain ⟨b1, b2, b3, -⟩ := J.2.2.1
    have c1 := J.c1
    have d60 := J.d60
    have Q := J.1
    have hs5 := J.s5
    obtain ⟨f1, f2⟩ := J.2.2.2.1 (c - 1) (by omega)
    have fin : ∀ (a : Int32), zOi 1 (zRv (some (.int a)) (zu ν9 21 23 1)) := fun a r ν q => ⟨a, q.1, by rw [q.2]; simp [zu], fun z => absurd z (by decide), by rw [q.2]; exact (J.see (zSee.thr _ _)).x⟩
    have k1 := Q.1.1
    have k2 := (Q.1.2.2.1 (c - 1) (by omega)).1
    have k3 := Q.2.1
    by_cases h2 : fs (c - 1) = d
    · exact ⟨1, rfl, zNx.of (c_X4_newPhase_a hn k1 c1 J.c10 k2 k3 (by omega) d60 h2) (fin 0) (by decide) (by decide)⟩
    · by_cases h3 : 0 < ν9.1 21 2
      · exact ⟨1, rfl, zNx.of (c_X4_newPhase_b hn k1 c1 J.c10 k2 k3 (by omega) d60 h2 h3) (fin 0) (by decide) (by decide)⟩
      · have h4 : c = 10 := by
          have := J.c10
          refine Nat.le_antisymm this (Nat.not_lt.mp fun z => h ⟨z, by rw [b1, ← b2]; exact h3, ?_⟩)
          rw [f1]
          exact nI_lt (by omega) (by omega)
        exact ⟨1, rfl, zNx.of (c_X4_newPhase_c hn k1 c1 J.c10 k2 k3 (by omega) d60 h2 h3 h4) (fin 0) (by decide) (by decide)⟩
set_option maxHeartbeats 200000 in
theorem pr_freeze {l : Launch} {g : zG} (hn : zn g = 32) {μ ν9 : zM} {v9 : Option Value} {v : Int32} {s d c n w : Nat} {ph fs : Nat → Nat} (J : zJ μ s d c n w ph fs) (h9 : (fun (r : Option Value) (ν : zM) => (∃ μ1, (fun (r : Option Value) (ν : zM) => ∃ k, k < c ∧ v = nI k ∧ μ.1 (11 + k) 4 = 0 ∧ 2 ≤ μ.1 (11 + k) 1 ∧ r = none ∧ ν = zu μ (11 + k) 4 1) none μ1 ∧ r = some (.int 0) ∧ ν = μ1) ∨ ((fun (E : String) (ν : zM) => ((¬ zIn v c ∧ E = "java/lang/IndexOutOfBoundsException") ∨ (∃ k, k < c ∧ v = nI k ∧ ¬ (μ.1 (11 + k) 4 = 0 ∧ 2 ≤ μ.1 (11 + k) 1) ∧ E = "java/lang/IllegalStateException")) ∧ ν = μ) "java/lang/IndexOutOfBoundsException" ν ∧ r = some (.int 1)) ∨ ((fun (E : String) (ν : zM) => ((¬ zIn v c ∧ E = "java/lang/IndexOutOfBoundsException") ∨ (∃ k, k < c ∧ v = nI k ∧ ¬ (μ.1 (11 + k) 4 = 0 ∧ 2 ≤ μ.1 (11 + k) 1) ∧ E = "java/lang/IllegalStateException")) ∧ ν = μ) "java/lang/IllegalStateException" ν ∧ r = some (.int 2))) v9 ν9) : ∃ k : Int32, v9 = some (.int k) ∧ zNx l g yX4_freeze cX4_freeze 2 none [.ref (za g 21), .int v] ν9 zOv k := by
  rcases h9 with ⟨μ1, ⟨k, hk, rfl, hz, hm, -, rfl⟩, rfl, rfl⟩ | ⟨⟨h, rfl⟩, rfl⟩ | ⟨⟨h, rfl⟩, rfl⟩
  · have c10 := J.c10
    obtain ⟨p1, -, -, p4, -⟩ := J.2.2.2.2.2.2 k hk
    have hle := zpc_le ph (μ.1 24) k d
    have d60 := J.d60
    have hm2 : 2 ≤ zpc ph (μ.1 24) k d := by
      rw [p1] at hm
      exact (nI_leI (a := 2) (by decide) (by omega)).mp hm
    have o : ∀ a, a ≠ 11 + k → (zu μ (11 + k) 4 1).1 a = μ.1 a := fun a q => zu_off _ _ _ _ q
    have Q2 : zQ (zu μ (11 + k) 4 1) d c s ph fs := J.1.of (o 21 (by omega)) (o 25 (by omega))
    refine ⟨0, rfl, zNx.of (c_X4_freeze_ok hn Q2 hk (by rw [o 26 (by omega), ← p4]; exact hz) (by rw [o 24 (by omega)]; exact hm2)) (fun r ν q => ?_) (by decide) (by decide)⟩
    exact ⟨q.1, (zaft q.2).1, (J.freeze hk hm2).x.near q.2⟩
  · rcases h with ⟨h, -⟩ | ⟨k, hk, rfl, hl, e⟩
    · exact ⟨1, rfl, zNx.of (c_X4_freeze_no hn J.1 h) (zOv.n J.x) (by decide) (by decide)⟩
    · exact zbad e (by decide)
  · rcases h with ⟨h, e⟩ | ⟨k, hk, rfl, hl, -⟩
    · exact zbad e (by decide)
    · obtain ⟨p1, -, -, p4, -⟩ := J.2.2.2.2.2.2 k hk
      have hle := zpc_le ph (ν9.1 24) k d
      have d60 := J.d60
      by_cases hz : ν9.1 26 k = 0
      · refine ⟨2, rfl, zNx.of (c_X4_freeze_b hn J.1 hk hz (Nat.not_le.mp fun q => hl ⟨p4.trans hz, ?_⟩)) (zOv.n J.x) (by decide) (by decide)⟩
        rw [p1]
        exact (nI_leI (a := 2) (by decide) (by omega)).mpr q
      · exact ⟨2, rfl, zNx.of (c_X4_freeze_a hn J.1 hk hz) (zOv.n J.x) (by decide) (by decide)⟩
set_option maxHeartbeats 200000 in
theorem pr_thaw {l : Launch} {g : zG} (hn : zn g = 32) {μ ν9 : zM} {v9 : Option Value} {v : Int32} {s d c n w : Nat} {ph fs : Nat → Nat} (J : zJ μ s d c n w ph fs) (h9 : (fun (r : Option Value) (ν : zM) => (∃ μ1, (fun (r : Option Value) (ν : zM) => ∃ k, k < c ∧ v = nI k ∧ ¬ μ.1 (11 + k) 4 = 0 ∧ r = none ∧ ν = m_X0_settle (zu μ (11 + k) 4 0) k s) none μ1 ∧ r = some (.int 0) ∧ ν = μ1) ∨ ((fun (E : String) (ν : zM) => ((¬ zIn v c ∧ E = "java/lang/IndexOutOfBoundsException") ∨ (∃ k, k < c ∧ v = nI k ∧ μ.1 (11 + k) 4 = 0 ∧ E = "java/lang/IllegalStateException")) ∧ ν = μ) "java/lang/IndexOutOfBoundsException" ν ∧ r = some (.int 1)) ∨ ((fun (E : String) (ν : zM) => ((¬ zIn v c ∧ E = "java/lang/IndexOutOfBoundsException") ∨ (∃ k, k < c ∧ v = nI k ∧ μ.1 (11 + k) 4 = 0 ∧ E = "java/lang/IllegalStateException")) ∧ ν = μ) "java/lang/IllegalStateException" ν ∧ r = some (.int 2))) v9 ν9) : ∃ k : Int32, v9 = some (.int k) ∧ zNx l g yX4_thaw cX4_thaw 2 none [.ref (za g 21), .int v] ν9 zOv k := by
  rcases h9 with ⟨μ1, ⟨k, hk, rfl, hz, -, rfl⟩, rfl, rfl⟩ | ⟨⟨h, rfl⟩, rfl⟩ | ⟨⟨h, rfl⟩, rfl⟩
  · have c10 := J.c10
    obtain ⟨p1, -, -, p4, -⟩ := J.2.2.2.2.2.2 k hk
    have o : ∀ a, a ≠ 11 + k → (m_X0_settle (zu μ (11 + k) 4 0) k s).1 a = μ.1 a := fun a q => by rw [settle_off _ q, zu_off _ _ _ _ q]
    have Q2 : zQ (m_X0_settle (zu μ (11 + k) 4 0) k s) d c s ph fs := J.1.of (o 21 (by omega)) (o 25 (by omega))
    refine ⟨0, rfl, zNx.of (c_X4_thaw_ok hn Q2 hk (by rw [o 26 (by omega), ← p4]; exact hz)) (fun r ν q => ?_) (by decide) (by decide)⟩
    exact ⟨q.1, (zaft q.2).1, (J.thaw hk).x.near q.2⟩
  · rcases h with ⟨h, -⟩ | ⟨k, hk, rfl, hl, e⟩
    · exact ⟨1, rfl, zNx.of (c_X4_thaw_no hn J.1 h) (zOv.n J.x) (by decide) (by decide)⟩
    · exact zbad e (by decide)
  · rcases h with ⟨h, e⟩ | ⟨k, hk, rfl, hl, -⟩
    · exact zbad e (by decide)
    · obtain ⟨p1, -, -, p4, -⟩ := J.2.2.2.2.2.2 k hk
      exact ⟨2, rfl, zNx.of (c_X4_thaw_t2 hn J.1 hk (p4.symm.trans hl)) (zOv.n J.x) (by decide) (by decide)⟩
set_option maxHeartbeats 200000 in
theorem pr_exclude {l : Launch} {g : zG} (hn : zn g = 32) {μ ν9 : zM} {v9 : Option Value} {v a : Int32} {s d c n w : Nat} {ph fs : Nat → Nat} (J : zJ μ s d c n w ph fs) (h9 : (fun (r : Option Value) (ν : zM) => (∃ (a9 : Int32) (μ1 : zM), (fun (r : Option Value) (ν : zM) => ∃ i, i < d ∧ v = nI i ∧ ¬ a < 0 ∧ a ≤ 9 ∧ r = some (.int (μ.1 4 i)) ∧ ν = m_X3_exclude μ i (ph i) s a) (some (.int a9)) μ1 ∧ r = some (.int 0) ∧ ν = zuo μ1 (Int32.toInt64 a9)) ∨ ((fun (E : String) (ν : zM) => ((¬ zIn v d ∧ E = "java/lang/IndexOutOfBoundsException") ∨ (zIn v d ∧ ¬ (¬ a < 0 ∧ a ≤ 9) ∧ E = "java/lang/IllegalArgumentException")) ∧ ν = μ) "java/lang/IndexOutOfBoundsException" ν ∧ r = some (.int 1)) ∨ ((fun (E : String) (ν : zM) => ((¬ zIn v d ∧ E = "java/lang/IndexOutOfBoundsException") ∨ (zIn v d ∧ ¬ (¬ a < 0 ∧ a ≤ 9) ∧ E = "java/lang/IllegalArgumentException")) ∧ ν = μ) "java/lang/IllegalArgumentException" ν ∧ r = some (.int 2))) v9 ν9) : ∃ k : Int32, v9 = some (.int k) ∧ zNx l g yX4_exclude cX4_exclude 4 (some .int) [.ref (za g 21), .int v, .int a] ν9 zOi k := by
  rcases h9 with ⟨a1, μ1, ⟨i, hi, rfl, h1, h2, e, rfl⟩, rfl, rfl⟩ | ⟨⟨h, rfl⟩, rfl⟩ | ⟨⟨h, rfl⟩, rfl⟩
  · have e3 := Value.int.inj (Option.some.inj e)
    subst e3
    have c10 := J.c10
    have hp := J.1.pc hi
    have ha : 0 ≤ a := Int32.not_lt.mp h1
    have o : ∀ t, t ≠ 11 + ph i → t ≠ 4 → (m_X3_exclude μ i (ph i) s a).1 t = μ.1 t := fun t q1 q2 => excl_off _ q1 q2
    have Q2 : zQ (zuo (m_X3_exclude μ i (ph i) s a) (Int32.toInt64 (μ.1 4 i))) d c s ph fs := J.1.of (o 21 (by omega) (by decide)) (o 25 (by omega) (by decide))
    refine ⟨0, rfl, zNx.of (c_X4_exclude_ok hn Q2 hi ha h2) (fun r ν q => ⟨_, q.1, (zaft q.2).1, fun _ => ?_, ?_⟩) (by decide) (by decide)⟩
    · rw [(zaft q.2).2]
      show (zuo (m_X3_exclude μ i (ph i) s a) (Int32.toInt64 (μ.1 4 i))).2 0 = _
      rw [zuo_0]
      refine congrArg Int32.toInt64 ((J.r4 hi).trans ?_)
      exact (congrFun (o 24 (by omega) (by decide)) i).symm
    · exact ((J.exclude hi ha).x.see ((zSee.out _ _).u 24 i a)).near q.2
  · rcases h with ⟨h, -⟩ | ⟨h, hl, e⟩
    · exact ⟨1, rfl, zNx.of (c_X4_exclude_no hn J.1 h) (zOi.n J.x (fun z => absurd z (by decide))) (by decide) (by decide)⟩
    · exact zbad e (by decide)
  · rcases h with ⟨h, e⟩ | ⟨⟨i, hi, rfl⟩, hl, -⟩
    · exact zbad e (by decide)
    · exact ⟨2, rfl, zNx.of (c_X4_exclude_t2 hn J.1 hi (fun q => hl ⟨Int32.not_lt.mpr q.1, q.2⟩)) (zOi.n J.x (fun z => absurd z (by decide))) (by decide) (by decide)⟩
set_option maxHeartbeats 200000 in
theorem pr_setWeight {l : Launch} {g : zG} (hn : zn g = 32) {μ ν9 : zM} {v9 : Option Value} {v : Int32} {s d c n w : Nat} {ph fs : Nat → Nat} (J : zJ μ s d c n w ph fs) (h9 : (fun (r : Option Value) (ν : zM) => (∃ (a9 : Int32) (μ1 : zM), (zRc (1 ≤ v ∧ v ≤ 10) (some (.int (μ.1 0 1))) (zu μ 0 1 v)) (some (.int a9)) μ1 ∧ r = some (.int 0) ∧ ν = zuo μ1 (Int32.toInt64 a9)) ∨ ((zXc (¬ (1 ≤ v ∧ v ≤ 10)) "java/lang/IllegalArgumentException" μ) "java/lang/IllegalArgumentException" ν ∧ r = some (.int 1))) v9 ν9) : ∃ k : Int32, v9 = some (.int k) ∧ zNx l g yX4_setWeight cX4_setWeight 3 (some .int) [.ref (za g 21), .int v] ν9 zOi k := by
  rcases h9 with ⟨a1, μ1, ⟨⟨h1, h2⟩, e, rfl⟩, rfl, rfl⟩ | ⟨⟨h, -, rfl⟩, rfl⟩
  · have e3 := Value.int.inj (Option.some.inj e)
    subst e3
    have t1 : (1 : Int32).toInt = 1 := rfl
    have t10 : (10 : Int32).toInt = 10 := rfl
    have h1' := h1
    have h2' := h2
    rw [Int32.le_iff_toInt_le] at h1' h2'
    rw [t1] at h1'
    rw [t10] at h2'
    obtain ⟨w', hw1, hw2, rfl⟩ : ∃ w' : Nat, 1 ≤ w' ∧ w' ≤ 10 ∧ v = nI w' := ⟨v.toInt.toNat, by omega, by omega, Int32.toInt_inj.mp (by rw [nI_toInt (by omega)]; omega)⟩
    obtain ⟨-, -, -, b4, b5, -⟩ := J.2.2.1
    refine ⟨0, rfl, zNx.of (c_X4_setWeight_ok hn h1 h2) (fun r ν q => ⟨_, q.1, ?_, fun _ => ?_, ?_⟩) (by decide) (by decide)⟩
    · rw [q.2]
      simp [zu]
    · rw [q.2]
      show (zuo (zu μ 0 1 (nI w')) (Int32.toInt64 (μ.1 0 1))).2 0 = _
      rw [zuo_0]
      refine congrArg Int32.toInt64 ((b4.trans b5.symm).trans ?_)
      show μ.1 21 14 = (zu μ 0 1 (nI w')).1 21 14
      exact (zu_ne _ (by omega)).symm
    · rw [q.2]
      exact (J.weight hw1 hw2).x.see (((zSee.out _ _).trans (zSee.thr _ _)).u 21 14 (nI w'))
  · exact ⟨1, rfl, zNx.of (c_X4_setWeight_no hn h) (fun r ν q => ⟨0, q.1, by rw [q.2]; simp [zu], fun z => absurd z (by decide), by rw [q.2]; exact (J.see (zSee.thr _ _)).x⟩) (by decide) (by decide)⟩
set_option maxHeartbeats 200000 in
theorem pr_capability {l : Launch} {g : zG} (hn : zn g = 32) {μ ν9 : zM} {v9 : Option Value} {v a b e : Int32} {s d c n w : Nat} {ph fs : Nat → Nat} (J : zJ μ s d c n w ph fs) (h9 : (fun (r : Option Value) (ν : zM) => (∃ (a9 : Int64) (μ1 : zM), (fun (r : Option Value) (ν : zM) => ∃ k, k < c ∧ v = nI k ∧ zLH a b ∧ zLm μ k ∧ ¬ lg_cmp (zsp μ k s) 0 = 0 ∧ r = some (.long (if e = 0 then zfl (1000 * (1000 * Int32.toInt64 b - 1000 * Int32.toInt64 a)) (6 * zsp μ k s) else zfl (1000 * zminL (1000 * Int32.toInt64 b - Int32.toInt64 (μ.1 (11 + k) 5)) (Int32.toInt64 (μ.1 (11 + k) 5) - 1000 * Int32.toInt64 a)) (3 * zsp μ k s))) ∧ ν = μ) (some (.long a9)) μ1 ∧ r = some (.int 0) ∧ ν = zuo μ1 a9) ∨ ((fun (E : String) (ν : zM) => ((¬ zIn v c ∧ E = "java/lang/IndexOutOfBoundsException") ∨ (zIn v c ∧ ¬ zLH a b ∧ E = "java/lang/IllegalArgumentException") ∨ (∃ k, k < c ∧ v = nI k ∧ zLH a b ∧ ¬ (zLm μ k ∧ ¬ lg_cmp (zsp μ k s) 0 = 0) ∧ E = "java/lang/IllegalStateException")) ∧ ν = μ) "java/lang/IndexOutOfBoundsException" ν ∧ r = some (.int 1)) ∨ ((fun (E : String) (ν : zM) => ((¬ zIn v c ∧ E = "java/lang/IndexOutOfBoundsException") ∨ (zIn v c ∧ ¬ zLH a b ∧ E = "java/lang/IllegalArgumentException") ∨ (∃ k, k < c ∧ v = nI k ∧ zLH a b ∧ ¬ (zLm μ k ∧ ¬ lg_cmp (zsp μ k s) 0 = 0) ∧ E = "java/lang/IllegalStateException")) ∧ ν = μ) "java/lang/IllegalArgumentException" ν ∧ r = some (.int 2)) ∨ ((fun (E : String) (ν : zM) => ((¬ zIn v c ∧ E = "java/lang/IndexOutOfBoundsException") ∨ (zIn v c ∧ ¬ zLH a b ∧ E = "java/lang/IllegalArgumentException") ∨ (∃ k, k < c ∧ v = nI k ∧ zLH a b ∧ ¬ (zLm μ k ∧ ¬ lg_cmp (zsp μ k s) 0 = 0) ∧ E = "java/lang/IllegalStateException")) ∧ ν = μ) "java/lang/IllegalStateException" ν ∧ r = some (.int 3))) v9 ν9) : ∃ k : Int32, v9 = some (.int k) ∧ zNx l g yX4_capability cX4_capability 13 (some .long) [.ref (za g 21), .int v, .int a, .int b, .int e] ν9 zOl k := by
  rcases h9 with ⟨a1, μ1, ⟨k, hk, rfl, ⟨ha, hb, hab⟩, hl, hs0, e9, rfl⟩, rfl, rfl⟩ | ⟨⟨h, rfl⟩, rfl⟩ | ⟨⟨h, rfl⟩, rfl⟩ | ⟨⟨h, rfl⟩, rfl⟩
  · have e3 := Value.long.inj (Option.some.inj e9)
    have hz := (J.lm hk).mp hl
    obtain ⟨p1, p2, p3⟩ := J.spread hk hz
    obtain ⟨a1', a2'⟩ := zmeI.mp ha
    obtain ⟨b1', b2'⟩ := zmeI.mp hb
    obtain ⟨⟨l5, -, -, -⟩, hC, -⟩ := J.pl hk hz
    rw [p1] at hs0 e3
    obtain ⟨s1, s3, s6⟩ := z_sp0 p2 p3 hs0
    rw [l5, z_cap hC a1' b2' hab s1 p3] at e3
    subst e3
    by_cases he : e = 0
    · exact ⟨0, rfl, zNx.of (c_X4_capability_e hn (J.see (zSee.out _ _)).1 hk a1' a2' hab b2' hz hs0 s3 s6 he) (zOl.n (J.see (zSee.out _ _)).x (fun _ => by rw [zuo_0]; rfl)) (by decide) (by decide)⟩
    · exact ⟨0, rfl, zNx.of (c_X4_capability_f hn (J.see (zSee.out _ _)).1 hk a1' a2' hab b2' hz hs0 s3 s6 he) (zOl.n (J.see (zSee.out _ _)).x (fun _ => by rw [zuo_0]; rfl)) (by decide) (by decide)⟩
  · rcases h with ⟨h, -⟩ | ⟨h, hl, e9⟩ | ⟨k, hk, rfl, h1, hl, e9⟩
    · exact ⟨1, rfl, zNx.of (c_X4_capability_no hn J.1 h) (zOl.n J.x (fun z => absurd z (by decide))) (by decide) (by decide)⟩
    · exact zbad e9 (by decide)
    · exact zbad e9 (by decide)
  · rcases h with ⟨h, e9⟩ | ⟨⟨k, hk, rfl⟩, hl, -⟩ | ⟨k, hk, rfl, h1, hl, e9⟩
    · exact zbad e9 (by decide)
    · by_cases h1 : -9999 ≤ a ∧ a ≤ 9999
      · refine ⟨2, rfl, zNx.of (c_X4_capability_b hn J.1 hk h1.1 h1.2 (fun q => hl ⟨zmeI.mpr h1, zmeI.mpr ⟨?_, q.2⟩, q.1⟩)) (zOl.n J.x (fun z => absurd z (by decide))) (by decide) (by decide)⟩
        have q1 := q.1
        have q3 := h1.1
        rw [Int32.le_iff_toInt_le] at q1 q3 ⊢
        omega
      · exact ⟨2, rfl, zNx.of (c_X4_capability_a hn J.1 hk h1) (zOl.n J.x (fun z => absurd z (by decide))) (by decide) (by decide)⟩
    · exact zbad e9 (by decide)
  · rcases h with ⟨h, e9⟩ | ⟨h, hl, e9⟩ | ⟨k, hk, rfl, ⟨ha, hb, hab⟩, hl, -⟩
    · exact zbad e9 (by decide)
    · exact zbad e9 (by decide)
    · obtain ⟨a1', a2'⟩ := zmeI.mp ha
      obtain ⟨b1', b2'⟩ := zmeI.mp hb
      by_cases hz : zHas ν9 ph k d
      · obtain ⟨p1, p2, p3⟩ := J.spread hk hz
        have hs0 : lg_cmp (zsM ν9 ph k d s) 0 = 0 := by
          refine Decidable.not_not.mp fun z => hl ⟨(J.lm hk).mpr hz, ?_⟩
          rw [p1]
          exact z
        exact ⟨3, rfl, zNx.of (c_X4_capability_d hn J.1 hk a1' a2' hab b2' hz hs0) (zOl.n J.x (fun z => absurd z (by decide))) (by decide) (by decide)⟩
      · exact ⟨3, rfl, zNx.of (c_X4_capability_c hn J.1 hk a1' a2' hab b2' hz) (zOl.n J.x (fun z => absurd z (by decide))) (by decide) (by decide)⟩
/-- put, not done by it -/
theorem zTk_see {μ : zM} {v : Int32} {b : Nat} (h2 : μ.1 21 2 = nI b) (o : Int64) : zSee (zTk μ v b) (m_X4_put_go (zuo (zu (zu (zu (zu μ 0 3 (zB3 μ v)) 0 4 (zB4 μ v)) 0 5 (zB5 μ v)) 0 2 (μ.1 21 2 + 1)) o) v) := by
  have e : ∀ j, (zuo (zu (zu (zu (zu μ 0 3 (zB3 μ v)) 0 4 (zB4 μ v)) 0 5 (zB5 μ v)) 0 2 (μ.1 21 2 + 1)) o).1 21 j = μ.1 21 j := fun j => by
    show (zu (zu (zu (zu μ 0 3 (zB3 μ v)) 0 4 (zB4 μ v)) 0 5 (zB5 μ v)) 0 2 (μ.1 21 2 + 1)).1 21 j = _
    rw [zu_ne _ (by omega), zu_ne _ (by omega), zu_ne _ (by omega), zu_ne _ (by omega)]
  unfold m_X4_put_go
  rw [e 2, e 3, e 4, e 5]
  unfold zTk
  rw [← nI_1 b, ← h2]
  exact ((((zSee.out _ _).trans (zSee.thr _ _)).u 21 3 _).u 21 4 _).u 21 5 _ |>.u 21 2 _
set_option maxHeartbeats 200000 in
theorem pr_put {l : Launch} {g : zG} (hn : zn g = 32) {μ ν9 : zM} {v9 : Option Value} {v : Int32} {s d c n w : Nat} {ph fs : Nat → Nat} (J : zJ μ s d c n w ph fs) (h9 : (fun (r : Option Value) (ν : zM) => (∃ (a9 : Int32) (μ1 : zM), (fun (r : Option Value) (ν : zM) => ¬ zme v = 0 ∧ d < 60 ∧ ((¬ nI (s + 2) ≤ (m_X3_takeMeasurement μ v).1 0 2 ∧ r = some (.int 0) ∧ ν = m_X3_takeMeasurement μ v) ∨ (nI (s + 2) ≤ (m_X3_takeMeasurement μ v).1 0 2 ∧ r = some (.int 1) ∧ ν = m_X3_finishSubgroup (m_X3_takeMeasurement μ v) d s c))) (some (.int a9)) μ1 ∧ r = some (.int 0) ∧ ν = zuo μ1 (if a9 = 0 then (0 : Int64) else (1 : Int64))) ∨ ((fun (E : String) (ν : zM) => ((zme v = 0 ∧ E = "java/lang/IllegalArgumentException") ∨ (¬ zme v = 0 ∧ ¬ d < 60 ∧ E = "java/lang/IllegalStateException")) ∧ ν = μ) "java/lang/IllegalArgumentException" ν ∧ r = some (.int 1)) ∨ ((fun (E : String) (ν : zM) => ((zme v = 0 ∧ E = "java/lang/IllegalArgumentException") ∨ (¬ zme v = 0 ∧ ¬ d < 60 ∧ E = "java/lang/IllegalStateException")) ∧ ν = μ) "java/lang/IllegalStateException" ν ∧ r = some (.int 2))) v9 ν9) : ∃ k : Int32, v9 = some (.int k) ∧ zNx l g yX4_put cX4_put 2 (some .boolean) [.ref (za g 21), .int v] ν9 zOz k := by
  obtain ⟨b1, b2, b3, b4, b5, b6, b7, b8, b9, -⟩ := J.2.2.1
  have hs5 := J.s5
  have d60 := J.d60
  have Q := J.1
  rcases h9 with ⟨a1, μ1, ⟨h1, h2, h3⟩, rfl, rfl⟩ | ⟨⟨h, rfl⟩, rfl⟩ | ⟨⟨h, rfl⟩, rfl⟩
  · obtain ⟨v1, v2⟩ := zmeI.mp h1
    have hT := zB_desk (μ := μ) (v := v) (b1.trans b2.symm) b7 b8 b9
    have h02 : (m_X3_takeMeasurement μ v).1 0 2 = nI (n + 1) := by
      rw [hT, zu_at, upd_eq, b2, nI_1]
    rw [h02, nI_leI (by omega) (by omega)] at h3
    have e0 : ∀ o : Int64, (zuo (m_X3_takeMeasurement μ v) o).1 21 = μ.1 21 := fun o => by
      show (m_X3_takeMeasurement μ v).1 21 = _
      rw [hT, zu_off _ _ _ _ (by decide), zu_off _ _ _ _ (by decide), zu_off _ _ _ _ (by decide), zu_off _ _ _ _ (by decide)]
    have n60 : ¬ nI d = 60 := fun q => by
      have := (nI_eq (b := 60) (by omega) (by decide)).mp q
      omega
    rcases h3 with ⟨h3, e, rfl⟩ | ⟨h3, e, rfl⟩
    · have e3 := Value.int.inj (Option.some.inj e)
      subst e3
      refine ⟨0, rfl, zNx.of (c_X4_put_go hn v1 v2 (by rw [e0, Q.2.1]; exact n60) (by rw [e0, Q.2.2.2.1, b2, nI_1, nI_leI (by omega) (by omega)]; exact h3)) (fun r ν q => ⟨_, q.1, ?_, fun _ => ?_, ?_⟩) (by decide) (by decide)⟩
      · rw [q.2]
        unfold m_X4_put_go
        simp [zu]
      · rw [q.2]
        show (zuo (m_X3_takeMeasurement μ v) _).2 0 = _
        rw [zuo_0]
        rfl
      · rw [q.2, hT]
        exact (J.take v1 v2 (by omega)).x.see (zTk_see b2 _)
    · have e3 := Value.int.inj (Option.some.inj e)
      subst e3
      have e1 : ∀ o : Int64, (zuo (m_X3_finishSubgroup (m_X3_takeMeasurement μ v) d s c) o).1 21 = μ.1 21 := fun o => by
        refine Eq.trans ?_ (e0 o)
        show (m_X3_finishSubgroup (m_X3_takeMeasurement μ v) d s c).1 21 = (m_X3_takeMeasurement μ v).1 21
        have := J.c10
        unfold m_X3_finishSubgroup
        rw [count_off _ (by omega), zu_off _ _ _ _ (by decide), zu_off _ _ _ _ (by decide), zu_off _ _ _ _ (by decide), zu_off _ _ _ _ (by decide), zu_off _ _ _ _ (by decide), zu_off _ _ _ _ (by decide), zu_off _ _ _ _ (by decide)]
      have hD := zDn_eq (v := v) (d := d) J.c10 J.c1 J.hs (b1.trans b2.symm) b7 b8 b9
      have hJ := J.done v1 v2 (by omega) h2
      rw [← hD] at hJ
      refine ⟨0, rfl, zNx.of (c_X4_put_done hn v1 v2 (by rw [e1]; exact Q.2.1) h2 (by rw [e1, Q.2.2.2.1, b2, nI_1, nI_leI (by omega) (by omega)]; exact h3)) (fun r ν q => ⟨_, q.1, ?_, fun _ => ?_, ?_⟩) (by decide) (by decide)⟩
      · rw [q.2]
        unfold m_X4_put_done
        rw [zu_ne _ (by omega), zu_ne _ (by omega), zu_ne _ (by omega), zu_ne _ (by omega), zu_ne _ (by omega), zu_ne _ (by omega), zu_ne _ (by omega), zu_ne _ (by omega), zu_ne _ (by omega), zu_at, upd_eq]
      · rw [q.2]
        show (zuo (m_X3_finishSubgroup (m_X3_takeMeasurement μ v) d s c) _).2 0 = _
        rw [zuo_0]
        rfl
      · rw [q.2]
        exact hJ.x.see (zSee.out _ _)
  · rcases h with ⟨h, -⟩ | ⟨h, hl, e⟩
    · exact ⟨1, rfl, zNx.of (c_X4_put_t1 hn (fun q => zmeI.mpr q h)) (fun r ν q => ⟨_, q.1, by rw [q.2]; simp [zu], fun z => absurd z (by decide), by rw [q.2]; exact (J.see (zSee.thr _ _)).x⟩) (by decide) (by decide)⟩
    · exact zbad e (by decide)
  · rcases h with ⟨h, e⟩ | ⟨h, hl, -⟩
    · exact zbad e (by decide)
    · obtain ⟨v1, v2⟩ := zmeI.mp h
      have hd : d = 60 := by omega
      exact ⟨2, rfl, zNx.of (c_X4_put_t2 hn v1 v2 (by rw [Q.2.1, hd]; rfl)) (fun r ν q => ⟨_, q.1, by rw [q.2]; simp [zu], fun z => absurd z (by decide), by rw [q.2]; exact (J.see (zSee.thr _ _)).x⟩) (by decide) (by decide)⟩
