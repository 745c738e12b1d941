/-! HELD AGAINST EACH OTHER: what the desk answers, and the reference's call that follows -/
theorem zbad {A B : String} {P : Prop} (e : A = B) (h : A ≠ B) : P := absurd e h
theorem zNear.w7 (μ : zM) (F : Nat → Int32) : zNear μ (zset μ 7 F) := ⟨rfl, fun a b z => by
  by_cases e : a = 7
  · subst e
    exact absurd z (by simp [zScr])
  · rw [zset_off μ F e]⟩
theorem zNear.w8 (μ : zM) (i n : Nat) : zNear μ (zlM μ i n) := ⟨zlM_2 μ i n, fun a b z => by
  by_cases e : a = 8 ∨ a = 9 ∨ a = 10
  · rcases e with e | e | e <;> subst e <;> exact absurd z (by simp [zScr])
  · rw [zlM_off μ i (by omega) (by omega) (by omega)]⟩
theorem zmeI {v : Int32} : ¬ zme v = 0 ↔ -9999 ≤ v ∧ v ≤ 9999 := by
  unfold zme
  by_cases h1 : v < -9999
  · rw [if_pos h1]
    exact ⟨fun q => absurd rfl q, fun q => absurd h1 (Int32.not_lt.mpr q.1)⟩
  · rw [if_neg h1]
    by_cases h2 : 9999 < v
    · rw [if_pos h2]
      exact ⟨fun q => absurd rfl q, fun q => absurd h2 (Int32.not_lt.mpr q.2)⟩
    · rw [if_neg h2]
      exact ⟨fun _ => ⟨Int32.not_lt.mp h1, Int32.not_lt.mp h2⟩, fun _ => by decide⟩
theorem zaM_near {μ ν : zM} (h : zNear μ ν) (ph : Nat → Nat) (d s : Nat) : ∀ n, zaM ν ph d s n = zaM μ ph d s n
  | 0 => rfl
  | n + 1 => by rw [zaM_s, zaM_s, zaM_near h ph d s n, zbk_near h]
set_option maxHeartbeats 200000 in
theorem pr_mean {l : Launch} {g : zG} (hn : zn g = 32) {μ ν9 : zM} {v9 : Option Value} {v : Int32} {s d c n w : Nat} {ph fs : Nat → Nat} (J : zJ μ s d c n w ph fs) (h9 : (fun (r : Option Value) (ν : zM) => (∃ (a9 : Int32) (μ1 : zM), (fun (r : Option Value) (ν : zM) => ∃ i, i < d ∧ v = nI i ∧ r = some (.int (μ.1 3 i)) ∧ ν = μ) (some (.int a9)) μ1 ∧ r = some (.int 0) ∧ ν = zuo μ1 (Int32.toInt64 a9)) ∨ ((zXc (¬ zIn v d) "java/lang/IndexOutOfBoundsException" μ) "java/lang/IndexOutOfBoundsException" ν ∧ r = some (.int 1))) v9 ν9) : ∃ k : Int32, v9 = some (.int k) ∧ zNx l g yX4_mean cX4_mean 2 (some .int) [.ref (za g 21), .int v] ν9 zOi k := by
  rcases h9 with ⟨a1, μ1, ⟨i, hi, rfl, e, rfl⟩, rfl, rfl⟩ | ⟨⟨h, -, rfl⟩, rfl⟩
  · cases e
    exact ⟨0, rfl, zNx.of (c_X4_mean_ok hn (J.see (zSee.out _ _)).1 hi) (zOi.n (J.see (zSee.out _ _)).x (fun _ => by rw [zuo_0]; exact congrArg Int32.toInt64 ((J.xb hi).2))) (by decide) (by decide)⟩
  · exact ⟨1, rfl, zNx.of (c_X4_mean_no hn J.1 h) (zOi.n J.x (fun z => absurd z (by decide))) (by decide) (by decide)⟩
set_option maxHeartbeats 200000 in
theorem pr_range {l : Launch} {g : zG} (hn : zn g = 32) {μ ν9 : zM} {v9 : Option Value} {v : Int32} {s d c n w : Nat} {ph fs : Nat → Nat} (J : zJ μ s d c n w ph fs) (h9 : (fun (r : Option Value) (ν : zM) => (∃ (a9 : Int32) (μ1 : zM), (fun (r : Option Value) (ν : zM) => ∃ i, i < d ∧ v = nI i ∧ r = some (.int (μ.1 2 i)) ∧ ν = μ) (some (.int a9)) μ1 ∧ r = some (.int 0) ∧ ν = zuo μ1 (Int32.toInt64 a9)) ∨ ((zXc (¬ zIn v d) "java/lang/IndexOutOfBoundsException" μ) "java/lang/IndexOutOfBoundsException" ν ∧ r = some (.int 1))) v9 ν9) : ∃ k : Int32, v9 = some (.int k) ∧ zNx l g yX4_range cX4_range 2 (some .int) [.ref (za g 21), .int v] ν9 zOi k := by
  rcases h9 with ⟨a1, μ1, ⟨i, hi, rfl, e, rfl⟩, rfl, rfl⟩ | ⟨⟨h, -, rfl⟩, rfl⟩
  · cases e
    exact ⟨0, rfl, zNx.of (c_X4_range_ok hn (J.see (zSee.out _ _)).1 hi) (zOi.n (J.see (zSee.out _ _)).x (fun _ => by rw [zuo_0]; exact congrArg Int32.toInt64 ((J.2.2.2.2.2.1 _ hi).2.1))) (by decide) (by decide)⟩
  · exact ⟨1, rfl, zNx.of (c_X4_range_no hn J.1 h) (zOi.n J.x (fun z => absurd z (by decide))) (by decide) (by decide)⟩
set_option maxHeartbeats 200000 in
theorem pr_phaseOf {l : Launch} {g : zG} (hn : zn g = 32) {μ ν9 : zM} {v9 : Option Value} {v : Int32} {s d c n w : Nat} {ph fs : Nat → Nat} (J : zJ μ s d c n w ph fs) (h9 : (fun (r : Option Value) (ν : zM) => (∃ (a9 : Int32) (μ1 : zM), (fun (r : Option Value) (ν : zM) => ∃ i, i < d ∧ v = nI i ∧ r = some (.int (μ.1 5 i)) ∧ ν = μ) (some (.int a9)) μ1 ∧ r = some (.int 0) ∧ ν = zuo μ1 (Int32.toInt64 a9)) ∨ ((zXc (¬ zIn v d) "java/lang/IndexOutOfBoundsException" μ) "java/lang/IndexOutOfBoundsException" ν ∧ r = some (.int 1))) v9 ν9) : ∃ k : Int32, v9 = some (.int k) ∧ zNx l g yX4_phaseOf cX4_phaseOf 2 (some .int) [.ref (za g 21), .int v] ν9 zOi k := by
  rcases h9 with ⟨a1, μ1, ⟨i, hi, rfl, e, rfl⟩, rfl, rfl⟩ | ⟨⟨h, -, rfl⟩, rfl⟩
  · cases e
    exact ⟨0, rfl, zNx.of (c_X4_phaseOf_ok hn (J.see (zSee.out _ _)).1 hi) (zOi.n (J.see (zSee.out _ _)).x (fun _ => by rw [zuo_0]; exact congrArg Int32.toInt64 ((J.hph _ hi).1))) (by decide) (by decide)⟩
  · exact ⟨1, rfl, zNx.of (c_X4_phaseOf_no hn J.1 h) (zOi.n J.x (fun z => absurd z (by decide))) (by decide) (by decide)⟩
set_option maxHeartbeats 200000 in
theorem pr_points {l : Launch} {g : zG} (hn : zn g = 32) {μ ν9 : zM} {v9 : Option Value} {v : Int32} {s d c n w : Nat} {ph fs : Nat → Nat} (J : zJ μ s d c n w ph fs) (h9 : (fun (r : Option Value) (ν : zM) => (∃ (a9 : Int32) (μ1 : zM), (fun (r : Option Value) (ν : zM) => ∃ k, k < c ∧ v = nI k ∧ r = some (.int (μ.1 (11 + k) 1)) ∧ ν = μ) (some (.int a9)) μ1 ∧ r = some (.int 0) ∧ ν = zuo μ1 (Int32.toInt64 a9)) ∨ ((zXc (¬ zIn v c) "java/lang/IndexOutOfBoundsException" μ) "java/lang/IndexOutOfBoundsException" ν ∧ r = some (.int 1))) v9 ν9) : ∃ k : Int32, v9 = some (.int k) ∧ zNx l g yX4_points cX4_points 2 (some .int) [.ref (za g 21), .int v] ν9 zOi k := by
  rcases h9 with ⟨a1, μ1, ⟨i, hi, rfl, e, rfl⟩, rfl, rfl⟩ | ⟨⟨h, -, rfl⟩, rfl⟩
  · cases e
    exact ⟨0, rfl, zNx.of (c_X4_points_ok hn (J.see (zSee.out _ _)).1 hi) (zOi.n (J.see (zSee.out _ _)).x (fun _ => by rw [zuo_0]; exact congrArg Int32.toInt64 ((J.2.2.2.2.2.2 _ hi).1))) (by decide) (by decide)⟩
  · exact ⟨1, rfl, zNx.of (c_X4_points_no hn J.1 h) (zOi.n J.x (fun z => absurd z (by decide))) (by decide) (by decide)⟩
set_option maxHeartbeats 200000 in
theorem pr_center {l : Launch} {g : zG} (hn : zn g = 32) {μ ν9 : zM} {v9 : Option Value} {v : Int32} {s d c n w : Nat} {ph fs : Nat → Nat} (J : zJ μ s d c n w ph fs) (h9 : (fun (r : Option Value) (ν : zM) => (∃ (a9 : Int32) (μ1 : zM), (fun (r : Option Value) (ν : zM) => ∃ k, k < c ∧ v = nI k ∧ zLm μ k ∧ r = some (.int (μ.1 (11 + k) 5)) ∧ ν = μ) (some (.int a9)) μ1 ∧ r = some (.int 0) ∧ ν = zuo μ1 (Int32.toInt64 a9)) ∨ ((fun (E : String) (ν : zM) => ((¬ zIn v c ∧ E = "java/lang/IndexOutOfBoundsException") ∨ (∃ k, k < c ∧ v = nI k ∧ ¬ zLm μ k ∧ E = "java/lang/IllegalStateException")) ∧ ν = μ) "java/lang/IndexOutOfBoundsException" ν ∧ r = some (.int 1)) ∨ ((fun (E : String) (ν : zM) => ((¬ zIn v c ∧ E = "java/lang/IndexOutOfBoundsException") ∨ (∃ k, k < c ∧ v = nI k ∧ ¬ zLm μ k ∧ E = "java/lang/IllegalStateException")) ∧ ν = μ) "java/lang/IllegalStateException" ν ∧ r = some (.int 2))) v9 ν9) : ∃ k : Int32, v9 = some (.int k) ∧ zNx l g yX4_center cX4_center 2 (some .int) [.ref (za g 21), .int v] ν9 zOi k := by
  rcases h9 with ⟨a1, μ1, ⟨k, hk, rfl, hl, e, rfl⟩, rfl, rfl⟩ | ⟨⟨h, rfl⟩, rfl⟩ | ⟨⟨h, rfl⟩, rfl⟩
  · cases e
    have hz := (J.lm hk).mp hl
    exact ⟨0, rfl, zNx.of (c_X4_center_ok hn (J.see (zSee.out _ _)).1 hk hz) (zOi.n (J.see (zSee.out _ _)).x (fun _ => by rw [zuo_0]; exact congrArg Int32.toInt64 ((J.pl hk hz).1.1))) (by decide) (by decide)⟩
  · rcases h with ⟨h, -⟩ | ⟨k, hk, rfl, hl, e⟩
    · exact ⟨1, rfl, zNx.of (c_X4_center_no hn J.1 h) (zOi.n J.x (fun z => absurd z (by decide))) (by decide) (by decide)⟩
    · exact zbad e (by decide)
  · rcases h with ⟨h, e⟩ | ⟨k, hk, rfl, hl, -⟩
    · exact zbad e (by decide)
    · exact ⟨2, rfl, zNx.of (c_X4_center_t2 hn J.1 hk (fun q => hl ((J.lm hk).mpr q))) (zOi.n J.x (fun z => absurd z (by decide))) (by decide) (by decide)⟩
set_option maxHeartbeats 200000 in
theorem pr_width {l : Launch} {g : zG} (hn : zn g = 32) {μ ν9 : zM} {v9 : Option Value} {v : Int32} {s d c n w : Nat} {ph fs : Nat → Nat} (J : zJ μ s d c n w ph fs) (h9 : (fun (r : Option Value) (ν : zM) => (∃ (a9 : Int32) (μ1 : zM), (fun (r : Option Value) (ν : zM) => ∃ k, k < c ∧ v = nI k ∧ zLm μ k ∧ r = some (.int (μ.1 (11 + k) 7)) ∧ ν = μ) (some (.int a9)) μ1 ∧ r = some (.int 0) ∧ ν = zuo μ1 (Int32.toInt64 a9)) ∨ ((fun (E : String) (ν : zM) => ((¬ zIn v c ∧ E = "java/lang/IndexOutOfBoundsException") ∨ (∃ k, k < c ∧ v = nI k ∧ ¬ zLm μ k ∧ E = "java/lang/IllegalStateException")) ∧ ν = μ) "java/lang/IndexOutOfBoundsException" ν ∧ r = some (.int 1)) ∨ ((fun (E : String) (ν : zM) => ((¬ zIn v c ∧ E = "java/lang/IndexOutOfBoundsException") ∨ (∃ k, k < c ∧ v = nI k ∧ ¬ zLm μ k ∧ E = "java/lang/IllegalStateException")) ∧ ν = μ) "java/lang/IllegalStateException" ν ∧ r = some (.int 2))) v9 ν9) : ∃ k : Int32, v9 = some (.int k) ∧ zNx l g yX4_width cX4_width 2 (some .int) [.ref (za g 21), .int v] ν9 zOi k := by
  rcases h9 with ⟨a1, μ1, ⟨k, hk, rfl, hl, e, rfl⟩, rfl, rfl⟩ | ⟨⟨h, rfl⟩, rfl⟩ | ⟨⟨h, rfl⟩, rfl⟩
  · cases e
    have hz := (J.lm hk).mp hl
    exact ⟨0, rfl, zNx.of (c_X4_width_ok hn (J.see (zSee.out _ _)).1 hk hz) (zOi.n (J.see (zSee.out _ _)).x (fun _ => by rw [zuo_0]; exact congrArg Int32.toInt64 ((J.pl hk hz).1.2.2.1))) (by decide) (by decide)⟩
  · rcases h with ⟨h, -⟩ | ⟨k, hk, rfl, hl, e⟩
    · exact ⟨1, rfl, zNx.of (c_X4_width_no hn J.1 h) (zOi.n J.x (fun z => absurd z (by decide))) (by decide) (by decide)⟩
    · exact zbad e (by decide)
  · rcases h with ⟨h, e⟩ | ⟨k, hk, rfl, hl, -⟩
    · exact zbad e (by decide)
    · exact ⟨2, rfl, zNx.of (c_X4_width_t2 hn J.1 hk (fun q => hl ((J.lm hk).mpr q))) (zOi.n J.x (fun z => absurd z (by decide))) (by decide) (by decide)⟩
set_option maxHeartbeats 200000 in
theorem pr_rangeLimit {l : Launch} {g : zG} (hn : zn g = 32) {μ ν9 : zM} {v9 : Option Value} {v : Int32} {s d c n w : Nat} {ph fs : Nat → Nat} (J : zJ μ s d c n w ph fs) (h9 : (fun (r : Option Value) (ν : zM) => (∃ (a9 : Int32) (μ1 : zM), (fun (r : Option Value) (ν : zM) => ∃ k, k < c ∧ v = nI k ∧ zLm μ k ∧ r = some (.int (μ.1 (11 + k) 8)) ∧ ν = μ) (some (.int a9)) μ1 ∧ r = some (.int 0) ∧ ν = zuo μ1 (Int32.toInt64 a9)) ∨ ((fun (E : String) (ν : zM) => ((¬ zIn v c ∧ E = "java/lang/IndexOutOfBoundsException") ∨ (∃ k, k < c ∧ v = nI k ∧ ¬ zLm μ k ∧ E = "java/lang/IllegalStateException")) ∧ ν = μ) "java/lang/IndexOutOfBoundsException" ν ∧ r = some (.int 1)) ∨ ((fun (E : String) (ν : zM) => ((¬ zIn v c ∧ E = "java/lang/IndexOutOfBoundsException") ∨ (∃ k, k < c ∧ v = nI k ∧ ¬ zLm μ k ∧ E = "java/lang/IllegalStateException")) ∧ ν = μ) "java/lang/IllegalStateException" ν ∧ r = some (.int 2))) v9 ν9) : ∃ k : Int32, v9 = some (.int k) ∧ zNx l g yX4_rangeLimit cX4_rangeLimit 2 (some .int) [.ref (za g 21), .int v] ν9 zOi k := by
  rcases h9 with ⟨a1, μ1, ⟨k, hk, rfl, hl, e, rfl⟩, rfl, rfl⟩ | ⟨⟨h, rfl⟩, rfl⟩ | ⟨⟨h, rfl⟩, rfl⟩
  · cases e
    have hz := (J.lm hk).mp hl
    exact ⟨0, rfl, zNx.of (c_X4_rangeLimit_ok hn (J.see (zSee.out _ _)).1 hk hz) (zOi.n (J.see (zSee.out _ _)).x (fun _ => by rw [zuo_0]; exact congrArg Int32.toInt64 ((J.pl hk hz).1.2.2.2))) (by decide) (by decide)⟩
  · rcases h with ⟨h, -⟩ | ⟨k, hk, rfl, hl, e⟩
    · exact ⟨1, rfl, zNx.of (c_X4_rangeLimit_no hn J.1 h) (zOi.n J.x (fun z => absurd z (by decide))) (by decide) (by decide)⟩
    · exact zbad e (by decide)
  · rcases h with ⟨h, e⟩ | ⟨k, hk, rfl, hl, -⟩
    · exact zbad e (by decide)
    · exact ⟨2, rfl, zNx.of (c_X4_rangeLimit_t2 hn J.1 hk (fun q => hl ((J.lm hk).mpr q))) (zOi.n J.x (fun z => absurd z (by decide))) (by decide) (by decide)⟩
set_option maxHeartbeats 200000 in
theorem pr_signals {l : Launch} {g : zG} (hn : zn g = 32) {μ ν9 : zM} {v9 : Option Value} {v : Int32} {s d c n w : Nat} {ph fs : Nat → Nat} (J : zJ μ s d c n w ph fs) (h9 : (fun (r : Option Value) (ν : zM) => (∃ (a9 : Int32) (μ1 : zM), (fun (r : Option Value) (ν : zM) => ∃ i, i < d ∧ v = nI i ∧ ((¬ μ.1 4 i = 0 ∧ r = some (.int 0) ∧ ν = μ) ∨ (μ.1 4 i = 0 ∧ r = some (.int (v_X1_brokenRules (zrcF (μ.1 4) (μ.1 3) (fs (ph i)) (μ.1 (11 + ph i) 5) (μ.1 (11 + ph i) 7) (r_X1_restart (μ.1 7)) (i + 1 - fs (ph i))))) ∧ ν = zset μ 7 (zrcF (μ.1 4) (μ.1 3) (fs (ph i)) (μ.1 (11 + ph i) 5) (μ.1 (11 + ph i) 7) (r_X1_restart (μ.1 7)) (i + 1 - fs (ph i)))))) (some (.int a9)) μ1 ∧ r = some (.int 0) ∧ ν = zuo μ1 (Int32.toInt64 a9)) ∨ ((zXc (¬ zIn v d) "java/lang/IndexOutOfBoundsException" μ) "java/lang/IndexOutOfBoundsException" ν ∧ r = some (.int 1))) v9 ν9) : ∃ k : Int32, v9 = some (.int k) ∧ zNx l g yX4_signals cX4_signals 2 (some .int) [.ref (za g 21), .int v] ν9 zOi k := by
  rcases h9 with ⟨a1, μ1, ⟨i, hi, rfl, h⟩, rfl, rfl⟩ | ⟨⟨h, -, rfl⟩, rfl⟩
  · rcases h with ⟨h4, e, rfl⟩ | ⟨h4, e, rfl⟩
    · cases e
      refine ⟨0, rfl, zNx.of (c_X4_signals_ok hn (J.see (zSee.out _ _)).1 hi (J.see (zSee.out _ _)).rs) (zOi.n (J.see (zSee.out _ _)).x (fun _ => ?_)) (by decide) (by decide)⟩
      rw [zuo_0]
      exact congrArg Int32.toInt64 (if_neg (fun q => h4 ((J.r4 hi).trans q))).symm
    · cases e
      have hr := (J.r4 hi).symm.trans h4
      have N := zNear.w7 μ (zrcF (μ.1 4) (μ.1 3) (fs (ph i)) (μ.1 (11 + ph i) 5) (μ.1 (11 + ph i) 7) (r_X1_restart (μ.1 7)) (i + 1 - fs (ph i)))
      have J2 := J.see N.see
      refine ⟨0, rfl, zNx.of (c_X4_signals_ok hn (J2.see (zSee.out _ _)).1 hi (J2.see (zSee.out _ _)).rs) (zOi.n (J2.see (zSee.out _ _)).x (fun _ => ?_)) (by decide) (by decide)⟩
      rw [zuo_0]
      refine congrArg Int32.toInt64 (Eq.trans ?_ (zbk_near N ph i d s).symm)
      exact (J.signals hi hr).trans (if_pos hr).symm
  · exact ⟨1, rfl, zNx.of (c_X4_signals_no hn J.1 h) (zOi.n J.x (fun z => absurd z (by decide))) (by decide) (by decide)⟩
set_option maxHeartbeats 200000 in
theorem pr_signalsByWindows {l : Launch} {g : zG} (hn : zn g = 32) {μ ν9 : zM} {v9 : Option Value} {v : Int32} {s d c n w : Nat} {ph fs : Nat → Nat} (J : zJ μ s d c n w ph fs) (h9 : (fun (r : Option Value) (ν : zM) => (∃ (a9 : Int32) (μ1 : zM), (fun (r : Option Value) (ν : zM) => ∃ i, i < d ∧ v = nI i ∧ ((¬ μ.1 4 i = 0 ∧ r = some (.int 0) ∧ ν = μ) ∨ (μ.1 4 i = 0 ∧ r = some (.int (zbs (fun r => zWb r (zlc (μ.1 4) i (i + 1 - fs (ph i))) ((zlM μ i (i + 1 - fs (ph i))).1 10) (μ.1 (11 + ph i) 5) (μ.1 (11 + ph i) 7)) 8)) ∧ ν = zlM μ i (i + 1 - fs (ph i))))) (some (.int a9)) μ1 ∧ r = some (.int 0) ∧ ν = zuo μ1 (Int32.toInt64 a9)) ∨ ((zXc (¬ zIn v d) "java/lang/IndexOutOfBoundsException" μ) "java/lang/IndexOutOfBoundsException" ν ∧ r = some (.int 1))) v9 ν9) : ∃ k : Int32, v9 = some (.int k) ∧ zNx l g yX4_signalsByWindows cX4_signalsByWindows 2 (some .int) [.ref (za g 21), .int v] ν9 zOi k := by
  rcases h9 with ⟨a1, μ1, ⟨i, hi, rfl, h⟩, rfl, rfl⟩ | ⟨⟨h, -, rfl⟩, rfl⟩
  · rcases h with ⟨h4, e, rfl⟩ | ⟨h4, e, rfl⟩
    · cases e
      refine ⟨0, rfl, zNx.of (c_X4_signalsByWindows_ok hn (J.see (zSee.out _ _)).1 hi (J.see (zSee.out _ _)).rs) (zOi.n (J.see (zSee.out _ _)).x (fun _ => ?_)) (by decide) (by decide)⟩
      rw [zuo_0]
      exact congrArg Int32.toInt64 (if_neg (fun q => h4 ((J.r4 hi).trans q))).symm
    · cases e
      have hr := (J.r4 hi).symm.trans h4
      have N := zNear.w8 μ i (i + 1 - fs (ph i))
      have J2 := J.see N.see
      refine ⟨0, rfl, zNx.of (c_X4_signalsByWindows_ok hn (J2.see (zSee.out _ _)).1 hi (J2.see (zSee.out _ _)).rs) (zOi.n (J2.see (zSee.out _ _)).x (fun _ => ?_)) (by decide) (by decide)⟩
      rw [zuo_0]
      refine congrArg Int32.toInt64 (Eq.trans ?_ (zbk_near N ph i d s).symm)
      exact (J.windows hi hr).trans (if_pos hr).symm
  · exact ⟨1, rfl, zNx.of (c_X4_signalsByWindows_no hn J.1 h) (zOi.n J.x (fun z => absurd z (by decide))) (by decide) (by decide)⟩
set_option maxHeartbeats 200000 in
theorem pr_firstOf {l : Launch} {g : zG} (hn : zn g = 32) {μ ν9 : zM} {v9 : Option Value} {v a : Int32} {s d c n w : Nat} {ph fs : Nat → Nat} (J : zJ μ s d c n w ph fs) (h9 : (fun (r : Option Value) (ν : zM) => (∃ (a9 : Int32) (μ1 : zM), (fun (r : Option Value) (ν : zM) => ∃ i q, i < d ∧ v = nI i ∧ q < 8 ∧ a = nI (q + 1) ∧ ((¬ μ.1 4 i = 0 ∧ r = some (.int (-1)) ∧ ν = μ) ∨ (μ.1 4 i = 0 ∧ ν = zlM μ i (i + 1 - fs (ph i)) ∧ ((zWb (q + 1) (zlc (μ.1 4) i (i + 1 - fs (ph i))) ((zlM μ i (i + 1 - fs (ph i))).1 10) (μ.1 (11 + ph i) 5) (μ.1 (11 + ph i) 7) ∧ r = some (.int ((zlM μ i (i + 1 - fs (ph i))).1 9 (zPt q - 1)))) ∨ (¬ zWb (q + 1) (zlc (μ.1 4) i (i + 1 - fs (ph i))) ((zlM μ i (i + 1 - fs (ph i))).1 10) (μ.1 (11 + ph i) 5) (μ.1 (11 + ph i) 7) ∧ r = some (.int (-1))))))) (some (.int a9)) μ1 ∧ r = some (.int 0) ∧ ν = zuo μ1 (Int32.toInt64 a9)) ∨ ((fun (E : String) (ν : zM) => (¬ (zIn v d ∧ ¬ a < 1 ∧ a ≤ 8) ∧ E = "java/lang/IndexOutOfBoundsException") ∧ ν = μ) "java/lang/IndexOutOfBoundsException" ν ∧ r = some (.int 1))) v9 ν9) : ∃ k : Int32, v9 = some (.int k) ∧ zNx l g yX4_firstOf cX4_firstOf 3 (some .int) [.ref (za g 21), .int v, .int a] ν9 zOi k := by
  rcases h9 with ⟨a1, μ1, ⟨i, q, hi, rfl, hq, rfl, h⟩, rfl, rfl⟩ | ⟨⟨⟨h, -⟩, rfl⟩, rfl⟩
  · rcases h with ⟨h4, e, rfl⟩ | ⟨h4, rfl, h⟩
    · have e3 := Value.int.inj (Option.some.inj e)
      subst e3
      exact ⟨0, rfl, zNx.of (c_X4_firstOf_e hn (J.see (zSee.out _ _)).1 hi (by omega) (by omega) (J.rn hi h4)) (zOi.n (J.see (zSee.out _ _)).x (fun _ => by rw [zuo_0])) (by decide) (by decide)⟩
    · have hr := (J.r4 hi).symm.trans h4
      have N := zNear.w8 μ i (i + 1 - fs (ph i))
      have J2 := (J.see N.see).see (zSee.out _ (Int32.toInt64 a1))
      have n24 : (zlM μ i (i + 1 - fs (ph i))).1 24 = μ.1 24 := zlM_off μ i (by decide) (by decide) (by decide) _
      obtain ⟨z1, z2, z3⟩ := zL_of (zlM_off μ i (a := 22) (by decide) (by decide) (by decide) (i + 1 - fs (ph i))) (zlM_off μ i (a := 23) (by decide) (by decide) (by decide) (i + 1 - fs (ph i))) n24 (zlM_off μ i (a := 26) (by decide) (by decide) (by decide) (i + 1 - fs (ph i))) (zlM_off μ i (a := 27) (by decide) (by decide) (by decide) (i + 1 - fs (ph i))) (zlM_off μ i (a := 28) (by decide) (by decide) (by decide) (i + 1 - fs (ph i))) ph (ph i) d s
      have ny : zys (zuo (zlM μ i (i + 1 - fs (ph i))) (Int32.toInt64 a1)) ph (ph i) (i + 1) = zys μ ph (ph i) (i + 1) := by
        show zys (zlM μ i (i + 1 - fs (ph i))) ph (ph i) (i + 1) = _
        unfold zys
        rw [n24]
        exact funext fun j => zmn_near N _
      have hbr : zbr (zpc ph ((zuo (zlM μ i (i + 1 - fs (ph i))) (Int32.toInt64 a1)).1 24) (ph i) (i + 1)) (zys (zuo (zlM μ i (i + 1 - fs (ph i))) (Int32.toInt64 a1)) ph (ph i) (i + 1)) (zLC (zuo (zlM μ i (i + 1 - fs (ph i))) (Int32.toInt64 a1)) ph (ph i) d s) (zWd s 0 (zLR (zuo (zlM μ i (i + 1 - fs (ph i))) (Int32.toInt64 a1)) ph (ph i) d)) (q + 1) = zbr (zpc ph (μ.1 24) (ph i) (i + 1)) (zys μ ph (ph i) (i + 1)) (zLC μ ph (ph i) d s) (zWd s 0 (zLR μ ph (ph i) d)) (q + 1) := by
        rw [ny, show (zuo (zlM μ i (i + 1 - fs (ph i))) (Int32.toInt64 a1)).1 24 = μ.1 24 from n24, show zLC (zuo (zlM μ i (i + 1 - fs (ph i))) (Int32.toInt64 a1)) ph (ph i) d s = zLC μ ph (ph i) d s from z1, show zLR (zuo (zlM μ i (i + 1 - fs (ph i))) (Int32.toInt64 a1)) ph (ph i) d = zLR μ ph (ph i) d from z2]
      have hr2 : (zuo (zlM μ i (i + 1 - fs (ph i))) (Int32.toInt64 a1)).1 24 i = 0 := (congrFun n24 i).trans hr
      rw [J.wWb hi hr (by omega) (by omega)] at h
      rcases h with ⟨hb, e⟩ | ⟨hb, e⟩
      · have e3 := Value.int.inj (Option.some.inj e)
        subst e3
        refine ⟨0, rfl, zNx.of (c_X4_firstOf_y hn J2.1 hi (by omega) (by omega) hr2 (hbr.trans hb)) (zOi.n J2.x (fun _ => ?_)) (by decide) (by decide)⟩
        rw [zuo_0]
        refine congrArg Int32.toInt64 ((J.firstOf hi hq hb).trans ?_)
        exact (congrArg (fun f => nI (zpx ph f (ph i) (i + 1) (zpc ph f (ph i) (i + 1) - zNm (q + 1)))) n24).symm
      · have e3 := Value.int.inj (Option.some.inj e)
        subst e3
        exact ⟨0, rfl, zNx.of (c_X4_firstOf_n hn J2.1 hi (by omega) (by omega) hr2 (fun z => hb (hbr.symm.trans z))) (zOi.n J2.x (fun _ => by rw [zuo_0])) (by decide) (by decide)⟩
  · by_cases hi : zIn v d
    · obtain ⟨i, hi, rfl⟩ := hi
      refine ⟨1, rfl, zNx.of (c_X4_firstOf_b hn J.1 hi (fun q => h ⟨⟨i, hi, rfl⟩, fun z => absurd z (Int32.not_lt.mpr q.1), q.2⟩)) (zOi.n J.x (fun z => absurd z (by decide))) (by decide) (by decide)⟩
    · exact ⟨1, rfl, zNx.of (c_X4_firstOf_a hn J.1 hi) (zOi.n J.x (fun z => absurd z (by decide))) (by decide) (by decide)⟩
set_option maxHeartbeats 200000 in
theorem pr_isWide {l : Launch} {g : zG} (hn : zn g = 32) {μ ν9 : zM} {v9 : Option Value} {v : Int32} {s d c n w : Nat} {ph fs : Nat → Nat} (J : zJ μ s d c n w ph fs) (h9 : (fun (r : Option Value) (ν : zM) => (∃ (a9 : Int32) (μ1 : zM), (fun (r : Option Value) (ν : zM) => ∃ i, i < d ∧ v = nI i ∧ r = some (.int (if μ.1 4 i = 0 then (if 1000 * μ.1 2 i ≤ μ.1 (11 + ph i) 8 then 0 else 1) else 0)) ∧ ν = μ) (some (.int a9)) μ1 ∧ r = some (.int 0) ∧ ν = zuo μ1 (if a9 = 0 then (0 : Int64) else (1 : Int64))) ∨ ((zXc (¬ zIn v d) "java/lang/IndexOutOfBoundsException" μ) "java/lang/IndexOutOfBoundsException" ν ∧ r = some (.int 1))) v9 ν9) : ∃ k : Int32, v9 = some (.int k) ∧ zNx l g yX4_isWide cX4_isWide 2 (some .boolean) [.ref (za g 21), .int v] ν9 zOz k := by
  rcases h9 with ⟨a1, μ1, ⟨i, hi, rfl, e, rfl⟩, rfl, rfl⟩ | ⟨⟨h, -, rfl⟩, rfl⟩
  · have e2 := Option.some.inj e
    have e3 : a1 = _ := Value.int.inj e2
    by_cases h4 : μ1.1 4 i = 0
    · have hr := (J.r4 hi).symm.trans h4
      obtain ⟨hz, -⟩ := J.has hi hr
      rw [if_pos h4, (J.2.2.2.2.2.1 i hi).2.1, (J.pl (J.1.pc hi) hz).1.2.2.2] at e3
      refine ⟨0, rfl, zNx.of (c_X4_isWide_ok hn (J.see (zSee.out _ _)).1 hi hr) (zOz.n (J.see (zSee.out _ _)).x (fun _ => ?_)) (by decide) (by decide)⟩
      rw [zuo_0]
      exact congrArg (fun z => if z = 0 then (0 : Int64) else (1 : Int64)) e3
    · rw [if_neg h4] at e3
      refine ⟨0, rfl, zNx.of (c_X4_isWide_ex hn (J.see (zSee.out _ _)).1 hi (J.rn hi h4)) (zOz.n (J.see (zSee.out _ _)).x (fun _ => ?_)) (by decide) (by decide)⟩
      rw [zuo_0]
      exact congrArg (fun z => if z = 0 then (0 : Int64) else (1 : Int64)) e3
  · exact ⟨1, rfl, zNx.of (c_X4_isWide_no hn J.1 h) (zOz.n J.x (fun z => absurd z (by decide))) (by decide) (by decide)⟩
set_option maxHeartbeats 200000 in
theorem pr_weighted {l : Launch} {g : zG} (hn : zn g = 32) {μ ν9 : zM} {v9 : Option Value} {v : Int32} {s d c n w : Nat} {ph fs : Nat → Nat} (J : zJ μ s d c n w ph fs) (h9 : (fun (r : Option Value) (ν : zM) => (∃ (a9 : Int32) (μ1 : zM), (fun (r : Option Value) (ν : zM) => ∃ i, i < d ∧ v = nI i ∧ μ.1 4 i = 0 ∧ r = some (.int (zwt (μ.1 4) (μ.1 3) (fs (ph i)) (μ.1 (11 + ph i) 5) (μ.1 0 1) (i + 1 - fs (ph i)))) ∧ ν = μ) (some (.int a9)) μ1 ∧ r = some (.int 0) ∧ ν = zuo μ1 (Int32.toInt64 a9)) ∨ ((fun (E : String) (ν : zM) => ((¬ zIn v d ∧ E = "java/lang/IndexOutOfBoundsException") ∨ (∃ i, i < d ∧ v = nI i ∧ ¬ μ.1 4 i = 0 ∧ E = "java/lang/IllegalStateException")) ∧ ν = μ) "java/lang/IndexOutOfBoundsException" ν ∧ r = some (.int 1)) ∨ ((fun (E : String) (ν : zM) => ((¬ zIn v d ∧ E = "java/lang/IndexOutOfBoundsException") ∨ (∃ i, i < d ∧ v = nI i ∧ ¬ μ.1 4 i = 0 ∧ E = "java/lang/IllegalStateException")) ∧ ν = μ) "java/lang/IllegalStateException" ν ∧ r = some (.int 2))) v9 ν9) : ∃ k : Int32, v9 = some (.int k) ∧ zNx l g yX4_weighted cX4_weighted 5 (some .int) [.ref (za g 21), .int v] ν9 zOi k := by
  rcases h9 with ⟨a1, μ1, ⟨i, hi, rfl, h4, e, rfl⟩, rfl, rfl⟩ | ⟨⟨h, rfl⟩, rfl⟩ | ⟨⟨h, rfl⟩, rfl⟩
  · cases e
    have hr := (J.r4 hi).symm.trans h4
    exact ⟨0, rfl, zNx.of (c_X4_weighted_ok hn (J.see (zSee.out _ _)).1 hi hr) (zOi.n (J.see (zSee.out _ _)).x (fun _ => by rw [zuo_0]; exact congrArg Int32.toInt64 (J.weighted hi hr))) (by decide) (by decide)⟩
  · rcases h with ⟨h, -⟩ | ⟨k, hk, rfl, hl, e⟩
    · exact ⟨1, rfl, zNx.of (c_X4_weighted_no hn J.1 h) (zOi.n J.x (fun z => absurd z (by decide))) (by decide) (by decide)⟩
    · exact zbad e (by decide)
  · rcases h with ⟨h, e⟩ | ⟨k, hk, rfl, hl, -⟩
    · exact zbad e (by decide)
    · exact ⟨2, rfl, zNx.of (c_X4_weighted_ex hn J.1 hk (J.rn hk hl)) (zOi.n J.x (fun z => absurd z (by decide))) (by decide) (by decide)⟩
set_option maxHeartbeats 200000 in
theorem pr_cumulative {l : Launch} {g : zG} (hn : zn g = 32) {μ ν9 : zM} {v9 : Option Value} {v b : Int32} {s d c n w : Nat} {ph fs : Nat → Nat} (J : zJ μ s d c n w ph fs) (h9 : (fun (r : Option Value) (ν : zM) => (∃ (a9 : Int32) (μ1 : zM), (fun (r : Option Value) (ν : zM) => ∃ i, i < d ∧ v = nI i ∧ μ.1 4 i = 0 ∧ r = some (.int (zcu (μ.1 4) (μ.1 3) (fs (ph i)) (μ.1 (11 + ph i) 5) (zfd (zfd (μ.1 (11 + ph i) 7) 3) 2) b (i + 1 - fs (ph i)))) ∧ ν = μ) (some (.int a9)) μ1 ∧ r = some (.int 0) ∧ ν = zuo μ1 (Int32.toInt64 a9)) ∨ ((fun (E : String) (ν : zM) => ((¬ zIn v d ∧ E = "java/lang/IndexOutOfBoundsException") ∨ (∃ i, i < d ∧ v = nI i ∧ ¬ μ.1 4 i = 0 ∧ E = "java/lang/IllegalStateException")) ∧ ν = μ) "java/lang/IndexOutOfBoundsException" ν ∧ r = some (.int 1)) ∨ ((fun (E : String) (ν : zM) => ((¬ zIn v d ∧ E = "java/lang/IndexOutOfBoundsException") ∨ (∃ i, i < d ∧ v = nI i ∧ ¬ μ.1 4 i = 0 ∧ E = "java/lang/IllegalStateException")) ∧ ν = μ) "java/lang/IllegalStateException" ν ∧ r = some (.int 2))) v9 ν9) : ∃ k : Int32, v9 = some (.int k) ∧ zNx l g yX4_cumulative cX4_cumulative 7 (some .int) [.ref (za g 21), .int v, .int b] ν9 zOi k := by
  rcases h9 with ⟨a1, μ1, ⟨i, hi, rfl, h4, e, rfl⟩, rfl, rfl⟩ | ⟨⟨h, rfl⟩, rfl⟩ | ⟨⟨h, rfl⟩, rfl⟩
  · cases e
    have hr := (J.r4 hi).symm.trans h4
    exact ⟨0, rfl, zNx.of (c_X4_cumulative_ok hn (J.see (zSee.out _ _)).1 hi hr) (zOi.n (J.see (zSee.out _ _)).x (fun _ => by rw [zuo_0]; exact congrArg Int32.toInt64 (J.cumulative hi hr _))) (by decide) (by decide)⟩
  · rcases h with ⟨h, -⟩ | ⟨k, hk, rfl, hl, e⟩
    · exact ⟨1, rfl, zNx.of (c_X4_cumulative_no hn J.1 h) (zOi.n J.x (fun z => absurd z (by decide))) (by decide) (by decide)⟩
    · exact zbad e (by decide)
  · rcases h with ⟨h, e⟩ | ⟨k, hk, rfl, hl, -⟩
    · exact zbad e (by decide)
    · exact ⟨2, rfl, zNx.of (c_X4_cumulative_ex hn J.1 hk (J.rn hk hl)) (zOi.n J.x (fun z => absurd z (by decide))) (by decide) (by decide)⟩
