/-! WHAT RUNCOUNTS SAYS; THE WINDOW (places 8, 9, 10): lv j = μ.1 10 j -/
noncomputable def zpb (P : Prop) : Int32 := @ite Int32 P (Classical.propDecidable P) 1 0
theorem zpb_t {P : Prop} (h : P) : zpb P = 1 := @if_pos P (Classical.propDecidable P) h Int32 1 0
theorem zpb_f {P : Prop} (h : ¬ P) : zpb P = 0 := @if_neg P (Classical.propDecidable P) h Int32 1 0
theorem zpb_c {P Q : Prop} (h : P ↔ Q) : zpb P = zpb Q := by rw [propext h]
theorem zpb_0 {P : Prop} : zpb P = 0 ↔ ¬ P := by
  by_cases h : P
  · rw [zpb_t h]; exact ⟨fun q => absurd q (by decide), fun q => absurd h q⟩
  · rw [zpb_f h]; exact ⟨fun _ => h, fun _ => rfl⟩
theorem zpb_i {P : Prop} [Decidable P] : (if P then (1 : Int32) else 0) = zpb P := by
  by_cases h : P
  · rw [if_pos h, zpb_t h]
  · rw [if_neg h, zpb_f h]
theorem zpb_n {P : Prop} [Decidable P] : (if P then (0 : Int32) else 1) = zpb (¬ P) := by
  by_cases h : P
  · rw [if_pos h, zpb_f (fun q => q h)]
  · rw [if_neg h, zpb_t h]
theorem zpb_nar (P : Prop) : narrow .boolean (.int (zpb P)) = .int (zpb P) := by
  by_cases h : P
  · rw [zpb_t h]; rfl
  · rw [zpb_f h]; rfl
noncomputable def zct (p : Nat → Prop) : Nat → Nat
  | 0 => 0
  | n + 1 => zct p n + @ite Nat (p n) (Classical.propDecidable (p n)) 1 0
theorem zct_t {p : Nat → Prop} {n : Nat} (h : p n) : zct p (n + 1) = zct p n + 1 := by
  show zct p n + _ = _
  rw [@if_pos _ (Classical.propDecidable (p n)) h]
theorem zct_f {p : Nat → Prop} {n : Nat} (h : ¬ p n) : zct p (n + 1) = zct p n := by
  show zct p n + _ = _
  rw [@if_neg _ (Classical.propDecidable (p n)) h]
  rfl
theorem zct_le (p : Nat → Prop) : ∀ n, zct p n ≤ n
  | 0 => Nat.le_refl _
  | n + 1 => by
    have := zct_le p n
    by_cases h : p n
    · rw [zct_t h]; omega
    · rw [zct_f h]; omega
theorem zct_s (p : Nat → Prop) (i : Nat) [Decidable (p i)] : nI (zct p i) + (if p i then (1 : Int32) else 0) = nI (zct p (i + 1)) := by
  by_cases h : p i
  · rw [if_pos h, zct_t h]; exact nI_1 _
  · rw [if_neg h, zct_f h]; exact Int32.add_zero _
theorem zct_n (p : Nat → Prop) (i : Nat) [Decidable (p i)] : nI (zct (fun i => ¬ p i) i) + (if p i then (0 : Int32) else 1) = nI (zct (fun i => ¬ p i) (i + 1)) := by
  by_cases h : p i
  · rw [if_pos h, zct_f (fun q => q h)]; exact Int32.add_zero _
  · rw [if_neg h, zct_t h]; exact nI_1 _
theorem zi1 (i : Nat) : nI i + Int32.ofInt 1 = nI (i + 1) := nI_1 i
theorem c_pr1 {l : Launch} {g : zG} {μ : zM} : zC l g yX3_pointsOfRule cX3_pointsOfRule 1 (some .int) ({ frames := 0, cells := 0, slots := 0, locals := 0 } : Room) 0 0 [.int 1] μ (zRv (some (.int 1)) μ) zNX := c_X3_pointsOfRule (j := 0) (by omega)
theorem c_pr2 {l : Launch} {g : zG} {μ : zM} : zC l g yX3_pointsOfRule cX3_pointsOfRule 1 (some .int) ({ frames := 0, cells := 0, slots := 0, locals := 0 } : Room) 0 0 [.int 2] μ (zRv (some (.int 9)) μ) zNX := c_X3_pointsOfRule (j := 1) (by omega)
theorem c_pr3 {l : Launch} {g : zG} {μ : zM} : zC l g yX3_pointsOfRule cX3_pointsOfRule 1 (some .int) ({ frames := 0, cells := 0, slots := 0, locals := 0 } : Room) 0 0 [.int 3] μ (zRv (some (.int 6)) μ) zNX := c_X3_pointsOfRule (j := 2) (by omega)
theorem c_pr4 {l : Launch} {g : zG} {μ : zM} : zC l g yX3_pointsOfRule cX3_pointsOfRule 1 (some .int) ({ frames := 0, cells := 0, slots := 0, locals := 0 } : Room) 0 0 [.int 4] μ (zRv (some (.int 14)) μ) zNX := c_X3_pointsOfRule (j := 3) (by omega)
theorem c_pr5 {l : Launch} {g : zG} {μ : zM} : zC l g yX3_pointsOfRule cX3_pointsOfRule 1 (some .int) ({ frames := 0, cells := 0, slots := 0, locals := 0 } : Room) 0 0 [.int 5] μ (zRv (some (.int 3)) μ) zNX := c_X3_pointsOfRule (j := 4) (by omega)
theorem c_pr6 {l : Launch} {g : zG} {μ : zM} : zC l g yX3_pointsOfRule cX3_pointsOfRule 1 (some .int) ({ frames := 0, cells := 0, slots := 0, locals := 0 } : Room) 0 0 [.int 6] μ (zRv (some (.int 5)) μ) zNX := c_X3_pointsOfRule (j := 5) (by omega)
theorem c_pr7 {l : Launch} {g : zG} {μ : zM} : zC l g yX3_pointsOfRule cX3_pointsOfRule 1 (some .int) ({ frames := 0, cells := 0, slots := 0, locals := 0 } : Room) 0 0 [.int 7] μ (zRv (some (.int 15)) μ) zNX := c_X3_pointsOfRule (j := 6) (by omega)
theorem c_pr8 {l : Launch} {g : zG} {μ : zM} : zC l g yX3_pointsOfRule cX3_pointsOfRule 1 (some .int) ({ frames := 0, cells := 0, slots := 0, locals := 0 } : Room) 0 0 [.int 8] μ (zRv (some (.int 8)) μ) zNX := c_X3_pointsOfRule (j := 7) (by omega)
set_option maxRecDepth 100000 in
set_option maxHeartbeats 4000000 in
theorem c_X1_isOften {l : Launch} {g : zG} {a b c d : Int32} {μ : zM} : zC l g yX1_isOften cX1_isOften 4 (some .boolean) ({ frames := 1, cells := 0, slots := 0, locals := 20 } : Room) 0 0 [.int a, .int b, .int c, .int d] μ (zRv (some (.int (if a = 0 then 0 else (if a ≤ 0 then (if (zbc c) < d then 0 else 1) else (if (zbc b) < d then 0 else 1))))) μ) zNX := by
  refine zC_of (L0 := [some (.int a), some (.int b), some (.int c), some (.int d)]) (plainFor_of_name (by decide)) (Nat.le_of_ble_eq_true rfl) rfl ?_
  intro x S Y hxl
  subst hxl
  refine k_iload0 S dX1_isOften_0 (n := 1) rfl ?_
  have hJ2 : zK x g ({ frames := 1, cells := 0, slots := 0, locals := 20 } : Room) 4 0 0 25 [some (.int a), some (.int b), some (.int c), some (.int d)] [.int ((if a = 0 then (0 : Int32) else (if a ≤ 0 then (if (zbc c) < d then (0 : Int32) else (1 : Int32)) else (if (zbc b) < d then (0 : Int32) else (1 : Int32)))))] μ := by
    exact k_iret S Y dX1_isOften_25 (by decide) (by decide) (by repeat' (first | rfl | split)) (⟨rfl, rfl⟩)
  refine k_if_eq S dX1_isOften_1 (tgt := 24) (by decide) (n := 4) rfl (fun c1 => ?_) (fun c1 => ?_)
  ·
    refine k_iconst S dX1_isOften_24 (v := 0) (by decide) (n := 25) rfl ?_
    rw [if_pos c1] at hJ2
    exact hJ2
  ·
    refine k_iload0 S dX1_isOften_4 (n := 5) rfl ?_
    refine k_if_le S dX1_isOften_5 (tgt := 12) (by decide) (n := 8) rfl (fun c3 => ?_) (fun c3 => ?_)
    ·
      refine k_iload2 S dX1_isOften_12 (n := 13) rfl ?_
      refine k_callS (As := [.int c]) (rest := []) S (c_J6_bitCount_0f7a4) mv_J6_bitCount_0f7a4 m_409 dX1_isOften_13 rfl rfl ⟨by decide, by decide⟩ rfl rfl (Nat.le_of_ble_eq_true rfl) ⟨by decide, by decide⟩ (n := 16) rfl (fun _ _ h => h.elim) (fun v9 ν9 h9 => ?_)
      rw [h9.1, h9.2]
      show zK x g ({ frames := 1, cells := 0, slots := 0, locals := 20 } : Room) 4 0 0 16 [some (.int a), some (.int b), some (.int c), some (.int d)] [.int (zbc c)] μ
      refine k_iload3 S dX1_isOften_16 (n := 17) rfl ?_
      refine k_icmp_lt S dX1_isOften_17 (tgt := 24) (by decide) (n := 20) rfl (fun c4 => ?_) (fun c4 => ?_)
      ·
        refine k_iconst S dX1_isOften_24 (v := 0) (by decide) (n := 25) rfl ?_
        rw [if_neg c1, if_pos c3, if_pos c4] at hJ2
        exact hJ2
      ·
        refine k_iconst S dX1_isOften_20 (v := 1) (by decide) (n := 21) rfl ?_
        refine k_goto S dX1_isOften_21 (tgt := 25) (by decide) ?_
        rw [if_neg c1, if_pos c3, if_neg c4] at hJ2
        exact hJ2
    ·
      refine k_iload1 S dX1_isOften_8 (n := 9) rfl ?_
      refine k_goto S dX1_isOften_9 (tgt := 13) (by decide) ?_
      refine k_callS (As := [.int b]) (rest := []) S (c_J6_bitCount_0f7a4) mv_J6_bitCount_0f7a4 m_409 dX1_isOften_13 rfl rfl ⟨by decide, by decide⟩ rfl rfl (Nat.le_of_ble_eq_true rfl) ⟨by decide, by decide⟩ (n := 16) rfl (fun _ _ h => h.elim) (fun v9 ν9 h9 => ?_)
      rw [h9.1, h9.2]
      show zK x g ({ frames := 1, cells := 0, slots := 0, locals := 20 } : Room) 4 0 0 16 [some (.int a), some (.int b), some (.int c), some (.int d)] [.int (zbc b)] μ
      refine k_iload3 S dX1_isOften_16 (n := 17) rfl ?_
      refine k_icmp_lt S dX1_isOften_17 (tgt := 24) (by decide) (n := 20) rfl (fun c5 => ?_) (fun c5 => ?_)
      ·
        refine k_iconst S dX1_isOften_24 (v := 0) (by decide) (n := 25) rfl ?_
        rw [if_neg c1, if_neg c3, if_pos c5] at hJ2
        exact hJ2
      ·
        refine k_iconst S dX1_isOften_20 (v := 1) (by decide) (n := 21) rfl ?_
        refine k_goto S dX1_isOften_21 (tgt := 25) (by decide) ?_
        rw [if_neg c1, if_neg c3, if_neg c5] at hJ2
        exact hJ2
def v_X1_brokenRules (f : Nat → Int32) : Int32 := (((((((zbo 1 ((if (f 9) = 0 then (0 : Int32) else (1 : Int32)))) ||| (zbo 2 ((if (f 4) < 9 then (0 : Int32) else (1 : Int32))))) ||| (zbo 3 ((if (f 5) < 6 then (0 : Int32) else (1 : Int32))))) ||| (zbo 4 ((if (f 6) < 14 then (0 : Int32) else (1 : Int32))))) ||| (zbo 5 ((if (f 0) < 3 then (0 : Int32) else (if ((if (f 10) = 0 then (0 : Int32) else (if (f 10) ≤ 0 then (if (zbc (f 13)) < 2 then 0 else 1) else (if (zbc (f 12)) < 2 then 0 else 1)))) = 0 then (0 : Int32) else (1 : Int32)))))) ||| (zbo 6 ((if (f 0) < 5 then (0 : Int32) else (if ((if (f 11) = 0 then (0 : Int32) else (if (f 11) ≤ 0 then (if (zbc (f 15)) < 4 then 0 else 1) else (if (zbc (f 14)) < 4 then 0 else 1)))) = 0 then (0 : Int32) else (1 : Int32)))))) ||| (zbo 7 ((if (f 7) < 15 then (0 : Int32) else (1 : Int32))))) ||| (zbo 8 ((if (f 8) < 8 then (0 : Int32) else (1 : Int32))))
set_option maxRecDepth 100000 in
set_option maxHeartbeats 4000000 in
theorem c_X1_brokenRules {l : Launch} {g : zG} {μ : zM} {f : Nat → Int32} : zC l g yX1_brokenRules cX1_brokenRules 1 (some .int) ({ frames := 2, cells := 0, slots := 0, locals := 43 } : Room) 0 0 [.ref (za g 7)] (zset μ 7 f) (zRv (some (.int (v_X1_brokenRules f))) (zset μ 7 f)) zNX := by
  refine zC_of (L0 := [some (.ref (za g 7))]) (plainFor_of_name (by decide)) (Nat.le_of_ble_eq_true rfl) rfl ?_
  intro x S Y hxl
  subst hxl
  refine k_iconst S dX1_brokenRules_0 (v := 1) (by decide) (n := 1) rfl ?_
  refine k_aload0 S dX1_brokenRules_1 (n := 2) rfl ?_
  refine k_getv (v := f 9) (T := TX1) (j := 9) S dX1_brokenRules_2 (zlt S (by decide)) (by decide) (ci := 1) rfl rfl (by decide) in_1 m_81 rfl rfl (by simp [zu, zset, upd]) (n := 5) rfl ?_
  have hJ2 : zK x g ({ frames := 2, cells := 0, slots := 0, locals := 43 } : Room) 1 0 0 13 [some (.ref (za g 7))] [.int ((if (f 9) = 0 then (0 : Int32) else (1 : Int32))), .int 1] (zset μ 7 f) := by
    refine k_callS (As := [.int 1, .int ((if (f 9) = 0 then (0 : Int32) else (1 : Int32)))]) (rest := []) S (c_X1_bitOf) mv_X1_bitOf m_398 dX1_brokenRules_13 rfl rfl ⟨by decide, by decide⟩ rfl rfl (Nat.le_of_ble_eq_true rfl) ⟨by decide, by decide⟩ (n := 16) rfl (fun _ _ h => h.elim) (fun v9 ν9 h9 => ?_)
    rw [h9.1, h9.2]
    show zK x g ({ frames := 2, cells := 0, slots := 0, locals := 43 } : Room) 1 0 0 16 [some (.ref (za g 7))] [.int (zbo 1 ((if (f 9) = 0 then (0 : Int32) else (1 : Int32))))] (zset μ 7 f)
    refine k_iconst S dX1_brokenRules_16 (v := 2) (by decide) (n := 17) rfl ?_
    refine k_aload0 S dX1_brokenRules_17 (n := 18) rfl ?_
    refine k_getv (v := f 4) (T := TX1) (j := 4) S dX1_brokenRules_18 (zlt S (by decide)) (by decide) (ci := 1) rfl rfl (by decide) in_1 m_76 rfl rfl (by simp [zu, zset, upd]) (n := 21) rfl ?_
    refine k_iconst S dX1_brokenRules_21 (v := 2) (by decide) (n := 22) rfl ?_
    refine k_callSN (As := [.int 2]) (rest := [.int (f 4), .int 2, .int (zbo 1 ((if (f 9) = 0 then (0 : Int32) else (1 : Int32))))]) (host := RX3) S (c_pr2) mv_X3_pointsOfRule (by decide +kernel) dX1_brokenRules_22 rfl rfl ⟨by decide, by decide⟩ rfl rfl (Nat.le_of_ble_eq_true rfl) ⟨by decide, by decide⟩ (n := 25) rfl (fun _ _ h => h.elim) (fun v9 ν9 h9 => ?_)
    rw [h9.1, h9.2]
    show zK x g ({ frames := 2, cells := 0, slots := 0, locals := 43 } : Room) 1 0 0 25 [some (.ref (za g 7))] [.int 9, .int (f 4), .int 2, .int (zbo 1 ((if (f 9) = 0 then (0 : Int32) else (1 : Int32))))] (zset μ 7 f)
    have hJ4 : zK x g ({ frames := 2, cells := 0, slots := 0, locals := 43 } : Room) 1 0 0 33 [some (.ref (za g 7))] [.int ((if (f 4) < 9 then (0 : Int32) else (1 : Int32))), .int 2, .int (zbo 1 ((if (f 9) = 0 then (0 : Int32) else (1 : Int32))))] (zset μ 7 f) := by
      refine k_callS (As := [.int 2, .int ((if (f 4) < 9 then (0 : Int32) else (1 : Int32)))]) (rest := [.int (zbo 1 ((if (f 9) = 0 then (0 : Int32) else (1 : Int32))))]) S (c_X1_bitOf) mv_X1_bitOf m_398 dX1_brokenRules_33 rfl rfl ⟨by decide, by decide⟩ rfl rfl (Nat.le_of_ble_eq_true rfl) ⟨by decide, by decide⟩ (n := 36) rfl (fun _ _ h => h.elim) (fun v9 ν9 h9 => ?_)
      rw [h9.1, h9.2]
      show zK x g ({ frames := 2, cells := 0, slots := 0, locals := 43 } : Room) 1 0 0 36 [some (.ref (za g 7))] [.int (zbo 2 ((if (f 4) < 9 then (0 : Int32) else (1 : Int32)))), .int (zbo 1 ((if (f 9) = 0 then (0 : Int32) else (1 : Int32))))] (zset μ 7 f)
      refine k_ior S dX1_brokenRules_36 (n := 37) rfl ?_
      refine k_iconst S dX1_brokenRules_37 (v := 3) (by decide) (n := 38) rfl ?_
      refine k_aload0 S dX1_brokenRules_38 (n := 39) rfl ?_
      refine k_getv (v := f 5) (T := TX1) (j := 5) S dX1_brokenRules_39 (zlt S (by decide)) (by decide) (ci := 1) rfl rfl (by decide) in_1 m_77 rfl rfl (by simp [zu, zset, upd]) (n := 42) rfl ?_
      refine k_iconst S dX1_brokenRules_42 (v := 3) (by decide) (n := 43) rfl ?_
      refine k_callSN (As := [.int 3]) (rest := [.int (f 5), .int 3, .int ((zbo 1 ((if (f 9) = 0 then (0 : Int32) else (1 : Int32)))) ||| (zbo 2 ((if (f 4) < 9 then (0 : Int32) else (1 : Int32)))))]) (host := RX3) S (c_pr3) mv_X3_pointsOfRule (by decide +kernel) dX1_brokenRules_43 rfl rfl ⟨by decide, by decide⟩ rfl rfl (Nat.le_of_ble_eq_true rfl) ⟨by decide, by decide⟩ (n := 46) rfl (fun _ _ h => h.elim) (fun v9 ν9 h9 => ?_)
      rw [h9.1, h9.2]
      show zK x g ({ frames := 2, cells := 0, slots := 0, locals := 43 } : Room) 1 0 0 46 [some (.ref (za g 7))] [.int 6, .int (f 5), .int 3, .int ((zbo 1 ((if (f 9) = 0 then (0 : Int32) else (1 : Int32)))) ||| (zbo 2 ((if (f 4) < 9 then (0 : Int32) else (1 : Int32)))))] (zset μ 7 f)
      have hJ6 : zK x g ({ frames := 2, cells := 0, slots := 0, locals := 43 } : Room) 1 0 0 54 [some (.ref (za g 7))] [.int ((if (f 5) < 6 then (0 : Int32) else (1 : Int32))), .int 3, .int ((zbo 1 ((if (f 9) = 0 then (0 : Int32) else (1 : Int32)))) ||| (zbo 2 ((if (f 4) < 9 then (0 : Int32) else (1 : Int32)))))] (zset μ 7 f) := by
        refine k_callS (As := [.int 3, .int ((if (f 5) < 6 then (0 : Int32) else (1 : Int32)))]) (rest := [.int ((zbo 1 ((if (f 9) = 0 then (0 : Int32) else (1 : Int32)))) ||| (zbo 2 ((if (f 4) < 9 then (0 : Int32) else (1 : Int32)))))]) S (c_X1_bitOf) mv_X1_bitOf m_398 dX1_brokenRules_54 rfl rfl ⟨by decide, by decide⟩ rfl rfl (Nat.le_of_ble_eq_true rfl) ⟨by decide, by decide⟩ (n := 57) rfl (fun _ _ h => h.elim) (fun v9 ν9 h9 => ?_)
        rw [h9.1, h9.2]
        show zK x g ({ frames := 2, cells := 0, slots := 0, locals := 43 } : Room) 1 0 0 57 [some (.ref (za g 7))] [.int (zbo 3 ((if (f 5) < 6 then (0 : Int32) else (1 : Int32)))), .int ((zbo 1 ((if (f 9) = 0 then (0 : Int32) else (1 : Int32)))) ||| (zbo 2 ((if (f 4) < 9 then (0 : Int32) else (1 : Int32)))))] (zset μ 7 f)
        refine k_ior S dX1_brokenRules_57 (n := 58) rfl ?_
        refine k_iconst S dX1_brokenRules_58 (v := 4) (by decide) (n := 59) rfl ?_
        refine k_aload0 S dX1_brokenRules_59 (n := 60) rfl ?_
        refine k_getv (v := f 6) (T := TX1) (j := 6) S dX1_brokenRules_60 (zlt S (by decide)) (by decide) (ci := 1) rfl rfl (by decide) in_1 m_78 rfl rfl (by simp [zu, zset, upd]) (n := 63) rfl ?_
        refine k_iconst S dX1_brokenRules_63 (v := 4) (by decide) (n := 64) rfl ?_
        refine k_callSN (As := [.int 4]) (rest := [.int (f 6), .int 4, .int (((zbo 1 ((if (f 9) = 0 then (0 : Int32) else (1 : Int32)))) ||| (zbo 2 ((if (f 4) < 9 then (0 : Int32) else (1 : Int32))))) ||| (zbo 3 ((if (f 5) < 6 then (0 : Int32) else (1 : Int32)))))]) (host := RX3) S (c_pr4) mv_X3_pointsOfRule (by decide +kernel) dX1_brokenRules_64 rfl rfl ⟨by decide, by decide⟩ rfl rfl (Nat.le_of_ble_eq_true rfl) ⟨by decide, by decide⟩ (n := 67) rfl (fun _ _ h => h.elim) (fun v9 ν9 h9 => ?_)
        rw [h9.1, h9.2]
        show zK x g ({ frames := 2, cells := 0, slots := 0, locals := 43 } : Room) 1 0 0 67 [some (.ref (za g 7))] [.int 14, .int (f 6), .int 4, .int (((zbo 1 ((if (f 9) = 0 then (0 : Int32) else (1 : Int32)))) ||| (zbo 2 ((if (f 4) < 9 then (0 : Int32) else (1 : Int32))))) ||| (zbo 3 ((if (f 5) < 6 then (0 : Int32) else (1 : Int32)))))] (zset μ 7 f)
        have hJ8 : zK x g ({ frames := 2, cells := 0, slots := 0, locals := 43 } : Room) 1 0 0 75 [some (.ref (za g 7))] [.int ((if (f 6) < 14 then (0 : Int32) else (1 : Int32))), .int 4, .int (((zbo 1 ((if (f 9) = 0 then (0 : Int32) else (1 : Int32)))) ||| (zbo 2 ((if (f 4) < 9 then (0 : Int32) else (1 : Int32))))) ||| (zbo 3 ((if (f 5) < 6 then (0 : Int32) else (1 : Int32)))))] (zset μ 7 f) := by
          refine k_callS (As := [.int 4, .int ((if (f 6) < 14 then (0 : Int32) else (1 : Int32)))]) (rest := [.int (((zbo 1 ((if (f 9) = 0 then (0 : Int32) else (1 : Int32)))) ||| (zbo 2 ((if (f 4) < 9 then (0 : Int32) else (1 : Int32))))) ||| (zbo 3 ((if (f 5) < 6 then (0 : Int32) else (1 : Int32)))))]) S (c_X1_bitOf) mv_X1_bitOf m_398 dX1_brokenRules_75 rfl rfl ⟨by decide, by decide⟩ rfl rfl (Nat.le_of_ble_eq_true rfl) ⟨by decide, by decide⟩ (n := 78) rfl (fun _ _ h => h.elim) (fun v9 ν9 h9 => ?_)
          rw [h9.1, h9.2]
          show zK x g ({ frames := 2, cells := 0, slots := 0, locals := 43 } : Room) 1 0 0 78 [some (.ref (za g 7))] [.int (zbo 4 ((if (f 6) < 14 then (0 : Int32) else (1 : Int32)))), .int (((zbo 1 ((if (f 9) = 0 then (0 : Int32) else (1 : Int32)))) ||| (zbo 2 ((if (f 4) < 9 then (0 : Int32) else (1 : Int32))))) ||| (zbo 3 ((if (f 5) < 6 then (0 : Int32) else (1 : Int32)))))] (zset μ 7 f)
          refine k_ior S dX1_brokenRules_78 (n := 79) rfl ?_
          refine k_iconst S dX1_brokenRules_79 (v := 5) (by decide) (n := 80) rfl ?_
          refine k_aload0 S dX1_brokenRules_80 (n := 81) rfl ?_
          refine k_getv (v := f 0) (T := TX1) (j := 0) S dX1_brokenRules_81 (zlt S (by decide)) (by decide) (ci := 1) rfl rfl (by decide) in_1 m_72 rfl rfl (by simp [zu, zset, upd]) (n := 84) rfl ?_
          refine k_iconst S dX1_brokenRules_84 (v := 5) (by decide) (n := 85) rfl ?_
          refine k_callSN (As := [.int 5]) (rest := [.int (f 0), .int 5, .int ((((zbo 1 ((if (f 9) = 0 then (0 : Int32) else (1 : Int32)))) ||| (zbo 2 ((if (f 4) < 9 then (0 : Int32) else (1 : Int32))))) ||| (zbo 3 ((if (f 5) < 6 then (0 : Int32) else (1 : Int32))))) ||| (zbo 4 ((if (f 6) < 14 then (0 : Int32) else (1 : Int32)))))]) (host := RX3) S (c_pr5) mv_X3_pointsOfRule (by decide +kernel) dX1_brokenRules_85 rfl rfl ⟨by decide, by decide⟩ rfl rfl (Nat.le_of_ble_eq_true rfl) ⟨by decide, by decide⟩ (n := 88) rfl (fun _ _ h => h.elim) (fun v9 ν9 h9 => ?_)
          rw [h9.1, h9.2]
          show zK x g ({ frames := 2, cells := 0, slots := 0, locals := 43 } : Room) 1 0 0 88 [some (.ref (za g 7))] [.int 3, .int (f 0), .int 5, .int ((((zbo 1 ((if (f 9) = 0 then (0 : Int32) else (1 : Int32)))) ||| (zbo 2 ((if (f 4) < 9 then (0 : Int32) else (1 : Int32))))) ||| (zbo 3 ((if (f 5) < 6 then (0 : Int32) else (1 : Int32))))) ||| (zbo 4 ((if (f 6) < 14 then (0 : Int32) else (1 : Int32)))))] (zset μ 7 f)
          have hJ10 : zK x g ({ frames := 2, cells := 0, slots := 0, locals := 43 } : Room) 1 0 0 115 [some (.ref (za g 7))] [.int ((if (f 0) < 3 then (0 : Int32) else (if ((if (f 10) = 0 then (0 : Int32) else (if (f 10) ≤ 0 then (if (zbc (f 13)) < 2 then 0 else 1) else (if (zbc (f 12)) < 2 then 0 else 1)))) = 0 then (0 : Int32) else (1 : Int32)))), .int 5, .int ((((zbo 1 ((if (f 9) = 0 then (0 : Int32) else (1 : Int32)))) ||| (zbo 2 ((if (f 4) < 9 then (0 : Int32) else (1 : Int32))))) ||| (zbo 3 ((if (f 5) < 6 then (0 : Int32) else (1 : Int32))))) ||| (zbo 4 ((if (f 6) < 14 then (0 : Int32) else (1 : Int32)))))] (zset μ 7 f) := by
            refine k_callS (As := [.int 5, .int ((if (f 0) < 3 then (0 : Int32) else (if ((if (f 10) = 0 then (0 : Int32) else (if (f 10) ≤ 0 then (if (zbc (f 13)) < 2 then 0 else 1) else (if (zbc (f 12)) < 2 then 0 else 1)))) = 0 then (0 : Int32) else (1 : Int32))))]) (rest := [.int ((((zbo 1 ((if (f 9) = 0 then (0 : Int32) else (1 : Int32)))) ||| (zbo 2 ((if (f 4) < 9 then (0 : Int32) else (1 : Int32))))) ||| (zbo 3 ((if (f 5) < 6 then (0 : Int32) else (1 : Int32))))) ||| (zbo 4 ((if (f 6) < 14 then (0 : Int32) else (1 : Int32)))))]) S (c_X1_bitOf) mv_X1_bitOf m_398 dX1_brokenRules_115 rfl rfl ⟨by decide, by decide⟩ rfl rfl (Nat.le_of_ble_eq_true rfl) ⟨by decide, by decide⟩ (n := 118) rfl (fun _ _ h => h.elim) (fun v9 ν9 h9 => ?_)
            rw [h9.1, h9.2]
            show zK x g ({ frames := 2, cells := 0, slots := 0, locals := 43 } : Room) 1 0 0 118 [some (.ref (za g 7))] [.int (zbo 5 ((if (f 0) < 3 then (0 : Int32) else (if ((if (f 10) = 0 then (0 : Int32) else (if (f 10) ≤ 0 then (if (zbc (f 13)) < 2 then 0 else 1) else (if (zbc (f 12)) < 2 then 0 else 1)))) = 0 then (0 : Int32) else (1 : Int32))))), .int ((((zbo 1 ((if (f 9) = 0 then (0 : Int32) else (1 : Int32)))) ||| (zbo 2 ((if (f 4) < 9 then (0 : Int32) else (1 : Int32))))) ||| (zbo 3 ((if (f 5) < 6 then (0 : Int32) else (1 : Int32))))) ||| (zbo 4 ((if (f 6) < 14 then (0 : Int32) else (1 : Int32)))))] (zset μ 7 f)
            refine k_ior S dX1_brokenRules_118 (n := 119) rfl ?_
            refine k_bipush S dX1_brokenRules_119 (v := 6) (by decide) (n := 121) rfl ?_
            refine k_aload0 S dX1_brokenRules_121 (n := 122) rfl ?_
            refine k_getv (v := f 0) (T := TX1) (j := 0) S dX1_brokenRules_122 (zlt S (by decide)) (by decide) (ci := 1) rfl rfl (by decide) in_1 m_72 rfl rfl (by simp [zu, zset, upd]) (n := 125) rfl ?_
            refine k_bipush S dX1_brokenRules_125 (v := 6) (by decide) (n := 127) rfl ?_
            refine k_callSN (As := [.int 6]) (rest := [.int (f 0), .int 6, .int (((((zbo 1 ((if (f 9) = 0 then (0 : Int32) else (1 : Int32)))) ||| (zbo 2 ((if (f 4) < 9 then (0 : Int32) else (1 : Int32))))) ||| (zbo 3 ((if (f 5) < 6 then (0 : Int32) else (1 : Int32))))) ||| (zbo 4 ((if (f 6) < 14 then (0 : Int32) else (1 : Int32))))) ||| (zbo 5 ((if (f 0) < 3 then (0 : Int32) else (if ((if (f 10) = 0 then (0 : Int32) else (if (f 10) ≤ 0 then (if (zbc (f 13)) < 2 then 0 else 1) else (if (zbc (f 12)) < 2 then 0 else 1)))) = 0 then (0 : Int32) else (1 : Int32))))))]) (host := RX3) S (c_pr6) mv_X3_pointsOfRule (by decide +kernel) dX1_brokenRules_127 rfl rfl ⟨by decide, by decide⟩ rfl rfl (Nat.le_of_ble_eq_true rfl) ⟨by decide, by decide⟩ (n := 130) rfl (fun _ _ h => h.elim) (fun v9 ν9 h9 => ?_)
            rw [h9.1, h9.2]
            show zK x g ({ frames := 2, cells := 0, slots := 0, locals := 43 } : Room) 1 0 0 130 [some (.ref (za g 7))] [.int 5, .int (f 0), .int 6, .int (((((zbo 1 ((if (f 9) = 0 then (0 : Int32) else (1 : Int32)))) ||| (zbo 2 ((if (f 4) < 9 then (0 : Int32) else (1 : Int32))))) ||| (zbo 3 ((if (f 5) < 6 then (0 : Int32) else (1 : Int32))))) ||| (zbo 4 ((if (f 6) < 14 then (0 : Int32) else (1 : Int32))))) ||| (zbo 5 ((if (f 0) < 3 then (0 : Int32) else (if ((if (f 10) = 0 then (0 : Int32) else (if (f 10) ≤ 0 then (if (zbc (f 13)) < 2 then 0 else 1) else (if (zbc (f 12)) < 2 then 0 else 1)))) = 0 then (0 : Int32) else (1 : Int32))))))] (zset μ 7 f)
            have hJ12 : zK x g ({ frames := 2, cells := 0, slots := 0, locals := 43 } : Room) 1 0 0 157 [some (.ref (za g 7))] [.int ((if (f 0) < 5 then (0 : Int32) else (if ((if (f 11) = 0 then (0 : Int32) else (if (f 11) ≤ 0 then (if (zbc (f 15)) < 4 then 0 else 1) else (if (zbc (f 14)) < 4 then 0 else 1)))) = 0 then (0 : Int32) else (1 : Int32)))), .int 6, .int (((((zbo 1 ((if (f 9) = 0 then (0 : Int32) else (1 : Int32)))) ||| (zbo 2 ((if (f 4) < 9 then (0 : Int32) else (1 : Int32))))) ||| (zbo 3 ((if (f 5) < 6 then (0 : Int32) else (1 : Int32))))) ||| (zbo 4 ((if (f 6) < 14 then (0 : Int32) else (1 : Int32))))) ||| (zbo 5 ((if (f 0) < 3 then (0 : Int32) else (if ((if (f 10) = 0 then (0 : Int32) else (if (f 10) ≤ 0 then (if (zbc (f 13)) < 2 then 0 else 1) else (if (zbc (f 12)) < 2 then 0 else 1)))) = 0 then (0 : Int32) else (1 : Int32))))))] (zset μ 7 f) := by
              refine k_callS (As := [.int 6, .int ((if (f 0) < 5 then (0 : Int32) else (if ((if (f 11) = 0 then (0 : Int32) else (if (f 11) ≤ 0 then (if (zbc (f 15)) < 4 then 0 else 1) else (if (zbc (f 14)) < 4 then 0 else 1)))) = 0 then (0 : Int32) else (1 : Int32))))]) (rest := [.int (((((zbo 1 ((if (f 9) = 0 then (0 : Int32) else (1 : Int32)))) ||| (zbo 2 ((if (f 4) < 9 then (0 : Int32) else (1 : Int32))))) ||| (zbo 3 ((if (f 5) < 6 then (0 : Int32) else (1 : Int32))))) ||| (zbo 4 ((if (f 6) < 14 then (0 : Int32) else (1 : Int32))))) ||| (zbo 5 ((if (f 0) < 3 then (0 : Int32) else (if ((if (f 10) = 0 then (0 : Int32) else (if (f 10) ≤ 0 then (if (zbc (f 13)) < 2 then 0 else 1) else (if (zbc (f 12)) < 2 then 0 else 1)))) = 0 then (0 : Int32) else (1 : Int32))))))]) S (c_X1_bitOf) mv_X1_bitOf m_398 dX1_brokenRules_157 rfl rfl ⟨by decide, by decide⟩ rfl rfl (Nat.le_of_ble_eq_true rfl) ⟨by decide, by decide⟩ (n := 160) rfl (fun _ _ h => h.elim) (fun v9 ν9 h9 => ?_)
              rw [h9.1, h9.2]
              show zK x g ({ frames := 2, cells := 0, slots := 0, locals := 43 } : Room) 1 0 0 160 [some (.ref (za g 7))] [.int (zbo 6 ((if (f 0) < 5 then (0 : Int32) else (if ((if (f 11) = 0 then (0 : Int32) else (if (f 11) ≤ 0 then (if (zbc (f 15)) < 4 then 0 else 1) else (if (zbc (f 14)) < 4 then 0 else 1)))) = 0 then (0 : Int32) else (1 : Int32))))), .int (((((zbo 1 ((if (f 9) = 0 then (0 : Int32) else (1 : Int32)))) ||| (zbo 2 ((if (f 4) < 9 then (0 : Int32) else (1 : Int32))))) ||| (zbo 3 ((if (f 5) < 6 then (0 : Int32) else (1 : Int32))))) ||| (zbo 4 ((if (f 6) < 14 then (0 : Int32) else (1 : Int32))))) ||| (zbo 5 ((if (f 0) < 3 then (0 : Int32) else (if ((if (f 10) = 0 then (0 : Int32) else (if (f 10) ≤ 0 then (if (zbc (f 13)) < 2 then 0 else 1) else (if (zbc (f 12)) < 2 then 0 else 1)))) = 0 then (0 : Int32) else (1 : Int32))))))] (zset μ 7 f)
              refine k_ior S dX1_brokenRules_160 (n := 161) rfl ?_
              refine k_bipush S dX1_brokenRules_161 (v := 7) (by decide) (n := 163) rfl ?_
              refine k_aload0 S dX1_brokenRules_163 (n := 164) rfl ?_
              refine k_getv (v := f 7) (T := TX1) (j := 7) S dX1_brokenRules_164 (zlt S (by decide)) (by decide) (ci := 1) rfl rfl (by decide) in_1 m_79 rfl rfl (by simp [zu, zset, upd]) (n := 167) rfl ?_
              refine k_bipush S dX1_brokenRules_167 (v := 7) (by decide) (n := 169) rfl ?_
              refine k_callSN (As := [.int 7]) (rest := [.int (f 7), .int 7, .int ((((((zbo 1 ((if (f 9) = 0 then (0 : Int32) else (1 : Int32)))) ||| (zbo 2 ((if (f 4) < 9 then (0 : Int32) else (1 : Int32))))) ||| (zbo 3 ((if (f 5) < 6 then (0 : Int32) else (1 : Int32))))) ||| (zbo 4 ((if (f 6) < 14 then (0 : Int32) else (1 : Int32))))) ||| (zbo 5 ((if (f 0) < 3 then (0 : Int32) else (if ((if (f 10) = 0 then (0 : Int32) else (if (f 10) ≤ 0 then (if (zbc (f 13)) < 2 then 0 else 1) else (if (zbc (f 12)) < 2 then 0 else 1)))) = 0 then (0 : Int32) else (1 : Int32)))))) ||| (zbo 6 ((if (f 0) < 5 then (0 : Int32) else (if ((if (f 11) = 0 then (0 : Int32) else (if (f 11) ≤ 0 then (if (zbc (f 15)) < 4 then 0 else 1) else (if (zbc (f 14)) < 4 then 0 else 1)))) = 0 then (0 : Int32) else (1 : Int32))))))]) (host := RX3) S (c_pr7) mv_X3_pointsOfRule (by decide +kernel) dX1_brokenRules_169 rfl rfl ⟨by decide, by decide⟩ rfl rfl (Nat.le_of_ble_eq_true rfl) ⟨by decide, by decide⟩ (n := 172) rfl (fun _ _ h => h.elim) (fun v9 ν9 h9 => ?_)
              rw [h9.1, h9.2]
              show zK x g ({ frames := 2, cells := 0, slots := 0, locals := 43 } : Room) 1 0 0 172 [some (.ref (za g 7))] [.int 15, .int (f 7), .int 7, .int ((((((zbo 1 ((if (f 9) = 0 then (0 : Int32) else (1 : Int32)))) ||| (zbo 2 ((if (f 4) < 9 then (0 : Int32) else (1 : Int32))))) ||| (zbo 3 ((if (f 5) < 6 then (0 : Int32) else (1 : Int32))))) ||| (zbo 4 ((if (f 6) < 14 then (0 : Int32) else (1 : Int32))))) ||| (zbo 5 ((if (f 0) < 3 then (0 : Int32) else (if ((if (f 10) = 0 then (0 : Int32) else (if (f 10) ≤ 0 then (if (zbc (f 13)) < 2 then 0 else 1) else (if (zbc (f 12)) < 2 then 0 else 1)))) = 0 then (0 : Int32) else (1 : Int32)))))) ||| (zbo 6 ((if (f 0) < 5 then (0 : Int32) else (if ((if (f 11) = 0 then (0 : Int32) else (if (f 11) ≤ 0 then (if (zbc (f 15)) < 4 then 0 else 1) else (if (zbc (f 14)) < 4 then 0 else 1)))) = 0 then (0 : Int32) else (1 : Int32))))))] (zset μ 7 f)
              have hJ14 : zK x g ({ frames := 2, cells := 0, slots := 0, locals := 43 } : Room) 1 0 0 180 [some (.ref (za g 7))] [.int ((if (f 7) < 15 then (0 : Int32) else (1 : Int32))), .int 7, .int ((((((zbo 1 ((if (f 9) = 0 then (0 : Int32) else (1 : Int32)))) ||| (zbo 2 ((if (f 4) < 9 then (0 : Int32) else (1 : Int32))))) ||| (zbo 3 ((if (f 5) < 6 then (0 : Int32) else (1 : Int32))))) ||| (zbo 4 ((if (f 6) < 14 then (0 : Int32) else (1 : Int32))))) ||| (zbo 5 ((if (f 0) < 3 then (0 : Int32) else (if ((if (f 10) = 0 then (0 : Int32) else (if (f 10) ≤ 0 then (if (zbc (f 13)) < 2 then 0 else 1) else (if (zbc (f 12)) < 2 then 0 else 1)))) = 0 then (0 : Int32) else (1 : Int32)))))) ||| (zbo 6 ((if (f 0) < 5 then (0 : Int32) else (if ((if (f 11) = 0 then (0 : Int32) else (if (f 11) ≤ 0 then (if (zbc (f 15)) < 4 then 0 else 1) else (if (zbc (f 14)) < 4 then 0 else 1)))) = 0 then (0 : Int32) else (1 : Int32))))))] (zset μ 7 f) := by
                refine k_callS (As := [.int 7, .int ((if (f 7) < 15 then (0 : Int32) else (1 : Int32)))]) (rest := [.int ((((((zbo 1 ((if (f 9) = 0 then (0 : Int32) else (1 : Int32)))) ||| (zbo 2 ((if (f 4) < 9 then (0 : Int32) else (1 : Int32))))) ||| (zbo 3 ((if (f 5) < 6 then (0 : Int32) else (1 : Int32))))) ||| (zbo 4 ((if (f 6) < 14 then (0 : Int32) else (1 : Int32))))) ||| (zbo 5 ((if (f 0) < 3 then (0 : Int32) else (if ((if (f 10) = 0 then (0 : Int32) else (if (f 10) ≤ 0 then (if (zbc (f 13)) < 2 then 0 else 1) else (if (zbc (f 12)) < 2 then 0 else 1)))) = 0 then (0 : Int32) else (1 : Int32)))))) ||| (zbo 6 ((if (f 0) < 5 then (0 : Int32) else (if ((if (f 11) = 0 then (0 : Int32) else (if (f 11) ≤ 0 then (if (zbc (f 15)) < 4 then 0 else 1) else (if (zbc (f 14)) < 4 then 0 else 1)))) = 0 then (0 : Int32) else (1 : Int32))))))]) S (c_X1_bitOf) mv_X1_bitOf m_398 dX1_brokenRules_180 rfl rfl ⟨by decide, by decide⟩ rfl rfl (Nat.le_of_ble_eq_true rfl) ⟨by decide, by decide⟩ (n := 183) rfl (fun _ _ h => h.elim) (fun v9 ν9 h9 => ?_)
                rw [h9.1, h9.2]
                show zK x g ({ frames := 2, cells := 0, slots := 0, locals := 43 } : Room) 1 0 0 183 [some (.ref (za g 7))] [.int (zbo 7 ((if (f 7) < 15 then (0 : Int32) else (1 : Int32)))), .int ((((((zbo 1 ((if (f 9) = 0 then (0 : Int32) else (1 : Int32)))) ||| (zbo 2 ((if (f 4) < 9 then (0 : Int32) else (1 : Int32))))) ||| (zbo 3 ((if (f 5) < 6 then (0 : Int32) else (1 : Int32))))) ||| (zbo 4 ((if (f 6) < 14 then (0 : Int32) else (1 : Int32))))) ||| (zbo 5 ((if (f 0) < 3 then (0 : Int32) else (if ((if (f 10) = 0 then (0 : Int32) else (if (f 10) ≤ 0 then (if (zbc (f 13)) < 2 then 0 else 1) else (if (zbc (f 12)) < 2 then 0 else 1)))) = 0 then (0 : Int32) else (1 : Int32)))))) ||| (zbo 6 ((if (f 0) < 5 then (0 : Int32) else (if ((if (f 11) = 0 then (0 : Int32) else (if (f 11) ≤ 0 then (if (zbc (f 15)) < 4 then 0 else 1) else (if (zbc (f 14)) < 4 then 0 else 1)))) = 0 then (0 : Int32) else (1 : Int32))))))] (zset μ 7 f)
                refine k_ior S dX1_brokenRules_183 (n := 184) rfl ?_
                refine k_bipush S dX1_brokenRules_184 (v := 8) (by decide) (n := 186) rfl ?_
                refine k_aload0 S dX1_brokenRules_186 (n := 187) rfl ?_
                refine k_getv (v := f 8) (T := TX1) (j := 8) S dX1_brokenRules_187 (zlt S (by decide)) (by decide) (ci := 1) rfl rfl (by decide) in_1 m_80 rfl rfl (by simp [zu, zset, upd]) (n := 190) rfl ?_
                refine k_bipush S dX1_brokenRules_190 (v := 8) (by decide) (n := 192) rfl ?_
                refine k_callSN (As := [.int 8]) (rest := [.int (f 8), .int 8, .int (((((((zbo 1 ((if (f 9) = 0 then (0 : Int32) else (1 : Int32)))) ||| (zbo 2 ((if (f 4) < 9 then (0 : Int32) else (1 : Int32))))) ||| (zbo 3 ((if (f 5) < 6 then (0 : Int32) else (1 : Int32))))) ||| (zbo 4 ((if (f 6) < 14 then (0 : Int32) else (1 : Int32))))) ||| (zbo 5 ((if (f 0) < 3 then (0 : Int32) else (if ((if (f 10) = 0 then (0 : Int32) else (if (f 10) ≤ 0 then (if (zbc (f 13)) < 2 then 0 else 1) else (if (zbc (f 12)) < 2 then 0 else 1)))) = 0 then (0 : Int32) else (1 : Int32)))))) ||| (zbo 6 ((if (f 0) < 5 then (0 : Int32) else (if ((if (f 11) = 0 then (0 : Int32) else (if (f 11) ≤ 0 then (if (zbc (f 15)) < 4 then 0 else 1) else (if (zbc (f 14)) < 4 then 0 else 1)))) = 0 then (0 : Int32) else (1 : Int32)))))) ||| (zbo 7 ((if (f 7) < 15 then (0 : Int32) else (1 : Int32)))))]) (host := RX3) S (c_pr8) mv_X3_pointsOfRule (by decide +kernel) dX1_brokenRules_192 rfl rfl ⟨by decide, by decide⟩ rfl rfl (Nat.le_of_ble_eq_true rfl) ⟨by decide, by decide⟩ (n := 195) rfl (fun _ _ h => h.elim) (fun v9 ν9 h9 => ?_)
                rw [h9.1, h9.2]
                show zK x g ({ frames := 2, cells := 0, slots := 0, locals := 43 } : Room) 1 0 0 195 [some (.ref (za g 7))] [.int 8, .int (f 8), .int 8, .int (((((((zbo 1 ((if (f 9) = 0 then (0 : Int32) else (1 : Int32)))) ||| (zbo 2 ((if (f 4) < 9 then (0 : Int32) else (1 : Int32))))) ||| (zbo 3 ((if (f 5) < 6 then (0 : Int32) else (1 : Int32))))) ||| (zbo 4 ((if (f 6) < 14 then (0 : Int32) else (1 : Int32))))) ||| (zbo 5 ((if (f 0) < 3 then (0 : Int32) else (if ((if (f 10) = 0 then (0 : Int32) else (if (f 10) ≤ 0 then (if (zbc (f 13)) < 2 then 0 else 1) else (if (zbc (f 12)) < 2 then 0 else 1)))) = 0 then (0 : Int32) else (1 : Int32)))))) ||| (zbo 6 ((if (f 0) < 5 then (0 : Int32) else (if ((if (f 11) = 0 then (0 : Int32) else (if (f 11) ≤ 0 then (if (zbc (f 15)) < 4 then 0 else 1) else (if (zbc (f 14)) < 4 then 0 else 1)))) = 0 then (0 : Int32) else (1 : Int32)))))) ||| (zbo 7 ((if (f 7) < 15 then (0 : Int32) else (1 : Int32)))))] (zset μ 7 f)
                have hJ16 : zK x g ({ frames := 2, cells := 0, slots := 0, locals := 43 } : Room) 1 0 0 203 [some (.ref (za g 7))] [.int ((if (f 8) < 8 then (0 : Int32) else (1 : Int32))), .int 8, .int (((((((zbo 1 ((if (f 9) = 0 then (0 : Int32) else (1 : Int32)))) ||| (zbo 2 ((if (f 4) < 9 then (0 : Int32) else (1 : Int32))))) ||| (zbo 3 ((if (f 5) < 6 then (0 : Int32) else (1 : Int32))))) ||| (zbo 4 ((if (f 6) < 14 then (0 : Int32) else (1 : Int32))))) ||| (zbo 5 ((if (f 0) < 3 then (0 : Int32) else (if ((if (f 10) = 0 then (0 : Int32) else (if (f 10) ≤ 0 then (if (zbc (f 13)) < 2 then 0 else 1) else (if (zbc (f 12)) < 2 then 0 else 1)))) = 0 then (0 : Int32) else (1 : Int32)))))) ||| (zbo 6 ((if (f 0) < 5 then (0 : Int32) else (if ((if (f 11) = 0 then (0 : Int32) else (if (f 11) ≤ 0 then (if (zbc (f 15)) < 4 then 0 else 1) else (if (zbc (f 14)) < 4 then 0 else 1)))) = 0 then (0 : Int32) else (1 : Int32)))))) ||| (zbo 7 ((if (f 7) < 15 then (0 : Int32) else (1 : Int32)))))] (zset μ 7 f) := by
                  refine k_callS (As := [.int 8, .int ((if (f 8) < 8 then (0 : Int32) else (1 : Int32)))]) (rest := [.int (((((((zbo 1 ((if (f 9) = 0 then (0 : Int32) else (1 : Int32)))) ||| (zbo 2 ((if (f 4) < 9 then (0 : Int32) else (1 : Int32))))) ||| (zbo 3 ((if (f 5) < 6 then (0 : Int32) else (1 : Int32))))) ||| (zbo 4 ((if (f 6) < 14 then (0 : Int32) else (1 : Int32))))) ||| (zbo 5 ((if (f 0) < 3 then (0 : Int32) else (if ((if (f 10) = 0 then (0 : Int32) else (if (f 10) ≤ 0 then (if (zbc (f 13)) < 2 then 0 else 1) else (if (zbc (f 12)) < 2 then 0 else 1)))) = 0 then (0 : Int32) else (1 : Int32)))))) ||| (zbo 6 ((if (f 0) < 5 then (0 : Int32) else (if ((if (f 11) = 0 then (0 : Int32) else (if (f 11) ≤ 0 then (if (zbc (f 15)) < 4 then 0 else 1) else (if (zbc (f 14)) < 4 then 0 else 1)))) = 0 then (0 : Int32) else (1 : Int32)))))) ||| (zbo 7 ((if (f 7) < 15 then (0 : Int32) else (1 : Int32)))))]) S (c_X1_bitOf) mv_X1_bitOf m_398 dX1_brokenRules_203 rfl rfl ⟨by decide, by decide⟩ rfl rfl (Nat.le_of_ble_eq_true rfl) ⟨by decide, by decide⟩ (n := 206) rfl (fun _ _ h => h.elim) (fun v9 ν9 h9 => ?_)
                  rw [h9.1, h9.2]
                  show zK x g ({ frames := 2, cells := 0, slots := 0, locals := 43 } : Room) 1 0 0 206 [some (.ref (za g 7))] [.int (zbo 8 ((if (f 8) < 8 then (0 : Int32) else (1 : Int32)))), .int (((((((zbo 1 ((if (f 9) = 0 then (0 : Int32) else (1 : Int32)))) ||| (zbo 2 ((if (f 4) < 9 then (0 : Int32) else (1 : Int32))))) ||| (zbo 3 ((if (f 5) < 6 then (0 : Int32) else (1 : Int32))))) ||| (zbo 4 ((if (f 6) < 14 then (0 : Int32) else (1 : Int32))))) ||| (zbo 5 ((if (f 0) < 3 then (0 : Int32) else (if ((if (f 10) = 0 then (0 : Int32) else (if (f 10) ≤ 0 then (if (zbc (f 13)) < 2 then 0 else 1) else (if (zbc (f 12)) < 2 then 0 else 1)))) = 0 then (0 : Int32) else (1 : Int32)))))) ||| (zbo 6 ((if (f 0) < 5 then (0 : Int32) else (if ((if (f 11) = 0 then (0 : Int32) else (if (f 11) ≤ 0 then (if (zbc (f 15)) < 4 then 0 else 1) else (if (zbc (f 14)) < 4 then 0 else 1)))) = 0 then (0 : Int32) else (1 : Int32)))))) ||| (zbo 7 ((if (f 7) < 15 then (0 : Int32) else (1 : Int32)))))] (zset μ 7 f)
                  refine k_ior S dX1_brokenRules_206 (n := 207) rfl ?_
                  exact k_iret S Y dX1_brokenRules_207 (by decide) (by decide) rfl (⟨rfl, rfl⟩)
                refine k_icmp_lt S dX1_brokenRules_195 (tgt := 202) (by decide) (n := 198) rfl (fun c15 => ?_) (fun c15 => ?_)
                ·
                  refine k_iconst S dX1_brokenRules_202 (v := 0) (by decide) (n := 203) rfl ?_
                  rw [if_pos c15] at hJ16
                  exact hJ16
                ·
                  refine k_iconst S dX1_brokenRules_198 (v := 1) (by decide) (n := 199) rfl ?_
                  refine k_goto S dX1_brokenRules_199 (tgt := 203) (by decide) ?_
                  rw [if_neg c15] at hJ16
                  exact hJ16
              refine k_icmp_lt S dX1_brokenRules_172 (tgt := 179) (by decide) (n := 175) rfl (fun c13 => ?_) (fun c13 => ?_)
              ·
                refine k_iconst S dX1_brokenRules_179 (v := 0) (by decide) (n := 180) rfl ?_
                rw [if_pos c13] at hJ14
                exact hJ14
              ·
                refine k_iconst S dX1_brokenRules_175 (v := 1) (by decide) (n := 176) rfl ?_
                refine k_goto S dX1_brokenRules_176 (tgt := 180) (by decide) ?_
                rw [if_neg c13] at hJ14
                exact hJ14
            refine k_icmp_lt S dX1_brokenRules_130 (tgt := 156) (by decide) (n := 133) rfl (fun c11 => ?_) (fun c11 => ?_)
            ·
              refine k_iconst S dX1_brokenRules_156 (v := 0) (by decide) (n := 157) rfl ?_
              rw [if_pos c11] at hJ12
              exact hJ12
            ·
              refine k_aload0 S dX1_brokenRules_133 (n := 134) rfl ?_
              refine k_getv (v := f 11) (T := TX1) (j := 11) S dX1_brokenRules_134 (zlt S (by decide)) (by decide) (ci := 1) rfl rfl (by decide) in_1 m_83 rfl rfl (by simp [zu, zset, upd]) (n := 137) rfl ?_
              refine k_aload0 S dX1_brokenRules_137 (n := 138) rfl ?_
              refine k_getv (v := f 14) (T := TX1) (j := 14) S dX1_brokenRules_138 (zlt S (by decide)) (by decide) (ci := 1) rfl rfl (by decide) in_1 m_86 rfl rfl (by simp [zu, zset, upd]) (n := 141) rfl ?_
              refine k_aload0 S dX1_brokenRules_141 (n := 142) rfl ?_
              refine k_getv (v := f 15) (T := TX1) (j := 15) S dX1_brokenRules_142 (zlt S (by decide)) (by decide) (ci := 1) rfl rfl (by decide) in_1 m_87 rfl rfl (by simp [zu, zset, upd]) (n := 145) rfl ?_
              refine k_iconst S dX1_brokenRules_145 (v := 4) (by decide) (n := 146) rfl ?_
              refine k_callS (As := [.int (f 11), .int (f 14), .int (f 15), .int 4]) (rest := [.int 6, .int (((((zbo 1 ((if (f 9) = 0 then (0 : Int32) else (1 : Int32)))) ||| (zbo 2 ((if (f 4) < 9 then (0 : Int32) else (1 : Int32))))) ||| (zbo 3 ((if (f 5) < 6 then (0 : Int32) else (1 : Int32))))) ||| (zbo 4 ((if (f 6) < 14 then (0 : Int32) else (1 : Int32))))) ||| (zbo 5 ((if (f 0) < 3 then (0 : Int32) else (if ((if (f 10) = 0 then (0 : Int32) else (if (f 10) ≤ 0 then (if (zbc (f 13)) < 2 then 0 else 1) else (if (zbc (f 12)) < 2 then 0 else 1)))) = 0 then (0 : Int32) else (1 : Int32))))))]) S (c_X1_isOften) mv_X1_isOften m_406 dX1_brokenRules_146 rfl rfl ⟨by decide, by decide⟩ rfl rfl (Nat.le_of_ble_eq_true rfl) ⟨by decide, by decide⟩ (n := 149) rfl (fun _ _ h => h.elim) (fun v9 ν9 h9 => ?_)
              rw [h9.1, h9.2]
              show zK x g ({ frames := 2, cells := 0, slots := 0, locals := 43 } : Room) 1 0 0 149 [some (.ref (za g 7))] [.int ((if (f 11) = 0 then (0 : Int32) else (if (f 11) ≤ 0 then (if (zbc (f 15)) < 4 then 0 else 1) else (if (zbc (f 14)) < 4 then 0 else 1)))), .int 6, .int (((((zbo 1 ((if (f 9) = 0 then (0 : Int32) else (1 : Int32)))) ||| (zbo 2 ((if (f 4) < 9 then (0 : Int32) else (1 : Int32))))) ||| (zbo 3 ((if (f 5) < 6 then (0 : Int32) else (1 : Int32))))) ||| (zbo 4 ((if (f 6) < 14 then (0 : Int32) else (1 : Int32))))) ||| (zbo 5 ((if (f 0) < 3 then (0 : Int32) else (if ((if (f 10) = 0 then (0 : Int32) else (if (f 10) ≤ 0 then (if (zbc (f 13)) < 2 then 0 else 1) else (if (zbc (f 12)) < 2 then 0 else 1)))) = 0 then (0 : Int32) else (1 : Int32))))))] (zset μ 7 f)
              refine k_if_eq S dX1_brokenRules_149 (tgt := 156) (by decide) (n := 152) rfl (fun c17 => ?_) (fun c17 => ?_)
              ·
                refine k_iconst S dX1_brokenRules_156 (v := 0) (by decide) (n := 157) rfl ?_
                rw [if_neg c11, if_pos c17] at hJ12
                exact hJ12
              ·
                refine k_iconst S dX1_brokenRules_152 (v := 1) (by decide) (n := 153) rfl ?_
                refine k_goto S dX1_brokenRules_153 (tgt := 157) (by decide) ?_
                rw [if_neg c11, if_neg c17] at hJ12
                exact hJ12
          refine k_icmp_lt S dX1_brokenRules_88 (tgt := 114) (by decide) (n := 91) rfl (fun c9 => ?_) (fun c9 => ?_)
          ·
            refine k_iconst S dX1_brokenRules_114 (v := 0) (by decide) (n := 115) rfl ?_
            rw [if_pos c9] at hJ10
            exact hJ10
          ·
            refine k_aload0 S dX1_brokenRules_91 (n := 92) rfl ?_
            refine k_getv (v := f 10) (T := TX1) (j := 10) S dX1_brokenRules_92 (zlt S (by decide)) (by decide) (ci := 1) rfl rfl (by decide) in_1 m_82 rfl rfl (by simp [zu, zset, upd]) (n := 95) rfl ?_
            refine k_aload0 S dX1_brokenRules_95 (n := 96) rfl ?_
            refine k_getv (v := f 12) (T := TX1) (j := 12) S dX1_brokenRules_96 (zlt S (by decide)) (by decide) (ci := 1) rfl rfl (by decide) in_1 m_84 rfl rfl (by simp [zu, zset, upd]) (n := 99) rfl ?_
            refine k_aload0 S dX1_brokenRules_99 (n := 100) rfl ?_
            refine k_getv (v := f 13) (T := TX1) (j := 13) S dX1_brokenRules_100 (zlt S (by decide)) (by decide) (ci := 1) rfl rfl (by decide) in_1 m_85 rfl rfl (by simp [zu, zset, upd]) (n := 103) rfl ?_
            refine k_iconst S dX1_brokenRules_103 (v := 2) (by decide) (n := 104) rfl ?_
            refine k_callS (As := [.int (f 10), .int (f 12), .int (f 13), .int 2]) (rest := [.int 5, .int ((((zbo 1 ((if (f 9) = 0 then (0 : Int32) else (1 : Int32)))) ||| (zbo 2 ((if (f 4) < 9 then (0 : Int32) else (1 : Int32))))) ||| (zbo 3 ((if (f 5) < 6 then (0 : Int32) else (1 : Int32))))) ||| (zbo 4 ((if (f 6) < 14 then (0 : Int32) else (1 : Int32)))))]) S (c_X1_isOften) mv_X1_isOften m_406 dX1_brokenRules_104 rfl rfl ⟨by decide, by decide⟩ rfl rfl (Nat.le_of_ble_eq_true rfl) ⟨by decide, by decide⟩ (n := 107) rfl (fun _ _ h => h.elim) (fun v9 ν9 h9 => ?_)
            rw [h9.1, h9.2]
            show zK x g ({ frames := 2, cells := 0, slots := 0, locals := 43 } : Room) 1 0 0 107 [some (.ref (za g 7))] [.int ((if (f 10) = 0 then (0 : Int32) else (if (f 10) ≤ 0 then (if (zbc (f 13)) < 2 then 0 else 1) else (if (zbc (f 12)) < 2 then 0 else 1)))), .int 5, .int ((((zbo 1 ((if (f 9) = 0 then (0 : Int32) else (1 : Int32)))) ||| (zbo 2 ((if (f 4) < 9 then (0 : Int32) else (1 : Int32))))) ||| (zbo 3 ((if (f 5) < 6 then (0 : Int32) else (1 : Int32))))) ||| (zbo 4 ((if (f 6) < 14 then (0 : Int32) else (1 : Int32)))))] (zset μ 7 f)
            refine k_if_eq S dX1_brokenRules_107 (tgt := 114) (by decide) (n := 110) rfl (fun c18 => ?_) (fun c18 => ?_)
            ·
              refine k_iconst S dX1_brokenRules_114 (v := 0) (by decide) (n := 115) rfl ?_
              rw [if_neg c9, if_pos c18] at hJ10
              exact hJ10
            ·
              refine k_iconst S dX1_brokenRules_110 (v := 1) (by decide) (n := 111) rfl ?_
              refine k_goto S dX1_brokenRules_111 (tgt := 115) (by decide) ?_
              rw [if_neg c9, if_neg c18] at hJ10
              exact hJ10
        refine k_icmp_lt S dX1_brokenRules_67 (tgt := 74) (by decide) (n := 70) rfl (fun c7 => ?_) (fun c7 => ?_)
        ·
          refine k_iconst S dX1_brokenRules_74 (v := 0) (by decide) (n := 75) rfl ?_
          rw [if_pos c7] at hJ8
          exact hJ8
        ·
          refine k_iconst S dX1_brokenRules_70 (v := 1) (by decide) (n := 71) rfl ?_
          refine k_goto S dX1_brokenRules_71 (tgt := 75) (by decide) ?_
          rw [if_neg c7] at hJ8
          exact hJ8
      refine k_icmp_lt S dX1_brokenRules_46 (tgt := 53) (by decide) (n := 49) rfl (fun c5 => ?_) (fun c5 => ?_)
      ·
        refine k_iconst S dX1_brokenRules_53 (v := 0) (by decide) (n := 54) rfl ?_
        rw [if_pos c5] at hJ6
        exact hJ6
      ·
        refine k_iconst S dX1_brokenRules_49 (v := 1) (by decide) (n := 50) rfl ?_
        refine k_goto S dX1_brokenRules_50 (tgt := 54) (by decide) ?_
        rw [if_neg c5] at hJ6
        exact hJ6
    refine k_icmp_lt S dX1_brokenRules_25 (tgt := 32) (by decide) (n := 28) rfl (fun c3 => ?_) (fun c3 => ?_)
    ·
      refine k_iconst S dX1_brokenRules_32 (v := 0) (by decide) (n := 33) rfl ?_
      rw [if_pos c3] at hJ4
      exact hJ4
    ·
      refine k_iconst S dX1_brokenRules_28 (v := 1) (by decide) (n := 29) rfl ?_
      refine k_goto S dX1_brokenRules_29 (tgt := 33) (by decide) ?_
      rw [if_neg c3] at hJ4
      exact hJ4
  refine k_if_eq S dX1_brokenRules_5 (tgt := 12) (by decide) (n := 8) rfl (fun c1 => ?_) (fun c1 => ?_)
  ·
    refine k_iconst S dX1_brokenRules_12 (v := 0) (by decide) (n := 13) rfl ?_
    rw [if_pos c1] at hJ2
    exact hJ2
  ·
    refine k_iconst S dX1_brokenRules_8 (v := 1) (by decide) (n := 9) rfl ?_
    refine k_goto S dX1_brokenRules_9 (tgt := 13) (by decide) ?_
    rw [if_neg c1] at hJ2
    exact hJ2
