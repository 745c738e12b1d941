/-! THE LAW'S SMALL METHODS -/
def zcd (E : String) : Int64 := if E = "java/lang/IndexOutOfBoundsException" then (-99000011) else if E = "java/lang/IllegalArgumentException" then (-99000012) else (-99000013)
theorem zcd_p : zcd "java/lang/IndexOutOfBoundsException" = (-99000011) := by decide
theorem zcd_a : zcd "java/lang/IllegalArgumentException" = (-99000012) := by decide
theorem zcd_s : zcd "java/lang/IllegalStateException" = (-99000013) := by decide
theorem mv_L_begin : zMH yL_begin cL_begin 3 (some .int) [(0, 6, 7, 13)] 2 := ⟨m_336, m_0, m_337, by decide +kernel⟩
theorem mv_L_holds : zMH yL_holds cL_holds 3 (some .int) [(0, 6, 7, 18), (0, 6, 11, 20)] 2 := ⟨m_419, m_0, m_420, by decide +kernel⟩
theorem mv_L_thaws : zMH yL_thaws cL_thaws 3 (some .int) [(0, 6, 7, 18), (0, 6, 11, 20)] 2 := ⟨m_450, m_0, m_451, by decide +kernel⟩
theorem mv_L_act : zMH yL_act cL_act 6 (some .long) [(0, 302, 303, 18), (0, 302, 309, 13), (0, 302, 315, 20)] 5 := ⟨m_458, m_0, m_459, by decide +kernel⟩
theorem mv_L_two : zMS yL_two cL_two 3 (some .boolean) 3 := ⟨m_625, m_0, m_626, by decide +kernel⟩
theorem mv_L_limits : zMS yL_limits cL_limits 4 (some .boolean) 4 := ⟨m_628, m_0, m_629, by decide +kernel⟩
theorem mv_L_breaks : zMS yL_breaks cL_breaks 3 (some .boolean) 3 := ⟨m_631, m_0, m_632, by decide +kernel⟩
theorem mv_L_refuses : zMS yL_refuses cL_refuses 17 (some .boolean) 1 := ⟨m_345, m_0, m_346, by decide +kernel⟩
theorem mv_L_charts : zMS yL_charts cL_charts 1 (some .boolean) 0 := ⟨m_622, m_0, m_623, by decide +kernel⟩
theorem mv_L_rules : zMS yL_rules cL_rules 3 (some .boolean) 0 := ⟨m_638, m_0, m_639, by decide +kernel⟩
set_option maxRecDepth 100000 in
set_option maxHeartbeats 4000000 in
theorem x_begin {l : Launch} {g : zG} {μ : zM} {v : Int32} (hM : zC l g yX3_begin cX3_begin 2 none ({ frames := 6, cells := 1, slots := 6, locals := 82 } : Room) 1 6 [.ref (za g 0), .int v] μ zNR (zXv "java/lang/IllegalArgumentException" μ)) : zCH l g yL_begin cL_begin 3 (some .int) [(0, 6, 7, 13)] ({ frames := 7, cells := 1, slots := 6, locals := 103 } : Room) 1 6 [.ref (za g 0), .int v] μ (zRv (some (.int (-12))) μ) zNX := by
  refine zCH_of (L0 := [some (.ref (za g 0)), some (.int v), none]) (by decide) (Nat.le_of_ble_eq_true rfl) rfl ?_
  intro x S Y hxl
  subst hxl
  have hKX : ∀ (E9 : String) (ν9 : zM), zXv "java/lang/IllegalArgumentException" μ E9 ν9 → zKX x g ({ frames := 7, cells := 1, slots := 6, locals := 103 } : Room) 3 (0 + 1) (0 + 6) 2 [some (.ref (za g 0)), some (.int v), none] [] E9 ν9 := by
    intro E9 ν9 h9
    obtain ⟨e1, e2⟩ := h9
    subst e1
    subst e2
    refine k_catch S Y (tableOf []) ⟨0, 6, 7, 13⟩ (tableOf []) rfl (fun y hy => absurd hy List.not_mem_nil) (by decide) (by decide) m_338 (by decide +kernel) rfl (fun q9 => ?_)
    refine k_astore2 S dL_begin_7 (by decide) rfl (n := 8) rfl ?_
    refine k_bipush S dL_begin_8 (v := (-12)) (by decide) (n := 10) rfl ?_
    exact k_iret S Y dL_begin_10 (by decide) (by decide) rfl (⟨rfl, rfl⟩)
  refine k_aload0 S dL_begin_0 (n := 1) rfl ?_
  refine k_iload1 S dL_begin_1 (n := 2) rfl ?_
  refine k_callV (As := [.int v]) (rest := []) (p := 0) S (hM) mv_X3_begin m_339 dL_begin_2 rfl rfl ⟨by decide, by decide⟩ (zlt S (by decide)) (by decide) (ci := 3) rfl rfl rfl (Nat.le_of_ble_eq_true rfl) ⟨by decide, by decide⟩ (n := 5) rfl hKX (fun v9 ν9 h9 => ?_)
  exact False.elim h9
set_option maxRecDepth 100000 in
set_option maxHeartbeats 4000000 in
theorem x_holds {l : Launch} {g : zG} {μ : zM} {v : Int32} {E : String} (hE : E = "java/lang/IndexOutOfBoundsException" ∨ E = "java/lang/IllegalStateException") (hM : zC l g yX3_freeze cX3_freeze 3 none ({ frames := 7, cells := 2, slots := 12, locals := 103 } : Room) 2 12 [.ref (za g 0), .int v] μ zNR (zXv E μ)) : zCH l g yL_holds cL_holds 3 (some .int) [(0, 6, 7, 18), (0, 6, 11, 20)] ({ frames := 8, cells := 2, slots := 12, locals := 125 } : Room) 2 12 [.ref (za g 0), .int v] μ (zRv (some (.int (if E = "java/lang/IndexOutOfBoundsException" then (-11) else (-13)))) μ) zNX := by
  refine zCH_of (L0 := [some (.ref (za g 0)), some (.int v), none]) (by decide) (Nat.le_of_ble_eq_true rfl) rfl ?_
  intro x S Y hxl
  subst hxl
  have hKX : ∀ (E9 : String) (ν9 : zM), zXv E μ E9 ν9 → zKX x g ({ frames := 8, cells := 2, slots := 12, locals := 125 } : Room) 3 (0 + 2) (0 + 12) 2 [some (.ref (za g 0)), some (.int v), none] [] E9 ν9 := by
    intro E9 ν9 h9
    obtain ⟨e1, e2⟩ := h9
    subst e1
    subst e2
    rcases hE with e | e
    · subst e
      refine k_catch S Y (tableOf []) ⟨0, 6, 7, 18⟩ (tableOf [(0, 6, 11, 20)]) rfl (fun y hy => absurd hy List.not_mem_nil) (by decide) (by decide) m_421 (by decide +kernel) rfl (fun q9 => ?_)
      refine k_astore2 S dL_holds_7 (by decide) rfl (n := 8) rfl ?_
      refine k_bipush S dL_holds_8 (v := (-11)) (by decide) (n := 10) rfl ?_
      exact k_iret S Y dL_holds_10 (by decide) (by decide) rfl (⟨by rfl, rfl⟩)
    · subst e
      refine k_catch S Y (tableOf [(0, 6, 7, 18)]) ⟨0, 6, 11, 20⟩ (tableOf []) rfl (fun y hy => by simp only [tableOf, List.map, List.mem_cons, List.not_mem_nil, or_false] at hy; have e := hy; subst e <;> first | exact ⟨by decide, "java/lang/IndexOutOfBoundsException", m_421, by decide⟩) (by decide) (by decide) m_422 (by decide +kernel) rfl (fun q9 => ?_)
      refine k_astore2 S dL_holds_11 (by decide) rfl (n := 12) rfl ?_
      refine k_bipush S dL_holds_12 (v := (-13)) (by decide) (n := 14) rfl ?_
      exact k_iret S Y dL_holds_14 (by decide) (by decide) rfl (⟨by rfl, rfl⟩)
  refine k_aload0 S dL_holds_0 (n := 1) rfl ?_
  refine k_iload1 S dL_holds_1 (n := 2) rfl ?_
  refine k_callV (As := [.int v]) (rest := []) (p := 0) S (hM) mv_X3_freeze m_423 dL_holds_2 rfl rfl ⟨by decide, by decide⟩ (zlt S (by decide)) (by decide) (ci := 3) rfl rfl rfl (Nat.le_of_ble_eq_true rfl) ⟨by decide, by decide⟩ (n := 5) rfl hKX (fun v9 ν9 h9 => ?_)
  exact False.elim h9
set_option maxRecDepth 100000 in
set_option maxHeartbeats 4000000 in
theorem x_thaws {l : Launch} {g : zG} {μ : zM} {v : Int32} {E : String} (hE : E = "java/lang/IndexOutOfBoundsException" ∨ E = "java/lang/IllegalStateException") (hM : zC l g yX3_thaw cX3_thaw 3 none ({ frames := 7, cells := 2, slots := 12, locals := 103 } : Room) 2 12 [.ref (za g 0), .int v] μ zNR (zXv E μ)) : zCH l g yL_thaws cL_thaws 3 (some .int) [(0, 6, 7, 18), (0, 6, 11, 20)] ({ frames := 8, cells := 2, slots := 12, locals := 125 } : Room) 2 12 [.ref (za g 0), .int v] μ (zRv (some (.int (if E = "java/lang/IndexOutOfBoundsException" then (-11) else (-13)))) μ) zNX := by
  refine zCH_of (L0 := [some (.ref (za g 0)), some (.int v), none]) (by decide) (Nat.le_of_ble_eq_true rfl) rfl ?_
  intro x S Y hxl
  subst hxl
  have hKX : ∀ (E9 : String) (ν9 : zM), zXv E μ E9 ν9 → zKX x g ({ frames := 8, cells := 2, slots := 12, locals := 125 } : Room) 3 (0 + 2) (0 + 12) 2 [some (.ref (za g 0)), some (.int v), none] [] E9 ν9 := by
    intro E9 ν9 h9
    obtain ⟨e1, e2⟩ := h9
    subst e1
    subst e2
    rcases hE with e | e
    · subst e
      refine k_catch S Y (tableOf []) ⟨0, 6, 7, 18⟩ (tableOf [(0, 6, 11, 20)]) rfl (fun y hy => absurd hy List.not_mem_nil) (by decide) (by decide) m_421 (by decide +kernel) rfl (fun q9 => ?_)
      refine k_astore2 S dL_thaws_7 (by decide) rfl (n := 8) rfl ?_
      refine k_bipush S dL_thaws_8 (v := (-11)) (by decide) (n := 10) rfl ?_
      exact k_iret S Y dL_thaws_10 (by decide) (by decide) rfl (⟨by rfl, rfl⟩)
    · subst e
      refine k_catch S Y (tableOf [(0, 6, 7, 18)]) ⟨0, 6, 11, 20⟩ (tableOf []) rfl (fun y hy => by simp only [tableOf, List.map, List.mem_cons, List.not_mem_nil, or_false] at hy; have e := hy; subst e <;> first | exact ⟨by decide, "java/lang/IndexOutOfBoundsException", m_421, by decide⟩) (by decide) (by decide) m_422 (by decide +kernel) rfl (fun q9 => ?_)
      refine k_astore2 S dL_thaws_11 (by decide) rfl (n := 12) rfl ?_
      refine k_bipush S dL_thaws_12 (v := (-13)) (by decide) (n := 14) rfl ?_
      exact k_iret S Y dL_thaws_14 (by decide) (by decide) rfl (⟨by rfl, rfl⟩)
  refine k_aload0 S dL_thaws_0 (n := 1) rfl ?_
  refine k_iload1 S dL_thaws_1 (n := 2) rfl ?_
  refine k_callV (As := [.int v]) (rest := []) (p := 0) S (hM) mv_X3_thaw m_452 dL_thaws_2 rfl rfl ⟨by decide, by decide⟩ (zlt S (by decide)) (by decide) (ci := 3) rfl rfl rfl (Nat.le_of_ble_eq_true rfl) ⟨by decide, by decide⟩ (n := 5) rfl hKX (fun v9 ν9 h9 => ?_)
  exact False.elim h9
set_option maxRecDepth 100000 in
set_option maxHeartbeats 4000000 in
theorem y_begin {l : Launch} {g : zG} {μ ν : zM} {v : Int32} (hM : zC l g yX3_begin cX3_begin 2 none ({ frames := 6, cells := 1, slots := 6, locals := 82 } : Room) 1 6 [.ref (za g 0), .int v] μ (zRv none ν) zNX) : zCH l g yL_begin cL_begin 3 (some .int) [(0, 6, 7, 13)] ({ frames := 7, cells := 1, slots := 6, locals := 103 } : Room) 1 6 [.ref (za g 0), .int v] μ (zRv (some (.int 0)) ν) zNX := by
  refine zCH_of (L0 := [some (.ref (za g 0)), some (.int v), none]) (by decide) (Nat.le_of_ble_eq_true rfl) rfl ?_
  intro x S Y hxl
  subst hxl
  refine k_aload0 S dL_begin_0 (n := 1) rfl ?_
  refine k_iload1 S dL_begin_1 (n := 2) rfl ?_
  refine k_callV (As := [.int v]) (rest := []) (p := 0) S (hM) mv_X3_begin m_339 dL_begin_2 rfl rfl ⟨by decide, by decide⟩ (zlt S (by decide)) (by decide) (ci := 3) rfl rfl rfl (Nat.le_of_ble_eq_true rfl) ⟨by decide, by decide⟩ (n := 5) rfl (fun _ _ h => h.elim) (fun v9 ν9 h9 => ?_)
  rw [h9.1, h9.2]
  show zK x g ({ frames := 7, cells := 1, slots := 6, locals := 103 } : Room) 3 1 6 5 [some (.ref (za g 0)), some (.int v), none] [] ν
  refine k_iconst S dL_begin_5 (v := 0) (by decide) (n := 6) rfl ?_
  exact k_iret S Y dL_begin_6 (by decide) (by decide) rfl (⟨rfl, rfl⟩)
set_option maxRecDepth 100000 in
set_option maxHeartbeats 4000000 in
theorem y_holds {l : Launch} {g : zG} {μ ν : zM} {v : Int32} (hM : zC l g yX3_freeze cX3_freeze 3 none ({ frames := 7, cells := 2, slots := 12, locals := 103 } : Room) 2 12 [.ref (za g 0), .int v] μ (zRv none ν) zNX) : zCH l g yL_holds cL_holds 3 (some .int) [(0, 6, 7, 18), (0, 6, 11, 20)] ({ frames := 8, cells := 2, slots := 12, locals := 125 } : Room) 2 12 [.ref (za g 0), .int v] μ (zRv (some (.int 0)) ν) zNX := by
  refine zCH_of (L0 := [some (.ref (za g 0)), some (.int v), none]) (by decide) (Nat.le_of_ble_eq_true rfl) rfl ?_
  intro x S Y hxl
  subst hxl
  refine k_aload0 S dL_holds_0 (n := 1) rfl ?_
  refine k_iload1 S dL_holds_1 (n := 2) rfl ?_
  refine k_callV (As := [.int v]) (rest := []) (p := 0) S (hM) mv_X3_freeze m_423 dL_holds_2 rfl rfl ⟨by decide, by decide⟩ (zlt S (by decide)) (by decide) (ci := 3) rfl rfl rfl (Nat.le_of_ble_eq_true rfl) ⟨by decide, by decide⟩ (n := 5) rfl (fun _ _ h => h.elim) (fun v9 ν9 h9 => ?_)
  rw [h9.1, h9.2]
  show zK x g ({ frames := 8, cells := 2, slots := 12, locals := 125 } : Room) 3 2 12 5 [some (.ref (za g 0)), some (.int v), none] [] ν
  refine k_iconst S dL_holds_5 (v := 0) (by decide) (n := 6) rfl ?_
  exact k_iret S Y dL_holds_6 (by decide) (by decide) rfl (⟨rfl, rfl⟩)
set_option maxRecDepth 100000 in
set_option maxHeartbeats 4000000 in
theorem y_thaws {l : Launch} {g : zG} {μ ν : zM} {v : Int32} (hM : zC l g yX3_thaw cX3_thaw 3 none ({ frames := 7, cells := 2, slots := 12, locals := 103 } : Room) 2 12 [.ref (za g 0), .int v] μ (zRv none ν) zNX) : zCH l g yL_thaws cL_thaws 3 (some .int) [(0, 6, 7, 18), (0, 6, 11, 20)] ({ frames := 8, cells := 2, slots := 12, locals := 125 } : Room) 2 12 [.ref (za g 0), .int v] μ (zRv (some (.int 0)) ν) zNX := by
  refine zCH_of (L0 := [some (.ref (za g 0)), some (.int v), none]) (by decide) (Nat.le_of_ble_eq_true rfl) rfl ?_
  intro x S Y hxl
  subst hxl
  refine k_aload0 S dL_thaws_0 (n := 1) rfl ?_
  refine k_iload1 S dL_thaws_1 (n := 2) rfl ?_
  refine k_callV (As := [.int v]) (rest := []) (p := 0) S (hM) mv_X3_thaw m_452 dL_thaws_2 rfl rfl ⟨by decide, by decide⟩ (zlt S (by decide)) (by decide) (ci := 3) rfl rfl rfl (Nat.le_of_ble_eq_true rfl) ⟨by decide, by decide⟩ (n := 5) rfl (fun _ _ h => h.elim) (fun v9 ν9 h9 => ?_)
  rw [h9.1, h9.2]
  show zK x g ({ frames := 8, cells := 2, slots := 12, locals := 125 } : Room) 3 2 12 5 [some (.ref (za g 0)), some (.int v), none] [] ν
  refine k_iconst S dL_thaws_5 (v := 0) (by decide) (n := 6) rfl ?_
  exact k_iret S Y dL_thaws_6 (by decide) (by decide) rfl (⟨rfl, rfl⟩)
set_option maxRecDepth 100000 in
set_option maxHeartbeats 4000000 in
theorem x_act0 {l : Launch} {g : zG} {μ : zM} {a b c : Int32} {E : String} (hE : E = "java/lang/IndexOutOfBoundsException" ∨ E = "java/lang/IllegalArgumentException" ∨ E = "java/lang/IllegalStateException") (hM : zC l g yX3_put cX3_put 2 (some .boolean) ({ frames := 6, cells := 1, slots := 6, locals := 138 } : Room) 1 6 [.ref (za g 0), .int a] μ zNR (zXv E μ)) : zCH l g yL_act cL_act 6 (some .long) [(0, 302, 303, 18), (0, 302, 309, 13), (0, 302, 315, 20)] ({ frames := 7, cells := 1, slots := 6, locals := 159 } : Room) 1 6 [.ref (za g 0), .int 0, .int a, .int b, .int c] μ (zRv (some (.long (zcd E))) μ) zNX := by
  refine zCH_of (L0 := [some (.ref (za g 0)), some (.int 0), some (.int a), some (.int b), some (.int c), none]) (by decide) (Nat.le_of_ble_eq_true rfl) rfl ?_
  intro x S Y hxl
  subst hxl
  have hKX : ∀ (E9 : String) (ν9 : zM), zXv E μ E9 ν9 → zKX x g ({ frames := 7, cells := 1, slots := 6, locals := 159 } : Room) 6 (0 + 1) (0 + 6) 6 [some (.ref (za g 0)), some (.int 0), some (.int a), some (.int b), some (.int c), none] [] E9 ν9 := by
    intro E9 ν9 h9
    obtain ⟨e1, e2⟩ := h9
    subst e1
    subst e2
    rcases hE with e | e | e
    · subst e
      refine k_catch S Y (tableOf []) ⟨0, 302, 303, 18⟩ (tableOf [(0, 302, 309, 13), (0, 302, 315, 20)]) rfl (fun y hy => absurd hy List.not_mem_nil) (by decide) (by decide) m_421 (by decide +kernel) rfl (fun q9 => ?_)
      refine k_astore5 S dL_act_303 (by decide) rfl (n := 305) rfl ?_
      refine k_ldc2 S dL_act_305 (v := (-99000011)) m_415 (n := 308) rfl ?_
      exact k_lret S Y dL_act_308 (by decide) (by decide) (⟨by rw [zcd_p], rfl⟩)
    · subst e
      refine k_catch S Y (tableOf [(0, 302, 303, 18)]) ⟨0, 302, 309, 13⟩ (tableOf [(0, 302, 315, 20)]) rfl (fun y hy => by simp only [tableOf, List.map, List.mem_cons, List.not_mem_nil, or_false] at hy; have e := hy; subst e <;> first | exact ⟨by decide, "java/lang/IndexOutOfBoundsException", m_421, by decide⟩) (by decide) (by decide) m_338 (by decide +kernel) rfl (fun q9 => ?_)
      refine k_astore5 S dL_act_309 (by decide) rfl (n := 311) rfl ?_
      refine k_ldc2 S dL_act_311 (v := (-99000012)) m_416 (n := 314) rfl ?_
      exact k_lret S Y dL_act_314 (by decide) (by decide) (⟨by rw [zcd_a], rfl⟩)
    · subst e
      refine k_catch S Y (tableOf [(0, 302, 303, 18), (0, 302, 309, 13)]) ⟨0, 302, 315, 20⟩ (tableOf []) rfl (fun y hy => by simp only [tableOf, List.map, List.mem_cons, List.not_mem_nil, or_false] at hy; rcases hy with e | e <;> subst e <;> first | exact ⟨by decide, "java/lang/IndexOutOfBoundsException", m_421, by decide⟩ | exact ⟨by decide, "java/lang/IllegalArgumentException", m_338, by decide⟩) (by decide) (by decide) m_422 (by decide +kernel) rfl (fun q9 => ?_)
      refine k_astore5 S dL_act_315 (by decide) rfl (n := 317) rfl ?_
      refine k_ldc2 S dL_act_317 (v := (-99000013)) m_620 (n := 320) rfl ?_
      exact k_lret S Y dL_act_320 (by decide) (by decide) (⟨by rw [zcd_s], rfl⟩)
  refine k_iload1 S dL_act_0 (n := 1) rfl ?_
  refine k_if_ne S dL_act_1 (tgt := 21) (by decide) (n := 4) rfl (fun h9 => absurd (by decide) h9) (fun _ => ?_)
  refine k_aload0 S dL_act_4 (n := 5) rfl ?_
  refine k_iload2 S dL_act_5 (n := 6) rfl ?_
  refine k_callV (As := [.int a]) (rest := []) (p := 0) S (hM) mv_X3_put m_194 dL_act_6 rfl rfl ⟨by decide, by decide⟩ (zlt S (by decide)) (by decide) (ci := 3) rfl rfl rfl (Nat.le_of_ble_eq_true rfl) ⟨by decide, by decide⟩ (n := 9) rfl hKX (fun v9 ν9 h9 => ?_)
  exact False.elim h9
set_option maxRecDepth 100000 in
set_option maxHeartbeats 4000000 in
theorem x_act1 {l : Launch} {g : zG} {μ : zM} {a b c : Int32} {E : String} (hE : E = "java/lang/IndexOutOfBoundsException" ∨ E = "java/lang/IllegalArgumentException" ∨ E = "java/lang/IllegalStateException") (hM : zC l g yX3_newPhase cX3_newPhase 1 (some .int) ({ frames := 6, cells := 1, slots := 6, locals := 82 } : Room) 1 6 [.ref (za g 0)] μ zNR (zXv E μ)) : zCH l g yL_act cL_act 6 (some .long) [(0, 302, 303, 18), (0, 302, 309, 13), (0, 302, 315, 20)] ({ frames := 7, cells := 1, slots := 6, locals := 102 } : Room) 1 6 [.ref (za g 0), .int 1, .int a, .int b, .int c] μ (zRv (some (.long (zcd E))) μ) zNX := by
  refine zCH_of (L0 := [some (.ref (za g 0)), some (.int 1), some (.int a), some (.int b), some (.int c), none]) (by decide) (Nat.le_of_ble_eq_true rfl) rfl ?_
  intro x S Y hxl
  subst hxl
  have hKX : ∀ (E9 : String) (ν9 : zM), zXv E μ E9 ν9 → zKX x g ({ frames := 7, cells := 1, slots := 6, locals := 102 } : Room) 6 (0 + 1) (0 + 6) 27 [some (.ref (za g 0)), some (.int 1), some (.int a), some (.int b), some (.int c), none] [] E9 ν9 := by
    intro E9 ν9 h9
    obtain ⟨e1, e2⟩ := h9
    subst e1
    subst e2
    rcases hE with e | e | e
    · subst e
      refine k_catch S Y (tableOf []) ⟨0, 302, 303, 18⟩ (tableOf [(0, 302, 309, 13), (0, 302, 315, 20)]) rfl (fun y hy => absurd hy List.not_mem_nil) (by decide) (by decide) m_421 (by decide +kernel) rfl (fun q9 => ?_)
      refine k_astore5 S dL_act_303 (by decide) rfl (n := 305) rfl ?_
      refine k_ldc2 S dL_act_305 (v := (-99000011)) m_415 (n := 308) rfl ?_
      exact k_lret S Y dL_act_308 (by decide) (by decide) (⟨by rw [zcd_p], rfl⟩)
    · subst e
      refine k_catch S Y (tableOf [(0, 302, 303, 18)]) ⟨0, 302, 309, 13⟩ (tableOf [(0, 302, 315, 20)]) rfl (fun y hy => by simp only [tableOf, List.map, List.mem_cons, List.not_mem_nil, or_false] at hy; have e := hy; subst e <;> first | exact ⟨by decide, "java/lang/IndexOutOfBoundsException", m_421, by decide⟩) (by decide) (by decide) m_338 (by decide +kernel) rfl (fun q9 => ?_)
      refine k_astore5 S dL_act_309 (by decide) rfl (n := 311) rfl ?_
      refine k_ldc2 S dL_act_311 (v := (-99000012)) m_416 (n := 314) rfl ?_
      exact k_lret S Y dL_act_314 (by decide) (by decide) (⟨by rw [zcd_a], rfl⟩)
    · subst e
      refine k_catch S Y (tableOf [(0, 302, 303, 18), (0, 302, 309, 13)]) ⟨0, 302, 315, 20⟩ (tableOf []) rfl (fun y hy => by simp only [tableOf, List.map, List.mem_cons, List.not_mem_nil, or_false] at hy; rcases hy with e | e <;> subst e <;> first | exact ⟨by decide, "java/lang/IndexOutOfBoundsException", m_421, by decide⟩ | exact ⟨by decide, "java/lang/IllegalArgumentException", m_338, by decide⟩) (by decide) (by decide) m_422 (by decide +kernel) rfl (fun q9 => ?_)
      refine k_astore5 S dL_act_315 (by decide) rfl (n := 317) rfl ?_
      refine k_ldc2 S dL_act_317 (v := (-99000013)) m_620 (n := 320) rfl ?_
      exact k_lret S Y dL_act_320 (by decide) (by decide) (⟨by rw [zcd_s], rfl⟩)
  refine k_iload1 S dL_act_0 (n := 1) rfl ?_
  refine k_if_ne S dL_act_1 (tgt := 21) (by decide) (n := 4) rfl (fun _ => ?_) (fun h9 => absurd h9 (by decide))
  refine k_iload1 S dL_act_21 (n := 22) rfl ?_
  refine k_iconst S dL_act_22 (v := 1) (by decide) (n := 23) rfl ?_
  refine k_icmp_ne S dL_act_23 (tgt := 34) (by decide) (n := 26) rfl (fun h9 => absurd (by decide) h9) (fun _ => ?_)
  refine k_aload0 S dL_act_26 (n := 27) rfl ?_
  refine k_callV (As := []) (rest := []) (p := 0) S (hM) mv_X3_newPhase m_460 dL_act_27 rfl rfl ⟨by decide, by decide⟩ (zlt S (by decide)) (by decide) (ci := 3) rfl rfl rfl (Nat.le_of_ble_eq_true rfl) ⟨by decide, by decide⟩ (n := 30) rfl hKX (fun v9 ν9 h9 => ?_)
  exact False.elim h9
set_option maxRecDepth 100000 in
set_option maxHeartbeats 4000000 in
theorem x_act2 {l : Launch} {g : zG} {μ : zM} {a b c : Int32} {E : String} (hE : E = "java/lang/IndexOutOfBoundsException" ∨ E = "java/lang/IllegalArgumentException" ∨ E = "java/lang/IllegalStateException") (hM : zC l g yX3_exclude cX3_exclude 4 (some .int) ({ frames := 7, cells := 2, slots := 12, locals := 117 } : Room) 2 12 [.ref (za g 0), .int a, .int b] μ zNR (zXv E μ)) : zCH l g yL_act cL_act 6 (some .long) [(0, 302, 303, 18), (0, 302, 309, 13), (0, 302, 315, 20)] ({ frames := 8, cells := 2, slots := 12, locals := 140 } : Room) 2 12 [.ref (za g 0), .int 2, .int a, .int b, .int c] μ (zRv (some (.long (zcd E))) μ) zNX := by
  refine zCH_of (L0 := [some (.ref (za g 0)), some (.int 2), some (.int a), some (.int b), some (.int c), none]) (by decide) (Nat.le_of_ble_eq_true rfl) rfl ?_
  intro x S Y hxl
  subst hxl
  have hKX : ∀ (E9 : String) (ν9 : zM), zXv E μ E9 ν9 → zKX x g ({ frames := 8, cells := 2, slots := 12, locals := 140 } : Room) 6 (0 + 2) (0 + 12) 42 [some (.ref (za g 0)), some (.int 2), some (.int a), some (.int b), some (.int c), none] [] E9 ν9 := by
    intro E9 ν9 h9
    obtain ⟨e1, e2⟩ := h9
    subst e1
    subst e2
    rcases hE with e | e | e
    · subst e
      refine k_catch S Y (tableOf []) ⟨0, 302, 303, 18⟩ (tableOf [(0, 302, 309, 13), (0, 302, 315, 20)]) rfl (fun y hy => absurd hy List.not_mem_nil) (by decide) (by decide) m_421 (by decide +kernel) rfl (fun q9 => ?_)
      refine k_astore5 S dL_act_303 (by decide) rfl (n := 305) rfl ?_
      refine k_ldc2 S dL_act_305 (v := (-99000011)) m_415 (n := 308) rfl ?_
      exact k_lret S Y dL_act_308 (by decide) (by decide) (⟨by rw [zcd_p], rfl⟩)
    · subst e
      refine k_catch S Y (tableOf [(0, 302, 303, 18)]) ⟨0, 302, 309, 13⟩ (tableOf [(0, 302, 315, 20)]) rfl (fun y hy => by simp only [tableOf, List.map, List.mem_cons, List.not_mem_nil, or_false] at hy; have e := hy; subst e <;> first | exact ⟨by decide, "java/lang/IndexOutOfBoundsException", m_421, by decide⟩) (by decide) (by decide) m_338 (by decide +kernel) rfl (fun q9 => ?_)
      refine k_astore5 S dL_act_309 (by decide) rfl (n := 311) rfl ?_
      refine k_ldc2 S dL_act_311 (v := (-99000012)) m_416 (n := 314) rfl ?_
      exact k_lret S Y dL_act_314 (by decide) (by decide) (⟨by rw [zcd_a], rfl⟩)
    · subst e
      refine k_catch S Y (tableOf [(0, 302, 303, 18), (0, 302, 309, 13)]) ⟨0, 302, 315, 20⟩ (tableOf []) rfl (fun y hy => by simp only [tableOf, List.map, List.mem_cons, List.not_mem_nil, or_false] at hy; rcases hy with e | e <;> subst e <;> first | exact ⟨by decide, "java/lang/IndexOutOfBoundsException", m_421, by decide⟩ | exact ⟨by decide, "java/lang/IllegalArgumentException", m_338, by decide⟩) (by decide) (by decide) m_422 (by decide +kernel) rfl (fun q9 => ?_)
      refine k_astore5 S dL_act_315 (by decide) rfl (n := 317) rfl ?_
      refine k_ldc2 S dL_act_317 (v := (-99000013)) m_620 (n := 320) rfl ?_
      exact k_lret S Y dL_act_320 (by decide) (by decide) (⟨by rw [zcd_s], rfl⟩)
  refine k_iload1 S dL_act_0 (n := 1) rfl ?_
  refine k_if_ne S dL_act_1 (tgt := 21) (by decide) (n := 4) rfl (fun _ => ?_) (fun h9 => absurd h9 (by decide))
  refine k_iload1 S dL_act_21 (n := 22) rfl ?_
  refine k_iconst S dL_act_22 (v := 1) (by decide) (n := 23) rfl ?_
  refine k_icmp_ne S dL_act_23 (tgt := 34) (by decide) (n := 26) rfl (fun _ => ?_) (fun h9 => absurd h9 (by decide))
  refine k_iload1 S dL_act_34 (n := 35) rfl ?_
  refine k_iconst S dL_act_35 (v := 2) (by decide) (n := 36) rfl ?_
  refine k_icmp_ne S dL_act_36 (tgt := 49) (by decide) (n := 39) rfl (fun h9 => absurd (by decide) h9) (fun _ => ?_)
  refine k_aload0 S dL_act_39 (n := 40) rfl ?_
  refine k_iload2 S dL_act_40 (n := 41) rfl ?_
  refine k_iload3 S dL_act_41 (n := 42) rfl ?_
  refine k_callV (As := [.int a, .int b]) (rest := []) (p := 0) S (hM) mv_X3_exclude m_471 dL_act_42 rfl rfl ⟨by decide, by decide⟩ (zlt S (by decide)) (by decide) (ci := 3) rfl rfl rfl (Nat.le_of_ble_eq_true rfl) ⟨by decide, by decide⟩ (n := 45) rfl hKX (fun v9 ν9 h9 => ?_)
  exact False.elim h9
set_option maxRecDepth 100000 in
set_option maxHeartbeats 4000000 in
theorem x_act3 {l : Launch} {g : zG} {μ : zM} {a b c : Int32} {E : String} (hE : E = "java/lang/IndexOutOfBoundsException" ∨ E = "java/lang/IllegalArgumentException" ∨ E = "java/lang/IllegalStateException") (hM : zC l g yX3_mean cX3_mean 2 (some .int) ({ frames := 7, cells := 1, slots := 6, locals := 103 } : Room) 1 6 [.ref (za g 0), .int a] μ zNR (zXv E μ)) : zCH l g yL_act cL_act 6 (some .long) [(0, 302, 303, 18), (0, 302, 309, 13), (0, 302, 315, 20)] ({ frames := 8, cells := 1, slots := 6, locals := 124 } : Room) 1 6 [.ref (za g 0), .int 3, .int a, .int b, .int c] μ (zRv (some (.long (zcd E))) μ) zNX := by
  refine zCH_of (L0 := [some (.ref (za g 0)), some (.int 3), some (.int a), some (.int b), some (.int c), none]) (by decide) (Nat.le_of_ble_eq_true rfl) rfl ?_
  intro x S Y hxl
  subst hxl
  have hKX : ∀ (E9 : String) (ν9 : zM), zXv E μ E9 ν9 → zKX x g ({ frames := 8, cells := 1, slots := 6, locals := 124 } : Room) 6 (0 + 1) (0 + 6) 56 [some (.ref (za g 0)), some (.int 3), some (.int a), some (.int b), some (.int c), none] [] E9 ν9 := by
    intro E9 ν9 h9
    obtain ⟨e1, e2⟩ := h9
    subst e1
    subst e2
    rcases hE with e | e | e
    · subst e
      refine k_catch S Y (tableOf []) ⟨0, 302, 303, 18⟩ (tableOf [(0, 302, 309, 13), (0, 302, 315, 20)]) rfl (fun y hy => absurd hy List.not_mem_nil) (by decide) (by decide) m_421 (by decide +kernel) rfl (fun q9 => ?_)
      refine k_astore5 S dL_act_303 (by decide) rfl (n := 305) rfl ?_
      refine k_ldc2 S dL_act_305 (v := (-99000011)) m_415 (n := 308) rfl ?_
      exact k_lret S Y dL_act_308 (by decide) (by decide) (⟨by rw [zcd_p], rfl⟩)
    · subst e
      refine k_catch S Y (tableOf [(0, 302, 303, 18)]) ⟨0, 302, 309, 13⟩ (tableOf [(0, 302, 315, 20)]) rfl (fun y hy => by simp only [tableOf, List.map, List.mem_cons, List.not_mem_nil, or_false] at hy; have e := hy; subst e <;> first | exact ⟨by decide, "java/lang/IndexOutOfBoundsException", m_421, by decide⟩) (by decide) (by decide) m_338 (by decide +kernel) rfl (fun q9 => ?_)
      refine k_astore5 S dL_act_309 (by decide) rfl (n := 311) rfl ?_
      refine k_ldc2 S dL_act_311 (v := (-99000012)) m_416 (n := 314) rfl ?_
      exact k_lret S Y dL_act_314 (by decide) (by decide) (⟨by rw [zcd_a], rfl⟩)
    · subst e
      refine k_catch S Y (tableOf [(0, 302, 303, 18), (0, 302, 309, 13)]) ⟨0, 302, 315, 20⟩ (tableOf []) rfl (fun y hy => by simp only [tableOf, List.map, List.mem_cons, List.not_mem_nil, or_false] at hy; rcases hy with e | e <;> subst e <;> first | exact ⟨by decide, "java/lang/IndexOutOfBoundsException", m_421, by decide⟩ | exact ⟨by decide, "java/lang/IllegalArgumentException", m_338, by decide⟩) (by decide) (by decide) m_422 (by decide +kernel) rfl (fun q9 => ?_)
      refine k_astore5 S dL_act_315 (by decide) rfl (n := 317) rfl ?_
      refine k_ldc2 S dL_act_317 (v := (-99000013)) m_620 (n := 320) rfl ?_
      exact k_lret S Y dL_act_320 (by decide) (by decide) (⟨by rw [zcd_s], rfl⟩)
  refine k_iload1 S dL_act_0 (n := 1) rfl ?_
  refine k_if_ne S dL_act_1 (tgt := 21) (by decide) (n := 4) rfl (fun _ => ?_) (fun h9 => absurd h9 (by decide))
  refine k_iload1 S dL_act_21 (n := 22) rfl ?_
  refine k_iconst S dL_act_22 (v := 1) (by decide) (n := 23) rfl ?_
  refine k_icmp_ne S dL_act_23 (tgt := 34) (by decide) (n := 26) rfl (fun _ => ?_) (fun h9 => absurd h9 (by decide))
  refine k_iload1 S dL_act_34 (n := 35) rfl ?_
  refine k_iconst S dL_act_35 (v := 2) (by decide) (n := 36) rfl ?_
  refine k_icmp_ne S dL_act_36 (tgt := 49) (by decide) (n := 39) rfl (fun _ => ?_) (fun h9 => absurd h9 (by decide))
  refine k_iload1 S dL_act_49 (n := 50) rfl ?_
  refine k_iconst S dL_act_50 (v := 3) (by decide) (n := 51) rfl ?_
  refine k_icmp_ne S dL_act_51 (tgt := 63) (by decide) (n := 54) rfl (fun h9 => absurd (by decide) h9) (fun _ => ?_)
  refine k_aload0 S dL_act_54 (n := 55) rfl ?_
  refine k_iload2 S dL_act_55 (n := 56) rfl ?_
  refine k_callV (As := [.int a]) (rest := []) (p := 0) S (hM) mv_X3_mean m_481 dL_act_56 rfl rfl ⟨by decide, by decide⟩ (zlt S (by decide)) (by decide) (ci := 3) rfl rfl rfl (Nat.le_of_ble_eq_true rfl) ⟨by decide, by decide⟩ (n := 59) rfl hKX (fun v9 ν9 h9 => ?_)
  exact False.elim h9
set_option maxRecDepth 100000 in
set_option maxHeartbeats 4000000 in
theorem x_act4 {l : Launch} {g : zG} {μ : zM} {a b c : Int32} {E : String} (hE : E = "java/lang/IndexOutOfBoundsException" ∨ E = "java/lang/IllegalArgumentException" ∨ E = "java/lang/IllegalStateException") (hM : zC l g yX3_range cX3_range 2 (some .int) ({ frames := 7, cells := 1, slots := 6, locals := 103 } : Room) 1 6 [.ref (za g 0), .int a] μ zNR (zXv E μ)) : zCH l g yL_act cL_act 6 (some .long) [(0, 302, 303, 18), (0, 302, 309, 13), (0, 302, 315, 20)] ({ frames := 8, cells := 1, slots := 6, locals := 124 } : Room) 1 6 [.ref (za g 0), .int 4, .int a, .int b, .int c] μ (zRv (some (.long (zcd E))) μ) zNX := by
  refine zCH_of (L0 := [some (.ref (za g 0)), some (.int 4), some (.int a), some (.int b), some (.int c), none]) (by decide) (Nat.le_of_ble_eq_true rfl) rfl ?_
  intro x S Y hxl
  subst hxl
  have hKX : ∀ (E9 : String) (ν9 : zM), zXv E μ E9 ν9 → zKX x g ({ frames := 8, cells := 1, slots := 6, locals := 124 } : Room) 6 (0 + 1) (0 + 6) 70 [some (.ref (za g 0)), some (.int 4), some (.int a), some (.int b), some (.int c), none] [] E9 ν9 := by
    intro E9 ν9 h9
    obtain ⟨e1, e2⟩ := h9
    subst e1
    subst e2
    rcases hE with e | e | e
    · subst e
      refine k_catch S Y (tableOf []) ⟨0, 302, 303, 18⟩ (tableOf [(0, 302, 309, 13), (0, 302, 315, 20)]) rfl (fun y hy => absurd hy List.not_mem_nil) (by decide) (by decide) m_421 (by decide +kernel) rfl (fun q9 => ?_)
      refine k_astore5 S dL_act_303 (by decide) rfl (n := 305) rfl ?_
      refine k_ldc2 S dL_act_305 (v := (-99000011)) m_415 (n := 308) rfl ?_
      exact k_lret S Y dL_act_308 (by decide) (by decide) (⟨by rw [zcd_p], rfl⟩)
    · subst e
      refine k_catch S Y (tableOf [(0, 302, 303, 18)]) ⟨0, 302, 309, 13⟩ (tableOf [(0, 302, 315, 20)]) rfl (fun y hy => by simp only [tableOf, List.map, List.mem_cons, List.not_mem_nil, or_false] at hy; have e := hy; subst e <;> first | exact ⟨by decide, "java/lang/IndexOutOfBoundsException", m_421, by decide⟩) (by decide) (by decide) m_338 (by decide +kernel) rfl (fun q9 => ?_)
      refine k_astore5 S dL_act_309 (by decide) rfl (n := 311) rfl ?_
      refine k_ldc2 S dL_act_311 (v := (-99000012)) m_416 (n := 314) rfl ?_
      exact k_lret S Y dL_act_314 (by decide) (by decide) (⟨by rw [zcd_a], rfl⟩)
    · subst e
      refine k_catch S Y (tableOf [(0, 302, 303, 18), (0, 302, 309, 13)]) ⟨0, 302, 315, 20⟩ (tableOf []) rfl (fun y hy => by simp only [tableOf, List.map, List.mem_cons, List.not_mem_nil, or_false] at hy; rcases hy with e | e <;> subst e <;> first | exact ⟨by decide, "java/lang/IndexOutOfBoundsException", m_421, by decide⟩ | exact ⟨by decide, "java/lang/IllegalArgumentException", m_338, by decide⟩) (by decide) (by decide) m_422 (by decide +kernel) rfl (fun q9 => ?_)
      refine k_astore5 S dL_act_315 (by decide) rfl (n := 317) rfl ?_
      refine k_ldc2 S dL_act_317 (v := (-99000013)) m_620 (n := 320) rfl ?_
      exact k_lret S Y dL_act_320 (by decide) (by decide) (⟨by rw [zcd_s], rfl⟩)
  refine k_iload1 S dL_act_0 (n := 1) rfl ?_
  refine k_if_ne S dL_act_1 (tgt := 21) (by decide) (n := 4) rfl (fun _ => ?_) (fun h9 => absurd h9 (by decide))
  refine k_iload1 S dL_act_21 (n := 22) rfl ?_
  refine k_iconst S dL_act_22 (v := 1) (by decide) (n := 23) rfl ?_
  refine k_icmp_ne S dL_act_23 (tgt := 34) (by decide) (n := 26) rfl (fun _ => ?_) (fun h9 => absurd h9 (by decide))
  refine k_iload1 S dL_act_34 (n := 35) rfl ?_
  refine k_iconst S dL_act_35 (v := 2) (by decide) (n := 36) rfl ?_
  refine k_icmp_ne S dL_act_36 (tgt := 49) (by decide) (n := 39) rfl (fun _ => ?_) (fun h9 => absurd h9 (by decide))
  refine k_iload1 S dL_act_49 (n := 50) rfl ?_
  refine k_iconst S dL_act_50 (v := 3) (by decide) (n := 51) rfl ?_
  refine k_icmp_ne S dL_act_51 (tgt := 63) (by decide) (n := 54) rfl (fun _ => ?_) (fun h9 => absurd h9 (by decide))
  refine k_iload1 S dL_act_63 (n := 64) rfl ?_
  refine k_iconst S dL_act_64 (v := 4) (by decide) (n := 65) rfl ?_
  refine k_icmp_ne S dL_act_65 (tgt := 77) (by decide) (n := 68) rfl (fun h9 => absurd (by decide) h9) (fun _ => ?_)
  refine k_aload0 S dL_act_68 (n := 69) rfl ?_
  refine k_iload2 S dL_act_69 (n := 70) rfl ?_
  refine k_callV (As := [.int a]) (rest := []) (p := 0) S (hM) mv_X3_range m_485 dL_act_70 rfl rfl ⟨by decide, by decide⟩ (zlt S (by decide)) (by decide) (ci := 3) rfl rfl rfl (Nat.le_of_ble_eq_true rfl) ⟨by decide, by decide⟩ (n := 73) rfl hKX (fun v9 ν9 h9 => ?_)
  exact False.elim h9
set_option maxRecDepth 100000 in
set_option maxHeartbeats 4000000 in
theorem x_act5 {l : Launch} {g : zG} {μ : zM} {a b c : Int32} {E : String} (hE : E = "java/lang/IndexOutOfBoundsException" ∨ E = "java/lang/IllegalArgumentException" ∨ E = "java/lang/IllegalStateException") (hM : zC l g yX3_phaseOf cX3_phaseOf 2 (some .int) ({ frames := 7, cells := 1, slots := 6, locals := 103 } : Room) 1 6 [.ref (za g 0), .int a] μ zNR (zXv E μ)) : zCH l g yL_act cL_act 6 (some .long) [(0, 302, 303, 18), (0, 302, 309, 13), (0, 302, 315, 20)] ({ frames := 8, cells := 1, slots := 6, locals := 124 } : Room) 1 6 [.ref (za g 0), .int 5, .int a, .int b, .int c] μ (zRv (some (.long (zcd E))) μ) zNX := by
  refine zCH_of (L0 := [some (.ref (za g 0)), some (.int 5), some (.int a), some (.int b), some (.int c), none]) (by decide) (Nat.le_of_ble_eq_true rfl) rfl ?_
  intro x S Y hxl
  subst hxl
  have hKX : ∀ (E9 : String) (ν9 : zM), zXv E μ E9 ν9 → zKX x g ({ frames := 8, cells := 1, slots := 6, locals := 124 } : Room) 6 (0 + 1) (0 + 6) 84 [some (.ref (za g 0)), some (.int 5), some (.int a), some (.int b), some (.int c), none] [] E9 ν9 := by
    intro E9 ν9 h9
    obtain ⟨e1, e2⟩ := h9
    subst e1
    subst e2
    rcases hE with e | e | e
    · subst e
      refine k_catch S Y (tableOf []) ⟨0, 302, 303, 18⟩ (tableOf [(0, 302, 309, 13), (0, 302, 315, 20)]) rfl (fun y hy => absurd hy List.not_mem_nil) (by decide) (by decide) m_421 (by decide +kernel) rfl (fun q9 => ?_)
      refine k_astore5 S dL_act_303 (by decide) rfl (n := 305) rfl ?_
      refine k_ldc2 S dL_act_305 (v := (-99000011)) m_415 (n := 308) rfl ?_
      exact k_lret S Y dL_act_308 (by decide) (by decide) (⟨by rw [zcd_p], rfl⟩)
    · subst e
      refine k_catch S Y (tableOf [(0, 302, 303, 18)]) ⟨0, 302, 309, 13⟩ (tableOf [(0, 302, 315, 20)]) rfl (fun y hy => by simp only [tableOf, List.map, List.mem_cons, List.not_mem_nil, or_false] at hy; have e := hy; subst e <;> first | exact ⟨by decide, "java/lang/IndexOutOfBoundsException", m_421, by decide⟩) (by decide) (by decide) m_338 (by decide +kernel) rfl (fun q9 => ?_)
      refine k_astore5 S dL_act_309 (by decide) rfl (n := 311) rfl ?_
      refine k_ldc2 S dL_act_311 (v := (-99000012)) m_416 (n := 314) rfl ?_
      exact k_lret S Y dL_act_314 (by decide) (by decide) (⟨by rw [zcd_a], rfl⟩)
    · subst e
      refine k_catch S Y (tableOf [(0, 302, 303, 18), (0, 302, 309, 13)]) ⟨0, 302, 315, 20⟩ (tableOf []) rfl (fun y hy => by simp only [tableOf, List.map, List.mem_cons, List.not_mem_nil, or_false] at hy; rcases hy with e | e <;> subst e <;> first | exact ⟨by decide, "java/lang/IndexOutOfBoundsException", m_421, by decide⟩ | exact ⟨by decide, "java/lang/IllegalArgumentException", m_338, by decide⟩) (by decide) (by decide) m_422 (by decide +kernel) rfl (fun q9 => ?_)
      refine k_astore5 S dL_act_315 (by decide) rfl (n := 317) rfl ?_
      refine k_ldc2 S dL_act_317 (v := (-99000013)) m_620 (n := 320) rfl ?_
      exact k_lret S Y dL_act_320 (by decide) (by decide) (⟨by rw [zcd_s], rfl⟩)
  refine k_iload1 S dL_act_0 (n := 1) rfl ?_
  refine k_if_ne S dL_act_1 (tgt := 21) (by decide) (n := 4) rfl (fun _ => ?_) (fun h9 => absurd h9 (by decide))
  refine k_iload1 S dL_act_21 (n := 22) rfl ?_
  refine k_iconst S dL_act_22 (v := 1) (by decide) (n := 23) rfl ?_
  refine k_icmp_ne S dL_act_23 (tgt := 34) (by decide) (n := 26) rfl (fun _ => ?_) (fun h9 => absurd h9 (by decide))
  refine k_iload1 S dL_act_34 (n := 35) rfl ?_
  refine k_iconst S dL_act_35 (v := 2) (by decide) (n := 36) rfl ?_
  refine k_icmp_ne S dL_act_36 (tgt := 49) (by decide) (n := 39) rfl (fun _ => ?_) (fun h9 => absurd h9 (by decide))
  refine k_iload1 S dL_act_49 (n := 50) rfl ?_
  refine k_iconst S dL_act_50 (v := 3) (by decide) (n := 51) rfl ?_
  refine k_icmp_ne S dL_act_51 (tgt := 63) (by decide) (n := 54) rfl (fun _ => ?_) (fun h9 => absurd h9 (by decide))
  refine k_iload1 S dL_act_63 (n := 64) rfl ?_
  refine k_iconst S dL_act_64 (v := 4) (by decide) (n := 65) rfl ?_
  refine k_icmp_ne S dL_act_65 (tgt := 77) (by decide) (n := 68) rfl (fun _ => ?_) (fun h9 => absurd h9 (by decide))
  refine k_iload1 S dL_act_77 (n := 78) rfl ?_
  refine k_iconst S dL_act_78 (v := 5) (by decide) (n := 79) rfl ?_
  refine k_icmp_ne S dL_act_79 (tgt := 91) (by decide) (n := 82) rfl (fun h9 => absurd (by decide) h9) (fun _ => ?_)
  refine k_aload0 S dL_act_82 (n := 83) rfl ?_
  refine k_iload2 S dL_act_83 (n := 84) rfl ?_
  refine k_callV (As := [.int a]) (rest := []) (p := 0) S (hM) mv_X3_phaseOf m_489 dL_act_84 rfl rfl ⟨by decide, by decide⟩ (zlt S (by decide)) (by decide) (ci := 3) rfl rfl rfl (Nat.le_of_ble_eq_true rfl) ⟨by decide, by decide⟩ (n := 87) rfl hKX (fun v9 ν9 h9 => ?_)
  exact False.elim h9
set_option maxRecDepth 100000 in
set_option maxHeartbeats 4000000 in
theorem x_act6 {l : Launch} {g : zG} {μ : zM} {a b c : Int32} {E : String} (hE : E = "java/lang/IndexOutOfBoundsException" ∨ E = "java/lang/IllegalArgumentException" ∨ E = "java/lang/IllegalStateException") (hM : zC l g yX3_points cX3_points 2 (some .int) ({ frames := 7, cells := 1, slots := 6, locals := 103 } : Room) 1 6 [.ref (za g 0), .int a] μ zNR (zXv E μ)) : zCH l g yL_act cL_act 6 (some .long) [(0, 302, 303, 18), (0, 302, 309, 13), (0, 302, 315, 20)] ({ frames := 8, cells := 1, slots := 6, locals := 124 } : Room) 1 6 [.ref (za g 0), .int 6, .int a, .int b, .int c] μ (zRv (some (.long (zcd E))) μ) zNX := by
  refine zCH_of (L0 := [some (.ref (za g 0)), some (.int 6), some (.int a), some (.int b), some (.int c), none]) (by decide) (Nat.le_of_ble_eq_true rfl) rfl ?_
  intro x S Y hxl
  subst hxl
  have hKX : ∀ (E9 : String) (ν9 : zM), zXv E μ E9 ν9 → zKX x g ({ frames := 8, cells := 1, slots := 6, locals := 124 } : Room) 6 (0 + 1) (0 + 6) 99 [some (.ref (za g 0)), some (.int 6), some (.int a), some (.int b), some (.int c), none] [] E9 ν9 := by
    intro E9 ν9 h9
    obtain ⟨e1, e2⟩ := h9
    subst e1
    subst e2
    rcases hE with e | e | e
    · subst e
      refine k_catch S Y (tableOf []) ⟨0, 302, 303, 18⟩ (tableOf [(0, 302, 309, 13), (0, 302, 315, 20)]) rfl (fun y hy => absurd hy List.not_mem_nil) (by decide) (by decide) m_421 (by decide +kernel) rfl (fun q9 => ?_)
      refine k_astore5 S dL_act_303 (by decide) rfl (n := 305) rfl ?_
      refine k_ldc2 S dL_act_305 (v := (-99000011)) m_415 (n := 308) rfl ?_
      exact k_lret S Y dL_act_308 (by decide) (by decide) (⟨by rw [zcd_p], rfl⟩)
    · subst e
      refine k_catch S Y (tableOf [(0, 302, 303, 18)]) ⟨0, 302, 309, 13⟩ (tableOf [(0, 302, 315, 20)]) rfl (fun y hy => by simp only [tableOf, List.map, List.mem_cons, List.not_mem_nil, or_false] at hy; have e := hy; subst e <;> first | exact ⟨by decide, "java/lang/IndexOutOfBoundsException", m_421, by decide⟩) (by decide) (by decide) m_338 (by decide +kernel) rfl (fun q9 => ?_)
      refine k_astore5 S dL_act_309 (by decide) rfl (n := 311) rfl ?_
      refine k_ldc2 S dL_act_311 (v := (-99000012)) m_416 (n := 314) rfl ?_
      exact k_lret S Y dL_act_314 (by decide) (by decide) (⟨by rw [zcd_a], rfl⟩)
    · subst e
      refine k_catch S Y (tableOf [(0, 302, 303, 18), (0, 302, 309, 13)]) ⟨0, 302, 315, 20⟩ (tableOf []) rfl (fun y hy => by simp only [tableOf, List.map, List.mem_cons, List.not_mem_nil, or_false] at hy; rcases hy with e | e <;> subst e <;> first | exact ⟨by decide, "java/lang/IndexOutOfBoundsException", m_421, by decide⟩ | exact ⟨by decide, "java/lang/IllegalArgumentException", m_338, by decide⟩) (by decide) (by decide) m_422 (by decide +kernel) rfl (fun q9 => ?_)
      refine k_astore5 S dL_act_315 (by decide) rfl (n := 317) rfl ?_
      refine k_ldc2 S dL_act_317 (v := (-99000013)) m_620 (n := 320) rfl ?_
      exact k_lret S Y dL_act_320 (by decide) (by decide) (⟨by rw [zcd_s], rfl⟩)
  refine k_iload1 S dL_act_0 (n := 1) rfl ?_
  refine k_if_ne S dL_act_1 (tgt := 21) (by decide) (n := 4) rfl (fun _ => ?_) (fun h9 => absurd h9 (by decide))
  refine k_iload1 S dL_act_21 (n := 22) rfl ?_
  refine k_iconst S dL_act_22 (v := 1) (by decide) (n := 23) rfl ?_
  refine k_icmp_ne S dL_act_23 (tgt := 34) (by decide) (n := 26) rfl (fun _ => ?_) (fun h9 => absurd h9 (by decide))
  refine k_iload1 S dL_act_34 (n := 35) rfl ?_
  refine k_iconst S dL_act_35 (v := 2) (by decide) (n := 36) rfl ?_
  refine k_icmp_ne S dL_act_36 (tgt := 49) (by decide) (n := 39) rfl (fun _ => ?_) (fun h9 => absurd h9 (by decide))
  refine k_iload1 S dL_act_49 (n := 50) rfl ?_
  refine k_iconst S dL_act_50 (v := 3) (by decide) (n := 51) rfl ?_
  refine k_icmp_ne S dL_act_51 (tgt := 63) (by decide) (n := 54) rfl (fun _ => ?_) (fun h9 => absurd h9 (by decide))
  refine k_iload1 S dL_act_63 (n := 64) rfl ?_
  refine k_iconst S dL_act_64 (v := 4) (by decide) (n := 65) rfl ?_
  refine k_icmp_ne S dL_act_65 (tgt := 77) (by decide) (n := 68) rfl (fun _ => ?_) (fun h9 => absurd h9 (by decide))
  refine k_iload1 S dL_act_77 (n := 78) rfl ?_
  refine k_iconst S dL_act_78 (v := 5) (by decide) (n := 79) rfl ?_
  refine k_icmp_ne S dL_act_79 (tgt := 91) (by decide) (n := 82) rfl (fun _ => ?_) (fun h9 => absurd h9 (by decide))
  refine k_iload1 S dL_act_91 (n := 92) rfl ?_
  refine k_bipush S dL_act_92 (v := 6) (by decide) (n := 94) rfl ?_
  refine k_icmp_ne S dL_act_94 (tgt := 106) (by decide) (n := 97) rfl (fun h9 => absurd (by decide) h9) (fun _ => ?_)
  refine k_aload0 S dL_act_97 (n := 98) rfl ?_
  refine k_iload2 S dL_act_98 (n := 99) rfl ?_
  refine k_callV (As := [.int a]) (rest := []) (p := 0) S (hM) mv_X3_points m_493 dL_act_99 rfl rfl ⟨by decide, by decide⟩ (zlt S (by decide)) (by decide) (ci := 3) rfl rfl rfl (Nat.le_of_ble_eq_true rfl) ⟨by decide, by decide⟩ (n := 102) rfl hKX (fun v9 ν9 h9 => ?_)
  exact False.elim h9
set_option maxRecDepth 100000 in
set_option maxHeartbeats 4000000 in
theorem x_act7 {l : Launch} {g : zG} {μ : zM} {a b c : Int32} {E : String} (hE : E = "java/lang/IndexOutOfBoundsException" ∨ E = "java/lang/IllegalArgumentException" ∨ E = "java/lang/IllegalStateException") (hM : zC l g yX3_center cX3_center 2 (some .int) ({ frames := 8, cells := 2, slots := 12, locals := 125 } : Room) 2 12 [.ref (za g 0), .int a] μ zNR (zXv E μ)) : zCH l g yL_act cL_act 6 (some .long) [(0, 302, 303, 18), (0, 302, 309, 13), (0, 302, 315, 20)] ({ frames := 9, cells := 2, slots := 12, locals := 146 } : Room) 2 12 [.ref (za g 0), .int 7, .int a, .int b, .int c] μ (zRv (some (.long (zcd E))) μ) zNX := by
  refine zCH_of (L0 := [some (.ref (za g 0)), some (.int 7), some (.int a), some (.int b), some (.int c), none]) (by decide) (Nat.le_of_ble_eq_true rfl) rfl ?_
  intro x S Y hxl
  subst hxl
  have hKX : ∀ (E9 : String) (ν9 : zM), zXv E μ E9 ν9 → zKX x g ({ frames := 9, cells := 2, slots := 12, locals := 146 } : Room) 6 (0 + 2) (0 + 12) 114 [some (.ref (za g 0)), some (.int 7), some (.int a), some (.int b), some (.int c), none] [] E9 ν9 := by
    intro E9 ν9 h9
    obtain ⟨e1, e2⟩ := h9
    subst e1
    subst e2
    rcases hE with e | e | e
    · subst e
      refine k_catch S Y (tableOf []) ⟨0, 302, 303, 18⟩ (tableOf [(0, 302, 309, 13), (0, 302, 315, 20)]) rfl (fun y hy => absurd hy List.not_mem_nil) (by decide) (by decide) m_421 (by decide +kernel) rfl (fun q9 => ?_)
      refine k_astore5 S dL_act_303 (by decide) rfl (n := 305) rfl ?_
      refine k_ldc2 S dL_act_305 (v := (-99000011)) m_415 (n := 308) rfl ?_
      exact k_lret S Y dL_act_308 (by decide) (by decide) (⟨by rw [zcd_p], rfl⟩)
    · subst e
      refine k_catch S Y (tableOf [(0, 302, 303, 18)]) ⟨0, 302, 309, 13⟩ (tableOf [(0, 302, 315, 20)]) rfl (fun y hy => by simp only [tableOf, List.map, List.mem_cons, List.not_mem_nil, or_false] at hy; have e := hy; subst e <;> first | exact ⟨by decide, "java/lang/IndexOutOfBoundsException", m_421, by decide⟩) (by decide) (by decide) m_338 (by decide +kernel) rfl (fun q9 => ?_)
      refine k_astore5 S dL_act_309 (by decide) rfl (n := 311) rfl ?_
      refine k_ldc2 S dL_act_311 (v := (-99000012)) m_416 (n := 314) rfl ?_
      exact k_lret S Y dL_act_314 (by decide) (by decide) (⟨by rw [zcd_a], rfl⟩)
    · subst e
      refine k_catch S Y (tableOf [(0, 302, 303, 18), (0, 302, 309, 13)]) ⟨0, 302, 315, 20⟩ (tableOf []) rfl (fun y hy => by simp only [tableOf, List.map, List.mem_cons, List.not_mem_nil, or_false] at hy; rcases hy with e | e <;> subst e <;> first | exact ⟨by decide, "java/lang/IndexOutOfBoundsException", m_421, by decide⟩ | exact ⟨by decide, "java/lang/IllegalArgumentException", m_338, by decide⟩) (by decide) (by decide) m_422 (by decide +kernel) rfl (fun q9 => ?_)
      refine k_astore5 S dL_act_315 (by decide) rfl (n := 317) rfl ?_
      refine k_ldc2 S dL_act_317 (v := (-99000013)) m_620 (n := 320) rfl ?_
      exact k_lret S Y dL_act_320 (by decide) (by decide) (⟨by rw [zcd_s], rfl⟩)
  refine k_iload1 S dL_act_0 (n := 1) rfl ?_
  refine k_if_ne S dL_act_1 (tgt := 21) (by decide) (n := 4) rfl (fun _ => ?_) (fun h9 => absurd h9 (by decide))
  refine k_iload1 S dL_act_21 (n := 22) rfl ?_
  refine k_iconst S dL_act_22 (v := 1) (by decide) (n := 23) rfl ?_
  refine k_icmp_ne S dL_act_23 (tgt := 34) (by decide) (n := 26) rfl (fun _ => ?_) (fun h9 => absurd h9 (by decide))
  refine k_iload1 S dL_act_34 (n := 35) rfl ?_
  refine k_iconst S dL_act_35 (v := 2) (by decide) (n := 36) rfl ?_
  refine k_icmp_ne S dL_act_36 (tgt := 49) (by decide) (n := 39) rfl (fun _ => ?_) (fun h9 => absurd h9 (by decide))
  refine k_iload1 S dL_act_49 (n := 50) rfl ?_
  refine k_iconst S dL_act_50 (v := 3) (by decide) (n := 51) rfl ?_
  refine k_icmp_ne S dL_act_51 (tgt := 63) (by decide) (n := 54) rfl (fun _ => ?_) (fun h9 => absurd h9 (by decide))
  refine k_iload1 S dL_act_63 (n := 64) rfl ?_
  refine k_iconst S dL_act_64 (v := 4) (by decide) (n := 65) rfl ?_
  refine k_icmp_ne S dL_act_65 (tgt := 77) (by decide) (n := 68) rfl (fun _ => ?_) (fun h9 => absurd h9 (by decide))
  refine k_iload1 S dL_act_77 (n := 78) rfl ?_
  refine k_iconst S dL_act_78 (v := 5) (by decide) (n := 79) rfl ?_
  refine k_icmp_ne S dL_act_79 (tgt := 91) (by decide) (n := 82) rfl (fun _ => ?_) (fun h9 => absurd h9 (by decide))
  refine k_iload1 S dL_act_91 (n := 92) rfl ?_
  refine k_bipush S dL_act_92 (v := 6) (by decide) (n := 94) rfl ?_
  refine k_icmp_ne S dL_act_94 (tgt := 106) (by decide) (n := 97) rfl (fun _ => ?_) (fun h9 => absurd h9 (by decide))
  refine k_iload1 S dL_act_106 (n := 107) rfl ?_
  refine k_bipush S dL_act_107 (v := 7) (by decide) (n := 109) rfl ?_
  refine k_icmp_ne S dL_act_109 (tgt := 121) (by decide) (n := 112) rfl (fun h9 => absurd (by decide) h9) (fun _ => ?_)
  refine k_aload0 S dL_act_112 (n := 113) rfl ?_
  refine k_iload2 S dL_act_113 (n := 114) rfl ?_
  refine k_callV (As := [.int a]) (rest := []) (p := 0) S (hM) mv_X3_center m_497 dL_act_114 rfl rfl ⟨by decide, by decide⟩ (zlt S (by decide)) (by decide) (ci := 3) rfl rfl rfl (Nat.le_of_ble_eq_true rfl) ⟨by decide, by decide⟩ (n := 117) rfl hKX (fun v9 ν9 h9 => ?_)
  exact False.elim h9
set_option maxRecDepth 100000 in
set_option maxHeartbeats 4000000 in
theorem x_act8 {l : Launch} {g : zG} {μ : zM} {a b c : Int32} {E : String} (hE : E = "java/lang/IndexOutOfBoundsException" ∨ E = "java/lang/IllegalArgumentException" ∨ E = "java/lang/IllegalStateException") (hM : zC l g yX3_width cX3_width 2 (some .int) ({ frames := 8, cells := 2, slots := 12, locals := 125 } : Room) 2 12 [.ref (za g 0), .int a] μ zNR (zXv E μ)) : zCH l g yL_act cL_act 6 (some .long) [(0, 302, 303, 18), (0, 302, 309, 13), (0, 302, 315, 20)] ({ frames := 9, cells := 2, slots := 12, locals := 146 } : Room) 2 12 [.ref (za g 0), .int 8, .int a, .int b, .int c] μ (zRv (some (.long (zcd E))) μ) zNX := by
  refine zCH_of (L0 := [some (.ref (za g 0)), some (.int 8), some (.int a), some (.int b), some (.int c), none]) (by decide) (Nat.le_of_ble_eq_true rfl) rfl ?_
  intro x S Y hxl
  subst hxl
  have hKX : ∀ (E9 : String) (ν9 : zM), zXv E μ E9 ν9 → zKX x g ({ frames := 9, cells := 2, slots := 12, locals := 146 } : Room) 6 (0 + 2) (0 + 12) 129 [some (.ref (za g 0)), some (.int 8), some (.int a), some (.int b), some (.int c), none] [] E9 ν9 := by
    intro E9 ν9 h9
    obtain ⟨e1, e2⟩ := h9
    subst e1
    subst e2
    rcases hE with e | e | e
    · subst e
      refine k_catch S Y (tableOf []) ⟨0, 302, 303, 18⟩ (tableOf [(0, 302, 309, 13), (0, 302, 315, 20)]) rfl (fun y hy => absurd hy List.not_mem_nil) (by decide) (by decide) m_421 (by decide +kernel) rfl (fun q9 => ?_)
      refine k_astore5 S dL_act_303 (by decide) rfl (n := 305) rfl ?_
      refine k_ldc2 S dL_act_305 (v := (-99000011)) m_415 (n := 308) rfl ?_
      exact k_lret S Y dL_act_308 (by decide) (by decide) (⟨by rw [zcd_p], rfl⟩)
    · subst e
      refine k_catch S Y (tableOf [(0, 302, 303, 18)]) ⟨0, 302, 309, 13⟩ (tableOf [(0, 302, 315, 20)]) rfl (fun y hy => by simp only [tableOf, List.map, List.mem_cons, List.not_mem_nil, or_false] at hy; have e := hy; subst e <;> first | exact ⟨by decide, "java/lang/IndexOutOfBoundsException", m_421, by decide⟩) (by decide) (by decide) m_338 (by decide +kernel) rfl (fun q9 => ?_)
      refine k_astore5 S dL_act_309 (by decide) rfl (n := 311) rfl ?_
      refine k_ldc2 S dL_act_311 (v := (-99000012)) m_416 (n := 314) rfl ?_
      exact k_lret S Y dL_act_314 (by decide) (by decide) (⟨by rw [zcd_a], rfl⟩)
    · subst e
      refine k_catch S Y (tableOf [(0, 302, 303, 18), (0, 302, 309, 13)]) ⟨0, 302, 315, 20⟩ (tableOf []) rfl (fun y hy => by simp only [tableOf, List.map, List.mem_cons, List.not_mem_nil, or_false] at hy; rcases hy with e | e <;> subst e <;> first | exact ⟨by decide, "java/lang/IndexOutOfBoundsException", m_421, by decide⟩ | exact ⟨by decide, "java/lang/IllegalArgumentException", m_338, by decide⟩) (by decide) (by decide) m_422 (by decide +kernel) rfl (fun q9 => ?_)
      refine k_astore5 S dL_act_315 (by decide) rfl (n := 317) rfl ?_
      refine k_ldc2 S dL_act_317 (v := (-99000013)) m_620 (n := 320) rfl ?_
      exact k_lret S Y dL_act_320 (by decide) (by decide) (⟨by rw [zcd_s], rfl⟩)
  refine k_iload1 S dL_act_0 (n := 1) rfl ?_
  refine k_if_ne S dL_act_1 (tgt := 21) (by decide) (n := 4) rfl (fun _ => ?_) (fun h9 => absurd h9 (by decide))
  refine k_iload1 S dL_act_21 (n := 22) rfl ?_
  refine k_iconst S dL_act_22 (v := 1) (by decide) (n := 23) rfl ?_
  refine k_icmp_ne S dL_act_23 (tgt := 34) (by decide) (n := 26) rfl (fun _ => ?_) (fun h9 => absurd h9 (by decide))
  refine k_iload1 S dL_act_34 (n := 35) rfl ?_
  refine k_iconst S dL_act_35 (v := 2) (by decide) (n := 36) rfl ?_
  refine k_icmp_ne S dL_act_36 (tgt := 49) (by decide) (n := 39) rfl (fun _ => ?_) (fun h9 => absurd h9 (by decide))
  refine k_iload1 S dL_act_49 (n := 50) rfl ?_
  refine k_iconst S dL_act_50 (v := 3) (by decide) (n := 51) rfl ?_
  refine k_icmp_ne S dL_act_51 (tgt := 63) (by decide) (n := 54) rfl (fun _ => ?_) (fun h9 => absurd h9 (by decide))
  refine k_iload1 S dL_act_63 (n := 64) rfl ?_
  refine k_iconst S dL_act_64 (v := 4) (by decide) (n := 65) rfl ?_
  refine k_icmp_ne S dL_act_65 (tgt := 77) (by decide) (n := 68) rfl (fun _ => ?_) (fun h9 => absurd h9 (by decide))
  refine k_iload1 S dL_act_77 (n := 78) rfl ?_
  refine k_iconst S dL_act_78 (v := 5) (by decide) (n := 79) rfl ?_
  refine k_icmp_ne S dL_act_79 (tgt := 91) (by decide) (n := 82) rfl (fun _ => ?_) (fun h9 => absurd h9 (by decide))
  refine k_iload1 S dL_act_91 (n := 92) rfl ?_
  refine k_bipush S dL_act_92 (v := 6) (by decide) (n := 94) rfl ?_
  refine k_icmp_ne S dL_act_94 (tgt := 106) (by decide) (n := 97) rfl (fun _ => ?_) (fun h9 => absurd h9 (by decide))
  refine k_iload1 S dL_act_106 (n := 107) rfl ?_
  refine k_bipush S dL_act_107 (v := 7) (by decide) (n := 109) rfl ?_
  refine k_icmp_ne S dL_act_109 (tgt := 121) (by decide) (n := 112) rfl (fun _ => ?_) (fun h9 => absurd h9 (by decide))
  refine k_iload1 S dL_act_121 (n := 122) rfl ?_
  refine k_bipush S dL_act_122 (v := 8) (by decide) (n := 124) rfl ?_
  refine k_icmp_ne S dL_act_124 (tgt := 136) (by decide) (n := 127) rfl (fun h9 => absurd (by decide) h9) (fun _ => ?_)
  refine k_aload0 S dL_act_127 (n := 128) rfl ?_
  refine k_iload2 S dL_act_128 (n := 129) rfl ?_
  refine k_callV (As := [.int a]) (rest := []) (p := 0) S (hM) mv_X3_width m_510 dL_act_129 rfl rfl ⟨by decide, by decide⟩ (zlt S (by decide)) (by decide) (ci := 3) rfl rfl rfl (Nat.le_of_ble_eq_true rfl) ⟨by decide, by decide⟩ (n := 132) rfl hKX (fun v9 ν9 h9 => ?_)
  exact False.elim h9
set_option maxRecDepth 100000 in
set_option maxHeartbeats 4000000 in
theorem x_act9 {l : Launch} {g : zG} {μ : zM} {a b c : Int32} {E : String} (hE : E = "java/lang/IndexOutOfBoundsException" ∨ E = "java/lang/IllegalArgumentException" ∨ E = "java/lang/IllegalStateException") (hM : zC l g yX3_rangeLimit cX3_rangeLimit 2 (some .int) ({ frames := 8, cells := 2, slots := 12, locals := 125 } : Room) 2 12 [.ref (za g 0), .int a] μ zNR (zXv E μ)) : zCH l g yL_act cL_act 6 (some .long) [(0, 302, 303, 18), (0, 302, 309, 13), (0, 302, 315, 20)] ({ frames := 9, cells := 2, slots := 12, locals := 146 } : Room) 2 12 [.ref (za g 0), .int 9, .int a, .int b, .int c] μ (zRv (some (.long (zcd E))) μ) zNX := by
  refine zCH_of (L0 := [some (.ref (za g 0)), some (.int 9), some (.int a), some (.int b), some (.int c), none]) (by decide) (Nat.le_of_ble_eq_true rfl) rfl ?_
  intro x S Y hxl
  subst hxl
  have hKX : ∀ (E9 : String) (ν9 : zM), zXv E μ E9 ν9 → zKX x g ({ frames := 9, cells := 2, slots := 12, locals := 146 } : Room) 6 (0 + 2) (0 + 12) 144 [some (.ref (za g 0)), some (.int 9), some (.int a), some (.int b), some (.int c), none] [] E9 ν9 := by
    intro E9 ν9 h9
    obtain ⟨e1, e2⟩ := h9
    subst e1
    subst e2
    rcases hE with e | e | e
    · subst e
      refine k_catch S Y (tableOf []) ⟨0, 302, 303, 18⟩ (tableOf [(0, 302, 309, 13), (0, 302, 315, 20)]) rfl (fun y hy => absurd hy List.not_mem_nil) (by decide) (by decide) m_421 (by decide +kernel) rfl (fun q9 => ?_)
      refine k_astore5 S dL_act_303 (by decide) rfl (n := 305) rfl ?_
      refine k_ldc2 S dL_act_305 (v := (-99000011)) m_415 (n := 308) rfl ?_
      exact k_lret S Y dL_act_308 (by decide) (by decide) (⟨by rw [zcd_p], rfl⟩)
    · subst e
      refine k_catch S Y (tableOf [(0, 302, 303, 18)]) ⟨0, 302, 309, 13⟩ (tableOf [(0, 302, 315, 20)]) rfl (fun y hy => by simp only [tableOf, List.map, List.mem_cons, List.not_mem_nil, or_false] at hy; have e := hy; subst e <;> first | exact ⟨by decide, "java/lang/IndexOutOfBoundsException", m_421, by decide⟩) (by decide) (by decide) m_338 (by decide +kernel) rfl (fun q9 => ?_)
      refine k_astore5 S dL_act_309 (by decide) rfl (n := 311) rfl ?_
      refine k_ldc2 S dL_act_311 (v := (-99000012)) m_416 (n := 314) rfl ?_
      exact k_lret S Y dL_act_314 (by decide) (by decide) (⟨by rw [zcd_a], rfl⟩)
    · subst e
      refine k_catch S Y (tableOf [(0, 302, 303, 18), (0, 302, 309, 13)]) ⟨0, 302, 315, 20⟩ (tableOf []) rfl (fun y hy => by simp only [tableOf, List.map, List.mem_cons, List.not_mem_nil, or_false] at hy; rcases hy with e | e <;> subst e <;> first | exact ⟨by decide, "java/lang/IndexOutOfBoundsException", m_421, by decide⟩ | exact ⟨by decide, "java/lang/IllegalArgumentException", m_338, by decide⟩) (by decide) (by decide) m_422 (by decide +kernel) rfl (fun q9 => ?_)
      refine k_astore5 S dL_act_315 (by decide) rfl (n := 317) rfl ?_
      refine k_ldc2 S dL_act_317 (v := (-99000013)) m_620 (n := 320) rfl ?_
      exact k_lret S Y dL_act_320 (by decide) (by decide) (⟨by rw [zcd_s], rfl⟩)
  refine k_iload1 S dL_act_0 (n := 1) rfl ?_
  refine k_if_ne S dL_act_1 (tgt := 21) (by decide) (n := 4) rfl (fun _ => ?_) (fun h9 => absurd h9 (by decide))
  refine k_iload1 S dL_act_21 (n := 22) rfl ?_
  refine k_iconst S dL_act_22 (v := 1) (by decide) (n := 23) rfl ?_
  refine k_icmp_ne S dL_act_23 (tgt := 34) (by decide) (n := 26) rfl (fun _ => ?_) (fun h9 => absurd h9 (by decide))
  refine k_iload1 S dL_act_34 (n := 35) rfl ?_
  refine k_iconst S dL_act_35 (v := 2) (by decide) (n := 36) rfl ?_
  refine k_icmp_ne S dL_act_36 (tgt := 49) (by decide) (n := 39) rfl (fun _ => ?_) (fun h9 => absurd h9 (by decide))
  refine k_iload1 S dL_act_49 (n := 50) rfl ?_
  refine k_iconst S dL_act_50 (v := 3) (by decide) (n := 51) rfl ?_
  refine k_icmp_ne S dL_act_51 (tgt := 63) (by decide) (n := 54) rfl (fun _ => ?_) (fun h9 => absurd h9 (by decide))
  refine k_iload1 S dL_act_63 (n := 64) rfl ?_
  refine k_iconst S dL_act_64 (v := 4) (by decide) (n := 65) rfl ?_
  refine k_icmp_ne S dL_act_65 (tgt := 77) (by decide) (n := 68) rfl (fun _ => ?_) (fun h9 => absurd h9 (by decide))
  refine k_iload1 S dL_act_77 (n := 78) rfl ?_
  refine k_iconst S dL_act_78 (v := 5) (by decide) (n := 79) rfl ?_
  refine k_icmp_ne S dL_act_79 (tgt := 91) (by decide) (n := 82) rfl (fun _ => ?_) (fun h9 => absurd h9 (by decide))
  refine k_iload1 S dL_act_91 (n := 92) rfl ?_
  refine k_bipush S dL_act_92 (v := 6) (by decide) (n := 94) rfl ?_
  refine k_icmp_ne S dL_act_94 (tgt := 106) (by decide) (n := 97) rfl (fun _ => ?_) (fun h9 => absurd h9 (by decide))
  refine k_iload1 S dL_act_106 (n := 107) rfl ?_
  refine k_bipush S dL_act_107 (v := 7) (by decide) (n := 109) rfl ?_
  refine k_icmp_ne S dL_act_109 (tgt := 121) (by decide) (n := 112) rfl (fun _ => ?_) (fun h9 => absurd h9 (by decide))
  refine k_iload1 S dL_act_121 (n := 122) rfl ?_
  refine k_bipush S dL_act_122 (v := 8) (by decide) (n := 124) rfl ?_
  refine k_icmp_ne S dL_act_124 (tgt := 136) (by decide) (n := 127) rfl (fun _ => ?_) (fun h9 => absurd h9 (by decide))
  refine k_iload1 S dL_act_136 (n := 137) rfl ?_
  refine k_bipush S dL_act_137 (v := 9) (by decide) (n := 139) rfl ?_
  refine k_icmp_ne S dL_act_139 (tgt := 151) (by decide) (n := 142) rfl (fun h9 => absurd (by decide) h9) (fun _ => ?_)
  refine k_aload0 S dL_act_142 (n := 143) rfl ?_
  refine k_iload2 S dL_act_143 (n := 144) rfl ?_
  refine k_callV (As := [.int a]) (rest := []) (p := 0) S (hM) mv_X3_rangeLimit m_514 dL_act_144 rfl rfl ⟨by decide, by decide⟩ (zlt S (by decide)) (by decide) (ci := 3) rfl rfl rfl (Nat.le_of_ble_eq_true rfl) ⟨by decide, by decide⟩ (n := 147) rfl hKX (fun v9 ν9 h9 => ?_)
  exact False.elim h9
set_option maxRecDepth 100000 in
set_option maxHeartbeats 4000000 in
theorem x_act10 {l : Launch} {g : zG} {μ : zM} {a b c : Int32} {E : String} (hE : E = "java/lang/IndexOutOfBoundsException" ∨ E = "java/lang/IllegalArgumentException" ∨ E = "java/lang/IllegalStateException") (hM : zC l g yX3_signals cX3_signals 4 (some .int) ({ frames := 7, cells := 1, slots := 6, locals := 103 } : Room) 1 6 [.ref (za g 0), .int a] μ zNR (zXv E μ)) : zCH l g yL_act cL_act 6 (some .long) [(0, 302, 303, 18), (0, 302, 309, 13), (0, 302, 315, 20)] ({ frames := 8, cells := 1, slots := 6, locals := 126 } : Room) 1 6 [.ref (za g 0), .int 10, .int a, .int b, .int c] μ (zRv (some (.long (zcd E))) μ) zNX := by
  refine zCH_of (L0 := [some (.ref (za g 0)), some (.int 10), some (.int a), some (.int b), some (.int c), none]) (by decide) (Nat.le_of_ble_eq_true rfl) rfl ?_
  intro x S Y hxl
  subst hxl
  have hKX : ∀ (E9 : String) (ν9 : zM), zXv E μ E9 ν9 → zKX x g ({ frames := 8, cells := 1, slots := 6, locals := 126 } : Room) 6 (0 + 1) (0 + 6) 159 [some (.ref (za g 0)), some (.int 10), some (.int a), some (.int b), some (.int c), none] [] E9 ν9 := by
    intro E9 ν9 h9
    obtain ⟨e1, e2⟩ := h9
    subst e1
    subst e2
    rcases hE with e | e | e
    · subst e
      refine k_catch S Y (tableOf []) ⟨0, 302, 303, 18⟩ (tableOf [(0, 302, 309, 13), (0, 302, 315, 20)]) rfl (fun y hy => absurd hy List.not_mem_nil) (by decide) (by decide) m_421 (by decide +kernel) rfl (fun q9 => ?_)
      refine k_astore5 S dL_act_303 (by decide) rfl (n := 305) rfl ?_
      refine k_ldc2 S dL_act_305 (v := (-99000011)) m_415 (n := 308) rfl ?_
      exact k_lret S Y dL_act_308 (by decide) (by decide) (⟨by rw [zcd_p], rfl⟩)
    · subst e
      refine k_catch S Y (tableOf [(0, 302, 303, 18)]) ⟨0, 302, 309, 13⟩ (tableOf [(0, 302, 315, 20)]) rfl (fun y hy => by simp only [tableOf, List.map, List.mem_cons, List.not_mem_nil, or_false] at hy; have e := hy; subst e <;> first | exact ⟨by decide, "java/lang/IndexOutOfBoundsException", m_421, by decide⟩) (by decide) (by decide) m_338 (by decide +kernel) rfl (fun q9 => ?_)
      refine k_astore5 S dL_act_309 (by decide) rfl (n := 311) rfl ?_
      refine k_ldc2 S dL_act_311 (v := (-99000012)) m_416 (n := 314) rfl ?_
      exact k_lret S Y dL_act_314 (by decide) (by decide) (⟨by rw [zcd_a], rfl⟩)
    · subst e
      refine k_catch S Y (tableOf [(0, 302, 303, 18), (0, 302, 309, 13)]) ⟨0, 302, 315, 20⟩ (tableOf []) rfl (fun y hy => by simp only [tableOf, List.map, List.mem_cons, List.not_mem_nil, or_false] at hy; rcases hy with e | e <;> subst e <;> first | exact ⟨by decide, "java/lang/IndexOutOfBoundsException", m_421, by decide⟩ | exact ⟨by decide, "java/lang/IllegalArgumentException", m_338, by decide⟩) (by decide) (by decide) m_422 (by decide +kernel) rfl (fun q9 => ?_)
      refine k_astore5 S dL_act_315 (by decide) rfl (n := 317) rfl ?_
      refine k_ldc2 S dL_act_317 (v := (-99000013)) m_620 (n := 320) rfl ?_
      exact k_lret S Y dL_act_320 (by decide) (by decide) (⟨by rw [zcd_s], rfl⟩)
  refine k_iload1 S dL_act_0 (n := 1) rfl ?_
  refine k_if_ne S dL_act_1 (tgt := 21) (by decide) (n := 4) rfl (fun _ => ?_) (fun h9 => absurd h9 (by decide))
  refine k_iload1 S dL_act_21 (n := 22) rfl ?_
  refine k_iconst S dL_act_22 (v := 1) (by decide) (n := 23) rfl ?_
  refine k_icmp_ne S dL_act_23 (tgt := 34) (by decide) (n := 26) rfl (fun _ => ?_) (fun h9 => absurd h9 (by decide))
  refine k_iload1 S dL_act_34 (n := 35) rfl ?_
  refine k_iconst S dL_act_35 (v := 2) (by decide) (n := 36) rfl ?_
  refine k_icmp_ne S dL_act_36 (tgt := 49) (by decide) (n := 39) rfl (fun _ => ?_) (fun h9 => absurd h9 (by decide))
  refine k_iload1 S dL_act_49 (n := 50) rfl ?_
  refine k_iconst S dL_act_50 (v := 3) (by decide) (n := 51) rfl ?_
  refine k_icmp_ne S dL_act_51 (tgt := 63) (by decide) (n := 54) rfl (fun _ => ?_) (fun h9 => absurd h9 (by decide))
  refine k_iload1 S dL_act_63 (n := 64) rfl ?_
  refine k_iconst S dL_act_64 (v := 4) (by decide) (n := 65) rfl ?_
  refine k_icmp_ne S dL_act_65 (tgt := 77) (by decide) (n := 68) rfl (fun _ => ?_) (fun h9 => absurd h9 (by decide))
  refine k_iload1 S dL_act_77 (n := 78) rfl ?_
  refine k_iconst S dL_act_78 (v := 5) (by decide) (n := 79) rfl ?_
  refine k_icmp_ne S dL_act_79 (tgt := 91) (by decide) (n := 82) rfl (fun _ => ?_) (fun h9 => absurd h9 (by decide))
  refine k_iload1 S dL_act_91 (n := 92) rfl ?_
  refine k_bipush S dL_act_92 (v := 6) (by decide) (n := 94) rfl ?_
  refine k_icmp_ne S dL_act_94 (tgt := 106) (by decide) (n := 97) rfl (fun _ => ?_) (fun h9 => absurd h9 (by decide))
  refine k_iload1 S dL_act_106 (n := 107) rfl ?_
  refine k_bipush S dL_act_107 (v := 7) (by decide) (n := 109) rfl ?_
  refine k_icmp_ne S dL_act_109 (tgt := 121) (by decide) (n := 112) rfl (fun _ => ?_) (fun h9 => absurd h9 (by decide))
  refine k_iload1 S dL_act_121 (n := 122) rfl ?_
  refine k_bipush S dL_act_122 (v := 8) (by decide) (n := 124) rfl ?_
  refine k_icmp_ne S dL_act_124 (tgt := 136) (by decide) (n := 127) rfl (fun _ => ?_) (fun h9 => absurd h9 (by decide))
  refine k_iload1 S dL_act_136 (n := 137) rfl ?_
  refine k_bipush S dL_act_137 (v := 9) (by decide) (n := 139) rfl ?_
  refine k_icmp_ne S dL_act_139 (tgt := 151) (by decide) (n := 142) rfl (fun _ => ?_) (fun h9 => absurd h9 (by decide))
  refine k_iload1 S dL_act_151 (n := 152) rfl ?_
  refine k_bipush S dL_act_152 (v := 10) (by decide) (n := 154) rfl ?_
  refine k_icmp_ne S dL_act_154 (tgt := 166) (by decide) (n := 157) rfl (fun h9 => absurd (by decide) h9) (fun _ => ?_)
  refine k_aload0 S dL_act_157 (n := 158) rfl ?_
  refine k_iload2 S dL_act_158 (n := 159) rfl ?_
  refine k_callV (As := [.int a]) (rest := []) (p := 0) S (hM) mv_X3_signals m_518 dL_act_159 rfl rfl ⟨by decide, by decide⟩ (zlt S (by decide)) (by decide) (ci := 3) rfl rfl rfl (Nat.le_of_ble_eq_true rfl) ⟨by decide, by decide⟩ (n := 162) rfl hKX (fun v9 ν9 h9 => ?_)
  exact False.elim h9
set_option maxRecDepth 100000 in
set_option maxHeartbeats 4000000 in
theorem x_act11 {l : Launch} {g : zG} {μ : zM} {a b c : Int32} {E : String} (hE : E = "java/lang/IndexOutOfBoundsException" ∨ E = "java/lang/IllegalArgumentException" ∨ E = "java/lang/IllegalStateException") (hM : zC l g yX3_signalsByWindows cX3_signalsByWindows 5 (some .int) ({ frames := 7, cells := 1, slots := 6, locals := 103 } : Room) 1 6 [.ref (za g 0), .int a] μ zNR (zXv E μ)) : zCH l g yL_act cL_act 6 (some .long) [(0, 302, 303, 18), (0, 302, 309, 13), (0, 302, 315, 20)] ({ frames := 8, cells := 1, slots := 6, locals := 127 } : Room) 1 6 [.ref (za g 0), .int 11, .int a, .int b, .int c] μ (zRv (some (.long (zcd E))) μ) zNX := by
  refine zCH_of (L0 := [some (.ref (za g 0)), some (.int 11), some (.int a), some (.int b), some (.int c), none]) (by decide) (Nat.le_of_ble_eq_true rfl) rfl ?_
  intro x S Y hxl
  subst hxl
  have hKX : ∀ (E9 : String) (ν9 : zM), zXv E μ E9 ν9 → zKX x g ({ frames := 8, cells := 1, slots := 6, locals := 127 } : Room) 6 (0 + 1) (0 + 6) 174 [some (.ref (za g 0)), some (.int 11), some (.int a), some (.int b), some (.int c), none] [] E9 ν9 := by
    intro E9 ν9 h9
    obtain ⟨e1, e2⟩ := h9
    subst e1
    subst e2
    rcases hE with e | e | e
    · subst e
      refine k_catch S Y (tableOf []) ⟨0, 302, 303, 18⟩ (tableOf [(0, 302, 309, 13), (0, 302, 315, 20)]) rfl (fun y hy => absurd hy List.not_mem_nil) (by decide) (by decide) m_421 (by decide +kernel) rfl (fun q9 => ?_)
      refine k_astore5 S dL_act_303 (by decide) rfl (n := 305) rfl ?_
      refine k_ldc2 S dL_act_305 (v := (-99000011)) m_415 (n := 308) rfl ?_
      exact k_lret S Y dL_act_308 (by decide) (by decide) (⟨by rw [zcd_p], rfl⟩)
    · subst e
      refine k_catch S Y (tableOf [(0, 302, 303, 18)]) ⟨0, 302, 309, 13⟩ (tableOf [(0, 302, 315, 20)]) rfl (fun y hy => by simp only [tableOf, List.map, List.mem_cons, List.not_mem_nil, or_false] at hy; have e := hy; subst e <;> first | exact ⟨by decide, "java/lang/IndexOutOfBoundsException", m_421, by decide⟩) (by decide) (by decide) m_338 (by decide +kernel) rfl (fun q9 => ?_)
      refine k_astore5 S dL_act_309 (by decide) rfl (n := 311) rfl ?_
      refine k_ldc2 S dL_act_311 (v := (-99000012)) m_416 (n := 314) rfl ?_
      exact k_lret S Y dL_act_314 (by decide) (by decide) (⟨by rw [zcd_a], rfl⟩)
    · subst e
      refine k_catch S Y (tableOf [(0, 302, 303, 18), (0, 302, 309, 13)]) ⟨0, 302, 315, 20⟩ (tableOf []) rfl (fun y hy => by simp only [tableOf, List.map, List.mem_cons, List.not_mem_nil, or_false] at hy; rcases hy with e | e <;> subst e <;> first | exact ⟨by decide, "java/lang/IndexOutOfBoundsException", m_421, by decide⟩ | exact ⟨by decide, "java/lang/IllegalArgumentException", m_338, by decide⟩) (by decide) (by decide) m_422 (by decide +kernel) rfl (fun q9 => ?_)
      refine k_astore5 S dL_act_315 (by decide) rfl (n := 317) rfl ?_
      refine k_ldc2 S dL_act_317 (v := (-99000013)) m_620 (n := 320) rfl ?_
      exact k_lret S Y dL_act_320 (by decide) (by decide) (⟨by rw [zcd_s], rfl⟩)
  refine k_iload1 S dL_act_0 (n := 1) rfl ?_
  refine k_if_ne S dL_act_1 (tgt := 21) (by decide) (n := 4) rfl (fun _ => ?_) (fun h9 => absurd h9 (by decide))
  refine k_iload1 S dL_act_21 (n := 22) rfl ?_
  refine k_iconst S dL_act_22 (v := 1) (by decide) (n := 23) rfl ?_
  refine k_icmp_ne S dL_act_23 (tgt := 34) (by decide) (n := 26) rfl (fun _ => ?_) (fun h9 => absurd h9 (by decide))
  refine k_iload1 S dL_act_34 (n := 35) rfl ?_
  refine k_iconst S dL_act_35 (v := 2) (by decide) (n := 36) rfl ?_
  refine k_icmp_ne S dL_act_36 (tgt := 49) (by decide) (n := 39) rfl (fun _ => ?_) (fun h9 => absurd h9 (by decide))
  refine k_iload1 S dL_act_49 (n := 50) rfl ?_
  refine k_iconst S dL_act_50 (v := 3) (by decide) (n := 51) rfl ?_
  refine k_icmp_ne S dL_act_51 (tgt := 63) (by decide) (n := 54) rfl (fun _ => ?_) (fun h9 => absurd h9 (by decide))
  refine k_iload1 S dL_act_63 (n := 64) rfl ?_
  refine k_iconst S dL_act_64 (v := 4) (by decide) (n := 65) rfl ?_
  refine k_icmp_ne S dL_act_65 (tgt := 77) (by decide) (n := 68) rfl (fun _ => ?_) (fun h9 => absurd h9 (by decide))
  refine k_iload1 S dL_act_77 (n := 78) rfl ?_
  refine k_iconst S dL_act_78 (v := 5) (by decide) (n := 79) rfl ?_
  refine k_icmp_ne S dL_act_79 (tgt := 91) (by decide) (n := 82) rfl (fun _ => ?_) (fun h9 => absurd h9 (by decide))
  refine k_iload1 S dL_act_91 (n := 92) rfl ?_
  refine k_bipush S dL_act_92 (v := 6) (by decide) (n := 94) rfl ?_
  refine k_icmp_ne S dL_act_94 (tgt := 106) (by decide) (n := 97) rfl (fun _ => ?_) (fun h9 => absurd h9 (by decide))
  refine k_iload1 S dL_act_106 (n := 107) rfl ?_
  refine k_bipush S dL_act_107 (v := 7) (by decide) (n := 109) rfl ?_
  refine k_icmp_ne S dL_act_109 (tgt := 121) (by decide) (n := 112) rfl (fun _ => ?_) (fun h9 => absurd h9 (by decide))
  refine k_iload1 S dL_act_121 (n := 122) rfl ?_
  refine k_bipush S dL_act_122 (v := 8) (by decide) (n := 124) rfl ?_
  refine k_icmp_ne S dL_act_124 (tgt := 136) (by decide) (n := 127) rfl (fun _ => ?_) (fun h9 => absurd h9 (by decide))
  refine k_iload1 S dL_act_136 (n := 137) rfl ?_
  refine k_bipush S dL_act_137 (v := 9) (by decide) (n := 139) rfl ?_
  refine k_icmp_ne S dL_act_139 (tgt := 151) (by decide) (n := 142) rfl (fun _ => ?_) (fun h9 => absurd h9 (by decide))
  refine k_iload1 S dL_act_151 (n := 152) rfl ?_
  refine k_bipush S dL_act_152 (v := 10) (by decide) (n := 154) rfl ?_
  refine k_icmp_ne S dL_act_154 (tgt := 166) (by decide) (n := 157) rfl (fun _ => ?_) (fun h9 => absurd h9 (by decide))
  refine k_iload1 S dL_act_166 (n := 167) rfl ?_
  refine k_bipush S dL_act_167 (v := 11) (by decide) (n := 169) rfl ?_
  refine k_icmp_ne S dL_act_169 (tgt := 181) (by decide) (n := 172) rfl (fun h9 => absurd (by decide) h9) (fun _ => ?_)
  refine k_aload0 S dL_act_172 (n := 173) rfl ?_
  refine k_iload2 S dL_act_173 (n := 174) rfl ?_
  refine k_callV (As := [.int a]) (rest := []) (p := 0) S (hM) mv_X3_signalsByWindows m_522 dL_act_174 rfl rfl ⟨by decide, by decide⟩ (zlt S (by decide)) (by decide) (ci := 3) rfl rfl rfl (Nat.le_of_ble_eq_true rfl) ⟨by decide, by decide⟩ (n := 177) rfl hKX (fun v9 ν9 h9 => ?_)
  exact False.elim h9
set_option maxRecDepth 100000 in
set_option maxHeartbeats 4000000 in
theorem x_act12 {l : Launch} {g : zG} {μ : zM} {a b c : Int32} {E : String} (hE : E = "java/lang/IndexOutOfBoundsException" ∨ E = "java/lang/IllegalArgumentException" ∨ E = "java/lang/IllegalStateException") (hM : zC l g yX3_firstOf cX3_firstOf 4 (some .int) ({ frames := 7, cells := 2, slots := 12, locals := 103 } : Room) 2 12 [.ref (za g 0), .int a, .int b] μ zNR (zXv E μ)) : zCH l g yL_act cL_act 6 (some .long) [(0, 302, 303, 18), (0, 302, 309, 13), (0, 302, 315, 20)] ({ frames := 8, cells := 2, slots := 12, locals := 126 } : Room) 2 12 [.ref (za g 0), .int 12, .int a, .int b, .int c] μ (zRv (some (.long (zcd E))) μ) zNX := by
  refine zCH_of (L0 := [some (.ref (za g 0)), some (.int 12), some (.int a), some (.int b), some (.int c), none]) (by decide) (Nat.le_of_ble_eq_true rfl) rfl ?_
  intro x S Y hxl
  subst hxl
  have hKX : ∀ (E9 : String) (ν9 : zM), zXv E μ E9 ν9 → zKX x g ({ frames := 8, cells := 2, slots := 12, locals := 126 } : Room) 6 (0 + 2) (0 + 12) 190 [some (.ref (za g 0)), some (.int 12), some (.int a), some (.int b), some (.int c), none] [] E9 ν9 := by
    intro E9 ν9 h9
    obtain ⟨e1, e2⟩ := h9
    subst e1
    subst e2
    rcases hE with e | e | e
    · subst e
      refine k_catch S Y (tableOf []) ⟨0, 302, 303, 18⟩ (tableOf [(0, 302, 309, 13), (0, 302, 315, 20)]) rfl (fun y hy => absurd hy List.not_mem_nil) (by decide) (by decide) m_421 (by decide +kernel) rfl (fun q9 => ?_)
      refine k_astore5 S dL_act_303 (by decide) rfl (n := 305) rfl ?_
      refine k_ldc2 S dL_act_305 (v := (-99000011)) m_415 (n := 308) rfl ?_
      exact k_lret S Y dL_act_308 (by decide) (by decide) (⟨by rw [zcd_p], rfl⟩)
    · subst e
      refine k_catch S Y (tableOf [(0, 302, 303, 18)]) ⟨0, 302, 309, 13⟩ (tableOf [(0, 302, 315, 20)]) rfl (fun y hy => by simp only [tableOf, List.map, List.mem_cons, List.not_mem_nil, or_false] at hy; have e := hy; subst e <;> first | exact ⟨by decide, "java/lang/IndexOutOfBoundsException", m_421, by decide⟩) (by decide) (by decide) m_338 (by decide +kernel) rfl (fun q9 => ?_)
      refine k_astore5 S dL_act_309 (by decide) rfl (n := 311) rfl ?_
      refine k_ldc2 S dL_act_311 (v := (-99000012)) m_416 (n := 314) rfl ?_
      exact k_lret S Y dL_act_314 (by decide) (by decide) (⟨by rw [zcd_a], rfl⟩)
    · subst e
      refine k_catch S Y (tableOf [(0, 302, 303, 18), (0, 302, 309, 13)]) ⟨0, 302, 315, 20⟩ (tableOf []) rfl (fun y hy => by simp only [tableOf, List.map, List.mem_cons, List.not_mem_nil, or_false] at hy; rcases hy with e | e <;> subst e <;> first | exact ⟨by decide, "java/lang/IndexOutOfBoundsException", m_421, by decide⟩ | exact ⟨by decide, "java/lang/IllegalArgumentException", m_338, by decide⟩) (by decide) (by decide) m_422 (by decide +kernel) rfl (fun q9 => ?_)
      refine k_astore5 S dL_act_315 (by decide) rfl (n := 317) rfl ?_
      refine k_ldc2 S dL_act_317 (v := (-99000013)) m_620 (n := 320) rfl ?_
      exact k_lret S Y dL_act_320 (by decide) (by decide) (⟨by rw [zcd_s], rfl⟩)
  refine k_iload1 S dL_act_0 (n := 1) rfl ?_
  refine k_if_ne S dL_act_1 (tgt := 21) (by decide) (n := 4) rfl (fun _ => ?_) (fun h9 => absurd h9 (by decide))
  refine k_iload1 S dL_act_21 (n := 22) rfl ?_
  refine k_iconst S dL_act_22 (v := 1) (by decide) (n := 23) rfl ?_
  refine k_icmp_ne S dL_act_23 (tgt := 34) (by decide) (n := 26) rfl (fun _ => ?_) (fun h9 => absurd h9 (by decide))
  refine k_iload1 S dL_act_34 (n := 35) rfl ?_
  refine k_iconst S dL_act_35 (v := 2) (by decide) (n := 36) rfl ?_
  refine k_icmp_ne S dL_act_36 (tgt := 49) (by decide) (n := 39) rfl (fun _ => ?_) (fun h9 => absurd h9 (by decide))
  refine k_iload1 S dL_act_49 (n := 50) rfl ?_
  refine k_iconst S dL_act_50 (v := 3) (by decide) (n := 51) rfl ?_
  refine k_icmp_ne S dL_act_51 (tgt := 63) (by decide) (n := 54) rfl (fun _ => ?_) (fun h9 => absurd h9 (by decide))
  refine k_iload1 S dL_act_63 (n := 64) rfl ?_
  refine k_iconst S dL_act_64 (v := 4) (by decide) (n := 65) rfl ?_
  refine k_icmp_ne S dL_act_65 (tgt := 77) (by decide) (n := 68) rfl (fun _ => ?_) (fun h9 => absurd h9 (by decide))
  refine k_iload1 S dL_act_77 (n := 78) rfl ?_
  refine k_iconst S dL_act_78 (v := 5) (by decide) (n := 79) rfl ?_
  refine k_icmp_ne S dL_act_79 (tgt := 91) (by decide) (n := 82) rfl (fun _ => ?_) (fun h9 => absurd h9 (by decide))
  refine k_iload1 S dL_act_91 (n := 92) rfl ?_
  refine k_bipush S dL_act_92 (v := 6) (by decide) (n := 94) rfl ?_
  refine k_icmp_ne S dL_act_94 (tgt := 106) (by decide) (n := 97) rfl (fun _ => ?_) (fun h9 => absurd h9 (by decide))
  refine k_iload1 S dL_act_106 (n := 107) rfl ?_
  refine k_bipush S dL_act_107 (v := 7) (by decide) (n := 109) rfl ?_
  refine k_icmp_ne S dL_act_109 (tgt := 121) (by decide) (n := 112) rfl (fun _ => ?_) (fun h9 => absurd h9 (by decide))
  refine k_iload1 S dL_act_121 (n := 122) rfl ?_
  refine k_bipush S dL_act_122 (v := 8) (by decide) (n := 124) rfl ?_
  refine k_icmp_ne S dL_act_124 (tgt := 136) (by decide) (n := 127) rfl (fun _ => ?_) (fun h9 => absurd h9 (by decide))
  refine k_iload1 S dL_act_136 (n := 137) rfl ?_
  refine k_bipush S dL_act_137 (v := 9) (by decide) (n := 139) rfl ?_
  refine k_icmp_ne S dL_act_139 (tgt := 151) (by decide) (n := 142) rfl (fun _ => ?_) (fun h9 => absurd h9 (by decide))
  refine k_iload1 S dL_act_151 (n := 152) rfl ?_
  refine k_bipush S dL_act_152 (v := 10) (by decide) (n := 154) rfl ?_
  refine k_icmp_ne S dL_act_154 (tgt := 166) (by decide) (n := 157) rfl (fun _ => ?_) (fun h9 => absurd h9 (by decide))
  refine k_iload1 S dL_act_166 (n := 167) rfl ?_
  refine k_bipush S dL_act_167 (v := 11) (by decide) (n := 169) rfl ?_
  refine k_icmp_ne S dL_act_169 (tgt := 181) (by decide) (n := 172) rfl (fun _ => ?_) (fun h9 => absurd h9 (by decide))
  refine k_iload1 S dL_act_181 (n := 182) rfl ?_
  refine k_bipush S dL_act_182 (v := 12) (by decide) (n := 184) rfl ?_
  refine k_icmp_ne S dL_act_184 (tgt := 197) (by decide) (n := 187) rfl (fun h9 => absurd (by decide) h9) (fun _ => ?_)
  refine k_aload0 S dL_act_187 (n := 188) rfl ?_
  refine k_iload2 S dL_act_188 (n := 189) rfl ?_
  refine k_iload3 S dL_act_189 (n := 190) rfl ?_
  refine k_callV (As := [.int a, .int b]) (rest := []) (p := 0) S (hM) mv_X3_firstOf m_571 dL_act_190 rfl rfl ⟨by decide, by decide⟩ (zlt S (by decide)) (by decide) (ci := 3) rfl rfl rfl (Nat.le_of_ble_eq_true rfl) ⟨by decide, by decide⟩ (n := 193) rfl hKX (fun v9 ν9 h9 => ?_)
  exact False.elim h9
set_option maxRecDepth 100000 in
set_option maxHeartbeats 4000000 in
theorem x_act13 {l : Launch} {g : zG} {μ : zM} {a b c : Int32} {E : String} (hE : E = "java/lang/IndexOutOfBoundsException" ∨ E = "java/lang/IllegalArgumentException" ∨ E = "java/lang/IllegalStateException") (hM : zC l g yX3_isWide cX3_isWide 2 (some .boolean) ({ frames := 7, cells := 1, slots := 6, locals := 103 } : Room) 1 6 [.ref (za g 0), .int a] μ zNR (zXv E μ)) : zCH l g yL_act cL_act 6 (some .long) [(0, 302, 303, 18), (0, 302, 309, 13), (0, 302, 315, 20)] ({ frames := 8, cells := 1, slots := 6, locals := 124 } : Room) 1 6 [.ref (za g 0), .int 13, .int a, .int b, .int c] μ (zRv (some (.long (zcd E))) μ) zNX := by
  refine zCH_of (L0 := [some (.ref (za g 0)), some (.int 13), some (.int a), some (.int b), some (.int c), none]) (by decide) (Nat.le_of_ble_eq_true rfl) rfl ?_
  intro x S Y hxl
  subst hxl
  have hKX : ∀ (E9 : String) (ν9 : zM), zXv E μ E9 ν9 → zKX x g ({ frames := 8, cells := 1, slots := 6, locals := 124 } : Room) 6 (0 + 1) (0 + 6) 205 [some (.ref (za g 0)), some (.int 13), some (.int a), some (.int b), some (.int c), none] [] E9 ν9 := by
    intro E9 ν9 h9
    obtain ⟨e1, e2⟩ := h9
    subst e1
    subst e2
    rcases hE with e | e | e
    · subst e
      refine k_catch S Y (tableOf []) ⟨0, 302, 303, 18⟩ (tableOf [(0, 302, 309, 13), (0, 302, 315, 20)]) rfl (fun y hy => absurd hy List.not_mem_nil) (by decide) (by decide) m_421 (by decide +kernel) rfl (fun q9 => ?_)
      refine k_astore5 S dL_act_303 (by decide) rfl (n := 305) rfl ?_
      refine k_ldc2 S dL_act_305 (v := (-99000011)) m_415 (n := 308) rfl ?_
      exact k_lret S Y dL_act_308 (by decide) (by decide) (⟨by rw [zcd_p], rfl⟩)
    · subst e
      refine k_catch S Y (tableOf [(0, 302, 303, 18)]) ⟨0, 302, 309, 13⟩ (tableOf [(0, 302, 315, 20)]) rfl (fun y hy => by simp only [tableOf, List.map, List.mem_cons, List.not_mem_nil, or_false] at hy; have e := hy; subst e <;> first | exact ⟨by decide, "java/lang/IndexOutOfBoundsException", m_421, by decide⟩) (by decide) (by decide) m_338 (by decide +kernel) rfl (fun q9 => ?_)
      refine k_astore5 S dL_act_309 (by decide) rfl (n := 311) rfl ?_
      refine k_ldc2 S dL_act_311 (v := (-99000012)) m_416 (n := 314) rfl ?_
      exact k_lret S Y dL_act_314 (by decide) (by decide) (⟨by rw [zcd_a], rfl⟩)
    · subst e
      refine k_catch S Y (tableOf [(0, 302, 303, 18), (0, 302, 309, 13)]) ⟨0, 302, 315, 20⟩ (tableOf []) rfl (fun y hy => by simp only [tableOf, List.map, List.mem_cons, List.not_mem_nil, or_false] at hy; rcases hy with e | e <;> subst e <;> first | exact ⟨by decide, "java/lang/IndexOutOfBoundsException", m_421, by decide⟩ | exact ⟨by decide, "java/lang/IllegalArgumentException", m_338, by decide⟩) (by decide) (by decide) m_422 (by decide +kernel) rfl (fun q9 => ?_)
      refine k_astore5 S dL_act_315 (by decide) rfl (n := 317) rfl ?_
      refine k_ldc2 S dL_act_317 (v := (-99000013)) m_620 (n := 320) rfl ?_
      exact k_lret S Y dL_act_320 (by decide) (by decide) (⟨by rw [zcd_s], rfl⟩)
  refine k_iload1 S dL_act_0 (n := 1) rfl ?_
  refine k_if_ne S dL_act_1 (tgt := 21) (by decide) (n := 4) rfl (fun _ => ?_) (fun h9 => absurd h9 (by decide))
  refine k_iload1 S dL_act_21 (n := 22) rfl ?_
  refine k_iconst S dL_act_22 (v := 1) (by decide) (n := 23) rfl ?_
  refine k_icmp_ne S dL_act_23 (tgt := 34) (by decide) (n := 26) rfl (fun _ => ?_) (fun h9 => absurd h9 (by decide))
  refine k_iload1 S dL_act_34 (n := 35) rfl ?_
  refine k_iconst S dL_act_35 (v := 2) (by decide) (n := 36) rfl ?_
  refine k_icmp_ne S dL_act_36 (tgt := 49) (by decide) (n := 39) rfl (fun _ => ?_) (fun h9 => absurd h9 (by decide))
  refine k_iload1 S dL_act_49 (n := 50) rfl ?_
  refine k_iconst S dL_act_50 (v := 3) (by decide) (n := 51) rfl ?_
  refine k_icmp_ne S dL_act_51 (tgt := 63) (by decide) (n := 54) rfl (fun _ => ?_) (fun h9 => absurd h9 (by decide))
  refine k_iload1 S dL_act_63 (n := 64) rfl ?_
  refine k_iconst S dL_act_64 (v := 4) (by decide) (n := 65) rfl ?_
  refine k_icmp_ne S dL_act_65 (tgt := 77) (by decide) (n := 68) rfl (fun _ => ?_) (fun h9 => absurd h9 (by decide))
  refine k_iload1 S dL_act_77 (n := 78) rfl ?_
  refine k_iconst S dL_act_78 (v := 5) (by decide) (n := 79) rfl ?_
  refine k_icmp_ne S dL_act_79 (tgt := 91) (by decide) (n := 82) rfl (fun _ => ?_) (fun h9 => absurd h9 (by decide))
  refine k_iload1 S dL_act_91 (n := 92) rfl ?_
  refine k_bipush S dL_act_92 (v := 6) (by decide) (n := 94) rfl ?_
  refine k_icmp_ne S dL_act_94 (tgt := 106) (by decide) (n := 97) rfl (fun _ => ?_) (fun h9 => absurd h9 (by decide))
  refine k_iload1 S dL_act_106 (n := 107) rfl ?_
  refine k_bipush S dL_act_107 (v := 7) (by decide) (n := 109) rfl ?_
  refine k_icmp_ne S dL_act_109 (tgt := 121) (by decide) (n := 112) rfl (fun _ => ?_) (fun h9 => absurd h9 (by decide))
  refine k_iload1 S dL_act_121 (n := 122) rfl ?_
  refine k_bipush S dL_act_122 (v := 8) (by decide) (n := 124) rfl ?_
  refine k_icmp_ne S dL_act_124 (tgt := 136) (by decide) (n := 127) rfl (fun _ => ?_) (fun h9 => absurd h9 (by decide))
  refine k_iload1 S dL_act_136 (n := 137) rfl ?_
  refine k_bipush S dL_act_137 (v := 9) (by decide) (n := 139) rfl ?_
  refine k_icmp_ne S dL_act_139 (tgt := 151) (by decide) (n := 142) rfl (fun _ => ?_) (fun h9 => absurd h9 (by decide))
  refine k_iload1 S dL_act_151 (n := 152) rfl ?_
  refine k_bipush S dL_act_152 (v := 10) (by decide) (n := 154) rfl ?_
  refine k_icmp_ne S dL_act_154 (tgt := 166) (by decide) (n := 157) rfl (fun _ => ?_) (fun h9 => absurd h9 (by decide))
  refine k_iload1 S dL_act_166 (n := 167) rfl ?_
  refine k_bipush S dL_act_167 (v := 11) (by decide) (n := 169) rfl ?_
  refine k_icmp_ne S dL_act_169 (tgt := 181) (by decide) (n := 172) rfl (fun _ => ?_) (fun h9 => absurd h9 (by decide))
  refine k_iload1 S dL_act_181 (n := 182) rfl ?_
  refine k_bipush S dL_act_182 (v := 12) (by decide) (n := 184) rfl ?_
  refine k_icmp_ne S dL_act_184 (tgt := 197) (by decide) (n := 187) rfl (fun _ => ?_) (fun h9 => absurd h9 (by decide))
  refine k_iload1 S dL_act_197 (n := 198) rfl ?_
  refine k_bipush S dL_act_198 (v := 13) (by decide) (n := 200) rfl ?_
  refine k_icmp_ne S dL_act_200 (tgt := 220) (by decide) (n := 203) rfl (fun h9 => absurd (by decide) h9) (fun _ => ?_)
  refine k_aload0 S dL_act_203 (n := 204) rfl ?_
  refine k_iload2 S dL_act_204 (n := 205) rfl ?_
  refine k_callV (As := [.int a]) (rest := []) (p := 0) S (hM) mv_X3_isWide m_581 dL_act_205 rfl rfl ⟨by decide, by decide⟩ (zlt S (by decide)) (by decide) (ci := 3) rfl rfl rfl (Nat.le_of_ble_eq_true rfl) ⟨by decide, by decide⟩ (n := 208) rfl hKX (fun v9 ν9 h9 => ?_)
  exact False.elim h9
set_option maxRecDepth 100000 in
set_option maxHeartbeats 4000000 in
theorem x_act14 {l : Launch} {g : zG} {μ : zM} {a b c : Int32} {E : String} (hE : E = "java/lang/IndexOutOfBoundsException" ∨ E = "java/lang/IllegalArgumentException" ∨ E = "java/lang/IllegalStateException") (hM : zC l g yX3_setWeight cX3_setWeight 3 (some .int) ({ frames := 6, cells := 1, slots := 6, locals := 82 } : Room) 1 6 [.ref (za g 0), .int a] μ zNR (zXv E μ)) : zCH l g yL_act cL_act 6 (some .long) [(0, 302, 303, 18), (0, 302, 309, 13), (0, 302, 315, 20)] ({ frames := 7, cells := 1, slots := 6, locals := 104 } : Room) 1 6 [.ref (za g 0), .int 14, .int a, .int b, .int c] μ (zRv (some (.long (zcd E))) μ) zNX := by
  refine zCH_of (L0 := [some (.ref (za g 0)), some (.int 14), some (.int a), some (.int b), some (.int c), none]) (by decide) (Nat.le_of_ble_eq_true rfl) rfl ?_
  intro x S Y hxl
  subst hxl
  have hKX : ∀ (E9 : String) (ν9 : zM), zXv E μ E9 ν9 → zKX x g ({ frames := 7, cells := 1, slots := 6, locals := 104 } : Room) 6 (0 + 1) (0 + 6) 228 [some (.ref (za g 0)), some (.int 14), some (.int a), some (.int b), some (.int c), none] [] E9 ν9 := by
    intro E9 ν9 h9
    obtain ⟨e1, e2⟩ := h9
    subst e1
    subst e2
    rcases hE with e | e | e
    · subst e
      refine k_catch S Y (tableOf []) ⟨0, 302, 303, 18⟩ (tableOf [(0, 302, 309, 13), (0, 302, 315, 20)]) rfl (fun y hy => absurd hy List.not_mem_nil) (by decide) (by decide) m_421 (by decide +kernel) rfl (fun q9 => ?_)
      refine k_astore5 S dL_act_303 (by decide) rfl (n := 305) rfl ?_
      refine k_ldc2 S dL_act_305 (v := (-99000011)) m_415 (n := 308) rfl ?_
      exact k_lret S Y dL_act_308 (by decide) (by decide) (⟨by rw [zcd_p], rfl⟩)
    · subst e
      refine k_catch S Y (tableOf [(0, 302, 303, 18)]) ⟨0, 302, 309, 13⟩ (tableOf [(0, 302, 315, 20)]) rfl (fun y hy => by simp only [tableOf, List.map, List.mem_cons, List.not_mem_nil, or_false] at hy; have e := hy; subst e <;> first | exact ⟨by decide, "java/lang/IndexOutOfBoundsException", m_421, by decide⟩) (by decide) (by decide) m_338 (by decide +kernel) rfl (fun q9 => ?_)
      refine k_astore5 S dL_act_309 (by decide) rfl (n := 311) rfl ?_
      refine k_ldc2 S dL_act_311 (v := (-99000012)) m_416 (n := 314) rfl ?_
      exact k_lret S Y dL_act_314 (by decide) (by decide) (⟨by rw [zcd_a], rfl⟩)
    · subst e
      refine k_catch S Y (tableOf [(0, 302, 303, 18), (0, 302, 309, 13)]) ⟨0, 302, 315, 20⟩ (tableOf []) rfl (fun y hy => by simp only [tableOf, List.map, List.mem_cons, List.not_mem_nil, or_false] at hy; rcases hy with e | e <;> subst e <;> first | exact ⟨by decide, "java/lang/IndexOutOfBoundsException", m_421, by decide⟩ | exact ⟨by decide, "java/lang/IllegalArgumentException", m_338, by decide⟩) (by decide) (by decide) m_422 (by decide +kernel) rfl (fun q9 => ?_)
      refine k_astore5 S dL_act_315 (by decide) rfl (n := 317) rfl ?_
      refine k_ldc2 S dL_act_317 (v := (-99000013)) m_620 (n := 320) rfl ?_
      exact k_lret S Y dL_act_320 (by decide) (by decide) (⟨by rw [zcd_s], rfl⟩)
  refine k_iload1 S dL_act_0 (n := 1) rfl ?_
  refine k_if_ne S dL_act_1 (tgt := 21) (by decide) (n := 4) rfl (fun _ => ?_) (fun h9 => absurd h9 (by decide))
  refine k_iload1 S dL_act_21 (n := 22) rfl ?_
  refine k_iconst S dL_act_22 (v := 1) (by decide) (n := 23) rfl ?_
  refine k_icmp_ne S dL_act_23 (tgt := 34) (by decide) (n := 26) rfl (fun _ => ?_) (fun h9 => absurd h9 (by decide))
  refine k_iload1 S dL_act_34 (n := 35) rfl ?_
  refine k_iconst S dL_act_35 (v := 2) (by decide) (n := 36) rfl ?_
  refine k_icmp_ne S dL_act_36 (tgt := 49) (by decide) (n := 39) rfl (fun _ => ?_) (fun h9 => absurd h9 (by decide))
  refine k_iload1 S dL_act_49 (n := 50) rfl ?_
  refine k_iconst S dL_act_50 (v := 3) (by decide) (n := 51) rfl ?_
  refine k_icmp_ne S dL_act_51 (tgt := 63) (by decide) (n := 54) rfl (fun _ => ?_) (fun h9 => absurd h9 (by decide))
  refine k_iload1 S dL_act_63 (n := 64) rfl ?_
  refine k_iconst S dL_act_64 (v := 4) (by decide) (n := 65) rfl ?_
  refine k_icmp_ne S dL_act_65 (tgt := 77) (by decide) (n := 68) rfl (fun _ => ?_) (fun h9 => absurd h9 (by decide))
  refine k_iload1 S dL_act_77 (n := 78) rfl ?_
  refine k_iconst S dL_act_78 (v := 5) (by decide) (n := 79) rfl ?_
  refine k_icmp_ne S dL_act_79 (tgt := 91) (by decide) (n := 82) rfl (fun _ => ?_) (fun h9 => absurd h9 (by decide))
  refine k_iload1 S dL_act_91 (n := 92) rfl ?_
  refine k_bipush S dL_act_92 (v := 6) (by decide) (n := 94) rfl ?_
  refine k_icmp_ne S dL_act_94 (tgt := 106) (by decide) (n := 97) rfl (fun _ => ?_) (fun h9 => absurd h9 (by decide))
  refine k_iload1 S dL_act_106 (n := 107) rfl ?_
  refine k_bipush S dL_act_107 (v := 7) (by decide) (n := 109) rfl ?_
  refine k_icmp_ne S dL_act_109 (tgt := 121) (by decide) (n := 112) rfl (fun _ => ?_) (fun h9 => absurd h9 (by decide))
  refine k_iload1 S dL_act_121 (n := 122) rfl ?_
  refine k_bipush S dL_act_122 (v := 8) (by decide) (n := 124) rfl ?_
  refine k_icmp_ne S dL_act_124 (tgt := 136) (by decide) (n := 127) rfl (fun _ => ?_) (fun h9 => absurd h9 (by decide))
  refine k_iload1 S dL_act_136 (n := 137) rfl ?_
  refine k_bipush S dL_act_137 (v := 9) (by decide) (n := 139) rfl ?_
  refine k_icmp_ne S dL_act_139 (tgt := 151) (by decide) (n := 142) rfl (fun _ => ?_) (fun h9 => absurd h9 (by decide))
  refine k_iload1 S dL_act_151 (n := 152) rfl ?_
  refine k_bipush S dL_act_152 (v := 10) (by decide) (n := 154) rfl ?_
  refine k_icmp_ne S dL_act_154 (tgt := 166) (by decide) (n := 157) rfl (fun _ => ?_) (fun h9 => absurd h9 (by decide))
  refine k_iload1 S dL_act_166 (n := 167) rfl ?_
  refine k_bipush S dL_act_167 (v := 11) (by decide) (n := 169) rfl ?_
  refine k_icmp_ne S dL_act_169 (tgt := 181) (by decide) (n := 172) rfl (fun _ => ?_) (fun h9 => absurd h9 (by decide))
  refine k_iload1 S dL_act_181 (n := 182) rfl ?_
  refine k_bipush S dL_act_182 (v := 12) (by decide) (n := 184) rfl ?_
  refine k_icmp_ne S dL_act_184 (tgt := 197) (by decide) (n := 187) rfl (fun _ => ?_) (fun h9 => absurd h9 (by decide))
  refine k_iload1 S dL_act_197 (n := 198) rfl ?_
  refine k_bipush S dL_act_198 (v := 13) (by decide) (n := 200) rfl ?_
  refine k_icmp_ne S dL_act_200 (tgt := 220) (by decide) (n := 203) rfl (fun _ => ?_) (fun h9 => absurd h9 (by decide))
  refine k_iload1 S dL_act_220 (n := 221) rfl ?_
  refine k_bipush S dL_act_221 (v := 14) (by decide) (n := 223) rfl ?_
  refine k_icmp_ne S dL_act_223 (tgt := 235) (by decide) (n := 226) rfl (fun h9 => absurd (by decide) h9) (fun _ => ?_)
  refine k_aload0 S dL_act_226 (n := 227) rfl ?_
  refine k_iload2 S dL_act_227 (n := 228) rfl ?_
  refine k_callV (As := [.int a]) (rest := []) (p := 0) S (hM) mv_X3_setWeight m_585 dL_act_228 rfl rfl ⟨by decide, by decide⟩ (zlt S (by decide)) (by decide) (ci := 3) rfl rfl rfl (Nat.le_of_ble_eq_true rfl) ⟨by decide, by decide⟩ (n := 231) rfl hKX (fun v9 ν9 h9 => ?_)
  exact False.elim h9
set_option maxRecDepth 100000 in
set_option maxHeartbeats 4000000 in
theorem x_act15 {l : Launch} {g : zG} {μ : zM} {a b c : Int32} {E : String} (hE : E = "java/lang/IndexOutOfBoundsException" ∨ E = "java/lang/IllegalArgumentException" ∨ E = "java/lang/IllegalStateException") (hM : zC l g yX3_weighted cX3_weighted 5 (some .int) ({ frames := 8, cells := 2, slots := 12, locals := 124 } : Room) 2 12 [.ref (za g 0), .int a] μ zNR (zXv E μ)) : zCH l g yL_act cL_act 6 (some .long) [(0, 302, 303, 18), (0, 302, 309, 13), (0, 302, 315, 20)] ({ frames := 9, cells := 2, slots := 12, locals := 148 } : Room) 2 12 [.ref (za g 0), .int 15, .int a, .int b, .int c] μ (zRv (some (.long (zcd E))) μ) zNX := by
  refine zCH_of (L0 := [some (.ref (za g 0)), some (.int 15), some (.int a), some (.int b), some (.int c), none]) (by decide) (Nat.le_of_ble_eq_true rfl) rfl ?_
  intro x S Y hxl
  subst hxl
  have hKX : ∀ (E9 : String) (ν9 : zM), zXv E μ E9 ν9 → zKX x g ({ frames := 9, cells := 2, slots := 12, locals := 148 } : Room) 6 (0 + 2) (0 + 12) 243 [some (.ref (za g 0)), some (.int 15), some (.int a), some (.int b), some (.int c), none] [] E9 ν9 := by
    intro E9 ν9 h9
    obtain ⟨e1, e2⟩ := h9
    subst e1
    subst e2
    rcases hE with e | e | e
    · subst e
      refine k_catch S Y (tableOf []) ⟨0, 302, 303, 18⟩ (tableOf [(0, 302, 309, 13), (0, 302, 315, 20)]) rfl (fun y hy => absurd hy List.not_mem_nil) (by decide) (by decide) m_421 (by decide +kernel) rfl (fun q9 => ?_)
      refine k_astore5 S dL_act_303 (by decide) rfl (n := 305) rfl ?_
      refine k_ldc2 S dL_act_305 (v := (-99000011)) m_415 (n := 308) rfl ?_
      exact k_lret S Y dL_act_308 (by decide) (by decide) (⟨by rw [zcd_p], rfl⟩)
    · subst e
      refine k_catch S Y (tableOf [(0, 302, 303, 18)]) ⟨0, 302, 309, 13⟩ (tableOf [(0, 302, 315, 20)]) rfl (fun y hy => by simp only [tableOf, List.map, List.mem_cons, List.not_mem_nil, or_false] at hy; have e := hy; subst e <;> first | exact ⟨by decide, "java/lang/IndexOutOfBoundsException", m_421, by decide⟩) (by decide) (by decide) m_338 (by decide +kernel) rfl (fun q9 => ?_)
      refine k_astore5 S dL_act_309 (by decide) rfl (n := 311) rfl ?_
      refine k_ldc2 S dL_act_311 (v := (-99000012)) m_416 (n := 314) rfl ?_
      exact k_lret S Y dL_act_314 (by decide) (by decide) (⟨by rw [zcd_a], rfl⟩)
    · subst e
      refine k_catch S Y (tableOf [(0, 302, 303, 18), (0, 302, 309, 13)]) ⟨0, 302, 315, 20⟩ (tableOf []) rfl (fun y hy => by simp only [tableOf, List.map, List.mem_cons, List.not_mem_nil, or_false] at hy; rcases hy with e | e <;> subst e <;> first | exact ⟨by decide, "java/lang/IndexOutOfBoundsException", m_421, by decide⟩ | exact ⟨by decide, "java/lang/IllegalArgumentException", m_338, by decide⟩) (by decide) (by decide) m_422 (by decide +kernel) rfl (fun q9 => ?_)
      refine k_astore5 S dL_act_315 (by decide) rfl (n := 317) rfl ?_
      refine k_ldc2 S dL_act_317 (v := (-99000013)) m_620 (n := 320) rfl ?_
      exact k_lret S Y dL_act_320 (by decide) (by decide) (⟨by rw [zcd_s], rfl⟩)
  refine k_iload1 S dL_act_0 (n := 1) rfl ?_
  refine k_if_ne S dL_act_1 (tgt := 21) (by decide) (n := 4) rfl (fun _ => ?_) (fun h9 => absurd h9 (by decide))
  refine k_iload1 S dL_act_21 (n := 22) rfl ?_
  refine k_iconst S dL_act_22 (v := 1) (by decide) (n := 23) rfl ?_
  refine k_icmp_ne S dL_act_23 (tgt := 34) (by decide) (n := 26) rfl (fun _ => ?_) (fun h9 => absurd h9 (by decide))
  refine k_iload1 S dL_act_34 (n := 35) rfl ?_
  refine k_iconst S dL_act_35 (v := 2) (by decide) (n := 36) rfl ?_
  refine k_icmp_ne S dL_act_36 (tgt := 49) (by decide) (n := 39) rfl (fun _ => ?_) (fun h9 => absurd h9 (by decide))
  refine k_iload1 S dL_act_49 (n := 50) rfl ?_
  refine k_iconst S dL_act_50 (v := 3) (by decide) (n := 51) rfl ?_
  refine k_icmp_ne S dL_act_51 (tgt := 63) (by decide) (n := 54) rfl (fun _ => ?_) (fun h9 => absurd h9 (by decide))
  refine k_iload1 S dL_act_63 (n := 64) rfl ?_
  refine k_iconst S dL_act_64 (v := 4) (by decide) (n := 65) rfl ?_
  refine k_icmp_ne S dL_act_65 (tgt := 77) (by decide) (n := 68) rfl (fun _ => ?_) (fun h9 => absurd h9 (by decide))
  refine k_iload1 S dL_act_77 (n := 78) rfl ?_
  refine k_iconst S dL_act_78 (v := 5) (by decide) (n := 79) rfl ?_
  refine k_icmp_ne S dL_act_79 (tgt := 91) (by decide) (n := 82) rfl (fun _ => ?_) (fun h9 => absurd h9 (by decide))
  refine k_iload1 S dL_act_91 (n := 92) rfl ?_
  refine k_bipush S dL_act_92 (v := 6) (by decide) (n := 94) rfl ?_
  refine k_icmp_ne S dL_act_94 (tgt := 106) (by decide) (n := 97) rfl (fun _ => ?_) (fun h9 => absurd h9 (by decide))
  refine k_iload1 S dL_act_106 (n := 107) rfl ?_
  refine k_bipush S dL_act_107 (v := 7) (by decide) (n := 109) rfl ?_
  refine k_icmp_ne S dL_act_109 (tgt := 121) (by decide) (n := 112) rfl (fun _ => ?_) (fun h9 => absurd h9 (by decide))
  refine k_iload1 S dL_act_121 (n := 122) rfl ?_
  refine k_bipush S dL_act_122 (v := 8) (by decide) (n := 124) rfl ?_
  refine k_icmp_ne S dL_act_124 (tgt := 136) (by decide) (n := 127) rfl (fun _ => ?_) (fun h9 => absurd h9 (by decide))
  refine k_iload1 S dL_act_136 (n := 137) rfl ?_
  refine k_bipush S dL_act_137 (v := 9) (by decide) (n := 139) rfl ?_
  refine k_icmp_ne S dL_act_139 (tgt := 151) (by decide) (n := 142) rfl (fun _ => ?_) (fun h9 => absurd h9 (by decide))
  refine k_iload1 S dL_act_151 (n := 152) rfl ?_
  refine k_bipush S dL_act_152 (v := 10) (by decide) (n := 154) rfl ?_
  refine k_icmp_ne S dL_act_154 (tgt := 166) (by decide) (n := 157) rfl (fun _ => ?_) (fun h9 => absurd h9 (by decide))
  refine k_iload1 S dL_act_166 (n := 167) rfl ?_
  refine k_bipush S dL_act_167 (v := 11) (by decide) (n := 169) rfl ?_
  refine k_icmp_ne S dL_act_169 (tgt := 181) (by decide) (n := 172) rfl (fun _ => ?_) (fun h9 => absurd h9 (by decide))
  refine k_iload1 S dL_act_181 (n := 182) rfl ?_
  refine k_bipush S dL_act_182 (v := 12) (by decide) (n := 184) rfl ?_
  refine k_icmp_ne S dL_act_184 (tgt := 197) (by decide) (n := 187) rfl (fun _ => ?_) (fun h9 => absurd h9 (by decide))
  refine k_iload1 S dL_act_197 (n := 198) rfl ?_
  refine k_bipush S dL_act_198 (v := 13) (by decide) (n := 200) rfl ?_
  refine k_icmp_ne S dL_act_200 (tgt := 220) (by decide) (n := 203) rfl (fun _ => ?_) (fun h9 => absurd h9 (by decide))
  refine k_iload1 S dL_act_220 (n := 221) rfl ?_
  refine k_bipush S dL_act_221 (v := 14) (by decide) (n := 223) rfl ?_
  refine k_icmp_ne S dL_act_223 (tgt := 235) (by decide) (n := 226) rfl (fun _ => ?_) (fun h9 => absurd h9 (by decide))
  refine k_iload1 S dL_act_235 (n := 236) rfl ?_
  refine k_bipush S dL_act_236 (v := 15) (by decide) (n := 238) rfl ?_
  refine k_icmp_ne S dL_act_238 (tgt := 250) (by decide) (n := 241) rfl (fun h9 => absurd (by decide) h9) (fun _ => ?_)
  refine k_aload0 S dL_act_241 (n := 242) rfl ?_
  refine k_iload2 S dL_act_242 (n := 243) rfl ?_
  refine k_callV (As := [.int a]) (rest := []) (p := 0) S (hM) mv_X3_weighted m_590 dL_act_243 rfl rfl ⟨by decide, by decide⟩ (zlt S (by decide)) (by decide) (ci := 3) rfl rfl rfl (Nat.le_of_ble_eq_true rfl) ⟨by decide, by decide⟩ (n := 246) rfl hKX (fun v9 ν9 h9 => ?_)
  exact False.elim h9
set_option maxRecDepth 100000 in
set_option maxHeartbeats 4000000 in
theorem x_act16 {l : Launch} {g : zG} {μ : zM} {a b c : Int32} {E : String} (hE : E = "java/lang/IndexOutOfBoundsException" ∨ E = "java/lang/IllegalArgumentException" ∨ E = "java/lang/IllegalStateException") (hM : zC l g yX3_cumulative cX3_cumulative 8 (some .int) ({ frames := 8, cells := 2, slots := 12, locals := 124 } : Room) 2 12 [.ref (za g 0), .int a, .int ((if b = 1 then (1 : Int32) else (0 : Int32)))] μ zNR (zXv E μ)) : zCH l g yL_act cL_act 6 (some .long) [(0, 302, 303, 18), (0, 302, 309, 13), (0, 302, 315, 20)] ({ frames := 9, cells := 2, slots := 12, locals := 151 } : Room) 2 12 [.ref (za g 0), .int 16, .int a, .int b, .int c] μ (zRv (some (.long (zcd E))) μ) zNX := by
  refine zCH_of (L0 := [some (.ref (za g 0)), some (.int 16), some (.int a), some (.int b), some (.int c), none]) (by decide) (Nat.le_of_ble_eq_true rfl) rfl ?_
  intro x S Y hxl
  subst hxl
  have hKX : ∀ (E9 : String) (ν9 : zM), zXv E μ E9 ν9 → zKX x g ({ frames := 9, cells := 2, slots := 12, locals := 151 } : Room) 6 (0 + 2) (0 + 12) 268 [some (.ref (za g 0)), some (.int 16), some (.int a), some (.int b), some (.int c), none] [] E9 ν9 := by
    intro E9 ν9 h9
    obtain ⟨e1, e2⟩ := h9
    subst e1
    subst e2
    rcases hE with e | e | e
    · subst e
      refine k_catch S Y (tableOf []) ⟨0, 302, 303, 18⟩ (tableOf [(0, 302, 309, 13), (0, 302, 315, 20)]) rfl (fun y hy => absurd hy List.not_mem_nil) (by decide) (by decide) m_421 (by decide +kernel) rfl (fun q9 => ?_)
      refine k_astore5 S dL_act_303 (by decide) rfl (n := 305) rfl ?_
      refine k_ldc2 S dL_act_305 (v := (-99000011)) m_415 (n := 308) rfl ?_
      exact k_lret S Y dL_act_308 (by decide) (by decide) (⟨by rw [zcd_p], rfl⟩)
    · subst e
      refine k_catch S Y (tableOf [(0, 302, 303, 18)]) ⟨0, 302, 309, 13⟩ (tableOf [(0, 302, 315, 20)]) rfl (fun y hy => by simp only [tableOf, List.map, List.mem_cons, List.not_mem_nil, or_false] at hy; have e := hy; subst e <;> first | exact ⟨by decide, "java/lang/IndexOutOfBoundsException", m_421, by decide⟩) (by decide) (by decide) m_338 (by decide +kernel) rfl (fun q9 => ?_)
      refine k_astore5 S dL_act_309 (by decide) rfl (n := 311) rfl ?_
      refine k_ldc2 S dL_act_311 (v := (-99000012)) m_416 (n := 314) rfl ?_
      exact k_lret S Y dL_act_314 (by decide) (by decide) (⟨by rw [zcd_a], rfl⟩)
    · subst e
      refine k_catch S Y (tableOf [(0, 302, 303, 18), (0, 302, 309, 13)]) ⟨0, 302, 315, 20⟩ (tableOf []) rfl (fun y hy => by simp only [tableOf, List.map, List.mem_cons, List.not_mem_nil, or_false] at hy; rcases hy with e | e <;> subst e <;> first | exact ⟨by decide, "java/lang/IndexOutOfBoundsException", m_421, by decide⟩ | exact ⟨by decide, "java/lang/IllegalArgumentException", m_338, by decide⟩) (by decide) (by decide) m_422 (by decide +kernel) rfl (fun q9 => ?_)
      refine k_astore5 S dL_act_315 (by decide) rfl (n := 317) rfl ?_
      refine k_ldc2 S dL_act_317 (v := (-99000013)) m_620 (n := 320) rfl ?_
      exact k_lret S Y dL_act_320 (by decide) (by decide) (⟨by rw [zcd_s], rfl⟩)
  refine k_iload1 S dL_act_0 (n := 1) rfl ?_
  refine k_if_ne S dL_act_1 (tgt := 21) (by decide) (n := 4) rfl (fun _ => ?_) (fun h9 => absurd h9 (by decide))
  refine k_iload1 S dL_act_21 (n := 22) rfl ?_
  refine k_iconst S dL_act_22 (v := 1) (by decide) (n := 23) rfl ?_
  refine k_icmp_ne S dL_act_23 (tgt := 34) (by decide) (n := 26) rfl (fun _ => ?_) (fun h9 => absurd h9 (by decide))
  refine k_iload1 S dL_act_34 (n := 35) rfl ?_
  refine k_iconst S dL_act_35 (v := 2) (by decide) (n := 36) rfl ?_
  refine k_icmp_ne S dL_act_36 (tgt := 49) (by decide) (n := 39) rfl (fun _ => ?_) (fun h9 => absurd h9 (by decide))
  refine k_iload1 S dL_act_49 (n := 50) rfl ?_
  refine k_iconst S dL_act_50 (v := 3) (by decide) (n := 51) rfl ?_
  refine k_icmp_ne S dL_act_51 (tgt := 63) (by decide) (n := 54) rfl (fun _ => ?_) (fun h9 => absurd h9 (by decide))
  refine k_iload1 S dL_act_63 (n := 64) rfl ?_
  refine k_iconst S dL_act_64 (v := 4) (by decide) (n := 65) rfl ?_
  refine k_icmp_ne S dL_act_65 (tgt := 77) (by decide) (n := 68) rfl (fun _ => ?_) (fun h9 => absurd h9 (by decide))
  refine k_iload1 S dL_act_77 (n := 78) rfl ?_
  refine k_iconst S dL_act_78 (v := 5) (by decide) (n := 79) rfl ?_
  refine k_icmp_ne S dL_act_79 (tgt := 91) (by decide) (n := 82) rfl (fun _ => ?_) (fun h9 => absurd h9 (by decide))
  refine k_iload1 S dL_act_91 (n := 92) rfl ?_
  refine k_bipush S dL_act_92 (v := 6) (by decide) (n := 94) rfl ?_
  refine k_icmp_ne S dL_act_94 (tgt := 106) (by decide) (n := 97) rfl (fun _ => ?_) (fun h9 => absurd h9 (by decide))
  refine k_iload1 S dL_act_106 (n := 107) rfl ?_
  refine k_bipush S dL_act_107 (v := 7) (by decide) (n := 109) rfl ?_
  refine k_icmp_ne S dL_act_109 (tgt := 121) (by decide) (n := 112) rfl (fun _ => ?_) (fun h9 => absurd h9 (by decide))
  refine k_iload1 S dL_act_121 (n := 122) rfl ?_
  refine k_bipush S dL_act_122 (v := 8) (by decide) (n := 124) rfl ?_
  refine k_icmp_ne S dL_act_124 (tgt := 136) (by decide) (n := 127) rfl (fun _ => ?_) (fun h9 => absurd h9 (by decide))
  refine k_iload1 S dL_act_136 (n := 137) rfl ?_
  refine k_bipush S dL_act_137 (v := 9) (by decide) (n := 139) rfl ?_
  refine k_icmp_ne S dL_act_139 (tgt := 151) (by decide) (n := 142) rfl (fun _ => ?_) (fun h9 => absurd h9 (by decide))
  refine k_iload1 S dL_act_151 (n := 152) rfl ?_
  refine k_bipush S dL_act_152 (v := 10) (by decide) (n := 154) rfl ?_
  refine k_icmp_ne S dL_act_154 (tgt := 166) (by decide) (n := 157) rfl (fun _ => ?_) (fun h9 => absurd h9 (by decide))
  refine k_iload1 S dL_act_166 (n := 167) rfl ?_
  refine k_bipush S dL_act_167 (v := 11) (by decide) (n := 169) rfl ?_
  refine k_icmp_ne S dL_act_169 (tgt := 181) (by decide) (n := 172) rfl (fun _ => ?_) (fun h9 => absurd h9 (by decide))
  refine k_iload1 S dL_act_181 (n := 182) rfl ?_
  refine k_bipush S dL_act_182 (v := 12) (by decide) (n := 184) rfl ?_
  refine k_icmp_ne S dL_act_184 (tgt := 197) (by decide) (n := 187) rfl (fun _ => ?_) (fun h9 => absurd h9 (by decide))
  refine k_iload1 S dL_act_197 (n := 198) rfl ?_
  refine k_bipush S dL_act_198 (v := 13) (by decide) (n := 200) rfl ?_
  refine k_icmp_ne S dL_act_200 (tgt := 220) (by decide) (n := 203) rfl (fun _ => ?_) (fun h9 => absurd h9 (by decide))
  refine k_iload1 S dL_act_220 (n := 221) rfl ?_
  refine k_bipush S dL_act_221 (v := 14) (by decide) (n := 223) rfl ?_
  refine k_icmp_ne S dL_act_223 (tgt := 235) (by decide) (n := 226) rfl (fun _ => ?_) (fun h9 => absurd h9 (by decide))
  refine k_iload1 S dL_act_235 (n := 236) rfl ?_
  refine k_bipush S dL_act_236 (v := 15) (by decide) (n := 238) rfl ?_
  refine k_icmp_ne S dL_act_238 (tgt := 250) (by decide) (n := 241) rfl (fun _ => ?_) (fun h9 => absurd h9 (by decide))
  refine k_iload1 S dL_act_250 (n := 251) rfl ?_
  refine k_bipush S dL_act_251 (v := 16) (by decide) (n := 253) rfl ?_
  refine k_icmp_ne S dL_act_253 (tgt := 275) (by decide) (n := 256) rfl (fun h9 => absurd (by decide) h9) (fun _ => ?_)
  refine k_aload0 S dL_act_256 (n := 257) rfl ?_
  refine k_iload2 S dL_act_257 (n := 258) rfl ?_
  refine k_iload3 S dL_act_258 (n := 259) rfl ?_
  refine k_iconst S dL_act_259 (v := 1) (by decide) (n := 260) rfl ?_
  have hJ2 : zK x g ({ frames := 9, cells := 2, slots := 12, locals := 151 } : Room) 6 0 0 268 [some (.ref (za g 0)), some (.int 16), some (.int a), some (.int b), some (.int c), none] [.int ((if b = 1 then (1 : Int32) else (0 : Int32))), .int a, .ref (za g 0)] μ := by
    refine k_callV (As := [.int a, .int ((if b = 1 then (1 : Int32) else (0 : Int32)))]) (rest := []) (p := 0) S (hM) mv_X3_cumulative m_602 dL_act_268 rfl rfl ⟨by decide, by decide⟩ (zlt S (by decide)) (by decide) (ci := 3) rfl rfl rfl (Nat.le_of_ble_eq_true rfl) ⟨by decide, by decide⟩ (n := 271) rfl hKX (fun v9 ν9 h9 => ?_)
    exact False.elim h9
  refine k_icmp_ne S dL_act_260 (tgt := 267) (by decide) (n := 263) rfl (fun c1 => ?_) (fun c1 => ?_)
  ·
    refine k_iconst S dL_act_267 (v := 0) (by decide) (n := 268) rfl ?_
    rw [if_neg c1] at hJ2
    exact hJ2
  ·
    refine k_iconst S dL_act_263 (v := 1) (by decide) (n := 264) rfl ?_
    refine k_goto S dL_act_264 (tgt := 268) (by decide) ?_
    rw [if_pos c1] at hJ2
    exact hJ2
set_option maxRecDepth 100000 in
set_option maxHeartbeats 4000000 in
theorem x_act17 {l : Launch} {g : zG} {μ : zM} {a b c : Int32} {E : String} (hE : E = "java/lang/IndexOutOfBoundsException" ∨ E = "java/lang/IllegalArgumentException" ∨ E = "java/lang/IllegalStateException") (hM : zC l g yX3_capability cX3_capability 12 (some .long) ({ frames := 7, cells := 2, slots := 12, locals := 103 } : Room) 2 12 [.ref (za g 0), .int a, .int b, .int c, .int 1] μ zNR (zXv E μ)) : zCH l g yL_act cL_act 6 (some .long) [(0, 302, 303, 18), (0, 302, 309, 13), (0, 302, 315, 20)] ({ frames := 8, cells := 2, slots := 12, locals := 134 } : Room) 2 12 [.ref (za g 0), .int 17, .int a, .int b, .int c] μ (zRv (some (.long (zcd E))) μ) zNX := by
  refine zCH_of (L0 := [some (.ref (za g 0)), some (.int 17), some (.int a), some (.int b), some (.int c), none]) (by decide) (Nat.le_of_ble_eq_true rfl) rfl ?_
  intro x S Y hxl
  subst hxl
  have hKX : ∀ (E9 : String) (ν9 : zM), zXv E μ E9 ν9 → zKX x g ({ frames := 8, cells := 2, slots := 12, locals := 134 } : Room) 6 (0 + 2) (0 + 12) 287 [some (.ref (za g 0)), some (.int 17), some (.int a), some (.int b), some (.int c), none] [] E9 ν9 := by
    intro E9 ν9 h9
    obtain ⟨e1, e2⟩ := h9
    subst e1
    subst e2
    rcases hE with e | e | e
    · subst e
      refine k_catch S Y (tableOf []) ⟨0, 302, 303, 18⟩ (tableOf [(0, 302, 309, 13), (0, 302, 315, 20)]) rfl (fun y hy => absurd hy List.not_mem_nil) (by decide) (by decide) m_421 (by decide +kernel) rfl (fun q9 => ?_)
      refine k_astore5 S dL_act_303 (by decide) rfl (n := 305) rfl ?_
      refine k_ldc2 S dL_act_305 (v := (-99000011)) m_415 (n := 308) rfl ?_
      exact k_lret S Y dL_act_308 (by decide) (by decide) (⟨by rw [zcd_p], rfl⟩)
    · subst e
      refine k_catch S Y (tableOf [(0, 302, 303, 18)]) ⟨0, 302, 309, 13⟩ (tableOf [(0, 302, 315, 20)]) rfl (fun y hy => by simp only [tableOf, List.map, List.mem_cons, List.not_mem_nil, or_false] at hy; have e := hy; subst e <;> first | exact ⟨by decide, "java/lang/IndexOutOfBoundsException", m_421, by decide⟩) (by decide) (by decide) m_338 (by decide +kernel) rfl (fun q9 => ?_)
      refine k_astore5 S dL_act_309 (by decide) rfl (n := 311) rfl ?_
      refine k_ldc2 S dL_act_311 (v := (-99000012)) m_416 (n := 314) rfl ?_
      exact k_lret S Y dL_act_314 (by decide) (by decide) (⟨by rw [zcd_a], rfl⟩)
    · subst e
      refine k_catch S Y (tableOf [(0, 302, 303, 18), (0, 302, 309, 13)]) ⟨0, 302, 315, 20⟩ (tableOf []) rfl (fun y hy => by simp only [tableOf, List.map, List.mem_cons, List.not_mem_nil, or_false] at hy; rcases hy with e | e <;> subst e <;> first | exact ⟨by decide, "java/lang/IndexOutOfBoundsException", m_421, by decide⟩ | exact ⟨by decide, "java/lang/IllegalArgumentException", m_338, by decide⟩) (by decide) (by decide) m_422 (by decide +kernel) rfl (fun q9 => ?_)
      refine k_astore5 S dL_act_315 (by decide) rfl (n := 317) rfl ?_
      refine k_ldc2 S dL_act_317 (v := (-99000013)) m_620 (n := 320) rfl ?_
      exact k_lret S Y dL_act_320 (by decide) (by decide) (⟨by rw [zcd_s], rfl⟩)
  refine k_iload1 S dL_act_0 (n := 1) rfl ?_
  refine k_if_ne S dL_act_1 (tgt := 21) (by decide) (n := 4) rfl (fun _ => ?_) (fun h9 => absurd h9 (by decide))
  refine k_iload1 S dL_act_21 (n := 22) rfl ?_
  refine k_iconst S dL_act_22 (v := 1) (by decide) (n := 23) rfl ?_
  refine k_icmp_ne S dL_act_23 (tgt := 34) (by decide) (n := 26) rfl (fun _ => ?_) (fun h9 => absurd h9 (by decide))
  refine k_iload1 S dL_act_34 (n := 35) rfl ?_
  refine k_iconst S dL_act_35 (v := 2) (by decide) (n := 36) rfl ?_
  refine k_icmp_ne S dL_act_36 (tgt := 49) (by decide) (n := 39) rfl (fun _ => ?_) (fun h9 => absurd h9 (by decide))
  refine k_iload1 S dL_act_49 (n := 50) rfl ?_
  refine k_iconst S dL_act_50 (v := 3) (by decide) (n := 51) rfl ?_
  refine k_icmp_ne S dL_act_51 (tgt := 63) (by decide) (n := 54) rfl (fun _ => ?_) (fun h9 => absurd h9 (by decide))
  refine k_iload1 S dL_act_63 (n := 64) rfl ?_
  refine k_iconst S dL_act_64 (v := 4) (by decide) (n := 65) rfl ?_
  refine k_icmp_ne S dL_act_65 (tgt := 77) (by decide) (n := 68) rfl (fun _ => ?_) (fun h9 => absurd h9 (by decide))
  refine k_iload1 S dL_act_77 (n := 78) rfl ?_
  refine k_iconst S dL_act_78 (v := 5) (by decide) (n := 79) rfl ?_
  refine k_icmp_ne S dL_act_79 (tgt := 91) (by decide) (n := 82) rfl (fun _ => ?_) (fun h9 => absurd h9 (by decide))
  refine k_iload1 S dL_act_91 (n := 92) rfl ?_
  refine k_bipush S dL_act_92 (v := 6) (by decide) (n := 94) rfl ?_
  refine k_icmp_ne S dL_act_94 (tgt := 106) (by decide) (n := 97) rfl (fun _ => ?_) (fun h9 => absurd h9 (by decide))
  refine k_iload1 S dL_act_106 (n := 107) rfl ?_
  refine k_bipush S dL_act_107 (v := 7) (by decide) (n := 109) rfl ?_
  refine k_icmp_ne S dL_act_109 (tgt := 121) (by decide) (n := 112) rfl (fun _ => ?_) (fun h9 => absurd h9 (by decide))
  refine k_iload1 S dL_act_121 (n := 122) rfl ?_
  refine k_bipush S dL_act_122 (v := 8) (by decide) (n := 124) rfl ?_
  refine k_icmp_ne S dL_act_124 (tgt := 136) (by decide) (n := 127) rfl (fun _ => ?_) (fun h9 => absurd h9 (by decide))
  refine k_iload1 S dL_act_136 (n := 137) rfl ?_
  refine k_bipush S dL_act_137 (v := 9) (by decide) (n := 139) rfl ?_
  refine k_icmp_ne S dL_act_139 (tgt := 151) (by decide) (n := 142) rfl (fun _ => ?_) (fun h9 => absurd h9 (by decide))
  refine k_iload1 S dL_act_151 (n := 152) rfl ?_
  refine k_bipush S dL_act_152 (v := 10) (by decide) (n := 154) rfl ?_
  refine k_icmp_ne S dL_act_154 (tgt := 166) (by decide) (n := 157) rfl (fun _ => ?_) (fun h9 => absurd h9 (by decide))
  refine k_iload1 S dL_act_166 (n := 167) rfl ?_
  refine k_bipush S dL_act_167 (v := 11) (by decide) (n := 169) rfl ?_
  refine k_icmp_ne S dL_act_169 (tgt := 181) (by decide) (n := 172) rfl (fun _ => ?_) (fun h9 => absurd h9 (by decide))
  refine k_iload1 S dL_act_181 (n := 182) rfl ?_
  refine k_bipush S dL_act_182 (v := 12) (by decide) (n := 184) rfl ?_
  refine k_icmp_ne S dL_act_184 (tgt := 197) (by decide) (n := 187) rfl (fun _ => ?_) (fun h9 => absurd h9 (by decide))
  refine k_iload1 S dL_act_197 (n := 198) rfl ?_
  refine k_bipush S dL_act_198 (v := 13) (by decide) (n := 200) rfl ?_
  refine k_icmp_ne S dL_act_200 (tgt := 220) (by decide) (n := 203) rfl (fun _ => ?_) (fun h9 => absurd h9 (by decide))
  refine k_iload1 S dL_act_220 (n := 221) rfl ?_
  refine k_bipush S dL_act_221 (v := 14) (by decide) (n := 223) rfl ?_
  refine k_icmp_ne S dL_act_223 (tgt := 235) (by decide) (n := 226) rfl (fun _ => ?_) (fun h9 => absurd h9 (by decide))
  refine k_iload1 S dL_act_235 (n := 236) rfl ?_
  refine k_bipush S dL_act_236 (v := 15) (by decide) (n := 238) rfl ?_
  refine k_icmp_ne S dL_act_238 (tgt := 250) (by decide) (n := 241) rfl (fun _ => ?_) (fun h9 => absurd h9 (by decide))
  refine k_iload1 S dL_act_250 (n := 251) rfl ?_
  refine k_bipush S dL_act_251 (v := 16) (by decide) (n := 253) rfl ?_
  refine k_icmp_ne S dL_act_253 (tgt := 275) (by decide) (n := 256) rfl (fun _ => ?_) (fun h9 => absurd h9 (by decide))
  refine k_iload1 S dL_act_275 (n := 276) rfl ?_
  refine k_bipush S dL_act_276 (v := 17) (by decide) (n := 278) rfl ?_
  refine k_icmp_ne S dL_act_278 (tgt := 293) (by decide) (n := 281) rfl (fun h9 => absurd (by decide) h9) (fun _ => ?_)
  refine k_aload0 S dL_act_281 (n := 282) rfl ?_
  refine k_iload2 S dL_act_282 (n := 283) rfl ?_
  refine k_iload3 S dL_act_283 (n := 284) rfl ?_
  refine k_iload4 S dL_act_284 (n := 286) rfl ?_
  refine k_iconst S dL_act_286 (v := 1) (by decide) (n := 287) rfl ?_
  refine k_callV (As := [.int a, .int b, .int c, .int 1]) (rest := []) (p := 0) S (hM) mv_X3_capability m_606 dL_act_287 rfl rfl ⟨by decide, by decide⟩ (zlt S (by decide)) (by decide) (ci := 3) rfl rfl rfl (Nat.le_of_ble_eq_true rfl) ⟨by decide, by decide⟩ (n := 290) rfl hKX (fun v9 ν9 h9 => ?_)
  exact False.elim h9
set_option maxRecDepth 100000 in
set_option maxHeartbeats 4000000 in
theorem x_act18 {l : Launch} {g : zG} {μ : zM} {a b c : Int32} {E : String} (hE : E = "java/lang/IndexOutOfBoundsException" ∨ E = "java/lang/IllegalArgumentException" ∨ E = "java/lang/IllegalStateException") (hM : zC l g yX3_capability cX3_capability 12 (some .long) ({ frames := 7, cells := 2, slots := 12, locals := 103 } : Room) 2 12 [.ref (za g 0), .int a, .int b, .int c, .int 0] μ zNR (zXv E μ)) : zCH l g yL_act cL_act 6 (some .long) [(0, 302, 303, 18), (0, 302, 309, 13), (0, 302, 315, 20)] ({ frames := 8, cells := 2, slots := 12, locals := 134 } : Room) 2 12 [.ref (za g 0), .int 18, .int a, .int b, .int c] μ (zRv (some (.long (zcd E))) μ) zNX := by
  refine zCH_of (L0 := [some (.ref (za g 0)), some (.int 18), some (.int a), some (.int b), some (.int c), none]) (by decide) (Nat.le_of_ble_eq_true rfl) rfl ?_
  intro x S Y hxl
  subst hxl
  have hKX : ∀ (E9 : String) (ν9 : zM), zXv E μ E9 ν9 → zKX x g ({ frames := 8, cells := 2, slots := 12, locals := 134 } : Room) 6 (0 + 2) (0 + 12) 299 [some (.ref (za g 0)), some (.int 18), some (.int a), some (.int b), some (.int c), none] [] E9 ν9 := by
    intro E9 ν9 h9
    obtain ⟨e1, e2⟩ := h9
    subst e1
    subst e2
    rcases hE with e | e | e
    · subst e
      refine k_catch S Y (tableOf []) ⟨0, 302, 303, 18⟩ (tableOf [(0, 302, 309, 13), (0, 302, 315, 20)]) rfl (fun y hy => absurd hy List.not_mem_nil) (by decide) (by decide) m_421 (by decide +kernel) rfl (fun q9 => ?_)
      refine k_astore5 S dL_act_303 (by decide) rfl (n := 305) rfl ?_
      refine k_ldc2 S dL_act_305 (v := (-99000011)) m_415 (n := 308) rfl ?_
      exact k_lret S Y dL_act_308 (by decide) (by decide) (⟨by rw [zcd_p], rfl⟩)
    · subst e
      refine k_catch S Y (tableOf [(0, 302, 303, 18)]) ⟨0, 302, 309, 13⟩ (tableOf [(0, 302, 315, 20)]) rfl (fun y hy => by simp only [tableOf, List.map, List.mem_cons, List.not_mem_nil, or_false] at hy; have e := hy; subst e <;> first | exact ⟨by decide, "java/lang/IndexOutOfBoundsException", m_421, by decide⟩) (by decide) (by decide) m_338 (by decide +kernel) rfl (fun q9 => ?_)
      refine k_astore5 S dL_act_309 (by decide) rfl (n := 311) rfl ?_
      refine k_ldc2 S dL_act_311 (v := (-99000012)) m_416 (n := 314) rfl ?_
      exact k_lret S Y dL_act_314 (by decide) (by decide) (⟨by rw [zcd_a], rfl⟩)
    · subst e
      refine k_catch S Y (tableOf [(0, 302, 303, 18), (0, 302, 309, 13)]) ⟨0, 302, 315, 20⟩ (tableOf []) rfl (fun y hy => by simp only [tableOf, List.map, List.mem_cons, List.not_mem_nil, or_false] at hy; rcases hy with e | e <;> subst e <;> first | exact ⟨by decide, "java/lang/IndexOutOfBoundsException", m_421, by decide⟩ | exact ⟨by decide, "java/lang/IllegalArgumentException", m_338, by decide⟩) (by decide) (by decide) m_422 (by decide +kernel) rfl (fun q9 => ?_)
      refine k_astore5 S dL_act_315 (by decide) rfl (n := 317) rfl ?_
      refine k_ldc2 S dL_act_317 (v := (-99000013)) m_620 (n := 320) rfl ?_
      exact k_lret S Y dL_act_320 (by decide) (by decide) (⟨by rw [zcd_s], rfl⟩)
  refine k_iload1 S dL_act_0 (n := 1) rfl ?_
  refine k_if_ne S dL_act_1 (tgt := 21) (by decide) (n := 4) rfl (fun _ => ?_) (fun h9 => absurd h9 (by decide))
  refine k_iload1 S dL_act_21 (n := 22) rfl ?_
  refine k_iconst S dL_act_22 (v := 1) (by decide) (n := 23) rfl ?_
  refine k_icmp_ne S dL_act_23 (tgt := 34) (by decide) (n := 26) rfl (fun _ => ?_) (fun h9 => absurd h9 (by decide))
  refine k_iload1 S dL_act_34 (n := 35) rfl ?_
  refine k_iconst S dL_act_35 (v := 2) (by decide) (n := 36) rfl ?_
  refine k_icmp_ne S dL_act_36 (tgt := 49) (by decide) (n := 39) rfl (fun _ => ?_) (fun h9 => absurd h9 (by decide))
  refine k_iload1 S dL_act_49 (n := 50) rfl ?_
  refine k_iconst S dL_act_50 (v := 3) (by decide) (n := 51) rfl ?_
  refine k_icmp_ne S dL_act_51 (tgt := 63) (by decide) (n := 54) rfl (fun _ => ?_) (fun h9 => absurd h9 (by decide))
  refine k_iload1 S dL_act_63 (n := 64) rfl ?_
  refine k_iconst S dL_act_64 (v := 4) (by decide) (n := 65) rfl ?_
  refine k_icmp_ne S dL_act_65 (tgt := 77) (by decide) (n := 68) rfl (fun _ => ?_) (fun h9 => absurd h9 (by decide))
  refine k_iload1 S dL_act_77 (n := 78) rfl ?_
  refine k_iconst S dL_act_78 (v := 5) (by decide) (n := 79) rfl ?_
  refine k_icmp_ne S dL_act_79 (tgt := 91) (by decide) (n := 82) rfl (fun _ => ?_) (fun h9 => absurd h9 (by decide))
  refine k_iload1 S dL_act_91 (n := 92) rfl ?_
  refine k_bipush S dL_act_92 (v := 6) (by decide) (n := 94) rfl ?_
  refine k_icmp_ne S dL_act_94 (tgt := 106) (by decide) (n := 97) rfl (fun _ => ?_) (fun h9 => absurd h9 (by decide))
  refine k_iload1 S dL_act_106 (n := 107) rfl ?_
  refine k_bipush S dL_act_107 (v := 7) (by decide) (n := 109) rfl ?_
  refine k_icmp_ne S dL_act_109 (tgt := 121) (by decide) (n := 112) rfl (fun _ => ?_) (fun h9 => absurd h9 (by decide))
  refine k_iload1 S dL_act_121 (n := 122) rfl ?_
  refine k_bipush S dL_act_122 (v := 8) (by decide) (n := 124) rfl ?_
  refine k_icmp_ne S dL_act_124 (tgt := 136) (by decide) (n := 127) rfl (fun _ => ?_) (fun h9 => absurd h9 (by decide))
  refine k_iload1 S dL_act_136 (n := 137) rfl ?_
  refine k_bipush S dL_act_137 (v := 9) (by decide) (n := 139) rfl ?_
  refine k_icmp_ne S dL_act_139 (tgt := 151) (by decide) (n := 142) rfl (fun _ => ?_) (fun h9 => absurd h9 (by decide))
  refine k_iload1 S dL_act_151 (n := 152) rfl ?_
  refine k_bipush S dL_act_152 (v := 10) (by decide) (n := 154) rfl ?_
  refine k_icmp_ne S dL_act_154 (tgt := 166) (by decide) (n := 157) rfl (fun _ => ?_) (fun h9 => absurd h9 (by decide))
  refine k_iload1 S dL_act_166 (n := 167) rfl ?_
  refine k_bipush S dL_act_167 (v := 11) (by decide) (n := 169) rfl ?_
  refine k_icmp_ne S dL_act_169 (tgt := 181) (by decide) (n := 172) rfl (fun _ => ?_) (fun h9 => absurd h9 (by decide))
  refine k_iload1 S dL_act_181 (n := 182) rfl ?_
  refine k_bipush S dL_act_182 (v := 12) (by decide) (n := 184) rfl ?_
  refine k_icmp_ne S dL_act_184 (tgt := 197) (by decide) (n := 187) rfl (fun _ => ?_) (fun h9 => absurd h9 (by decide))
  refine k_iload1 S dL_act_197 (n := 198) rfl ?_
  refine k_bipush S dL_act_198 (v := 13) (by decide) (n := 200) rfl ?_
  refine k_icmp_ne S dL_act_200 (tgt := 220) (by decide) (n := 203) rfl (fun _ => ?_) (fun h9 => absurd h9 (by decide))
  refine k_iload1 S dL_act_220 (n := 221) rfl ?_
  refine k_bipush S dL_act_221 (v := 14) (by decide) (n := 223) rfl ?_
  refine k_icmp_ne S dL_act_223 (tgt := 235) (by decide) (n := 226) rfl (fun _ => ?_) (fun h9 => absurd h9 (by decide))
  refine k_iload1 S dL_act_235 (n := 236) rfl ?_
  refine k_bipush S dL_act_236 (v := 15) (by decide) (n := 238) rfl ?_
  refine k_icmp_ne S dL_act_238 (tgt := 250) (by decide) (n := 241) rfl (fun _ => ?_) (fun h9 => absurd h9 (by decide))
  refine k_iload1 S dL_act_250 (n := 251) rfl ?_
  refine k_bipush S dL_act_251 (v := 16) (by decide) (n := 253) rfl ?_
  refine k_icmp_ne S dL_act_253 (tgt := 275) (by decide) (n := 256) rfl (fun _ => ?_) (fun h9 => absurd h9 (by decide))
  refine k_iload1 S dL_act_275 (n := 276) rfl ?_
  refine k_bipush S dL_act_276 (v := 17) (by decide) (n := 278) rfl ?_
  refine k_icmp_ne S dL_act_278 (tgt := 293) (by decide) (n := 281) rfl (fun _ => ?_) (fun h9 => absurd h9 (by decide))
  refine k_aload0 S dL_act_293 (n := 294) rfl ?_
  refine k_iload2 S dL_act_294 (n := 295) rfl ?_
  refine k_iload3 S dL_act_295 (n := 296) rfl ?_
  refine k_iload4 S dL_act_296 (n := 298) rfl ?_
  refine k_iconst S dL_act_298 (v := 0) (by decide) (n := 299) rfl ?_
  refine k_callV (As := [.int a, .int b, .int c, .int 0]) (rest := []) (p := 0) S (hM) mv_X3_capability m_606 dL_act_299 rfl rfl ⟨by decide, by decide⟩ (zlt S (by decide)) (by decide) (ci := 3) rfl rfl rfl (Nat.le_of_ble_eq_true rfl) ⟨by decide, by decide⟩ (n := 302) rfl hKX (fun v9 ν9 h9 => ?_)
  exact False.elim h9
