/-! CHARTS: a theorem a call -/
def sC0 : List (List Int) := [[5, 2, 0, 0, 0, 0, 0, 0, 0, 0, 0, 0, 1]]
theorem vC0 : zV (zOf sC0) 3 0 1 (fun i => zNt sC0 5 i) (fun k => zNt sC0 (11 + k) 0) := zVb_of (by decide +kernel)
theorem qC0 {l : Launch} {g : zG} (hn : zn g = 21) : zC l g yX3_subgroups cX3_subgroups 1 (some .int) ({ frames := 0, cells := 0, slots := 0, locals := 0 } : Room) 0 0 [.ref (za g 0)] (zOf sC0) (zRv (some (.int 0)) (zOf sC0)) zNX :=
  (c_X3_subgroups).rei hn 0 (by decide +kernel) (zEq.rf _)
theorem qC1 {l : Launch} {g : zG} (hn : zn g = 21) : zC l g yX3_phases cX3_phases 1 (some .int) ({ frames := 0, cells := 0, slots := 0, locals := 0 } : Room) 0 0 [.ref (za g 0)] (zOf sC0) (zRv (some (.int 1)) (zOf sC0)) zNX :=
  (c_X3_phases).rei hn 1 (by decide +kernel) (zEq.rf _)
theorem qC2 {l : Launch} {g : zG} (hn : zn g = 21) : zC l g yX3_points cX3_points 2 (some .int) ({ frames := 7, cells := 1, slots := 6, locals := 103 } : Room) 1 6 [.ref (za g 0), .int 0] (zOf sC0) (zRv (some (.int 0)) (zOf sC0)) zNX :=
  (d_points vC0 (k := 0) (by decide)).rei hn 0 (by decide +kernel) (zEq.rf _)
theorem qC3 {l : Launch} {g : zG} (hn : zn g = 21) : zC l g yX3_alarms cX3_alarms 4 (some .int) ({ frames := 3, cells := 0, slots := 0, locals := 66 } : Room) 0 0 [.ref (za g 0)] (zOf sC0) (zRv (some (.int 0)) (zOf sC0)) zNX :=
  (c_X3_alarms vC0.hd vC0.d60 vC0.hph vC0.hc vC0.c10).rei hn 0 (by decide +kernel) (zEq_of (by decide +kernel))
theorem qC4 {l : Launch} {g : zG} (hn : zn g = 21) : zC l g yL_refuses cL_refuses 17 (some .boolean) ({ frames := 10, cells := 192, slots := 1152, locals := 184 } : Room) 192 1152 [.ref (za g 0)] (zOf sC0) (zRv (some (.int 1)) (zOf sC0)) zNX :=
  (c_L_refuses vC0).rei hn 1 rfl (zEq_of (by decide +kernel))
def sC1 : List (List Int) := [[2, 2, 0, 0, 0, 0, 0, 0, 0, 0, 0, 0, 1]]
theorem vC1 : zV (zOf sC1) 0 0 1 (fun i => zNt sC1 5 i) (fun k => zNt sC1 (11 + k) 0) := zVb_of (by decide +kernel)
theorem qC5 {l : Launch} {g : zG} (hn : zn g = 21) : zC l g yX3_begin cX3_begin 2 none ({ frames := 6, cells := 1, slots := 6, locals := 82 } : Room) 1 6 [.ref (za g 0), .int 2] (zOf sC0) (zRv none (zOf sC1)) zNX :=
  (d_begin (by decide)).ren hn (zEq_of (by decide +kernel))
def sC2 : List (List Int) := [[2, 2, 0, 22, 10, 12, 1, 0, 0, 0, 0, 0, 1], [22], [2], [11000], [], [], [], [], [], [], [], [0, 1, 22, 2, 0, 11000, 2000, 3760, 6534]]
theorem vC2 : zV (zOf sC2) 0 1 1 (fun i => zNt sC2 5 i) (fun k => zNt sC2 (11 + k) 0) := zVb_of (by decide +kernel)
theorem qC6 {l : Launch} {g : zG} (hn : zn g = 21) : zC l g yL_two cL_two 3 (some .boolean) ({ frames := 7, cells := 2, slots := 12, locals := 159 } : Room) 2 12 [.ref (za g 0), .int 10, .int 12] (zOf sC1) (zRv (some (.int 1)) (zOf sC2)) zNX :=
  (q_two vC1 (by decide) (by decide) (by decide) (by decide +kernel)).rei hn 1 rfl (zEq_of (by decide +kernel))
theorem qC7 {l : Launch} {g : zG} (hn : zn g = 21) : zC l g yX3_mean cX3_mean 2 (some .int) ({ frames := 7, cells := 1, slots := 6, locals := 103 } : Room) 1 6 [.ref (za g 0), .int 0] (zOf sC2) (zRv (some (.int 11000)) (zOf sC2)) zNX :=
  (d_mean vC2 (i := 0) (by decide)).rei hn 11000 (by decide +kernel) (zEq.rf _)
theorem qC8 {l : Launch} {g : zG} (hn : zn g = 21) : zC l g yX3_range cX3_range 2 (some .int) ({ frames := 7, cells := 1, slots := 6, locals := 103 } : Room) 1 6 [.ref (za g 0), .int 0] (zOf sC2) (zRv (some (.int 2)) (zOf sC2)) zNX :=
  (d_range vC2 (i := 0) (by decide)).rei hn 2 (by decide +kernel) (zEq.rf _)
def sC3 : List (List Int) := [[2, 2, 0, 18, 9, 9, 2, 0, 0, 0, 0, 0, 1], [22, 18], [2], [11000, 9000], [], [], [], [], [], [], [], [0, 2, 40, 2, 0, 10000, 1000, 1880, 3267]]
theorem vC3 : zV (zOf sC3) 0 2 1 (fun i => zNt sC3 5 i) (fun k => zNt sC3 (11 + k) 0) := zVb_of (by decide +kernel)
theorem qC9 {l : Launch} {g : zG} (hn : zn g = 21) : zC l g yL_two cL_two 3 (some .boolean) ({ frames := 7, cells := 2, slots := 12, locals := 159 } : Room) 2 12 [.ref (za g 0), .int 9, .int 9] (zOf sC2) (zRv (some (.int 1)) (zOf sC3)) zNX :=
  (q_two vC2 (by decide) (by decide) (by decide) (by decide +kernel)).rei hn 1 rfl (zEq_of (by decide +kernel))
theorem qC10 {l : Launch} {g : zG} (hn : zn g = 21) : zC l g yL_limits cL_limits 4 (some .boolean) ({ frames := 9, cells := 6, slots := 36, locals := 146 } : Room) 6 36 [.ref (za g 0), .int 10000, .int 1880, .int 3267] (zOf sC3) (zRv (some (.int 1)) (zOf sC3)) zNX :=
  c_L_limits ((d_center vC3 (k := 0) (by decide) (by unfold zLm; decide +kernel)).rei hn 10000 (by decide +kernel) (zEq.rf _)) ((d_width vC3 (k := 0) (by decide) (by unfold zLm; decide +kernel)).rei hn 1880 (by decide +kernel) (zEq.rf _)) ((d_rangeLimit vC3 (k := 0) (by decide) (by unfold zLm; decide +kernel)).rei hn 3267 (by decide +kernel) (zEq.rf _))
def sC4 : List (List Int) := [[2, 2, 0, 18, 9, 9, 2, 0, 0, 0, 0, 0, 1], [22, 18], [2], [11000, 9000], [], [], [], [2, 9000, -1, -1, 1, 2, 2, 0, 2, 0, 0, -1, 0, 0, 2, 1], [0, 0, 2], [1], [9000, 11000], [0, 2, 40, 2, 0, 10000, 1000, 1880, 3267]]
theorem vC4 : zV (zOf sC4) 0 2 1 (fun i => zNt sC4 5 i) (fun k => zNt sC4 (11 + k) 0) := zVb_of (by decide +kernel)
theorem qC11 {l : Launch} {g : zG} (hn : zn g = 21) : zC l g yL_breaks cL_breaks 3 (some .boolean) ({ frames := 8, cells := 2, slots := 12, locals := 127 } : Room) 2 12 [.ref (za g 0), .int 1, .int 0] (zOf sC3) (zRv (some (.int 1)) (zOf sC4)) zNX :=
  (q_breaks vC3 (i := 1) (by decide) (by decide +kernel) (a := 0) (by decide +kernel) (by decide +kernel)).rei hn 1 rfl (zEq_of (by decide +kernel))
def sC5 : List (List Int) := [[2, 2, 0, 36, 16, 20, 3, 0, 0, 0, 0, 0, 1], [22, 18, 36], [2, 0, 4], [11000, 9000, 18000], [], [], [], [2, 9000, -1, -1, 1, 2, 2, 0, 2, 0, 0, -1, 0, 0, 2, 1], [0, 0, 2], [1], [9000, 11000], [0, 3, 76, 6, 0, 12667, 2000, 3760, 6534]]
theorem vC5 : zV (zOf sC5) 0 3 1 (fun i => zNt sC5 5 i) (fun k => zNt sC5 (11 + k) 0) := zVb_of (by decide +kernel)
theorem qC12 {l : Launch} {g : zG} (hn : zn g = 21) : zC l g yL_two cL_two 3 (some .boolean) ({ frames := 7, cells := 2, slots := 12, locals := 159 } : Room) 2 12 [.ref (za g 0), .int 20, .int 16] (zOf sC4) (zRv (some (.int 1)) (zOf sC5)) zNX :=
  (q_two vC4 (by decide) (by decide) (by decide) (by decide +kernel)).rei hn 1 rfl (zEq_of (by decide +kernel))
theorem qC13 {l : Launch} {g : zG} (hn : zn g = 21) : zC l g yL_limits cL_limits 4 (some .boolean) ({ frames := 9, cells := 6, slots := 36, locals := 146 } : Room) 6 36 [.ref (za g 0), .int 12667, .int 3760, .int 6534] (zOf sC5) (zRv (some (.int 1)) (zOf sC5)) zNX :=
  c_L_limits ((d_center vC5 (k := 0) (by decide) (by unfold zLm; decide +kernel)).rei hn 12667 (by decide +kernel) (zEq.rf _)) ((d_width vC5 (k := 0) (by decide) (by unfold zLm; decide +kernel)).rei hn 3760 (by decide +kernel) (zEq.rf _)) ((d_rangeLimit vC5 (k := 0) (by decide) (by unfold zLm; decide +kernel)).rei hn 6534 (by decide +kernel) (zEq.rf _))
def sC6 : List (List Int) := [[2, 2, 0, 36, 16, 20, 3, 0, 0, 0, 0, 0, 1], [22, 18, 36], [2, 0, 4], [11000, 9000, 18000], [], [], [], [3, 18000, 1, 1, 1, 2, 3, 0, 3, 1, 1, 1, 1, 2, 1, 6], [0, 0, 3], [2, 1], [18000, 9000, 11000], [0, 3, 76, 6, 0, 12667, 2000, 3760, 6534]]
theorem vC6 : zV (zOf sC6) 0 3 1 (fun i => zNt sC6 5 i) (fun k => zNt sC6 (11 + k) 0) := zVb_of (by decide +kernel)
theorem qC14 {l : Launch} {g : zG} (hn : zn g = 21) : zC l g yL_breaks cL_breaks 3 (some .boolean) ({ frames := 8, cells := 2, slots := 12, locals := 127 } : Room) 2 12 [.ref (za g 0), .int 2, .int 2] (zOf sC5) (zRv (some (.int 1)) (zOf sC6)) zNX :=
  (q_breaks vC5 (i := 2) (by decide) (by decide +kernel) (a := 2) (by decide +kernel) (by decide +kernel)).rei hn 1 rfl (zEq_of (by decide +kernel))
def sC7 : List (List Int) := [[2, 2, 0, 36, 16, 20, 3, 0, 0, 0, 0, 0, 1], [22, 18, 36], [2, 0, 4], [11000, 9000, 18000], [], [], [], [2, 9000, -1, -1, 2, 2, 2, 0, 2, 0, -1, -1, 0, 1, 0, 3], [0, 0, 2], [1], [9000, 11000, 11000], [0, 3, 76, 6, 0, 12667, 2000, 3760, 6534]]
theorem vC7 : zV (zOf sC7) 0 3 1 (fun i => zNt sC7 5 i) (fun k => zNt sC7 (11 + k) 0) := zVb_of (by decide +kernel)
theorem qC15 {l : Launch} {g : zG} (hn : zn g = 21) : zC l g yL_breaks cL_breaks 3 (some .boolean) ({ frames := 8, cells := 2, slots := 12, locals := 127 } : Room) 2 12 [.ref (za g 0), .int 1, .int 0] (zOf sC6) (zRv (some (.int 1)) (zOf sC7)) zNX :=
  (q_breaks vC6 (i := 1) (by decide) (by decide +kernel) (a := 0) (by decide +kernel) (by decide +kernel)).rei hn 1 rfl (zEq_of (by decide +kernel))
theorem qC16 {l : Launch} {g : zG} (hn : zn g = 21) : zC l g yX3_isWide cX3_isWide 2 (some .boolean) ({ frames := 7, cells := 1, slots := 6, locals := 103 } : Room) 1 6 [.ref (za g 0), .int 2] (zOf sC7) (zRv (some (.int 0)) (zOf sC7)) zNX :=
  (d_isWide vC7 (i := 2) (by decide)).rei hn 0 (by decide +kernel) (zEq.rf _)
def sC8 : List (List Int) := [[2, 2, 0, 36, 16, 20, 3, 0, 0, 0, 0, 0, 1], [22, 18, 36], [2, 0, 4], [11000, 9000, 18000], [], [], [], [2, 9000, -1, -1, 2, 2, 2, 0, 2, 0, -1, -1, 0, 1, 0, 3], [0, 0, 2], [1], [9000, 11000, 11000], [0, 3, 76, 6, 1, 12667, 2000, 3760, 6534]]
theorem vC8 : zV (zOf sC8) 0 3 1 (fun i => zNt sC8 5 i) (fun k => zNt sC8 (11 + k) 0) := zVb_of (by decide +kernel)
theorem qC17 {l : Launch} {g : zG} (hn : zn g = 21) : zC l g yX3_freeze cX3_freeze 3 none ({ frames := 7, cells := 2, slots := 12, locals := 103 } : Room) 2 12 [.ref (za g 0), .int 0] (zOf sC7) (zRv none (zOf sC8)) zNX :=
  (d_freeze vC7 (k := 0) (by decide) (by decide +kernel) (by decide +kernel)).ren hn (zEq_of (by decide +kernel))
def sC9 : List (List Int) := [[2, 2, 0, 50, 0, 50, 4, 0, 0, 0, 0, 0, 1], [22, 18, 36, 50], [2, 0, 4, 50], [11000, 9000, 18000, 25000], [], [], [], [2, 9000, -1, -1, 2, 2, 2, 0, 2, 0, -1, -1, 0, 1, 0, 3], [0, 0, 2], [1], [9000, 11000, 11000], [0, 4, 126, 56, 1, 12667, 2000, 3760, 6534]]
theorem vC9 : zV (zOf sC9) 0 4 1 (fun i => zNt sC9 5 i) (fun k => zNt sC9 (11 + k) 0) := zVb_of (by decide +kernel)
theorem qC18 {l : Launch} {g : zG} (hn : zn g = 21) : zC l g yL_two cL_two 3 (some .boolean) ({ frames := 7, cells := 2, slots := 12, locals := 159 } : Room) 2 12 [.ref (za g 0), .int 0, .int 50] (zOf sC8) (zRv (some (.int 1)) (zOf sC9)) zNX :=
  (q_two vC8 (by decide) (by decide) (by decide) (by decide +kernel)).rei hn 1 rfl (zEq_of (by decide +kernel))
theorem qC19 {l : Launch} {g : zG} (hn : zn g = 21) : zC l g yL_limits cL_limits 4 (some .boolean) ({ frames := 9, cells := 6, slots := 36, locals := 146 } : Room) 6 36 [.ref (za g 0), .int 12667, .int 3760, .int 6534] (zOf sC9) (zRv (some (.int 1)) (zOf sC9)) zNX :=
  c_L_limits ((d_center vC9 (k := 0) (by decide) (by unfold zLm; decide +kernel)).rei hn 12667 (by decide +kernel) (zEq.rf _)) ((d_width vC9 (k := 0) (by decide) (by unfold zLm; decide +kernel)).rei hn 3760 (by decide +kernel) (zEq.rf _)) ((d_rangeLimit vC9 (k := 0) (by decide) (by unfold zLm; decide +kernel)).rei hn 6534 (by decide +kernel) (zEq.rf _))
theorem qC20 {l : Launch} {g : zG} (hn : zn g = 21) : zC l g yX3_isWide cX3_isWide 2 (some .boolean) ({ frames := 7, cells := 1, slots := 6, locals := 103 } : Room) 1 6 [.ref (za g 0), .int 3] (zOf sC9) (zRv (some (.int 1)) (zOf sC9)) zNX :=
  (d_isWide vC9 (i := 3) (by decide)).rei hn 1 (by decide +kernel) (zEq.rf _)
def sC10 : List (List Int) := [[2, 2, 0, 50, 0, 50, 4, 0, 0, 0, 0, 0, 1], [22, 18, 36, 50], [2, 0, 4, 50], [11000, 9000, 18000, 25000], [], [], [], [4, 25000, 1, 1, 2, 3, 2, 0, 4, 1, 1, 1, 3, 4, 3, 12], [0, 0, 4], [3, 2, 1], [25000, 18000, 9000, 11000], [0, 4, 126, 56, 1, 12667, 2000, 3760, 6534]]
theorem vC10 : zV (zOf sC10) 0 4 1 (fun i => zNt sC10 5 i) (fun k => zNt sC10 (11 + k) 0) := zVb_of (by decide +kernel)
theorem qC21 {l : Launch} {g : zG} (hn : zn g = 21) : zC l g yL_breaks cL_breaks 3 (some .boolean) ({ frames := 8, cells := 2, slots := 12, locals := 127 } : Room) 2 12 [.ref (za g 0), .int 3, .int 34] (zOf sC9) (zRv (some (.int 1)) (zOf sC10)) zNX :=
  (q_breaks vC9 (i := 3) (by decide) (by decide +kernel) (a := 34) (by decide +kernel) (by decide +kernel)).rei hn 1 rfl (zEq_of (by decide +kernel))
theorem qC22 {l : Launch} {g : zG} (hn : zn g = 21) : zC l g yX3_firstOf cX3_firstOf 4 (some .int) ({ frames := 7, cells := 2, slots := 12, locals := 103 } : Room) 2 12 [.ref (za g 0), .int 3, .int 5] (zOf sC10) (zRv (some (.int 1)) (zOf sC10)) zNX :=
  (d_firstOf vC10 (i := 3) (r := 4) (by decide) (by decide) (by decide +kernel) (by decide +kernel)).rei hn 1 (by decide +kernel) (zEq_of (by decide +kernel))
theorem qC23 {l : Launch} {g : zG} (hn : zn g = 21) : zC l g yX3_firstOf cX3_firstOf 4 (some .int) ({ frames := 7, cells := 2, slots := 12, locals := 103 } : Room) 2 12 [.ref (za g 0), .int 3, .int 1] (zOf sC10) (zRv (some (.int 3)) (zOf sC10)) zNX :=
  (d_firstOf vC10 (i := 3) (r := 0) (by decide) (by decide) (by decide +kernel) (by decide +kernel)).rei hn 3 (by decide +kernel) (zEq_of (by decide +kernel))
theorem qC24 {l : Launch} {g : zG} (hn : zn g = 21) : zC l g yX3_firstOf cX3_firstOf 4 (some .int) ({ frames := 7, cells := 2, slots := 12, locals := 103 } : Room) 2 12 [.ref (za g 0), .int 3, .int 2] (zOf sC10) (zRv (some (.int (-1))) (zOf sC10)) zNX :=
  (d_firstOf_none vC10 (i := 3) (r := 1) (by decide) (by decide) (by decide +kernel) (by decide +kernel)).rei hn ((-1)) (by decide +kernel) (zEq_of (by decide +kernel))
theorem qC25 {l : Launch} {g : zG} (hn : zn g = 21) : zC l g yX3_alarms cX3_alarms 4 (some .int) ({ frames := 3, cells := 0, slots := 0, locals := 66 } : Room) 0 0 [.ref (za g 0)] (zOf sC10) (zRv (some (.int 2)) (zOf sC10)) zNX :=
  (c_X3_alarms vC10.hd vC10.d60 vC10.hph vC10.hc vC10.c10).rei hn 2 (by decide +kernel) (zEq_of (by decide +kernel))
def sC11 : List (List Int) := [[2, 1, 0, 50, 0, 50, 4, 0, 0, 0, 0, 0, 1], [22, 18, 36, 50], [2, 0, 4, 50], [11000, 9000, 18000, 25000], [], [], [], [4, 25000, 1, 1, 2, 3, 2, 0, 4, 1, 1, 1, 3, 4, 3, 12], [0, 0, 4], [3, 2, 1], [25000, 18000, 9000, 11000], [0, 4, 126, 56, 1, 12667, 2000, 3760, 6534]]
theorem vC11 : zV (zOf sC11) 0 4 1 (fun i => zNt sC11 5 i) (fun k => zNt sC11 (11 + k) 0) := zVb_of (by decide +kernel)
theorem qC26 {l : Launch} {g : zG} (hn : zn g = 21) : zC l g yX3_setWeight cX3_setWeight 3 (some .int) ({ frames := 6, cells := 1, slots := 6, locals := 82 } : Room) 1 6 [.ref (za g 0), .int 1] (zOf sC10) (zRv (some (.int 2)) (zOf sC11)) zNX :=
  (d_setWeight (by decide)).rei hn 2 (by decide +kernel) (zEq_of (by decide +kernel))
theorem qC27 {l : Launch} {g : zG} (hn : zn g = 21) : zC l g yX3_weighted cX3_weighted 5 (some .int) ({ frames := 8, cells := 2, slots := 12, locals := 124 } : Room) 2 12 [.ref (za g 0), .int 0] (zOf sC11) (zRv (some (.int 12500)) (zOf sC11)) zNX :=
  (d_weighted vC11 (i := 0) (by decide) (by decide +kernel)).rei hn 12500 (by decide +kernel) (zEq.rf _)
def sC12 : List (List Int) := [[2, 1, 0, 50, 0, 50, 4, 0, 0, 0, 0, 0, 1], [22, 18, 36, 50], [2, 0, 4, 50], [11000, 9000, 18000, 25000], [], [], [], [4, 25000, 1, 1, 2, 3, 2, 0, 4, 1, 1, 1, 3, 4, 3, 12], [0, 0, 4], [3, 2, 1], [25000, 18000, 9000, 11000], [0, 4, 126, 56, 0, 15750, 14000, 26320, 45738]]
theorem vC12 : zV (zOf sC12) 0 4 1 (fun i => zNt sC12 5 i) (fun k => zNt sC12 (11 + k) 0) := zVb_of (by decide +kernel)
theorem qC28 {l : Launch} {g : zG} (hn : zn g = 21) : zC l g yX3_thaw cX3_thaw 3 none ({ frames := 7, cells := 2, slots := 12, locals := 103 } : Room) 2 12 [.ref (za g 0), .int 0] (zOf sC11) (zRv none (zOf sC12)) zNX :=
  (d_thaw vC11 (k := 0) (by decide) (by decide +kernel)).ren hn (zEq_of (by decide +kernel))
theorem qC29 {l : Launch} {g : zG} (hn : zn g = 21) : zC l g yL_limits cL_limits 4 (some .boolean) ({ frames := 9, cells := 6, slots := 36, locals := 146 } : Room) 6 36 [.ref (za g 0), .int 15750, .int 26320, .int 45738] (zOf sC12) (zRv (some (.int 1)) (zOf sC12)) zNX :=
  c_L_limits ((d_center vC12 (k := 0) (by decide) (by unfold zLm; decide +kernel)).rei hn 15750 (by decide +kernel) (zEq.rf _)) ((d_width vC12 (k := 0) (by decide) (by unfold zLm; decide +kernel)).rei hn 26320 (by decide +kernel) (zEq.rf _)) ((d_rangeLimit vC12 (k := 0) (by decide) (by unfold zLm; decide +kernel)).rei hn 45738 (by decide +kernel) (zEq.rf _))
theorem qC30 {l : Launch} {g : zG} (hn : zn g = 21) : zC l g yX3_isWide cX3_isWide 2 (some .boolean) ({ frames := 7, cells := 1, slots := 6, locals := 103 } : Room) 1 6 [.ref (za g 0), .int 3] (zOf sC12) (zRv (some (.int 1)) (zOf sC12)) zNX :=
  (d_isWide vC12 (i := 3) (by decide)).rei hn 1 (by decide +kernel) (zEq.rf _)
def sC13 : List (List Int) := [[2, 1, 0, 50, 0, 50, 4, 0, 0, 0, 0, 0, 1], [22, 18, 36, 50], [2, 0, 4, 50], [11000, 9000, 18000, 25000], [], [], [], [4, 25000, 1, 1, 2, 3, 2, 0, 1, 0, 0, 1, 0, 0, 1], [0, 0, 4], [3, 2, 1], [25000, 18000, 9000, 11000], [0, 4, 126, 56, 0, 15750, 14000, 26320, 45738]]
theorem vC13 : zV (zOf sC13) 0 4 1 (fun i => zNt sC13 5 i) (fun k => zNt sC13 (11 + k) 0) := zVb_of (by decide +kernel)
theorem qC31 {l : Launch} {g : zG} (hn : zn g = 21) : zC l g yX3_alarms cX3_alarms 4 (some .int) ({ frames := 3, cells := 0, slots := 0, locals := 66 } : Room) 0 0 [.ref (za g 0)] (zOf sC12) (zRv (some (.int 0)) (zOf sC13)) zNX :=
  (c_X3_alarms vC12.hd vC12.d60 vC12.hph vC12.hc vC12.c10).rei hn 0 (by decide +kernel) (zEq_of (by decide +kernel))
def sC14 : List (List Int) := [[2, 2, 0, 50, 0, 50, 4, 0, 0, 0, 0, 0, 1], [22, 18, 36, 50], [2, 0, 4, 50], [11000, 9000, 18000, 25000], [], [], [], [4, 25000, 1, 1, 2, 3, 2, 0, 1, 0, 0, 1, 0, 0, 1], [0, 0, 4], [3, 2, 1], [25000, 18000, 9000, 11000], [0, 4, 126, 56, 0, 15750, 14000, 26320, 45738]]
theorem vC14 : zV (zOf sC14) 0 4 1 (fun i => zNt sC14 5 i) (fun k => zNt sC14 (11 + k) 0) := zVb_of (by decide +kernel)
theorem qC32 {l : Launch} {g : zG} (hn : zn g = 21) : zC l g yX3_setWeight cX3_setWeight 3 (some .int) ({ frames := 6, cells := 1, slots := 6, locals := 82 } : Room) 1 6 [.ref (za g 0), .int 2] (zOf sC13) (zRv (some (.int 1)) (zOf sC14)) zNX :=
  (d_setWeight (by decide)).rei hn 1 (by decide +kernel) (zEq_of (by decide +kernel))
theorem qC33 {l : Launch} {g : zG} (hn : zn g = 21) : zC l g yX3_weighted cX3_weighted 5 (some .int) ({ frames := 8, cells := 2, slots := 12, locals := 124 } : Room) 2 12 [.ref (za g 0), .int 0] (zOf sC14) (zRv (some (.int 14800)) (zOf sC14)) zNX :=
  (d_weighted vC14 (i := 0) (by decide) (by decide +kernel)).rei hn 14800 (by decide +kernel) (zEq.rf _)
theorem qC34 {l : Launch} {g : zG} (hn : zn g = 21) : zC l g yX3_weighted cX3_weighted 5 (some .int) ({ frames := 8, cells := 2, slots := 12, locals := 124 } : Room) 2 12 [.ref (za g 0), .int 1] (zOf sC14) (zRv (some (.int 13640)) (zOf sC14)) zNX :=
  (d_weighted vC14 (i := 1) (by decide) (by decide +kernel)).rei hn 13640 (by decide +kernel) (zEq.rf _)
theorem qC35 {l : Launch} {g : zG} (hn : zn g = 21) : zC l g yX3_weighted cX3_weighted 5 (some .int) ({ frames := 8, cells := 2, slots := 12, locals := 124 } : Room) 2 12 [.ref (za g 0), .int 2] (zOf sC14) (zRv (some (.int 14512)) (zOf sC14)) zNX :=
  (d_weighted vC14 (i := 2) (by decide) (by decide +kernel)).rei hn 14512 (by decide +kernel) (zEq.rf _)
theorem qC36 {l : Launch} {g : zG} (hn : zn g = 21) : zC l g yX3_cumulative cX3_cumulative 8 (some .int) ({ frames := 8, cells := 2, slots := 12, locals := 124 } : Room) 2 12 [.ref (za g 0), .int 0, .int 1] (zOf sC14) (zRv (some (.int 0)) (zOf sC14)) zNX :=
  (d_cumulative vC14 (i := 0) (by decide) (by decide +kernel)).rei hn 0 (by decide +kernel) (zEq.rf _)
theorem qC37 {l : Launch} {g : zG} (hn : zn g = 21) : zC l g yX3_cumulative cX3_cumulative 8 (some .int) ({ frames := 8, cells := 2, slots := 12, locals := 124 } : Room) 2 12 [.ref (za g 0), .int 3, .int 1] (zOf sC14) (zRv (some (.int 4864)) (zOf sC14)) zNX :=
  (d_cumulative vC14 (i := 3) (by decide) (by decide +kernel)).rei hn 4864 (by decide +kernel) (zEq.rf _)
theorem qC38 {l : Launch} {g : zG} (hn : zn g = 21) : zC l g yX3_cumulative cX3_cumulative 8 (some .int) ({ frames := 8, cells := 2, slots := 12, locals := 124 } : Room) 2 12 [.ref (za g 0), .int 0, .int 0] (zOf sC14) (zRv (some (.int 364)) (zOf sC14)) zNX :=
  (d_cumulative vC14 (i := 0) (by decide) (by decide +kernel)).rei hn 364 (by decide +kernel) (zEq.rf _)
theorem qC39 {l : Launch} {g : zG} (hn : zn g = 21) : zC l g yX3_cumulative cX3_cumulative 8 (some .int) ({ frames := 8, cells := 2, slots := 12, locals := 124 } : Room) 2 12 [.ref (za g 0), .int 1, .int 0] (zOf sC14) (zRv (some (.int 2728)) (zOf sC14)) zNX :=
  (d_cumulative vC14 (i := 1) (by decide) (by decide +kernel)).rei hn 2728 (by decide +kernel) (zEq.rf _)
theorem qC40 {l : Launch} {g : zG} (hn : zn g = 21) : zC l g yX3_cumulative cX3_cumulative 8 (some .int) ({ frames := 8, cells := 2, slots := 12, locals := 124 } : Room) 2 12 [.ref (za g 0), .int 2, .int 0] (zOf sC14) (zRv (some (.int 0)) (zOf sC14)) zNX :=
  (d_cumulative vC14 (i := 2) (by decide) (by decide +kernel)).rei hn 0 (by decide +kernel) (zEq.rf _)
theorem qC41 {l : Launch} {g : zG} (hn : zn g = 21) : zC l g yX3_capability cX3_capability 12 (some .long) ({ frames := 7, cells := 2, slots := 12, locals := 103 } : Room) 2 12 [.ref (za g 0), .int 0, .int 0, .int 30, .int 0] (zOf sC14) (zRv (some (.long 402)) (zOf sC14)) zNX :=
  (d_capability vC14 (k := 0) (by decide) (by unfold zLH; decide +kernel) (by unfold zLm; decide +kernel) (by decide +kernel)).rel hn 402 (by decide +kernel) (zEq.rf _)
theorem qC42 {l : Launch} {g : zG} (hn : zn g = 21) : zC l g yX3_capability cX3_capability 12 (some .long) ({ frames := 7, cells := 2, slots := 12, locals := 103 } : Room) 2 12 [.ref (za g 0), .int 0, .int 0, .int 30, .int 1] (zOf sC14) (zRv (some (.long 382)) (zOf sC14)) zNX :=
  (d_capability vC14 (k := 0) (by decide) (by unfold zLH; decide +kernel) (by unfold zLm; decide +kernel) (by decide +kernel)).rel hn 382 (by decide +kernel) (zEq.rf _)
theorem qC43 {l : Launch} {g : zG} (hn : zn g = 21) : zC l g yX3_capability cX3_capability 12 (some .long) ({ frames := 7, cells := 2, slots := 12, locals := 103 } : Room) 2 12 [.ref (za g 0), .int 0, .int 20, .int 30, .int 1] (zOf sC14) (zRv (some (.long (-115))) (zOf sC14)) zNX :=
  (d_capability vC14 (k := 0) (by decide) (by unfold zLH; decide +kernel) (by unfold zLm; decide +kernel) (by decide +kernel)).rel hn ((-115)) (by decide +kernel) (zEq.rf _)
theorem qC44 {l : Launch} {g : zG} (hn : zn g = 21) : zC l g yX3_capability cX3_capability 12 (some .long) ({ frames := 7, cells := 2, slots := 12, locals := 103 } : Room) 2 12 [.ref (za g 0), .int 0, .int 7, .int 7, .int 0] (zOf sC14) (zRv (some (.long 0)) (zOf sC14)) zNX :=
  (d_capability vC14 (k := 0) (by decide) (by unfold zLH; decide +kernel) (by unfold zLm; decide +kernel) (by decide +kernel)).rel hn 0 (by decide +kernel) (zEq.rf _)
theorem qC45 {l : Launch} {g : zG} (hn : zn g = 21) : zC l g yL_refuses cL_refuses 17 (some .boolean) ({ frames := 10, cells := 192, slots := 1152, locals := 184 } : Room) 192 1152 [.ref (za g 0)] (zOf sC14) (zRv (some (.int 1)) (zOf sC14)) zNX :=
  (c_L_refuses vC14).rei hn 1 rfl (zEq_of (by decide +kernel))
def sC15 : List (List Int) := [[2, 2, 0, 50, 0, 50, 4, 0, 0, 0, 0, 0, 1], [22, 18, 36, 50], [2, 0, 4, 50], [11000, 9000, 18000, 25000], [0, 0, 0, 4], [], [], [4, 25000, 1, 1, 2, 3, 2, 0, 1, 0, 0, 1, 0, 0, 1], [0, 0, 4], [3, 2, 1], [25000, 18000, 9000, 11000], [0, 3, 76, 6, 0, 12667, 2000, 3760, 6534]]
theorem vC15 : zV (zOf sC15) 0 4 1 (fun i => zNt sC15 5 i) (fun k => zNt sC15 (11 + k) 0) := zVb_of (by decide +kernel)
theorem qC46 {l : Launch} {g : zG} (hn : zn g = 21) : zC l g yX3_exclude cX3_exclude 4 (some .int) ({ frames := 7, cells := 2, slots := 12, locals := 117 } : Room) 2 12 [.ref (za g 0), .int 3, .int 4] (zOf sC14) (zRv (some (.int 0)) (zOf sC15)) zNX :=
  (d_exclude vC14 (i := 3) (by decide) (by decide) (by decide)).rei hn 0 (by decide +kernel) (zEq_of (by decide +kernel))
theorem qC47 {l : Launch} {g : zG} (hn : zn g = 21) : zC l g yX3_points cX3_points 2 (some .int) ({ frames := 7, cells := 1, slots := 6, locals := 103 } : Room) 1 6 [.ref (za g 0), .int 0] (zOf sC15) (zRv (some (.int 3)) (zOf sC15)) zNX :=
  (d_points vC15 (k := 0) (by decide)).rei hn 3 (by decide +kernel) (zEq.rf _)
theorem qC48 {l : Launch} {g : zG} (hn : zn g = 21) : zC l g yL_limits cL_limits 4 (some .boolean) ({ frames := 9, cells := 6, slots := 36, locals := 146 } : Room) 6 36 [.ref (za g 0), .int 12667, .int 3760, .int 6534] (zOf sC15) (zRv (some (.int 1)) (zOf sC15)) zNX :=
  c_L_limits ((d_center vC15 (k := 0) (by decide) (by unfold zLm; decide +kernel)).rei hn 12667 (by decide +kernel) (zEq.rf _)) ((d_width vC15 (k := 0) (by decide) (by unfold zLm; decide +kernel)).rei hn 3760 (by decide +kernel) (zEq.rf _)) ((d_rangeLimit vC15 (k := 0) (by decide) (by unfold zLm; decide +kernel)).rei hn 6534 (by decide +kernel) (zEq.rf _))
def sC16 : List (List Int) := [[2, 2, 0, 50, 0, 50, 4, 0, 0, 0, 0, 0, 1], [22, 18, 36, 50], [2, 0, 4, 50], [11000, 9000, 18000, 25000], [0, 0, 0, 9], [], [], [4, 25000, 1, 1, 2, 3, 2, 0, 1, 0, 0, 1, 0, 0, 1], [0, 0, 4], [3, 2, 1], [25000, 18000, 9000, 11000], [0, 3, 76, 6, 0, 12667, 2000, 3760, 6534]]
theorem vC16 : zV (zOf sC16) 0 4 1 (fun i => zNt sC16 5 i) (fun k => zNt sC16 (11 + k) 0) := zVb_of (by decide +kernel)
theorem qC49 {l : Launch} {g : zG} (hn : zn g = 21) : zC l g yX3_exclude cX3_exclude 4 (some .int) ({ frames := 7, cells := 2, slots := 12, locals := 117 } : Room) 2 12 [.ref (za g 0), .int 3, .int 9] (zOf sC15) (zRv (some (.int 4)) (zOf sC16)) zNX :=
  (d_exclude vC15 (i := 3) (by decide) (by decide) (by decide)).rei hn 4 (by decide +kernel) (zEq_of (by decide +kernel))
theorem qC50 {l : Launch} {g : zG} (hn : zn g = 21) : zC l g yL_breaks cL_breaks 3 (some .boolean) ({ frames := 8, cells := 2, slots := 12, locals := 127 } : Room) 2 12 [.ref (za g 0), .int 3, .int 0] (zOf sC16) (zRv (some (.int 1)) (zOf sC16)) zNX :=
  (q_breaks_out vC16 (i := 3) (by decide) (by decide +kernel)).rei hn 1 rfl (zEq_of (by decide +kernel))
theorem qC51 {l : Launch} {g : zG} (hn : zn g = 21) : zC l g yX3_firstOf cX3_firstOf 4 (some .int) ({ frames := 7, cells := 2, slots := 12, locals := 103 } : Room) 2 12 [.ref (za g 0), .int 3, .int 1] (zOf sC16) (zRv (some (.int (-1))) (zOf sC16)) zNX :=
  (d_firstOf_out vC16 (i := 3) (r := 0) (by decide) (by decide) (by decide +kernel)).rei hn ((-1)) (by decide +kernel) (zEq_of (by decide +kernel))
theorem qC52 {l : Launch} {g : zG} (hn : zn g = 21) : zC l g yX3_isWide cX3_isWide 2 (some .boolean) ({ frames := 7, cells := 1, slots := 6, locals := 103 } : Room) 1 6 [.ref (za g 0), .int 3] (zOf sC16) (zRv (some (.int 0)) (zOf sC16)) zNX :=
  (d_isWide vC16 (i := 3) (by decide)).rei hn 0 (by decide +kernel) (zEq.rf _)
def sC17 : List (List Int) := [[2, 2, 0, 50, 0, 50, 4, 0, 0, 0, 0, 0, 1], [22, 18, 36, 50], [2, 0, 4, 50], [11000, 9000, 18000, 25000], [0, 0, 0, 9], [], [], [3, 18000, 1, 1, 1, 2, 3, 0, 3, 1, 1, 1, 1, 2, 1, 6], [0, 0, 3], [2, 1], [18000, 9000, 11000, 11000], [0, 3, 76, 6, 0, 12667, 2000, 3760, 6534]]
theorem vC17 : zV (zOf sC17) 0 4 1 (fun i => zNt sC17 5 i) (fun k => zNt sC17 (11 + k) 0) := zVb_of (by decide +kernel)
theorem qC53 {l : Launch} {g : zG} (hn : zn g = 21) : zC l g yL_breaks cL_breaks 3 (some .boolean) ({ frames := 8, cells := 2, slots := 12, locals := 127 } : Room) 2 12 [.ref (za g 0), .int 2, .int 2] (zOf sC16) (zRv (some (.int 1)) (zOf sC17)) zNX :=
  (q_breaks vC16 (i := 2) (by decide) (by decide +kernel) (a := 2) (by decide +kernel) (by decide +kernel)).rei hn 1 rfl (zEq_of (by decide +kernel))
def sC18 : List (List Int) := [[2, 2, 0, 50, 0, 50, 4, 0, 0, 0, 0, 0, 1], [22, 18, 36, 50], [2, 0, 4, 50], [11000, 9000, 18000, 25000], [1, 0, 0, 9], [], [], [3, 18000, 1, 1, 1, 2, 3, 0, 3, 1, 1, 1, 1, 2, 1, 6], [0, 0, 3], [2, 1], [18000, 9000, 11000, 11000], [0, 2, 54, 4, 0, 13500, 2000, 3760, 6534]]
theorem vC18 : zV (zOf sC18) 0 4 1 (fun i => zNt sC18 5 i) (fun k => zNt sC18 (11 + k) 0) := zVb_of (by decide +kernel)
theorem qC54 {l : Launch} {g : zG} (hn : zn g = 21) : zC l g yX3_exclude cX3_exclude 4 (some .int) ({ frames := 7, cells := 2, slots := 12, locals := 117 } : Room) 2 12 [.ref (za g 0), .int 0, .int 1] (zOf sC17) (zRv (some (.int 0)) (zOf sC18)) zNX :=
  (d_exclude vC17 (i := 0) (by decide) (by decide) (by decide)).rei hn 0 (by decide +kernel) (zEq_of (by decide +kernel))
def sC19 : List (List Int) := [[2, 2, 0, 50, 0, 50, 4, 0, 0, 0, 0, 0, 1], [22, 18, 36, 50], [2, 0, 4, 50], [11000, 9000, 18000, 25000], [1, 1, 0, 9], [], [], [3, 18000, 1, 1, 1, 2, 3, 0, 3, 1, 1, 1, 1, 2, 1, 6], [0, 0, 3], [2, 1], [18000, 9000, 11000, 11000], [0, 1, 36, 4, 0, 18000, 4000, 7520, 13068]]
theorem vC19 : zV (zOf sC19) 0 4 1 (fun i => zNt sC19 5 i) (fun k => zNt sC19 (11 + k) 0) := zVb_of (by decide +kernel)
theorem qC55 {l : Launch} {g : zG} (hn : zn g = 21) : zC l g yX3_exclude cX3_exclude 4 (some .int) ({ frames := 7, cells := 2, slots := 12, locals := 117 } : Room) 2 12 [.ref (za g 0), .int 1, .int 1] (zOf sC18) (zRv (some (.int 0)) (zOf sC19)) zNX :=
  (d_exclude vC18 (i := 1) (by decide) (by decide) (by decide)).rei hn 0 (by decide +kernel) (zEq_of (by decide +kernel))
def sC20 : List (List Int) := [[2, 2, 0, 50, 0, 50, 4, 0, 0, 0, 0, 0, 1], [22, 18, 36, 50], [2, 0, 4, 50], [11000, 9000, 18000, 25000], [1, 1, 1, 9], [], [], [3, 18000, 1, 1, 1, 2, 3, 0, 3, 1, 1, 1, 1, 2, 1, 6], [0, 0, 3], [2, 1], [18000, 9000, 11000, 11000], [0, 0, 0, 0, 0, 18000, 4000, 7520, 13068]]
theorem vC20 : zV (zOf sC20) 0 4 1 (fun i => zNt sC20 5 i) (fun k => zNt sC20 (11 + k) 0) := zVb_of (by decide +kernel)
theorem qC56 {l : Launch} {g : zG} (hn : zn g = 21) : zC l g yX3_exclude cX3_exclude 4 (some .int) ({ frames := 7, cells := 2, slots := 12, locals := 117 } : Room) 2 12 [.ref (za g 0), .int 2, .int 1] (zOf sC19) (zRv (some (.int 0)) (zOf sC20)) zNX :=
  (d_exclude vC19 (i := 2) (by decide) (by decide) (by decide)).rei hn 0 (by decide +kernel) (zEq_of (by decide +kernel))
theorem qC57 {l : Launch} {g : zG} (hn : zn g = 21) : zC l g yX3_exclude cX3_exclude 4 (some .int) ({ frames := 7, cells := 2, slots := 12, locals := 117 } : Room) 2 12 [.ref (za g 0), .int 2, .int 0] (zOf sC20) (zRv (some (.int 1)) (zOf sC19)) zNX :=
  (d_exclude vC20 (i := 2) (by decide) (by decide) (by decide)).rei hn 1 (by decide +kernel) (zEq_of (by decide +kernel))
theorem qC58 {l : Launch} {g : zG} (hn : zn g = 21) : zC l g yL_limits cL_limits 4 (some .boolean) ({ frames := 9, cells := 6, slots := 36, locals := 146 } : Room) 6 36 [.ref (za g 0), .int 18000, .int 7520, .int 13068] (zOf sC19) (zRv (some (.int 1)) (zOf sC19)) zNX :=
  c_L_limits ((d_center vC19 (k := 0) (by decide) (by unfold zLm; decide +kernel)).rei hn 18000 (by decide +kernel) (zEq.rf _)) ((d_width vC19 (k := 0) (by decide) (by unfold zLm; decide +kernel)).rei hn 7520 (by decide +kernel) (zEq.rf _)) ((d_rangeLimit vC19 (k := 0) (by decide) (by unfold zLm; decide +kernel)).rei hn 13068 (by decide +kernel) (zEq.rf _))
theorem qC59 {l : Launch} {g : zG} (hn : zn g = 21) : zC l g yX3_phaseOf cX3_phaseOf 2 (some .int) ({ frames := 7, cells := 1, slots := 6, locals := 103 } : Room) 1 6 [.ref (za g 0), .int 3] (zOf sC19) (zRv (some (.int 0)) (zOf sC19)) zNX :=
  (d_phaseOf vC19 (i := 3) (by decide)).rei hn 0 (by decide +kernel) (zEq.rf _)
def sC21 : List (List Int) := [[2, 2, 0, 50, 0, 50, 4, 0, 0, 0, 0, 0, 1], [22, 18, 36, 50], [2, 0, 4, 50], [11000, 9000, 18000, 25000], [1, 1, 0, 9], [], [], [1, 18000, 0, 0, 0, 1, 1, 1], [0, 0, 3], [2, 1], [18000, 9000, 11000, 11000], [0, 1, 36, 4, 0, 18000, 4000, 7520, 13068]]
theorem vC21 : zV (zOf sC21) 0 4 1 (fun i => zNt sC21 5 i) (fun k => zNt sC21 (11 + k) 0) := zVb_of (by decide +kernel)
theorem qC60 {l : Launch} {g : zG} (hn : zn g = 21) : zC l g yL_refuses cL_refuses 17 (some .boolean) ({ frames := 10, cells := 192, slots := 1152, locals := 184 } : Room) 192 1152 [.ref (za g 0)] (zOf sC19) (zRv (some (.int 1)) (zOf sC21)) zNX :=
  (c_L_refuses vC19).rei hn 1 rfl (zEq_of (by decide +kernel))
