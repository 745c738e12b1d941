def zEx : List String := ["java/lang/RuntimeException", "java/lang/Exception"]
theorem zlt {x : zX} {g : zG} {nL : Nat} {cc : ByteArray} {own : String} (S : zS x g nL cc own) {p : Nat} (h : p < 21) : p < zn g := Nat.lt_of_lt_of_le h S.ok.2.2
/-- a contract's end that throws nothing; one that is known -/
def zNX : String → zM → Prop := fun _ _ => False
def zRv (u : Option Value) (ν0 : zM) : Option Value → zM → Prop := fun v ν => v = u ∧ ν = ν0
def zXv (E : String) (ν0 : zM) : String → zM → Prop := fun F ν => F = E ∧ ν = ν0
theorem at0_IAE : ∀ w ∈ (vx_atS RX3 54 "java/lang/IllegalArgumentException" zEx).filter goodWord, w ∈ lw_tbl := by decide +kernel
theorem at_IAE : ∀ w ∈ (vx_atS RX3 54 "java/lang/IllegalArgumentException" zEx).filter goodWord, w ∈ zU := fun w hw => List.mem_filter.mpr ⟨at0_IAE w hw, (List.mem_filter.mp hw).2⟩
theorem ng_IAE : ∀ w ∈ (vx_atS RX3 54 "java/lang/IllegalArgumentException" zEx).filter (fun w => !goodWord w), w ∈ zNest := by decide +kernel
theorem go_IAE : ∀ w ∈ Cond.classLink RX3 50 "java/lang/IllegalArgumentException" :: Cond.initialized "java/lang/IllegalArgumentException" :: vx_atS RX3 54 "java/lang/IllegalArgumentException" zEx, vx_ot w = true := by decide +kernel
theorem at0_ISE : ∀ w ∈ (vx_atS RX3 71 "java/lang/IllegalStateException" zEx).filter goodWord, w ∈ lw_tbl := by decide +kernel
theorem at_ISE : ∀ w ∈ (vx_atS RX3 71 "java/lang/IllegalStateException" zEx).filter goodWord, w ∈ zU := fun w hw => List.mem_filter.mpr ⟨at0_ISE w hw, (List.mem_filter.mp hw).2⟩
theorem ng_ISE : ∀ w ∈ (vx_atS RX3 71 "java/lang/IllegalStateException" zEx).filter (fun w => !goodWord w), w ∈ zNest := by decide +kernel
theorem go_ISE : ∀ w ∈ Cond.classLink RX3 67 "java/lang/IllegalStateException" :: Cond.initialized "java/lang/IllegalStateException" :: vx_atS RX3 71 "java/lang/IllegalStateException" zEx, vx_ot w = true := by decide +kernel
theorem at0_IOB : ∀ w ∈ (vx_atS RX3 169 "java/lang/IndexOutOfBoundsException" zEx).filter goodWord, w ∈ lw_tbl := by decide +kernel
theorem at_IOB : ∀ w ∈ (vx_atS RX3 169 "java/lang/IndexOutOfBoundsException" zEx).filter goodWord, w ∈ zU := fun w hw => List.mem_filter.mpr ⟨at0_IOB w hw, (List.mem_filter.mp hw).2⟩
theorem ng_IOB : ∀ w ∈ (vx_atS RX3 169 "java/lang/IndexOutOfBoundsException" zEx).filter (fun w => !goodWord w), w ∈ zNest := by decide +kernel
theorem go_IOB : ∀ w ∈ Cond.classLink RX3 165 "java/lang/IndexOutOfBoundsException" :: Cond.initialized "java/lang/IndexOutOfBoundsException" :: vx_atS RX3 169 "java/lang/IndexOutOfBoundsException" zEx, vx_ot w = true := by decide +kernel
theorem mv_X0_restart : zMV yX0_restart RX0 cX0_restart 2 none 1 := ⟨m_142, m_143, m_2, m_144, by decide +kernel⟩
theorem mv_X0_hasLimits : zMV yX0_hasLimits RX0 cX0_hasLimits 1 (some .boolean) 0 := ⟨m_506, m_507, m_2, m_508, by decide +kernel⟩
theorem mv_X0_settle : zMV yX0_settle RX0 cX0_settle 4 none 1 := ⟨m_319, m_320, m_2, m_321, by decide +kernel⟩
theorem mv_X0_sideOfCenter : zMV yX0_sideOfCenter RX0 cX0_sideOfCenter 2 (some .int) 1 := ⟨m_368, m_369, m_2, m_370, by decide +kernel⟩
theorem mv_X0_sideBeyond : zMV yX0_sideBeyond RX0 cX0_sideBeyond 3 (some .int) 2 := ⟨m_388, m_389, m_2, m_390, by decide +kernel⟩
theorem mv_X1_restart : zMV yX1_restart RX1 cX1_restart 1 none 0 := ⟨m_356, m_357, m_3, m_358, by decide +kernel⟩
theorem mv_X1_take : zMV yX1_take RX1 cX1_take 3 none 2 := ⟨m_364, m_365, m_3, m_366, by decide +kernel⟩
theorem mv_X1_takeCenterSide : zMV yX1_takeCenterSide RX1 cX1_takeCenterSide 2 none 1 := ⟨m_376, mp_7, m_3, m_377, by decide +kernel⟩
theorem mv_X1_takeDirection : zMV yX1_takeDirection RX1 cX1_takeDirection 2 none 1 := ⟨m_381, mp_8, m_3, m_382, by decide +kernel⟩
theorem mv_X1_takeSidesBeyond : zMV yX1_takeSidesBeyond RX1 cX1_takeSidesBeyond 3 none 2 := ⟨m_385, mp_9, m_3, m_386, by decide +kernel⟩
theorem mv_X1_pushed : zMS yX1_pushed cX1_pushed 3 (some .int) 3 := ⟨m_392, m_3, m_393, by decide +kernel⟩
theorem mv_X1_brokenRules : zMV yX1_brokenRules RX1 cX1_brokenRules 1 (some .int) 0 := ⟨m_395, m_396, m_3, m_397, by decide +kernel⟩
theorem mv_X1_bitOf : zMS yX1_bitOf cX1_bitOf 2 (some .int) 2 := ⟨m_399, m_3, m_400, by decide +kernel⟩
theorem mv_X1_isOften : zMS yX1_isOften cX1_isOften 4 (some .boolean) 4 := ⟨m_407, m_3, m_408, by decide +kernel⟩
theorem mv_X2_restart : zMV yX2_restart RX2 cX2_restart 1 none 0 := ⟨m_531, m_532, m_4, m_533, by decide +kernel⟩
theorem mv_X2_isFull : zMV yX2_isFull RX2 cX2_isFull 1 (some .boolean) 0 := ⟨m_535, m_536, m_4, m_537, by decide +kernel⟩
theorem mv_X2_add : zMV yX2_add RX2 cX2_add 3 none 2 := ⟨m_539, m_540, m_4, m_541, by decide +kernel⟩
theorem mv_X2_subgroupAt : zMV yX2_subgroupAt RX2 cX2_subgroupAt 2 (some .int) 1 := ⟨m_578, m_579, m_4, m_580, by decide +kernel⟩
theorem mv_X2_breaks : zMV yX2_breaks RX2 cX2_breaks 4 (some .boolean) 2 := ⟨m_544, m_545, m_4, m_546, by decide +kernel⟩
theorem mv_X2_isOnOneSide : zMV yX2_isOnOneSide RX2 cX2_isOnOneSide 5 (some .boolean) 2 := ⟨m_551, mp_15, m_4, m_552, by decide +kernel⟩
theorem mv_X2_isSteady : zMV yX2_isSteady RX2 cX2_isSteady 4 (some .boolean) 1 := ⟨m_556, mp_16, m_4, m_557, by decide +kernel⟩
theorem mv_X2_isTurning : zMV yX2_isTurning RX2 cX2_isTurning 4 (some .boolean) 1 := ⟨m_561, mp_17, m_4, m_562, by decide +kernel⟩
theorem mv_X2_isOften : zMV yX2_isOften RX2 cX2_isOften 8 (some .boolean) 4 := ⟨m_565, mp_18, m_4, m_566, by decide +kernel⟩
theorem mv_X2_beyondSome : zMV yX2_beyondSome RX2 cX2_beyondSome 5 (some .int) 2 := ⟨m_569, mp_19, m_4, m_570, by decide +kernel⟩
theorem mv_X3_begin : zMV yX3_begin RX3 cX3_begin 2 none 1 := ⟨m_340, m_341, m_1, m_342, by decide +kernel⟩
theorem mv_X3_put : zMV yX3_put RX3 cX3_put 2 (some .boolean) 1 := ⟨m_195, m_196, m_1, m_197, by decide +kernel⟩
theorem mv_X3_newPhase : zMV yX3_newPhase RX3 cX3_newPhase 1 (some .int) 0 := ⟨m_461, m_462, m_1, m_463, by decide +kernel⟩
theorem mv_X3_freeze : zMV yX3_freeze RX3 cX3_freeze 3 none 1 := ⟨m_424, m_425, m_1, m_426, by decide +kernel⟩
theorem mv_X3_thaw : zMV yX3_thaw RX3 cX3_thaw 3 none 1 := ⟨m_453, m_454, m_1, m_455, by decide +kernel⟩
theorem mv_X3_exclude : zMV yX3_exclude RX3 cX3_exclude 4 (some .int) 2 := ⟨m_472, m_473, m_1, m_474, by decide +kernel⟩
theorem mv_X3_subgroups : zMV yX3_subgroups RX3 cX3_subgroups 1 (some .int) 0 := ⟨m_332, m_333, m_1, m_334, by decide +kernel⟩
theorem mv_X3_phases : zMV yX3_phases RX3 cX3_phases 1 (some .int) 0 := ⟨m_348, m_349, m_1, m_350, by decide +kernel⟩
theorem mv_X3_mean : zMV yX3_mean RX3 cX3_mean 2 (some .int) 1 := ⟨m_482, m_483, m_1, m_484, by decide +kernel⟩
theorem mv_X3_range : zMV yX3_range RX3 cX3_range 2 (some .int) 1 := ⟨m_486, m_487, m_1, m_488, by decide +kernel⟩
theorem mv_X3_phaseOf : zMV yX3_phaseOf RX3 cX3_phaseOf 2 (some .int) 1 := ⟨m_490, m_491, m_1, m_492, by decide +kernel⟩
theorem mv_X3_points : zMV yX3_points RX3 cX3_points 2 (some .int) 1 := ⟨m_494, m_495, m_1, m_496, by decide +kernel⟩
theorem mv_X3_center : zMV yX3_center RX3 cX3_center 2 (some .int) 1 := ⟨m_498, m_499, m_1, m_500, by decide +kernel⟩
theorem mv_X3_width : zMV yX3_width RX3 cX3_width 2 (some .int) 1 := ⟨m_511, m_512, m_1, m_513, by decide +kernel⟩
theorem mv_X3_rangeLimit : zMV yX3_rangeLimit RX3 cX3_rangeLimit 2 (some .int) 1 := ⟨m_515, m_516, m_1, m_517, by decide +kernel⟩
theorem mv_X3_signals : zMV yX3_signals RX3 cX3_signals 4 (some .int) 1 := ⟨m_519, m_520, m_1, m_521, by decide +kernel⟩
theorem mv_X3_signalsByWindows : zMV yX3_signalsByWindows RX3 cX3_signalsByWindows 5 (some .int) 1 := ⟨m_523, m_524, m_1, m_525, by decide +kernel⟩
theorem mv_X3_firstOf : zMV yX3_firstOf RX3 cX3_firstOf 4 (some .int) 2 := ⟨m_572, m_573, m_1, m_574, by decide +kernel⟩
theorem mv_X3_isWide : zMV yX3_isWide RX3 cX3_isWide 2 (some .boolean) 1 := ⟨m_582, m_583, m_1, m_584, by decide +kernel⟩
theorem mv_X3_alarms : zMV yX3_alarms RX3 cX3_alarms 4 (some .int) 0 := ⟨m_352, m_353, m_1, m_354, by decide +kernel⟩
theorem mv_X3_setWeight : zMV yX3_setWeight RX3 cX3_setWeight 3 (some .int) 1 := ⟨m_586, m_587, m_1, m_588, by decide +kernel⟩
theorem mv_X3_weighted : zMV yX3_weighted RX3 cX3_weighted 5 (some .int) 1 := ⟨m_591, m_592, m_1, m_593, by decide +kernel⟩
theorem mv_X3_cumulative : zMV yX3_cumulative RX3 cX3_cumulative 8 (some .int) 2 := ⟨m_603, m_604, m_1, m_605, by decide +kernel⟩
theorem mv_X3_capability : zMV yX3_capability RX3 cX3_capability 12 (some .long) 4 := ⟨m_607, m_608, m_1, m_609, by decide +kernel⟩
theorem mv_X3_restart : zMV yX3_restart RX3 cX3_restart 2 none 1 := ⟨m_139, mp_0, m_1, m_140, by decide +kernel⟩
theorem mv_X3_takeMeasurement : zMV yX3_takeMeasurement RX3 cX3_takeMeasurement 3 none 1 := ⟨m_287, mp_2, m_1, m_288, by decide +kernel⟩
theorem mv_X3_finishSubgroup : zMV yX3_finishSubgroup RX3 cX3_finishSubgroup 2 none 0 := ⟨m_297, mp_3, m_1, m_298, by decide +kernel⟩
theorem mv_X3_countPoint : zMV yX3_countPoint RX3 cX3_countPoint 4 none 2 := ⟨m_312, mp_4, m_1, m_313, by decide +kernel⟩
theorem mv_X3_lookBack : zMV yX3_lookBack RX3 cX3_lookBack 4 none 2 := ⟨m_528, mp_14, m_1, m_529, by decide +kernel⟩
theorem mv_X3_checkSubgroup : zMV yX3_checkSubgroup RX3 cX3_checkSubgroup 2 none 1 := ⟨m_477, mp_12, m_1, m_478, by decide +kernel⟩
theorem mv_X3_checkPoint : zMV yX3_checkPoint RX3 cX3_checkPoint 2 none 1 := ⟨m_596, mp_20, m_1, m_597, by decide +kernel⟩
theorem mv_X3_isPoint : zMV yX3_isPoint RX3 cX3_isPoint 2 (some .boolean) 1 := ⟨m_361, mp_6, m_1, m_362, by decide +kernel⟩
theorem mv_X3_findPhase : zMV yX3_findPhase RX3 cX3_findPhase 2 (some (.object "ChartroomSpc$Phase")) 1 := ⟨m_429, mp_10, m_1, m_430, by decide +kernel⟩
theorem mv_X3_findLimits : zMV yX3_findLimits RX3 cX3_findLimits 3 (some (.object "ChartroomSpc$Phase")) 1 := ⟨m_503, mp_13, m_1, m_504, by decide +kernel⟩
theorem mv_X3_phaseHolding : zMV yX3_phaseHolding RX3 cX3_phaseHolding 3 (some (.object "ChartroomSpc$Phase")) 1 := ⟨m_316, mp_5, m_1, m_317, by decide +kernel⟩
theorem mv_X3_lastPhase : zMV yX3_lastPhase RX3 cX3_lastPhase 1 (some (.object "ChartroomSpc$Phase")) 0 := ⟨m_468, mp_11, m_1, m_469, by decide +kernel⟩
theorem mv_X3_isMeasurement : zMS yX3_isMeasurement cX3_isMeasurement 1 (some .boolean) 1 := ⟨m_199, m_1, m_200, by decide +kernel⟩
theorem mv_X3_bySize : zMS yX3_bySize cX3_bySize 3 (some .int) 2 := ⟨m_327, m_1, m_328, by decide +kernel⟩
theorem mv_X3_pointsOfRule : zMS yX3_pointsOfRule cX3_pointsOfRule 1 (some .int) 1 := ⟨m_402, m_1, m_403, by decide +kernel⟩
theorem mv_X3_floored : zMS yX3_floored cX3_floored 4 (some .long) 2 := ⟨m_305, m_1, m_306, by decide +kernel⟩
theorem mv_X3_rounded : zMS yX3_rounded cX3_rounded 4 (some .long) 2 := ⟨m_301, m_1, m_302, by decide +kernel⟩
theorem mv_X3_direction : zMS yX3_direction cX3_direction 2 (some .int) 2 := ⟨m_372, m_1, m_373, by decide +kernel⟩
theorem mv_J6_bitCount_0f7a4 : zMS yJ6_bitCount_0f7a4 cJ6_bitCount_0f7a4 1 (some .int) 1 := ⟨m_410, m_9, m_411, by decide +kernel⟩
theorem mv_J9_floorDiv_7cf53 : zMS yJ9_floorDiv_7cf53 cJ9_floorDiv_7cf53 3 (some .int) 2 := ⟨m_600, m_12, m_601, by decide +kernel⟩
theorem mv_J9_floorDiv_f86c9 : zMS yJ9_floorDiv_f86c9 cJ9_floorDiv_f86c9 6 (some .long) 2 := ⟨m_308, m_12, m_309, by decide +kernel⟩
theorem mv_J9_max_7cf53 : zMS yJ9_max_7cf53 cJ9_max_7cf53 2 (some .int) 2 := ⟨m_293, m_12, m_294, by decide +kernel⟩
theorem mv_J9_min_7cf53 : zMS yJ9_min_7cf53 cJ9_min_7cf53 2 (some .int) 2 := ⟨m_290, m_12, m_291, by decide +kernel⟩
theorem mv_J9_min_f86c9 : zMS yJ9_min_f86c9 cJ9_min_f86c9 4 (some .long) 2 := ⟨m_617, m_12, m_618, by decide +kernel⟩
